/-! .. and what the other calls keep -/
theorem upd_id {f : Nat → Int32} {k : Nat} {x : Int32} (h : f k = x) : upd f k x = f := by
  funext j
  by_cases e : j = k
  · subst e; rw [upd_eq, h]
  · rw [upd_ne e]
theorem nfI_eq {z : Nat → Int32} {x k p m t : Int32} (h : ZR z) (h8 : nf z < 8) : nfI z x k p m t = afC z x k p m t := by
  rw [nfI, nfB_lo (by omega), nfB, nfA, fu_4, afC, fu_4, afB, fu_s, fu_s, fu_s, fu_0, afA]
  unfold afT afG
  have z5 := h (nf z) (Nat.le_refl _) h8 5 (by omega) (by omega)
  have z6 := h (nf z) (Nat.le_refl _) h8 6 (by omega) (by omega)
  have z7 := h (nf z) (Nat.le_refl _) h8 7 (by omega) (by omega)
  rw [upd_id (k := 12 + 8 * nf z + 5) (by rw [upd_ne (by omega), upd_ne (by omega), upd_ne (by omega), upd_ne (by omega), upd_ne (by omega), upd_ne (by omega), z5])]
  rw [upd_id (k := 12 + 8 * nf z + (5 + 1)) (by rw [upd_ne (by omega), upd_ne (by omega), upd_ne (by omega), upd_ne (by omega), upd_ne (by omega), upd_ne (by omega), z6])]
  rw [upd_id (k := 12 + 8 * nf z + (5 + 1 + 1)) (by rw [upd_ne (by omega), upd_ne (by omega), upd_ne (by omega), upd_ne (by omega), upd_ne (by omega), upd_ne (by omega), z7])]
  rw [upd_comm (i := 216 + 8 * 3 + nf z) (j := 5) (by omega), upd_comm (i := 216 + 8 * 2 + nf z) (j := 5) (by omega), upd_comm (i := 216 + 8 * 1 + nf z) (j := 5) (by omega), upd_comm (i := 216 + 8 * 0 + nf z) (j := 5) (by omega)]
  rw [upd_comm (i := 12 + 8 * nf z + 4) (j := 5) (by omega), upd_comm (i := 12 + 8 * nf z + 3) (j := 5) (by omega), upd_comm (i := 12 + 8 * nf z + 2) (j := 5) (by omega), upd_comm (i := 12 + 8 * nf z + 1) (j := 5) (by omega), upd_comm (i := 12 + 8 * nf z + 0) (j := 5) (by omega)]
theorem wi_IN {v lo hi : Int32} (h : wi v lo hi = true) : lo.toInt ≤ v.toInt ∧ v.toInt ≤ hi.toInt := by
  unfold wi at h
  rw [Bool.and_eq_true] at h
  have h1 : ¬ v < lo := by intro q; rw [decide_eq_true q] at h; exact absurd h.1 (by decide)
  have h2 : ¬ hi < v := by intro q; rw [decide_eq_true q] at h; exact absurd h.2 (by decide)
  exact ⟨le_t.mp (Int32.not_lt.mp h1), le_t.mp (Int32.not_lt.mp h2)⟩
theorem IV.cg {K : Nat} {x y : Nat → Int32} (h : IV K x) (e : ∀ j, j < 248 → y j = x j) : IV K y := by
  obtain ⟨⟨a, b, c, d, p⟩, r, q⟩ := h
  refine ⟨⟨a.lo (fun k hk => e k (by omega)), ⟨fun f hf => by rw [e _ (by omega)]; exact b.1 f hf, fun p hp => by rw [e _ (by omega)]; exact b.2.1 p hp, by rw [e _ (by omega)]; exact b.2.2.1, by rw [e _ (by omega)]; exact b.2.2.2.1, ⟨fun j hj => by rw [e _ (by omega)]; exact b.2.2.2.2.1 j hj, by rw [e _ (by omega)]; exact b.2.2.2.2.2.1, by rw [e _ (by omega)]; exact b.2.2.2.2.2.2⟩⟩, c.of (fun j hj => e _ (by omega)), by rw [e _ (by omega)]; exact d, p.of (fun j h1 h2 => e _ (by omega))⟩, r.of (nf_eq (e 5 (by omega))) (fun f h1 h2 k h3 h4 => e _ (by omega)), q.of (fun n hn => ⟨e _ (by omega), e _ (by omega)⟩)⟩
theorem SW_cg {g : GT} {b : Nat → Nat} {x y : Nat → Int32} (e : ∀ j, j < 248 → y j = x j) : SW g b y = SW g b x := by
  have s : ∀ o n, o + n ≤ 248 → sg y o n = sg x o n := fun o n h => by
    funext k; unfold sg
    by_cases q : k < n
    · rw [if_pos q, if_pos q, e _ (by omega)]
    · rw [if_neg q, if_neg q]
  unfold SW
  rw [e 5 (by omega), e 6 (by omega), e 7 (by omega), e 8 (by omega), e 9 (by omega), e 10 (by omega), e 11 (by omega), s 0 5 (by omega), s 12 64 (by omega), s 76 120 (by omega), s 196 20 (by omega), s 216 32 (by omega)]
theorem IV.up {K : Nat} {z : Nat → Int32} (h : IV K z) {i : Nat} {v : Int32} (h1 : 10 ≤ i) (h2 : i < 216) (hf : ∀ f, f < 8 → i ≠ 12 + 8 * f + 0 ∧ i ≠ 12 + 8 * f + 1 ∧ i ≠ 12 + 8 * f + 5 ∧ i ≠ 12 + 8 * f + 6 ∧ i ≠ 12 + 8 * f + 7) (hp : i < 76 ∨ 196 ≤ i) (hn : ∀ n, n < 4 → i ≠ 196 + 5 * n + 1 ∧ i ≠ 196 + 5 * n + 2) : IV K (upd z i v) :=
  ⟨h.1.up h1 h2 (fun f q => ⟨(hf f q).1, (hf f q).2.1⟩) hp, h.2.1.of (nf_eq (upd_ne (by omega))) (fun f g1 g2 k g3 g4 => upd_ne (by have := hf f g2; omega)), h.2.2.of (fun n q => ⟨upd_ne (by have := hn n q; omega), upd_ne (by have := hn n q; omega)⟩)⟩
theorem IV.u7 {K : Nat} {z : Nat → Int32} (h : IV K z) {v : Int32} : IV K (upd z 7 v) :=
  ⟨h.1.u7, h.2.1.of (nf_eq (upd_ne (by omega))) (fun f g1 g2 k g3 g4 => upd_ne (by omega)), h.2.2.of (fun n q => ⟨upd_ne (by omega), upd_ne (by omega)⟩)⟩
theorem IV.tm {K : Nat} {z : Nat → Int32} (h : IV K z) {n f : Nat} {d : Int32} : IV K (tM z n f d) :=
  ⟨h.1.tm, h.2.1.of (nf_eq (tM_lo (by omega))) (fun f g1 g2 k g3 g4 => tM_lo (by omega)), h.2.2.of (fun n q => ⟨tM_lo (by omega), tM_lo (by omega)⟩)⟩
theorem IV.em {K : Nat} {z : Nat → Int32} (h : IV K z) {p : Nat} (hp : p < 24) : IV K (emz z p) := by
  have key : ∀ j, j ≠ 76 + 5 * p + 2 → j ≠ 76 + 5 * p + 3 → j ≠ 76 + 5 * p + 4 → emz z p j = z j := fun j h2 h3 h4 => by rw [emz, upd_ne h4, upd_ne h3, upd_ne h2]
  exact ⟨h.1.em hp, h.2.1.of (nf_eq (key _ (by omega) (by omega) (by omega))) (fun f g1 g2 k g3 g4 => key _ (by omega) (by omega) (by omega)), h.2.2.of (fun n q => ⟨key _ (by omega) (by omega) (by omega), key _ (by omega) (by omega) (by omega)⟩)⟩
theorem IV.cl {K : Nat} {z : Nat → Int32} (h : IV K z) : IV K (clZ z) := by
  unfold clZ
  exact fu_ind (fun _ (y : Nat → Int32) => IV K y) _ 0 _ (fun j y _ hj hy => hy.em (by have := h.1.np; omega)) h
theorem IV.inZ {K : Nat} {z : Nat → Int32} (h : IV K z) : IV K (inZ z) := by
  have h1 : IV K (inL z).1 := by
    unfold inL
    refine fu_ind (fun _ (s : (Nat → Int32) × Int32) => IV K s.1) _ 0 _ (fun j y _ hj hy => ?_) h
    unfold inF
    split
    · exact hy.tm.em (by have := h.1.np; omega)
    · exact hy
  unfold _root_.Jvm.Pilot.CGossipHeadLaw_law_r8652_253339.inZ
  exact h1.u7.up (by omega) (by omega) (fun _ _ => by omega) (by omega) (fun _ _ => by omega)
theorem IX.ux {z : Nat → Int32} (h : IX z) {i : Nat} {x : Int32} (hx : IN x 0 99) (hi : 12 ≤ i) (h2 : i < 196) : IX (upd z i x) := by
  obtain ⟨a, b, c, d, e⟩ := h
  refine ⟨fun f q => ?_, fun p q => ?_, by rw [upd_ne (by omega)]; exact c, by rw [upd_ne (by omega)]; exact d, e.of (fun j hj => upd_ne (by omega))⟩
  · by_cases w : 12 + 8 * f + 0 = i
    · rw [w, upd_eq]; exact hx
    · rw [upd_ne w]; exact a f q
  · by_cases w : 76 + 5 * p + 0 = i
    · rw [w, upd_eq]; exact hx
    · rw [upd_ne w]; exact b p q
theorem IX.ut {z : Nat → Int32} (h : IX z) {i : Nat} {x : Int32} (hx : IN x 0 100) (hi : 216 ≤ i) : IX (upd z i x) := by
  obtain ⟨a, b, c, d, e⟩ := h
  refine ⟨fun f q => by rw [upd_ne (by omega)]; exact a f q, fun p q => by rw [upd_ne (by omega)]; exact b p q, by rw [upd_ne (by omega)]; exact c, by rw [upd_ne (by omega)]; exact d, ⟨fun j hj => ?_, by rw [upd_ne (by omega)]; exact e.2.1, by rw [upd_ne (by omega)]; exact e.2.2⟩⟩
  by_cases w : 216 + j = i
  · rw [w, upd_eq]; exact hx
  · rw [upd_ne w]; exact e.1 j hj
theorem KD.uk {z : Nat → Int32} (h : KD z) {i q : Nat} (hq : q < 6) : KD (upd z i (nI q)) :=
  ⟨fun f hf => by
    by_cases w : 12 + 8 * f + 1 = i
    · rw [w, upd_eq]; exact ⟨q, hq, rfl⟩
    · rw [upd_ne w]; exact h.1 f hf, fun p hp => by
    by_cases w : 76 + 5 * p + 1 = i
    · rw [w, upd_eq]; exact ⟨q, hq, rfl⟩
    · rw [upd_ne w]; exact h.2 p hp⟩
theorem IV.af {K : Nat} {z : Nat → Int32} {x k p m t : Int32} (h : IV K z) (h8 : nf z < 8) (hx : IN x 0 99) (hk : ∃ j, j < 6 ∧ k = nI j) : IV K (nfI z x k p m t) := by
  obtain ⟨⟨a, b, c, d, e⟩, r, q⟩ := h
  obtain ⟨j, hj, rfl⟩ := hk
  have hC : CN z := ⟨a.1, a.2.1, a.2.2.1, a.2.2.2.1⟩
  obtain ⟨hC2, hnf⟩ := hC.nfI (x := x) (k := nI j) (p := p) (m := m) (t := t) h8
  have e0 : nfI z x (nI j) p m t 0 = z 0 := nfI_lo (by omega) (by omega)
  have at_ : ∀ i, i ≠ 5 → (i < 12 + 8 * nf z ∨ 12 + 8 * nf z + 4 < i) → i < 216 → nfI z x (nI j) p m t i = z i := by
    intro i h5 hi h2
    rw [nfI, upd_ne h5, nfB, fu_4]
    unfold afT nfA
    rw [upd_ne (by omega), upd_ne (by omega), upd_ne (by omega), upd_ne (by omega), upd_ne (by omega), upd_ne (by omega), upd_ne (by omega), upd_ne (by omega), upd_ne (by omega)]
  refine ⟨⟨⟨hC2.1, hC2.2.1, hC2.2.2.1, hC2.2.2.2, by rw [e0]; exact a.2.2.2.2.1, by rw [e0]; exact a.2.2.2.2.2⟩, ?_, ?_, by rw [at_ 4 (by omega) (by omega) (by omega)]; exact d, e.of (fun i h1 h2 => at_ i (by omega) (by omega) (by omega))⟩, ?_, q.of (fun n hn => ⟨at_ _ (by omega) (by omega) (by omega), at_ _ (by omega) (by omega) (by omega)⟩)⟩
  · rw [nfI, nfB, fu_4]
    unfold afT
    have h50 : IN (50 : Int32) 0 100 := ⟨by decide, by decide⟩
    have hA : IX (nfA z x (nI j) p m t) := by
      unfold nfA
      exact ((((b.ux hx (by omega) (by omega)).up (by omega) (by omega) (by omega) (by omega) (fun _ _ => by omega) (fun _ _ => by omega) (by omega)).up (by omega) (by omega) (by omega) (by omega) (fun _ _ => by omega) (fun _ _ => by omega) (by omega)).up (by omega) (by omega) (by omega) (by omega) (fun _ _ => by omega) (fun _ _ => by omega) (by omega)).up (by omega) (by omega) (by omega) (by omega) (fun _ _ => by omega) (fun _ _ => by omega) (by omega)
    exact ((((hA.ut h50 (by omega)).ut h50 (by omega)).ut h50 (by omega)).ut h50 (by omega)).up (by omega) (by omega) (by omega) (by omega) (fun _ _ => by omega) (fun _ _ => by omega) (by omega)
  · rw [nfI, nfB, fu_4]
    unfold afT
    have hA : KD (nfA z x (nI j) p m t) := by
      unfold nfA
      exact ((((c.of (fun i hi => upd_ne (by omega))).uk (i := 12 + 8 * nf z + 1) hj).of (fun i hi => upd_ne (by omega))).of (fun i hi => upd_ne (by omega))).of (fun i hi => upd_ne (by omega))
    exact ((((hA.of (fun i hi => upd_ne (by omega))).of (fun i hi => upd_ne (by omega))).of (fun i hi => upd_ne (by omega))).of (fun i hi => upd_ne (by omega))).of (fun i hi => upd_ne (by omega))
  · intro f h1 h2 w h3 h4
    rw [hnf] at h1
    rw [at_ _ (by omega) (by omega) (by omega)]
    exact r f (by omega) h2 w h3 h4
theorem IV.ap {K : Nat} {z : Nat → Int32} {x k : Int32} (h : IV K z) (h24 : np z < 24) (hx : IN x 0 99) (hk : ∃ j, j < 6 ∧ k = nI j) : IV K (apA z x k) := by
  obtain ⟨⟨a, b, c, d, e⟩, r, q⟩ := h
  obtain ⟨j, hj, rfl⟩ := hk
  have hC : CN z := ⟨a.1, a.2.1, a.2.2.1, a.2.2.2.1⟩
  obtain ⟨hC2, hnp⟩ := hC.ap (x := x) (k := nI j) h24
  have at_ : ∀ i, i ≠ 6 → (i < 76 + 5 * np z ∨ 76 + 5 * np z + 4 < i) → apA z x (nI j) i = z i := by
    intro i h5 hi
    rw [apA, upd_ne (by omega), upd_ne (by omega), upd_ne (by omega), upd_ne (by omega), upd_ne (by omega), upd_ne h5]
  have e0 : apA z x (nI j) 0 = z 0 := at_ 0 (by omega) (by omega)
  refine ⟨⟨⟨hC2.1, hC2.2.1, hC2.2.2.1, hC2.2.2.2, by rw [e0]; exact a.2.2.2.2.1, by rw [e0]; exact a.2.2.2.2.2⟩, ?_, ?_, by rw [at_ 4 (by omega) (by omega)]; exact d, ?_⟩, r.of (nf_eq (at_ 5 (by omega) (by omega))) (fun f g1 g2 w g3 g4 => at_ _ (by omega) (by omega)), q.of (fun n hn => ⟨at_ _ (by omega) (by omega), at_ _ (by omega) (by omega)⟩)⟩
  · unfold apA
    exact (((((b.up (by omega) (by omega) (by omega) (by omega) (fun _ _ => by omega) (fun _ _ => by omega) (by omega)).ux hx (by omega) (by omega)).up (by omega) (by omega) (by omega) (by omega) (fun _ _ => by omega) (fun _ _ => by omega) (by omega)).up (by omega) (by omega) (by omega) (by omega) (fun _ _ => by omega) (fun _ _ => by omega) (by omega)).up (by omega) (by omega) (by omega) (by omega) (fun _ _ => by omega) (fun _ _ => by omega) (by omega)).up (by omega) (by omega) (by omega) (by omega) (fun _ _ => by omega) (fun _ _ => by omega) (by omega)
  · unfold apA
    exact (((((c.of (fun i hi => upd_ne (by omega))).of (fun i hi => upd_ne (by omega))).uk (i := 76 + 5 * np z + 1) hj).of (fun i hi => upd_ne (by omega))).of (fun i hi => upd_ne (by omega))).of (fun i hi => upd_ne (by omega))
  · intro p hp h2
    by_cases w : p = np z
    · subst w
      rw [apA, upd_ne (by omega), upd_ne (by omega), upd_eq] at h2
      exact absurd h2 (by decide)
    · rw [at_ _ (by omega) (by omega)] at h2
      rw [at_ (76 + 5 * p + 3) (by omega) (by omega), at_ (76 + 5 * p + 4) (by omega) (by omega)]
      exact e p hp h2
theorem IV.set {K : Nat} {z : Nat → Int32} {j : Nat} {v : Int32} (h : IV K z) (hj : j < 5) (hv : wi v 0 (gsT j) = true) : IV K (upd z (0 + j) v) := by
  obtain ⟨⟨a, b, c, d, e⟩, r, q⟩ := h
  have hI := wi_IN hv
  have hg : (gsT j).toInt ≤ 100 := by
    have : ∀ i : Fin 5, (gsT i.1).toInt ≤ 100 := by decide
    exact this ⟨j, hj⟩
  have h0 : (0 : Int32).toInt = 0 := rfl
  have hv2 : IN v 0 100 := ⟨by omega, by omega⟩
  have n5 : nf (upd z (0 + j) v) = nf z := nf_eq (upd_ne (by omega))
  have n6 : np (upd z (0 + j) v) = np z := np_eq (upd_ne (by omega))
  refine ⟨⟨⟨by rw [upd_ne (by omega), n5]; exact a.1, by rw [n5]; exact a.2.1, by rw [upd_ne (by omega), n6]; exact a.2.2.1, by rw [n6]; exact a.2.2.2.1, ?_⟩, ⟨fun f hf => by rw [upd_ne (by omega)]; exact b.1 f hf, fun p hp => by rw [upd_ne (by omega)]; exact b.2.1 p hp, by rw [upd_ne (by omega)]; exact b.2.2.1, by rw [upd_ne (by omega)]; exact b.2.2.2.1, ⟨fun i hi => by rw [upd_ne (by omega)]; exact b.2.2.2.2.1 i hi, ?_, ?_⟩⟩, c.of (fun i hi => upd_ne (by omega)), ?_, e.of (fun i h1 h2 => upd_ne (by omega))⟩, r.of n5 (fun f g1 g2 w g3 g4 => upd_ne (by omega)), q.of (fun n hn => ⟨upd_ne (by omega), upd_ne (by omega)⟩)⟩
  · by_cases w : j = 0
    · subst w
      rw [show (0 + 0 : Nat) = 0 from rfl, upd_eq]
      obtain ⟨i, hi, rfl⟩ := wi_nat hv (show gsT 0 = nI 6 - 1 from by decide) (by decide) (by decide)
      rw [nI_clamp (by omega)]
      exact ⟨rfl, by omega⟩
    · rw [upd_ne (by omega)]; exact a.2.2.2.2
  · by_cases w : j = 1
    · subst w; rw [show (0 + 1 : Nat) = 1 from rfl, upd_eq]; exact hv2
    · rw [upd_ne (by omega)]; exact b.2.2.2.2.2.1
  · by_cases w : j = 2
    · subst w; rw [show (0 + 2 : Nat) = 2 from rfl, upd_eq]; exact hv2
    · rw [upd_ne (by omega)]; exact b.2.2.2.2.2.2
  · by_cases w : j = 4
    · subst w; rw [show (0 + 4 : Nat) = 4 from rfl, upd_eq]; exact hv2
    · rw [upd_ne (by omega)]; exact d
/-! shares -/
theorem sN_i {z : Nat → Int32} {k : Nat} (h : ∀ n, n < 4 → 0 ≤ (z (196 + 5 * n + k)).toInt ∧ (z (196 + 5 * n + k)).toInt ≤ 1000000) : (sN z k).toInt = (z (196 + 5 * 0 + k)).toInt + (z (196 + 5 * 1 + k)).toInt + (z (196 + 5 * 2 + k)).toInt + (z (196 + 5 * 3 + k)).toInt := by
  have h0 := h 0 (by omega); have h1 := h 1 (by omega); have h2 := h 2 (by omega); have h3 := h 3 (by omega)
  unfold sN
  rw [fu_4]
  unfold sNF
  have z0 : (0 : Int32).toInt = 0 := rfl
  have a1 : (0 + z (196 + 5 * 0 + k)).toInt = (z (196 + 5 * 0 + k)).toInt := by rw [i32_add (by omega) (by omega) (by omega) (by omega)]; omega
  have a2 : (0 + z (196 + 5 * 0 + k) + z (196 + 5 * 1 + k)).toInt = (z (196 + 5 * 0 + k)).toInt + (z (196 + 5 * 1 + k)).toInt := by rw [i32_add (by omega) (by omega) (by omega) (by omega), a1]
  have a3 : (0 + z (196 + 5 * 0 + k) + z (196 + 5 * 1 + k) + z (196 + 5 * 2 + k)).toInt = (z (196 + 5 * 0 + k)).toInt + (z (196 + 5 * 1 + k)).toInt + (z (196 + 5 * 2 + k)).toInt := by rw [i32_add (by omega) (by omega) (by omega) (by omega), a2]
  rw [i32_add (by omega) (by omega) (by omega) (by omega), a3]
theorem IV.sh {K : Nat} {z : Nat → Int32} (h : IV K z) (hK : K ≤ 600) : 0 ≤ (sN z 1).toInt ∧ 0 ≤ (sN z 2).toInt ∧ (sN z 2).toInt ≤ (sN z 1).toInt := by
  have q : ∀ n, n < 4 → 0 ≤ (z (196 + 5 * n + 2)).toInt ∧ (z (196 + 5 * n + 2)).toInt ≤ (z (196 + 5 * n + 1)).toInt ∧ (z (196 + 5 * n + 1)).toInt ≤ 120 * (K : Int) := h.2.2
  have e1 := sN_i (z := z) (k := 1) (fun n hn => by have := q n hn; exact ⟨by omega, by omega⟩)
  have e2 := sN_i (z := z) (k := 2) (fun n hn => by have := q n hn; exact ⟨by omega, by omega⟩)
  have h0 := q 0 (by omega); have h1 := q 1 (by omega); have h2 := q 2 (by omega); have h3 := q 3 (by omega)
  rw [e1, e2]
  exact ⟨by omega, by omega, by omega⟩
theorem IV.ne {K : Nat} {z : Nat → Int32} (h : IV K z) (hK : K ≤ 600) : ¬ sN z 1 = 0 → vf_n64 (FP.ddiv (FP.i2d (sN z 2)) (FP.i2d (sN z 1))) := fun q => by
  obtain ⟨h1, h2, h3⟩ := h.sh hK
  refine (div_sh h2 h3 ?_).nn
  have : ¬ (sN z 1).toInt = 0 := fun e => q (Int32.toInt_inj.mp (by rw [e]; rfl))
  omega
theorem IV.SHs {K : Nat} {z : Nat → Int32} (h : IV K z) (hK : K ≤ 600) : SH (shr z) := by
  obtain ⟨h1, h2, h3⟩ := h.sh hK
  unfold shr
  by_cases q : sN z 1 = 0
  · rw [if_pos q]; exact Or.inl rfl
  · rw [if_neg q]
    have : ¬ (sN z 1).toInt = 0 := fun e => q (Int32.toInt_inj.mp (by rw [e]; rfl))
    exact div_sh h2 h3 (by omega)
/-! the saved states -/
theorem svF_at {z : Nat → Int32} {m : Nat} : ∀ (c i : Nat) (y : Nat → Int32) (j : Nat), fu (svF z m) i c y j = if 248 * m + i ≤ j ∧ j < 248 * m + i + c then z (j - 248 * m) else y j
  | 0, i, y, j => by rw [fu_0, if_neg (by omega)]
  | c + 1, i, y, j => by
    rw [fu_s, svF_at c (i + 1) _ j]
    by_cases h : 248 * m + (i + 1) ≤ j ∧ j < 248 * m + (i + 1) + c
    · rw [if_pos h, if_pos (by omega)]
    · rw [if_neg h, svF]
      by_cases e : j = 248 * m + i
      · subst e; rw [upd_eq, if_pos (by omega), show 248 * m + i - 248 * m = i by omega]
      · rw [upd_ne e, if_neg (by omega)]
theorem sh_at {D : Nat} {F : Nat → (Nat → Int32) → Nat → Int32} (hF : ∀ k y, F k y = upd y (k - D) (y k)) (hD : 0 < D) : ∀ (c i : Nat) (y : Nat → Int32) (j : Nat), D ≤ i → fu F i c y j = if i - D ≤ j ∧ j < i - D + c then y (j + D) else y j
  | 0, i, y, j, _ => by rw [fu_0, if_neg (by omega)]
  | c + 1, i, y, j, hi => by
    rw [fu_s, sh_at hF hD c (i + 1) _ j (by omega), hF]
    by_cases h : i + 1 - D ≤ j ∧ j < i + 1 - D + c
    · rw [if_pos h, if_pos (by omega), upd_ne (by omega)]
    · rw [if_neg h]
      by_cases e : j = i - D
      · rw [e, upd_eq, if_pos (by omega), show i - D + D = i by omega]
      · rw [upd_ne e, if_neg (by omega)]
theorem shF_at (c i : Nat) (y : Nat → Int32) (j : Nat) (h : 248 ≤ i) : fu shF i c y j = if i - 248 ≤ j ∧ j < i - 248 + c then y (j + 248) else y j := sh_at (D := 248) (fun _ _ => rfl) (by omega) c i y j h
def HI (K n : Nat) (sv : SV) (hi : Nat → Int32) : Prop := n ≤ 6 ∧ n ≤ sv.length ∧ sv.length ≤ 6 ∧ ∀ k, k < n → ∃ x, sv[k]? = some x ∧ (∀ j, j < 248 → x.2 j = hi (248 * k + j)) ∧ IV K x.2
theorem HI.mo {K n : Nat} {sv : SV} {hi : Nat → Int32} (h : HI K n sv hi) : HI (K + 1) n sv hi := ⟨h.1, h.2.1, h.2.2.1, fun k hk => by obtain ⟨x, h1, h2, h3⟩ := h.2.2.2 k hk; exact ⟨x, h1, h2, h3.mo⟩⟩
theorem HI.save {K n : Nat} {sv sv2 : SV} {hi z : Nat → Int32} (h : HI K n sv hi) (hz : IV K z) (hs : svQ (svM n) (svR n sv) sv2 z) : HI K (svM n + 1) sv2 (svA n z hi) := by
  obtain ⟨h1, h2, h3, h4⟩ := h
  obtain ⟨s1, s2, ⟨x, s3, s4⟩, s5, _⟩ := hs
  have hm := svM_le h1
  refine ⟨by omega, s2, s1, fun k hk => ?_⟩
  have at_ : ∀ j, j < 248 → svA n z hi (248 * k + j) = if k = svM n then z j else svH n hi (248 * k + j) := by
    intro j hj
    rw [svA, svF_at]
    by_cases e : k = svM n
    · rw [if_pos e, e, if_pos (by omega), show 248 * svM n + j - 248 * svM n = j by omega]
    · rw [if_neg e, if_neg (by omega)]
  by_cases e : k = svM n
  · subst e
    exact ⟨x, s3, fun j hj => by rw [at_ j hj, if_pos rfl, s4], by rw [s4]; exact hz⟩
  · have hk2 : k < svM n := by omega
    by_cases e6 : n = 6
    · subst e6
      have hk5 : k < 5 := hk2
      obtain ⟨y, y1, y2, y3⟩ := h4 (k + 1) (by omega)
      refine ⟨y, ?_, fun j hj => ?_, y3⟩
      · rw [s5 k hk2, svR, if_pos rfl, List.getElem?_append_left (by rw [List.length_tail]; omega), List.getElem?_tail, y1]
      · rw [at_ j hj, if_neg e, svH, if_pos rfl, shF_at _ _ _ _ (Nat.le_refl _), if_pos (by omega), y2 j hj, show 248 * (k + 1) + j = 248 * k + j + 248 by omega]
    · have hkn : k < n := by unfold svM at hk2; rw [if_neg e6] at hk2; exact hk2
      obtain ⟨y, y1, y2, y3⟩ := h4 k hkn
      exact ⟨y, by rw [s5 k hk2, svR, if_neg e6, y1], fun j hj => by rw [at_ j hj, if_neg e, svH, if_neg e6, y2 j hj], y3⟩
theorem udZ_at {m : Nat} {hi z : Nat → Int32} {j : Nat} (hj : j < 248) : udZ m hi z j = hi (248 * m + j) := by
  have key : ∀ (c i : Nat) (y : Nat → Int32) (j : Nat), fu (udF m hi) i c y j = if i ≤ j ∧ j < i + c then hi (248 * m + j) else y j := by
    intro c
    induction c with
    | zero => intro i y j; rw [fu_0, if_neg (by omega)]
    | succ c ih =>
      intro i y j
      rw [fu_s, ih]
      by_cases h : i + 1 ≤ j ∧ j < i + 1 + c
      · rw [if_pos h, if_pos (by omega)]
      · rw [if_neg h, udF]
        by_cases e : j = i
        · subst e; rw [upd_eq, if_pos (by omega)]
        · rw [upd_ne e, if_neg (by omega)]
  rw [udZ, key, if_pos (by omega)]
theorem IV.z0 : IV 0 ziZ := by
  have e : ∀ j, ¬ j < 12 → ¬ j = 196 → ¬ j = 201 → ¬ j = 206 → ¬ j = 211 → ziZ j = 0 := fun j h1 h2 h3 h4 h5 => by
    rw [ziZ_at, if_neg (by omega), if_neg (by omega), if_neg (by omega), if_neg (by omega), if_neg (by omega), if_neg (by omega), if_neg (by omega)]
  have n5 : nf ziZ = 0 := by unfold nf; rw [ziZ_at]; rfl
  have n6 : np ziZ = 0 := by unfold np; rw [ziZ_at]; rfl
  have i0 : IN (0 : Int32) 0 99 := ⟨by decide, by decide⟩
  have i1 : IN (0 : Int32) 0 100 := ⟨by decide, by decide⟩
  refine ⟨⟨⟨by rw [n5, ziZ_at]; rfl, by omega, by rw [n6, ziZ_at]; rfl, by omega, by rw [ziZ_at]; rfl, by rw [ziZ_at]; decide⟩, ⟨fun f hf => by rw [e _ (by omega) (by omega) (by omega) (by omega) (by omega)]; exact i0, fun p hp => by rw [e _ (by omega) (by omega) (by omega) (by omega) (by omega)]; exact i0, by rw [ziZ_at]; exact i0, by rw [ziZ_at]; decide, ⟨fun j hj => by rw [e _ (by omega) (by omega) (by omega) (by omega) (by omega)]; exact i1, by rw [ziZ_at]; exact ⟨by decide, by decide⟩, by rw [ziZ_at]; exact ⟨by decide, by decide⟩⟩⟩, ⟨fun f hf => ⟨0, by omega, by rw [e _ (by omega) (by omega) (by omega) (by omega) (by omega)]; rfl⟩, fun p hp => ⟨0, by omega, by rw [e _ (by omega) (by omega) (by omega) (by omega) (by omega)]; rfl⟩⟩, by rw [ziZ_at]; exact ⟨by decide, by decide⟩, fun p hp h2 => by rw [e _ (by omega) (by omega) (by omega) (by omega) (by omega)] at h2; exact absurd h2 (by decide)⟩, fun f h1 h2 k h3 h4 => e _ (by omega) (by omega) (by omega) (by omega) (by omega), fun n hn => ?_⟩
  rw [e (196 + 5 * n + 1) (by omega) (by omega) (by omega) (by omega) (by omega), e (196 + 5 * n + 2) (by omega) (by omega) (by omega) (by omega) (by omega)]
  exact ⟨by decide, by decide, by show (0 : Int32).toInt ≤ 120 * ((0 : Nat) : Int); decide⟩
