/-! what every call keeps: the class's state and the reference's are one row -/
def ZR (z : Nat → Int32) : Prop := ∀ f, nf z ≤ f → f < 8 → ∀ k, 5 ≤ k → k < 8 → z (12 + 8 * f + k) = 0
def CBn (B : Nat → Int) (z : Nat → Int32) : Prop := ∀ n, n < 4 → 0 ≤ (z (196 + 5 * n + 2)).toInt ∧ (z (196 + 5 * n + 2)).toInt ≤ (z (196 + 5 * n + 1)).toInt ∧ (z (196 + 5 * n + 1)).toInt ≤ B n
def CB (K : Nat) (z : Nat → Int32) : Prop := CBn (fun _ => 120 * (K : Int)) z
def IV (K : Nat) (z : Nat → Int32) : Prop := TV z ∧ ZR z ∧ CB K z
theorem ZR.of {y z : Nat → Int32} (h : ZR z) (e5 : nf y = nf z) (e : ∀ f, nf z ≤ f → f < 8 → ∀ k, 5 ≤ k → k < 8 → y (12 + 8 * f + k) = z (12 + 8 * f + k)) : ZR y :=
  fun f h1 h2 k h3 h4 => by rw [e f (by omega) h2 k h3 h4]; exact h f (by omega) h2 k h3 h4
theorem CBn.of {B : Nat → Int} {y z : Nat → Int32} (h : CBn B z) (e : ∀ n, n < 4 → y (196 + 5 * n + 1) = z (196 + 5 * n + 1) ∧ y (196 + 5 * n + 2) = z (196 + 5 * n + 2)) : CBn B y :=
  fun n hn => by rw [(e n hn).1, (e n hn).2]; exact h n hn
theorem CBn.le {B C : Nat → Int} {z : Nat → Int32} (h : CBn B z) (hB : ∀ n, n < 4 → B n ≤ C n) : CBn C z := fun n hn => by have := h n hn; have := hB n hn; exact ⟨by omega, by omega, by omega⟩
theorem trZ_fe {z : Nat → Int32} {n f g k : Nat} (hn : n < 4) (hk : k < 8) (hg : g < 8) (h : g ≠ f) : trZ z n f (12 + 8 * g + k) = z (12 + 8 * g + k) := by
  have e : td z n f (12 + 8 * g + k) = z (12 + 8 * g + k) := by rw [td, dz_lo (by omega), tc, upd_ne (by omega), tb, upd_ne (by omega), ta, gz_lo (by omega) (by omega)]
  unfold trZ
  split
  · rw [thZ, upd_ne (by omega), tg, upd_ne (by omega), te, tM_lo (by omega), e]
  · rw [tk, dz_lo (by omega), tj, tM_lo (by omega), ti, upd_ne (by omega), e]
theorem trZ_ne {z : Nat → Int32} {n f m k : Nat} (hf : f < 8) (hm : m < 4) (hk : k < 5) (h : m ≠ n) : trZ z n f (196 + 5 * m + k) = z (196 + 5 * m + k) := by
  have e : td z n f (196 + 5 * m + k) = z (196 + 5 * m + k) := by rw [td, dz_lo (by omega), tc, upd_ne (by omega), tb, upd_ne (by omega), ta, gz_lo (by omega) (by omega)]
  unfold trZ
  split
  · rw [thZ, upd_ne (by omega), tg, upd_ne (by omega), te, tM_lo (by omega), e]
  · rw [tk, dz_lo (by omega), tj, tM_lo (by omega), ti, upd_ne (by omega), e]
theorem trZ_12 {z : Nat → Int32} {n f : Nat} (hf : f < 8) (hn : n < 4) : trZ z n f (196 + 5 * n + 1) = z (196 + 5 * n + 1) + 1 ∧ (trZ z n f (196 + 5 * n + 2) = z (196 + 5 * n + 2) ∨ trZ z n f (196 + 5 * n + 2) = z (196 + 5 * n + 2) + 1) := by
  have b1 : tb z f (196 + 5 * n + 1) = z (196 + 5 * n + 1) := by rw [tb, upd_ne (by omega), ta, gz_lo (by omega) (by omega)]
  have e1 : td z n f (196 + 5 * n + 1) = z (196 + 5 * n + 1) + 1 := by rw [td, dz_lo (by omega), tc, upd_eq, b1]
  have e2 : td z n f (196 + 5 * n + 2) = z (196 + 5 * n + 2) := by rw [td, dz_lo (by omega), tc, upd_ne (by omega), tb, upd_ne (by omega), ta, gz_lo (by omega) (by omega)]
  unfold trZ
  split
  · have e3 : tg z n f (196 + 5 * n + 2) = z (196 + 5 * n + 2) := by rw [tg, upd_ne (by omega), te, tM_lo (by omega), e2]
    exact ⟨by rw [thZ, upd_ne (by omega), tg, upd_ne (by omega), te, tM_lo (by omega), e1], Or.inr (by rw [thZ, upd_eq, e3])⟩
  · exact ⟨by rw [tk, dz_lo (by omega), tj, tM_lo (by omega), ti, upd_ne (by omega), e1], Or.inl (by rw [tk, dz_lo (by omega), tj, tM_lo (by omega), ti, upd_ne (by omega), e2])⟩
theorem CBn.tr {B : Nat → Int} {z : Nat → Int32} {n f : Nat} (h : CBn B z) (hf : f < 8) (hn : n < 4) (hB : B n ≤ 100000000) : CBn (fun j => if j = n then B j + 1 else B j) (trZ z n f) := by
  intro m hm
  by_cases e : m = n
  · subst e
    obtain ⟨h1, h2, h3⟩ := h m hm
    obtain ⟨t1, t2⟩ := trZ_12 (z := z) hf hm
    have a1 : (z (196 + 5 * m + 1) + 1).toInt = (z (196 + 5 * m + 1)).toInt + 1 := i32_add (by omega) (by omega) (by decide) (by decide)
    have a2 : (z (196 + 5 * m + 2) + 1).toInt = (z (196 + 5 * m + 2)).toInt + 1 := i32_add (by omega) (by omega) (by decide) (by decide)
    show 0 ≤ _ ∧ _ ≤ _ ∧ _ ≤ (if m = m then B m + 1 else B m)
    rw [t1, a1, if_pos rfl]
    rcases t2 with t2 | t2
    · rw [t2]; exact ⟨by omega, by omega, by omega⟩
    · rw [t2, a2]; exact ⟨by omega, by omega, by omega⟩
  · show 0 ≤ _ ∧ _ ≤ _ ∧ _ ≤ (if m = n then B m + 1 else B m)
    rw [trZ_ne hf hm (by omega) e, trZ_ne hf hm (by omega) e, if_neg e]
    exact h m hm
/-- a tour's steps keep this, with the tries counted -/
def PV (N : Nat) (B : Nat → Int) (z : Nat → Int32) : Prop := TV z ∧ nf z = N ∧ ZR z ∧ CBn B z
theorem PV.nf8 {N : Nat} {B : Nat → Int} {z : Nat → Int32} (h : PV N B z) : N ≤ 8 := by have := h.1.nf; have := h.2.1; omega
theorem PV.tr {N : Nat} {B : Nat → Int} {z : Nat → Int32} {n f : Nat} (h : PV N B z) (hf : f < N) (hn : n < 4) (hB : B n ≤ 100000000) : PV N (fun j => if j = n then B j + 1 else B j) (trZ z n f) := by
  have h8 := h.nf8
  obtain ⟨a, b, c, d⟩ := h
  have e5 : nf (trZ z n f) = nf z := nf_eq (trZ_lo7 5 (by decide))
  exact ⟨a.tr (by omega) hn, by rw [e5, b], c.of e5 (fun g h1 h2 k _ h4 => trZ_fe hn h4 h2 (by omega)), d.tr (by omega) hn hB⟩
theorem PV.pk {N n p : Nat} (hn : n < 4) : ∀ (m : Nat) (b : Bool) (B : Nat → Int) (s : RS), PV N B s.1 → B n + m ≤ 100000000 → PV N (fun j => if j = n then B j + m else B j) (pkL n p m b s).1
  | 0, _, B, s, h, _ => ⟨h.1, h.2.1, h.2.2.1, h.2.2.2.le (fun j _ => by split <;> omega)⟩
  | m + 1, false, B, s, h, _ => ⟨h.1, h.2.1, h.2.2.1, h.2.2.2.le (fun j _ => by split <;> omega)⟩
  | m + 1, true, B, s, h, hB => by
    unfold pkL
    cases hc : cho s.1 n (s.1 (76 + 5 * p + 1)) with
    | none => exact ⟨h.1, h.2.1, h.2.2.1, h.2.2.2.le (fun j _ => by split <;> omega)⟩
    | some f =>
      have hf := cho_lt hc
      rw [h.2.1] at hf
      have := PV.pk (p := p) hn m (tms s.1 n f) _ (trZ s.1 n f, trP s.1 n f s.2.1, trT s.1 n f s.2.2) (h.tr hf hn (by omega)) (by rw [if_pos rfl]; omega)
      exact ⟨this.1, this.2.1, this.2.2.1, this.2.2.2.le (fun j _ => by split <;> omega)⟩
/-- numbers of parts that are held are numbers of feeders -/
theorem pkL_N {N n p : Nat} (hN : N ≤ 8) : ∀ (m : Nat) (b : Bool) (s : RS), nf s.1 = N → okN N (s.2.1 n) → okN N ((pkL n p m b s).2.1 n)
  | 0, _, s, _, h => h
  | m + 1, false, s, _, h => h
  | m + 1, true, s, hK, h => by
    unfold pkL
    cases hc : cho s.1 n (s.1 (76 + 5 * p + 1)) with
    | none => exact h
    | some f =>
      refine pkL_N hN m _ _ ((nf_eq (trZ_lo7 5 (by decide))).trans hK) ?_
      show okN N (trP s.1 n f s.2.1 n)
      unfold trP
      split
      · exact h
      · rw [upd_eq]
        have h1 := cho_lt hc
        exact okN_nI (by omega) (by omega)
theorem PV.cPF {N c : Nat} {A : Nat → Int32} {i : Nat} {s : RS} {B : Nat → Int} (h : PV N B s.1) (hi : i < 4) (hB : B i ≤ c) (hc : c ≤ 10000000) : PV N (fun j => if j = i then B j + 6 else B j) (cPF A i s).1 ∧ okN N ((cPF A i s).2.1 i) := by
  have h8 := h.nf8
  unfold _root_.Jvm.Pilot.CGossipHeadLaw_law_r8652_253339.cPF
  cases de (A i) with
  | none => exact ⟨⟨h.1, h.2.1, h.2.2.1, h.2.2.2.le (fun j _ => by split <;> omega)⟩, by show okN N (upd s.2.1 i (-1) i); rw [upd_eq]; exact okN_m1 (by omega)⟩
  | some p =>
    have hr : ((s.1 0).toNatClampNeg + 1) ≤ 6 := by have := h.1.1.2.2.2.2.2; omega
    have h1 := PV.pk (p := p) hi ((s.1 0).toNatClampNeg + 1) true B (s.1, upd s.2.1 i (-1), upd s.2.2 i 0) h (by omega)
    refine ⟨⟨h1.1, h1.2.1, h1.2.2.1, h1.2.2.2.le (fun j _ => by split <;> omega)⟩, ?_⟩
    exact pkL_N h8 _ _ _ h.2.1 (by show okN N (upd s.2.1 i (-1) i); rw [upd_eq]; exact okN_m1 (by omega))
theorem PV.cB {N c : Nat} {s : R5} (h : PV N (fun _ => (c : Int)) s.1) (hc : c ≤ 10000000) : PV N (fun _ => (c : Int) + 6) (cB s).1 ∧ ∀ j, j < 4 → okN N ((cB s).2.1 j) := by
  have key := fu_ind (F := _root_.Jvm.Pilot.CGossipHeadLaw_law_r8652_253339.cPF (lA s.1 s.2.1)) (fun i (q : RS) => PV N (fun j => if j < i then (c : Int) + 6 else c) q.1 ∧ ∀ j, j < i → okN N (q.2.1 j)) 4 0 (s.1, s.2.2.1, s.2.2.2) (fun j q _ hj hq => by
    obtain ⟨h1, h2⟩ := hq.1.cPF (A := lA s.1 s.2.1) (i := j) (c := c) (by omega) (by rw [if_neg (by omega)]; exact Int.le_refl _) hc
    refine ⟨⟨h1.1, h1.2.1, h1.2.2.1, h1.2.2.2.le (fun k _ => ?_)⟩, fun k hk => ?_⟩
    · by_cases e : k = j
      · subst e; rw [if_pos rfl, if_neg (by omega), if_pos (by omega)]; omega
      · rw [if_neg e]
        by_cases e2 : k < j
        · rw [if_pos e2, if_pos (by omega)]; omega
        · rw [if_neg e2, if_neg (by omega)]; omega
    · by_cases e : k = j
      · subst e; exact h2
      · have e3 : (_root_.Jvm.Pilot.CGossipHeadLaw_law_r8652_253339.cPF (lA s.1 s.2.1) j q).2.1 k = q.2.1 k := by
          show (pkA j (de (lA s.1 s.2.1 j)) (q.1, q.2.1, upd q.2.2 j 0)).2.1 k = _
          exact pkA_ne e
        rw [e3]; exact hq.2 k (by omega)) ⟨⟨h.1, h.2.1, h.2.2.1, h.2.2.2.le (fun j _ => by rw [if_neg (by omega)]; exact Int.le_refl _)⟩, fun j hj => absurd hj (Nat.not_lt_zero _)⟩
  refine ⟨⟨key.1.1, key.1.2.1, key.1.2.2.1, key.1.2.2.2.le (fun j hj => by rw [if_pos (by omega)]; exact Int.le_refl _)⟩, fun j hj => key.2 j (by omega)⟩
theorem PV.lk {N : Nat} {B : Nat → Int} {z : Nat → Int32} {n : Nat} {o : Option Nat} {t : Int32} (h : PV N B z) (hn : n < 4) (ho : ∀ f, o = some f → f < N) : PV N B (lkZ n o z t) := by
  have h8 := h.nf8
  have hT := h.1.lkZ (t := t) hn (fun f hf => by have := ho f hf; omega)
  have e5 : nf (lkZ n o z t) = nf z := nf_eq (lkZ_lo7 5 (by decide))
  refine ⟨hT, by rw [e5]; exact h.2.1, h.2.2.1.of e5 (fun g h1 h2 k h3 h4 => ?_), h.2.2.2.of (fun m hm => ?_)⟩
  · have := h.2.1
    cases o with
    | none => rfl
    | some f =>
      have hf := ho f rfl
      show (if lkS z t then lkc z n f else dz z) (12 + 8 * g + k) = _
      split
      · rw [lkc, upd_ne (by omega), lkb, upd_ne (by omega), lka, tM_lo (by omega), dz_lo (by omega)]
      · exact dz_lo (by omega)
  · cases o with
    | none => exact ⟨rfl, rfl⟩
    | some f =>
      have hf := ho f rfl
      show (if lkS z t then lkc z n f else dz z) (196 + 5 * m + 1) = _ ∧ (if lkS z t then lkc z n f else dz z) (196 + 5 * m + 2) = _
      split
      · exact ⟨by rw [lkc, upd_ne (by omega), lkb, upd_ne (by omega), lka, tM_lo (by omega), dz_lo (by omega)], by rw [lkc, upd_ne (by omega), lkb, upd_ne (by omega), lka, tM_lo (by omega), dz_lo (by omega)]⟩
      · exact ⟨dz_lo (by omega), dz_lo (by omega)⟩
theorem okN_lkP {N : Nat} {n : Nat} {o : Option Nat} {z : Nat → Int32} {t : Int32} {pa : Nat → Int32} (hN : N ≤ 8) {k : Nat} (h : okN N (pa k)) : okN N (lkP n o z t pa k) := by
  rcases lkP_or (n := n) (o := o) (z := z) (t := t) (pa := pa) k with e | e
  · rw [e]; exact h
  · rw [e]; exact okN_m1 (by omega)
theorem PV.cT {N c : Nat} {s : R5} (h : PV N (fun _ => (c : Int)) s.1) (hc : c ≤ 10000000) : PV N (fun _ => (c : Int) + 6) (cT s).1 := by
  obtain ⟨hB, hBo⟩ := h.cB hc
  have h8 := h.nf8
  have hC : PV N (fun _ => (c : Int) + 6) (cC s).1 := by
    unfold cC
    exact (fu_ind (fun _ (q : R2) => PV N (fun _ => (c : Int) + 6) q.1 ∧ ∀ k, k < 4 → okN N (q.2 k)) 4 0 ((_root_.Jvm.Pilot.CGossipHeadLaw_law_r8652_253339.cB s).1, (_root_.Jvm.Pilot.CGossipHeadLaw_law_r8652_253339.cB s).2.1) (fun j q _ hj hq => ⟨hq.1.lk (by omega) (fun f hf => (hq.2 j (by omega)).2 f hf), fun k hk => okN_lkP h8 (hq.2 k hk)⟩) ⟨hB, hBo⟩).1
  have hg := cC_good (s := s) h.1.1 h.1.np
  have hD : PV N (fun _ => (c : Int) + 6) (cD s).1 := by
    unfold cD
    refine fu_ind (fun _ (q : (Nat → Int32) × Int32) => PV N (fun _ => (c : Int) + 6) q.1) 4 0 _ (fun j q _ hj hq => ?_) hC
    have hT := hq.1.ly (n := j) (p := (lA s.1 s.2.1 j).toNatClampNeg) (o := de ((cC s).2 j)) (t := (_root_.Jvm.Pilot.CGossipHeadLaw_law_r8652_253339.cB s).2.2 j) (by omega) (fun f hf => ⟨((hg j (by omega)).2 f hf).2, (hg j (by omega)).1.2 f hf⟩)
    have e5 : nf (lyZ j (lA s.1 s.2.1 j).toNatClampNeg (de ((cC s).2 j)) q.1 ((_root_.Jvm.Pilot.CGossipHeadLaw_law_r8652_253339.cB s).2.2 j)) = nf q.1 := nf_eq (lyZ_lo7 5 (by decide))
    refine ⟨hT, e5.trans hq.2.1, hq.2.2.1.of e5 (fun g h1 h2 k h3 h4 => ?_), hq.2.2.2.of (fun m hm => ?_)⟩
    · cases ho : de ((cC s).2 j) with
      | none => show lyZ j _ (de ((cC s).2 j)) q.1 _ _ = _; rw [ho]; rfl
      | some f =>
        have hp := ((hg j (by omega)).2 f ho).2
        show lyZ j _ (de ((cC s).2 j)) q.1 _ _ = _
        rw [ho]
        exact ly_pl (by omega) (by omega) (by omega) (by omega) (by omega)
    · cases ho : de ((cC s).2 j) with
      | none =>
        show lyZ j _ (de ((cC s).2 j)) q.1 _ _ = _ ∧ lyZ j _ (de ((cC s).2 j)) q.1 _ _ = _
        rw [ho]; exact ⟨rfl, rfl⟩
      | some f =>
        have hp := ((hg j (by omega)).2 f ho).2
        show lyZ j _ (de ((cC s).2 j)) q.1 _ _ = _ ∧ lyZ j _ (de ((cC s).2 j)) q.1 _ _ = _
        rw [ho]
        exact ⟨ly_pl (by omega) (by omega) (by omega) (by omega) (by omega), ly_pl (by omega) (by omega) (by omega) (by omega) (by omega)⟩
  have tmP : ∀ (y : Nat → Int32) (n f : Nat) (d : Int32), PV N (fun _ => (c : Int) + 6) y → PV N (fun _ => (c : Int) + 6) (tM y n f d) := fun y n f d q => ⟨q.1.tm, (nf_eq (tM_lo (by omega))).trans q.2.1, q.2.2.1.of (nf_eq (tM_lo (by omega))) (fun g h1 h2 k h3 h4 => tM_lo (by omega)), q.2.2.2.of (fun m hm => ⟨tM_lo (by omega), tM_lo (by omega)⟩)⟩
  have hE : PV N (fun _ => (c : Int) + 6) (cE s) := by
    unfold cE
    refine fu_ind (fun _ (y : Nat → Int32) => PV N (fun _ => (c : Int) + 6) y) 3 0 _ (fun j y _ _ hy => ?_) hD
    unfold gsA
    refine fu_ind (fun _ (y : Nat → Int32) => PV N (fun _ => (c : Int) + 6) y) _ 0 _ (fun i y _ _ hy => ?_) hy
    show PV N _ (gsF j i y)
    rw [gsF]
    exact tmP _ _ _ _ (tmP _ _ _ _ hy)
  have e : (_root_.Jvm.Pilot.CGossipHeadLaw_law_r8652_253339.cT s).1 = upd (cE s) 10 (cE s 10 + 1) := rfl
  rw [e]
  exact ⟨hE.1.up (by omega) (by omega) (fun _ _ => by omega) (by omega), (nf_eq (upd_ne (by omega))).trans hE.2.1, hE.2.2.1.of (nf_eq (upd_ne (by omega))) (fun g h1 h2 k h3 h4 => upd_ne (by omega)), hE.2.2.2.of (fun m hm => ⟨upd_ne (by omega), upd_ne (by omega)⟩)⟩
theorem PV.cTs {N c : Nat} {s : R5} : ∀ (t : Nat), PV N (fun _ => (c : Int)) s.1 → c + 6 * t ≤ 1000000 → PV N (fun _ => (c : Int) + 6 * t) (cTs t (s, 0)).1.1 := by
  intro t h hc
  unfold _root_.Jvm.Pilot.CGossipHeadLaw_law_r8652_253339.cTs
  have key := fu_ind (F := fun (_ : Nat) (s : R5 × Int32) => (_root_.Jvm.Pilot.CGossipHeadLaw_law_r8652_253339.cT s.1, s.2 + (cD s.1).2)) (fun i (q : R5 × Int32) => PV N (fun _ => ((c + 6 * i : Nat) : Int)) q.1.1) t 0 (s, 0) (fun j q _ hj hq => by
    have := PV.cT (c := c + 6 * j) hq (by omega)
    exact ⟨this.1, this.2.1, this.2.2.1, this.2.2.2.le (fun k _ => by omega)⟩) h
  exact ⟨key.1, key.2.1, key.2.2.1, key.2.2.2.le (fun k _ => by omega)⟩
theorem IV.cTs {K t : Nat} {s : R5} (h : IV K s.1) (ht : t ≤ 20) (hK : K ≤ 600) : IV (K + 1) (cTs t (s, 0)).1.1 := by
  have := PV.cTs (N := nf s.1) (c := 120 * K) (s := s) t ⟨h.1, rfl, h.2.1, h.2.2.le (fun _ _ => by omega)⟩ (by omega)
  exact ⟨this.1, this.2.2.1, this.2.2.2.le (fun _ _ => by omega)⟩
theorem IV.mo {K : Nat} {z : Nat → Int32} (h : IV K z) : IV (K + 1) z := ⟨h.1, h.2.1, h.2.2.le (fun _ _ => by omega)⟩
