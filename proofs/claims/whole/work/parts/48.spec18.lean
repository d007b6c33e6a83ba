/-! the class's tour: as the reference's, but that a nozzle's pick starts as not turned; what a tour keeps -/
noncomputable def cPF (A : Nat → Int32) (n : Nat) (s : RS) : RS := pkA n (de (A n)) (s.1, s.2.1, upd s.2.2 n 0)
noncomputable def cB (s : R5) : RS := fu (cPF (lA s.1 s.2.1)) 0 4 (s.1, s.2.2.1, s.2.2.2)
noncomputable def cC (s : R5) : R2 := fu (rLF (cB s).2.2) 0 4 ((cB s).1, (cB s).2.1)
noncomputable def cD (s : R5) : (Nat → Int32) × Int32 := fu (rYF (lA s.1 s.2.1) (cC s).2 (cB s).2.2) 0 4 ((cC s).1, 0)
noncomputable def cE (s : R5) : Nat → Int32 := fu gsA 0 3 (cD s).1
noncomputable def cT (s : R5) : R5 := (upd (cE s) 10 (cE s 10 + 1), lA s.1 s.2.1, (cC s).2, (cB s).2.2)
noncomputable def cTs (t : Nat) (s : R5 × Int32) : R5 × Int32 := fu (fun _ s => (cT s.1, s.2 + (cD s.1).2)) 0 t s
theorem fu_ind {σ : Type} {F : Nat → σ → σ} (P : Nat → σ → Prop) : ∀ (k i : Nat) (x : σ), (∀ j y, i ≤ j → j < i + k → P j y → P (j + 1) (F j y)) → P i x → P (i + k) (fu F i k x)
  | 0, i, x, _, h => by rw [fu_0]; exact h
  | k + 1, i, x, hs, h => by
    rw [fu_s, show i + (k + 1) = i + 1 + k by omega]
    exact fu_ind P k (i + 1) (F i x) (fun j y h1 h2 => hs j y (by omega) (by omega)) (hs i x (Nat.le_refl _) (by omega) h)
theorem fu_rel {σ τ : Type} {F : Nat → σ → σ} {G : Nat → τ → τ} (P : Nat → σ → τ → Prop) : ∀ (k i : Nat) (x : σ) (y : τ), (∀ j x y, i ≤ j → j < i + k → P j x y → P (j + 1) (F j x) (G j y)) → P i x y → P (i + k) (fu F i k x) (fu G i k y)
  | 0, i, x, y, _, h => by rw [fu_0, fu_0]; exact h
  | k + 1, i, x, y, hs, h => by
    rw [fu_s, fu_s, show i + (k + 1) = i + 1 + k by omega]
    exact fu_rel P k (i + 1) (F i x) (G i y) (fun j x y h1 h2 => hs j x y (by omega) (by omega)) (hs i x y (Nat.le_refl _) (by omega) h)
theorem isA_cg {y y' : Nat → Int32} {n p : Nat} (h : ∀ j, j < n → y j = y' j) : isA y n p = isA y' n p := by
  unfold isA; exact fu_congr n 0 false (fun j b _ h2 => by rw [h j (by omega)])
theorem ao_cg {z y y' : Nat → Int32} {n : Nat} (h : ∀ j, j < n → y j = y' j) : ao z n y = ao z n y' := by
  unfold ao; exact ff_congr _ _ (fun p _ => by rw [apr, apr, isA_cg h])
theorem lA_cg {z ai ai' : Nat → Int32} : ∀ j, j < 4 → lA z ai j = lA z ai' j := by
  unfold lA
  exact fu_rel (fun i (y y' : Nat → Int32) => ∀ j, j < i → y j = y' j) 4 0 ai ai' (fun i y y' _ _ h j hj => by
    show upd y i (en (ao z i y)) j = upd y' i (en (ao z i y')) j
    rw [ao_cg h]
    by_cases e : j = i
    · subst e; rw [upd_eq, upd_eq]
    · rw [upd_ne e, upd_ne e]; exact h j (by omega)) (fun j hj => absurd hj (Nat.not_lt_zero _))
/-- two runs of picks: the same rows, the same parts held; turned the same where a part is held -/
def PR (i : Nat) (s s' : RS) : Prop := s.1 = s'.1 ∧ ∀ j, j < i → s.2.1 j = s'.2.1 j ∧ (¬ s.2.1 j = -1 → s.2.2 j = s'.2.2 j)
theorem trT_ne {z : Nat → Int32} {n f k : Nat} {tu : Nat → Int32} (h : k ≠ n) : trT z n f tu k = tu k := by
  unfold trT
  split
  · rfl
  · exact upd_ne h
theorem pkL_neT {n p k : Nat} (h : k ≠ n) : ∀ (m : Nat) (b : Bool) (s : RS), (pkL n p m b s).2.2 k = s.2.2 k
  | 0, _, s => rfl
  | m + 1, false, s => rfl
  | m + 1, true, s => by
    unfold pkL
    cases hc : cho s.1 n (s.1 (76 + 5 * p + 1)) with
    | none => rfl
    | some f => exact (pkL_neT h m _ _).trans (trT_ne h)
theorem pkL_rel {n p : Nat} : ∀ (m : Nat) (b : Bool) (s s' : RS), s.1 = s'.1 → s.2.1 n = s'.2.1 n → (¬ s.2.1 n = -1 → s.2.2 n = s'.2.2 n) → (pkL n p m b s).1 = (pkL n p m b s').1 ∧ (pkL n p m b s).2.1 n = (pkL n p m b s').2.1 n ∧ (¬ (pkL n p m b s).2.1 n = -1 → (pkL n p m b s).2.2 n = (pkL n p m b s').2.2 n)
  | 0, _, s, s', h1, h2, h3 => ⟨h1, h2, h3⟩
  | m + 1, false, s, s', h1, h2, h3 => ⟨h1, h2, h3⟩
  | m + 1, true, (z, pa, tu), (z', pa', tu'), h1, h2, h3 => by
    have e : z = z' := h1
    subst e
    unfold pkL
    show (match true, cho z n (z (76 + 5 * p + 1)) with | false, _ => _ | true, none => _ | true, some f => _ : RS).1 = _ ∧ _
    cases hc : cho z n (z (76 + 5 * p + 1)) with
    | none => exact ⟨rfl, h2, h3⟩
    | some f =>
      refine pkL_rel m (tms z n f) (trZ z n f, trP z n f pa, trT z n f tu) (trZ z n f, trP z n f pa', trT z n f tu') rfl ?_ ?_
      · show trP z n f pa n = trP z n f pa' n
        unfold trP
        split
        · exact h2
        · rw [upd_eq, upd_eq]
      · show ¬ trP z n f pa n = -1 → trT z n f tu n = trT z n f tu' n
        unfold trP trT
        split
        · exact h3
        · intro _; rw [upd_eq, upd_eq]
theorem pkA_neT {n k : Nat} (h : k ≠ n) {o : Option Nat} {s : RS} : (pkA n o s).2.2 k = s.2.2 k := by
  cases o with
  | none => rfl
  | some p => exact pkL_neT h _ _ _
theorem pkA_rel {n : Nat} {o : Option Nat} {s s' : RS} (h : s.1 = s'.1) : (pkA n o s).1 = (pkA n o s').1 ∧ (pkA n o s).2.1 n = (pkA n o s').2.1 n ∧ (¬ (pkA n o s).2.1 n = -1 → (pkA n o s).2.2 n = (pkA n o s').2.2 n) := by
  obtain ⟨z, pa, tu⟩ := s
  obtain ⟨z', pa', tu'⟩ := s'
  have e : z = z' := h
  subst e
  cases o with
  | none => exact ⟨rfl, by show upd pa n (-1) n = upd pa' n (-1) n; rw [upd_eq, upd_eq], fun q => absurd (show upd pa n (-1) n = -1 from upd_eq) q⟩
  | some p => exact pkL_rel _ _ _ _ rfl (by show upd pa n (-1) n = upd pa' n (-1) n; rw [upd_eq, upd_eq]) (fun q => absurd (show upd pa n (-1) n = -1 from upd_eq) q)
theorem PR.st {A A' : Nat → Int32} {i : Nat} {s s' : RS} (h : PR i s s') (e : A i = A' i) : PR (i + 1) (cPF A i s) (rPF A' i s') := by
  have k := pkA_rel (n := i) (o := de (A i)) (s := (s.1, s.2.1, upd s.2.2 i 0)) (s' := s') h.1
  have e2 : rPF A' i s' = pkA i (de (A i)) s' := by rw [rPF, e]
  rw [e2]
  refine ⟨k.1, fun j hj => ?_⟩
  by_cases q : j = i
  · subst q; exact k.2
  · show (pkA i (de (A i)) (s.1, s.2.1, upd s.2.2 i 0)).2.1 j = _ ∧ (¬ (pkA i (de (A i)) (s.1, s.2.1, upd s.2.2 i 0)).2.1 j = -1 → (pkA i (de (A i)) (s.1, s.2.1, upd s.2.2 i 0)).2.2 j = _)
    rw [pkA_ne q, pkA_ne q, pkA_neT q, pkA_neT q]
    show s.2.1 j = _ ∧ (¬ s.2.1 j = -1 → upd s.2.2 i 0 j = _)
    rw [upd_ne q]
    exact h.2 j (by omega)
theorem cB_rel {s s' : R5} (h : s.1 = s'.1) : PR 4 (cB s) (rB s') := by
  unfold cB rB
  have e : ∀ j, j < 4 → lA s.1 s.2.1 j = lA s'.1 s'.2.1 j := by rw [h]; exact lA_cg
  exact fu_rel PR 4 0 _ _ (fun j x y _ h2 hp => hp.st (e j (by omega))) ⟨h, fun j hj => absurd hj (Nat.not_lt_zero _)⟩
theorem lkP_cg {n : Nat} {o : Option Nat} {z : Nat → Int32} {t : Int32} {pa pa' : Nat → Int32} {j : Nat} (h : pa j = pa' j) : lkP n o z t pa j = lkP n o z t pa' j := by
  cases o with
  | none => exact h
  | some f =>
    show (if lkS z t then upd pa n (-1) else pa) j = (if lkS z t then upd pa' n (-1) else pa') j
    split
    · by_cases e : j = n
      · subst e; rw [upd_eq, upd_eq]
      · rw [upd_ne e, upd_ne e]; exact h
    · exact h
def LR (tu tu' : Nat → Int32) (q q' : R2) : Prop := q.1 = q'.1 ∧ ∀ j, j < 4 → q.2 j = q'.2 j ∧ (¬ q.2 j = -1 → tu j = tu' j)
theorem de_m1 : de (-1) = none := rfl
theorem rLF_cg {tu tu' : Nat → Int32} {i : Nat} {q q' : R2} (hi : i < 4) (h : LR tu tu' q q') : LR tu tu' (rLF tu i q) (rLF tu' i q') := by
  obtain ⟨z, pa⟩ := q
  obtain ⟨z', pa'⟩ := q'
  have e : z = z' := h.1
  subst e
  have h2 : ∀ j, j < 4 → pa j = pa' j ∧ (¬ pa j = -1 → tu j = tu' j) := h.2
  show LR tu tu' (lkZ i (de (pa i)) z (tu i), lkP i (de (pa i)) z (tu i) pa) (lkZ i (de (pa' i)) z (tu' i), lkP i (de (pa' i)) z (tu' i) pa')
  have e2 : lkZ i (de (pa' i)) z (tu' i) = lkZ i (de (pa i)) z (tu i) ∧ ∀ y, lkP i (de (pa' i)) z (tu' i) y = lkP i (de (pa i)) z (tu i) y := by
    rw [← (h2 i hi).1]
    by_cases q : pa i = -1
    · rw [q]; exact ⟨rfl, fun _ => rfl⟩
    · rw [(h2 i hi).2 q]; exact ⟨rfl, fun _ => rfl⟩
  rw [e2.1, e2.2]
  refine ⟨rfl, fun j hj => ⟨lkP_cg (h2 j hj).1, fun q => ?_⟩⟩
  rcases lkP_or (n := i) (o := de (pa i)) (z := z) (t := tu i) (pa := pa) j with w | w
  · exact (h2 j hj).2 (fun r => q (w.trans r))
  · exact absurd w q
theorem cC_rel {s s' : R5} (h : s.1 = s'.1) : LR (cB s).2.2 (rB s').2.2 (cC s) (rC s') := by
  unfold cC rC
  exact fu_rel (fun _ => LR (cB s).2.2 (rB s').2.2) 4 0 _ _ (fun j x y _ h2 hp => rLF_cg (by omega) hp) (cB_rel h)
theorem cD_rel {s s' : R5} (h : s.1 = s'.1) : cD s = rD s' := by
  obtain ⟨e1, e2⟩ := cC_rel h
  unfold cD rD
  rw [e1]
  refine fu_congr 4 0 _ (fun j y _ hj => ?_)
  have hA : lA s.1 s.2.1 j = lA s'.1 s'.2.1 j := by rw [h]; exact lA_cg j (by omega)
  obtain ⟨g1, g2⟩ := e2 j (by omega)
  unfold rYF
  rw [hA, ← g1]
  by_cases q : (cC s).2 j = -1
  · rw [q]; rfl
  · rw [g2 q]
theorem cT_rel {s s' : R5} (h : s.1 = s'.1) : (cT s).1 = (rT s').1 := by
  have e : cE s = rE s' := by unfold cE rE; rw [cD_rel h]
  show upd (cE s) 10 (cE s 10 + 1) = upd (rE s') 10 (rE s' 10 + 1)
  rw [e]
theorem cTs_rel {t : Nat} {s s' : R5} {c : Int32} (h : s.1 = s'.1) : (cTs t (s, c)).1.1 = (rTs t (s', c)).1.1 ∧ (cTs t (s, c)).2 = (rTs t (s', c)).2 := by
  unfold cTs rTs
  exact fu_rel (fun _ (x y : R5 × Int32) => x.1.1 = y.1.1 ∧ x.2 = y.2) t 0 (s, c) (s', c) (fun j x y _ _ hp => ⟨cT_rel hp.1, by show x.2 + (cD x.1).2 = y.2 + (rD y.1).2; rw [cD_rel hp.1, hp.2]⟩) ⟨h, rfl⟩
/-! what the class's steps want -/
theorem cB_good {s : R5} (hK : KZ s.1) (hP : np s.1 ≤ 24) : ∀ k, k < 4 → goodP (lA s.1 s.2.1) k ((cB s).2.1 k) := fun k hk => by
  rw [((cB_rel (s' := s) rfl).2 k hk).1]; exact rB_good hK hP k hk
theorem cC_good {s : R5} (hK : KZ s.1) (hP : np s.1 ≤ 24) : ∀ k, k < 4 → goodP (lA s.1 s.2.1) k ((cC s).2 k) := fun k hk => by
  rw [((cC_rel (s' := s) rfl).2 k hk).1]; exact rC_ok hK hP k hk
theorem tT_01 {z : Nat → Int32} {n f : Nat} : tT z n f = 0 ∨ tT z n f = 1 := by
  unfold tT
  split
  · exact Or.inl rfl
  · exact Or.inr rfl
theorem pkL_tu {n p : Nat} : ∀ (m : Nat) (b : Bool) (s : RS), (s.2.2 n = 0 ∨ s.2.2 n = 1) → ((pkL n p m b s).2.2 n = 0 ∨ (pkL n p m b s).2.2 n = 1)
  | 0, _, s, h => h
  | m + 1, false, s, h => h
  | m + 1, true, s, h => by
    unfold pkL
    cases hc : cho s.1 n (s.1 (76 + 5 * p + 1)) with
    | none => exact h
    | some f =>
      refine pkL_tu m _ _ ?_
      show trT s.1 n f s.2.2 n = 0 ∨ trT s.1 n f s.2.2 n = 1
      unfold trT
      split
      · exact h
      · rw [upd_eq]; exact tT_01
theorem cB_tu {s : R5} : ∀ n, n < 4 → (cB s).2.2 n = 0 ∨ (cB s).2.2 n = 1 := by
  unfold cB
  refine fu_ind (fun i (q : RS) => ∀ n, n < i → q.2.2 n = 0 ∨ q.2.2 n = 1) 4 0 _ (fun j q _ _ h n hn => ?_) (fun j hj => absurd hj (Nat.not_lt_zero _))
  show (pkA j (de (lA s.1 s.2.1 j)) (q.1, q.2.1, upd q.2.2 j 0)).2.2 n = 0 ∨ (pkA j (de (lA s.1 s.2.1 j)) (q.1, q.2.1, upd q.2.2 j 0)).2.2 n = 1
  by_cases e : n = j
  · subst e
    cases de (lA s.1 s.2.1 n) with
    | none => exact Or.inl upd_eq
    | some p => exact pkL_tu _ _ _ (Or.inl upd_eq)
  · rw [pkA_neT e]
    show upd q.2.2 j 0 n = 0 ∨ upd q.2.2 j 0 n = 1
    rw [upd_ne e]
    exact h n (by omega)
/-! what a tour keeps -/
theorem KD.of {y z : Nat → Int32} (h : KD z) (e : ∀ j, (12 ≤ j ∧ j < 76 ∧ j % 8 = 5) ∨ (76 ≤ j ∧ j < 196 ∧ j % 5 = 2) → y j = z j) : KD y :=
  ⟨fun f hf => by rw [e _ (Or.inl (by omega))]; exact h.1 f hf, fun p hp => by rw [e _ (Or.inr (by omega))]; exact h.2 p hp⟩
theorem PI.of {y z : Nat → Int32} (h : PI z) (e : ∀ j, 76 ≤ j → j < 196 → y j = z j) : PI y := fun p hp h2 => by
  rw [e _ (by omega) (by omega)] at h2
  rw [e (76 + 5 * p + 3) (by omega) (by omega), e (76 + 5 * p + 4) (by omega) (by omega)]
  exact h p hp h2
def TV (z : Nat → Int32) : Prop := KZ z ∧ IX z ∧ KD z ∧ IN (z 4) 0 100 ∧ PI z
theorem TV.up {z : Nat → Int32} (h : TV z) {i : Nat} {v : Int32} (h1 : 10 ≤ i) (h2 : i < 216) (hf : ∀ f, f < 8 → i ≠ 12 + 8 * f + 0 ∧ i ≠ 12 + 8 * f + 1) (hp : i < 76 ∨ 196 ≤ i) : TV (upd z i v) := by
  obtain ⟨a, b, c, d, e⟩ := h
  exact ⟨a.lo (fun k hk => upd_ne (by omega)), b.up (by omega) (by omega) (by omega) (by omega) (fun f q => (hf f q).1) (fun p q => by omega) h2, ⟨fun f q => by rw [upd_ne (Ne.symm (hf f q).2)]; exact c.1 f q, fun p q => by rw [upd_ne (by omega)]; exact c.2 p q⟩, by rw [upd_ne (by omega)]; exact d, e.of (fun j h1 h2 => upd_ne (by omega))⟩
theorem TV.tm {z : Nat → Int32} (h : TV z) {n f : Nat} {d : Int32} : TV (tM z n f d) := by
  obtain ⟨a, b, c, d, e⟩ := h
  exact ⟨a.lo (fun k hk => tM_lo (by omega)), b.tm, c.of (fun j hj => tM_lo (by omega)), by rw [tM_lo (by omega)]; exact d, e.tm _ _ _⟩
theorem TV.gz {z : Nat → Int32} (h : TV z) {x m : Int32} (hx : IN x 0 99) : TV (gz z x m) := by
  obtain ⟨a, b, c, d, e⟩ := h
  exact ⟨a.lo (fun k hk => gz_lo (by omega) (by omega)), b.gz hx, c.of (fun j hj => gz_lo (by omega) (by omega)), by rw [gz_lo (by omega) (by omega)]; exact d, e.of (fun j h1 h2 => gz_lo (by omega) (by omega))⟩
theorem TV.dz {z : Nat → Int32} (h : TV z) : TV (dz z) := by
  obtain ⟨a, b, c, d, e⟩ := h
  exact ⟨a.lo (fun k hk => dz_lo (by omega)), b.dz, c.of (fun j hj => dz_lo (by omega)), by rw [dz_lo (by omega)]; exact d, e.of (fun j h1 h2 => dz_lo (by omega))⟩
theorem TV.tr {z : Nat → Int32} {n f : Nat} (h : TV z) (hf : f < 8) (hn : n < 4) : TV (trZ z n f) := by
  have hXa : TV (ta z f) := h.gz (h.2.1.1 f hf)
  have hXb : TV (tb z f) := hXa.up (by omega) (by omega) (fun _ _ => by omega) (by omega)
  have hXc : TV (tc z n f) := hXb.up (by omega) (by omega) (fun _ _ => by omega) (by omega)
  have hXd : TV (td z n f) := hXc.dz
  unfold trZ
  split
  · exact (hXd.tm.up (by omega) (by omega) (fun _ _ => by omega) (by omega)).up (by omega) (by omega) (fun _ _ => by omega) (by omega)
  · exact ((hXd.up (by omega) (by omega) (fun _ _ => by omega) (by omega)).tm).dz
theorem TV.nf {z : Nat → Int32} (h : TV z) : nf z ≤ 8 := h.1.2.1
theorem TV.np {z : Nat → Int32} (h : TV z) : np z ≤ 24 := h.1.2.2.2.1
theorem TV.pk {n p : Nat} (hn : n < 4) : ∀ (m : Nat) (b : Bool) (s : RS), TV s.1 → TV (pkL n p m b s).1
  | 0, _, s, h => h
  | m + 1, false, s, h => h
  | m + 1, true, s, h => by
    unfold pkL
    cases hc : cho s.1 n (s.1 (76 + 5 * p + 1)) with
    | none => exact h
    | some f => exact TV.pk hn m _ _ (h.tr (by have := cho_lt hc; have := h.nf; omega) hn)
theorem TV.cPF {A : Nat → Int32} {n : Nat} {s : RS} (h : TV s.1) (hn : n < 4) : TV (cPF A n s).1 := by
  unfold _root_.Jvm.Pilot.CGossipHeadLaw_law_r8652_253339.cPF
  cases de (A n) with
  | none => exact h
  | some p => exact TV.pk hn _ _ _ h
theorem TV.cB {s : R5} (h : TV s.1) : TV (cB s).1 := by
  unfold _root_.Jvm.Pilot.CGossipHeadLaw_law_r8652_253339.cB
  exact fu_ind (fun _ (q : RS) => TV q.1) 4 0 _ (fun j q _ hj hq => hq.cPF (by omega)) h
theorem TV.lkZ {z : Nat → Int32} {n : Nat} {o : Option Nat} {t : Int32} (h : TV z) (hn : n < 4) (ho : ∀ f, o = some f → f < 8) : TV (lkZ n o z t) := by
  have hd : TV (_root_.Jvm.Pilot.CGossipHeadLaw_law_r8652_253339.dz z) := h.dz
  cases o with
  | none => exact h
  | some f =>
    have hf := ho f rfl
    show TV (if lkS z t then lkc z n f else _)
    split
    · rw [lkc, lkb, lka]
      exact (hd.tm.up (by omega) (by omega) (fun _ _ => by omega) (by omega)).up (by omega) (by omega) (fun _ _ => by omega) (by omega)
    · exact hd
theorem TV.cC {s : R5} (h : TV s.1) : TV (cC s).1 := by
  have hg := cB_good (s := s) h.1 h.np
  have hB := h.cB
  unfold _root_.Jvm.Pilot.CGossipHeadLaw_law_r8652_253339.cC
  exact (fu_ind (fun _ (q : R2) => TV q.1 ∧ ∀ k, k < 4 → okN 8 (q.2 k)) 4 0 ((_root_.Jvm.Pilot.CGossipHeadLaw_law_r8652_253339.cB s).1, (_root_.Jvm.Pilot.CGossipHeadLaw_law_r8652_253339.cB s).2.1) (fun j q _ hj hq => ⟨hq.1.lkZ (by omega) (fun f hf => (hq.2 j (by omega)).2 f hf), rLF_ok hq.2⟩) ⟨hB, fun k hk => (hg k hk).1⟩).1
theorem ly_pl {z : Nat → Int32} {n p f j : Nat} {t : Int32} (hj : 10 ≤ j) (h2 : j ≠ 76 + 5 * p + 2) (h3 : j ≠ 76 + 5 * p + 3) (h4 : j ≠ 76 + 5 * p + 4) (h5 : j ≠ 196 + 5 * n + 3) : lye z p t n f j = z j := by
  rw [lye, upd_ne h5, lyd, upd_ne h4, lyc, upd_ne h3, lyb, upd_ne h2, lya, gz_lo (by omega) (by omega)]
theorem TV.ly {z : Nat → Int32} {n p : Nat} {o : Option Nat} {t : Int32} (h : TV z) (hn : n < 4) (hp : ∀ f, o = some f → p < 24 ∧ f < 8) : TV (lyZ n p o z t) := by
  cases o with
  | none => exact h
  | some f =>
    obtain ⟨hp, hf⟩ := hp f rfl
    obtain ⟨a, b, c, d, e⟩ := h
    refine ⟨a.lo lyZ_lo7, b.ly hn (fun _ _ => hp), ?_, by rw [lyZ_lo7 4 (by decide)]; exact d, ?_⟩
    · show KD (lye z p t n f)
      exact c.of (fun j hj => ly_pl (by omega) (by omega) (by omega) (by omega) (by omega))
    · show PI (lye z p t n f)
      intro q hq h2
      by_cases w : q = p
      · subst w
        have e3 : lye z q t n f (76 + 5 * q + 3) = nI n := by rw [lye, upd_ne (by omega), lyd, upd_ne (by omega), lyc, upd_eq]
        have e4 : lye z q t n f (76 + 5 * q + 4) = nI f := by rw [lye, upd_ne (by omega), lyd, upd_eq]
        rw [e3, e4, nI_clamp (by omega), nI_clamp (by omega)]
        exact ⟨rfl, hn, rfl, hf⟩
      · rw [ly_pl (by omega) (by omega) (by omega) (by omega) (by omega)] at h2
        rw [ly_pl (j := 76 + 5 * q + 3) (by omega) (by omega) (by omega) (by omega) (by omega), ly_pl (j := 76 + 5 * q + 4) (by omega) (by omega) (by omega) (by omega) (by omega)]
        exact e q hq h2
theorem TV.cD {s : R5} (h : TV s.1) : TV (cD s).1 := by
  have hg := cC_good (s := s) h.1 h.np
  have hC := h.cC
  unfold _root_.Jvm.Pilot.CGossipHeadLaw_law_r8652_253339.cD
  exact fu_ind (fun _ (q : (Nat → Int32) × Int32) => TV q.1) 4 0 _ (fun j q _ hj hq => hq.ly (by omega) (fun f hf => ⟨((hg j (by omega)).2 f hf).2, (hg j (by omega)).1.2 f hf⟩)) hC
theorem TV.gsA {z : Nat → Int32} {n : Nat} (h : TV z) : TV (gsA n z) := by
  unfold _root_.Jvm.Pilot.CGossipHeadLaw_law_r8652_253339.gsA
  exact fu_ind (fun _ (y : Nat → Int32) => TV y) _ 0 _ (fun j y _ _ hy => by show TV (gsF n j y); rw [gsF]; exact hy.tm.tm) h
theorem TV.cE {s : R5} (h : TV s.1) : TV (cE s) := by
  unfold _root_.Jvm.Pilot.CGossipHeadLaw_law_r8652_253339.cE
  exact fu_ind (fun _ (y : Nat → Int32) => TV y) 3 0 _ (fun j y _ _ hy => hy.gsA) h.cD
theorem TV.cT {s : R5} (h : TV s.1) : TV (cT s).1 := by
  show TV (upd (_root_.Jvm.Pilot.CGossipHeadLaw_law_r8652_253339.cE s) 10 (_root_.Jvm.Pilot.CGossipHeadLaw_law_r8652_253339.cE s 10 + 1))
  exact h.cE.up (by omega) (by omega) (fun _ _ => by omega) (by omega)
theorem TV.cTs {s : R5 × Int32} {t : Nat} (h : TV s.1.1) : TV (cTs t s).1.1 := by
  unfold _root_.Jvm.Pilot.CGossipHeadLaw_law_r8652_253339.cTs
  exact fu_ind (fun _ (q : R5 × Int32) => TV q.1.1) t 0 _ (fun j q _ _ hq => hq.cT) h
