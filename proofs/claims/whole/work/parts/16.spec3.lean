/-! more of V: a world seen otherwise, the bits of a double -/
theorem arrV_congr {cA : ClassId} {n : Nat} {f h : Nat → Value} (e : ∀ k, k < n → f k = h k) : arrV cA n f = arrV cA n h := by
  unfold arrV
  congr 1
  apply Array.ext
  · simp
  · intro i h1 h2
    simp only [Array.getElem_ofFn]
    exact e i (by simpa using h1)
theorem va_at_i {D : va_G} {cl : List vw_C} {a : Nat} {cA : ClassId} {n : Nat} {f h : Nat → Int32} {H : Heap} (e : ∀ k, k < n → f k = h k) (q : va_at D cl (a, .inl (cA, n, .inl f)) H) : va_at D cl (a, .inl (cA, n, .inl h)) H := by
  have q1 : H[a]? = some (arrV cA n (fun j => .int (f j))) := q
  show H[a]? = some (arrV cA n (fun j => .int (h j)))
  rw [q1, arrV_congr (h := fun j => .int (h j)) (fun k hk => by rw [e k hk])]
theorem va_P_conv {D : va_G} {cl : List vw_C} {ws : va_W} {H : Heap} {p a : Nat} {e0 e : va_E} (hp : ws[p]? = some (a, e0)) (he : va_at D cl (a, e0) H → va_at D cl (a, e) H) (h : va_P D cl ws H) : va_P D cl (ws.set p (a, e)) H := by
  intro k q hk
  have hl := (List.getElem?_eq_some_iff.mp hp).1
  by_cases e1 : k = p
  · subst e1
    rw [List.getElem?_set_self hl] at hk
    cases hk
    exact he (h _ _ hp)
  · rw [List.getElem?_set_ne (Ne.symm e1)] at hk
    exact h k q hk
theorem va_D_fst {A : Nat → Prop} {ws ws2 : va_W} (hD : va_D A ws) (hf : ws2.map Prod.fst = ws.map Prod.fst) : va_D A ws2 := by
  have key : ∀ (k : Nat) (q : Nat × va_E), ws2[k]? = some q → ∃ q0, ws[k]? = some q0 ∧ q0.1 = q.1 := by
    intro k q hk
    have h1 : (ws2.map Prod.fst)[k]? = some q.1 := by rw [List.getElem?_map, hk]; rfl
    rw [hf, List.getElem?_map] at h1
    cases hw : ws[k]? with
    | none => rw [hw] at h1; cases h1
    | some q0 => rw [hw] at h1; exact ⟨q0, rfl, Option.some.inj h1⟩
  refine ⟨fun i j x y hi hj hxy => ?_, fun k q hk => ?_⟩
  · obtain ⟨x0, h1, h2⟩ := key i x hi
    obtain ⟨y0, h3, h4⟩ := key j y hj
    exact hD.1 i j x0 y0 h1 h3 (h2.trans (hxy.trans h4.symm))
  · obtain ⟨q0, h1, h2⟩ := key k q hk
    rw [← h2]
    exact hD.2 k q0 h1
section KV2
variable {g : GT} {R : Room} {own : String} {cc : ByteArray} {Ts : List Cond} {nL : Nat} {QF : QT} {X : XT} {k n : Nat} {ws : va_W} {pc : Nat} {lv : List (Nat × Value)} {st rest : List Value}
theorem V.conv {ws2 : va_W} (h : ∀ H, va_P g.2.1 vwCl ws H → va_P g.2.1 vwCl ws2 H) (hf : ws2.map Prod.fst = ws.map Prod.fst) (kk : V g R own cc Ts nL QF X k n ws2 pc lv st) : V g R own cc Ts nL QF X k n ws pc lv st :=
  fun p e s m args below meth c A hx hb hml ho ht hA hE hX H locs ls hP hK hD hS hl => kk p e s m args below meth c A hx hb hml ho ht hA hE hX H locs ls (h H hP) hK (va_D_fst hD hf) hS hl
theorem V.rawBits {i : Nat} {x : UInt64} (h1 : Cond.methodLink own i ⟨"java/lang/Double", "doubleToRawLongBits", "(D)J"⟩ ∈ Ts) (h2 : Cond.native ⟨"java/lang/Double", "doubleToRawLongBits", "(D)J"⟩ ∈ Ts) (h3 : Cond.static ⟨"java/lang/Double", "doubleToRawLongBits", "(D)J"⟩ ∈ Ts) (h4 : Cond.initialized "java/lang/Double" ∈ Ts) (hfr : 1 ≤ R.frames) (hlo : (st.map fun v => v.category).sum + 15 ≤ R.locals) (hd : decode cc pc = .ok (.invokestatic i, 3)) (kk : V g R own cc Ts nL QF X k n ws (pc + 3) lv (.long x.toInt64 :: st)) : V g R own cc Ts nL QF X k n ws pc lv (.double x :: st) :=
  fun p e s m args below meth c A hx hb hml ho ht hA hE hX H locs ls hP hK hD hS hl => vn_d2l hx hb (hml.trans hl.1.symm) ho (ht _ h1) (ht _ h2) (ht _ h3) (ht _ h4) hfr (by omega) hd (kk p e s m args below meth c A hx hb hml ho ht hA hE hX H locs ls hP hK hD hS hl)
end KV2
/-! what is told: forecasts, shares, the digest: raw -/
noncomputable def tdV (s : R5) (t k : Nat) : Int32 := if k = 0 then (rTs t (s, 0)).2 else if k = 1 then sN (rTs t (s, 0)).1.1 2 - sN s.1 2 else if k = 2 then (rTs t (s, 0)).1.1 7 - s.1 7 else pT (rTs t (s, 0)).1.1 1
noncomputable def ndL : Nat → Nat → Option Nat → R5 → Option Nat × R5
  | 0, _, o, s => (o, s)
  | m + 1, k, o, s => match o with
    | some r => (some r, s)
    | none => ndL m (k + 1) (if pT (inZ (rT s).1) 1 = inZ (rT s).1 6 then some k else none) (inZ (rT s).1, (rT s).2)
noncomputable def ndA (s : R5) : Option Nat × R5 := ndL 40 1 (if pT s.1 1 = s.1 6 then some 0 else none) s
theorem ndL_some {m k r : Nat} {s : R5} : ndL m k (some r) s = (some r, s) := by cases m <;> rfl
theorem ndL_none {m k : Nat} {s : R5} : ndL (m + 1) k none s = ndL m (k + 1) (if pT (inZ (rT s).1) 1 = inZ (rT s).1 6 then some k else none) (inZ (rT s).1, (rT s).2) := rfl
noncomputable def shr (z : Nat → Int32) : UInt64 := if sN z 1 = 0 then FP.dconst0 else FP.ddiv (FP.i2d (sN z 2)) (FP.i2d (sN z 1))
def mx (h v : Int64) : Int64 := 31 * h + v
noncomputable def mnA (z : Nat → Int32) (n : Nat) (h : Int64) : Int64 := fu (fun k h => mx h (z (196 + 5 * n + k)).toInt64) 0 5 h
noncomputable def mnB (z : Nat → Int32) (n : Nat) (h : Int64) : Int64 := fu (fun f h => mx h (z (216 + 8 * n + f)).toInt64) 0 (nf z) h
noncomputable def mnC (z : Nat → Int32) (n : Nat) (h : Int64) : Int64 := fu (fun k h => mx h (en (cho z n (nI k))).toInt64) 0 6 h
/-- a nozzle's part of the digest, with its aim a -/
noncomputable def mnZ (z : Nat → Int32) (n : Nat) (a : Int32) (h : Int64) : Int64 := mx (mnC z n (mnB z n (mnA z n h))) a.toInt64
noncomputable def dgA (z : Nat → Int32) (sn : Nat) : Int64 := fu (fun k h => mx h (ctd z sn k).toInt64) 0 14 2467
noncomputable def dgB (z : Nat → Int32) (h : Int64) : Int64 := fu (fun k h => mx h (z (0 + k)).toInt64) 0 5 h
noncomputable def dgC (z : Nat → Int32) (h : Int64) : Int64 := fu (fun k h => mx h (fN z (k / 9) (k % 9)).toInt64) 0 (9 * nf z) h
noncomputable def dgD (z : Nat → Int32) (h : Int64) : Int64 := fu (fun k h => mx h (z (76 + k)).toInt64) 0 (5 * np z) h
/-! the tours keep what walks need -/
theorem rTs_lo7 (t : Nat) (s : R5) (c : Int32) : lo7 (rTs t (s, c)).1.1 s.1 := fuP_lo7 (F := fun _ s => (rT s.1, s.2 + (rD s.1).2)) (fun q : R5 × Int32 => q.1.1) (fun _ y => rT_lo7 y.1) t 0 (s, c)
theorem inL_lo7 {z : Nat → Int32} : lo7 (inL z).1 z := fuP_lo7 (F := inF) (fun q : (Nat → Int32) × Int32 => q.1) (fun _ _ => inF_lo7) (np z) 0 (z, 0)
theorem inZ_lo7 {z : Nat → Int32} : lo7 (inZ z) z := by
  intro k hk
  rw [inZ, upd_ne (by omega), upd_ne (by omega)]
  exact inL_lo7 k hk
theorem fuP_PI {F : Nat → ((Nat → Int32) × Int32) → (Nat → Int32) × Int32} (h : ∀ i y, PI y.1 → PI (F i y).1) : ∀ (k i : Nat) (s : (Nat → Int32) × Int32), PI s.1 → PI (fu F i k s).1
  | 0, _, _, q => by rw [fu_0]; exact q
  | k + 1, i, s, q => by rw [fu_s]; exact fuP_PI h k (i + 1) (F i s) (h i s q)
theorem PI.cg {y z : Nat → Int32} (h : PI z) (e : ∀ k, 76 ≤ k → k < 196 → y k = z k) : PI y := by
  intro p hp h2
  rw [e _ (by omega) (by omega)] at h2 ⊢
  rw [e _ (by omega) (by omega)]
  exact h p hp h2
theorem inZ_PI {z : Nat → Int32} (h : PI z) : PI (inZ z) := by
  have h1 : PI (inL z).1 := fuP_PI (fun i y q => inF_PI q) (np z) 0 (z, 0) h
  refine h1.cg (fun k hk hk2 => ?_)
  rw [inZ, upd_ne (by omega), upd_ne (by omega)]
/-! .. and the places: wrong ones tell their nozzle and feeder -/
def mid (y z : Nat → Int32) : Prop := ∀ k, 76 ≤ k → k < 196 → y k = z k
theorem mid.rf {z : Nat → Int32} : mid z z := fun _ _ _ => rfl
theorem mid.tr {x y z : Nat → Int32} (h : mid x y) (h2 : mid y z) : mid x z := fun k a b => (h k a b).trans (h2 k a b)
theorem tM_mid {z : Nat → Int32} {n f : Nat} {d : Int32} : mid (tM z n f d) z := fun k _ h => tM_lo (by omega)
theorem gz_mid {z : Nat → Int32} {x m : Int32} : mid (gz z x m) z := fun k h _ => gz_lo (by omega) (by omega)
theorem dz_mid {z : Nat → Int32} : mid (dz z) z := fun k h _ => dz_lo (by omega)
theorem up_lo_mid {z : Nat → Int32} {j : Nat} {v : Int32} (h : j < 76 ∨ 196 ≤ j) : mid (upd z j v) z := fun k a b => upd_ne (by omega)
theorem trZ_mid {z : Nat → Int32} {n f : Nat} (hf : f < 8) : mid (trZ z n f) z := by
  have h1 : mid (td z n f) z := dz_mid.tr ((up_lo_mid (by omega)).tr ((up_lo_mid (by omega)).tr gz_mid))
  unfold trZ
  split
  · exact (up_lo_mid (by omega)).tr ((up_lo_mid (by omega)).tr (tM_mid.tr h1))
  · exact dz_mid.tr (tM_mid.tr ((up_lo_mid (by omega)).tr h1))
theorem pkL_mid {n p : Nat} : ∀ (m : Nat) (b : Bool) (s : RS), KZ s.1 → mid (pkL n p m b s).1 s.1
  | 0, _, s, _ => mid.rf
  | m + 1, false, s, _ => mid.rf
  | m + 1, true, s, hK => by
    unfold pkL
    cases h : cho s.1 n (s.1 (76 + 5 * p + 1)) with
    | none => exact mid.rf
    | some f =>
      have hf : f < 8 := by have := cho_lt h; have := hK.2.1; omega
      exact (pkL_mid m (tms s.1 n f) (trZ s.1 n f, trP s.1 n f s.2.1, trT s.1 n f s.2.2) (hK.lo trZ_lo7)).tr (trZ_mid hf)
theorem pkA_mid {n : Nat} {o : Option Nat} {s : RS} (hK : KZ s.1) : mid (pkA n o s).1 s.1 := by
  cases o with
  | none => exact mid.rf
  | some p => exact pkL_mid ((s.1 0).toNatClampNeg + 1) true (s.1, upd s.2.1 n (-1), s.2.2) hK
theorem lkZ_mid {n : Nat} {o : Option Nat} {z : Nat → Int32} {t : Int32} (h : ∀ f, o = some f → f < 8) : mid (lkZ n o z t) z := by
  cases o with
  | none => exact mid.rf
  | some f =>
    have hf := h f rfl
    show mid (if lkS z t then lkc z n f else dz z) z
    split
    · exact (up_lo_mid (by omega)).tr ((up_lo_mid (by omega)).tr (tM_mid.tr dz_mid))
    · exact dz_mid
theorem lyZ_PI {n p : Nat} {o : Option Nat} {z : Nat → Int32} {t : Int32} (hn : n < 4) (h : ∀ f, o = some f → f < 8 ∧ p < 24) (hI : PI z) : PI (lyZ n p o z t) := by
  cases o with
  | none => exact hI
  | some f =>
    obtain ⟨hf, hp⟩ := h f rfl
    intro q hq h2
    show lye z p t n f (76 + 5 * q + 3) = _ ∧ _
    have e : ∀ k, k < 5 → lye z p t n f (76 + 5 * q + k) = lyd z p t n f (76 + 5 * q + k) := fun k hk => by rw [lye, upd_ne (by omega)]
    have h2 : lye z p t n f (76 + 5 * q + 2) = 2 := h2
    show lye z p t n f (76 + 5 * q + 3) = nI (lye z p t n f (76 + 5 * q + 3)).toNatClampNeg ∧ (lye z p t n f (76 + 5 * q + 3)).toNatClampNeg < 4 ∧ lye z p t n f (76 + 5 * q + 4) = nI (lye z p t n f (76 + 5 * q + 4)).toNatClampNeg ∧ (lye z p t n f (76 + 5 * q + 4)).toNatClampNeg < 8
    rw [e 2 (by omega)] at h2
    rw [e 3 (by omega), e 4 (by omega)]
    by_cases hqp : q = p
    · subst hqp
      have e3 : lyd z q t n f (76 + 5 * q + 3) = nI n := by rw [lyd, upd_ne (by omega), lyc, upd_eq]
      have e4 : lyd z q t n f (76 + 5 * q + 4) = nI f := by rw [lyd, upd_eq]
      rw [e3, e4, nI_clamp (by omega), nI_clamp (by omega)]
      exact ⟨rfl, hn, rfl, hf⟩
    · have e9 : ∀ k, k < 5 → lyd z p t n f (76 + 5 * q + k) = z (76 + 5 * q + k) := fun k hk => by
        rw [lyd, upd_ne (by omega), lyc, upd_ne (by omega), lyb, upd_ne (by omega), lya, gz_lo (by omega) (by omega)]
      rw [e9 2 (by omega)] at h2
      rw [e9 3 (by omega), e9 4 (by omega)]
      exact hI q hq h2
theorem rB_mid {s : R5} (hK : KZ s.1) : mid (rB s).1 s.1 := by
  have key : ∀ (k i : Nat) (q : RS), KZ q.1 → mid (fu (rPF (lA s.1 s.2.1)) i k q).1 q.1 := by
    intro k
    induction k with
    | zero => intro i q _; rw [fu_0]; exact mid.rf
    | succ k ih =>
      intro i q hq
      rw [fu_s]
      exact (ih (i + 1) (rPF (lA s.1 s.2.1) i q) (hq.lo rPF_lo7)).tr (pkA_mid (n := i) (o := de (lA s.1 s.2.1 i)) (s := q) hq)
  exact key 4 0 (s.1, s.2.2.1, s.2.2.2) hK
theorem rC_mid {s : R5} (hK : KZ s.1) (hP : np s.1 ≤ 24) : mid (rC s).1 s.1 := by
  have key : ∀ (k i : Nat) (q : R2), i + k = 4 → (∀ j, j < 4 → okN 8 (q.2 j)) → mid (fu (rLF (rB s).2.2) i k q).1 q.1 := by
    intro k
    induction k with
    | zero => intro i q _ _; rw [fu_0]; exact mid.rf
    | succ k ih =>
      intro i q hi hq
      rw [fu_s]
      exact (ih (i + 1) (rLF (rB s).2.2 i q) (by omega) (rLF_ok hq)).tr (lkZ_mid (n := i) (o := de (q.2 i)) (z := q.1) (t := (rB s).2.2 i) (hq i (by omega)).2)
  exact (key 4 0 ((rB s).1, (rB s).2.1) rfl (fun j hj => (rB_ok hK hP j hj).1)).tr (rB_mid hK)
theorem rD_PI {s : R5} (hK : KZ s.1) (hP : np s.1 ≤ 24) (hI : PI s.1) : PI (rD s).1 := by
  have hg := rC_ok (s := s) hK hP
  have key : ∀ (k i : Nat) (q : (Nat → Int32) × Int32), i + k = 4 → PI q.1 → PI (fu (rYF (lA s.1 s.2.1) (rC s).2 (rB s).2.2) i k q).1 := by
    intro k
    induction k with
    | zero => intro i q _ h; rw [fu_0]; exact h
    | succ k ih =>
      intro i q hi h
      rw [fu_s]
      refine ih (i + 1) (rYF (lA s.1 s.2.1) (rC s).2 (rB s).2.2 i q) (by omega) ?_
      exact lyZ_PI (n := i) (p := (lA s.1 s.2.1 i).toNatClampNeg) (o := de ((rC s).2 i)) (z := q.1) (t := (rB s).2.2 i) (by omega) (fun f hf => ⟨(hg i (by omega)).1.2 f hf, ((hg i (by omega)).2 f hf).2⟩) h
  have h0 : PI (rC s).1 := hI.cg (rC_mid hK hP)
  have h1 := key 4 0 ((rC s).1, 0) rfl h0
  rw [rD_eq]
  exact h1
theorem gsA_mid {n : Nat} {z : Nat → Int32} : mid (gsA n z) z := by
  have key : ∀ (k i : Nat) (y : Nat → Int32), mid (fu (gsF n) i k y) y := by
    intro k
    induction k with
    | zero => intro i y; rw [fu_0]; exact mid.rf
    | succ k ih =>
      intro i y
      rw [fu_s]
      exact (ih (i + 1) (gsF n i y)).tr (tM_mid.tr tM_mid)
  exact key _ _ _
theorem rT_PI (s : R5) (hK : KZ s.1) (hP : np s.1 ≤ 24) (hI : PI s.1) : PI (rT s).1 := by
  have h1 : mid (rE s) (rD s).1 := by
    rw [rE, fu_3]
    exact gsA_mid.tr (gsA_mid.tr gsA_mid)
  have e : (rT s).1 = upd (rE s) 10 (rE s 10 + 1) := by rw [rT]
  rw [e]
  exact (rD_PI hK hP hI).cg ((up_lo_mid (by omega)).tr h1)
