/-! THE SPEC, raw: what the reference's methods do to its rows, as functions (flat rows z, Int32 values) -/
def bi (b : Bool) : Int32 := if b then 1 else 0
theorem bi_nar (b : Bool) : narrow .boolean (.int (bi b)) = .int (bi b) := by cases b <;> rfl
theorem bi_0 {b : Bool} (h : bi b = 0) : b = false := by cases b with
  | false => rfl
  | true => exact absurd h (by decide)
theorem bi_1 {b : Bool} (h : ¬ bi b = 0) : b = true := by cases b with
  | false => exact absurd rfl h
  | true => rfl
def en : Option Nat → Int32
  | none => -1
  | some b => nI b
def fuR {σ : Type} (F : Nat → σ → σ) : Nat → Nat → σ → σ
  | _, 0, x => x
  | i, k + 1, x => fuR F (i + 1) k (F i x)
theorem fu_ex {σ : Type} (F : Nat → σ → σ) : ∃ f : Nat → Nat → σ → σ, (∀ i x, f i 0 x = x) ∧ ∀ i k x, f i (k + 1) x = f (i + 1) k (F i x) := ⟨fuR F, fun _ _ => rfl, fun _ _ _ => rfl⟩
/-- F at i, i + 1, .., in k steps (chosen, so that no unifier walks the steps) -/
noncomputable def fu {σ : Type} (F : Nat → σ → σ) : Nat → Nat → σ → σ := Classical.choose (fu_ex F)
theorem fu_0 {σ : Type} {F : Nat → σ → σ} {i : Nat} {x : σ} : fu F i 0 x = x := (Classical.choose_spec (fu_ex F)).1 i x
theorem fu_s {σ : Type} {F : Nat → σ → σ} {i k : Nat} {x : σ} : fu F i (k + 1) x = fu F (i + 1) k (F i x) := (Classical.choose_spec (fu_ex F)).2 i k x
theorem fu_4 {σ : Type} {F : Nat → σ → σ} {x : σ} : fu F 0 4 x = F 3 (F 2 (F 1 (F 0 x))) := by rw [fu_s, fu_s, fu_s, fu_s, fu_0]
theorem fu_3 {σ : Type} {F : Nat → σ → σ} {x : σ} : fu F 0 3 x = F 2 (F 1 (F 0 x)) := by rw [fu_s, fu_s, fu_s, fu_0]
/-- the first of i, i + 1, .., in k steps, that p says yes to -/
def ff (p : Nat → Bool) : Nat → Nat → Option Nat
  | _, 0 => none
  | i, k + 1 => if p i then some i else ff p (i + 1) k
def nf (z : Nat → Int32) : Nat := (z 5).toNatClampNeg
def np (z : Nat → Int32) : Nat := (z 6).toNatClampNeg
def wi (v lo hi : Int32) : Bool := !(decide (v < lo)) && !(decide (hi < v))
def cl (x : Int32) : Int32 := if 0 ≤ x then (if x ≤ 100 then x else 100) else 0
def tM (z : Nat → Int32) (n f : Nat) (d : Int32) : Nat → Int32 := upd z (216 + 8 * n + f) (cl (z (216 + 8 * n + f) + d))
def ap (a b : Int32) : Int32 := if b ≤ a then a - b else b - a
def gz (z : Nat → Int32) (x m : Int32) : Nat → Int32 := upd (upd z 7 (z 7 + (ap (z 9) x + m))) 9 x
def nx (s : Int32) : Int32 := ((1103515245 * s.toInt64 + 12345) &&& 2147483647).toInt32
def dz (z : Nat → Int32) : Nat → Int32 := upd z 8 (nx (z 8))
def dv (z : Nat → Int32) (m : Int32) : Int32 := nx (z 8) / 65536 - nx (z 8) / 65536 / m * m
def gv (z : Nat → Int32) (f : Nat) (kd : Int32) : Bool := decide (z (12 + 8 * f + 1) = kd) && !(decide (z (12 + 8 * f + 2) ≤ 0))
def bt (z : Nat → Int32) (n f t : Nat) : Bool := decide (0 < z (216 + 8 * n + f) - z (216 + 8 * n + t)) || (decide (z (216 + 8 * n + f) - z (216 + 8 * n + t) = 0) && !(decide (ap (z (12 + 8 * t + 0)) (z 9) ≤ ap (z (12 + 8 * f + 0)) (z 9))))
def csF (z : Nat → Int32) (n : Nat) (kd : Int32) (i : Nat) (o : Option Nat) : Option Nat := if gv z i kd && (match o with | none => true | some b => bt z n i b) then some i else o
noncomputable def cho (z : Nat → Int32) (n : Nat) (kd : Int32) : Option Nat := fu (csF z n kd) 0 (nf z) none
theorem en_ne {b N : Nat} (h : b < N) (hN : N ≤ 1000) : ¬ nI b = -1 := by
  intro e
  have h1 := nI_pos (n := b) (by omega)
  rw [e] at h1
  exact h1 (by decide)
theorem en_1 {o : Option Nat} (h : en o = -1) (hb : ∀ b, o = some b → b < 1000) : o = none := by
  cases o with
  | none => rfl
  | some b => exact absurd h (en_ne (hb b rfl) (Nat.le_refl _))
noncomputable def isA (ai : Nat → Int32) (n p : Nat) : Bool := fu (fun m b => b || decide (ai m = nI p)) 0 n false
noncomputable def apr (z : Nat → Int32) (n : Nat) (ai : Nat → Int32) (p : Nat) : Bool := decide ((z (196 + 5 * n + 0) >>> (z (76 + 5 * p + 1) &&& 31)) &&& 1 = 1) && !(decide (en (cho z n (z (76 + 5 * p + 1))) = -1)) && decide (z (76 + 5 * p + 2) = 0) && !(isA ai n p)
noncomputable def ao (z : Nat → Int32) (n : Nat) (ai : Nat → Int32) : Option Nat := ff (apr z n ai) 0 (np z)
noncomputable def lA (z : Nat → Int32) (ai : Nat → Int32) : Nat → Int32 := fu (fun n ai => upd ai n (en (ao z n ai))) 0 4 ai
/-! a try, a pick, a look, a laying, gossip, tours: raw -/
def ta (z : Nat → Int32) (f : Nat) : Nat → Int32 := gz z (z (12 + 8 * f + 0)) 2
def tb (z : Nat → Int32) (f : Nat) : Nat → Int32 := upd (ta z f) (12 + 8 * f + 5) (ta z f (12 + 8 * f + 5) + 1)
def tc (z : Nat → Int32) (n f : Nat) : Nat → Int32 := upd (tb z f) (196 + 5 * n + 1) (tb z f (196 + 5 * n + 1) + 1)
def td (z : Nat → Int32) (n f : Nat) : Nat → Int32 := dz (tc z n f)
/-- the try is a miss -/
def tms (z : Nat → Int32) (n f : Nat) : Bool := !(decide (td z n f (12 + 8 * f + 3) ≤ dv (tc z n f) 100))
def te (z : Nat → Int32) (n f : Nat) : Nat → Int32 := tM (td z n f) n f (-(td z n f 1))
def tg (z : Nat → Int32) (n f : Nat) : Nat → Int32 := upd (te z n f) (12 + 8 * f + 6) (te z n f (12 + 8 * f + 6) + 1)
def thZ (z : Nat → Int32) (n f : Nat) : Nat → Int32 := upd (tg z n f) (196 + 5 * n + 2) (tg z n f (196 + 5 * n + 2) + 1)
def ti (z : Nat → Int32) (n f : Nat) : Nat → Int32 := upd (td z n f) (12 + 8 * f + 2) (td z n f (12 + 8 * f + 2) - 1)
def tj (z : Nat → Int32) (n f : Nat) : Nat → Int32 := tM (ti z n f) n f (ti z n f 2)
def tk (z : Nat → Int32) (n f : Nat) : Nat → Int32 := dz (tj z n f)
def tT (z : Nat → Int32) (n f : Nat) : Int32 := if tk z n f (12 + 8 * f + 4) ≤ dv (tj z n f) 100 then 0 else 1
def trZ (z : Nat → Int32) (n f : Nat) : Nat → Int32 := if tms z n f then thZ z n f else tk z n f
def trP (z : Nat → Int32) (n f : Nat) (pa : Nat → Int32) : Nat → Int32 := if tms z n f then pa else upd pa n (nI f)
def trT (z : Nat → Int32) (n f : Nat) (tu : Nat → Int32) : Nat → Int32 := if tms z n f then tu else upd tu n (tT z n f)
abbrev RS : Type := (Nat → Int32) × (Nat → Int32) × (Nat → Int32)
/-- picks of nozzle n for the place p: as many tries as m, while b -/
noncomputable def pkL (n p : Nat) : Nat → Bool → RS → RS
  | 0, _, s => s
  | m + 1, b, s => match b, cho s.1 n (s.1 (76 + 5 * p + 1)) with
    | false, _ => s
    | true, none => s
    | true, some f => pkL n p m (tms s.1 n f) (trZ s.1 n f, trP s.1 n f s.2.1, trT s.1 n f s.2.2)
noncomputable def pkA (n : Nat) (o : Option Nat) (s : RS) : RS := match o with
  | none => (s.1, upd s.2.1 n (-1), s.2.2)
  | some p => pkL n p ((s.1 0).toNatClampNeg + 1) true (s.1, upd s.2.1 n (-1), s.2.2)
/-- a look -/
def lka (z : Nat → Int32) (n f : Nat) : Nat → Int32 := tM (dz z) n f (-(dz z 1))
def lkb (z : Nat → Int32) (n f : Nat) : Nat → Int32 := upd (lka z n f) (12 + 8 * f + 7) (lka z n f (12 + 8 * f + 7) + 1)
def lkc (z : Nat → Int32) (n f : Nat) : Nat → Int32 := upd (lkb z n f) (196 + 5 * n + 4) (lkb z n f (196 + 5 * n + 4) + 1)
def lkS (z : Nat → Int32) (t : Int32) : Bool := !(decide (dz z 3 ≤ dv z 100)) && decide (t = 1)
def lkZ (n : Nat) (o : Option Nat) (z : Nat → Int32) (t : Int32) : Nat → Int32 := match o with
  | none => z
  | some f => if lkS z t then lkc z n f else dz z
def lkP (n : Nat) (o : Option Nat) (z : Nat → Int32) (t : Int32) (pa : Nat → Int32) : Nat → Int32 := match o with
  | none => pa
  | some _ => if lkS z t then upd pa n (-1) else pa
/-- a laying at p of f's part -/
def lya (z : Nat → Int32) (p : Nat) : Nat → Int32 := gz z (z (76 + 5 * p + 0)) 1
def lyb (z : Nat → Int32) (p : Nat) (t : Int32) : Nat → Int32 := upd (lya z p) (76 + 5 * p + 2) (if t = 1 then 2 else 1)
def lyc (z : Nat → Int32) (p : Nat) (t : Int32) (n : Nat) : Nat → Int32 := upd (lyb z p t) (76 + 5 * p + 3) (nI n)
def lyd (z : Nat → Int32) (p : Nat) (t : Int32) (n f : Nat) : Nat → Int32 := upd (lyc z p t n) (76 + 5 * p + 4) (nI f)
def lye (z : Nat → Int32) (p : Nat) (t : Int32) (n f : Nat) : Nat → Int32 := upd (lyd z p t n f) (196 + 5 * n + 3) (lyd z p t n f (196 + 5 * n + 3) + 1)
/-- gossip of n and n + 1 -/
def gsF (n f : Nat) (z : Nat → Int32) : Nat → Int32 := tM (tM z n f ((z (216 + 8 * (n + 1) + f) - z (216 + 8 * n + f)) * z 4 / 200)) (n + 1) f (-((z (216 + 8 * (n + 1) + f) - z (216 + 8 * n + f)) * z 4 / 200))
noncomputable def gsA (n : Nat) (z : Nat → Int32) : Nat → Int32 := fu (gsF n) 0 (nf z) z
/-! what stays -/
theorem upd_ne {f : Nat → Int32} {k j : Nat} {x : Int32} (h : j ≠ k) : upd f k x j = f j := by simp [upd, h]
theorem upd_eq {f : Nat → Int32} {k : Nat} {x : Int32} : upd f k x k = x := by simp [upd]
theorem tM_lo {z : Nat → Int32} {n f : Nat} {d : Int32} {j : Nat} (h : j < 216) : tM z n f d j = z j := upd_ne (by omega)
theorem gz_lo {z : Nat → Int32} {x m : Int32} {j : Nat} (h : j ≠ 7) (h2 : j ≠ 9) : gz z x m j = z j := by rw [gz, upd_ne h2, upd_ne h]
theorem dz_lo {z : Nat → Int32} {j : Nat} (h : j ≠ 8) : dz z j = z j := upd_ne h
theorem tc_lo {z : Nat → Int32} {n f j : Nat} (h : j < 7) : tc z n f j = z j := by
  rw [tc, upd_ne (by omega), tb, upd_ne (by omega), ta, gz_lo (by omega) (by omega)]
theorem td_lo {z : Nat → Int32} {n f j : Nat} (h : j < 7) : td z n f j = z j := by rw [td, dz_lo (by omega), tc_lo h]
theorem th_lo {z : Nat → Int32} {n f j : Nat} (h : j < 7) : thZ z n f j = z j := by
  rw [thZ, upd_ne (by omega), tg, upd_ne (by omega), te, tM_lo (by omega), td_lo h]
theorem tk_lo {z : Nat → Int32} {n f j : Nat} (h : j < 7) : tk z n f j = z j := by
  rw [tk, dz_lo (by omega), tj, tM_lo (by omega), ti, upd_ne (by omega), td_lo h]
theorem trZ_lo {z : Nat → Int32} {n f j : Nat} (h : j < 7) : trZ z n f j = z j := by
  unfold trZ
  split
  · exact th_lo h
  · exact tk_lo h
theorem nf_eq {z y : Nat → Int32} (h : z 5 = y 5) : nf z = nf y := by unfold nf; rw [h]
theorem np_eq {z y : Nat → Int32} (h : z 6 = y 6) : np z = np y := by unfold np; rw [h]
theorem csF_or {z : Nat → Int32} {n : Nat} {kd : Int32} {i : Nat} {o : Option Nat} : csF z n kd i o = some i ∨ csF z n kd i o = o := by
  rcases Decidable.em ((gv z i kd && (match o with | none => true | some b => bt z n i b)) = true) with h | h
  · exact Or.inl (if_pos h)
  · exact Or.inr (if_neg h)
theorem fu_lt {z : Nat → Int32} {n : Nat} {kd : Int32} : ∀ (k i : Nat) (o : Option Nat) (N : Nat), i + k = N → (∀ b, o = some b → b < N) → ∀ b, fu (csF z n kd) i k o = some b → b < N
  | 0, i, o, N, h, ho, b, hb => ho b (by rw [fu_0] at hb; exact hb)
  | k + 1, i, o, N, h, ho, b, hb => by
    rw [fu_s] at hb
    refine fu_lt k (i + 1) (csF z n kd i o) N (by omega) (fun c hc => ?_) b hb
    rcases csF_or (z := z) (n := n) (kd := kd) (i := i) (o := o) with e | e
    · rw [e] at hc
      cases hc
      omega
    · rw [e] at hc
      exact ho c hc
theorem cho_lt {z : Nat → Int32} {n : Nat} {kd : Int32} {f : Nat} (h : cho z n kd = some f) : f < nf z := fu_lt (nf z) 0 none (nf z) (by omega) (fun b hb => by cases hb) f h
theorem ff_lt {p : Nat → Bool} : ∀ (k i : Nat) (b : Nat), ff p i k = some b → b < i + k
  | 0, i, b, h => by cases h
  | k + 1, i, b, h => by
    unfold ff at h
    split at h
    · cases h; omega
    · have := ff_lt k (i + 1) b h
      omega
theorem pkL_f {n p m : Nat} {s : RS} : pkL n p m false s = s := by cases m <;> rfl
/-- a row's number read as a place or a feeder: -1 is none -/
def de (x : Int32) : Option Nat := if x = -1 then none else some x.toNatClampNeg
theorem de_en {o : Option Nat} (h : ∀ b, o = some b → b < 1000) : de (en o) = o := by
  cases o with
  | none => rfl
  | some b =>
    have hb := h b rfl
    unfold de
    rw [show en (some b) = nI b from rfl, if_neg (en_ne hb (Nat.le_refl _)), nI_clamp (by omega)]
def okN (N : Nat) (x : Int32) : Prop := x = en (de x) ∧ ∀ b, de x = some b → b < N
theorem okN_en {o : Option Nat} {N : Nat} (hN : N ≤ 1000) (h : ∀ b, o = some b → b < N) : okN N (en o) := by
  have e := de_en (o := o) (fun b hb => by have := h b hb; omega)
  exact ⟨by rw [e], fun b hb => h b (by rw [← e]; exact hb)⟩
theorem okN_m1 {N : Nat} (hN : N ≤ 1000) : okN N (-1) := okN_en (o := none) hN (fun b h => by cases h)
theorem okN_nI {b N : Nat} (hN : N ≤ 1000) (h : b < N) : okN N (nI b) := okN_en (o := some b) hN (fun c h2 => by cases h2; exact h)
/-- what walks need of a row z: its counts and its retries -/
def KZ (z : Nat → Int32) : Prop := z 5 = nI (nf z) ∧ nf z ≤ 8 ∧ z 6 = nI (np z) ∧ np z ≤ 24 ∧ z 0 = nI (z 0).toNatClampNeg ∧ (z 0).toNatClampNeg ≤ 5
def lo7 (y z : Nat → Int32) : Prop := ∀ k, k < 7 → y k = z k
theorem lo7.rf {z : Nat → Int32} : lo7 z z := fun _ _ => rfl
theorem lo7.tr {x y z : Nat → Int32} (h : lo7 x y) (h2 : lo7 y z) : lo7 x z := fun k hk => (h k hk).trans (h2 k hk)
theorem KZ.lo {y z : Nat → Int32} (h : KZ z) (e : lo7 y z) : KZ y := by
  obtain ⟨h1, h2, h3, h4, h5, h6⟩ := h
  have e0 := e 0 (by decide); have e5 := e 5 (by decide); have e6 := e 6 (by decide)
  exact ⟨by rw [e5, nf_eq e5]; exact h1, by rw [nf_eq e5]; exact h2, by rw [e6, np_eq e6]; exact h3, by rw [np_eq e6]; exact h4, by rw [e0]; exact h5, by rw [e0]; exact h6⟩
theorem trZ_lo7 {z : Nat → Int32} {n f : Nat} : lo7 (trZ z n f) z := fun _ h => trZ_lo h
theorem pkL_lo7 {n p : Nat} : ∀ (m : Nat) (b : Bool) (s : RS), lo7 (pkL n p m b s).1 s.1
  | 0, _, s => lo7.rf
  | m + 1, false, s => lo7.rf
  | m + 1, true, s => by
    unfold pkL
    cases h : cho s.1 n (s.1 (76 + 5 * p + 1)) with
    | none => exact lo7.rf
    | some f => exact (pkL_lo7 m _ _).tr trZ_lo7
theorem pkA_lo7 {n : Nat} {o : Option Nat} {s : RS} : lo7 (pkA n o s).1 s.1 := by
  cases o with
  | none => exact lo7.rf
  | some p => exact pkL_lo7 _ _ _
theorem lkZ_lo7 {n : Nat} {o : Option Nat} {z : Nat → Int32} {t : Int32} : lo7 (lkZ n o z t) z := by
  intro k hk
  cases o with
  | none => rfl
  | some f =>
    show (if lkS z t then lkc z n f else dz z) k = z k
    split
    · rw [lkc, upd_ne (by omega), lkb, upd_ne (by omega), lka, tM_lo (by omega), dz_lo (by omega)]
    · exact dz_lo (by omega)
def lyZ (n p : Nat) (o : Option Nat) (z : Nat → Int32) (t : Int32) : Nat → Int32 := match o with
  | none => z
  | some f => lye z p t n f
def lyR (o : Option Nat) : Int32 := match o with
  | none => 0
  | some _ => 1
theorem lyZ_lo7 {n p : Nat} {o : Option Nat} {z : Nat → Int32} {t : Int32} : lo7 (lyZ n p o z t) z := by
  intro k hk
  cases o with
  | none => rfl
  | some f =>
    show lye z p t n f k = z k
    rw [lye, upd_ne (by omega), lyd, upd_ne (by omega), lyc, upd_ne (by omega), lyb, upd_ne (by omega), lya, gz_lo (by omega) (by omega)]
theorem gsF_lo7 {n f : Nat} {z : Nat → Int32} : lo7 (gsF n f z) z := fun k hk => by rw [gsF, tM_lo (by omega), tM_lo (by omega)]
theorem fu_lo7 {F : Nat → (Nat → Int32) → Nat → Int32} (h : ∀ i y, lo7 (F i y) y) : ∀ (k i : Nat) (z : Nat → Int32), lo7 (fu F i k z) z
  | 0, _, _ => by rw [fu_0]; exact lo7.rf
  | k + 1, i, z => by rw [fu_s]; exact (fu_lo7 h k (i + 1) (F i z)).tr (h i z)
theorem gsA_lo7 {n : Nat} {z : Nat → Int32} : lo7 (gsA n z) z := fu_lo7 (fun _ _ => gsF_lo7) _ _ _
/-! a tour -/
noncomputable def rPF (A : Nat → Int32) (n : Nat) (s : RS) : RS := pkA n (de (A n)) s
abbrev R2 : Type := (Nat → Int32) × (Nat → Int32)
def rLF (tu : Nat → Int32) (n : Nat) (s : R2) : R2 := (lkZ n (de (s.2 n)) s.1 (tu n), lkP n (de (s.2 n)) s.1 (tu n) s.2)
def rYF (A pa tu : Nat → Int32) (n : Nat) (s : (Nat → Int32) × Int32) : (Nat → Int32) × Int32 := (lyZ n (A n).toNatClampNeg (de (pa n)) s.1 (tu n), s.2 + lyR (de (pa n)))
abbrev R5 : Type := (Nat → Int32) × (Nat → Int32) × (Nat → Int32) × (Nat → Int32)
noncomputable def rB (s : R5) : RS := fu (rPF (lA s.1 s.2.1)) 0 4 (s.1, s.2.2.1, s.2.2.2)
noncomputable def rC (s : R5) : R2 := fu (rLF (rB s).2.2) 0 4 ((rB s).1, (rB s).2.1)
noncomputable def rD (s : R5) : (Nat → Int32) × Int32 := fu (rYF (lA s.1 s.2.1) (rC s).2 (rB s).2.2) 0 4 ((rC s).1, 0)
noncomputable def rE (s : R5) : Nat → Int32 := fu gsA 0 3 (rD s).1
noncomputable def rT (s : R5) : R5 := (upd (rE s) 10 (rE s 10 + 1), lA s.1 s.2.1, (rC s).2, (rB s).2.2)
noncomputable def rTs (t : Nat) (s : R5 × Int32) : R5 × Int32 := fu (fun _ s => (rT s.1, s.2 + (rD s.1).2)) 0 t s
/-- which numbers aims, parts hold behind the steps -/
theorem lA_ok {z ai : Nat → Int32} (h : np z ≤ 24) {k : Nat} (hk : k < 4) : okN 24 (lA z ai k) := by
  have key : ∀ y n, okN 24 (en (ao z n y)) := fun y n => okN_en (by decide) (fun b hb => by have := ff_lt _ _ _ hb; omega)
  unfold lA
  rw [fu_4]
  rcases (show k = 0 ∨ k = 1 ∨ k = 2 ∨ k = 3 by omega) with rfl | rfl | rfl | rfl
  · rw [upd_ne (by decide), upd_ne (by decide), upd_ne (by decide), upd_eq]; exact key _ _
  · rw [upd_ne (by decide), upd_ne (by decide), upd_eq]; exact key _ _
  · rw [upd_ne (by decide), upd_eq]; exact key _ _
  · rw [upd_eq]; exact key _ _
/-! inspections, counts, copies, saved rows: raw -/
def emz (z : Nat → Int32) (p : Nat) : Nat → Int32 := upd (upd (upd z (76 + 5 * p + 2) 0) (76 + 5 * p + 3) (-1)) (76 + 5 * p + 4) (-1)
def pTF (z : Nat → Int32) (x : Int32) (p : Nat) (c : Int32) : Int32 := c + (if z (76 + 5 * p + 2) = x then 1 else 0)
noncomputable def pT (z : Nat → Int32) (x : Int32) : Int32 := fu (pTF z x) 0 (np z) 0
def inF (p : Nat) (s : (Nat → Int32) × Int32) : (Nat → Int32) × Int32 := if s.1 (76 + 5 * p + 2) = 2 then (emz (tM s.1 (s.1 (76 + 5 * p + 3)).toNatClampNeg (s.1 (76 + 5 * p + 4)).toNatClampNeg (-(s.1 1))) p, s.2 + 1) else s
noncomputable def inL (z : Nat → Int32) : (Nat → Int32) × Int32 := fu inF 0 (np z) (z, 0)
def inA (z : Nat → Int32) (c : Int32) : Nat → Int32 := upd z 7 (z 7 + 10)
noncomputable def inZ (z : Nat → Int32) : Nat → Int32 := upd (upd (inL z).1 7 ((inL z).1 7 + 10)) 11 (upd (inL z).1 7 ((inL z).1 7 + 10) 11 + (inL z).2)
/-- a wrong place tells its nozzle and its feeder -/
def PI (z : Nat → Int32) : Prop := ∀ p, p < 24 → z (76 + 5 * p + 2) = 2 → z (76 + 5 * p + 3) = nI (z (76 + 5 * p + 3)).toNatClampNeg ∧ (z (76 + 5 * p + 3)).toNatClampNeg < 4 ∧ z (76 + 5 * p + 4) = nI (z (76 + 5 * p + 4)).toNatClampNeg ∧ (z (76 + 5 * p + 4)).toNatClampNeg < 8
theorem tM_pl {z : Nat → Int32} {n f : Nat} {d : Int32} {p k : Nat} (hp : p < 24) (hk : k < 5) : tM z n f d (76 + 5 * p + k) = z (76 + 5 * p + k) := tM_lo (by omega)
theorem emz_lo {z : Nat → Int32} {p j : Nat} (h : j < 76) : emz z p j = z j := by rw [emz, upd_ne (by omega), upd_ne (by omega), upd_ne (by omega)]
theorem emz_ne {z : Nat → Int32} {p q k : Nat} (h : q ≠ p) (hk : k < 5) : emz z p (76 + 5 * q + k) = z (76 + 5 * q + k) := by rw [emz, upd_ne (by omega), upd_ne (by omega), upd_ne (by omega)]
theorem emz_2 {z : Nat → Int32} {p : Nat} : emz z p (76 + 5 * p + 2) = 0 := by rw [emz, upd_ne (by omega), upd_ne (by omega), upd_eq]
theorem PI.em {z : Nat → Int32} (h : PI z) (p : Nat) : PI (emz z p) := by
  intro q hq h2
  by_cases e : q = p
  · subst e; rw [emz_2] at h2; exact absurd h2 (by decide)
  · rw [emz_ne e (by omega)] at h2 ⊢
    rw [emz_ne e (by omega)]
    exact h q hq h2
theorem PI.tm {z : Nat → Int32} (h : PI z) (n f : Nat) (d : Int32) : PI (tM z n f d) := by
  intro q hq h2
  rw [tM_pl hq (by omega)] at h2 ⊢
  rw [tM_pl hq (by omega)]
  exact h q hq h2
theorem inF_lo7 {p : Nat} {s : (Nat → Int32) × Int32} : lo7 (inF p s).1 s.1 := by
  intro k hk
  unfold inF
  split
  · show emz _ p k = _
    rw [emz_lo (by omega), tM_lo (by omega)]
  · rfl
theorem inF_PI {p : Nat} {s : (Nat → Int32) × Int32} (h : PI s.1) : PI (inF p s).1 := by
  unfold inF
  split
  · exact (h.tm _ _ _).em _
  · exact h
/-- the first n places out of f -/
def cpF (f : Nat → Int32) (k : Nat) (y : Nat → Int32) : Nat → Int32 := upd y k (f k)
theorem cpF_at {f : Nat → Int32} : ∀ (k i : Nat) (y : Nat → Int32) (j : Nat), fu (cpF f) i k y j = if i ≤ j ∧ j < i + k then f j else y j
  | 0, i, y, j => by rw [if_neg (by omega), fu_0]
  | k + 1, i, y, j => by
    rw [fu_s, cpF_at k (i + 1) (cpF f i y) j]
    by_cases h : i + 1 ≤ j ∧ j < i + 1 + k
    · rw [if_pos h, if_pos (by omega)]
    · rw [if_neg h]
      by_cases h2 : j = i
      · subst h2; rw [if_pos (by omega)]; simp [cpF, upd]
      · rw [if_neg (by omega)]; simp [cpF, upd, h2]
def shF (k : Nat) (y : Nat → Int32) : Nat → Int32 := upd y (k - 248) (y k)
def svM (n : Nat) : Nat := if n = 6 then 5 else n
noncomputable def svH (n : Nat) (hi : Nat → Int32) : Nat → Int32 := if n = 6 then fu shF 248 1240 hi else hi
def svF (z : Nat → Int32) (m k : Nat) (y : Nat → Int32) : Nat → Int32 := upd y (248 * m + k) (z k)
noncomputable def svA (n : Nat) (z hi : Nat → Int32) : Nat → Int32 := fu (svF z (svM n)) 0 248 (svH n hi)
theorem svM_le {n : Nat} (h : n ≤ 6) : svM n ≤ 5 := by unfold svM; split <;> omega
/-! what the picks and the looks leave in the row of parts -/
theorem trP_ne {z : Nat → Int32} {n f k : Nat} {pa : Nat → Int32} (h : k ≠ n) : trP z n f pa k = pa k := by
  unfold trP
  split
  · rfl
  · exact upd_ne h
theorem pkL_ne {n p k : Nat} (h : k ≠ n) : ∀ (m : Nat) (b : Bool) (s : RS), (pkL n p m b s).2.1 k = s.2.1 k
  | 0, _, s => rfl
  | m + 1, false, s => rfl
  | m + 1, true, s => by
    unfold pkL
    cases hc : cho s.1 n (s.1 (76 + 5 * p + 1)) with
    | none => rfl
    | some f => exact (pkL_ne h m _ _).trans (trP_ne h)
theorem pkL_ok {n p : Nat} : ∀ (m : Nat) (b : Bool) (s : RS), KZ s.1 → okN 8 (s.2.1 n) → okN 8 ((pkL n p m b s).2.1 n)
  | 0, _, s, _, h => h
  | m + 1, false, s, _, h => h
  | m + 1, true, s, hK, h => by
    unfold pkL
    cases hc : cho s.1 n (s.1 (76 + 5 * p + 1)) with
    | none => exact h
    | some f =>
      refine pkL_ok m _ _ (hK.lo trZ_lo7) ?_
      show okN 8 (trP s.1 n f s.2.1 n)
      unfold trP
      split
      · exact h
      · rw [upd_eq]
        have h1 := cho_lt hc
        have h2 := hK.2.1
        exact okN_nI (by decide) (by omega)
theorem pkA_ne {n k : Nat} (h : k ≠ n) {o : Option Nat} {s : RS} : (pkA n o s).2.1 k = s.2.1 k := by
  cases o with
  | none => exact upd_ne h
  | some p => exact (pkL_ne h _ _ _).trans (upd_ne h)
theorem pkA_ok {n : Nat} {o : Option Nat} {s : RS} (hK : KZ s.1) : okN 8 ((pkA n o s).2.1 n) ∧ (o = none → (pkA n o s).2.1 n = -1) := by
  cases o with
  | none => exact ⟨by show okN 8 (upd s.2.1 n (-1) n); rw [upd_eq]; exact okN_m1 (by decide), fun _ => upd_eq⟩
  | some p => exact ⟨pkL_ok _ _ _ hK (by show okN 8 (upd s.2.1 n (-1) n); rw [upd_eq]; exact okN_m1 (by decide)), fun h => by cases h⟩
def goodP (A : Nat → Int32) (j : Nat) (x : Int32) : Prop := okN 8 x ∧ ∀ f, de x = some f → A j = nI (A j).toNatClampNeg ∧ (A j).toNatClampNeg < 24
theorem goodP_m1 {A : Nat → Int32} {j : Nat} : goodP A j (-1) := ⟨okN_m1 (by decide), fun f h => by rw [show de (-1) = none from rfl] at h; cases h⟩
theorem okN_some {x : Int32} {N p : Nat} (hN : N ≤ 1000) (h : okN N x) (hp : de x = some p) : x = nI x.toNatClampNeg ∧ x.toNatClampNeg < N := by
  have h1 := h.1
  rw [hp] at h1
  have h2 := h.2 p hp
  have h3 : x.toNatClampNeg = p := by rw [h1]; exact nI_clamp (by omega)
  rw [h3]
  exact ⟨h1, h2⟩
theorem picks_ok {A : Nat → Int32} (hA : ∀ k, k < 4 → okN 24 (A k)) : ∀ (k i : Nat) (s : RS), i + k = 4 → KZ s.1 → (∀ j, j < i → goodP A j (s.2.1 j)) → ∀ j, j < 4 → goodP A j ((fu (rPF A) i k s).2.1 j)
  | 0, i, s, hi, hK, h, j, hj => by rw [fu_0]; exact h j (by omega)
  | k + 1, i, s, hi, hK, h, j, hj => by
    rw [fu_s]
    refine picks_ok hA k (i + 1) (rPF A i s) (by omega) (hK.lo pkA_lo7) (fun j hj => ?_) j hj
    have e : (rPF A i s).2.1 j = (pkA i (de (A i)) s).2.1 j := rfl
    rw [e]
    by_cases hji : j = i
    · subst hji
      obtain ⟨a1, a2⟩ := pkA_ok (n := j) (o := de (A j)) (s := s) hK
      refine ⟨a1, fun f hf => ?_⟩
      cases ho : de (A j) with
      | none =>
        rw [ho] at a2 hf
        rw [a2 rfl] at hf
        cases hf
      | some p => exact okN_some (by decide) (hA j (by omega)) ho
    · rw [pkA_ne hji]
      exact h j (by omega)
theorem rB_good {s : R5} (hK : KZ s.1) (hP : np s.1 ≤ 24) : ∀ k, k < 4 → goodP (lA s.1 s.2.1) k ((rB s).2.1 k) := picks_ok (fun k hk => lA_ok hP hk) 4 0 _ rfl hK (fun j hj => absurd hj (Nat.not_lt_zero _))
theorem lkP_or {n : Nat} {o : Option Nat} {z : Nat → Int32} {t : Int32} {pa : Nat → Int32} (k : Nat) : lkP n o z t pa k = pa k ∨ lkP n o z t pa k = -1 := by
  cases o with
  | none => exact Or.inl rfl
  | some f =>
    show (if lkS z t then upd pa n (-1) else pa) k = pa k ∨ (if lkS z t then upd pa n (-1) else pa) k = -1
    split
    · by_cases h : k = n
      · subst h; exact Or.inr upd_eq
      · exact Or.inl (upd_ne h)
    · exact Or.inl rfl
theorem rLF_ok {tu : Nat → Int32} {i : Nat} {q : R2} (h : ∀ k, k < 4 → okN 8 (q.2 k)) : ∀ k, k < 4 → okN 8 ((rLF tu i q).2 k) := by
  intro k hk
  show okN 8 (lkP i (de (q.2 i)) q.1 (tu i) q.2 k)
  rcases lkP_or (n := i) (o := de (q.2 i)) (z := q.1) (t := tu i) (pa := q.2) k with e | e
  · rw [e]; exact h k hk
  · rw [e]; exact okN_m1 (by decide)
theorem looks_ok {A tu : Nat → Int32} : ∀ (k i : Nat) (q : R2), (∀ j, j < 4 → goodP A j (q.2 j)) → ∀ j, j < 4 → goodP A j ((fu (rLF tu) i k q).2 j)
  | 0, i, q, h, j, hj => by rw [fu_0]; exact h j hj
  | k + 1, i, q, h, j, hj => by
    rw [fu_s]
    refine looks_ok k (i + 1) (rLF tu i q) (fun j hj => ?_) j hj
    show goodP A j (lkP i (de (q.2 i)) q.1 (tu i) q.2 j)
    rcases lkP_or (n := i) (o := de (q.2 i)) (z := q.1) (t := tu i) (pa := q.2) j with e | e
    · rw [e]; exact h j hj
    · rw [e]; exact goodP_m1
theorem rB_ok {s : R5} (hK : KZ s.1) (hP : np s.1 ≤ 24) : ∀ k, k < 4 → okN 8 ((rB s).2.1 k) ∧ True := fun k hk => ⟨(rB_good hK hP k hk).1, trivial⟩
theorem rC_ok {s : R5} (hK : KZ s.1) (hP : np s.1 ≤ 24) : ∀ k, k < 4 → goodP (lA s.1 s.2.1) k ((rC s).2 k) := looks_ok 4 0 _ (rB_good hK hP)
theorem fuP_lo7 {σ : Type} {F : Nat → σ → σ} (pr : σ → Nat → Int32) (h : ∀ i y, lo7 (pr (F i y)) (pr y)) : ∀ (k i : Nat) (s : σ), lo7 (pr (fu F i k s)) (pr s)
  | 0, _, _ => by rw [fu_0]; exact lo7.rf
  | k + 1, i, s => by rw [fu_s]; exact (fuP_lo7 pr h k (i + 1) (F i s)).tr (h i s)
theorem rPF_lo7 {A : Nat → Int32} {i : Nat} {s : RS} : lo7 (rPF A i s).1 s.1 := pkA_lo7 (n := i) (o := de (A i)) (s := s)
theorem rLF_lo7 {tu : Nat → Int32} {i : Nat} {s : R2} : lo7 (rLF tu i s).1 s.1 := lkZ_lo7 (n := i) (o := de (s.2 i)) (z := s.1) (t := tu i)
theorem rYF_lo7 {A pa tu : Nat → Int32} {i : Nat} {s : (Nat → Int32) × Int32} : lo7 (rYF A pa tu i s).1 s.1 := lyZ_lo7 (n := i) (p := (A i).toNatClampNeg) (o := de (pa i)) (z := s.1) (t := tu i)
theorem rB_lo7 (s : R5) : lo7 (rB s).1 s.1 := fuP_lo7 (F := rPF (lA s.1 s.2.1)) (fun q : RS => q.1) (fun _ _ => rPF_lo7) 4 0 (s.1, s.2.2.1, s.2.2.2)
theorem rC_lo7 (s : R5) : lo7 (rC s).1 s.1 := (fuP_lo7 (F := rLF (rB s).2.2) (fun q : R2 => q.1) (fun _ _ => rLF_lo7) 4 0 ((rB s).1, (rB s).2.1)).tr (rB_lo7 s)
theorem fuY_lo7 {A pa tu : Nat → Int32} : ∀ (k i : Nat) (s : (Nat → Int32) × Int32), lo7 (fu (rYF A pa tu) i k s).1 s.1
  | 0, _, _ => by rw [fu_0]; exact lo7.rf
  | k + 1, i, s => by rw [fu_s]; exact (fuY_lo7 k (i + 1) (rYF A pa tu i s)).tr rYF_lo7
theorem fuY_lo7p {A pa tu : Nat → Int32} (k i : Nat) (z : Nat → Int32) (c : Int32) : lo7 (fu (rYF A pa tu) i k (z, c)).1 z := fuY_lo7 k i (z, c)
theorem rD_eq (s : R5) : rD s = fu (rYF (lA s.1 s.2.1) (rC s).2 (rB s).2.2) 0 4 ((rC s).1, 0) := by
  unfold rD
  rfl
theorem rD_lo7b (s : R5) (q : (Nat → Int32) × Int32) (h : rD s = q) (k : Nat) (hk : k < 7) (h2 : lo7 q.1 (rC s).1) : (rD s).1 k = s.1 k := by
  rw [h, h2 k hk]
  exact rC_lo7 s k hk
theorem rD_lo7 (s : R5) : lo7 (rD s).1 s.1 := fun k hk => rD_lo7b s _ (rD_eq s) k hk (fuY_lo7p 4 0 (rC s).1 0)
theorem rE_lo7 (s : R5) : lo7 (rE s) s.1 := by
  have h := fu_lo7 (F := gsA) (fun _ _ => gsA_lo7) 3 0 (rD s).1
  rw [← rE] at h
  exact h.tr (rD_lo7 s)
theorem rT_lo7 (s : R5) : lo7 (rT s).1 s.1 := by
  intro k hk
  have e : (rT s).1 = upd (rE s) 10 (rE s 10 + 1) := by rw [rT]
  rw [e, upd_ne (by omega)]
  exact rE_lo7 s k hk
