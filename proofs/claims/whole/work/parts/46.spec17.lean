/-! bits of masks; the class's aims are the reference's -/
theorem bq_s {x : Int32} {j : Nat} (hj : j < 32) : ((x >>> (nI j &&& 31)) &&& 1).toBitVec = BitVec.setWidth 32 (BitVec.ofBool (x.toBitVec.getLsbD j)) := by
  have e : ((nI j &&& 31).toBitVec.smod 32).toNat = j := by
    have h : ∀ k : Fin 32, ((nI k.1 &&& 31).toBitVec.smod 32).toNat = k.1 := by decide +kernel
    exact h ⟨j, hj⟩
  rw [Int32.toBitVec_and, Int32.toBitVec_shiftRight]
  show (x.toBitVec.sshiftRight ((nI j &&& 31).toBitVec.smod 32).toNat) &&& 1#32 = _
  rw [e, BitVec.and_one_eq_setWidth_ofBool_getLsbD, BitVec.getLsbD_sshiftRight]
  congr 2
  rw [Nat.add_zero, if_pos hj]; rfl
theorem bq_1 {x : Int32} {j : Nat} (hj : j < 32) : decide ((x >>> (nI j &&& 31)) &&& 1 = 1) = x.toBitVec.getLsbD j := by
  have e := bq_s (x := x) hj
  cases h : x.toBitVec.getLsbD j with
  | true => rw [h] at e; exact decide_eq_true (Int32.toBitVec_inj.mp (e.trans (by decide)))
  | false => rw [h] at e; exact decide_eq_false (fun q => by rw [q] at e; exact absurd e (by decide))
theorem bq_0 {x : Int32} {j : Nat} (hj : j < 32) : decide ((x >>> (nI j &&& 31)) &&& 1 = 0) = !x.toBitVec.getLsbD j := by
  have e := bq_s (x := x) hj
  cases h : x.toBitVec.getLsbD j with
  | false => rw [h] at e; exact decide_eq_true (Int32.toBitVec_inj.mp (e.trans (by decide)))
  | true => rw [h] at e; exact decide_eq_false (fun q => by rw [q] at e; exact absurd e (by decide))
theorem bq_l {i j : Nat} (hi : i < 32) (hj : j < 32) : ((1 : Int32) <<< (nI i &&& 31)).toBitVec.getLsbD j = decide (i = j) := by
  have h : ∀ a b : Fin 32, ((1 : Int32) <<< (nI a.1 &&& 31)).toBitVec.getLsbD b.1 = decide (a.1 = b.1) := by decide +kernel
  exact h ⟨i, hi⟩ ⟨j, hj⟩
theorem bq_or {x y : Int32} {j : Nat} : (x ||| y).toBitVec.getLsbD j = (x.toBitVec.getLsbD j || y.toBitVec.getLsbD j) := by
  rw [Int32.toBitVec_or, BitVec.getLsbD_or]
theorem bq_an {x y : Int32} {j : Nat} : (x &&& y).toBitVec.getLsbD j = (x.toBitVec.getLsbD j && y.toBitVec.getLsbD j) := by
  rw [Int32.toBitVec_and, BitVec.getLsbD_and]
theorem nI_ij {a b : Nat} (ha : a < 2 ^ 31) (hb : b < 2 ^ 31) (h : nI a = nI b) : a = b := by
  have h1 : (nI a).toNatClampNeg = (nI b).toNatClampNeg := by rw [h]
  rwa [nI_clamp ha, nI_clamp hb] at h1
theorem fu_e {σ : Type} {F : Nat → σ → σ} : ∀ (k i : Nat) (x : σ), fu F i (k + 1) x = F (i + k) (fu F i k x)
  | 0, i, x => by rw [fu_s, fu_0, fu_0]; rfl
  | k + 1, i, x => by rw [fu_s, fu_e k (i + 1) (F i x), fu_s, show i + 1 + k = i + (k + 1) by omega]
/-- kinds are 0 .. 5 -/
def KD (z : Nat → Int32) : Prop := (∀ f, f < 8 → ∃ j, j < 6 ∧ z (12 + 8 * f + 1) = nI j) ∧ ∀ p, p < 24 → ∃ j, j < 6 ∧ z (76 + 5 * p + 1) = nI j
theorem sk_b {z : Nat → Int32} {n j : Nat} (hz : KD z) (hj : j < 6) : ∀ (k i : Nat) (m : Int32) (o : Option Nat), i + k ≤ 8 → m.toBitVec.getLsbD j = o.isSome → (fu (skF z) i k m).toBitVec.getLsbD j = (fu (csF z n (nI j)) i k o).isSome
  | 0, i, m, o, hi, h => by rw [fu_0, fu_0]; exact h
  | k + 1, i, m, o, hi, h => by
    rw [fu_s, fu_s]
    refine sk_b hz hj k (i + 1) _ _ (by omega) ?_
    obtain ⟨q, hq, e⟩ := hz.1 i (by omega)
    have e1 : (csF z n (nI j) i o).isSome = (gv z i (nI j) || o.isSome) := by
      unfold csF
      cases gv z i (nI j) with
      | false => rfl
      | true =>
        cases o with
        | none => rfl
        | some b =>
          rw [Bool.true_and]
          show (if bt z n i b = true then some i else some b).isSome = true
          split <;> rfl
    rw [e1, gv, e, skF, e]
    by_cases hp : z (12 + 8 * i + 2) ≤ 0
    · rw [if_pos hp, decide_eq_true hp, h]; simp
    · rw [if_neg hp, decide_eq_false hp, bq_or, bq_l (by omega) (by omega), h, Bool.or_comm]
      by_cases hqj : q = j
      · subst hqj; simp
      · rw [decide_eq_false hqj, decide_eq_false (fun h => hqj (nI_ij (by omega) (by omega) h))]; rfl
theorem sk_m {z : Nat → Int32} {n j : Nat} (hz : KD z) (hF8 : nf z ≤ 8) (hj : j < 6) : (skM z).toBitVec.getLsbD j = !decide (en (cho z n (nI j)) = -1) := by
  rw [skM, sk_b (n := n) (j := j) hz hj (nf z) 0 0 none (by omega) (by
    rw [show (0 : Int32).toBitVec = 0#32 from rfl, BitVec.getLsbD_zero]; rfl), ← cho]
  cases hc : cho z n (nI j) with
  | none => rfl
  | some f =>
    have := cho_lt hc
    rw [show en (some f) = nI f from rfl, decide_eq_false (en_ne (N := 8) (by omega) (by decide))]; rfl
/-- the mask of what is taken tells the aims before -/
def TK (y : Nat → Int32) (i : Nat) (t : Int32) : Prop := ∀ p, p < 24 → t.toBitVec.getLsbD p = isA y i p
theorem isA_up {y : Nat → Int32} {i p : Nat} {v : Int32} : isA (upd y i v) (i + 1) p = (isA y i p || decide (v = nI p)) := by
  unfold isA
  rw [fu_e, Nat.zero_add, upd_eq, fu_congr i 0 false (G := fun m b => b || decide (y m = nI p)) (fun j b _ h2 => by rw [upd_ne (by omega)])]
theorem TK.z {y : Nat → Int32} : TK y 0 0 := fun p _ => by
  unfold isA; rw [fu_0, show (0 : Int32).toBitVec = 0#32 from rfl, BitVec.getLsbD_zero]
theorem TK.no {y : Nat → Int32} {i : Nat} {t : Int32} (h : TK y i t) : TK (upd y i (en none)) (i + 1) t := fun p hp => by
  rw [isA_up, h p hp, show en none = -1 from rfl, decide_eq_false (fun e => en_ne (N := 24) hp (by decide) e.symm), Bool.or_false]
theorem TK.so {y : Nat → Int32} {i q : Nat} {t : Int32} (h : TK y i t) (hq : q < 24) : TK (upd y i (en (some q))) (i + 1) (t ||| ((1 : Int32) <<< (nI q &&& 31))) := fun p hp => by
  rw [isA_up, bq_or, bq_l (by omega) (by omega), h p hp, show en (some q) = nI q from rfl]
  by_cases e : q = p
  · subst e; simp
  · rw [decide_eq_false e, decide_eq_false (fun h => e (nI_ij (by omega) (by omega) h))]
theorem ff_congr {p q : Nat → Bool} : ∀ (k i : Nat), (∀ j, j < i + k → p j = q j) → ff p i k = ff q i k
  | 0, i, _ => rfl
  | k + 1, i, h => by rw [ff_s, ff_s, h i (by omega), ff_congr k (i + 1) (fun j hj => h j (by omega))]
theorem fa_ao {z y : Nat → Int32} {i : Nat} {t : Int32} (hz : KD z) (hF8 : nf z ≤ 8) (hP24 : np z ≤ 24) (h : TK y i t) : fa z (z (196 + 5 * i + 0) &&& skM z) t = ao z i y := by
  unfold fa ao
  refine ff_congr (np z) 0 (fun p hp => ?_)
  obtain ⟨q, hq, e⟩ := hz.2 p (by omega)
  rw [faP, apr, e, bq_0 (by omega), bq_1 (by omega), bq_1 (by omega), bq_an, sk_m (n := i) hz hF8 hq, h p (by omega)]
  cases decide (z (76 + 5 * p + 2) = 0) <;> cases (isA y i p) <;> cases (z (196 + 5 * i + 0)).toBitVec.getLsbD q <;> cases decide (en (cho z i (nI q)) = -1) <;> rfl
