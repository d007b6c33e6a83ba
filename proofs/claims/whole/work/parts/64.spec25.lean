/-! shares as doubles: their bits -/
section FPS
def e64 (E T : Nat) : Nat := E * 4503599627370496 + T
theorem t64 : FP.Core.b64.tails = 4503599627370496 := by decide +kernel
theorem x64 : FP.Core.b64.exps = 2048 := by decide +kernel
theorem qn64 : FP.Core.b64.qmin = -1074 := by decide +kernel
theorem qx64 : FP.Core.b64.qmax = 971 := by decide +kernel
theorem p64 : 2 ^ FP.Core.b64.p = 9007199254740992 := by decide +kernel
theorem dec_e {E T : Nat} (h1 : 1 ≤ E) (h2 : E ≤ 2046) (hT : T < 4503599627370496) : FP.Core.decode FP.Core.b64 (e64 E T) = .fin false (4503599627370496 + T) ((E : Int) - 1075) := by
  have a1 : FP.Core.fieldT FP.Core.b64 (e64 E T) = T := by unfold FP.Core.fieldT e64; rw [t64]; omega
  have a2 : FP.Core.fieldE FP.Core.b64 (e64 E T) = E := by unfold FP.Core.fieldE e64; rw [t64, x64]; omega
  have a3 : FP.Core.fieldS FP.Core.b64 (e64 E T) = false := by
    unfold FP.Core.fieldS e64; rw [t64, x64]
    rw [show (E * 4503599627370496 + T) / 4503599627370496 / 2048 % 2 = 0 by omega]; rfl
  unfold Jvm.FP.Core.decode
  rw [a1, a2, a3, x64, if_neg (by omega), if_neg (by omega), qn64, t64]
  congr 1
  omega
theorem enc_n {c : Nat} {q : Int} (h1 : 4503599627370496 ≤ c) (hq : -1074 ≤ q) : FP.Core.encode FP.Core.b64 (.fin false c q) = e64 ((q + 1074).toNat + 1) (c - 4503599627370496) := by
  show (if c < FP.Core.b64.tails then FP.Core.assemble FP.Core.b64 false 0 c else FP.Core.assemble FP.Core.b64 false ((q - FP.Core.b64.qmin).toNat + 1) (c - FP.Core.b64.tails)) = _
  rw [t64, if_neg (by omega), qn64]
  unfold FP.Core.assemble e64
  rw [x64, t64, show false.toNat = 0 from rfl, show q - -1074 = q + 1074 by omega]
  omega
theorem lead_1 {num L : Nat} (h1 : 2 ^ L ≤ num) (h2 : num < 2 ^ (L + 1)) : FP.Core.leading num 1 = L := by
  have hn : num ≠ 0 := by have := Nat.two_pow_pos L; omega
  have hl : num.log2 = L := (Nat.log2_eq_iff hn).mpr ⟨h1, h2⟩
  have h0 : Nat.log2 1 = 0 := by decide
  unfold FP.Core.leading
  rw [hl, h0]
  show (if 1 * 2 ^ ((L : Int) - ((0 : Nat) : Int)).toNat ≤ num * 2 ^ (-((L : Int) - ((0 : Nat) : Int))).toNat then (L : Int) - ((0 : Nat) : Int) else _) = _
  rw [show ((L : Int) - ((0 : Nat) : Int)) = (L : Int) by omega, show (-(L : Int)).toNat = 0 by omega, show (L : Int).toNat = L by omega, Nat.pow_zero, Nat.mul_one, Nat.one_mul, if_pos h1]
theorem near_z {c d : Nat} (h : 0 < d) : FP.Core.nearest (c * d) d = c := by
  unfold FP.Core.nearest
  rw [Nat.mul_mod_left, if_pos (by omega), Nat.mul_div_cancel _ h]
theorem RR {c j : Nat} {e : Int} (h1 : 4503599627370496 ≤ c) (h2 : c < 9007199254740992) (hq : -1074 ≤ e + j) (hq2 : e + j ≤ 971) : FP.Core.roundRatio FP.Core.b64 false (c * 2 ^ j) 1 e = .fin false c (e + j) := by
  have hp := Nat.two_pow_pos j
  have hl : FP.Core.leading (c * 2 ^ j) 1 = ((52 + j : Nat) : Int) := lead_1 (by rw [Nat.pow_add]; exact Nat.mul_le_mul_right _ (by omega)) (by rw [show 52 + j + 1 = 53 + j by omega, Nat.pow_add]; exact Nat.mul_lt_mul_of_pos_right (by omega) hp)
  have hn : c * 2 ^ j ≠ 0 := by have := Nat.mul_pos (show 0 < c by omega) hp; omega
  unfold FP.Core.roundRatio
  rw [if_neg hn]
  have hQ : FP.Core.quantum FP.Core.b64 (c * 2 ^ j) 1 e = e + j := by
    unfold FP.Core.quantum
    rw [hl, qn64, show (FP.Core.b64.p : Int) = 53 from rfl]
    omega
  unfold FP.Core.roundAt
  rw [hQ]
  have hu : FP.Core.unitsNum (c * 2 ^ j) e (e + j) = c * 2 ^ j := by unfold FP.Core.unitsNum; rw [show (e - (e + (j : Int))).toNat = 0 by omega, Nat.pow_zero, Nat.mul_one]
  have hd : FP.Core.unitsDen 1 e (e + j) = 2 ^ j := by unfold FP.Core.unitsDen; rw [show (e + (j : Int) - e).toNat = j by omega, Nat.one_mul]
  rw [hu, hd, near_z hp]
  unfold FP.Core.settle FP.Core.bound
  rw [p64, if_pos h2, qx64, if_pos hq2]
theorem RRn {m L : Nat} (h1 : 2 ^ L ≤ m) (h2 : m < 2 ^ (L + 1)) (hL : L ≤ 52) : FP.Core.roundRatio FP.Core.b64 false m 1 0 = .fin false (m * 2 ^ (52 - L)) ((L : Int) - 52) := by
  have hl := lead_1 h1 h2
  have hn : m ≠ 0 := by have := Nat.two_pow_pos L; omega
  unfold FP.Core.roundRatio
  rw [if_neg hn]
  have hQ : FP.Core.quantum FP.Core.b64 m 1 0 = (L : Int) - 52 := by
    unfold FP.Core.quantum
    rw [hl, qn64, show (FP.Core.b64.p : Int) = 53 from rfl]
    omega
  unfold FP.Core.roundAt
  rw [hQ]
  have hu : FP.Core.unitsNum m 0 ((L : Int) - 52) = m * 2 ^ (52 - L) := by unfold FP.Core.unitsNum; rw [show (0 - ((L : Int) - 52)).toNat = 52 - L by omega]
  have hd : FP.Core.unitsDen 1 0 ((L : Int) - 52) = 1 := by unfold FP.Core.unitsDen; rw [show ((L : Int) - 52 - 0).toNat = 0 by omega, Nat.pow_zero, Nat.mul_one]
  have hz : FP.Core.nearest (m * 2 ^ (52 - L)) 1 = m * 2 ^ (52 - L) := by
    have := near_z (c := m * 2 ^ (52 - L)) (d := 1) (by omega)
    rwa [Nat.mul_one] at this
  rw [hu, hd, hz]
  have h3 : m * 2 ^ (52 - L) < 9007199254740992 := by
    have : m * 2 ^ (52 - L) < 2 ^ (L + 1) * 2 ^ (52 - L) := Nat.mul_lt_mul_of_pos_right h2 (Nat.two_pow_pos _)
    rw [← Nat.pow_add, show L + 1 + (52 - L) = 53 by omega] at this
    exact this
  unfold FP.Core.settle FP.Core.bound
  rw [p64, if_pos h3, qx64, if_pos (by omega)]
theorem sc_b {m L : Nat} (h1 : 2 ^ L ≤ m) (h2 : m < 2 ^ (L + 1)) (hL : L ≤ 52) : 4503599627370496 ≤ m * 2 ^ (52 - L) ∧ m * 2 ^ (52 - L) < 9007199254740992 := by
  constructor
  · have : 2 ^ L * 2 ^ (52 - L) ≤ m * 2 ^ (52 - L) := Nat.mul_le_mul_right _ h1
    rw [← Nat.pow_add, show L + (52 - L) = 52 by omega] at this
    exact this
  · have : m * 2 ^ (52 - L) < 2 ^ (L + 1) * 2 ^ (52 - L) := Nat.mul_lt_mul_of_pos_right h2 (Nat.two_pow_pos _)
    rw [← Nat.pow_add, show L + 1 + (52 - L) = 53 by omega] at this
    exact this
theorem near_b {num den A Bn : Nat} (h0 : 0 < den) (h1 : A * den ≤ num) (h2 : num < Bn * den) : A ≤ FP.Core.nearest num den ∧ FP.Core.nearest num den ≤ Bn := by
  have a1 : A ≤ num / den := (Nat.le_div_iff_mul_le h0).mpr h1
  have a2 : num / den < Bn := (Nat.div_lt_iff_lt_mul h0).mpr h2
  unfold FP.Core.nearest
  split
  · omega
  · split
    · omega
    · have := Nat.mod_lt (num / den) (show 0 < 2 by omega)
      omega
theorem QQ {c d : Nat} {e : Int} (h1 : 4503599627370496 ≤ c) (h2 : c < 9007199254740992) (h3 : 4503599627370496 ≤ d) (h4 : d < 9007199254740992) (he : -100 ≤ e) (he2 : e ≤ -1 ∨ (e = 0 ∧ c ≤ d)) :
    ∃ (c' : Nat) (q' : Int), FP.Core.roundRatio FP.Core.b64 false c d e = .fin false c' q' ∧ 4503599627370496 ≤ c' ∧ c' < 9007199254740992 ∧ -200 ≤ q' ∧ q' ≤ -52 := by
  have hlc : c.log2 = 52 := (Nat.log2_eq_iff (by omega)).mpr ⟨by omega, by omega⟩
  have hld : d.log2 = 52 := (Nat.log2_eq_iff (by omega)).mpr ⟨by omega, by omega⟩
  have hl : FP.Core.leading c d = if d ≤ c then 0 else -1 := by
    unfold FP.Core.leading
    rw [hlc, hld]
    show (if d * 2 ^ (((52 : Nat) : Int) - ((52 : Nat) : Int)).toNat ≤ c * 2 ^ (-(((52 : Nat) : Int) - ((52 : Nat) : Int))).toNat then ((52 : Nat) : Int) - ((52 : Nat) : Int) else ((52 : Nat) : Int) - ((52 : Nat) : Int) - 1) = _
    rw [show ((52 : Nat) : Int) - ((52 : Nat) : Int) = 0 by omega, show (0 : Int).toNat = 0 from rfl, show (-(0 : Int)).toNat = 0 from rfl, Nat.pow_zero, Nat.mul_one, Nat.mul_one]
    rfl
  have fin : ∀ (w : Nat) (q : Int), 4503599627370496 ≤ w → w ≤ 9007199254740992 → -200 ≤ q → (q ≤ -53 ∨ (q = -52 ∧ w < 9007199254740992)) → ∃ (c' : Nat) (q' : Int), FP.Core.settle FP.Core.b64 false w q = .fin false c' q' ∧ 4503599627370496 ≤ c' ∧ c' < 9007199254740992 ∧ -200 ≤ q' ∧ q' ≤ -52 := by
    intro w q w1 w2 q1 q2
    unfold FP.Core.settle FP.Core.bound
    rw [p64, qx64, t64]
    by_cases hw : w < 9007199254740992
    · rw [if_pos hw, if_pos (by omega)]
      exact ⟨w, q, rfl, w1, hw, q1, by omega⟩
    · rw [if_neg hw, if_pos (by omega)]
      exact ⟨4503599627370496, q + 1, rfl, by omega, by omega, by omega, by omega⟩
  unfold FP.Core.roundRatio
  rw [if_neg (by omega)]
  unfold FP.Core.roundAt
  by_cases hcd : d ≤ c
  · have hQ : FP.Core.quantum FP.Core.b64 c d e = e - 52 := by
      unfold FP.Core.quantum
      rw [hl, if_pos hcd, qn64, show (FP.Core.b64.p : Int) = 53 from rfl]
      omega
    rw [hQ]
    have hu : FP.Core.unitsNum c e (e - 52) = c * 4503599627370496 := by unfold FP.Core.unitsNum; rw [show (e - (e - 52)).toNat = 52 by omega]
    have hd : FP.Core.unitsDen d e (e - 52) = d := by unfold FP.Core.unitsDen; rw [show (e - 52 - e).toNat = 0 by omega, Nat.pow_zero, Nat.mul_one]
    rw [hu, hd]
    have hb := near_b (num := c * 4503599627370496) (den := d) (A := 4503599627370496) (Bn := 9007199254740992) (by omega) (by omega) (by omega)
    rcases he2 with he2 | ⟨he2, hcd2⟩
    · exact fin _ _ hb.1 hb.2 (by omega) (Or.inl (by omega))
    · have : c = d := by omega
      subst this
      have hz : FP.Core.nearest (c * 4503599627370496) c = 4503599627370496 := by rw [Nat.mul_comm]; exact near_z (by omega)
      rw [hz]
      exact fin _ _ (by omega) (by omega) (by omega) (Or.inr ⟨by omega, by omega⟩)
  · have hQ : FP.Core.quantum FP.Core.b64 c d e = e - 53 := by
      unfold FP.Core.quantum
      rw [hl, if_neg hcd, qn64, show (FP.Core.b64.p : Int) = 53 from rfl]
      omega
    rw [hQ]
    have hu : FP.Core.unitsNum c e (e - 53) = c * 9007199254740992 := by unfold FP.Core.unitsNum; rw [show (e - (e - 53)).toNat = 53 by omega]
    have hd : FP.Core.unitsDen d e (e - 53) = d := by unfold FP.Core.unitsDen; rw [show (e - 53 - e).toNat = 0 by omega, Nat.pow_zero, Nat.mul_one]
    rw [hu, hd]
    have hb := near_b (num := c * 9007199254740992) (den := d) (A := 4503599627370496) (Bn := 9007199254740992) (by omega) (by omega) (by omega)
    exact fin _ _ hb.1 hb.2 (by omega) (Or.inl (by omega))
def E64 (E T : Nat) : UInt64 := UInt64.ofNat (e64 E T)
theorem E64_n {E T : Nat} (h2 : E ≤ 2046) (hT : T < 4503599627370496) : (E64 E T).toNat = e64 E T := by
  unfold E64
  rw [UInt64.toNat_ofNat']
  unfold e64
  omega
theorem i2d_e {m : Int32} (h : 0 < m.toInt) : ∃ L : Nat, L ≤ 31 ∧ 2 ^ L ≤ m.toInt.toNat ∧ m.toInt.toNat < 2 ^ (L + 1) ∧ FP.i2d m = E64 (L + 1023) (m.toInt.toNat * 2 ^ (52 - L) - 4503599627370496) := by
  have hlt := Int32.toInt_lt m
  have hn : m.toInt.toNat ≠ 0 := by omega
  refine ⟨m.toInt.toNat.log2, ?_, Nat.log2_self_le hn, Nat.lt_log2_self, ?_⟩
  · have : m.toInt.toNat.log2 < 32 := (Nat.log2_lt hn).mpr (by omega)
    omega
  · have h1 := Nat.log2_self_le hn
    have h2 := Nat.lt_log2_self (n := m.toInt.toNat)
    have hL : m.toInt.toNat.log2 ≤ 52 := by
      have : m.toInt.toNat.log2 < 32 := (Nat.log2_lt hn).mpr (by omega)
      omega
    generalize m.toInt.toNat.log2 = L at h1 h2 hL
    show UInt64.ofNat (FP.Core.encode FP.Core.b64 (FP.Core.round FP.Core.b64 (FP.Core.ofInt m.toInt))) = _
    have e1 : FP.Core.ofInt m.toInt = .fin false m.toInt.toNat 0 := by
      unfold FP.Core.ofInt
      rw [decide_eq_false (by omega), show m.toInt.natAbs = m.toInt.toNat by omega]
    rw [e1]
    show UInt64.ofNat (FP.Core.encode FP.Core.b64 (FP.Core.roundRatio FP.Core.b64 false m.toInt.toNat 1 0)) = _
    rw [RRn h1 h2 hL, enc_n (sc_b h1 h2 hL).1 (by omega), show ((L : Int) - 52 + 1074).toNat + 1 = L + 1023 by omega]
    rfl
theorem i2d_0 : FP.i2d 0 = 0 := by decide +kernel
/-- a share is 0, or a number up to 1 of full precision -/
def SH (d : UInt64) : Prop := d = 0 ∨ ∃ E T, 800 ≤ E ∧ E ≤ 1023 ∧ T < 4503599627370496 ∧ d = E64 E T
theorem div_sh {m t : Int32} (h0 : 0 ≤ m.toInt) (h1 : m.toInt ≤ t.toInt) (ht : 0 < t.toInt) : SH (FP.ddiv (FP.i2d m) (FP.i2d t)) := by
  obtain ⟨K, k1, k2, k3, k4⟩ := i2d_e ht
  have kb := sc_b k2 k3 (by omega)
  have dt : FP.Core.decode FP.Core.b64 (E64 (K + 1023) (t.toInt.toNat * 2 ^ (52 - K) - 4503599627370496)).toNat = .fin false (t.toInt.toNat * 2 ^ (52 - K)) ((K : Int) - 52) := by
    rw [E64_n (by omega) (by omega), dec_e (by omega) (by omega) (by omega)]
    rw [show 4503599627370496 + (t.toInt.toNat * 2 ^ (52 - K) - 4503599627370496) = t.toInt.toNat * 2 ^ (52 - K) by omega, show ((K + 1023 : Nat) : Int) - 1075 = (K : Int) - 52 by omega]
  by_cases hm : m.toInt = 0
  · left
    have : m = 0 := Int32.toInt_inj.mp (by rw [hm]; rfl)
    subst this
    rw [i2d_0, k4]
    show UInt64.ofNat (FP.Core.encode FP.Core.b64 (FP.Core.quotient FP.Core.b64 (FP.Core.decode FP.Core.b64 (0 : UInt64).toNat) (FP.Core.decode FP.Core.b64 (E64 _ _).toNat))) = 0
    rw [dt]
    have d0 : FP.Core.decode FP.Core.b64 (0 : UInt64).toNat = .fin false 0 (-1074) := by decide +kernel
    rw [d0]
    show UInt64.ofNat (FP.Core.encode FP.Core.b64 (if t.toInt.toNat * 2 ^ (52 - K) = 0 then _ else FP.Core.roundRatio FP.Core.b64 (false != false) 0 _ _)) = 0
    rw [if_neg (by omega)]
    show UInt64.ofNat (FP.Core.encode FP.Core.b64 (.fin false 0 FP.Core.b64.qmin)) = 0
    decide +kernel
  · right
    obtain ⟨L, l1, l2, l3, l4⟩ := i2d_e (m := m) (by omega)
    have lb := sc_b l2 l3 (by omega)
    have dm : FP.Core.decode FP.Core.b64 (E64 (L + 1023) (m.toInt.toNat * 2 ^ (52 - L) - 4503599627370496)).toNat = .fin false (m.toInt.toNat * 2 ^ (52 - L)) ((L : Int) - 52) := by
      rw [E64_n (by omega) (by omega), dec_e (by omega) (by omega) (by omega)]
      rw [show 4503599627370496 + (m.toInt.toNat * 2 ^ (52 - L) - 4503599627370496) = m.toInt.toNat * 2 ^ (52 - L) by omega, show ((L + 1023 : Nat) : Int) - 1075 = (L : Int) - 52 by omega]
    have hLK : L ≤ K := by
      apply Decidable.byContradiction
      intro q
      have : 2 ^ (K + 1) ≤ 2 ^ L := Nat.pow_le_pow_right (by omega) (by omega)
      omega
    have hq := QQ (c := m.toInt.toNat * 2 ^ (52 - L)) (d := t.toInt.toNat * 2 ^ (52 - K)) (e := (L : Int) - 52 - ((K : Int) - 52)) lb.1 lb.2 kb.1 kb.2 (by omega) (by
      by_cases e : L = K
      · subst e
        right
        exact ⟨by omega, Nat.mul_le_mul_right _ (by omega)⟩
      · left; omega)
    obtain ⟨c', q', g1, g2, g3, g4, g5⟩ := hq
    refine ⟨(q' + 1074).toNat + 1, c' - 4503599627370496, by omega, by omega, by omega, ?_⟩
    rw [l4, k4]
    show UInt64.ofNat (FP.Core.encode FP.Core.b64 (FP.Core.quotient FP.Core.b64 (FP.Core.decode FP.Core.b64 (E64 _ _).toNat) (FP.Core.decode FP.Core.b64 (E64 _ _).toNat))) = _
    rw [dt, dm]
    show UInt64.ofNat (FP.Core.encode FP.Core.b64 (if t.toInt.toNat * 2 ^ (52 - K) = 0 then _ else FP.Core.roundRatio FP.Core.b64 (false != false) (m.toInt.toNat * 2 ^ (52 - L)) (t.toInt.toNat * 2 ^ (52 - K)) ((L : Int) - 52 - ((K : Int) - 52)))) = _
    rw [if_neg (by omega), show (false != false) = false from rfl, g1, enc_n g2 (by omega)]
    rfl
theorem E64_nn {E T : Nat} (h2 : E ≤ 2046) (hT : T < 4503599627370496) : vf_n64 (E64 E T) := by
  have h := E64_n h2 hT
  unfold vf_n64
  have hl : (E64 E T).toNat < 9223372036854775808 := by rw [h]; unfold e64; omega
  rw [UInt64.le_iff_toNat_le, UInt64.toNat_and, show (0x7fffffffffffffff : UInt64).toNat = 2 ^ 63 - 1 from rfl, Nat.and_two_pow_sub_one_eq_mod, show (0x7ff0000000000000 : UInt64).toNat = 9218868437227405312 from rfl, h]
  unfold e64
  omega
theorem SH.nn {d : UInt64} (h : SH d) : vf_n64 d := by
  rcases h with rfl | ⟨E, T, h1, h2, h3, rfl⟩
  · show (0 : UInt64) &&& 0x7fffffffffffffff ≤ 0x7ff0000000000000
    decide
  · exact E64_nn (by omega) h3
/-- doubling -/
theorem mul2 {E T : Nat} (h1 : 1 ≤ E) (h2 : E ≤ 1023) (hT : T < 4503599627370496) : FP.dmul (E64 E T) 0x4000000000000000 = E64 (E + 1) T := by
  show UInt64.ofNat (FP.Core.encode FP.Core.b64 (FP.Core.round FP.Core.b64 (FP.Core.exactProduct (FP.Core.decode FP.Core.b64 (E64 E T).toNat) (FP.Core.decode FP.Core.b64 (0x4000000000000000 : UInt64).toNat)))) = _
  have d2 : FP.Core.decode FP.Core.b64 (0x4000000000000000 : UInt64).toNat = .fin false 4503599627370496 (-51) := by decide +kernel
  rw [E64_n (by omega) hT, dec_e h1 (by omega) hT, d2]
  show UInt64.ofNat (FP.Core.encode FP.Core.b64 (FP.Core.roundRatio FP.Core.b64 (false != false) ((4503599627370496 + T) * 4503599627370496) 1 ((E : Int) - 1075 + -51))) = _
  have := RR (c := 4503599627370496 + T) (j := 52) (e := (E : Int) - 1075 + -51) (by omega) (by omega) (by omega) (by omega)
  rw [show (2 : Nat) ^ 52 = 4503599627370496 from rfl] at this
  rw [show (false != false) = false from rfl, this, enc_n (by omega) (by omega), show ((E : Int) - 1075 + -51 + ((52 : Nat) : Int) + 1074).toNat + 1 = E + 1 by omega, show 4503599627370496 + T - 4503599627370496 = T by omega]
  rfl
theorem cmp0 {E T : Nat} (h1 : 1 ≤ E) (h2 : E ≤ 1023) (hT : T < 4503599627370496) : Op.cmpValue (FP.dcmp (E64 E T) FP.dconst0) .g = 1 := by
  have e : FP.dcmp (E64 E T) FP.dconst0 = some .gt := by
    show FP.Core.order (FP.Core.decode FP.Core.b64 (E64 E T).toNat) (FP.Core.decode FP.Core.b64 (0 : UInt64).toNat) = _
    have d0 : FP.Core.decode FP.Core.b64 (0 : UInt64).toNat = .fin false 0 (-1074) := by decide +kernel
    rw [E64_n (by omega) hT, dec_e h1 (by omega) hT, d0]
    show some (compare (FP.Core.signed false (FP.Core.inUnits (4503599627370496 + T) ((E : Int) - 1075) (min ((E : Int) - 1075) (-1074)))) (FP.Core.signed false (FP.Core.inUnits 0 (-1074) (min ((E : Int) - 1075) (-1074))))) = _
    congr 1
    have hp := Nat.mul_pos (show 0 < 4503599627370496 + T by omega) (Nat.two_pow_pos (((E : Int) - 1075) - (min ((E : Int) - 1075) (-1074))).toNat)
    show compare ((((4503599627370496 + T) * 2 ^ (((E : Int) - 1075) - (min ((E : Int) - 1075) (-1074))).toNat : Nat)) : Int) (((0 * 2 ^ (-1074 - (min ((E : Int) - 1075) (-1074))).toNat : Nat)) : Int) = .gt
    rw [Nat.zero_mul]
    generalize (4503599627370496 + T) * 2 ^ (((E : Int) - 1075) - (min ((E : Int) - 1075) (-1074))).toNat = w at hp
    exact Int.compare_eq_gt.mpr (by omega)
  rw [e]; rfl
theorem cmp1 {E T : Nat} (h1 : 1 ≤ E) (h2 : E ≤ 1023) (hT : T < 4503599627370496) : (0 ≤ Op.cmpValue (FP.dcmp (E64 E T) FP.dconst1) .g) ↔ E = 1023 := by
  have e : FP.dcmp (E64 E T) FP.dconst1 = some (compare ((4503599627370496 + T : Nat) : Int) ((4503599627370496 * 2 ^ (1023 - E) : Nat) : Int)) := by
    show FP.Core.order (FP.Core.decode FP.Core.b64 (E64 E T).toNat) (FP.Core.decode FP.Core.b64 (0x3ff0000000000000 : UInt64).toNat) = _
    have d0 : FP.Core.decode FP.Core.b64 (0x3ff0000000000000 : UInt64).toNat = .fin false 4503599627370496 (-52) := by decide +kernel
    rw [E64_n (by omega) hT, dec_e h1 (by omega) hT, d0]
    show some (compare (((4503599627370496 + T) * 2 ^ (((E : Int) - 1075) - (min ((E : Int) - 1075) (-52))).toNat : Nat) : Int) ((4503599627370496 * 2 ^ (-52 - (min ((E : Int) - 1075) (-52))).toNat : Nat) : Int)) = _
    rw [show min ((E : Int) - 1075) (-52) = (E : Int) - 1075 by omega, show ((E : Int) - 1075 - ((E : Int) - 1075)).toNat = 0 by omega, Nat.pow_zero, Nat.mul_one, show (-52 - ((E : Int) - 1075)).toNat = 1023 - E by omega]
  rw [e]
  by_cases q : E = 1023
  · subst q
    refine ⟨fun _ => rfl, fun _ => ?_⟩
    rw [Nat.sub_self, Nat.pow_zero, Nat.mul_one]
    by_cases t0 : T = 0
    · subst t0; decide
    · rw [Int.compare_eq_gt.mpr (by omega)]; decide
  · refine ⟨fun h => ?_, fun h => absurd h q⟩
    exfalso
    have hp : 2 ≤ 2 ^ (1023 - E) := by
      have := Nat.pow_le_pow_right (n := 2) (by omega) (show 1 ≤ 1023 - E by omega)
      simpa using this
    have : compare ((4503599627370496 + T : Nat) : Int) ((4503599627370496 * 2 ^ (1023 - E) : Nat) : Int) = .lt := by
      refine Int.compare_eq_lt.mpr ?_
      generalize 2 ^ (1023 - E) = w at hp
      have := Nat.mul_le_mul_left 4503599627370496 hp
      omega
    rw [this] at h
    exact absurd h (by decide)
theorem l2d_52 : FP.l2d 4503599627370496 = E64 1075 0 := by decide +kernel
theorem mul52 {T : Nat} (hT : T < 4503599627370496) : FP.dmul (E64 1023 T) (E64 1075 0) = E64 1075 T := by
  show UInt64.ofNat (FP.Core.encode FP.Core.b64 (FP.Core.round FP.Core.b64 (FP.Core.exactProduct (FP.Core.decode FP.Core.b64 (E64 1023 T).toNat) (FP.Core.decode FP.Core.b64 (E64 1075 0).toNat)))) = _
  rw [E64_n (by omega) hT, E64_n (by omega) (by omega), dec_e (by omega) (by omega) hT, dec_e (by omega) (by omega) (by omega)]
  show UInt64.ofNat (FP.Core.encode FP.Core.b64 (FP.Core.roundRatio FP.Core.b64 (false != false) ((4503599627370496 + T) * 4503599627370496) 1 (((1023 : Nat) : Int) - 1075 + (((1075 : Nat) : Int) - 1075)))) = _
  have := RR (c := 4503599627370496 + T) (j := 52) (e := ((1023 : Nat) : Int) - 1075 + (((1075 : Nat) : Int) - 1075)) (by omega) (by omega) (by omega) (by omega)
  rw [show (2 : Nat) ^ 52 = 4503599627370496 from rfl] at this
  rw [show (false != false) = false from rfl, this, enc_n (by omega) (by omega), show (((1023 : Nat) : Int) - 1075 + (((1075 : Nat) : Int) - 1075) + ((52 : Nat) : Int) + 1074).toNat + 1 = 1075 by omega, show 4503599627370496 + T - 4503599627370496 = T by omega]
  rfl
theorem d2l_52 {T : Nat} (hT : T < 4503599627370496) : FP.d2l (E64 1075 T) = Int64.ofNat (4503599627370496 + T) := by
  show FP.Core.toL (FP.Core.decode FP.Core.b64 (E64 1075 T).toNat) = _
  rw [E64_n (by omega) hT, dec_e (by omega) (by omega) hT]
  show Int64.ofInt (max (-2 ^ 63) (min (2 ^ 63 - 1) (FP.Core.signed false ((4503599627370496 + T) * 2 ^ (((1075 : Nat) : Int) - 1075).toNat / 2 ^ (-(((1075 : Nat) : Int) - 1075)).toNat)))) = _
  rw [show (((1075 : Nat) : Int) - 1075).toNat = 0 from rfl, show (-(((1075 : Nat) : Int) - 1075)).toNat = 0 from rfl, Nat.pow_zero, Nat.mul_one, Nat.div_one]
  show Int64.ofInt (max (-2 ^ 63) (min (2 ^ 63 - 1) (((4503599627370496 + T : Nat)) : Int))) = _
  rw [show max (-2 ^ 63) (min (2 ^ 63 - 1) (((4503599627370496 + T : Nat)) : Int)) = (((4503599627370496 + T : Nat)) : Int) by omega]
  rfl
end FPS
