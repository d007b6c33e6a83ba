/-! the class's reader and the reference's go together -/
theorem cd_i {c : Int32} (h1 : 33 ≤ c.toInt) (h2 : c.toInt ≤ 126) : (c - 48).toInt = c.toInt - 48 := by
  have e : (48 : Int32).toInt = 48 := rfl
  rw [i32_sub (by omega) (by omega) (by omega) (by omega), e]
theorem m10_i {x d : Int32} (hx : IN x 0 500) (hd : IN d 0 9) : (10 * x + d).toInt = 10 * x.toInt + d.toInt := by
  obtain ⟨a, b⟩ := hx; obtain ⟨p, q⟩ := hd
  have e : (10 * x).toInt = 10 * x.toInt := by
    rw [Int32.toInt_mul, show (10 : Int32).toInt = 10 from rfl]
    exact Int.bmod_eq_of_le (by omega) (by omega)
  rw [i32_add (by omega) (by omega) (by omega) (by omega), e]
theorem wi_d {v lo hi : Int32} : wi v lo hi = decide (lo.toInt ≤ v.toInt ∧ v.toInt ≤ hi.toInt) := by
  unfold wi
  by_cases h1 : v < lo
  · rw [decide_eq_true h1, decide_eq_false (p := lo.toInt ≤ v.toInt ∧ v.toInt ≤ hi.toInt) (fun q => by have := lt_t.mp h1; omega)]; rfl
  · have := le_t.mp (Int32.not_lt.mp h1)
    rw [decide_eq_false h1]
    by_cases h2 : hi < v
    · rw [decide_eq_true h2, decide_eq_false (p := lo.toInt ≤ v.toInt ∧ v.toInt ≤ hi.toInt) (fun q => by have := lt_t.mp h2; omega)]; rfl
    · have h3 := le_t.mp (Int32.not_lt.mp h2)
      rw [decide_eq_false h2, decide_eq_true (p := lo.toInt ≤ v.toInt ∧ v.toInt ≤ hi.toInt) ⟨by omega, by omega⟩]; rfl
theorem bdg_d {c : Int32} : bdg c = decide (48 ≤ c.toInt ∧ c.toInt ≤ 57) := by
  have := wi_d (v := c) (lo := 48) (hi := 57)
  rw [show (48 : Int32).toInt = 48 from rfl, show (57 : Int32).toInt = 57 from rfl] at this
  rw [← this, wi, bdg]
  by_cases h1 : 48 ≤ c
  · rw [decide_eq_true h1, decide_eq_false (Int32.not_lt.mpr h1)]
    by_cases h2 : c ≤ 57
    · rw [decide_eq_true h2, decide_eq_false (Int32.not_lt.mpr h2)]; rfl
    · rw [decide_eq_false h2, decide_eq_true (Int32.not_le.mp h2)]; rfl
  · rw [decide_eq_false h1, decide_eq_true (Int32.not_le.mp h1)]; rfl
def NUM (M : Int) (x : Int32) (di : Nat) (v : Int32) : Prop := IN x 0 M ∧ (di = 0 → v = -1 ∧ x = 0) ∧ (0 < di → v = x)
def RLs (s : BS) (t : TS) : Prop := match s.2.1 with
  | none => t.2.2.2 = 0
  | some 0 => t.2.2.2 = 1 ∧ t.1 (4 * t.2.1) = (if s.2.2.2 then 1 else 0) ∧ NUM 99 (s.1 0) s.2.2.1 t.2.2.1 ∧ (0 < s.2.2.1 → t.1 (4 * t.2.1 + 1) = s.1 0)
  | some 1 => t.1 (4 * t.2.1) = (if s.2.2.2 then 1 else 0) ∧ t.1 (4 * t.2.1 + 1) = s.1 0 ∧ IN (s.1 0) 0 99 ∧ ((s.2.2.1 = 0 ∧ t.2.2.2 = 2 ∧ s.1 1 = 0) ∨ (s.2.2.1 = 1 ∧ t.1 (4 * t.2.1 + 2) = s.1 1 ∧ IN (s.1 1) 0 5 ∧ t.2.2.1 = -1 ∧ t.2.2.2 = (if s.2.2.2 then 3 else 5)))
  | some 2 => s.2.2.2 = true ∧ t.2.2.2 = 4 ∧ t.1 (4 * t.2.1) = 1 ∧ t.1 (4 * t.2.1 + 1) = s.1 0 ∧ IN (s.1 0) 0 99 ∧ t.1 (4 * t.2.1 + 2) = s.1 1 ∧ IN (s.1 1) 0 5 ∧ NUM 500 (s.1 2) s.2.2.1 t.2.2.1 ∧ (0 < s.2.2.1 → t.1 (4 * t.2.1 + 3) = s.1 2)
  | some (_ + 3) => False
theorem num_d {M : Int} {G x c v : Int32} {di dn : Nat} (hM : M ≤ 500) (hG : G.toInt = M) (hp : pdM dn = G) (h : NUM M x di v) (h1 : 33 ≤ c.toInt) (h2 : c.toInt ≤ 126) (hg : bdg c = true) :
    (!(decide (0 < di) && decide (x = 0)) && !(decide (G < 10 * x + (c - 48)))) = pdB dn v (c - 48) ∧ pdV v (c - 48) = 10 * x + (c - 48) ∧ ((!(decide (0 < di) && decide (x = 0)) && !(decide (G < 10 * x + (c - 48)))) = true → IN (10 * x + (c - 48)) 0 M) := by
  obtain ⟨n1, n2, n3⟩ := h
  have hc := cd_i h1 h2
  rw [bdg_d] at hg
  have hg := of_decide_eq_true hg
  have hd9 : IN (c - 48) 0 9 := ⟨by omega, by omega⟩
  have hw : wi (c - 48) 0 9 = true := by rw [wi_d]; exact decide_eq_true ⟨by have : (0 : Int32).toInt = 0 := rfl; omega, by have : (9 : Int32).toInt = 9 := rfl; omega⟩
  have hm := m10_i (x := x) (d := c - 48) ⟨n1.1, by have := n1.2; omega⟩ hd9
  have m1 : (-1 : Int32).toInt = -1 := rfl
  have hV : pdV v (c - 48) = 10 * x + (c - 48) := by
    unfold pdV
    by_cases e : di = 0
    · obtain ⟨e1, e2⟩ := n2 e
      rw [if_pos e1, e2]
      exact Int32.toInt_inj.mp (by rw [e2] at hm; rw [hm]; show _ = 10 * (0 : Int32).toInt + _; have : (0 : Int32).toInt = 0 := rfl; omega)
    · have e1 := n3 (by omega)
      rw [if_neg (fun q => by rw [e1] at q; rw [q] at n1; have := n1.1; omega), e1]
  refine ⟨?_, hV, fun hb => ?_⟩
  · unfold pdB
    rw [hw, Bool.true_and, hV, hp]
    congr 1
    by_cases e : di = 0
    · obtain ⟨e1, e2⟩ := n2 e
      rw [decide_eq_false (show ¬ 0 < di by omega), e1]; rfl
    · rw [n3 (by omega), decide_eq_true (show 0 < di by omega), Bool.true_and]
  · rw [Bool.and_eq_true] at hb
    have h3 : ¬ G < 10 * x + (c - 48) := by intro q; rw [decide_eq_true q] at hb; exact absurd hb.2 (by decide)
    have h4 := le_t.mp (Int32.not_lt.mp h3)
    exact ⟨by rw [hm]; have := n1.1; have := hd9.1; omega, by omega⟩
theorem not_dg {c v : Int32} {dn : Nat} (h1 : 33 ≤ c.toInt) (h2 : c.toInt ≤ 126) (hg : bdg c = false) : pdB dn v (c - 48) = false ∧ wi (c - 48) 0 5 = false := by
  have hc := cd_i h1 h2
  rw [bdg_d] at hg
  have hg := of_decide_eq_false hg
  have z0 : (0 : Int32).toInt = 0 := rfl
  have z9 : (9 : Int32).toInt = 9 := rfl
  have z5 : (5 : Int32).toInt = 5 := rfl
  have hw : wi (c - 48) 0 9 = false := by rw [wi_d]; exact decide_eq_false (by omega)
  exact ⟨by unfold pdB; rw [hw]; rfl, by rw [wi_d]; exact decide_eq_false (by omega)⟩
theorem RLs.st {s : BS} {t : TS} {c : Int32} (h : RLs s t) (h1 : 33 ≤ c.toInt) (h2 : c.toInt ≤ 126) : baB c s = tkB c t ∧ (baB c s = true → RLs (baS c s) (tkS c t)) := by
  obtain ⟨nu, co, di, fe⟩ := s
  obtain ⟨pt, rn, v, dn⟩ := t
  have c58 : (58 : Int32).toInt = 58 := rfl
  have c59 : (59 : Int32).toInt = 59 := rfl
  have c42 : (42 : Int32).toInt = 42 := rfl
  cases co with
  | none =>
    have hd : dn = 0 := h
    subst hd
    refine ⟨rfl, fun hb => ?_⟩
    have es : baS c (nu, none, di, fe) = (upd nu 0 0, some 0, 0, decide (c = 102)) := by unfold baS; rw [if_pos hb]
    rw [es]
    refine ⟨rfl, ?_, ⟨⟨by show (0 : Int) ≤ (upd nu 0 0 0).toInt; rw [upd_eq]; decide, by show (upd nu 0 0 0).toInt ≤ 99; rw [upd_eq]; decide⟩, fun _ => ⟨rfl, by show upd nu 0 0 0 = 0; exact upd_eq⟩, fun q => absurd q (Nat.lt_irrefl 0)⟩, fun q => absurd q (Nat.lt_irrefl 0)⟩
    show upd pt (4 * rn) (if c = 102 then 1 else 0) (4 * rn) = if decide (c = 102) = true then 1 else 0
    rw [upd_eq]
    by_cases e : c = 102
    · rw [if_pos e, if_pos (decide_eq_true e)]
    · rw [if_neg e, if_neg (by rw [decide_eq_false e]; decide)]
  | some j =>
    rcases (show j = 0 ∨ j = 1 ∨ j = 2 ∨ 3 ≤ j by omega) with rfl | rfl | rfl | hj
    · obtain ⟨hd9, hp9, hN9, hq9⟩ := h
      have hd : dn = 1 := hd9
      have hN : NUM 99 (nu 0) di v := hN9
      have hq : 0 < di → pt (4 * rn + 1) = nu 0 := hq9
      have hp : pt (4 * rn) = (if fe = true then 1 else 0) := hp9
      clear hd9 hp9 hN9 hq9
      subst hd
      cases hg : bdg c with
      | true =>
        obtain ⟨k1, k2, k3⟩ := num_d (M := 99) (G := gnT 0) (dn := 1) (by omega) rfl rfl hN h1 h2 hg
        have hn58 : ¬ (c = 58 ∧ ¬ v = -1) := fun q => by rw [bdg_d] at hg; have := of_decide_eq_true hg; rw [q.1] at this; omega
        have eb : baB c (nu, some 0, di, fe) = bdB nu 0 di (c - 48) := if_pos hg
        refine ⟨by rw [eb, tkB_1, if_neg hn58]; exact k1, fun hb => ?_⟩
        rw [eb] at hb
        have hpd : pdB 1 v (c - 48) = true := k1.symm.trans hb
        have es : baS c (nu, some 0, di, fe) = (upd nu 0 (10 * nu 0 + (c - 48)), some 0, di + 1, fe) := by unfold baS; rw [if_pos (eb.trans hb)]; exact if_pos hg
        rw [es, tkS_1, if_neg hn58]
        have eN : pdN 1 v (c - 48) = 10 * nu 0 + (c - 48) := by unfold pdN; rw [if_pos hpd, k2]
        refine ⟨rfl, ?_, ⟨by show IN (upd nu 0 (10 * nu 0 + (c - 48)) 0) 0 99; rw [upd_eq]; exact k3 hb, fun q => absurd q (Nat.succ_ne_zero _), fun _ => ?_⟩, fun _ => ?_⟩
        · show upd pt (4 * rn + 1) (pdN 1 v (c - 48)) (4 * rn) = _
          rw [upd_ne (by omega)]; exact hp
        · show pdN 1 v (c - 48) = upd nu 0 (10 * nu 0 + (c - 48)) 0
          rw [upd_eq, eN]
        · show upd pt (4 * rn + 1) (pdN 1 v (c - 48)) (4 * rn + 1) = upd nu 0 (10 * nu 0 + (c - 48)) 0
          rw [upd_eq, upd_eq, eN]
      | false =>
        have eb : baB c (nu, some 0, di, fe) = (!(decide (di = 0)) && decide (c = 58)) := if_neg (by rw [hg]; decide)
        have ek : tkB c (pt, rn, v, 1) = (!(decide (di = 0)) && decide (c = 58)) := by
          rw [tkB_1, (not_dg h1 h2 hg).1]
          by_cases e : di = 0
          · rw [if_neg (fun q => q.2 (hN.2.1 e).1), decide_eq_true e]; rfl
          · have hv : ¬ v = -1 := by
              rw [hN.2.2 (by omega)]; intro q; have := hN.1.1; rw [q] at this; exact absurd this (by decide)
            rw [decide_eq_false e]
            by_cases e2 : c = 58
            · rw [if_pos ⟨e2, hv⟩, decide_eq_true e2]; rfl
            · rw [if_neg (fun q => e2 q.1), decide_eq_false e2]; rfl
        refine ⟨by rw [eb, ek], fun hb => ?_⟩
        rw [eb, Bool.and_eq_true] at hb
        have e2 := of_decide_eq_true hb.2
        have e : ¬ di = 0 := fun q => by rw [decide_eq_true q] at hb; exact absurd hb.1 (by decide)
        have hv : ¬ v = -1 := by
          rw [hN.2.2 (by omega)]; intro q; have := hN.1.1; rw [q] at this; exact absurd this (by decide)
        have es : baS c (nu, some 0, di, fe) = (upd nu 1 0, some 1, 0, fe) := by
          unfold baS
          rw [if_pos (by rw [eb, Bool.and_eq_true]; exact hb)]
          show (if bdg c = true then _ else if c = 59 then _ else _) = _
          rw [if_neg (by rw [hg]; decide), if_neg (fun q => by rw [q] at e2; exact absurd e2 (by decide))]
        rw [es, tkS_1, if_pos ⟨e2, hv⟩]
        exact ⟨hp, by show pt (4 * rn + 1) = upd nu 1 0 0; rw [upd_ne (by decide)]; exact hq (by omega), by show IN (upd nu 1 0 0) 0 99; rw [upd_ne (by decide)]; exact hN.1, Or.inl ⟨rfl, rfl, by show upd nu 1 0 1 = 0; exact upd_eq⟩⟩
    · obtain ⟨hp9, hx9, hI9, hr⟩ := h
      have hp : pt (4 * rn) = (if fe = true then 1 else 0) := hp9
      have hx : pt (4 * rn + 1) = nu 0 := hx9
      have hI : IN (nu 0) 0 99 := hI9
      clear hp9 hx9 hI9
      rcases hr with ⟨hd9, hn9, h09⟩ | ⟨hd9, hk9, hI29, hv9, hn9⟩
      · have hd : di = 0 := hd9
        have hn : dn = 2 := hn9
        have h0 : nu 1 = 0 := h09
        clear hd9 hn9 h09
        subst hd; subst hn
        have ek : tkB c (pt, rn, v, 2) = wi (c - 48) 0 5 := rfl
        cases hg : bdg c with
        | true =>
          have hN : NUM 5 (nu 1) 0 (-1) := ⟨by rw [h0]; exact ⟨by decide, by decide⟩, fun _ => ⟨rfl, h0⟩, fun q => absurd q (Nat.lt_irrefl 0)⟩
          have hc := cd_i h1 h2
          have hgd : 48 ≤ c.toInt ∧ c.toInt ≤ 57 := by rw [bdg_d] at hg; exact of_decide_eq_true hg
          have hm := m10_i (x := nu 1) (d := c - 48) ⟨by rw [h0]; decide, by rw [h0]; decide⟩ ⟨by omega, by omega⟩
          have h00 : (nu 1).toInt = 0 := by rw [h0]; rfl
          have hL : 10 * nu 1 + (c - 48) = c - 48 := Int32.toInt_inj.mp (by rw [hm]; omega)
          have eb : baB c (nu, some 1, 0, fe) = wi (c - 48) 0 5 := by
            show (if bdg c = true then bdB nu 1 0 (c - 48) else _) = _
            rw [if_pos hg, bdB, hL, wi_d]
            have z0 : (0 : Int32).toInt = 0 := rfl
            have z5 : (5 : Int32).toInt = 5 := rfl
            have g5 : (gnT 1).toInt = 5 := rfl
            by_cases w : gnT 1 < c - 48
            · rw [decide_eq_true w, decide_eq_false (p := (0 : Int32).toInt ≤ (c - 48).toInt ∧ (c - 48).toInt ≤ (5 : Int32).toInt) (fun q => by have := lt_t.mp w; omega), Bool.not_true, Bool.and_false]
            · have := le_t.mp (Int32.not_lt.mp w)
              rw [decide_eq_false w, decide_eq_true (p := (0 : Int32).toInt ≤ (c - 48).toInt ∧ (c - 48).toInt ≤ (5 : Int32).toInt) ⟨by omega, by omega⟩]; rfl
          refine ⟨by rw [eb, ek], fun hb => ?_⟩
          have es : baS c (nu, some 1, 0, fe) = (upd nu 1 (c - 48), some 1, 1, fe) := by
            unfold baS; rw [if_pos hb]
            show (if bdg c = true then (upd nu 1 (10 * nu 1 + (c - 48)), some 1, 0 + 1, fe) else _) = _
            rw [if_pos hg, hL]
          have hw := wi_IN (eb.symm.trans hb)
          rw [es, tkS_2]
          refine ⟨by show upd pt (4 * rn + 2) (c - 48) (4 * rn) = _; rw [upd_ne (by omega)]; exact hp, by show upd pt (4 * rn + 2) (c - 48) (4 * rn + 1) = upd nu 1 (c - 48) 0; rw [upd_ne (by omega), upd_ne (by decide)]; exact hx, by show IN (upd nu 1 (c - 48) 0) 0 99; rw [upd_ne (by decide)]; exact hI, Or.inr ⟨rfl, by show upd pt (4 * rn + 2) (c - 48) (4 * rn + 2) = upd nu 1 (c - 48) 1; rw [upd_eq, upd_eq], by show IN (upd nu 1 (c - 48) 1) 0 5; rw [upd_eq]; exact hw, rfl, ?_⟩⟩
          show (if upd pt (4 * rn + 2) (c - 48) (4 * rn) = 1 then 3 else 5) = if fe = true then 3 else 5
          rw [upd_ne (by omega), hp]
          cases fe with
          | true => rfl
          | false => rfl
        | false =>
          have eb : baB c (nu, some 1, 0, fe) = false := by
            show (if bdg c = true then _ else (!(decide (0 = 0)) && _)) = false
            rw [if_neg (by rw [hg]; decide)]; rfl
          refine ⟨by rw [eb, ek, (not_dg (v := v) (dn := 1) h1 h2 hg).2], fun hb => ?_⟩
          rw [eb] at hb; exact absurd hb (by decide)
      · have hd : di = 1 := hd9
        have hk : pt (4 * rn + 2) = nu 1 := hk9
        have hI2 : IN (nu 1) 0 5 := hI29
        have hv : v = -1 := hv9
        have hn : dn = if fe = true then 3 else 5 := hn9
        clear hd9 hk9 hI29 hv9 hn9
        subst hd; subst hv
        have ek : tkB c (pt, rn, -1, dn) = decide (c = nE 1 fe) := by
          rw [hn]
          cases fe with
          | true => rfl
          | false => rfl
        cases hg : bdg c with
        | true =>
          have hgd : 48 ≤ c.toInt ∧ c.toInt ≤ 57 := by rw [bdg_d] at hg; exact of_decide_eq_true hg
          have hc := cd_i h1 h2
          have hm := m10_i (x := nu 1) (d := c - 48) ⟨hI2.1, by have := hI2.2; omega⟩ ⟨by omega, by omega⟩
          have eb : baB c (nu, some 1, 1, fe) = false := by
            show (if bdg c = true then bdB nu 1 1 (c - 48) else _) = _
            rw [if_pos hg, bdB]
            by_cases w : nu 1 = 0
            · rw [decide_eq_true w]; rfl
            · have hne : ¬ (nu 1).toInt = 0 := fun q => w (Int32.toInt_inj.mp (by rw [q]; rfl))
              have g5 : (gnT 1).toInt = 5 := rfl
              rw [decide_eq_true (show gnT 1 < 10 * nu 1 + (c - 48) from lt_t.mpr (by rw [hm]; have := hI2.1; omega)), Bool.not_true, Bool.and_false]
          refine ⟨?_, fun hb => by rw [eb] at hb; exact absurd hb (by decide)⟩
          rw [eb, ek, decide_eq_false]
          intro q
          cases fe with
          | true => have : c = 42 := q; rw [this] at hgd; omega
          | false => have : c = 59 := q; rw [this] at hgd; omega
        | false =>
          have eb : baB c (nu, some 1, 1, fe) = decide (c = nE 1 fe) := by
            show (if bdg c = true then _ else (!(decide (1 = 0)) && decide (c = nE 1 fe))) = _
            rw [if_neg (by rw [hg]; decide)]
            exact Bool.true_and _
          refine ⟨by rw [eb, ek], fun hb => ?_⟩
          have hcE : c = nE 1 fe := of_decide_eq_true (eb.symm.trans hb)
          cases fe with
          | true =>
            have hc42 : c = 42 := hcE
            have hn : dn = 3 := hn
            subst hn
            have es : baS c (nu, some 1, 1, true) = (upd nu 2 0, some 2, 0, true) := by
              unfold baS; rw [if_pos hb]
              show (if bdg c = true then _ else if c = 59 then _ else _) = _
              rw [if_neg (by rw [hg]; decide), if_neg (fun q => by rw [q] at hc42; exact absurd hc42 (by decide))]
            rw [es]
            show RLs (upd nu 2 0, some 2, 0, true) (pt, rn, -1, 4)
            exact ⟨rfl, rfl, hp, by show pt (4 * rn + 1) = upd nu 2 0 0; rw [upd_ne (by decide)]; exact hx, by show IN (upd nu 2 0 0) 0 99; rw [upd_ne (by decide)]; exact hI, by show pt (4 * rn + 2) = upd nu 2 0 1; rw [upd_ne (by decide)]; exact hk, by show IN (upd nu 2 0 1) 0 5; rw [upd_ne (by decide)]; exact hI2, ⟨by show IN (upd nu 2 0 2) 0 500; rw [upd_eq]; exact ⟨by decide, by decide⟩, fun _ => ⟨rfl, by show upd nu 2 0 2 = 0; exact upd_eq⟩, fun q => absurd q (Nat.lt_irrefl 0)⟩, fun q => absurd q (Nat.lt_irrefl 0)⟩
          | false =>
            have hc59 : c = 59 := hcE
            have hn : dn = 5 := hn
            subst hn
            have es : baS c (nu, some 1, 1, false) = (nu, none, 1, false) := by
              unfold baS; rw [if_pos hb]
              show (if bdg c = true then _ else if c = 59 then _ else _) = _
              rw [if_neg (by rw [hg]; decide), if_pos hc59]
            rw [es, tkS_5, if_pos hc59]
            rfl
    · obtain ⟨hf9, hd9, hp9, hx9, hI9, hk9, hI29, hN9, hq9⟩ := h
      have hf : fe = true := hf9
      have hd : dn = 4 := hd9
      have hN : NUM 500 (nu 2) di v := hN9
      have hq : 0 < di → pt (4 * rn + 3) = nu 2 := hq9
      have hp : pt (4 * rn) = 1 := hp9
      have hx : pt (4 * rn + 1) = nu 0 := hx9
      have hk : pt (4 * rn + 2) = nu 1 := hk9
      have hI : IN (nu 0) 0 99 := hI9
      have hI2 : IN (nu 1) 0 5 := hI29
      clear hf9 hd9 hp9 hx9 hI9 hk9 hI29 hN9 hq9
      subst hf; subst hd
      cases hg : bdg c with
      | true =>
        obtain ⟨k1, k2, k3⟩ := num_d (M := 500) (G := gnT 2) (dn := 4) (by omega) rfl rfl hN h1 h2 hg
        have hn58 : ¬ (c = 59 ∧ ¬ v = -1) := fun q => by rw [bdg_d] at hg; have := of_decide_eq_true hg; rw [q.1] at this; omega
        have eb : baB c (nu, some 2, di, true) = bdB nu 2 di (c - 48) := if_pos hg
        refine ⟨by rw [eb, tkB_4, if_neg hn58]; exact k1, fun hb => ?_⟩
        rw [eb] at hb
        have hpd : pdB 4 v (c - 48) = true := k1.symm.trans hb
        have es : baS c (nu, some 2, di, true) = (upd nu 2 (10 * nu 2 + (c - 48)), some 2, di + 1, true) := by unfold baS; rw [if_pos (eb.trans hb)]; exact if_pos hg
        rw [es, tkS_4, if_neg hn58]
        have eN : pdN 4 v (c - 48) = 10 * nu 2 + (c - 48) := by unfold pdN; rw [if_pos hpd, k2]
        refine ⟨rfl, rfl, by show upd pt (4 * rn + 3) (pdN 4 v (c - 48)) (4 * rn) = 1; rw [upd_ne (by omega)]; exact hp, by show upd pt (4 * rn + 3) (pdN 4 v (c - 48)) (4 * rn + 1) = upd nu 2 (10 * nu 2 + (c - 48)) 0; rw [upd_ne (by omega), upd_ne (by decide)]; exact hx, by show IN (upd nu 2 (10 * nu 2 + (c - 48)) 0) 0 99; rw [upd_ne (by decide)]; exact hI, by show upd pt (4 * rn + 3) (pdN 4 v (c - 48)) (4 * rn + 2) = upd nu 2 (10 * nu 2 + (c - 48)) 1; rw [upd_ne (by omega), upd_ne (by decide)]; exact hk, by show IN (upd nu 2 (10 * nu 2 + (c - 48)) 1) 0 5; rw [upd_ne (by decide)]; exact hI2, ⟨by show IN (upd nu 2 (10 * nu 2 + (c - 48)) 2) 0 500; rw [upd_eq]; exact k3 hb, fun q => absurd q (Nat.succ_ne_zero _), fun _ => ?_⟩, fun _ => ?_⟩
        · show pdN 4 v (c - 48) = upd nu 2 (10 * nu 2 + (c - 48)) 2
          rw [upd_eq, eN]
        · show upd pt (4 * rn + 3) (pdN 4 v (c - 48)) (4 * rn + 3) = upd nu 2 (10 * nu 2 + (c - 48)) 2
          rw [upd_eq, upd_eq, eN]
      | false =>
        have eb : baB c (nu, some 2, di, true) = (!(decide (di = 0)) && decide (c = 59)) := if_neg (by rw [hg]; decide)
        have ek : tkB c (pt, rn, v, 4) = (!(decide (di = 0)) && decide (c = 59)) := by
          rw [tkB_4, (not_dg h1 h2 hg).1]
          by_cases e : di = 0
          · rw [if_neg (fun q => q.2 (hN.2.1 e).1), decide_eq_true e]; rfl
          · have hv : ¬ v = -1 := by
              rw [hN.2.2 (by omega)]; intro q; have := hN.1.1; rw [q] at this; exact absurd this (by decide)
            rw [decide_eq_false e]
            by_cases e2 : c = 59
            · rw [if_pos ⟨e2, hv⟩, decide_eq_true e2]; rfl
            · rw [if_neg (fun q => e2 q.1), decide_eq_false e2]; rfl
        refine ⟨by rw [eb, ek], fun hb => ?_⟩
        rw [eb, Bool.and_eq_true] at hb
        have e2 := of_decide_eq_true hb.2
        have e : ¬ di = 0 := fun q => by rw [decide_eq_true q] at hb; exact absurd hb.1 (by decide)
        have hv : ¬ v = -1 := by
          rw [hN.2.2 (by omega)]; intro q; have := hN.1.1; rw [q] at this; exact absurd this (by decide)
        have es : baS c (nu, some 2, di, true) = (nu, none, di, true) := by
          unfold baS
          rw [if_pos (by rw [eb, Bool.and_eq_true]; exact hb)]
          show (if bdg c = true then _ else if c = 59 then _ else _) = _
          rw [if_neg (by rw [hg]; decide), if_pos e2]
        rw [es, tkS_4, if_pos ⟨e2, hv⟩]
        rfl
    · exfalso
      obtain ⟨i, rfl⟩ : ∃ i, j = i + 3 := ⟨j - 3, by omega⟩
      exact h
