/-! .. over whole texts; what a read lays -/
def TXT (t : Nat → Int32) (len : Nat) : Prop := ∀ j, j < len → 33 ≤ (t j).toInt ∧ (t j).toInt ≤ 126
theorem be_ru {t : Nat → Int32} {len : Nat} (hT : TXT t len) : ∀ (m k : Nat) (s : BS) (u : TS), k + m ≤ len → RLs s u → (beL t m k s).1 = (ruL t m k u).1 ∧ ((beL t m k s).1 = k + m → RLs (beL t m k s).2 (ruL t m k u).2)
  | 0, k, s, u, _, h => ⟨rfl, fun _ => h⟩
  | m + 1, k, s, u, hk, h => by
    obtain ⟨c1, c2⟩ := hT k (by omega)
    obtain ⟨e, hs⟩ := h.st c1 c2
    rw [beL_s, ruL_s, ← e]
    cases hb : baB (t k) s with
    | true =>
      rw [if_pos rfl, if_pos rfl]
      have := be_ru hT m (k + 1) _ _ (by omega) (hs hb)
      exact ⟨this.1, fun q => this.2 (by omega)⟩
    | false =>
      rw [if_neg (by decide), if_neg (by decide)]
      exact ⟨rfl, fun q => absurd (show k = k + (m + 1) from q) (by omega)⟩
theorem RLs.nn {nu : Nat → Int32} {di : Nat} {fe : Bool} {pt : Nat → Int32} {rn : Nat} {v : Int32} : RLs (nu, none, di, fe) (pt, rn, v, 0) := rfl
theorem NUM.v {M : Int} {x v : Int32} {di : Nat} (h : NUM M x di v) (hd : 0 < di) : ¬ v = -1 := by
  rw [h.2.2 hd]; intro q; have := h.1.1; rw [q] at this; exact absurd this (by decide)
theorem be_bd {len k : Nat} {s : BS} {u : TS} (h : k = len → RLs s u) : ibB len (k, s) = rbd len (k, u) := by
  unfold ibB rbd
  by_cases e : k = len
  · have hR := h e
    rw [decide_eq_true (p := (k, s).1 = len) e, Bool.true_and, Bool.true_and]
    obtain ⟨nu, co, di, fe⟩ := s
    obtain ⟨pt, rn, v, dn⟩ := u
    cases co with
    | none =>
      have : dn = 0 := hR
      subst this; rfl
    | some j =>
      show (decide (0 < di) && decide (nE j fe = 59)) = (decide (dn = 5) || (decide (dn = 4) && !(decide (v = -1))))
      rcases (show j = 0 ∨ j = 1 ∨ j = 2 ∨ 3 ≤ j by omega) with rfl | rfl | rfl | hj
      · have : dn = 1 := hR.1
        subst this
        exact Bool.and_false _
      · obtain ⟨_, _, _, hr⟩ := hR
        rcases hr with ⟨hd, hn, _⟩ | ⟨hd, _, _, _, hn⟩
        · have hd : di = 0 := hd
          have hn : dn = 2 := hn
          rw [hd, hn]; rfl
        · have hd : di = 1 := hd
          have hn : dn = if fe = true then 3 else 5 := hn
          rw [hd, hn]
          cases fe with
          | true => rfl
          | false => rfl
      · obtain ⟨_, hd, _, _, _, _, _, hN, _⟩ := hR
        have hd : dn = 4 := hd
        have hN : NUM 500 (nu 2) di v := hN
        rw [hd]
        show (decide (0 < di) && true) = (false || (true && !(decide (v = -1))))
        by_cases e0 : di = 0
        · rw [(hN.2.1 e0).1, decide_eq_false (show ¬ 0 < di by omega)]; rfl
        · rw [decide_eq_true (show 0 < di by omega), decide_eq_false (hN.v (by omega))]; rfl
      · exfalso
        obtain ⟨i, rfl⟩ : ∃ i, j = i + 3 := ⟨j - 3, by omega⟩
        exact hR
  · rw [decide_eq_false (p := (k, s).1 = len) e]; rfl
theorem beA_ru {t pt : Nat → Int32} {len : Nat} {s : BS} {nu : Int32} (hT : TXT t len) : (beA t len s).1 = (ruA t len pt nu).1 ∧ ibB len (beA t len s) = rbd len (ruA t len pt nu) := by
  have := be_ru hT len 0 (s.1, none, s.2.2.1, s.2.2.2) (pt, 0, nu, 0) (by omega) rfl
  refine ⟨this.1, ?_⟩
  have h2 := be_bd (len := len) (k := (beA t len s).1) (s := (beA t len s).2) (u := (ruA t len pt nu).2) (fun e => this.2 (by rw [Nat.zero_add]; exact e))
  refine h2.trans ?_
  rw [show (beA t len s).1 = (ruA t len pt nu).1 from this.1]
theorem tkS_k {c : Int32} {u : TS} : (∀ w, w < 4 * u.2.1 → (tkS c u).1 w = u.1 w) ∧ u.2.1 ≤ (tkS c u).2.1 ∧ (¬ c = 59 → (tkS c u).2.1 = u.2.1) := by
  obtain ⟨pt, rn, v, dn⟩ := u
  rcases (show dn = 0 ∨ dn = 1 ∨ dn = 2 ∨ dn = 3 ∨ dn = 4 ∨ 5 ≤ dn by omega) with rfl | rfl | rfl | rfl | rfl | hd
  · exact ⟨fun w hw => by show upd pt (4 * rn) (if c = 102 then 1 else 0) w = pt w; have hw : w < 4 * rn := hw; rw [upd_ne (by omega)], Nat.le_refl _, fun _ => rfl⟩
  · rw [tkS_1]
    split
    · exact ⟨fun _ _ => rfl, Nat.le_refl _, fun _ => rfl⟩
    · exact ⟨fun w hw => by show upd pt (4 * rn + pdO 1) (pdN 1 v (c - 48)) w = pt w; have hw : w < 4 * rn := hw; rw [upd_ne (by omega)], Nat.le_refl _, fun _ => rfl⟩
  · rw [tkS_2]
    exact ⟨fun w hw => by show upd pt (4 * rn + 2) (c - 48) w = pt w; have hw : w < 4 * rn := hw; rw [upd_ne (by omega)], Nat.le_refl _, fun _ => rfl⟩
  · exact ⟨fun _ _ => rfl, Nat.le_refl _, fun _ => rfl⟩
  · rw [tkS_4]
    by_cases q : c = 59 ∧ ¬ v = -1
    · rw [if_pos q]; exact ⟨fun _ _ => rfl, Nat.le_succ _, fun h => absurd q.1 h⟩
    · rw [if_neg q]; exact ⟨fun w hw => by show upd pt (4 * rn + pdO 4) (pdN 4 v (c - 48)) w = pt w; have hw : w < 4 * rn := hw; rw [upd_ne (by omega)], Nat.le_refl _, fun _ => rfl⟩
  · obtain ⟨i, rfl⟩ : ∃ i, dn = i + 5 := ⟨dn - 5, by omega⟩
    have e : tkS c (pt, rn, v, i + 5) = if c = 59 then (pt, rn + 1, v, 0) else (pt, rn, v, i + 5) := rfl
    rw [e]
    by_cases q : c = 59
    · rw [if_pos q]; exact ⟨fun _ _ => rfl, Nat.le_succ _, fun h => absurd q h⟩
    · rw [if_neg q]; exact ⟨fun _ _ => rfl, Nat.le_refl _, fun _ => rfl⟩
theorem ruL_k {t : Nat → Int32} : ∀ (m k : Nat) (u : TS), (∀ w, w < 4 * u.2.1 → (ruL t m k u).2.1 w = u.1 w) ∧ u.2.1 ≤ (ruL t m k u).2.2.1
  | 0, k, u => ⟨fun _ _ => rfl, Nat.le_refl _⟩
  | m + 1, k, u => by
    obtain ⟨a, b, _⟩ := tkS_k (c := t k) (u := u)
    rw [ruL_s]
    by_cases hb : tkB (t k) u = true
    · rw [if_pos hb]
      obtain ⟨p, q⟩ := ruL_k (t := t) m (k + 1) (tkS (t k) u)
      exact ⟨fun w hw => (p w (by omega)).trans (a w hw), by omega⟩
    · rw [if_neg hb]; exact ⟨a, b⟩
/-- a part that is whole, laid by both -/
theorem pt_ok {K : Nat} {s : BS} {u : TS} {z ptF : Nat → Int32} (h : RLs s u) (hw : u.2.2.2 = 5 ∨ (u.2.2.2 = 4 ∧ ¬ u.2.2.1 = -1)) (hz : IV K z) (hF : ∀ w, 4 * u.2.1 ≤ w → w < 4 * u.2.1 + 4 → ptF w = u.1 w) : apB s z = adB ptF z u.2.1 ∧ (apB s z = true → apZ s z = adZ ptF z u.2.1 ∧ IV K (apZ s z)) := by
  obtain ⟨nu, co, di, fe⟩ := s
  obtain ⟨pt, rn, v, dn⟩ := u
  have hF : ∀ w, 4 * rn ≤ w → w < 4 * rn + 4 → ptF w = pt w := hF
  have hw : dn = 5 ∨ (dn = 4 ∧ ¬ v = -1) := hw
  have f0 := hF (4 * rn) (by omega) (by omega); have f1 := hF (4 * rn + 1) (by omega) (by omega); have f2 := hF (4 * rn + 2) (by omega) (by omega); have f3 := hF (4 * rn + 3) (by omega) (by omega)
  have kd : ∀ x : Int32, IN x 0 5 → ∃ j, j < 6 ∧ x = nI j := fun x hx => ⟨x.toInt.toNat, by have := hx.1; have := hx.2; omega, Int32.toInt_inj.mp (by have := hx.1; have := hx.2; rw [nI_toInt (by omega)]; omega)⟩
  cases co with
  | none => have : dn = 0 := h; omega
  | some j =>
    rcases (show j = 0 ∨ j = 1 ∨ j = 2 ∨ 3 ≤ j by omega) with rfl | rfl | rfl | hj
    · have : dn = 1 := h.1; omega
    · obtain ⟨hp9, hx9, hI9, hr⟩ := h
      have hp : pt (4 * rn) = (if fe = true then 1 else 0) := hp9
      have hx : pt (4 * rn + 1) = nu 0 := hx9
      have hI : IN (nu 0) 0 99 := hI9
      rcases hr with ⟨_, hn9, _⟩ | ⟨hd9, hk9, hI29, hv9, hn9⟩
      · have : dn = 2 := hn9; omega
      · have hn : dn = if fe = true then 3 else 5 := hn9
        have hk : pt (4 * rn + 2) = nu 1 := hk9
        have hI2 : IN (nu 1) 0 5 := hI29
        cases fe with
        | true => have hn : dn = 3 := hn; omega
        | false =>
          have hp : pt (4 * rn) = 0 := hp
          have ha : adB ptF z rn = decide (np z < 24) := by unfold adB; rw [f0, hp, if_neg (by decide)]
          have hb : apB (nu, some 1, di, false) z = decide (np z < 24) := rfl
          refine ⟨by rw [hb]; exact ha.symm, fun q => ?_⟩
          have h24 := of_decide_eq_true (hb.symm.trans q)
          have e : apZ (nu, some 1, di, false) z = apA z (nu 0) (nu 1) := by unfold apZ; rw [if_pos q]; rfl
          rw [e]
          refine ⟨?_, hz.ap h24 hI (kd _ hI2)⟩
          show _ = adZ ptF z rn
          unfold adZ
          rw [if_pos (by rw [ha]; exact decide_eq_true h24), f0, hp, if_neg (by decide), f1, f2, hx, hk]
    · obtain ⟨hf9, hd9, hp9, hx9, hI9, hk9, hI29, hN9, hq9⟩ := h
      have hf : fe = true := hf9
      have hp : pt (4 * rn) = 1 := hp9
      have hx : pt (4 * rn + 1) = nu 0 := hx9
      have hk : pt (4 * rn + 2) = nu 1 := hk9
      have hI : IN (nu 0) 0 99 := hI9
      have hI2 : IN (nu 1) 0 5 := hI29
      have hN : NUM 500 (nu 2) di v := hN9
      have hd : dn = 4 := hd9
      have hv : ¬ v = -1 := by rcases hw with q | q; · omega
                               · exact q.2
      have hdi : 0 < di := Nat.pos_of_ne_zero (fun q => hv (hN.2.1 q).1)
      have h3 : pt (4 * rn + 3) = nu 2 := hq9 hdi
      have ha : adB ptF z rn = decide (nf z < 8) := by unfold adB; rw [f0, hp, if_pos rfl]
      subst hf
      have hb : apB (nu, some 2, di, true) z = decide (nf z < 8) := rfl
      refine ⟨by rw [hb]; exact ha.symm, fun q => ?_⟩
      have h8 := of_decide_eq_true (hb.symm.trans q)
      have e : apZ (nu, some 2, di, true) z = nfI z (nu 0) (nu 1) (nu 2) 0 0 := by unfold apZ; rw [if_pos q]; rfl
      rw [e]
      refine ⟨?_, hz.af h8 hI (kd _ hI2)⟩
      show _ = adZ ptF z rn
      unfold adZ
      rw [if_pos (by rw [ha]; exact decide_eq_true h8), f0, hp, if_pos rfl, f1, f2, f3, hx, hk, h3, nfI_eq hz.2.1 h8]
    · exfalso
      obtain ⟨i, rfl⟩ : ∃ i, j = i + 3 := ⟨j - 3, by omega⟩
      exact h
theorem tk59 {s : BS} {u : TS} {c : Int32} (h : RLs s u) (hc : c = 59) (hb : tkB c u = true) : (u.2.2.2 = 5 ∨ (u.2.2.2 = 4 ∧ ¬ u.2.2.1 = -1)) ∧ (tkS c u).1 = u.1 ∧ (tkS c u).2.1 = u.2.1 + 1 := by
  subst hc
  obtain ⟨nu, co, di, fe⟩ := s
  obtain ⟨pt, rn, v, dn⟩ := u
  have dl : dn ≤ 5 := by
    cases co with
    | none => have : dn = 0 := h; omega
    | some j =>
      rcases (show j = 0 ∨ j = 1 ∨ j = 2 ∨ 3 ≤ j by omega) with rfl | rfl | rfl | hj
      · have : dn = 1 := h.1; omega
      · rcases h.2.2.2 with ⟨_, q, _⟩ | ⟨_, _, _, _, q⟩
        · have : dn = 2 := q; omega
        · have : dn = if fe = true then 3 else 5 := q
          split at this <;> omega
      · have : dn = 4 := h.2.1; omega
      · exfalso
        obtain ⟨i, rfl⟩ : ∃ i, j = i + 3 := ⟨j - 3, by omega⟩
        exact h
  have np1 : ∀ dn v, pdB dn v ((59 : Int32) - 48) = false := fun dn v => (not_dg (c := 59) (dn := dn) (v := v) (by decide) (by decide) (by decide)).1
  rcases (show dn = 0 ∨ dn = 1 ∨ dn = 2 ∨ dn = 3 ∨ dn = 4 ∨ dn = 5 by omega) with rfl | rfl | rfl | rfl | rfl | rfl
  · exact absurd hb (by rw [tkB_0]; decide)
  · rw [tkB_1, if_neg (fun q => absurd q.1 (by decide)), np1] at hb; exact absurd hb (by decide)
  · have hb : wi ((59 : Int32) - 48) 0 5 = true := hb
    exact absurd hb (by decide)
  · rw [tkB_3] at hb; exact absurd hb (by decide)
  · rw [tkB_4] at hb
    by_cases q : (59 : Int32) = 59 ∧ ¬ v = -1
    · rw [tkS_4, if_pos q]
      exact ⟨Or.inr ⟨rfl, q.2⟩, rfl, rfl⟩
    · rw [if_neg q, np1] at hb; exact absurd hb (by decide)
  · rw [tkS_5, if_pos rfl]
    exact ⟨Or.inl rfl, rfl, rfl⟩
theorem ac_rd {K : Nat} {t : Nat → Int32} {len : Nat} (hT : TXT t len) : ∀ (m i : Nat) (s : BS) (u : TS) (z : Nat → Int32), i + m = len → RLs s u → (ruL t m i u).1 = len → rbd len (ruL t m i u) = true → IV K z →
    (acL t len (m + 1) i (u.2.1, z, s)).1 = (rdL (ruL t m i u).2.1 ((ruL t m i u).2.2.1 + 1 - u.2.1) u.2.1 z).1 ∧ (acL t len (m + 1) i (u.2.1, z, s)).2.1 = (rdL (ruL t m i u).2.1 ((ruL t m i u).2.2.1 + 1 - u.2.1) u.2.1 z).2 ∧ IV K (acL t len (m + 1) i (u.2.1, z, s)).2.1
  | 0, i, s, u, z, hi, h, _, hr, hz => by
    have hw : u.2.2.2 = 5 ∨ (u.2.2.2 = 4 ∧ ¬ u.2.2.1 = -1) := by
      have hr : (decide (i = len) && (decide (u.2.2.2 = 5) || (decide (u.2.2.2 = 4) && !(decide (u.2.2.1 = -1))))) = true := hr
      rw [Bool.and_eq_true, Bool.or_eq_true, Bool.and_eq_true] at hr
      rcases hr.2 with q | q
      · exact Or.inl (of_decide_eq_true q)
      · exact Or.inr ⟨of_decide_eq_true q.1, fun e => by rw [decide_eq_true e] at q; exact absurd q.2 (by decide)⟩
    obtain ⟨e1, e2⟩ := pt_ok (ptF := u.1) h hw hz (fun _ _ _ => rfl)
    have hpe : pe t len i = true := by rw [pe, decide_eq_true (show i = len by omega)]; rfl
    rw [acL_s, if_pos hpe]
    show (if apB s z = true then _ else _ : AS).1 = (rdL u.1 (u.2.1 + 1 - u.2.1) u.2.1 z).1 ∧ (if apB s z = true then _ else _ : AS).2.1 = (rdL u.1 (u.2.1 + 1 - u.2.1) u.2.1 z).2 ∧ IV K (if apB s z = true then _ else _ : AS).2.1
    rw [show u.2.1 + 1 - u.2.1 = 0 + 1 by omega, rdL_s, ← e1]
    cases hb : apB s z with
    | true =>
      obtain ⟨g1, g2⟩ := e2 hb
      rw [if_pos rfl, if_pos rfl, rdL_0, acL_0]
      exact ⟨rfl, g1, g2⟩
    | false =>
      rw [if_neg (by decide), if_neg (by decide)]
      exact ⟨rfl, rfl, hz⟩
  | m + 1, i, s, u, z, hi, h, hn, hr, hz => by
    obtain ⟨c1, c2⟩ := hT i (by omega)
    obtain ⟨e, hs⟩ := h.st c1 c2
    have hb : tkB (t i) u = true := by
      cases hq : tkB (t i) u with
      | true => rfl
      | false =>
        rw [ruL_s, hq, if_neg (by decide)] at hn
        have hn : i = len := hn
        omega
    have hR := hs (e.trans hb)
    have hru : ruL t (m + 1) i u = ruL t m (i + 1) (tkS (t i) u) := by rw [ruL_s, if_pos hb]
    rw [hru] at hn hr ⊢
    have hnx : nxS t len i s = baS (t i) s := by rw [nxS, if_pos (by omega)]
    obtain ⟨k1, k2, k3⟩ := tkS_k (c := t i) (u := u)
    obtain ⟨r1, r2⟩ := ruL_k (t := t) m (i + 1) (tkS (t i) u)
    rw [acL_s]
    by_cases hc : t i = 59
    · have hpe : pe t len i = true := by rw [pe, decide_eq_true hc]; exact Bool.or_true _
      obtain ⟨hw, s1, s2⟩ := tk59 h hc hb
      obtain ⟨e1, e2⟩ := pt_ok (ptF := (ruL t m (i + 1) (tkS (t i) u)).2.1) h hw hz (fun w w1 w2 => by rw [r1 w (by omega), s1])
      rw [if_pos hpe, hnx]
      show (if apB s z = true then _ else _ : AS).1 = _ ∧ (if apB s z = true then _ else _ : AS).2.1 = _ ∧ IV K (if apB s z = true then _ else _ : AS).2.1
      rw [show (ruL t m (i + 1) (tkS (t i) u)).2.2.1 + 1 - u.2.1 = ((ruL t m (i + 1) (tkS (t i) u)).2.2.1 + 1 - (u.2.1 + 1)) + 1 by omega, rdL_s, ← e1]
      cases hq : apB s z with
      | true =>
        obtain ⟨g1, g2⟩ := e2 hq
        rw [if_pos rfl, if_pos rfl, ← g1]
        have := ac_rd hT m (i + 1) (baS (t i) s) (tkS (t i) u) (apZ s z) (by omega) hR hn hr g2
        rw [s2] at this
        exact this
      | false =>
        rw [if_neg (by decide), if_neg (by decide)]
        exact ⟨rfl, rfl, hz⟩
    · have hpe : pe t len i = false := by rw [pe, decide_eq_false (show ¬ i = len by omega), decide_eq_false hc]; rfl
      rw [hpe, if_neg (by decide), hnx]
      have := ac_rd hT m (i + 1) (baS (t i) s) (tkS (t i) u) z (by omega) hR hn hr hz
      rw [k3 hc] at this
      exact this
theorem acL_di {t : Nat → Int32} {len : Nat} (hl : len ≤ 60) : ∀ (m i : Nat) (q : AS), BV i q.2.2 → (acL t len m i q).2.2.2.2.1 ≤ 60
  | 0, i, q, h => h.2
  | m + 1, i, q, h => by
    rw [acL_s]
    split
    · split
      · exact acL_di hl m (i + 1) _ (h.nxS hl)
      · exact h.2
    · exact acL_di hl m (i + 1) _ (h.nxS hl)
theorem acA_rd {K : Nat} {t pt z : Nat → Int32} {len : Nat} {s : BS} {nu : Int32} (hT : TXT t len) (hl : len ≤ 60) (hD : s.2.2.1 ≤ 60) (hz : IV K z) (hb : rbd len (ruA t len pt nu) = true) :
    (acA t len z s).1 = (rdL (ruA t len pt nu).2.1 ((ruA t len pt nu).2.2.1 + 1) 0 z).1 ∧ (acA t len z s).2.1 = (rdL (ruA t len pt nu).2.1 ((ruA t len pt nu).2.2.1 + 1) 0 z).2 ∧ IV K (acA t len z s).2.1 ∧ (acA t len z s).2.2.2.2.1 ≤ 60 := by
  have hn : (ruA t len pt nu).1 = len := by
    unfold rbd at hb
    rw [Bool.and_eq_true] at hb
    exact of_decide_eq_true hb.1
  have := ac_rd (K := K) hT len 0 (s.1, none, s.2.2.1, s.2.2.2) (pt, 0, nu, 0) z (by omega) rfl hn hb hz
  exact ⟨this.1, this.2.1, this.2.2, acL_di hl _ _ _ ⟨fun j hj => (by cases hj), hD⟩⟩
