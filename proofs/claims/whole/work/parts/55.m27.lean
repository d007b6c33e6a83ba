abbrev rmX0_accept : Room := { frames := 2, cells := 0, slots := 0, locals := 42 }
set_option maxHeartbeats 4000000 in
set_option maxRecDepth 100000 in
theorem kX0_accept (g : GT) (x : Nat → Nat) (tx : Nat → Int32) (ln : Int32) (s : BS) (c : Int32) (hj : ∀ j, s.2.1 = some j → j < 3) (hD : s.2.2.1 ≤ 60) : UC g yX0_accept wsX0_accept rmX0_accept [.ref (x 0), .int c] (BWs g x tx ln s) (Qf (some (.int (bi (baB c s)))) (BWs g x tx ln (baS c s))) := by
  refine UC.ofV (cc := cX0_accept) (maxL := 2) (ret := some .boolean) (lv0 := [(0, .ref (x 0)), (1, .int c)]) (by decide) rfl (Nat.le_of_ble_eq_true rfl) rfl ?_
  generalize hQF : QFr g rmX0_accept (Qf (some (.int (bi (baB c s)))) (BWs g x tx ln (baS c s))) = QF
  have hq : QFok g rmX0_accept (Qf (some (.int (bi (baB c s)))) (BWs g x tx ln (baS c s))) QF := hQF ▸ QFr.q
  obtain ⟨nu, co, di, fe⟩ := s
  have hD : di ≤ 60 := hD
  cases co with
  | none =>
    refine V.eqws (ws2 := BW g x tx ln nu (-1) (nI di) (bi fe)) rfl ?_
    refine V.aload_n 0 rfl dX0_accept_0 rfl ?_
    refine V.get (v := .int (-1)) (fun w H => List.mem_cons_of_mem _ (List.mem_append_right _ H)) (hc := (rfl : vwCl[0]? = some (RX0, TX0, 6))) 0 3 (by decide) (List.mem_of_getElem? (i := 1) rfl) rfl rfl dX0_accept_1 ?_
    refine V.if_lt_t (tgt := 15) (by decide) dX0_accept_4 (by decide) ?_
    refine V.aload_n 0 rfl dX0_accept_15 rfl ?_
    refine V.iload_n 1 rfl dX0_accept_16 rfl ?_
    by_cases hc : c = 112 ∨ c = 102
    · skip
      have hbB : baB c (nu, none, di, fe) = true := by show (decide (c = 112) || decide (c = 102)) = true; rcases hc with h | h <;> simp [h]
      have hbS : baS c (nu, none, di, fe) = (upd nu 0 0, some 0, 0, decide (c = 102)) := if_pos hbB
      refine V.callVf (ws2 := BW g x tx ln (upd nu 0 0) (nI 0) 0 (bi (decide (c = 102)))) (st2 := [.int 1]) [.int c] [] (kX0_acceptLetter_ok g x tx ln nu (-1) (nI di) (bi fe) c hc) gX0_accept_X0_acceptLetter rfl (by show _ ∧ _ ∧ _ ∧ _ = some (1 : Nat); decide +kernel) ⟨Nat.le_of_ble_eq_true rfl, Nat.le_of_ble_eq_true rfl⟩ (hc := (rfl : vwCl[0]? = some (RX0, TX0, 6))) 0 rfl [0, 1, 2] (by decide) rfl rfl (Nat.le_of_ble_eq_true rfl) ⟨Nat.le_of_ble_eq_true rfl, Nat.le_of_ble_eq_true rfl⟩ dX0_accept_17 BWf rfl rfl rfl rfl ?_
      exact V.zret hq XM.r rfl (Nat.le_of_ble_eq_true rfl) (Nat.le_of_ble_eq_true rfl) ⟨by rw [hbB] <;> rfl, by rw [hbS] <;> rfl⟩ dX0_accept_20
    · skip
      have h1 : ¬ c = 112 := fun q => hc (Or.inl q)
      have h2 : ¬ c = 102 := fun q => hc (Or.inr q)
      have hbB : baB c (nu, none, di, fe) = false := by show (decide (c = 112) || decide (c = 102)) = false; rw [decide_eq_false h1, decide_eq_false h2]; rfl
      have hbS : baS c (nu, none, di, fe) = (nu, none, di, fe) := baS_no hbB
      refine V.callVf (ws2 := BW g x tx ln nu (-1) (nI di) (bi fe)) (st2 := [.int 0]) [.int c] [] (kX0_acceptLetter_no g x tx ln nu (-1) (nI di) (bi fe) c h1 h2) gX0_accept_X0_acceptLetter rfl (by show _ ∧ _ ∧ _ ∧ _ = some (1 : Nat); decide +kernel) ⟨Nat.le_of_ble_eq_true rfl, Nat.le_of_ble_eq_true rfl⟩ (hc := (rfl : vwCl[0]? = some (RX0, TX0, 6))) 0 rfl [0, 1, 2] (by decide) rfl rfl (Nat.le_of_ble_eq_true rfl) ⟨Nat.le_of_ble_eq_true rfl, Nat.le_of_ble_eq_true rfl⟩ dX0_accept_17 BWf rfl rfl rfl rfl ?_
      exact V.zret hq XM.r rfl (Nat.le_of_ble_eq_true rfl) (Nat.le_of_ble_eq_true rfl) ⟨by rw [hbB] <;> rfl, by rw [hbS] <;> rfl⟩ dX0_accept_20
  | some j =>
    have hj : j < 3 := hj j rfl
    refine V.eqws (ws2 := BW g x tx ln nu (nI j) (nI di) (bi fe)) rfl ?_
    refine V.aload_n 0 rfl dX0_accept_0 rfl ?_
    refine V.get (v := .int (nI j)) (fun w H => List.mem_cons_of_mem _ (List.mem_append_right _ H)) (hc := (rfl : vwCl[0]? = some (RX0, TX0, 6))) 0 3 (by decide) (List.mem_of_getElem? (i := 1) rfl) rfl rfl dX0_accept_1 ?_
    refine V.if_lt_f (tgt := 15) (by exact nI_nlt (a := j) (b := 0) (by omega) (by omega)) dX0_accept_4 (by decide) ?_
    refine V.aload_n 0 rfl dX0_accept_7 rfl ?_
    refine V.get (v := .int (nI j)) (fun w H => List.mem_cons_of_mem _ (List.mem_append_right _ H)) (hc := (rfl : vwCl[0]? = some (RX0, TX0, 6))) 0 3 (by decide) (List.mem_of_getElem? (i := 1) rfl) rfl rfl dX0_accept_8 ?_
    refine V.iconst (v := 2) dX0_accept_11 (by decide) ?_
    refine V.icmp_le_t (tgt := 21) (by exact nI_le (a := j) (b := 2) (by omega) (by decide)) dX0_accept_12 (by decide) ?_
    refine V.iload_n 1 rfl dX0_accept_21 rfl ?_
    refine V.bipush (v := 48) dX0_accept_22 (by decide) ?_
    refine V.icmp_lt (tgt := 42) dX0_accept_24 (by decide) (fun c24 => ?_) (fun c24 => ?_)
    · skip
      refine V.aload_n 0 rfl dX0_accept_42 rfl ?_
      refine V.iload_n 1 rfl dX0_accept_43 rfl ?_
      have hg : ¬ bdg c = true := fun q => Int32.not_lt.mpr (bdg_2 q).1 c24
      by_cases hb : di = 0 ∨ ¬ c = nE j fe
      · skip
        have hbB : baB c (nu, some j, di, fe) = false := by show (if bdg c then _ else !(decide (di = 0)) && decide (c = nE j fe)) = false; rw [if_neg hg]; rcases hb with h | h <;> simp [h]
        have hbS : baS c (nu, some j, di, fe) = (nu, some j, di, fe) := baS_no hbB
        refine V.callVf (ws2 := BW g x tx ln nu (nI j) (nI di) (bi fe)) (st2 := [.int 0]) [.int c] [] (kX0_acceptEnd_no g x tx ln nu j di fe c hj (by omega) hb) gX0_accept_X0_acceptEnd rfl (by show _ ∧ _ ∧ _ ∧ _ = some (1 : Nat); decide +kernel) ⟨Nat.le_of_ble_eq_true rfl, Nat.le_of_ble_eq_true rfl⟩ (hc := (rfl : vwCl[0]? = some (RX0, TX0, 6))) 0 rfl [0, 1, 2] (by decide) rfl rfl (Nat.le_of_ble_eq_true rfl) ⟨Nat.le_of_ble_eq_true rfl, Nat.le_of_ble_eq_true rfl⟩ dX0_accept_44 BWf rfl rfl rfl rfl ?_
        exact V.zret hq XM.r rfl (Nat.le_of_ble_eq_true rfl) (Nat.le_of_ble_eq_true rfl) ⟨by rw [hbB] <;> rfl, by rw [hbS] <;> rfl⟩ dX0_accept_47
      · skip
        have h0 : ¬ di = 0 := fun q => hb (Or.inl q)
        have hE : c = nE j fe := Decidable.byContradiction (fun q => hb (Or.inr q))
        have hbB : baB c (nu, some j, di, fe) = true := by show (if bdg c then _ else !(decide (di = 0)) && decide (c = nE j fe)) = true; rw [if_neg hg, decide_eq_false h0, decide_eq_true hE]; rfl
        by_cases hc : c = 59
        · skip
          have hbS : baS c (nu, some j, di, fe) = (nu, none, di, fe) := by unfold baS; rw [if_pos hbB]; exact (if_neg hg).trans (if_pos hc)
          refine V.callVf (ws2 := BW g x tx ln nu (-1) (nI di) (bi fe)) (st2 := [.int 1]) [.int c] [] (kX0_acceptEnd_semi g x tx ln nu j di fe c hj (by omega) h0 hE hc) gX0_accept_X0_acceptEnd rfl (by show _ ∧ _ ∧ _ ∧ _ = some (1 : Nat); decide +kernel) ⟨Nat.le_of_ble_eq_true rfl, Nat.le_of_ble_eq_true rfl⟩ (hc := (rfl : vwCl[0]? = some (RX0, TX0, 6))) 0 rfl [0, 1, 2] (by decide) rfl rfl (Nat.le_of_ble_eq_true rfl) ⟨Nat.le_of_ble_eq_true rfl, Nat.le_of_ble_eq_true rfl⟩ dX0_accept_44 BWf rfl rfl rfl rfl ?_
          exact V.zret hq XM.r rfl (Nat.le_of_ble_eq_true rfl) (Nat.le_of_ble_eq_true rfl) ⟨by rw [hbB] <;> rfl, by rw [hbS] <;> rfl⟩ dX0_accept_47
        · skip
          have hj2 : j < 2 := by rcases (show j = 0 ∨ j = 1 ∨ j = 2 by omega) with h | h | h <;> first | omega | (subst h; exact absurd hE hc)
          have hbS : baS c (nu, some j, di, fe) = (upd nu (j + 1) 0, some (j + 1), 0, fe) := by unfold baS; rw [if_pos hbB]; exact (if_neg hg).trans (if_neg hc)
          refine V.callVf (ws2 := BW g x tx ln (upd nu (j + 1) 0) (nI (j + 1)) 0 (bi fe)) (st2 := [.int 1]) [.int c] [] (kX0_acceptEnd_next g x tx ln nu j di fe c hj (by omega) h0 hE hc hj2) gX0_accept_X0_acceptEnd rfl (by show _ ∧ _ ∧ _ ∧ _ = some (1 : Nat); decide +kernel) ⟨Nat.le_of_ble_eq_true rfl, Nat.le_of_ble_eq_true rfl⟩ (hc := (rfl : vwCl[0]? = some (RX0, TX0, 6))) 0 rfl [0, 1, 2] (by decide) rfl rfl (Nat.le_of_ble_eq_true rfl) ⟨Nat.le_of_ble_eq_true rfl, Nat.le_of_ble_eq_true rfl⟩ dX0_accept_44 BWf rfl rfl rfl rfl ?_
          exact V.zret hq XM.r rfl (Nat.le_of_ble_eq_true rfl) (Nat.le_of_ble_eq_true rfl) ⟨by rw [hbB] <;> rfl, by rw [hbS] <;> rfl⟩ dX0_accept_47
    · skip
      refine V.iload_n 1 rfl dX0_accept_27 rfl ?_
      refine V.bipush (v := 57) dX0_accept_28 (by decide) ?_
      refine V.icmp_gt (tgt := 42) dX0_accept_30 (by decide) (fun c30 => ?_) (fun c30 => ?_)
      · skip
        refine V.aload_n 0 rfl dX0_accept_42 rfl ?_
        refine V.iload_n 1 rfl dX0_accept_43 rfl ?_
        have hg : ¬ bdg c = true := fun q => Int32.not_lt.mpr (bdg_2 q).2 c30
        by_cases hb : di = 0 ∨ ¬ c = nE j fe
        · skip
          have hbB : baB c (nu, some j, di, fe) = false := by show (if bdg c then _ else !(decide (di = 0)) && decide (c = nE j fe)) = false; rw [if_neg hg]; rcases hb with h | h <;> simp [h]
          have hbS : baS c (nu, some j, di, fe) = (nu, some j, di, fe) := baS_no hbB
          refine V.callVf (ws2 := BW g x tx ln nu (nI j) (nI di) (bi fe)) (st2 := [.int 0]) [.int c] [] (kX0_acceptEnd_no g x tx ln nu j di fe c hj (by omega) hb) gX0_accept_X0_acceptEnd rfl (by show _ ∧ _ ∧ _ ∧ _ = some (1 : Nat); decide +kernel) ⟨Nat.le_of_ble_eq_true rfl, Nat.le_of_ble_eq_true rfl⟩ (hc := (rfl : vwCl[0]? = some (RX0, TX0, 6))) 0 rfl [0, 1, 2] (by decide) rfl rfl (Nat.le_of_ble_eq_true rfl) ⟨Nat.le_of_ble_eq_true rfl, Nat.le_of_ble_eq_true rfl⟩ dX0_accept_44 BWf rfl rfl rfl rfl ?_
          exact V.zret hq XM.r rfl (Nat.le_of_ble_eq_true rfl) (Nat.le_of_ble_eq_true rfl) ⟨by rw [hbB] <;> rfl, by rw [hbS] <;> rfl⟩ dX0_accept_47
        · skip
          have h0 : ¬ di = 0 := fun q => hb (Or.inl q)
          have hE : c = nE j fe := Decidable.byContradiction (fun q => hb (Or.inr q))
          have hbB : baB c (nu, some j, di, fe) = true := by show (if bdg c then _ else !(decide (di = 0)) && decide (c = nE j fe)) = true; rw [if_neg hg, decide_eq_false h0, decide_eq_true hE]; rfl
          by_cases hc : c = 59
          · skip
            have hbS : baS c (nu, some j, di, fe) = (nu, none, di, fe) := by unfold baS; rw [if_pos hbB]; exact (if_neg hg).trans (if_pos hc)
            refine V.callVf (ws2 := BW g x tx ln nu (-1) (nI di) (bi fe)) (st2 := [.int 1]) [.int c] [] (kX0_acceptEnd_semi g x tx ln nu j di fe c hj (by omega) h0 hE hc) gX0_accept_X0_acceptEnd rfl (by show _ ∧ _ ∧ _ ∧ _ = some (1 : Nat); decide +kernel) ⟨Nat.le_of_ble_eq_true rfl, Nat.le_of_ble_eq_true rfl⟩ (hc := (rfl : vwCl[0]? = some (RX0, TX0, 6))) 0 rfl [0, 1, 2] (by decide) rfl rfl (Nat.le_of_ble_eq_true rfl) ⟨Nat.le_of_ble_eq_true rfl, Nat.le_of_ble_eq_true rfl⟩ dX0_accept_44 BWf rfl rfl rfl rfl ?_
            exact V.zret hq XM.r rfl (Nat.le_of_ble_eq_true rfl) (Nat.le_of_ble_eq_true rfl) ⟨by rw [hbB] <;> rfl, by rw [hbS] <;> rfl⟩ dX0_accept_47
          · skip
            have hj2 : j < 2 := by rcases (show j = 0 ∨ j = 1 ∨ j = 2 by omega) with h | h | h <;> first | omega | (subst h; exact absurd hE hc)
            have hbS : baS c (nu, some j, di, fe) = (upd nu (j + 1) 0, some (j + 1), 0, fe) := by unfold baS; rw [if_pos hbB]; exact (if_neg hg).trans (if_neg hc)
            refine V.callVf (ws2 := BW g x tx ln (upd nu (j + 1) 0) (nI (j + 1)) 0 (bi fe)) (st2 := [.int 1]) [.int c] [] (kX0_acceptEnd_next g x tx ln nu j di fe c hj (by omega) h0 hE hc hj2) gX0_accept_X0_acceptEnd rfl (by show _ ∧ _ ∧ _ ∧ _ = some (1 : Nat); decide +kernel) ⟨Nat.le_of_ble_eq_true rfl, Nat.le_of_ble_eq_true rfl⟩ (hc := (rfl : vwCl[0]? = some (RX0, TX0, 6))) 0 rfl [0, 1, 2] (by decide) rfl rfl (Nat.le_of_ble_eq_true rfl) ⟨Nat.le_of_ble_eq_true rfl, Nat.le_of_ble_eq_true rfl⟩ dX0_accept_44 BWf rfl rfl rfl rfl ?_
            exact V.zret hq XM.r rfl (Nat.le_of_ble_eq_true rfl) (Nat.le_of_ble_eq_true rfl) ⟨by rw [hbB] <;> rfl, by rw [hbS] <;> rfl⟩ dX0_accept_47
      · skip
        refine V.aload_n 0 rfl dX0_accept_33 rfl ?_
        refine V.iload_n 1 rfl dX0_accept_34 rfl ?_
        refine V.bipush (v := 48) dX0_accept_35 (by decide) ?_
        refine V.isub dX0_accept_37 ?_
        have hg : bdg c = true := bdg_1 (Int32.not_lt.mp c24) (Int32.not_lt.mp c30)
        cases hb : bdB nu j di (c - 48) with
        | false =>
          have hbB : baB c (nu, some j, di, fe) = false := by show (if bdg c then bdB nu j di (c - 48) else _) = _; rw [if_pos hg]; exact hb
          have hbS : baS c (nu, some j, di, fe) = (nu, some j, di, fe) := baS_no hbB
          refine V.callVf (ws2 := BW g x tx ln nu (nI j) (nI di) (bi fe)) (st2 := [.int 0]) [.int (c - 48)] [] (kX0_acceptDigit_no g x tx ln nu j di (bi fe) (c - 48) hj (by omega) hb) gX0_accept_X0_acceptDigit rfl (by show _ ∧ _ ∧ _ ∧ _ = some (1 : Nat); decide +kernel) ⟨Nat.le_of_ble_eq_true rfl, Nat.le_of_ble_eq_true rfl⟩ (hc := (rfl : vwCl[0]? = some (RX0, TX0, 6))) 0 rfl [0, 1, 2] (by decide) rfl rfl (Nat.le_of_ble_eq_true rfl) ⟨Nat.le_of_ble_eq_true rfl, Nat.le_of_ble_eq_true rfl⟩ dX0_accept_38 BWf rfl rfl rfl rfl ?_
          exact V.zret hq XM.r rfl (Nat.le_of_ble_eq_true rfl) (Nat.le_of_ble_eq_true rfl) ⟨by rw [hbB] <;> rfl, by rw [hbS] <;> rfl⟩ dX0_accept_41
        | true =>
          have hbB : baB c (nu, some j, di, fe) = true := by show (if bdg c then bdB nu j di (c - 48) else _) = _; rw [if_pos hg]; exact hb
          have hbS : baS c (nu, some j, di, fe) = (upd nu j (10 * nu j + (c - 48)), some j, di + 1, fe) := by unfold baS; rw [if_pos hbB]; exact if_pos hg
          refine V.callVf (ws2 := BW g x tx ln (upd nu j (10 * nu j + (c - 48))) (nI j) (nI (di + 1)) (bi fe)) (st2 := [.int 1]) [.int (c - 48)] [] (kX0_acceptDigit_ok g x tx ln nu j di (bi fe) (c - 48) hj (by omega) hb) gX0_accept_X0_acceptDigit rfl (by show _ ∧ _ ∧ _ ∧ _ = some (1 : Nat); decide +kernel) ⟨Nat.le_of_ble_eq_true rfl, Nat.le_of_ble_eq_true rfl⟩ (hc := (rfl : vwCl[0]? = some (RX0, TX0, 6))) 0 rfl [0, 1, 2] (by decide) rfl rfl (Nat.le_of_ble_eq_true rfl) ⟨Nat.le_of_ble_eq_true rfl, Nat.le_of_ble_eq_true rfl⟩ dX0_accept_38 BWf rfl rfl rfl rfl ?_
          exact V.zret hq XM.r rfl (Nat.le_of_ble_eq_true rfl) (Nat.le_of_ble_eq_true rfl) ⟨by rw [hbB] <;> rfl, by rw [hbS] <;> rfl⟩ dX0_accept_41
abbrev rmX0_errorIndex : Room := { frames := 3, cells := 0, slots := 0, locals := 63 }
set_option maxHeartbeats 4000000 in
set_option maxRecDepth 100000 in
theorem kX0_errorIndex (g : GT) (x : Nat → Nat) (tx : Nat → Int32) (len : Nat) (s : BS) (hl : len ≤ 60) (hD : s.2.2.1 ≤ 60) : UC g yX0_errorIndex wsX0_errorIndex rmX0_errorIndex [.ref (x 0)] (BWs g x tx (nI len) s) (Qf (some (.int (nI (beA tx len s).1))) (BWs g x tx (nI len) ((beA tx len s).2))) := by
  refine UC.ofV (cc := cX0_errorIndex) (maxL := 2) (ret := some .int) (lv0 := [(0, .ref (x 0))]) (by decide) rfl (Nat.le_of_ble_eq_true rfl) rfl ?_
  generalize hQF : QFr g rmX0_errorIndex (Qf (some (.int (nI (beA tx len s).1))) (BWs g x tx (nI len) ((beA tx len s).2))) = QF
  have hq : QFok g rmX0_errorIndex (Qf (some (.int (nI (beA tx len s).1))) (BWs g x tx (nI len) ((beA tx len s).2))) QF := hQF ▸ QFr.q
  refine V.aload_n 0 rfl dX0_errorIndex_0 rfl ?_
  refine V.callVf (ws2 := BW g x tx (nI len) s.1 (-1) (nI s.2.2.1) (bi s.2.2.2)) (st2 := []) [] [] (kX0_startReading g x tx (nI len) s.1 (en s.2.1) (nI s.2.2.1) (bi s.2.2.2) ) gX0_errorIndex_X0_startReading rfl (by show _ ∧ _ ∧ _ ∧ _ = some (0 : Nat); decide +kernel) ⟨Nat.le_of_ble_eq_true rfl, Nat.le_of_ble_eq_true rfl⟩ (hc := (rfl : vwCl[0]? = some (RX0, TX0, 6))) 0 rfl [0, 1, 2] (by decide) rfl rfl (Nat.le_of_ble_eq_true rfl) ⟨Nat.le_of_ble_eq_true rfl, Nat.le_of_ble_eq_true rfl⟩ dX0_errorIndex_1 BWf rfl rfl rfl rfl ?_
  refine V.eqws (ws2 := BWs g x tx (nI len) (s.1, none, s.2.2.1, s.2.2.2)) rfl ?_
  refine V.iconst (v := 0) dX0_errorIndex_4 (by decide) ?_
  refine V.istore_n (lv2 := [(1, .int 0), (0, .ref (x 0))]) dX0_errorIndex_5 rfl (by decide) rfl ?_
  have L6 : ∀ (kL : Nat) (i : Nat) (y : BS), i + kL = len → (BV i y) → (beL tx kL i y = beA tx len s) → V g rmX0_errorIndex RX0 cX0_errorIndex wsX0_errorIndex 2 QF (XM (some .int) "errorIndex") 0 0 (BWs g x tx (nI len) y) 6 [(1, .int (nI i)), (0, .ref (x 0))] [] := by
    intro kL
    induction kL with
    | zero =>
      intro i y hrel hv hfu
      have hi : i = len := by omega
      refine V.iload_n 0 rfl dX0_errorIndex_6 rfl ?_
      refine V.aload_n 1 rfl dX0_errorIndex_7 rfl ?_
      refine V.get (v := .int (nI len)) (fun w H => List.mem_cons_of_mem _ (List.mem_append_right _ H)) (hc := (rfl : vwCl[0]? = some (RX0, TX0, 6))) 0 1 (by decide) (List.mem_of_getElem? (i := 1) rfl) rfl rfl dX0_errorIndex_8 ?_
      refine V.icmp_ge_t (tgt := 35) (by exact nI_le (a := len) (b := i) (by omega) (by omega)) dX0_errorIndex_11 (by decide) ?_
      refine V.aload_n 1 rfl dX0_errorIndex_35 rfl ?_
      refine V.get (v := .int (nI len)) (fun w H => List.mem_cons_of_mem _ (List.mem_append_right _ H)) (hc := (rfl : vwCl[0]? = some (RX0, TX0, 6))) 0 1 (by decide) (List.mem_of_getElem? (i := 1) rfl) rfl rfl dX0_errorIndex_36 ?_
      exact V.iret hq XM.r (Nat.le_of_ble_eq_true rfl) (Nat.le_of_ble_eq_true rfl) ⟨by rw [← hfu, beL_0, ← hi] <;> rfl, by rw [← hfu, beL_0] <;> rfl⟩ dX0_errorIndex_39
    | succ kL ih =>
      intro i y hrel hv hfu
      rw [beL_s] at hfu
      refine V.iload_n 0 rfl dX0_errorIndex_6 rfl ?_
      refine V.aload_n 1 rfl dX0_errorIndex_7 rfl ?_
      refine V.get (v := .int (nI len)) (fun w H => List.mem_cons_of_mem _ (List.mem_append_right _ H)) (hc := (rfl : vwCl[0]? = some (RX0, TX0, 6))) 0 1 (by decide) (List.mem_of_getElem? (i := 1) rfl) rfl rfl dX0_errorIndex_8 ?_
      refine V.icmp_ge_f (tgt := 35) (by exact nI_ge (a := i) (b := len) (by omega) (by omega)) dX0_errorIndex_11 (by decide) ?_
      refine V.aload_n 1 rfl dX0_errorIndex_14 rfl ?_
      refine V.aload_n 1 rfl dX0_errorIndex_15 rfl ?_
      refine V.get (v := .ref (x 1)) (fun w H => List.mem_cons_of_mem _ (List.mem_append_right _ H)) (hc := (rfl : vwCl[0]? = some (RX0, TX0, 6))) 0 0 (by decide) (List.mem_of_getElem? (i := 2) rfl) rfl rfl dX0_errorIndex_16 ?_
      refine V.iload_n 0 rfl dX0_errorIndex_19 rfl ?_
      refine V.iald (f := tx) 1 i rfl rfl (by omega) (by decide) dX0_errorIndex_20 ?_
      refine V.callVf (ws2 := BWs g x tx (nI len) (baS (tx i) y)) (st2 := [.int (bi (baB (tx i) y))]) [.int (tx i)] [] (kX0_accept g x tx (nI len) y (tx i) (fun j hj => (hv.1 j hj).1) hv.2) gX0_errorIndex_X0_accept rfl (by show _ ∧ _ ∧ _ ∧ _ = some (1 : Nat); decide +kernel) ⟨Nat.le_of_ble_eq_true rfl, Nat.le_of_ble_eq_true rfl⟩ (hc := (rfl : vwCl[0]? = some (RX0, TX0, 6))) 0 rfl [0, 1, 2] (by decide) rfl rfl (Nat.le_of_ble_eq_true rfl) ⟨Nat.le_of_ble_eq_true rfl, Nat.le_of_ble_eq_true rfl⟩ dX0_errorIndex_21 BWf rfl rfl rfl rfl ?_
      cases hb : baB (tx i) y with
      | false =>
        rw [hb] at hfu
        have hfu : (i, y) = beA tx len s := hfu
        rw [baS_no hb]
        refine V.if_ne_f (tgt := 29) rfl dX0_errorIndex_24 (by decide) ?_
        refine V.iload_n 0 rfl dX0_errorIndex_27 rfl ?_
        exact V.iret hq XM.r (Nat.le_of_ble_eq_true rfl) (Nat.le_of_ble_eq_true rfl) ⟨by rw [← hfu] <;> rfl, by rw [← hfu] <;> rfl⟩ dX0_errorIndex_28
      | true =>
        rw [hb] at hfu
        have hfu : beL tx kL (i + 1) (baS (tx i) y) = beA tx len s := hfu
        refine V.if_ne_t (tgt := 29) (by decide) dX0_errorIndex_24 (by decide) ?_
        refine V.iinc (v := nI (i + 1)) (lv2 := [(1, .int (nI (i + 1))), (0, .ref (x 0))]) 0 rfl dX0_errorIndex_29 (nI_add i 1) (by decide) rfl ?_
        refine V.goto (tgt := 6) dX0_errorIndex_32 (by decide) ?_
        refine V.eqlv (lv2 := [(1, .int (nI (i + 1))), (0, .ref (x 0))]) [0, 1] rfl ?_
        exact ih (i + 1) (baS (tx i) y) (by omega) (hv.st (by omega)) hfu
  refine V.eqlv (lv2 := [(1, .int 0), (0, .ref (x 0))]) [0, 1] rfl ?_
  exact L6 len 0 (s.1, none, s.2.2.1, s.2.2.2) (by omega) ⟨fun j hj => (by cases hj), hD⟩ rfl
abbrev rmX0_isBoard : Room := { frames := 4, cells := 0, slots := 0, locals := 84 }
set_option maxHeartbeats 4000000 in
set_option maxRecDepth 100000 in
theorem kX0_isBoard (g : GT) (x : Nat → Nat) (tx : Nat → Int32) (len : Nat) (s : BS) (hl : len ≤ 60) (hD : s.2.2.1 ≤ 60) : UC g yX0_isBoard wsX0_isBoard rmX0_isBoard [.ref (x 0)] (BWs g x tx (nI len) s) (Qf (some (.int (bi (ibB len (beA tx len s))))) (BWs g x tx (nI len) ((beA tx len s).2))) := by
  refine UC.ofV (cc := cX0_isBoard) (maxL := 1) (ret := some .boolean) (lv0 := [(0, .ref (x 0))]) (by decide) rfl (Nat.le_of_ble_eq_true rfl) rfl ?_
  generalize hQF : QFr g rmX0_isBoard (Qf (some (.int (bi (ibB len (beA tx len s))))) (BWs g x tx (nI len) ((beA tx len s).2))) = QF
  have hq : QFok g rmX0_isBoard (Qf (some (.int (bi (ibB len (beA tx len s))))) (BWs g x tx (nI len) ((beA tx len s).2))) QF := hQF ▸ QFr.q
  refine V.aload_n 0 rfl dX0_isBoard_0 rfl ?_
  refine V.callVf (ws2 := BWs g x tx (nI len) ((beA tx len s).2)) (st2 := [.int (nI (beA tx len s).1)]) [] [] (kX0_errorIndex g x tx len s hl hD) gX0_isBoard_X0_errorIndex rfl (by show _ ∧ _ ∧ _ ∧ _ = some (0 : Nat); decide +kernel) ⟨Nat.le_of_ble_eq_true rfl, Nat.le_of_ble_eq_true rfl⟩ (hc := (rfl : vwCl[0]? = some (RX0, TX0, 6))) 0 rfl [0, 1, 2] (by decide) rfl rfl (Nat.le_of_ble_eq_true rfl) ⟨Nat.le_of_ble_eq_true rfl, Nat.le_of_ble_eq_true rfl⟩ dX0_isBoard_1 BWf rfl rfl rfl rfl ?_
  have hB := beA_BV (t := tx) hl hD
  have hle : (beA tx len s).1 ≤ len := by have := beL_le tx len 0 (s.1, none, s.2.2.1, s.2.2.2); rw [Nat.zero_add] at this; exact this
  generalize beA tx len s = q at hB hle hq
  obtain ⟨m, nu, co, di, fe⟩ := q
  have hle : m ≤ len := hle
  have hB1 : ∀ j, co = some j → j < 3 ∧ di ≤ len := hB.1
  have hB2 : di ≤ 60 := hB.2
  refine V.eqws (ws2 := BW g x tx (nI len) nu (en co) (nI di) (bi fe)) rfl ?_
  refine V.eqst (st2 := [.int (nI m)]) rfl ?_
  refine V.aload_n 0 rfl dX0_isBoard_4 rfl ?_
  refine V.get (v := .int (nI len)) (fun w H => List.mem_cons_of_mem _ (List.mem_append_right _ H)) (hc := (rfl : vwCl[0]? = some (RX0, TX0, 6))) 0 1 (by decide) (List.mem_of_getElem? (i := 1) rfl) rfl rfl dX0_isBoard_5 ?_
  refine V.icmp_ne (tgt := 39) dX0_isBoard_8 (by decide) (fun c8 => ?_) (fun c8 => ?_)
  · skip
    have hm : decide (m = len) = false := decide_eq_false (fun q => c8 (by rw [q]))
    have hR : ibB len (m, nu, co, di, fe) = false := by unfold ibB; rw [hm]; rfl
    refine V.iconst (v := 0) dX0_isBoard_39 (by decide) ?_
    exact V.zret hq XM.r rfl (Nat.le_of_ble_eq_true rfl) (Nat.le_of_ble_eq_true rfl) ⟨by rw [hR] <;> rfl, rfl⟩ dX0_isBoard_40
  · skip
    have hm : m = len := nI_ij (by omega) (by omega) c8
    refine V.aload_n 0 rfl dX0_isBoard_11 rfl ?_
    refine V.get (v := .int (en co)) (fun w H => List.mem_cons_of_mem _ (List.mem_append_right _ H)) (hc := (rfl : vwCl[0]? = some (RX0, TX0, 6))) 0 3 (by decide) (List.mem_of_getElem? (i := 2) rfl) rfl rfl dX0_isBoard_12 ?_
    refine V.iconst (v := -1) dX0_isBoard_15 (by decide) ?_
    cases co with
    | none =>
      refine V.eqws (ws2 := BW g x tx (nI len) nu (-1) (nI di) (bi fe)) rfl ?_
      refine V.eqst (st2 := [.int (-1), .int (-1)]) rfl ?_
      have hR : ibB len (m, nu, none, di, fe) = false := Bool.and_false _
      refine V.icmp_eq_t (tgt := 39) rfl dX0_isBoard_16 (by decide) ?_
      refine V.iconst (v := 0) dX0_isBoard_39 (by decide) ?_
      exact V.zret hq XM.r rfl (Nat.le_of_ble_eq_true rfl) (Nat.le_of_ble_eq_true rfl) ⟨by rw [hR] <;> rfl, rfl⟩ dX0_isBoard_40
    | some j =>
      refine V.eqws (ws2 := BW g x tx (nI len) nu (nI j) (nI di) (bi fe)) rfl ?_
      refine V.eqst (st2 := [.int (-1), .int (nI j)]) rfl ?_
      have hj : j < 3 := (hB1 j rfl).1
      refine V.icmp_eq_f (tgt := 39) (en_ne (N := 3) hj (by decide)) dX0_isBoard_16 (by decide) ?_
      refine V.aload_n 0 rfl dX0_isBoard_19 rfl ?_
      refine V.get (v := .int (nI di)) (fun w H => List.mem_cons_of_mem _ (List.mem_append_right _ H)) (hc := (rfl : vwCl[0]? = some (RX0, TX0, 6))) 0 4 (by decide) (List.mem_of_getElem? (i := 3) rfl) rfl rfl dX0_isBoard_20 ?_
      refine V.if_le (tgt := 39) dX0_isBoard_23 (by decide) (fun c23 => ?_) (fun c23 => ?_)
      · skip
        have hd : decide (0 < di) = false := decide_eq_false (fun q => nI_ge (a := 0) (b := di) q (by omega) c23)
        have hR : ibB len (m, nu, some j, di, fe) = false := by show (decide (m = len) && (decide (0 < di) && decide (nE j fe = 59))) = false; rw [hd, Bool.false_and, Bool.and_false]
        refine V.iconst (v := 0) dX0_isBoard_39 (by decide) ?_
        exact V.zret hq XM.r rfl (Nat.le_of_ble_eq_true rfl) (Nat.le_of_ble_eq_true rfl) ⟨by rw [hR] <;> rfl, rfl⟩ dX0_isBoard_40
      · skip
        have hd : decide (0 < di) = true := decide_eq_true (Nat.pos_of_ne_zero (fun q => c23 (by rw [q]; decide)))
        refine V.aload_n 0 rfl dX0_isBoard_26 rfl ?_
        refine V.callVf (ws2 := BW g x tx (nI len) nu (nI j) (nI di) (bi fe)) (st2 := [.int (nE j fe)]) [] [] (kX0_numberEnd g x tx (nI len) nu j (nI di) fe hj) gX0_isBoard_X0_numberEnd rfl (by show _ ∧ _ ∧ _ ∧ _ = some (0 : Nat); decide +kernel) ⟨Nat.le_of_ble_eq_true rfl, Nat.le_of_ble_eq_true rfl⟩ (hc := (rfl : vwCl[0]? = some (RX0, TX0, 6))) 0 rfl [0, 1, 2] (by decide) rfl rfl (Nat.le_of_ble_eq_true rfl) ⟨Nat.le_of_ble_eq_true rfl, Nat.le_of_ble_eq_true rfl⟩ dX0_isBoard_27 BWf rfl rfl rfl rfl ?_
        refine V.bipush (v := 59) dX0_isBoard_30 (by decide) ?_
        refine V.icmp_ne (tgt := 39) dX0_isBoard_32 (by decide) (fun c32 => ?_) (fun c32 => ?_)
        · skip
          have hR : ibB len (m, nu, some j, di, fe) = false := by show (decide (m = len) && (decide (0 < di) && decide (nE j fe = 59))) = false; rw [decide_eq_false c32, Bool.and_false, Bool.and_false]
          refine V.iconst (v := 0) dX0_isBoard_39 (by decide) ?_
          exact V.zret hq XM.r rfl (Nat.le_of_ble_eq_true rfl) (Nat.le_of_ble_eq_true rfl) ⟨by rw [hR] <;> rfl, rfl⟩ dX0_isBoard_40
        · skip
          have hR : ibB len (m, nu, some j, di, fe) = true := by show (decide (m = len) && (decide (0 < di) && decide (nE j fe = 59))) = true; rw [decide_eq_true hm, hd, decide_eq_true c32]; rfl
          refine V.iconst (v := 1) dX0_isBoard_35 (by decide) ?_
          refine V.goto (tgt := 40) dX0_isBoard_36 (by decide) ?_
          exact V.zret hq XM.r rfl (Nat.le_of_ble_eq_true rfl) (Nat.le_of_ble_eq_true rfl) ⟨by rw [hR] <;> rfl, rfl⟩ dX0_isBoard_40
