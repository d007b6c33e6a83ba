abbrev rmX0_init : Room := { frames := 1, cells := 2, slots := 63, locals := 12 }
set_option maxHeartbeats 4000000 in
set_option maxRecDepth 100000 in
theorem kX0_init (g : GT) (o : Nat) : UC g yX0_init wsX0_init rmX0_init [.ref o] ([(o, .inr (0, [.null, .int 0, .null, .int 0, .int 0, .int 0]))]) (fun v w => v = none ∧ ∃ x : Nat → Nat, x 0 = o ∧ w = BW g x (fun _ => 0) 0 (fun _ => 0) (-1) 0 0) := by
  refine UC.ofV (cc := cX0_init) (maxL := 1) (ret := none) (lv0 := [(0, .ref o)]) (by decide) rfl (Nat.le_of_ble_eq_true rfl) rfl ?_
  generalize hQF : QFr g rmX0_init (fun v w => v = none ∧ ∃ x : Nat → Nat, x 0 = o ∧ w = BW g x (fun _ => 0) 0 (fun _ => 0) (-1) 0 0) = QF
  have hq : QFok g rmX0_init (fun v w => v = none ∧ ∃ x : Nat → Nat, x 0 = o ∧ w = BW g x (fun _ => 0) 0 (fun _ => 0) (-1) 0 0) QF := hQF ▸ QFr.q
  refine V.aload_n 0 rfl dX0_init_0 rfl ?_
  refine V.objInit (by decide +kernel) (by decide +kernel) (by decide +kernel) (Nat.le_of_ble_eq_true rfl) (Nat.le_of_ble_eq_true rfl) dX0_init_1 ?_
  refine V.aload_n 0 rfl dX0_init_4 rfl ?_
  refine V.bipush (v := 60) dX0_init_5 (by decide) ?_
  refine V.newa (ty := .int) (len := 60) (t := 0) (a0 := (60, .inl (fun _ => 0))) (by decide +kernel) rfl rfl (by decide) (fun _ => rfl) (by decide) (by decide) (by decide) (Nat.le_of_ble_eq_true rfl) (Nat.le_of_ble_eq_true rfl) dX0_init_7 (fun b1 => ?_)
  refine V.putF (v := .ref b1) (ws2 := [(o, .inr (0, [.ref b1, .int 0, .null, .int 0, .int 0, .int 0])), (b1, .inl (g.2.2 0, 60, .inl (fun _ => 0)))]) (fun w H => List.mem_cons_of_mem _ (List.mem_append_right _ H)) tyX0 tyX0_ok nmX0 (hc := (rfl : vwCl[0]? = some (RX0, TX0, 6))) 0 0 (by decide) (List.mem_of_getElem? (i := 5) rfl) rfl rfl rfl XM.nm (tyX0_ok 0 (by decide)) rfl rfl (Nat.le_of_ble_eq_true rfl) rfl dX0_init_9 ?_
  refine V.aload_n 0 rfl dX0_init_12 rfl ?_
  refine V.iconst (v := 3) dX0_init_13 (by decide) ?_
  refine V.newa (ty := .int) (len := 3) (t := 0) (a0 := (3, .inl (fun _ => 0))) (by decide +kernel) rfl rfl (by decide) (fun _ => rfl) (by decide) (by decide) (by decide) (Nat.le_of_ble_eq_true rfl) (Nat.le_of_ble_eq_true rfl) dX0_init_14 (fun b2 => ?_)
  refine V.putF (v := .ref b2) (ws2 := [(o, .inr (0, [.ref b1, .int 0, .ref b2, .int 0, .int 0, .int 0])), (b1, .inl (g.2.2 0, 60, .inl (fun _ => 0))), (b2, .inl (g.2.2 0, 3, .inl (fun _ => 0)))]) (fun w H => List.mem_cons_of_mem _ (List.mem_append_right _ H)) tyX0 tyX0_ok nmX0 (hc := (rfl : vwCl[0]? = some (RX0, TX0, 6))) 0 2 (by decide) (List.mem_of_getElem? (i := 6) rfl) rfl rfl rfl XM.nm (tyX0_ok 2 (by decide)) rfl rfl (Nat.le_of_ble_eq_true rfl) rfl dX0_init_16 ?_
  refine V.aload_n 0 rfl dX0_init_19 rfl ?_
  refine V.iconst (v := -1) dX0_init_20 (by decide) ?_
  refine V.put (v := .int (-1)) (ws2 := [(o, .inr (0, [.ref b1, .int 0, .ref b2, .int (-1), .int 0, .int 0])), (b1, .inl (g.2.2 0, 60, .inl (fun _ => 0))), (b2, .inl (g.2.2 0, 3, .inl (fun _ => 0)))]) (fun w H => List.mem_cons_of_mem _ (List.mem_append_right _ H)) tyX0 tyX0_ok nmX0 (hc := (rfl : vwCl[0]? = some (RX0, TX0, 6))) 0 3 (by decide) (List.mem_of_getElem? (i := 7) rfl) rfl rfl (tyX0_ok 3 (by decide)) rfl rfl (Nat.le_of_ble_eq_true rfl) rfl dX0_init_21 ?_
  exact V.vret hq XM.r (Nat.le_of_ble_eq_true rfl) (Nat.le_of_ble_eq_true rfl) ⟨rfl, (fun k => match k with | 0 => o | 1 => b1 | _ => b2), rfl, rfl⟩ dX0_init_24
abbrev rmX0_startReading : Room := { frames := 0, cells := 0, slots := 0, locals := 0 }
set_option maxHeartbeats 4000000 in
set_option maxRecDepth 100000 in
theorem kX0_startReading (g : GT) (x : Nat → Nat) (tx : Nat → Int32) (ln : Int32) (nu : Nat → Int32) (co : Int32) (di : Int32) (fe : Int32) : UC g yX0_startReading wsX0_startReading rmX0_startReading [.ref (x 0)] (BW g x tx ln nu co di fe) (Qf (none) (BW g x tx ln nu (-1) di fe)) := by
  refine UC.ofV (cc := cX0_startReading) (maxL := 1) (ret := none) (lv0 := [(0, .ref (x 0))]) (by decide) rfl (Nat.le_of_ble_eq_true rfl) rfl ?_
  generalize hQF : QFr g rmX0_startReading (Qf (none) (BW g x tx ln nu (-1) di fe)) = QF
  have hq : QFok g rmX0_startReading (Qf (none) (BW g x tx ln nu (-1) di fe)) QF := hQF ▸ QFr.q
  refine V.aload_n 0 rfl dX0_startReading_0 rfl ?_
  refine V.iconst (v := -1) dX0_startReading_1 (by decide) ?_
  refine V.put (v := .int (-1)) (ws2 := BW g x tx ln nu (-1) di fe) (fun w H => List.mem_cons_of_mem _ (List.mem_append_right _ H)) tyX0 tyX0_ok nmX0 (hc := (rfl : vwCl[0]? = some (RX0, TX0, 6))) 0 3 (by decide) (List.mem_of_getElem? (i := 1) rfl) rfl rfl (tyX0_ok 3 (by decide)) rfl rfl (Nat.le_of_ble_eq_true rfl) rfl dX0_startReading_2 ?_
  exact V.vret hq XM.r (Nat.le_of_ble_eq_true rfl) (Nat.le_of_ble_eq_true rfl) ⟨rfl, rfl⟩ dX0_startReading_5
abbrev rmX0_startNumber : Room := { frames := 0, cells := 0, slots := 0, locals := 0 }
set_option maxHeartbeats 4000000 in
set_option maxRecDepth 100000 in
theorem kX0_startNumber (g : GT) (x : Nat → Nat) (tx : Nat → Int32) (ln : Int32) (nu : Nat → Int32) (co : Int32) (di : Int32) (fe : Int32) (j : Nat) (hj : j < 3) : UC g yX0_startNumber wsX0_startNumber rmX0_startNumber [.ref (x 0), .int (nI j)] (BW g x tx ln nu co di fe) (Qf (none) (BW g x tx ln (upd nu j 0) (nI j) 0 fe)) := by
  refine UC.ofV (cc := cX0_startNumber) (maxL := 2) (ret := none) (lv0 := [(0, .ref (x 0)), (1, .int (nI j))]) (by decide) rfl (Nat.le_of_ble_eq_true rfl) rfl ?_
  generalize hQF : QFr g rmX0_startNumber (Qf (none) (BW g x tx ln (upd nu j 0) (nI j) 0 fe)) = QF
  have hq : QFok g rmX0_startNumber (Qf (none) (BW g x tx ln (upd nu j 0) (nI j) 0 fe)) QF := hQF ▸ QFr.q
  refine V.aload_n 0 rfl dX0_startNumber_0 rfl ?_
  refine V.iload_n 1 rfl dX0_startNumber_1 rfl ?_
  refine V.put (v := .int (nI j)) (ws2 := BW g x tx ln nu (nI j) di fe) (fun w H => List.mem_cons_of_mem _ (List.mem_append_right _ H)) tyX0 tyX0_ok nmX0 (hc := (rfl : vwCl[0]? = some (RX0, TX0, 6))) 0 3 (by decide) (List.mem_of_getElem? (i := 1) rfl) rfl rfl (tyX0_ok 3 (by decide)) rfl rfl (Nat.le_of_ble_eq_true rfl) rfl dX0_startNumber_2 ?_
  refine V.aload_n 0 rfl dX0_startNumber_5 rfl ?_
  refine V.iconst (v := 0) dX0_startNumber_6 (by decide) ?_
  refine V.put (v := .int 0) (ws2 := BW g x tx ln nu (nI j) 0 fe) (fun w H => List.mem_cons_of_mem _ (List.mem_append_right _ H)) tyX0 tyX0_ok nmX0 (hc := (rfl : vwCl[0]? = some (RX0, TX0, 6))) 0 4 (by decide) (List.mem_of_getElem? (i := 2) rfl) rfl rfl (tyX0_ok 4 (by decide)) rfl rfl (Nat.le_of_ble_eq_true rfl) rfl dX0_startNumber_7 ?_
  refine V.iload_n 1 rfl dX0_startNumber_10 rfl ?_
  refine V.if_lt_f (tgt := 26) (by exact nI_nlt (a := j) (b := 0) (by omega) (by omega)) dX0_startNumber_11 (by decide) ?_
  refine V.iload_n 1 rfl dX0_startNumber_14 rfl ?_
  refine V.iconst (v := 2) dX0_startNumber_15 (by decide) ?_
  refine V.icmp_gt_f (tgt := 26) (by exact fun h => absurd (nI_le (a := j) (b := 2) (by omega) (by decide)) (Int32.not_le.mpr h)) dX0_startNumber_16 (by decide) ?_
  refine V.aload_n 0 rfl dX0_startNumber_19 rfl ?_
  refine V.get (v := .ref (x 2)) (fun w H => List.mem_cons_of_mem _ (List.mem_append_right _ H)) (hc := (rfl : vwCl[0]? = some (RX0, TX0, 6))) 0 2 (by decide) (List.mem_of_getElem? (i := 3) rfl) rfl rfl dX0_startNumber_20 ?_
  refine V.iload_n 1 rfl dX0_startNumber_23 rfl ?_
  refine V.iconst (v := 0) dX0_startNumber_24 (by decide) ?_
  refine V.iast (f := nu) (ws2 := BW g x tx ln (upd nu j 0) (nI j) 0 fe) 2 j rfl rfl (by omega) (by decide) rfl dX0_startNumber_25 ?_
  exact V.vret hq XM.r (Nat.le_of_ble_eq_true rfl) (Nat.le_of_ble_eq_true rfl) ⟨rfl, rfl⟩ dX0_startNumber_26
abbrev rmX0_acceptLetter_no : Room := { frames := 0, cells := 0, slots := 0, locals := 0 }
set_option maxHeartbeats 4000000 in
set_option maxRecDepth 100000 in
theorem kX0_acceptLetter_no (g : GT) (x : Nat → Nat) (tx : Nat → Int32) (ln : Int32) (nu : Nat → Int32) (co : Int32) (di : Int32) (fe : Int32) (c : Int32) (hp : ¬ c = 112) (hf : ¬ c = 102) : UC g yX0_acceptLetter wsX0_acceptLetter rmX0_acceptLetter_no [.ref (x 0), .int c] (BW g x tx ln nu co di fe) (Qf (some (.int 0)) (BW g x tx ln nu co di fe)) := by
  refine UC.ofV (cc := cX0_acceptLetter) (maxL := 2) (ret := some .boolean) (lv0 := [(0, .ref (x 0)), (1, .int c)]) (by decide) rfl (Nat.le_of_ble_eq_true rfl) rfl ?_
  generalize hQF : QFr g rmX0_acceptLetter_no (Qf (some (.int 0)) (BW g x tx ln nu co di fe)) = QF
  have hq : QFok g rmX0_acceptLetter_no (Qf (some (.int 0)) (BW g x tx ln nu co di fe)) QF := hQF ▸ QFr.q
  refine V.iload_n 1 rfl dX0_acceptLetter_0 rfl ?_
  refine V.bipush (v := 112) dX0_acceptLetter_1 (by decide) ?_
  refine V.icmp_eq_f (tgt := 14) hp dX0_acceptLetter_3 (by decide) ?_
  refine V.iload_n 1 rfl dX0_acceptLetter_6 rfl ?_
  refine V.bipush (v := 102) dX0_acceptLetter_7 (by decide) ?_
  refine V.icmp_eq_f (tgt := 14) hf dX0_acceptLetter_9 (by decide) ?_
  refine V.iconst (v := 0) dX0_acceptLetter_12 (by decide) ?_
  exact V.zret hq XM.r rfl (Nat.le_of_ble_eq_true rfl) (Nat.le_of_ble_eq_true rfl) ⟨rfl, rfl⟩ dX0_acceptLetter_13
abbrev rmX0_acceptLetter_ok : Room := { frames := 1, cells := 0, slots := 0, locals := 21 }
set_option maxHeartbeats 4000000 in
set_option maxRecDepth 100000 in
theorem kX0_acceptLetter_ok (g : GT) (x : Nat → Nat) (tx : Nat → Int32) (ln : Int32) (nu : Nat → Int32) (co : Int32) (di : Int32) (fe : Int32) (c : Int32) (hc : c = 112 ∨ c = 102) : UC g yX0_acceptLetter wsX0_acceptLetter rmX0_acceptLetter_ok [.ref (x 0), .int c] (BW g x tx ln nu co di fe) (Qf (some (.int 1)) (BW g x tx ln (upd nu 0 0) (nI 0) 0 (bi (decide (c = 102))))) := by
  refine UC.ofV (cc := cX0_acceptLetter) (maxL := 2) (ret := some .boolean) (lv0 := [(0, .ref (x 0)), (1, .int c)]) (by decide) rfl (Nat.le_of_ble_eq_true rfl) rfl ?_
  generalize hQF : QFr g rmX0_acceptLetter_ok (Qf (some (.int 1)) (BW g x tx ln (upd nu 0 0) (nI 0) 0 (bi (decide (c = 102))))) = QF
  have hq : QFok g rmX0_acceptLetter_ok (Qf (some (.int 1)) (BW g x tx ln (upd nu 0 0) (nI 0) 0 (bi (decide (c = 102))))) QF := hQF ▸ QFr.q
  refine V.iload_n 1 rfl dX0_acceptLetter_0 rfl ?_
  refine V.bipush (v := 112) dX0_acceptLetter_1 (by decide) ?_
  refine V.icmp_eq (tgt := 14) dX0_acceptLetter_3 (by decide) (fun c3 => ?_) (fun c3 => ?_)
  · skip
    refine V.aload_n 0 rfl dX0_acceptLetter_14 rfl ?_
    refine V.iload_n 1 rfl dX0_acceptLetter_15 rfl ?_
    refine V.bipush (v := 102) dX0_acceptLetter_16 (by decide) ?_
    refine V.icmp_ne (tgt := 25) dX0_acceptLetter_18 (by decide) (fun c18 => ?_) (fun c18 => ?_)
    · skip
      refine V.iconst (v := 0) dX0_acceptLetter_25 (by decide) ?_
      refine V.put (v := .int 0) (ws2 := BW g x tx ln nu co di 0) (fun w H => List.mem_cons_of_mem _ (List.mem_append_right _ H)) tyX0 tyX0_ok nmX0 (hc := (rfl : vwCl[0]? = some (RX0, TX0, 6))) 0 5 (by decide) (List.mem_of_getElem? (i := 1) rfl) rfl rfl (tyX0_ok 5 (by decide)) rfl rfl (Nat.le_of_ble_eq_true rfl) rfl dX0_acceptLetter_26 ?_
      refine V.eqws (ws2 := BW g x tx ln nu co di (bi (decide (c = 102)))) (by rw [decide_eq_false c18] <;> rfl) ?_
      refine V.aload_n 0 rfl dX0_acceptLetter_29 rfl ?_
      refine V.iconst (v := 0) dX0_acceptLetter_30 (by decide) ?_
      refine V.callVf (ws2 := BW g x tx ln (upd nu 0 0) (nI 0) 0 (bi (decide (c = 102)))) (st2 := []) [.int 0] [] (kX0_startNumber g x tx ln nu co di (bi (decide (c = 102))) 0 (by first | omega | decide)) gX0_acceptLetter_X0_startNumber rfl (by show _ ∧ _ ∧ _ ∧ _ = some (1 : Nat); decide +kernel) ⟨Nat.le_of_ble_eq_true rfl, Nat.le_of_ble_eq_true rfl⟩ (hc := (rfl : vwCl[0]? = some (RX0, TX0, 6))) 0 rfl [0, 1, 2] (by decide) rfl rfl (Nat.le_of_ble_eq_true rfl) ⟨Nat.le_of_ble_eq_true rfl, Nat.le_of_ble_eq_true rfl⟩ dX0_acceptLetter_31 BWf rfl rfl rfl rfl ?_
      refine V.iconst (v := 1) dX0_acceptLetter_34 (by decide) ?_
      exact V.zret hq XM.r rfl (Nat.le_of_ble_eq_true rfl) (Nat.le_of_ble_eq_true rfl) ⟨rfl, rfl⟩ dX0_acceptLetter_35
    · skip
      refine V.iconst (v := 1) dX0_acceptLetter_21 (by decide) ?_
      refine V.goto (tgt := 26) dX0_acceptLetter_22 (by decide) ?_
      refine V.put (v := .int 1) (ws2 := BW g x tx ln nu co di 1) (fun w H => List.mem_cons_of_mem _ (List.mem_append_right _ H)) tyX0 tyX0_ok nmX0 (hc := (rfl : vwCl[0]? = some (RX0, TX0, 6))) 0 5 (by decide) (List.mem_of_getElem? (i := 1) rfl) rfl rfl (tyX0_ok 5 (by decide)) rfl rfl (Nat.le_of_ble_eq_true rfl) rfl dX0_acceptLetter_26 ?_
      refine V.eqws (ws2 := BW g x tx ln nu co di (bi (decide (c = 102)))) (by rw [decide_eq_true c18] <;> rfl) ?_
      refine V.aload_n 0 rfl dX0_acceptLetter_29 rfl ?_
      refine V.iconst (v := 0) dX0_acceptLetter_30 (by decide) ?_
      refine V.callVf (ws2 := BW g x tx ln (upd nu 0 0) (nI 0) 0 (bi (decide (c = 102)))) (st2 := []) [.int 0] [] (kX0_startNumber g x tx ln nu co di (bi (decide (c = 102))) 0 (by first | omega | decide)) gX0_acceptLetter_X0_startNumber rfl (by show _ ∧ _ ∧ _ ∧ _ = some (1 : Nat); decide +kernel) ⟨Nat.le_of_ble_eq_true rfl, Nat.le_of_ble_eq_true rfl⟩ (hc := (rfl : vwCl[0]? = some (RX0, TX0, 6))) 0 rfl [0, 1, 2] (by decide) rfl rfl (Nat.le_of_ble_eq_true rfl) ⟨Nat.le_of_ble_eq_true rfl, Nat.le_of_ble_eq_true rfl⟩ dX0_acceptLetter_31 BWf rfl rfl rfl rfl ?_
      refine V.iconst (v := 1) dX0_acceptLetter_34 (by decide) ?_
      exact V.zret hq XM.r rfl (Nat.le_of_ble_eq_true rfl) (Nat.le_of_ble_eq_true rfl) ⟨rfl, rfl⟩ dX0_acceptLetter_35
  · skip
    refine V.iload_n 1 rfl dX0_acceptLetter_6 rfl ?_
    refine V.bipush (v := 102) dX0_acceptLetter_7 (by decide) ?_
    refine V.icmp_eq_t (tgt := 14) (hc.resolve_left c3) dX0_acceptLetter_9 (by decide) ?_
    refine V.aload_n 0 rfl dX0_acceptLetter_14 rfl ?_
    refine V.iload_n 1 rfl dX0_acceptLetter_15 rfl ?_
    refine V.bipush (v := 102) dX0_acceptLetter_16 (by decide) ?_
    refine V.icmp_ne (tgt := 25) dX0_acceptLetter_18 (by decide) (fun c18 => ?_) (fun c18 => ?_)
    · skip
      refine V.iconst (v := 0) dX0_acceptLetter_25 (by decide) ?_
      refine V.put (v := .int 0) (ws2 := BW g x tx ln nu co di 0) (fun w H => List.mem_cons_of_mem _ (List.mem_append_right _ H)) tyX0 tyX0_ok nmX0 (hc := (rfl : vwCl[0]? = some (RX0, TX0, 6))) 0 5 (by decide) (List.mem_of_getElem? (i := 1) rfl) rfl rfl (tyX0_ok 5 (by decide)) rfl rfl (Nat.le_of_ble_eq_true rfl) rfl dX0_acceptLetter_26 ?_
      refine V.eqws (ws2 := BW g x tx ln nu co di (bi (decide (c = 102)))) (by rw [decide_eq_false c18] <;> rfl) ?_
      refine V.aload_n 0 rfl dX0_acceptLetter_29 rfl ?_
      refine V.iconst (v := 0) dX0_acceptLetter_30 (by decide) ?_
      refine V.callVf (ws2 := BW g x tx ln (upd nu 0 0) (nI 0) 0 (bi (decide (c = 102)))) (st2 := []) [.int 0] [] (kX0_startNumber g x tx ln nu co di (bi (decide (c = 102))) 0 (by first | omega | decide)) gX0_acceptLetter_X0_startNumber rfl (by show _ ∧ _ ∧ _ ∧ _ = some (1 : Nat); decide +kernel) ⟨Nat.le_of_ble_eq_true rfl, Nat.le_of_ble_eq_true rfl⟩ (hc := (rfl : vwCl[0]? = some (RX0, TX0, 6))) 0 rfl [0, 1, 2] (by decide) rfl rfl (Nat.le_of_ble_eq_true rfl) ⟨Nat.le_of_ble_eq_true rfl, Nat.le_of_ble_eq_true rfl⟩ dX0_acceptLetter_31 BWf rfl rfl rfl rfl ?_
      refine V.iconst (v := 1) dX0_acceptLetter_34 (by decide) ?_
      exact V.zret hq XM.r rfl (Nat.le_of_ble_eq_true rfl) (Nat.le_of_ble_eq_true rfl) ⟨rfl, rfl⟩ dX0_acceptLetter_35
    · skip
      refine V.iconst (v := 1) dX0_acceptLetter_21 (by decide) ?_
      refine V.goto (tgt := 26) dX0_acceptLetter_22 (by decide) ?_
      refine V.put (v := .int 1) (ws2 := BW g x tx ln nu co di 1) (fun w H => List.mem_cons_of_mem _ (List.mem_append_right _ H)) tyX0 tyX0_ok nmX0 (hc := (rfl : vwCl[0]? = some (RX0, TX0, 6))) 0 5 (by decide) (List.mem_of_getElem? (i := 1) rfl) rfl rfl (tyX0_ok 5 (by decide)) rfl rfl (Nat.le_of_ble_eq_true rfl) rfl dX0_acceptLetter_26 ?_
      refine V.eqws (ws2 := BW g x tx ln nu co di (bi (decide (c = 102)))) (by rw [decide_eq_true c18] <;> rfl) ?_
      refine V.aload_n 0 rfl dX0_acceptLetter_29 rfl ?_
      refine V.iconst (v := 0) dX0_acceptLetter_30 (by decide) ?_
      refine V.callVf (ws2 := BW g x tx ln (upd nu 0 0) (nI 0) 0 (bi (decide (c = 102)))) (st2 := []) [.int 0] [] (kX0_startNumber g x tx ln nu co di (bi (decide (c = 102))) 0 (by first | omega | decide)) gX0_acceptLetter_X0_startNumber rfl (by show _ ∧ _ ∧ _ ∧ _ = some (1 : Nat); decide +kernel) ⟨Nat.le_of_ble_eq_true rfl, Nat.le_of_ble_eq_true rfl⟩ (hc := (rfl : vwCl[0]? = some (RX0, TX0, 6))) 0 rfl [0, 1, 2] (by decide) rfl rfl (Nat.le_of_ble_eq_true rfl) ⟨Nat.le_of_ble_eq_true rfl, Nat.le_of_ble_eq_true rfl⟩ dX0_acceptLetter_31 BWf rfl rfl rfl rfl ?_
      refine V.iconst (v := 1) dX0_acceptLetter_34 (by decide) ?_
      exact V.zret hq XM.r rfl (Nat.le_of_ble_eq_true rfl) (Nat.le_of_ble_eq_true rfl) ⟨rfl, rfl⟩ dX0_acceptLetter_35
abbrev rmX0_numberEnd : Room := { frames := 0, cells := 0, slots := 0, locals := 0 }
set_option maxHeartbeats 4000000 in
set_option maxRecDepth 100000 in
theorem kX0_numberEnd (g : GT) (x : Nat → Nat) (tx : Nat → Int32) (ln : Int32) (nu : Nat → Int32) (j : Nat) (di : Int32) (f : Bool) (hj : j < 3) : UC g yX0_numberEnd wsX0_numberEnd rmX0_numberEnd [.ref (x 0)] (BW g x tx ln nu (nI j) di (bi f)) (Qf (some (.int (nE j f))) (BW g x tx ln nu (nI j) di (bi f))) := by
  refine UC.ofV (cc := cX0_numberEnd) (maxL := 1) (ret := some .int) (lv0 := [(0, .ref (x 0))]) (by decide) rfl (Nat.le_of_ble_eq_true rfl) rfl ?_
  generalize hQF : QFr g rmX0_numberEnd (Qf (some (.int (nE j f))) (BW g x tx ln nu (nI j) di (bi f))) = QF
  have hq : QFok g rmX0_numberEnd (Qf (some (.int (nE j f))) (BW g x tx ln nu (nI j) di (bi f))) QF := hQF ▸ QFr.q
  refine V.aload_n 0 rfl dX0_numberEnd_0 rfl ?_
  refine V.get (v := .int (nI j)) (fun w H => List.mem_cons_of_mem _ (List.mem_append_right _ H)) (hc := (rfl : vwCl[0]? = some (RX0, TX0, 6))) 0 3 (by decide) (List.mem_of_getElem? (i := 1) rfl) rfl rfl dX0_numberEnd_1 ?_
  rcases (show j = 0 ∨ j = 1 ∨ j = 2 by omega) with rfl | rfl | rfl
  · skip
    refine V.if_ne_f (tgt := 10) (by decide) dX0_numberEnd_4 (by decide) ?_
    refine V.bipush (v := 58) dX0_numberEnd_7 (by decide) ?_
    exact V.iret hq XM.r (Nat.le_of_ble_eq_true rfl) (Nat.le_of_ble_eq_true rfl) ⟨rfl, rfl⟩ dX0_numberEnd_9
  · skip
    refine V.if_ne_t (tgt := 10) (by decide) dX0_numberEnd_4 (by decide) ?_
    refine V.aload_n 0 rfl dX0_numberEnd_10 rfl ?_
    refine V.get (v := .int (nI 1)) (fun w H => List.mem_cons_of_mem _ (List.mem_append_right _ H)) (hc := (rfl : vwCl[0]? = some (RX0, TX0, 6))) 0 3 (by decide) (List.mem_of_getElem? (i := 1) rfl) rfl rfl dX0_numberEnd_11 ?_
    refine V.iconst (v := 1) dX0_numberEnd_14 (by decide) ?_
    refine V.icmp_ne_f (tgt := 30) rfl dX0_numberEnd_15 (by decide) ?_
    refine V.aload_n 0 rfl dX0_numberEnd_18 rfl ?_
    refine V.get (v := .int (bi f)) (fun w H => List.mem_cons_of_mem _ (List.mem_append_right _ H)) (hc := (rfl : vwCl[0]? = some (RX0, TX0, 6))) 0 5 (by decide) (List.mem_of_getElem? (i := 2) rfl) rfl rfl dX0_numberEnd_19 ?_
    cases f with
    | false =>
      refine V.if_eq_t (tgt := 30) rfl dX0_numberEnd_22 (by decide) ?_
      refine V.bipush (v := 59) dX0_numberEnd_30 (by decide) ?_
      exact V.iret hq XM.r (Nat.le_of_ble_eq_true rfl) (Nat.le_of_ble_eq_true rfl) ⟨rfl, rfl⟩ dX0_numberEnd_32
    | true =>
      refine V.if_eq_f (tgt := 30) (by decide) dX0_numberEnd_22 (by decide) ?_
      refine V.bipush (v := 42) dX0_numberEnd_25 (by decide) ?_
      refine V.goto (tgt := 32) dX0_numberEnd_27 (by decide) ?_
      exact V.iret hq XM.r (Nat.le_of_ble_eq_true rfl) (Nat.le_of_ble_eq_true rfl) ⟨rfl, rfl⟩ dX0_numberEnd_32
  · skip
    refine V.if_ne_t (tgt := 10) (by decide) dX0_numberEnd_4 (by decide) ?_
    refine V.aload_n 0 rfl dX0_numberEnd_10 rfl ?_
    refine V.get (v := .int (nI 2)) (fun w H => List.mem_cons_of_mem _ (List.mem_append_right _ H)) (hc := (rfl : vwCl[0]? = some (RX0, TX0, 6))) 0 3 (by decide) (List.mem_of_getElem? (i := 1) rfl) rfl rfl dX0_numberEnd_11 ?_
    refine V.iconst (v := 1) dX0_numberEnd_14 (by decide) ?_
    refine V.icmp_ne_t (tgt := 30) (by decide) dX0_numberEnd_15 (by decide) ?_
    refine V.bipush (v := 59) dX0_numberEnd_30 (by decide) ?_
    exact V.iret hq XM.r (Nat.le_of_ble_eq_true rfl) (Nat.le_of_ble_eq_true rfl) ⟨rfl, rfl⟩ dX0_numberEnd_32
abbrev rmX0_acceptDigit_no : Room := { frames := 0, cells := 0, slots := 0, locals := 0 }
set_option maxHeartbeats 4000000 in
set_option maxRecDepth 100000 in
theorem kX0_acceptDigit_no (g : GT) (x : Nat → Nat) (tx : Nat → Int32) (ln : Int32) (nu : Nat → Int32) (j : Nat) (D : Nat) (fe : Int32) (d : Int32) (hj : j < 3) (hD : D < 1000) (hb : bdB nu j D d = false) : UC g yX0_acceptDigit wsX0_acceptDigit rmX0_acceptDigit_no [.ref (x 0), .int d] (BW g x tx ln nu (nI j) (nI D) fe) (Qf (some (.int 0)) (BW g x tx ln nu (nI j) (nI D) fe)) := by
  refine UC.ofV (cc := cX0_acceptDigit) (maxL := 4) (ret := some .boolean) (lv0 := [(0, .ref (x 0)), (1, .int d)]) (by decide) rfl (Nat.le_of_ble_eq_true rfl) rfl ?_
  generalize hQF : QFr g rmX0_acceptDigit_no (Qf (some (.int 0)) (BW g x tx ln nu (nI j) (nI D) fe)) = QF
  have hq : QFok g rmX0_acceptDigit_no (Qf (some (.int 0)) (BW g x tx ln nu (nI j) (nI D) fe)) QF := hQF ▸ QFr.q
  refine V.bipush (v := 10) dX0_acceptDigit_0 (by decide) ?_
  refine V.aload_n 0 rfl dX0_acceptDigit_2 rfl ?_
  refine V.get (v := .ref (x 2)) (fun w H => List.mem_cons_of_mem _ (List.mem_append_right _ H)) (hc := (rfl : vwCl[0]? = some (RX0, TX0, 6))) 0 2 (by decide) (List.mem_of_getElem? (i := 1) rfl) rfl rfl dX0_acceptDigit_3 ?_
  refine V.aload_n 0 rfl dX0_acceptDigit_6 rfl ?_
  refine V.get (v := .int (nI j)) (fun w H => List.mem_cons_of_mem _ (List.mem_append_right _ H)) (hc := (rfl : vwCl[0]? = some (RX0, TX0, 6))) 0 3 (by decide) (List.mem_of_getElem? (i := 2) rfl) rfl rfl dX0_acceptDigit_7 ?_
  refine V.iald (f := nu) 2 j rfl rfl hj (by decide) dX0_acceptDigit_10 ?_
  refine V.imul dX0_acceptDigit_11 ?_
  refine V.iload_n 1 rfl dX0_acceptDigit_12 rfl ?_
  refine V.iadd dX0_acceptDigit_13 ?_
  refine V.istore_n (lv2 := [(2, .int ((10 * (nu j)) + d)), (0, .ref (x 0)), (1, .int d)]) dX0_acceptDigit_14 rfl (by decide) rfl ?_
  refine V.aload_n 1 rfl dX0_acceptDigit_15 rfl ?_
  refine V.get (v := .int (nI D)) (fun w H => List.mem_cons_of_mem _ (List.mem_append_right _ H)) (hc := (rfl : vwCl[0]? = some (RX0, TX0, 6))) 0 4 (by decide) (List.mem_of_getElem? (i := 3) rfl) rfl rfl dX0_acceptDigit_16 ?_
  refine V.if_le (tgt := 38) dX0_acceptDigit_19 (by decide) (fun c19 => ?_) (fun c19 => ?_)
  · skip
    refine V.iconst (v := 0) dX0_acceptDigit_38 (by decide) ?_
    refine V.istore_n (lv2 := [(3, .int 0), (2, .int ((10 * (nu j)) + d)), (0, .ref (x 0)), (1, .int d)]) dX0_acceptDigit_39 rfl (by decide) rfl ?_
    refine V.iload_n 0 rfl dX0_acceptDigit_40 rfl ?_
    have h0 : (decide (0 < D) && decide (nu j = 0)) = false := by rw [decide_eq_false (fun q => nI_ge (a := 0) (b := D) q (by omega) c19)]; rfl
    refine V.if_ne_f (tgt := 56) rfl dX0_acceptDigit_41 (by decide) ?_
    refine V.iload_n 1 rfl dX0_acceptDigit_44 rfl ?_
    refine V.getsN (by decide +kernel) dX0_acceptDigit_45 (fun tt => ?_)
    refine V.aload_n 2 rfl dX0_acceptDigit_48 rfl ?_
    refine V.get (v := .int (nI j)) (fun w H => List.mem_cons_of_mem _ (List.mem_append_right _ H)) (hc := (rfl : vwCl[0]? = some (RX0, TX0, 6))) 0 3 (by decide) (List.mem_of_getElem? (i := 2) rfl) rfl rfl dX0_acceptDigit_49 ?_
    refine V.ialdT (j := j) (v := gnT j) rfl hj (by decide) rfl dX0_acceptDigit_52 ?_
    refine V.icmp_le_f (tgt := 58) (by rw [bdB, h0] at hb; exact Int32.not_le.mpr (of_decide_eq_true (by simpa using hb))) dX0_acceptDigit_53 (by decide) ?_
    refine V.iconst (v := 0) dX0_acceptDigit_56 (by decide) ?_
    exact V.zret hq XM.r rfl (Nat.le_of_ble_eq_true rfl) (Nat.le_of_ble_eq_true rfl) ⟨rfl, rfl⟩ dX0_acceptDigit_57
  · skip
    refine V.aload_n 1 rfl dX0_acceptDigit_22 rfl ?_
    refine V.get (v := .ref (x 2)) (fun w H => List.mem_cons_of_mem _ (List.mem_append_right _ H)) (hc := (rfl : vwCl[0]? = some (RX0, TX0, 6))) 0 2 (by decide) (List.mem_of_getElem? (i := 1) rfl) rfl rfl dX0_acceptDigit_23 ?_
    refine V.aload_n 1 rfl dX0_acceptDigit_26 rfl ?_
    refine V.get (v := .int (nI j)) (fun w H => List.mem_cons_of_mem _ (List.mem_append_right _ H)) (hc := (rfl : vwCl[0]? = some (RX0, TX0, 6))) 0 3 (by decide) (List.mem_of_getElem? (i := 2) rfl) rfl rfl dX0_acceptDigit_27 ?_
    refine V.iald (f := nu) 2 j rfl rfl hj (by decide) dX0_acceptDigit_30 ?_
    refine V.if_ne (tgt := 38) dX0_acceptDigit_31 (by decide) (fun c31 => ?_) (fun c31 => ?_)
    · skip
      refine V.iconst (v := 0) dX0_acceptDigit_38 (by decide) ?_
      refine V.istore_n (lv2 := [(3, .int 0), (2, .int ((10 * (nu j)) + d)), (0, .ref (x 0)), (1, .int d)]) dX0_acceptDigit_39 rfl (by decide) rfl ?_
      refine V.iload_n 0 rfl dX0_acceptDigit_40 rfl ?_
      have h0 : (decide (0 < D) && decide (nu j = 0)) = false := by rw [decide_eq_false c31, Bool.and_false]
      refine V.if_ne_f (tgt := 56) rfl dX0_acceptDigit_41 (by decide) ?_
      refine V.iload_n 1 rfl dX0_acceptDigit_44 rfl ?_
      refine V.getsN (by decide +kernel) dX0_acceptDigit_45 (fun tt => ?_)
      refine V.aload_n 2 rfl dX0_acceptDigit_48 rfl ?_
      refine V.get (v := .int (nI j)) (fun w H => List.mem_cons_of_mem _ (List.mem_append_right _ H)) (hc := (rfl : vwCl[0]? = some (RX0, TX0, 6))) 0 3 (by decide) (List.mem_of_getElem? (i := 2) rfl) rfl rfl dX0_acceptDigit_49 ?_
      refine V.ialdT (j := j) (v := gnT j) rfl hj (by decide) rfl dX0_acceptDigit_52 ?_
      refine V.icmp_le_f (tgt := 58) (by rw [bdB, h0] at hb; exact Int32.not_le.mpr (of_decide_eq_true (by simpa using hb))) dX0_acceptDigit_53 (by decide) ?_
      refine V.iconst (v := 0) dX0_acceptDigit_56 (by decide) ?_
      exact V.zret hq XM.r rfl (Nat.le_of_ble_eq_true rfl) (Nat.le_of_ble_eq_true rfl) ⟨rfl, rfl⟩ dX0_acceptDigit_57
    · skip
      refine V.iconst (v := 1) dX0_acceptDigit_34 (by decide) ?_
      refine V.goto (tgt := 39) dX0_acceptDigit_35 (by decide) ?_
      refine V.istore_n (lv2 := [(3, .int 1), (2, .int ((10 * (nu j)) + d)), (0, .ref (x 0)), (1, .int d)]) dX0_acceptDigit_39 rfl (by decide) rfl ?_
      refine V.iload_n 0 rfl dX0_acceptDigit_40 rfl ?_
      have h0 : (decide (0 < D) && decide (nu j = 0)) = true := by rw [decide_eq_true c31, decide_eq_true (Nat.pos_of_ne_zero (fun q => c19 (by rw [q]; decide)))]; rfl
      refine V.if_ne_t (tgt := 56) (by decide) dX0_acceptDigit_41 (by decide) ?_
      refine V.iconst (v := 0) dX0_acceptDigit_56 (by decide) ?_
      exact V.zret hq XM.r rfl (Nat.le_of_ble_eq_true rfl) (Nat.le_of_ble_eq_true rfl) ⟨rfl, rfl⟩ dX0_acceptDigit_57
abbrev rmX0_acceptDigit_ok : Room := { frames := 0, cells := 0, slots := 0, locals := 0 }
set_option maxHeartbeats 4000000 in
set_option maxRecDepth 100000 in
theorem kX0_acceptDigit_ok (g : GT) (x : Nat → Nat) (tx : Nat → Int32) (ln : Int32) (nu : Nat → Int32) (j : Nat) (D : Nat) (fe : Int32) (d : Int32) (hj : j < 3) (hD : D < 1000) (hb : bdB nu j D d = true) : UC g yX0_acceptDigit wsX0_acceptDigit rmX0_acceptDigit_ok [.ref (x 0), .int d] (BW g x tx ln nu (nI j) (nI D) fe) (Qf (some (.int 1)) (BW g x tx ln (upd nu j (10 * nu j + d)) (nI j) (nI (D + 1)) fe)) := by
  refine UC.ofV (cc := cX0_acceptDigit) (maxL := 4) (ret := some .boolean) (lv0 := [(0, .ref (x 0)), (1, .int d)]) (by decide) rfl (Nat.le_of_ble_eq_true rfl) rfl ?_
  generalize hQF : QFr g rmX0_acceptDigit_ok (Qf (some (.int 1)) (BW g x tx ln (upd nu j (10 * nu j + d)) (nI j) (nI (D + 1)) fe)) = QF
  have hq : QFok g rmX0_acceptDigit_ok (Qf (some (.int 1)) (BW g x tx ln (upd nu j (10 * nu j + d)) (nI j) (nI (D + 1)) fe)) QF := hQF ▸ QFr.q
  refine V.bipush (v := 10) dX0_acceptDigit_0 (by decide) ?_
  refine V.aload_n 0 rfl dX0_acceptDigit_2 rfl ?_
  refine V.get (v := .ref (x 2)) (fun w H => List.mem_cons_of_mem _ (List.mem_append_right _ H)) (hc := (rfl : vwCl[0]? = some (RX0, TX0, 6))) 0 2 (by decide) (List.mem_of_getElem? (i := 1) rfl) rfl rfl dX0_acceptDigit_3 ?_
  refine V.aload_n 0 rfl dX0_acceptDigit_6 rfl ?_
  refine V.get (v := .int (nI j)) (fun w H => List.mem_cons_of_mem _ (List.mem_append_right _ H)) (hc := (rfl : vwCl[0]? = some (RX0, TX0, 6))) 0 3 (by decide) (List.mem_of_getElem? (i := 2) rfl) rfl rfl dX0_acceptDigit_7 ?_
  refine V.iald (f := nu) 2 j rfl rfl hj (by decide) dX0_acceptDigit_10 ?_
  refine V.imul dX0_acceptDigit_11 ?_
  refine V.iload_n 1 rfl dX0_acceptDigit_12 rfl ?_
  refine V.iadd dX0_acceptDigit_13 ?_
  refine V.istore_n (lv2 := [(2, .int ((10 * (nu j)) + d)), (0, .ref (x 0)), (1, .int d)]) dX0_acceptDigit_14 rfl (by decide) rfl ?_
  refine V.aload_n 1 rfl dX0_acceptDigit_15 rfl ?_
  refine V.get (v := .int (nI D)) (fun w H => List.mem_cons_of_mem _ (List.mem_append_right _ H)) (hc := (rfl : vwCl[0]? = some (RX0, TX0, 6))) 0 4 (by decide) (List.mem_of_getElem? (i := 3) rfl) rfl rfl dX0_acceptDigit_16 ?_
  refine V.if_le (tgt := 38) dX0_acceptDigit_19 (by decide) (fun c19 => ?_) (fun c19 => ?_)
  · skip
    refine V.iconst (v := 0) dX0_acceptDigit_38 (by decide) ?_
    refine V.istore_n (lv2 := [(3, .int 0), (2, .int ((10 * (nu j)) + d)), (0, .ref (x 0)), (1, .int d)]) dX0_acceptDigit_39 rfl (by decide) rfl ?_
    refine V.iload_n 0 rfl dX0_acceptDigit_40 rfl ?_
    have h0 : (decide (0 < D) && decide (nu j = 0)) = false := by rw [decide_eq_false (fun q => nI_ge (a := 0) (b := D) q (by omega) c19)]; rfl
    refine V.if_ne_f (tgt := 56) rfl dX0_acceptDigit_41 (by decide) ?_
    refine V.iload_n 1 rfl dX0_acceptDigit_44 rfl ?_
    refine V.getsN (by decide +kernel) dX0_acceptDigit_45 (fun tt => ?_)
    refine V.aload_n 2 rfl dX0_acceptDigit_48 rfl ?_
    refine V.get (v := .int (nI j)) (fun w H => List.mem_cons_of_mem _ (List.mem_append_right _ H)) (hc := (rfl : vwCl[0]? = some (RX0, TX0, 6))) 0 3 (by decide) (List.mem_of_getElem? (i := 2) rfl) rfl rfl dX0_acceptDigit_49 ?_
    refine V.ialdT (j := j) (v := gnT j) rfl hj (by decide) rfl dX0_acceptDigit_52 ?_
    refine V.icmp_le_t (tgt := 58) (by rw [bdB, h0] at hb; exact Int32.not_lt.mp (of_decide_eq_false (by simpa using hb))) dX0_acceptDigit_53 (by decide) ?_
    refine V.aload_n 2 rfl dX0_acceptDigit_58 rfl ?_
    refine V.get (v := .ref (x 2)) (fun w H => List.mem_cons_of_mem _ (List.mem_append_right _ H)) (hc := (rfl : vwCl[0]? = some (RX0, TX0, 6))) 0 2 (by decide) (List.mem_of_getElem? (i := 1) rfl) rfl rfl dX0_acceptDigit_59 ?_
    refine V.aload_n 2 rfl dX0_acceptDigit_62 rfl ?_
    refine V.get (v := .int (nI j)) (fun w H => List.mem_cons_of_mem _ (List.mem_append_right _ H)) (hc := (rfl : vwCl[0]? = some (RX0, TX0, 6))) 0 3 (by decide) (List.mem_of_getElem? (i := 2) rfl) rfl rfl dX0_acceptDigit_63 ?_
    refine V.iload_n 1 rfl dX0_acceptDigit_66 rfl ?_
    refine V.iast (f := nu) (ws2 := BW g x tx ln (upd nu j ((10 * (nu j)) + d)) (nI j) (nI D) fe) 2 j rfl rfl hj (by decide) rfl dX0_acceptDigit_67 ?_
    refine V.aload_n 2 rfl dX0_acceptDigit_68 rfl ?_
    refine V.dup dX0_acceptDigit_69 rfl ?_
    refine V.get (v := .int (nI D)) (fun w H => List.mem_cons_of_mem _ (List.mem_append_right _ H)) (hc := (rfl : vwCl[0]? = some (RX0, TX0, 6))) 0 4 (by decide) (List.mem_of_getElem? (i := 3) rfl) rfl rfl dX0_acceptDigit_70 ?_
    refine V.iconst (v := 1) dX0_acceptDigit_73 (by decide) ?_
    refine V.iaddN (v := nI (D + 1)) dX0_acceptDigit_74 (nI_add D 1) ?_
    refine V.put (v := .int (nI (D + 1))) (ws2 := BW g x tx ln (upd nu j ((10 * (nu j)) + d)) (nI j) (nI (D + 1)) fe) (fun w H => List.mem_cons_of_mem _ (List.mem_append_right _ H)) tyX0 tyX0_ok nmX0 (hc := (rfl : vwCl[0]? = some (RX0, TX0, 6))) 0 4 (by decide) (List.mem_of_getElem? (i := 3) rfl) rfl rfl (tyX0_ok 4 (by decide)) rfl rfl (Nat.le_of_ble_eq_true rfl) rfl dX0_acceptDigit_75 ?_
    refine V.iconst (v := 1) dX0_acceptDigit_78 (by decide) ?_
    exact V.zret hq XM.r rfl (Nat.le_of_ble_eq_true rfl) (Nat.le_of_ble_eq_true rfl) ⟨rfl, rfl⟩ dX0_acceptDigit_79
  · skip
    refine V.aload_n 1 rfl dX0_acceptDigit_22 rfl ?_
    refine V.get (v := .ref (x 2)) (fun w H => List.mem_cons_of_mem _ (List.mem_append_right _ H)) (hc := (rfl : vwCl[0]? = some (RX0, TX0, 6))) 0 2 (by decide) (List.mem_of_getElem? (i := 1) rfl) rfl rfl dX0_acceptDigit_23 ?_
    refine V.aload_n 1 rfl dX0_acceptDigit_26 rfl ?_
    refine V.get (v := .int (nI j)) (fun w H => List.mem_cons_of_mem _ (List.mem_append_right _ H)) (hc := (rfl : vwCl[0]? = some (RX0, TX0, 6))) 0 3 (by decide) (List.mem_of_getElem? (i := 2) rfl) rfl rfl dX0_acceptDigit_27 ?_
    refine V.iald (f := nu) 2 j rfl rfl hj (by decide) dX0_acceptDigit_30 ?_
    refine V.if_ne (tgt := 38) dX0_acceptDigit_31 (by decide) (fun c31 => ?_) (fun c31 => ?_)
    · skip
      refine V.iconst (v := 0) dX0_acceptDigit_38 (by decide) ?_
      refine V.istore_n (lv2 := [(3, .int 0), (2, .int ((10 * (nu j)) + d)), (0, .ref (x 0)), (1, .int d)]) dX0_acceptDigit_39 rfl (by decide) rfl ?_
      refine V.iload_n 0 rfl dX0_acceptDigit_40 rfl ?_
      have h0 : (decide (0 < D) && decide (nu j = 0)) = false := by rw [decide_eq_false c31, Bool.and_false]
      refine V.if_ne_f (tgt := 56) rfl dX0_acceptDigit_41 (by decide) ?_
      refine V.iload_n 1 rfl dX0_acceptDigit_44 rfl ?_
      refine V.getsN (by decide +kernel) dX0_acceptDigit_45 (fun tt => ?_)
      refine V.aload_n 2 rfl dX0_acceptDigit_48 rfl ?_
      refine V.get (v := .int (nI j)) (fun w H => List.mem_cons_of_mem _ (List.mem_append_right _ H)) (hc := (rfl : vwCl[0]? = some (RX0, TX0, 6))) 0 3 (by decide) (List.mem_of_getElem? (i := 2) rfl) rfl rfl dX0_acceptDigit_49 ?_
      refine V.ialdT (j := j) (v := gnT j) rfl hj (by decide) rfl dX0_acceptDigit_52 ?_
      refine V.icmp_le_t (tgt := 58) (by rw [bdB, h0] at hb; exact Int32.not_lt.mp (of_decide_eq_false (by simpa using hb))) dX0_acceptDigit_53 (by decide) ?_
      refine V.aload_n 2 rfl dX0_acceptDigit_58 rfl ?_
      refine V.get (v := .ref (x 2)) (fun w H => List.mem_cons_of_mem _ (List.mem_append_right _ H)) (hc := (rfl : vwCl[0]? = some (RX0, TX0, 6))) 0 2 (by decide) (List.mem_of_getElem? (i := 1) rfl) rfl rfl dX0_acceptDigit_59 ?_
      refine V.aload_n 2 rfl dX0_acceptDigit_62 rfl ?_
      refine V.get (v := .int (nI j)) (fun w H => List.mem_cons_of_mem _ (List.mem_append_right _ H)) (hc := (rfl : vwCl[0]? = some (RX0, TX0, 6))) 0 3 (by decide) (List.mem_of_getElem? (i := 2) rfl) rfl rfl dX0_acceptDigit_63 ?_
      refine V.iload_n 1 rfl dX0_acceptDigit_66 rfl ?_
      refine V.iast (f := nu) (ws2 := BW g x tx ln (upd nu j ((10 * (nu j)) + d)) (nI j) (nI D) fe) 2 j rfl rfl hj (by decide) rfl dX0_acceptDigit_67 ?_
      refine V.aload_n 2 rfl dX0_acceptDigit_68 rfl ?_
      refine V.dup dX0_acceptDigit_69 rfl ?_
      refine V.get (v := .int (nI D)) (fun w H => List.mem_cons_of_mem _ (List.mem_append_right _ H)) (hc := (rfl : vwCl[0]? = some (RX0, TX0, 6))) 0 4 (by decide) (List.mem_of_getElem? (i := 3) rfl) rfl rfl dX0_acceptDigit_70 ?_
      refine V.iconst (v := 1) dX0_acceptDigit_73 (by decide) ?_
      refine V.iaddN (v := nI (D + 1)) dX0_acceptDigit_74 (nI_add D 1) ?_
      refine V.put (v := .int (nI (D + 1))) (ws2 := BW g x tx ln (upd nu j ((10 * (nu j)) + d)) (nI j) (nI (D + 1)) fe) (fun w H => List.mem_cons_of_mem _ (List.mem_append_right _ H)) tyX0 tyX0_ok nmX0 (hc := (rfl : vwCl[0]? = some (RX0, TX0, 6))) 0 4 (by decide) (List.mem_of_getElem? (i := 3) rfl) rfl rfl (tyX0_ok 4 (by decide)) rfl rfl (Nat.le_of_ble_eq_true rfl) rfl dX0_acceptDigit_75 ?_
      refine V.iconst (v := 1) dX0_acceptDigit_78 (by decide) ?_
      exact V.zret hq XM.r rfl (Nat.le_of_ble_eq_true rfl) (Nat.le_of_ble_eq_true rfl) ⟨rfl, rfl⟩ dX0_acceptDigit_79
    · skip
      refine V.iconst (v := 1) dX0_acceptDigit_34 (by decide) ?_
      refine V.goto (tgt := 39) dX0_acceptDigit_35 (by decide) ?_
      refine V.istore_n (lv2 := [(3, .int 1), (2, .int ((10 * (nu j)) + d)), (0, .ref (x 0)), (1, .int d)]) dX0_acceptDigit_39 rfl (by decide) rfl ?_
      refine V.iload_n 0 rfl dX0_acceptDigit_40 rfl ?_
      have h0 : (decide (0 < D) && decide (nu j = 0)) = true := by rw [decide_eq_true c31, decide_eq_true (Nat.pos_of_ne_zero (fun q => c19 (by rw [q]; decide)))]; rfl
      exact absurd hb (by rw [bdB, h0]; simp)
abbrev rmX0_acceptEnd_no : Room := { frames := 1, cells := 0, slots := 0, locals := 20 }
set_option maxHeartbeats 4000000 in
set_option maxRecDepth 100000 in
theorem kX0_acceptEnd_no (g : GT) (x : Nat → Nat) (tx : Nat → Int32) (ln : Int32) (nu : Nat → Int32) (j : Nat) (D : Nat) (f : Bool) (c : Int32) (hj : j < 3) (hD : D < 1000) (hb : D = 0 ∨ ¬ c = nE j f) : UC g yX0_acceptEnd wsX0_acceptEnd rmX0_acceptEnd_no [.ref (x 0), .int c] (BW g x tx ln nu (nI j) (nI D) (bi f)) (Qf (some (.int 0)) (BW g x tx ln nu (nI j) (nI D) (bi f))) := by
  refine UC.ofV (cc := cX0_acceptEnd) (maxL := 2) (ret := some .boolean) (lv0 := [(0, .ref (x 0)), (1, .int c)]) (by decide) rfl (Nat.le_of_ble_eq_true rfl) rfl ?_
  generalize hQF : QFr g rmX0_acceptEnd_no (Qf (some (.int 0)) (BW g x tx ln nu (nI j) (nI D) (bi f))) = QF
  have hq : QFok g rmX0_acceptEnd_no (Qf (some (.int 0)) (BW g x tx ln nu (nI j) (nI D) (bi f))) QF := hQF ▸ QFr.q
  refine V.aload_n 0 rfl dX0_acceptEnd_0 rfl ?_
  refine V.get (v := .int (nI D)) (fun w H => List.mem_cons_of_mem _ (List.mem_append_right _ H)) (hc := (rfl : vwCl[0]? = some (RX0, TX0, 6))) 0 4 (by decide) (List.mem_of_getElem? (i := 1) rfl) rfl rfl dX0_acceptEnd_1 ?_
  refine V.if_eq (tgt := 15) dX0_acceptEnd_4 (by decide) (fun c4 => ?_) (fun c4 => ?_)
  · skip
    refine V.iconst (v := 0) dX0_acceptEnd_15 (by decide) ?_
    exact V.zret hq XM.r rfl (Nat.le_of_ble_eq_true rfl) (Nat.le_of_ble_eq_true rfl) ⟨rfl, rfl⟩ dX0_acceptEnd_16
  · skip
    refine V.iload_n 1 rfl dX0_acceptEnd_7 rfl ?_
    refine V.aload_n 0 rfl dX0_acceptEnd_8 rfl ?_
    refine V.callVf (ws2 := BW g x tx ln nu (nI j) (nI D) (bi f)) (st2 := [.int (nE j f), .int c]) [] [.int c] (kX0_numberEnd g x tx ln nu j (nI D) f hj) gX0_acceptEnd_X0_numberEnd rfl (by show _ ∧ _ ∧ _ ∧ _ = some (0 : Nat); decide +kernel) ⟨Nat.le_of_ble_eq_true rfl, Nat.le_of_ble_eq_true rfl⟩ (hc := (rfl : vwCl[0]? = some (RX0, TX0, 6))) 0 rfl [0, 1, 2] (by decide) rfl rfl (Nat.le_of_ble_eq_true rfl) ⟨Nat.le_of_ble_eq_true rfl, Nat.le_of_ble_eq_true rfl⟩ dX0_acceptEnd_9 BWf rfl rfl rfl rfl ?_
    refine V.icmp_eq_f (tgt := 17) (hb.resolve_left (fun q => c4 (by rw [q]; decide))) dX0_acceptEnd_12 (by decide) ?_
    refine V.iconst (v := 0) dX0_acceptEnd_15 (by decide) ?_
    exact V.zret hq XM.r rfl (Nat.le_of_ble_eq_true rfl) (Nat.le_of_ble_eq_true rfl) ⟨rfl, rfl⟩ dX0_acceptEnd_16
abbrev rmX0_acceptEnd_semi : Room := { frames := 1, cells := 0, slots := 0, locals := 20 }
set_option maxHeartbeats 4000000 in
set_option maxRecDepth 100000 in
theorem kX0_acceptEnd_semi (g : GT) (x : Nat → Nat) (tx : Nat → Int32) (ln : Int32) (nu : Nat → Int32) (j : Nat) (D : Nat) (f : Bool) (c : Int32) (hj : j < 3) (hD : D < 1000) (h0 : ¬ D = 0) (hb : c = nE j f) (hc : c = 59) : UC g yX0_acceptEnd wsX0_acceptEnd rmX0_acceptEnd_semi [.ref (x 0), .int c] (BW g x tx ln nu (nI j) (nI D) (bi f)) (Qf (some (.int 1)) (BW g x tx ln nu (-1) (nI D) (bi f))) := by
  refine UC.ofV (cc := cX0_acceptEnd) (maxL := 2) (ret := some .boolean) (lv0 := [(0, .ref (x 0)), (1, .int c)]) (by decide) rfl (Nat.le_of_ble_eq_true rfl) rfl ?_
  generalize hQF : QFr g rmX0_acceptEnd_semi (Qf (some (.int 1)) (BW g x tx ln nu (-1) (nI D) (bi f))) = QF
  have hq : QFok g rmX0_acceptEnd_semi (Qf (some (.int 1)) (BW g x tx ln nu (-1) (nI D) (bi f))) QF := hQF ▸ QFr.q
  refine V.aload_n 0 rfl dX0_acceptEnd_0 rfl ?_
  refine V.get (v := .int (nI D)) (fun w H => List.mem_cons_of_mem _ (List.mem_append_right _ H)) (hc := (rfl : vwCl[0]? = some (RX0, TX0, 6))) 0 4 (by decide) (List.mem_of_getElem? (i := 1) rfl) rfl rfl dX0_acceptEnd_1 ?_
  refine V.if_eq_f (tgt := 15) (fun q => h0 (nI_ij (by omega) (by decide) q)) dX0_acceptEnd_4 (by decide) ?_
  refine V.iload_n 1 rfl dX0_acceptEnd_7 rfl ?_
  refine V.aload_n 0 rfl dX0_acceptEnd_8 rfl ?_
  refine V.callVf (ws2 := BW g x tx ln nu (nI j) (nI D) (bi f)) (st2 := [.int (nE j f), .int c]) [] [.int c] (kX0_numberEnd g x tx ln nu j (nI D) f hj) gX0_acceptEnd_X0_numberEnd rfl (by show _ ∧ _ ∧ _ ∧ _ = some (0 : Nat); decide +kernel) ⟨Nat.le_of_ble_eq_true rfl, Nat.le_of_ble_eq_true rfl⟩ (hc := (rfl : vwCl[0]? = some (RX0, TX0, 6))) 0 rfl [0, 1, 2] (by decide) rfl rfl (Nat.le_of_ble_eq_true rfl) ⟨Nat.le_of_ble_eq_true rfl, Nat.le_of_ble_eq_true rfl⟩ dX0_acceptEnd_9 BWf rfl rfl rfl rfl ?_
  refine V.icmp_eq_t (tgt := 17) hb dX0_acceptEnd_12 (by decide) ?_
  refine V.iload_n 1 rfl dX0_acceptEnd_17 rfl ?_
  refine V.bipush (v := 59) dX0_acceptEnd_18 (by decide) ?_
  refine V.icmp_ne_f (tgt := 30) hc dX0_acceptEnd_20 (by decide) ?_
  refine V.aload_n 0 rfl dX0_acceptEnd_23 rfl ?_
  refine V.callVf (ws2 := BW g x tx ln nu (-1) (nI D) (bi f)) (st2 := []) [] [] (kX0_startReading g x tx ln nu (nI j) (nI D) (bi f) ) gX0_acceptEnd_X0_startReading rfl (by show _ ∧ _ ∧ _ ∧ _ = some (0 : Nat); decide +kernel) ⟨Nat.le_of_ble_eq_true rfl, Nat.le_of_ble_eq_true rfl⟩ (hc := (rfl : vwCl[0]? = some (RX0, TX0, 6))) 0 rfl [0, 1, 2] (by decide) rfl rfl (Nat.le_of_ble_eq_true rfl) ⟨Nat.le_of_ble_eq_true rfl, Nat.le_of_ble_eq_true rfl⟩ dX0_acceptEnd_24 BWf rfl rfl rfl rfl ?_
  refine V.goto (tgt := 40) dX0_acceptEnd_27 (by decide) ?_
  refine V.iconst (v := 1) dX0_acceptEnd_40 (by decide) ?_
  exact V.zret hq XM.r rfl (Nat.le_of_ble_eq_true rfl) (Nat.le_of_ble_eq_true rfl) ⟨rfl, rfl⟩ dX0_acceptEnd_41
abbrev rmX0_acceptEnd_next : Room := { frames := 1, cells := 0, slots := 0, locals := 21 }
set_option maxHeartbeats 4000000 in
set_option maxRecDepth 100000 in
theorem kX0_acceptEnd_next (g : GT) (x : Nat → Nat) (tx : Nat → Int32) (ln : Int32) (nu : Nat → Int32) (j : Nat) (D : Nat) (f : Bool) (c : Int32) (hj : j < 3) (hD : D < 1000) (h0 : ¬ D = 0) (hb : c = nE j f) (hc : ¬ c = 59) (hj2 : j < 2) : UC g yX0_acceptEnd wsX0_acceptEnd rmX0_acceptEnd_next [.ref (x 0), .int c] (BW g x tx ln nu (nI j) (nI D) (bi f)) (Qf (some (.int 1)) (BW g x tx ln (upd nu (j + 1) 0) (nI (j + 1)) 0 (bi f))) := by
  refine UC.ofV (cc := cX0_acceptEnd) (maxL := 2) (ret := some .boolean) (lv0 := [(0, .ref (x 0)), (1, .int c)]) (by decide) rfl (Nat.le_of_ble_eq_true rfl) rfl ?_
  generalize hQF : QFr g rmX0_acceptEnd_next (Qf (some (.int 1)) (BW g x tx ln (upd nu (j + 1) 0) (nI (j + 1)) 0 (bi f))) = QF
  have hq : QFok g rmX0_acceptEnd_next (Qf (some (.int 1)) (BW g x tx ln (upd nu (j + 1) 0) (nI (j + 1)) 0 (bi f))) QF := hQF ▸ QFr.q
  refine V.aload_n 0 rfl dX0_acceptEnd_0 rfl ?_
  refine V.get (v := .int (nI D)) (fun w H => List.mem_cons_of_mem _ (List.mem_append_right _ H)) (hc := (rfl : vwCl[0]? = some (RX0, TX0, 6))) 0 4 (by decide) (List.mem_of_getElem? (i := 1) rfl) rfl rfl dX0_acceptEnd_1 ?_
  refine V.if_eq_f (tgt := 15) (fun q => h0 (nI_ij (by omega) (by decide) q)) dX0_acceptEnd_4 (by decide) ?_
  refine V.iload_n 1 rfl dX0_acceptEnd_7 rfl ?_
  refine V.aload_n 0 rfl dX0_acceptEnd_8 rfl ?_
  refine V.callVf (ws2 := BW g x tx ln nu (nI j) (nI D) (bi f)) (st2 := [.int (nE j f), .int c]) [] [.int c] (kX0_numberEnd g x tx ln nu j (nI D) f hj) gX0_acceptEnd_X0_numberEnd rfl (by show _ ∧ _ ∧ _ ∧ _ = some (0 : Nat); decide +kernel) ⟨Nat.le_of_ble_eq_true rfl, Nat.le_of_ble_eq_true rfl⟩ (hc := (rfl : vwCl[0]? = some (RX0, TX0, 6))) 0 rfl [0, 1, 2] (by decide) rfl rfl (Nat.le_of_ble_eq_true rfl) ⟨Nat.le_of_ble_eq_true rfl, Nat.le_of_ble_eq_true rfl⟩ dX0_acceptEnd_9 BWf rfl rfl rfl rfl ?_
  refine V.icmp_eq_t (tgt := 17) hb dX0_acceptEnd_12 (by decide) ?_
  refine V.iload_n 1 rfl dX0_acceptEnd_17 rfl ?_
  refine V.bipush (v := 59) dX0_acceptEnd_18 (by decide) ?_
  refine V.icmp_ne_t (tgt := 30) hc dX0_acceptEnd_20 (by decide) ?_
  refine V.aload_n 0 rfl dX0_acceptEnd_30 rfl ?_
  refine V.aload_n 0 rfl dX0_acceptEnd_31 rfl ?_
  refine V.get (v := .int (nI j)) (fun w H => List.mem_cons_of_mem _ (List.mem_append_right _ H)) (hc := (rfl : vwCl[0]? = some (RX0, TX0, 6))) 0 3 (by decide) (List.mem_of_getElem? (i := 2) rfl) rfl rfl dX0_acceptEnd_32 ?_
  refine V.iconst (v := 1) dX0_acceptEnd_35 (by decide) ?_
  refine V.iaddN (v := nI (j + 1)) dX0_acceptEnd_36 (nI_add j 1) ?_
  refine V.callVf (ws2 := BW g x tx ln (upd nu (j + 1) 0) (nI (j + 1)) 0 (bi f)) (st2 := []) [.int (nI (j + 1))] [] (kX0_startNumber g x tx ln nu (nI j) (nI D) (bi f) (j + 1) (by omega)) gX0_acceptEnd_X0_startNumber rfl (by show _ ∧ _ ∧ _ ∧ _ = some (1 : Nat); decide +kernel) ⟨Nat.le_of_ble_eq_true rfl, Nat.le_of_ble_eq_true rfl⟩ (hc := (rfl : vwCl[0]? = some (RX0, TX0, 6))) 0 rfl [0, 1, 2] (by decide) rfl rfl (Nat.le_of_ble_eq_true rfl) ⟨Nat.le_of_ble_eq_true rfl, Nat.le_of_ble_eq_true rfl⟩ dX0_acceptEnd_37 BWf rfl rfl rfl rfl ?_
  refine V.iconst (v := 1) dX0_acceptEnd_40 (by decide) ?_
  exact V.zret hq XM.r rfl (Nat.le_of_ble_eq_true rfl) (Nat.le_of_ble_eq_true rfl) ⟨rfl, rfl⟩ dX0_acceptEnd_41
