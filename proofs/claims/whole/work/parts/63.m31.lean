abbrev rmX5_addPartOfText : Room := { frames := 3, cells := 0, slots := 0, locals := 69 }
set_option maxHeartbeats 4000000 in
set_option maxRecDepth 100000 in
theorem kX5_addPartOfText (g : GT) (o : Nat) (b c u h x : Nat → Nat) (z y ai pa tu tx : Nat → Int32) (len : Nat) (s : BS) (n : Nat) (sv : SV) (hC : CN z) : UC g yX5_addPartOfText wsX5_addPartOfText rmX5_addPartOfText [.ref o] (GW g o b c u h x z y ai pa tu tx len s n sv) (fun v w => v = some (.int (bi (apB s z))) ∧ w = GW g o b c u h x (apZ s z) y ai pa tu tx len s n sv) := by
  refine UC.ofV (cc := cX5_addPartOfText) (maxL := 1) (ret := some .boolean) (lv0 := [(0, .ref o)]) (by decide) rfl (Nat.le_of_ble_eq_true rfl) rfl ?_
  generalize hQF : QFr g rmX5_addPartOfText (fun v w => v = some (.int (bi (apB s z))) ∧ w = GW g o b c u h x (apZ s z) y ai pa tu tx len s n sv) = QF
  have hq : QFok g rmX5_addPartOfText (fun v w => v = some (.int (bi (apB s z))) ∧ w = GW g o b c u h x (apZ s z) y ai pa tu tx len s n sv) QF := hQF ▸ QFr.q
  refine V.eqws (ws2 := (HD g o b c u h x) ++ (SW g b z) ++ (SW g c y) ++ (UW g u ai pa tu) ++ (BWs g x tx (nI len) s) ++ (HW g h n sv)) rfl ?_
  refine V.aload_n 0 rfl dX5_addPartOfText_0 rfl ?_
  refine V.get (v := .ref (x 0)) (fun w H => List.mem_cons_of_mem _ (List.mem_append_left _ (List.mem_append_left _ (List.mem_append_left _ (List.mem_append_right _ H))))) (hc := (rfl : vwCl[5]? = some (RX5, TX5, 5))) 0 4 (by decide) (List.mem_of_getElem? (i := 1) rfl) rfl rfl dX5_addPartOfText_1 ?_
  refine V.get (v := .int (bi s.2.2.2)) (fun w H => List.mem_cons_of_mem _ (List.mem_append_left _ (List.mem_append_left _ (List.mem_append_right _ H)))) (hc := (rfl : vwCl[0]? = some (RX0, TX0, 6))) 25 5 (by decide) (List.mem_of_getElem? (i := 2) rfl) rfl rfl dX5_addPartOfText_4 ?_
  rcases (Bool.eq_false_or_eq_true s.2.2.2).symm with hf | hf
  · skip
    refine V.if_eq_t (tgt := 61) (by rw [hf]; rfl) dX5_addPartOfText_7 (by decide) ?_
    refine V.aload_n 0 rfl dX5_addPartOfText_61 rfl ?_
    refine V.get (v := .ref (x 0)) (fun w H => List.mem_cons_of_mem _ (List.mem_append_left _ (List.mem_append_left _ (List.mem_append_left _ (List.mem_append_right _ H))))) (hc := (rfl : vwCl[5]? = some (RX5, TX5, 5))) 0 4 (by decide) (List.mem_of_getElem? (i := 1) rfl) rfl rfl dX5_addPartOfText_62 ?_
    refine V.get (v := .int (bi s.2.2.2)) (fun w H => List.mem_cons_of_mem _ (List.mem_append_left _ (List.mem_append_left _ (List.mem_append_right _ H)))) (hc := (rfl : vwCl[0]? = some (RX0, TX0, 6))) 25 5 (by decide) (List.mem_of_getElem? (i := 2) rfl) rfl rfl dX5_addPartOfText_65 ?_
    refine V.if_ne_f (tgt := 111) (by rw [hf]; rfl) dX5_addPartOfText_68 (by decide) ?_
    refine V.aload_n 0 rfl dX5_addPartOfText_71 rfl ?_
    refine V.get (v := .ref (b 0)) (fun w H => List.mem_cons_of_mem _ (List.mem_append_left _ (List.mem_append_left _ (List.mem_append_left _ (List.mem_append_right _ H))))) (hc := (rfl : vwCl[5]? = some (RX5, TX5, 5))) 0 0 (by decide) (List.mem_of_getElem? (i := 3) rfl) rfl rfl dX5_addPartOfText_72 ?_
    refine V.get (v := .int (z 6)) (fun w H => List.mem_cons_of_mem _ (List.mem_append_left _ (List.mem_append_right _ H))) (hc := (rfl : vwCl[2]? = some (RX2, TX2, 12))) 1 1 (by decide) (List.mem_of_getElem? (i := 6) rfl) rfl rfl dX5_addPartOfText_75 ?_
    refine V.bipush (v := 24) dX5_addPartOfText_78 (by decide) ?_
    refine V.icmp_ge (tgt := 111) dX5_addPartOfText_80 (by decide) (fun c80 => ?_) (fun c80 => ?_)
    · skip
      have h8 : ¬ np z < 24 := fun q => Int32.not_lt.mpr c80 (by rw [hC.2.2.1]; exact nI_lt q (by decide))
      have hb : apB s z = false := by rw [apB, if_neg (by rw [hf]; decide)]; exact decide_eq_false h8
      refine V.iconst (v := 0) dX5_addPartOfText_111 (by decide) ?_
      exact V.zret hq XM.r rfl (Nat.le_of_ble_eq_true rfl) (Nat.le_of_ble_eq_true rfl) ⟨by rw [hb] <;> rfl, by rw [apZ, if_neg (by rw [hb]; decide)] <;> rfl⟩ dX5_addPartOfText_112
    · skip
      have h8 : np z < 24 := nI_lt' (by have := hC.2.2.2; omega) (by rw [← hC.2.2.1]; exact Int32.not_le.mp c80)
      have hb : apB s z = true := by rw [apB, if_neg (by rw [hf]; decide)]; exact decide_eq_true h8
      refine V.aload_n 0 rfl dX5_addPartOfText_83 rfl ?_
      refine V.get (v := .ref (b 0)) (fun w H => List.mem_cons_of_mem _ (List.mem_append_left _ (List.mem_append_left _ (List.mem_append_left _ (List.mem_append_right _ H))))) (hc := (rfl : vwCl[5]? = some (RX5, TX5, 5))) 0 0 (by decide) (List.mem_of_getElem? (i := 3) rfl) rfl rfl dX5_addPartOfText_84 ?_
      refine V.aload_n 0 rfl dX5_addPartOfText_87 rfl ?_
      refine V.get (v := .ref (x 0)) (fun w H => List.mem_cons_of_mem _ (List.mem_append_left _ (List.mem_append_left _ (List.mem_append_left _ (List.mem_append_right _ H))))) (hc := (rfl : vwCl[5]? = some (RX5, TX5, 5))) 0 4 (by decide) (List.mem_of_getElem? (i := 1) rfl) rfl rfl dX5_addPartOfText_88 ?_
      refine V.get (v := .ref (x 2)) (fun w H => List.mem_cons_of_mem _ (List.mem_append_left _ (List.mem_append_left _ (List.mem_append_right _ H)))) (hc := (rfl : vwCl[0]? = some (RX0, TX0, 6))) 25 2 (by decide) (List.mem_of_getElem? (i := 5) rfl) rfl rfl dX5_addPartOfText_91 ?_
      refine V.iconst (v := 0) dX5_addPartOfText_94 (by decide) ?_
      refine V.iald (f := s.1) 27 0 rfl rfl (by decide) (by decide) dX5_addPartOfText_95 ?_
      refine V.aload_n 0 rfl dX5_addPartOfText_96 rfl ?_
      refine V.get (v := .ref (x 0)) (fun w H => List.mem_cons_of_mem _ (List.mem_append_left _ (List.mem_append_left _ (List.mem_append_left _ (List.mem_append_right _ H))))) (hc := (rfl : vwCl[5]? = some (RX5, TX5, 5))) 0 4 (by decide) (List.mem_of_getElem? (i := 1) rfl) rfl rfl dX5_addPartOfText_97 ?_
      refine V.get (v := .ref (x 2)) (fun w H => List.mem_cons_of_mem _ (List.mem_append_left _ (List.mem_append_left _ (List.mem_append_right _ H)))) (hc := (rfl : vwCl[0]? = some (RX0, TX0, 6))) 25 2 (by decide) (List.mem_of_getElem? (i := 5) rfl) rfl rfl dX5_addPartOfText_100 ?_
      refine V.iconst (v := 1) dX5_addPartOfText_103 (by decide) ?_
      refine V.iald (f := s.1) 27 1 rfl rfl (by decide) (by decide) dX5_addPartOfText_104 ?_
      refine V.callVPf (ws2 := (HD g o b c u h x) ++ (SW g b (apA z (s.1 0) (s.1 1))) ++ (SW g c y) ++ (UW g u ai pa tu) ++ (BWs g x tx (nI len) s) ++ (HW g h n sv)) (st2 := [.int (nI (np z))]) [.int (s.1 0), .int (s.1 1)] [] (kX2_newPlace g b z (s.1 0) (s.1 1) hC.2.2.1 h8 apI_eq) gX5_addPartOfText_X2_newPlace rfl (by show _ ∧ _ ∧ _ ∧ _ = some (2 : Nat); decide +kernel) ⟨Nat.le_of_ble_eq_true rfl, Nat.le_of_ble_eq_true rfl⟩ (hc := (rfl : vwCl[2]? = some (RX2, TX2, 12))) 0 rfl pv6_1 rfl (Nat.le_of_ble_eq_true rfl) ⟨Nat.le_of_ble_eq_true rfl, Nat.le_of_ble_eq_true rfl⟩ dX5_addPartOfText_105 SWm pv6_1.symm rfl rfl rfl ?_
      refine V.eqws (ws2 := (HD g o b c u h x) ++ (SW g b (apZ s z)) ++ (SW g c y) ++ (UW g u ai pa tu) ++ (BWs g x tx (nI len) s) ++ (HW g h n sv)) (by rw [apZ, if_pos hb, if_neg (by rw [hf]; decide)]) ?_
      refine V.pop dX5_addPartOfText_108 rfl ?_
      refine V.iconst (v := 1) dX5_addPartOfText_109 (by decide) ?_
      exact V.zret hq XM.r rfl (Nat.le_of_ble_eq_true rfl) (Nat.le_of_ble_eq_true rfl) ⟨by rw [hb] <;> rfl, rfl⟩ dX5_addPartOfText_110
  · skip
    refine V.if_eq_f (tgt := 61) (by rw [hf]; decide) dX5_addPartOfText_7 (by decide) ?_
    refine V.aload_n 0 rfl dX5_addPartOfText_10 rfl ?_
    refine V.get (v := .ref (b 0)) (fun w H => List.mem_cons_of_mem _ (List.mem_append_left _ (List.mem_append_left _ (List.mem_append_left _ (List.mem_append_right _ H))))) (hc := (rfl : vwCl[5]? = some (RX5, TX5, 5))) 0 0 (by decide) (List.mem_of_getElem? (i := 3) rfl) rfl rfl dX5_addPartOfText_11 ?_
    refine V.get (v := .int (z 5)) (fun w H => List.mem_cons_of_mem _ (List.mem_append_left _ (List.mem_append_right _ H))) (hc := (rfl : vwCl[2]? = some (RX2, TX2, 12))) 1 0 (by decide) (List.mem_of_getElem? (i := 4) rfl) rfl rfl dX5_addPartOfText_14 ?_
    refine V.bipush (v := 8) dX5_addPartOfText_17 (by decide) ?_
    refine V.icmp_ge (tgt := 61) dX5_addPartOfText_19 (by decide) (fun c19 => ?_) (fun c19 => ?_)
    · skip
      have h8 : ¬ nf z < 8 := fun q => Int32.not_lt.mpr c19 (by rw [hC.1]; exact nI_lt q (by decide))
      have hb : apB s z = false := by rw [apB, if_pos hf]; exact decide_eq_false h8
      refine V.aload_n 0 rfl dX5_addPartOfText_61 rfl ?_
      refine V.get (v := .ref (x 0)) (fun w H => List.mem_cons_of_mem _ (List.mem_append_left _ (List.mem_append_left _ (List.mem_append_left _ (List.mem_append_right _ H))))) (hc := (rfl : vwCl[5]? = some (RX5, TX5, 5))) 0 4 (by decide) (List.mem_of_getElem? (i := 1) rfl) rfl rfl dX5_addPartOfText_62 ?_
      refine V.get (v := .int (bi s.2.2.2)) (fun w H => List.mem_cons_of_mem _ (List.mem_append_left _ (List.mem_append_left _ (List.mem_append_right _ H)))) (hc := (rfl : vwCl[0]? = some (RX0, TX0, 6))) 25 5 (by decide) (List.mem_of_getElem? (i := 2) rfl) rfl rfl dX5_addPartOfText_65 ?_
      refine V.if_ne_t (tgt := 111) (by rw [hf]; decide) dX5_addPartOfText_68 (by decide) ?_
      refine V.iconst (v := 0) dX5_addPartOfText_111 (by decide) ?_
      exact V.zret hq XM.r rfl (Nat.le_of_ble_eq_true rfl) (Nat.le_of_ble_eq_true rfl) ⟨by rw [hb] <;> rfl, by rw [apZ, if_neg (by rw [hb]; decide)] <;> rfl⟩ dX5_addPartOfText_112
    · skip
      have h8 : nf z < 8 := nI_lt' (by have := hC.2.1; omega) (by rw [← hC.1]; exact Int32.not_le.mp c19)
      have hb : apB s z = true := by rw [apB, if_pos hf]; exact decide_eq_true h8
      refine V.aload_n 0 rfl dX5_addPartOfText_22 rfl ?_
      refine V.get (v := .ref (b 0)) (fun w H => List.mem_cons_of_mem _ (List.mem_append_left _ (List.mem_append_left _ (List.mem_append_left _ (List.mem_append_right _ H))))) (hc := (rfl : vwCl[5]? = some (RX5, TX5, 5))) 0 0 (by decide) (List.mem_of_getElem? (i := 3) rfl) rfl rfl dX5_addPartOfText_23 ?_
      refine V.aload_n 0 rfl dX5_addPartOfText_26 rfl ?_
      refine V.get (v := .ref (x 0)) (fun w H => List.mem_cons_of_mem _ (List.mem_append_left _ (List.mem_append_left _ (List.mem_append_left _ (List.mem_append_right _ H))))) (hc := (rfl : vwCl[5]? = some (RX5, TX5, 5))) 0 4 (by decide) (List.mem_of_getElem? (i := 1) rfl) rfl rfl dX5_addPartOfText_27 ?_
      refine V.get (v := .ref (x 2)) (fun w H => List.mem_cons_of_mem _ (List.mem_append_left _ (List.mem_append_left _ (List.mem_append_right _ H)))) (hc := (rfl : vwCl[0]? = some (RX0, TX0, 6))) 25 2 (by decide) (List.mem_of_getElem? (i := 5) rfl) rfl rfl dX5_addPartOfText_30 ?_
      refine V.iconst (v := 0) dX5_addPartOfText_33 (by decide) ?_
      refine V.iald (f := s.1) 27 0 rfl rfl (by decide) (by decide) dX5_addPartOfText_34 ?_
      refine V.aload_n 0 rfl dX5_addPartOfText_35 rfl ?_
      refine V.get (v := .ref (x 0)) (fun w H => List.mem_cons_of_mem _ (List.mem_append_left _ (List.mem_append_left _ (List.mem_append_left _ (List.mem_append_right _ H))))) (hc := (rfl : vwCl[5]? = some (RX5, TX5, 5))) 0 4 (by decide) (List.mem_of_getElem? (i := 1) rfl) rfl rfl dX5_addPartOfText_36 ?_
      refine V.get (v := .ref (x 2)) (fun w H => List.mem_cons_of_mem _ (List.mem_append_left _ (List.mem_append_left _ (List.mem_append_right _ H)))) (hc := (rfl : vwCl[0]? = some (RX0, TX0, 6))) 25 2 (by decide) (List.mem_of_getElem? (i := 5) rfl) rfl rfl dX5_addPartOfText_39 ?_
      refine V.iconst (v := 1) dX5_addPartOfText_42 (by decide) ?_
      refine V.iald (f := s.1) 27 1 rfl rfl (by decide) (by decide) dX5_addPartOfText_43 ?_
      refine V.aload_n 0 rfl dX5_addPartOfText_44 rfl ?_
      refine V.get (v := .ref (x 0)) (fun w H => List.mem_cons_of_mem _ (List.mem_append_left _ (List.mem_append_left _ (List.mem_append_left _ (List.mem_append_right _ H))))) (hc := (rfl : vwCl[5]? = some (RX5, TX5, 5))) 0 4 (by decide) (List.mem_of_getElem? (i := 1) rfl) rfl rfl dX5_addPartOfText_45 ?_
      refine V.get (v := .ref (x 2)) (fun w H => List.mem_cons_of_mem _ (List.mem_append_left _ (List.mem_append_left _ (List.mem_append_right _ H)))) (hc := (rfl : vwCl[0]? = some (RX0, TX0, 6))) 25 2 (by decide) (List.mem_of_getElem? (i := 5) rfl) rfl rfl dX5_addPartOfText_48 ?_
      refine V.iconst (v := 2) dX5_addPartOfText_51 (by decide) ?_
      refine V.iald (f := s.1) 27 2 rfl rfl (by decide) (by decide) dX5_addPartOfText_52 ?_
      refine V.iconst (v := 0) dX5_addPartOfText_53 (by decide) ?_
      refine V.iconst (v := 0) dX5_addPartOfText_54 (by decide) ?_
      refine V.callVPf (ws2 := (HD g o b c u h x) ++ (SW g b (nfI z (s.1 0) (s.1 1) (s.1 2) (0 : Int32) (0 : Int32))) ++ (SW g c y) ++ (UW g u ai pa tu) ++ (BWs g x tx (nI len) s) ++ (HW g h n sv)) (st2 := [.int (nI (nf z))]) [.int (s.1 0), .int (s.1 1), .int (s.1 2), .int 0, .int 0] [] (kX2_newFeeder g b z (s.1 0) (s.1 1) (s.1 2) (0 : Int32) (0 : Int32) hC.1 h8) gX5_addPartOfText_X2_newFeeder rfl (by show _ ∧ _ ∧ _ ∧ _ = some (5 : Nat); decide +kernel) ⟨Nat.le_of_ble_eq_true rfl, Nat.le_of_ble_eq_true rfl⟩ (hc := (rfl : vwCl[2]? = some (RX2, TX2, 12))) 0 rfl pv6_1 rfl (Nat.le_of_ble_eq_true rfl) ⟨Nat.le_of_ble_eq_true rfl, Nat.le_of_ble_eq_true rfl⟩ dX5_addPartOfText_55 SWm pv6_1.symm rfl rfl rfl ?_
      refine V.eqws (ws2 := (HD g o b c u h x) ++ (SW g b (apZ s z)) ++ (SW g c y) ++ (UW g u ai pa tu) ++ (BWs g x tx (nI len) s) ++ (HW g h n sv)) (by rw [apZ, if_pos hb, if_pos hf]) ?_
      refine V.pop dX5_addPartOfText_58 rfl ?_
      refine V.iconst (v := 1) dX5_addPartOfText_59 (by decide) ?_
      exact V.zret hq XM.r rfl (Nat.le_of_ble_eq_true rfl) (Nat.le_of_ble_eq_true rfl) ⟨by rw [hb] <;> rfl, rfl⟩ dX5_addPartOfText_60
abbrev rmX5_addPartsOfText : Room := { frames := 4, cells := 0, slots := 0, locals := 89 }
set_option maxHeartbeats 4000000 in
set_option maxRecDepth 100000 in
theorem kX5_addPartsOfText (g : GT) (o : Nat) (b c u h x : Nat → Nat) (z y ai pa tu tx : Nat → Int32) (len : Nat) (s : BS) (n : Nat) (sv : SV) (hC : CN z) (hl : len ≤ 60) (hD : s.2.2.1 ≤ 60) : UC g yX5_addPartsOfText wsX5_addPartsOfText rmX5_addPartsOfText [.ref o] (GW g o b c u h x z y ai pa tu tx len s n sv) (fun v w => v = some (.int (nI ((acA tx len z s).1))) ∧ w = GW g o b c u h x ((acA tx len z s).2.1) y ai pa tu tx len ((acA tx len z s).2.2) n sv) := by
  refine UC.ofV (cc := cX5_addPartsOfText) (maxL := 4) (ret := some .int) (lv0 := [(0, .ref o)]) (by decide) rfl (Nat.le_of_ble_eq_true rfl) rfl ?_
  generalize hQF : QFr g rmX5_addPartsOfText (fun v w => v = some (.int (nI ((acA tx len z s).1))) ∧ w = GW g o b c u h x ((acA tx len z s).2.1) y ai pa tu tx len ((acA tx len z s).2.2) n sv) = QF
  have hq : QFok g rmX5_addPartsOfText (fun v w => v = some (.int (nI ((acA tx len z s).1))) ∧ w = GW g o b c u h x ((acA tx len z s).2.1) y ai pa tu tx len ((acA tx len z s).2.2) n sv) QF := hQF ▸ QFr.q
  refine V.eqws (ws2 := (HD g o b c u h x) ++ (SW g b z) ++ (SW g c y) ++ (UW g u ai pa tu) ++ (BWs g x tx (nI len) s) ++ (HW g h n sv)) rfl ?_
  refine V.iconst (v := 0) dX5_addPartsOfText_0 (by decide) ?_
  refine V.istore_n (lv2 := [(1, .int 0), (0, .ref o)]) dX5_addPartsOfText_1 rfl (by decide) rfl ?_
  refine V.aload_n 1 rfl dX5_addPartsOfText_2 rfl ?_
  refine V.get (v := .ref (x 0)) (fun w H => List.mem_cons_of_mem _ (List.mem_append_left _ (List.mem_append_left _ (List.mem_append_left _ (List.mem_append_right _ H))))) (hc := (rfl : vwCl[5]? = some (RX5, TX5, 5))) 0 4 (by decide) (List.mem_of_getElem? (i := 1) rfl) rfl rfl dX5_addPartsOfText_3 ?_
  refine V.callVPf (ws2 := (HD g o b c u h x) ++ (SW g b z) ++ (SW g c y) ++ (UW g u ai pa tu) ++ (BW g x tx (nI len) s.1 (-1) (nI s.2.2.1) (bi s.2.2.2)) ++ (HW g h n sv)) (st2 := []) [] [] (kX0_startReading g x tx (nI len) s.1 (en s.2.1) (nI s.2.2.1) (bi s.2.2.2) ) gX5_addPartsOfText_X0_startReading rfl (by show _ ∧ _ ∧ _ ∧ _ = some (0 : Nat); decide +kernel) ⟨Nat.le_of_ble_eq_true rfl, Nat.le_of_ble_eq_true rfl⟩ (hc := (rfl : vwCl[0]? = some (RX0, TX0, 6))) 0 rfl pv6_4 rfl (Nat.le_of_ble_eq_true rfl) ⟨Nat.le_of_ble_eq_true rfl, Nat.le_of_ble_eq_true rfl⟩ dX5_addPartsOfText_6 BWm pv6_4.symm rfl rfl rfl ?_
  refine V.eqws (ws2 := (HD g o b c u h x) ++ (SW g b z) ++ (SW g c y) ++ (UW g u ai pa tu) ++ (BWs g x tx (nI len) (s.1, none, s.2.2.1, s.2.2.2)) ++ (HW g h n sv)) rfl ?_
  refine V.iconst (v := 0) dX5_addPartsOfText_9 (by decide) ?_
  refine V.istore_n (lv2 := [(2, .int 0), (1, .int 0), (0, .ref o)]) dX5_addPartsOfText_10 rfl (by decide) rfl ?_
  have L11 : ∀ (kL : Nat) (i : Nat) (q : AS), i + kL = len + 1 → (BV i q.2.2) → (CN q.2.1) → (acL tx len kL i q = acA tx len z s) → V g rmX5_addPartsOfText RX5 cX5_addPartsOfText wsX5_addPartsOfText 4 QF (XM (some .int) "addPartsOfText") 0 0 ((HD g o b c u h x) ++ (SW g b q.2.1) ++ (SW g c y) ++ (UW g u ai pa tu) ++ (BWs g x tx (nI len) q.2.2) ++ (HW g h n sv)) 11 [(2, .int (nI i)), (1, .int (nI q.1)), (0, .ref o)] [] := by
    intro kL
    induction kL with
    | zero =>
      intro i q hrel hv hCq hfu
      rw [acL_0] at hfu
      refine V.iload_n 0 rfl dX5_addPartsOfText_11 rfl ?_
      refine V.aload_n 2 rfl dX5_addPartsOfText_12 rfl ?_
      refine V.get (v := .ref (x 0)) (fun w H => List.mem_cons_of_mem _ (List.mem_append_left _ (List.mem_append_left _ (List.mem_append_left _ (List.mem_append_right _ H))))) (hc := (rfl : vwCl[5]? = some (RX5, TX5, 5))) 0 4 (by decide) (List.mem_of_getElem? (i := 1) rfl) rfl rfl dX5_addPartsOfText_13 ?_
      refine V.get (v := .int (nI len)) (fun w H => List.mem_cons_of_mem _ (List.mem_append_left _ (List.mem_append_left _ (List.mem_append_right _ H)))) (hc := (rfl : vwCl[0]? = some (RX0, TX0, 6))) 25 1 (by decide) (List.mem_of_getElem? (i := 2) rfl) rfl rfl dX5_addPartsOfText_16 ?_
      refine V.icmp_gt_t (tgt := 107) (by exact nI_lt (a := len) (b := i) (by omega) (by omega)) dX5_addPartsOfText_19 (by decide) ?_
      refine V.iload_n 1 rfl dX5_addPartsOfText_107 rfl ?_
      exact V.iret hq XM.r (Nat.le_of_ble_eq_true rfl) (Nat.le_of_ble_eq_true rfl) ⟨by rw [← hfu] <;> rfl, by rw [← hfu] <;> rfl⟩ dX5_addPartsOfText_108
    | succ kL ih =>
      intro i q hrel hv hCq hfu
      rw [acL_s] at hfu
      refine V.iload_n 0 rfl dX5_addPartsOfText_11 rfl ?_
      refine V.aload_n 2 rfl dX5_addPartsOfText_12 rfl ?_
      refine V.get (v := .ref (x 0)) (fun w H => List.mem_cons_of_mem _ (List.mem_append_left _ (List.mem_append_left _ (List.mem_append_left _ (List.mem_append_right _ H))))) (hc := (rfl : vwCl[5]? = some (RX5, TX5, 5))) 0 4 (by decide) (List.mem_of_getElem? (i := 1) rfl) rfl rfl dX5_addPartsOfText_13 ?_
      refine V.get (v := .int (nI len)) (fun w H => List.mem_cons_of_mem _ (List.mem_append_left _ (List.mem_append_left _ (List.mem_append_right _ H)))) (hc := (rfl : vwCl[0]? = some (RX0, TX0, 6))) 25 1 (by decide) (List.mem_of_getElem? (i := 2) rfl) rfl rfl dX5_addPartsOfText_16 ?_
      refine V.icmp_gt_f (tgt := 107) (by exact nI_nlt (a := len) (b := i) (by omega) (by omega)) dX5_addPartsOfText_19 (by decide) ?_
      refine V.iload_n 0 rfl dX5_addPartsOfText_22 rfl ?_
      refine V.aload_n 2 rfl dX5_addPartsOfText_23 rfl ?_
      refine V.get (v := .ref (x 0)) (fun w H => List.mem_cons_of_mem _ (List.mem_append_left _ (List.mem_append_left _ (List.mem_append_left _ (List.mem_append_right _ H))))) (hc := (rfl : vwCl[5]? = some (RX5, TX5, 5))) 0 4 (by decide) (List.mem_of_getElem? (i := 1) rfl) rfl rfl dX5_addPartsOfText_24 ?_
      refine V.get (v := .int (nI len)) (fun w H => List.mem_cons_of_mem _ (List.mem_append_left _ (List.mem_append_left _ (List.mem_append_right _ H)))) (hc := (rfl : vwCl[0]? = some (RX0, TX0, 6))) 25 1 (by decide) (List.mem_of_getElem? (i := 2) rfl) rfl rfl dX5_addPartsOfText_27 ?_
      refine V.icmp_eq (tgt := 47) dX5_addPartsOfText_30 (by decide) (fun c30 => ?_) (fun c30 => ?_)
      · skip
        have hil : i = len := nI_ij (by omega) (by omega) c30
        have hpe : pe tx len i = true := by rw [pe, decide_eq_true hil]; rfl
        refine V.iconst (v := 1) dX5_addPartsOfText_47 (by decide) ?_
        refine V.goto (tgt := 52) dX5_addPartsOfText_48 (by decide) ?_
        refine V.istore_n (lv2 := [(3, .int 1), (2, .int (nI i)), (1, .int (nI q.1)), (0, .ref o)]) dX5_addPartsOfText_52 rfl (by decide) rfl ?_
        refine V.iload_n 0 rfl dX5_addPartsOfText_53 rfl ?_
        rw [hpe] at hfu
        have hfu := hfu
        refine V.if_eq_f (tgt := 66) (by decide) dX5_addPartsOfText_54 (by decide) ?_
        refine V.aload_n 3 rfl dX5_addPartsOfText_57 rfl ?_
        refine V.callVP (F := []) [] [] (kX5_addPartOfText g o b c u h x q.2.1 y ai pa tu tx len q.2.2 n sv  hCq) gX5_addPartsOfText_X5_addPartOfText rfl (by show _ ∧ _ ∧ _ ∧ _ = some (0 : Nat); decide +kernel) ⟨(Nat.le_of_ble_eq_true rfl), (Nat.le_of_ble_eq_true rfl)⟩ (hc := (rfl : vwCl[5]? = some (RX5, TX5, 5))) 0 rfl (by rw [List.append_nil]; exact List.Perm.refl _) rfl (Nat.le_of_ble_eq_true rfl) ⟨(Nat.le_of_ble_eq_true rfl), (Nat.le_of_ble_eq_true rfl)⟩ dX5_addPartsOfText_58 (fun r w hq2 => by rw [hq2.2]; exact FST.of GW_fe) (fun r w hq2 => ?_)
        obtain ⟨rfl, rfl⟩ := hq2
        refine V.eqws (ws2 := (HD g o b c u h x) ++ (SW g b (apZ q.2.2 q.2.1)) ++ (SW g c y) ++ (UW g u ai pa tu) ++ (BWs g x tx (nI len) q.2.2) ++ (HW g h n sv)) (List.append_nil _) ?_
        refine V.eqst (st2 := [.int (bi (apB q.2.2 q.2.1))]) rfl ?_
        rcases (Bool.eq_false_or_eq_true (apB q.2.2 q.2.1)).symm with hb | hb
        · skip
          have hfu : q = acA tx len z s := by rw [hb] at hfu; exact hfu
          refine V.if_ne_f (tgt := 66) (by rw [hb]; rfl) dX5_addPartsOfText_61 (by decide) ?_
          refine V.iload_n 2 rfl dX5_addPartsOfText_64 rfl ?_
          exact V.iret hq XM.r (Nat.le_of_ble_eq_true rfl) (Nat.le_of_ble_eq_true rfl) ⟨by rw [← hfu] <;> rfl, by rw [← hfu, apZ, if_neg (by rw [hb]; decide)] <;> rfl⟩ dX5_addPartsOfText_65
        · skip
          have hfu : acL tx len kL (i + 1) (q.1 + 1, apZ q.2.2 q.2.1, nxS tx len i q.2.2) = acA tx len z s := by rw [hb] at hfu; exact hfu
          refine V.if_ne_t (tgt := 66) (by rw [hb]; decide) dX5_addPartsOfText_61 (by decide) ?_
          refine V.iload_n 0 rfl dX5_addPartsOfText_66 rfl ?_
          refine V.if_eq_f (tgt := 73) (by decide) dX5_addPartsOfText_67 (by decide) ?_
          refine V.iinc (v := nI (q.1 + 1)) (lv2 := [(1, .int (nI (q.1 + 1))), (3, .int 1), (2, .int (nI i)), (0, .ref o)]) 2 rfl dX5_addPartsOfText_70 (nI_add q.1 1) (by decide) rfl ?_
          refine V.iload_n 2 rfl dX5_addPartsOfText_73 rfl ?_
          refine V.aload_n 3 rfl dX5_addPartsOfText_74 rfl ?_
          refine V.get (v := .ref (x 0)) (fun w H => List.mem_cons_of_mem _ (List.mem_append_left _ (List.mem_append_left _ (List.mem_append_left _ (List.mem_append_right _ H))))) (hc := (rfl : vwCl[5]? = some (RX5, TX5, 5))) 0 4 (by decide) (List.mem_of_getElem? (i := 1) rfl) rfl rfl dX5_addPartsOfText_75 ?_
          refine V.get (v := .int (nI len)) (fun w H => List.mem_cons_of_mem _ (List.mem_append_left _ (List.mem_append_left _ (List.mem_append_right _ H)))) (hc := (rfl : vwCl[0]? = some (RX0, TX0, 6))) 25 1 (by decide) (List.mem_of_getElem? (i := 2) rfl) rfl rfl dX5_addPartsOfText_78 ?_
          refine V.icmp_ge (tgt := 101) dX5_addPartsOfText_81 (by decide) (fun c81 => ?_) (fun c81 => ?_)
          · skip
            have hlt : ¬ i < len := fun q => nI_ge (a := i) (b := len) q (by omega) c81
            refine V.eqws (ws2 := (HD g o b c u h x) ++ (SW g b (apZ q.2.2 q.2.1)) ++ (SW g c y) ++ (UW g u ai pa tu) ++ (BWs g x tx (nI len) (nxS tx len i q.2.2)) ++ (HW g h n sv)) (by rw [nxS, if_neg hlt] <;> rfl) ?_
            refine V.iinc (v := nI (i + 1)) (lv2 := [(2, .int (nI (i + 1))), (1, .int (nI (q.1 + 1))), (3, .int 1), (0, .ref o)]) 2 rfl dX5_addPartsOfText_101 (nI_add i 1) (by decide) rfl ?_
            refine V.goto (tgt := 11) dX5_addPartsOfText_104 (by decide) ?_
            refine V.eqlv (lv2 := [(2, .int (nI (i + 1))), (1, .int (nI (q.1 + 1))), (0, .ref o)]) [0, 1, 3] rfl ?_
            exact ih (i + 1) (q.1 + 1, apZ q.2.2 q.2.1, nxS tx len i q.2.2) (by omega) (hv.nxS hl) hCq.apZ hfu
          · skip
            have hlt : i < len := Nat.not_le.mp (fun q => c81 (nI_le q (by omega)))
            refine V.aload_n 3 rfl dX5_addPartsOfText_84 rfl ?_
            refine V.get (v := .ref (x 0)) (fun w H => List.mem_cons_of_mem _ (List.mem_append_left _ (List.mem_append_left _ (List.mem_append_left _ (List.mem_append_right _ H))))) (hc := (rfl : vwCl[5]? = some (RX5, TX5, 5))) 0 4 (by decide) (List.mem_of_getElem? (i := 1) rfl) rfl rfl dX5_addPartsOfText_85 ?_
            refine V.aload_n 3 rfl dX5_addPartsOfText_88 rfl ?_
            refine V.get (v := .ref (x 0)) (fun w H => List.mem_cons_of_mem _ (List.mem_append_left _ (List.mem_append_left _ (List.mem_append_left _ (List.mem_append_right _ H))))) (hc := (rfl : vwCl[5]? = some (RX5, TX5, 5))) 0 4 (by decide) (List.mem_of_getElem? (i := 1) rfl) rfl rfl dX5_addPartsOfText_89 ?_
            refine V.get (v := .ref (x 1)) (fun w H => List.mem_cons_of_mem _ (List.mem_append_left _ (List.mem_append_left _ (List.mem_append_right _ H)))) (hc := (rfl : vwCl[0]? = some (RX0, TX0, 6))) 25 0 (by decide) (List.mem_of_getElem? (i := 3) rfl) rfl rfl dX5_addPartsOfText_92 ?_
            refine V.iload_n 2 rfl dX5_addPartsOfText_95 rfl ?_
            refine V.iald (f := tx) 26 i rfl rfl (by omega) (by decide) dX5_addPartsOfText_96 ?_
            refine V.callVPf (ws2 := (HD g o b c u h x) ++ (SW g b (apZ q.2.2 q.2.1)) ++ (SW g c y) ++ (UW g u ai pa tu) ++ (BWs g x tx (nI len) (baS (tx i) q.2.2)) ++ (HW g h n sv)) (st2 := [.int (bi (baB (tx i) q.2.2))]) [.int (tx i)] [] (kX0_accept g x tx (nI len) q.2.2 (tx i) (fun j hj => (hv.1 j hj).1) hv.2) gX5_addPartsOfText_X0_accept rfl (by show _ ∧ _ ∧ _ ∧ _ = some (1 : Nat); decide +kernel) ⟨Nat.le_of_ble_eq_true rfl, Nat.le_of_ble_eq_true rfl⟩ (hc := (rfl : vwCl[0]? = some (RX0, TX0, 6))) 0 rfl pv6_4 rfl (Nat.le_of_ble_eq_true rfl) ⟨Nat.le_of_ble_eq_true rfl, Nat.le_of_ble_eq_true rfl⟩ dX5_addPartsOfText_97 BWm pv6_4.symm rfl rfl rfl ?_
            refine V.pop dX5_addPartsOfText_100 rfl ?_
            refine V.eqws (ws2 := (HD g o b c u h x) ++ (SW g b (apZ q.2.2 q.2.1)) ++ (SW g c y) ++ (UW g u ai pa tu) ++ (BWs g x tx (nI len) (nxS tx len i q.2.2)) ++ (HW g h n sv)) (by rw [nxS, if_pos hlt] <;> rfl) ?_
            refine V.iinc (v := nI (i + 1)) (lv2 := [(2, .int (nI (i + 1))), (1, .int (nI (q.1 + 1))), (3, .int 1), (0, .ref o)]) 2 rfl dX5_addPartsOfText_101 (nI_add i 1) (by decide) rfl ?_
            refine V.goto (tgt := 11) dX5_addPartsOfText_104 (by decide) ?_
            refine V.eqlv (lv2 := [(2, .int (nI (i + 1))), (1, .int (nI (q.1 + 1))), (0, .ref o)]) [0, 1, 3] rfl ?_
            exact ih (i + 1) (q.1 + 1, apZ q.2.2 q.2.1, nxS tx len i q.2.2) (by omega) (hv.nxS hl) hCq.apZ hfu
      · skip
        have hil : ¬ i = len := fun q => c30 (by rw [q])
        refine V.aload_n 2 rfl dX5_addPartsOfText_33 rfl ?_
        refine V.get (v := .ref (x 0)) (fun w H => List.mem_cons_of_mem _ (List.mem_append_left _ (List.mem_append_left _ (List.mem_append_left _ (List.mem_append_right _ H))))) (hc := (rfl : vwCl[5]? = some (RX5, TX5, 5))) 0 4 (by decide) (List.mem_of_getElem? (i := 1) rfl) rfl rfl dX5_addPartsOfText_34 ?_
        refine V.get (v := .ref (x 1)) (fun w H => List.mem_cons_of_mem _ (List.mem_append_left _ (List.mem_append_left _ (List.mem_append_right _ H)))) (hc := (rfl : vwCl[0]? = some (RX0, TX0, 6))) 25 0 (by decide) (List.mem_of_getElem? (i := 3) rfl) rfl rfl dX5_addPartsOfText_37 ?_
        refine V.iload_n 0 rfl dX5_addPartsOfText_40 rfl ?_
        refine V.iald (f := tx) 26 i rfl rfl (by omega) (by decide) dX5_addPartsOfText_41 ?_
        refine V.bipush (v := 59) dX5_addPartsOfText_42 (by decide) ?_
        refine V.icmp_ne (tgt := 51) dX5_addPartsOfText_44 (by decide) (fun c44 => ?_) (fun c44 => ?_)
        · skip
          have hpe : pe tx len i = false := by rw [pe, decide_eq_false hil, decide_eq_false c44]; rfl
          refine V.iconst (v := 0) dX5_addPartsOfText_51 (by decide) ?_
          refine V.istore_n (lv2 := [(3, .int 0), (2, .int (nI i)), (1, .int (nI q.1)), (0, .ref o)]) dX5_addPartsOfText_52 rfl (by decide) rfl ?_
          refine V.iload_n 0 rfl dX5_addPartsOfText_53 rfl ?_
          rw [hpe] at hfu
          have hfu := hfu
          have hfu : acL tx len kL (i + 1) (q.1, q.2.1, nxS tx len i q.2.2) = acA tx len z s := hfu
          refine V.if_eq_t (tgt := 66) (by decide) dX5_addPartsOfText_54 (by decide) ?_
          refine V.iload_n 0 rfl dX5_addPartsOfText_66 rfl ?_
          refine V.if_eq_t (tgt := 73) (by decide) dX5_addPartsOfText_67 (by decide) ?_
          refine V.iload_n 1 rfl dX5_addPartsOfText_73 rfl ?_
          refine V.aload_n 3 rfl dX5_addPartsOfText_74 rfl ?_
          refine V.get (v := .ref (x 0)) (fun w H => List.mem_cons_of_mem _ (List.mem_append_left _ (List.mem_append_left _ (List.mem_append_left _ (List.mem_append_right _ H))))) (hc := (rfl : vwCl[5]? = some (RX5, TX5, 5))) 0 4 (by decide) (List.mem_of_getElem? (i := 1) rfl) rfl rfl dX5_addPartsOfText_75 ?_
          refine V.get (v := .int (nI len)) (fun w H => List.mem_cons_of_mem _ (List.mem_append_left _ (List.mem_append_left _ (List.mem_append_right _ H)))) (hc := (rfl : vwCl[0]? = some (RX0, TX0, 6))) 25 1 (by decide) (List.mem_of_getElem? (i := 2) rfl) rfl rfl dX5_addPartsOfText_78 ?_
          refine V.icmp_ge (tgt := 101) dX5_addPartsOfText_81 (by decide) (fun c81 => ?_) (fun c81 => ?_)
          · skip
            have hlt : ¬ i < len := fun q => nI_ge (a := i) (b := len) q (by omega) c81
            refine V.eqws (ws2 := (HD g o b c u h x) ++ (SW g b q.2.1) ++ (SW g c y) ++ (UW g u ai pa tu) ++ (BWs g x tx (nI len) (nxS tx len i q.2.2)) ++ (HW g h n sv)) (by rw [nxS, if_neg hlt] <;> rfl) ?_
            refine V.iinc (v := nI (i + 1)) (lv2 := [(2, .int (nI (i + 1))), (3, .int 0), (1, .int (nI q.1)), (0, .ref o)]) 1 rfl dX5_addPartsOfText_101 (nI_add i 1) (by decide) rfl ?_
            refine V.goto (tgt := 11) dX5_addPartsOfText_104 (by decide) ?_
            refine V.eqlv (lv2 := [(2, .int (nI (i + 1))), (1, .int (nI q.1)), (0, .ref o)]) [0, 2, 3] rfl ?_
            exact ih (i + 1) (q.1, q.2.1, nxS tx len i q.2.2) (by omega) (hv.nxS hl) hCq hfu
          · skip
            have hlt : i < len := Nat.not_le.mp (fun q => c81 (nI_le q (by omega)))
            refine V.aload_n 3 rfl dX5_addPartsOfText_84 rfl ?_
            refine V.get (v := .ref (x 0)) (fun w H => List.mem_cons_of_mem _ (List.mem_append_left _ (List.mem_append_left _ (List.mem_append_left _ (List.mem_append_right _ H))))) (hc := (rfl : vwCl[5]? = some (RX5, TX5, 5))) 0 4 (by decide) (List.mem_of_getElem? (i := 1) rfl) rfl rfl dX5_addPartsOfText_85 ?_
            refine V.aload_n 3 rfl dX5_addPartsOfText_88 rfl ?_
            refine V.get (v := .ref (x 0)) (fun w H => List.mem_cons_of_mem _ (List.mem_append_left _ (List.mem_append_left _ (List.mem_append_left _ (List.mem_append_right _ H))))) (hc := (rfl : vwCl[5]? = some (RX5, TX5, 5))) 0 4 (by decide) (List.mem_of_getElem? (i := 1) rfl) rfl rfl dX5_addPartsOfText_89 ?_
            refine V.get (v := .ref (x 1)) (fun w H => List.mem_cons_of_mem _ (List.mem_append_left _ (List.mem_append_left _ (List.mem_append_right _ H)))) (hc := (rfl : vwCl[0]? = some (RX0, TX0, 6))) 25 0 (by decide) (List.mem_of_getElem? (i := 3) rfl) rfl rfl dX5_addPartsOfText_92 ?_
            refine V.iload_n 1 rfl dX5_addPartsOfText_95 rfl ?_
            refine V.iald (f := tx) 26 i rfl rfl (by omega) (by decide) dX5_addPartsOfText_96 ?_
            refine V.callVPf (ws2 := (HD g o b c u h x) ++ (SW g b q.2.1) ++ (SW g c y) ++ (UW g u ai pa tu) ++ (BWs g x tx (nI len) (baS (tx i) q.2.2)) ++ (HW g h n sv)) (st2 := [.int (bi (baB (tx i) q.2.2))]) [.int (tx i)] [] (kX0_accept g x tx (nI len) q.2.2 (tx i) (fun j hj => (hv.1 j hj).1) hv.2) gX5_addPartsOfText_X0_accept rfl (by show _ ∧ _ ∧ _ ∧ _ = some (1 : Nat); decide +kernel) ⟨Nat.le_of_ble_eq_true rfl, Nat.le_of_ble_eq_true rfl⟩ (hc := (rfl : vwCl[0]? = some (RX0, TX0, 6))) 0 rfl pv6_4 rfl (Nat.le_of_ble_eq_true rfl) ⟨Nat.le_of_ble_eq_true rfl, Nat.le_of_ble_eq_true rfl⟩ dX5_addPartsOfText_97 BWm pv6_4.symm rfl rfl rfl ?_
            refine V.pop dX5_addPartsOfText_100 rfl ?_
            refine V.eqws (ws2 := (HD g o b c u h x) ++ (SW g b q.2.1) ++ (SW g c y) ++ (UW g u ai pa tu) ++ (BWs g x tx (nI len) (nxS tx len i q.2.2)) ++ (HW g h n sv)) (by rw [nxS, if_pos hlt] <;> rfl) ?_
            refine V.iinc (v := nI (i + 1)) (lv2 := [(2, .int (nI (i + 1))), (3, .int 0), (1, .int (nI q.1)), (0, .ref o)]) 1 rfl dX5_addPartsOfText_101 (nI_add i 1) (by decide) rfl ?_
            refine V.goto (tgt := 11) dX5_addPartsOfText_104 (by decide) ?_
            refine V.eqlv (lv2 := [(2, .int (nI (i + 1))), (1, .int (nI q.1)), (0, .ref o)]) [0, 2, 3] rfl ?_
            exact ih (i + 1) (q.1, q.2.1, nxS tx len i q.2.2) (by omega) (hv.nxS hl) hCq hfu
        · skip
          have hpe : pe tx len i = true := by rw [pe, decide_eq_true c44]; exact Bool.or_true _
          refine V.iconst (v := 1) dX5_addPartsOfText_47 (by decide) ?_
          refine V.goto (tgt := 52) dX5_addPartsOfText_48 (by decide) ?_
          refine V.istore_n (lv2 := [(3, .int 1), (2, .int (nI i)), (1, .int (nI q.1)), (0, .ref o)]) dX5_addPartsOfText_52 rfl (by decide) rfl ?_
          refine V.iload_n 0 rfl dX5_addPartsOfText_53 rfl ?_
          rw [hpe] at hfu
          have hfu := hfu
          refine V.if_eq_f (tgt := 66) (by decide) dX5_addPartsOfText_54 (by decide) ?_
          refine V.aload_n 3 rfl dX5_addPartsOfText_57 rfl ?_
          refine V.callVP (F := []) [] [] (kX5_addPartOfText g o b c u h x q.2.1 y ai pa tu tx len q.2.2 n sv  hCq) gX5_addPartsOfText_X5_addPartOfText rfl (by show _ ∧ _ ∧ _ ∧ _ = some (0 : Nat); decide +kernel) ⟨(Nat.le_of_ble_eq_true rfl), (Nat.le_of_ble_eq_true rfl)⟩ (hc := (rfl : vwCl[5]? = some (RX5, TX5, 5))) 0 rfl (by rw [List.append_nil]; exact List.Perm.refl _) rfl (Nat.le_of_ble_eq_true rfl) ⟨(Nat.le_of_ble_eq_true rfl), (Nat.le_of_ble_eq_true rfl)⟩ dX5_addPartsOfText_58 (fun r w hq2 => by rw [hq2.2]; exact FST.of GW_fe) (fun r w hq2 => ?_)
          obtain ⟨rfl, rfl⟩ := hq2
          refine V.eqws (ws2 := (HD g o b c u h x) ++ (SW g b (apZ q.2.2 q.2.1)) ++ (SW g c y) ++ (UW g u ai pa tu) ++ (BWs g x tx (nI len) q.2.2) ++ (HW g h n sv)) (List.append_nil _) ?_
          refine V.eqst (st2 := [.int (bi (apB q.2.2 q.2.1))]) rfl ?_
          rcases (Bool.eq_false_or_eq_true (apB q.2.2 q.2.1)).symm with hb | hb
          · skip
            have hfu : q = acA tx len z s := by rw [hb] at hfu; exact hfu
            refine V.if_ne_f (tgt := 66) (by rw [hb]; rfl) dX5_addPartsOfText_61 (by decide) ?_
            refine V.iload_n 2 rfl dX5_addPartsOfText_64 rfl ?_
            exact V.iret hq XM.r (Nat.le_of_ble_eq_true rfl) (Nat.le_of_ble_eq_true rfl) ⟨by rw [← hfu] <;> rfl, by rw [← hfu, apZ, if_neg (by rw [hb]; decide)] <;> rfl⟩ dX5_addPartsOfText_65
          · skip
            have hfu : acL tx len kL (i + 1) (q.1 + 1, apZ q.2.2 q.2.1, nxS tx len i q.2.2) = acA tx len z s := by rw [hb] at hfu; exact hfu
            refine V.if_ne_t (tgt := 66) (by rw [hb]; decide) dX5_addPartsOfText_61 (by decide) ?_
            refine V.iload_n 0 rfl dX5_addPartsOfText_66 rfl ?_
            refine V.if_eq_f (tgt := 73) (by decide) dX5_addPartsOfText_67 (by decide) ?_
            refine V.iinc (v := nI (q.1 + 1)) (lv2 := [(1, .int (nI (q.1 + 1))), (3, .int 1), (2, .int (nI i)), (0, .ref o)]) 2 rfl dX5_addPartsOfText_70 (nI_add q.1 1) (by decide) rfl ?_
            refine V.iload_n 2 rfl dX5_addPartsOfText_73 rfl ?_
            refine V.aload_n 3 rfl dX5_addPartsOfText_74 rfl ?_
            refine V.get (v := .ref (x 0)) (fun w H => List.mem_cons_of_mem _ (List.mem_append_left _ (List.mem_append_left _ (List.mem_append_left _ (List.mem_append_right _ H))))) (hc := (rfl : vwCl[5]? = some (RX5, TX5, 5))) 0 4 (by decide) (List.mem_of_getElem? (i := 1) rfl) rfl rfl dX5_addPartsOfText_75 ?_
            refine V.get (v := .int (nI len)) (fun w H => List.mem_cons_of_mem _ (List.mem_append_left _ (List.mem_append_left _ (List.mem_append_right _ H)))) (hc := (rfl : vwCl[0]? = some (RX0, TX0, 6))) 25 1 (by decide) (List.mem_of_getElem? (i := 2) rfl) rfl rfl dX5_addPartsOfText_78 ?_
            refine V.icmp_ge (tgt := 101) dX5_addPartsOfText_81 (by decide) (fun c81 => ?_) (fun c81 => ?_)
            · skip
              have hlt : ¬ i < len := fun q => nI_ge (a := i) (b := len) q (by omega) c81
              refine V.eqws (ws2 := (HD g o b c u h x) ++ (SW g b (apZ q.2.2 q.2.1)) ++ (SW g c y) ++ (UW g u ai pa tu) ++ (BWs g x tx (nI len) (nxS tx len i q.2.2)) ++ (HW g h n sv)) (by rw [nxS, if_neg hlt] <;> rfl) ?_
              refine V.iinc (v := nI (i + 1)) (lv2 := [(2, .int (nI (i + 1))), (1, .int (nI (q.1 + 1))), (3, .int 1), (0, .ref o)]) 2 rfl dX5_addPartsOfText_101 (nI_add i 1) (by decide) rfl ?_
              refine V.goto (tgt := 11) dX5_addPartsOfText_104 (by decide) ?_
              refine V.eqlv (lv2 := [(2, .int (nI (i + 1))), (1, .int (nI (q.1 + 1))), (0, .ref o)]) [0, 1, 3] rfl ?_
              exact ih (i + 1) (q.1 + 1, apZ q.2.2 q.2.1, nxS tx len i q.2.2) (by omega) (hv.nxS hl) hCq.apZ hfu
            · skip
              have hlt : i < len := Nat.not_le.mp (fun q => c81 (nI_le q (by omega)))
              refine V.aload_n 3 rfl dX5_addPartsOfText_84 rfl ?_
              refine V.get (v := .ref (x 0)) (fun w H => List.mem_cons_of_mem _ (List.mem_append_left _ (List.mem_append_left _ (List.mem_append_left _ (List.mem_append_right _ H))))) (hc := (rfl : vwCl[5]? = some (RX5, TX5, 5))) 0 4 (by decide) (List.mem_of_getElem? (i := 1) rfl) rfl rfl dX5_addPartsOfText_85 ?_
              refine V.aload_n 3 rfl dX5_addPartsOfText_88 rfl ?_
              refine V.get (v := .ref (x 0)) (fun w H => List.mem_cons_of_mem _ (List.mem_append_left _ (List.mem_append_left _ (List.mem_append_left _ (List.mem_append_right _ H))))) (hc := (rfl : vwCl[5]? = some (RX5, TX5, 5))) 0 4 (by decide) (List.mem_of_getElem? (i := 1) rfl) rfl rfl dX5_addPartsOfText_89 ?_
              refine V.get (v := .ref (x 1)) (fun w H => List.mem_cons_of_mem _ (List.mem_append_left _ (List.mem_append_left _ (List.mem_append_right _ H)))) (hc := (rfl : vwCl[0]? = some (RX0, TX0, 6))) 25 0 (by decide) (List.mem_of_getElem? (i := 3) rfl) rfl rfl dX5_addPartsOfText_92 ?_
              refine V.iload_n 2 rfl dX5_addPartsOfText_95 rfl ?_
              refine V.iald (f := tx) 26 i rfl rfl (by omega) (by decide) dX5_addPartsOfText_96 ?_
              refine V.callVPf (ws2 := (HD g o b c u h x) ++ (SW g b (apZ q.2.2 q.2.1)) ++ (SW g c y) ++ (UW g u ai pa tu) ++ (BWs g x tx (nI len) (baS (tx i) q.2.2)) ++ (HW g h n sv)) (st2 := [.int (bi (baB (tx i) q.2.2))]) [.int (tx i)] [] (kX0_accept g x tx (nI len) q.2.2 (tx i) (fun j hj => (hv.1 j hj).1) hv.2) gX5_addPartsOfText_X0_accept rfl (by show _ ∧ _ ∧ _ ∧ _ = some (1 : Nat); decide +kernel) ⟨Nat.le_of_ble_eq_true rfl, Nat.le_of_ble_eq_true rfl⟩ (hc := (rfl : vwCl[0]? = some (RX0, TX0, 6))) 0 rfl pv6_4 rfl (Nat.le_of_ble_eq_true rfl) ⟨Nat.le_of_ble_eq_true rfl, Nat.le_of_ble_eq_true rfl⟩ dX5_addPartsOfText_97 BWm pv6_4.symm rfl rfl rfl ?_
              refine V.pop dX5_addPartsOfText_100 rfl ?_
              refine V.eqws (ws2 := (HD g o b c u h x) ++ (SW g b (apZ q.2.2 q.2.1)) ++ (SW g c y) ++ (UW g u ai pa tu) ++ (BWs g x tx (nI len) (nxS tx len i q.2.2)) ++ (HW g h n sv)) (by rw [nxS, if_pos hlt] <;> rfl) ?_
              refine V.iinc (v := nI (i + 1)) (lv2 := [(2, .int (nI (i + 1))), (1, .int (nI (q.1 + 1))), (3, .int 1), (0, .ref o)]) 2 rfl dX5_addPartsOfText_101 (nI_add i 1) (by decide) rfl ?_
              refine V.goto (tgt := 11) dX5_addPartsOfText_104 (by decide) ?_
              refine V.eqlv (lv2 := [(2, .int (nI (i + 1))), (1, .int (nI (q.1 + 1))), (0, .ref o)]) [0, 1, 3] rfl ?_
              exact ih (i + 1) (q.1 + 1, apZ q.2.2 q.2.1, nxS tx len i q.2.2) (by omega) (hv.nxS hl) hCq.apZ hfu
  refine V.eqlv (lv2 := [(2, .int 0), (1, .int 0), (0, .ref o)]) [0, 1, 2] rfl ?_
  exact L11 (len + 1) 0 (0, z, (s.1, none, s.2.2.1, s.2.2.2)) (by omega) ⟨fun j hj => (by cases hj), hD⟩ hC rfl
abbrev rmX5_read : Room := { frames := 6, cells := 10, slots := 261, locals := 124 }
set_option maxHeartbeats 4000000 in
set_option maxRecDepth 100000 in
theorem kX5_read (g : GT) (hst : g.1.stackTraces = false) (o : Nat) (b c u h x : Nat → Nat) (z y ai pa tu tx : Nat → Int32) (len : Nat) (s : BS) (n : Nat) (sv : SV) (hC : CN z) (hl : len ≤ 60) (hD : s.2.2.1 ≤ 60) (hn6 : n ≤ 6) (hnl : n ≤ sv.length) (hl6 : sv.length ≤ 6) : UX g yX5_read wsX5_read rmX5_read [.ref o] (GW g o b c u h x z y ai pa tu tx len s n sv) (fun v w => ibB len (beA tx len s) = true ∧ v = some (.int (nI ((acA tx len z (beA tx len s).2).1))) ∧ ∃ sv2 : SV, svQ (svM n) (svR n sv) sv2 z ∧ GQ (GW g o b c u h x z y ai pa tu tx len s n sv) w (GW g o b c u h x ((acA tx len z (beA tx len s).2).2.1) y ai pa tu tx 0 ((acA tx len z (beA tx len s).2).2.2) (svM n + 1) sv2)) (fun E w => w = GW g o b c u h x z y ai pa tu tx len ((beA tx len s).2) n sv ∧ (ibB len (beA tx len s) = false ∧ E = IAE)) := by
  refine UX.ofV (cc := cX5_read) (maxL := 2) (ret := some .int) (lv0 := [(0, .ref o)]) (by decide) rfl (Nat.le_of_ble_eq_true rfl) rfl ?_
  have hq : QFok g rmX5_read (fun v w => ibB len (beA tx len s) = true ∧ v = some (.int (nI ((acA tx len z (beA tx len s).2).1))) ∧ ∃ sv2 : SV, svQ (svM n) (svR n sv) sv2 z ∧ GQ (GW g o b c u h x z y ai pa tu tx len s n sv) w (GW g o b c u h x ((acA tx len z (beA tx len s).2).2.1) y ai pa tu tx 0 ((acA tx len z (beA tx len s).2).2.2) (svM n + 1) sv2)) (QFx g rmX5_read (fun v w => ibB len (beA tx len s) = true ∧ v = some (.int (nI ((acA tx len z (beA tx len s).2).1))) ∧ ∃ sv2 : SV, svQ (svM n) (svR n sv) sv2 z ∧ GQ (GW g o b c u h x z y ai pa tu tx len s n sv) w (GW g o b c u h x ((acA tx len z (beA tx len s).2).2.1) y ai pa tu tx 0 ((acA tx len z (beA tx len s).2).2.2) (svM n + 1) sv2)) (fun E w => w = GW g o b c u h x z y ai pa tu tx len ((beA tx len s).2) n sv ∧ (ibB len (beA tx len s) = false ∧ E = IAE))) := QFx.q
  refine V.eqws (ws2 := (HD g o b c u h x) ++ (SW g b z) ++ (SW g c y) ++ (UW g u ai pa tu) ++ (BWs g x tx (nI len) s) ++ (HW g h n sv)) rfl ?_
  refine V.aload_n 0 rfl dX5_read_0 rfl ?_
  refine V.get (v := .ref (x 0)) (fun w H => List.mem_cons_of_mem _ (List.mem_append_left _ (List.mem_append_left _ (List.mem_append_left _ (List.mem_append_left _ (List.mem_append_left _ (List.mem_append_right _ H))))))) (hc := (rfl : vwCl[5]? = some (RX5, TX5, 5))) 0 4 (by decide) (List.mem_of_getElem? (i := 3) rfl) rfl rfl dX5_read_1 ?_
  refine V.callVPf (ws2 := (HD g o b c u h x) ++ (SW g b z) ++ (SW g c y) ++ (UW g u ai pa tu) ++ (BWs g x tx (nI len) ((beA tx len s).2)) ++ (HW g h n sv)) (st2 := [.int (bi (ibB len (beA tx len s)))]) [] [] (kX0_isBoard g x tx len s hl hD) gX5_read_X0_isBoard rfl (by show _ ∧ _ ∧ _ ∧ _ = some (0 : Nat); decide +kernel) ⟨Nat.le_of_ble_eq_true rfl, Nat.le_of_ble_eq_true rfl⟩ (hc := (rfl : vwCl[0]? = some (RX0, TX0, 6))) 0 rfl pv6_4 rfl (Nat.le_of_ble_eq_true rfl) ⟨Nat.le_of_ble_eq_true rfl, Nat.le_of_ble_eq_true rfl⟩ dX5_read_4 BWm pv6_4.symm rfl rfl rfl ?_
  rcases (Bool.eq_false_or_eq_true (ibB len (beA tx len s))).symm with hb | hb
  · skip
    refine V.if_ne_f (tgt := 20) (by rw [hb]; rfl) dX5_read_7 (by decide) ?_
    exact V.throwS (text := "no complete board") hst (by decide +kernel) (List.mem_of_getElem? (i := 1) rfl) (List.mem_of_getElem? (i := 2) rfl) (by decide) vx_gd2 (fun w H => List.mem_cons_of_mem _ (List.mem_append_right _ H)) dX5_read_10 dX5_read_13 dX5_read_14 dX5_read_16 dX5_read_19 (Nat.le_of_ble_eq_true rfl) (Nat.le_of_ble_eq_true rfl) (Nat.le_of_ble_eq_true rfl) (Nat.le_of_ble_eq_true rfl) ⟨rfl, hb, rfl⟩ (Nat.le_of_ble_eq_true rfl) (Nat.le_of_ble_eq_true rfl)
  · skip
    refine V.if_ne_t (tgt := 20) (by rw [hb]; decide) dX5_read_7 (by decide) ?_
    refine V.aload_n 0 rfl dX5_read_20 rfl ?_
    refine V.get (v := .ref (h 0)) (fun w H => List.mem_cons_of_mem _ (List.mem_append_left _ (List.mem_append_left _ (List.mem_append_left _ (List.mem_append_left _ (List.mem_append_left _ (List.mem_append_right _ H))))))) (hc := (rfl : vwCl[5]? = some (RX5, TX5, 5))) 0 3 (by decide) (List.mem_of_getElem? (i := 4) rfl) rfl rfl dX5_read_21 ?_
    refine V.aload_n 0 rfl dX5_read_24 rfl ?_
    refine V.get (v := .ref (b 0)) (fun w H => List.mem_cons_of_mem _ (List.mem_append_left _ (List.mem_append_left _ (List.mem_append_left _ (List.mem_append_left _ (List.mem_append_left _ (List.mem_append_right _ H))))))) (hc := (rfl : vwCl[5]? = some (RX5, TX5, 5))) 0 0 (by decide) (List.mem_of_getElem? (i := 5) rfl) rfl rfl dX5_read_25 ?_
    refine V.callVP (F := (((HD g o b c u h x) ++ (SW g c y)) ++ (UW g u ai pa tu)) ++ (BWs g x tx (nI len) ((beA tx len s).2))) [.ref (b 0)] [] (kX1_saveP g h n sv b z hn6 hnl hl6) gX5_read_X1_save rfl (by show _ ∧ _ ∧ _ ∧ _ = some (1 : Nat); decide +kernel) ⟨(Nat.le_of_ble_eq_true rfl), (Nat.le_of_ble_eq_true rfl)⟩ (hc := (rfl : vwCl[1]? = some (RX1, TX1, 2))) 0 rfl pv6_5_1 rfl (Nat.le_of_ble_eq_true rfl) ⟨(Nat.le_of_ble_eq_true rfl), (Nat.le_of_ble_eq_true rfl)⟩ dX5_read_28 (fun r w hq2 => by obtain ⟨-, sv2, -, hF2, -⟩ := hq2; exact hF2) (fun r w hq2 => ?_)
    obtain ⟨rfl, sv2, hsv, hF2, hp2⟩ := hq2
    refine V.perm ((List.Perm.append_right _ hp2.symm).trans pv6_5_1.symm) ?_
    refine V.eqst (st2 := []) rfl ?_
    refine V.aload_n 0 rfl dX5_read_31 rfl ?_
    refine V.callVP (F := []) [] [] (kX5_addPartsOfText g o b c u h x z y ai pa tu tx len ((beA tx len s).2) (svM n + 1) sv2  hC hl (beA_BV hl hD).2) gX5_read_X5_addPartsOfText rfl (by show _ ∧ _ ∧ _ ∧ _ = some (0 : Nat); decide +kernel) ⟨(Nat.le_of_ble_eq_true rfl), (Nat.le_of_ble_eq_true rfl)⟩ (hc := (rfl : vwCl[5]? = some (RX5, TX5, 5))) 0 rfl (by rw [List.append_nil]; exact List.Perm.refl _) rfl (Nat.le_of_ble_eq_true rfl) ⟨(Nat.le_of_ble_eq_true rfl), (Nat.le_of_ble_eq_true rfl)⟩ dX5_read_32 (fun r w hq2 => by rw [hq2.2]; exact FST.of GW_fe) (fun r w hq2 => ?_)
    obtain ⟨rfl, rfl⟩ := hq2
    refine V.eqws (ws2 := (HD g o b c u h x) ++ (SW g b ((acA tx len z (beA tx len s).2).2.1)) ++ (SW g c y) ++ (UW g u ai pa tu) ++ (BWs g x tx (nI len) ((acA tx len z (beA tx len s).2).2.2)) ++ (HW g h (svM n + 1) sv2)) (List.append_nil _) ?_
    refine V.eqst (st2 := [.int (nI ((acA tx len z (beA tx len s).2).1))]) rfl ?_
    refine V.istore_n (lv2 := [(1, .int (nI ((acA tx len z (beA tx len s).2).1))), (0, .ref o)]) dX5_read_35 rfl (by decide) rfl ?_
    refine V.aload_n 1 rfl dX5_read_36 rfl ?_
    refine V.get (v := .ref (x 0)) (fun w H => List.mem_cons_of_mem _ (List.mem_append_left _ (List.mem_append_left _ (List.mem_append_left _ (List.mem_append_left _ (List.mem_append_left _ (List.mem_append_right _ H))))))) (hc := (rfl : vwCl[5]? = some (RX5, TX5, 5))) 0 4 (by decide) (List.mem_of_getElem? (i := 3) rfl) rfl rfl dX5_read_37 ?_
    refine V.iconst (v := 0) dX5_read_40 (by decide) ?_
    refine V.put (v := .int 0) (ws2 := (HD g o b c u h x) ++ (SW g b ((acA tx len z (beA tx len s).2).2.1)) ++ (SW g c y) ++ (UW g u ai pa tu) ++ (BW g x tx 0 (((acA tx len z (beA tx len s).2).2.2).1) (en ((acA tx len z (beA tx len s).2).2.2).2.1) (nI ((acA tx len z (beA tx len s).2).2.2).2.2.1) (bi ((acA tx len z (beA tx len s).2).2.2).2.2.2)) ++ (HW g h (svM n + 1) sv2)) (fun w H => List.mem_cons_of_mem _ (List.mem_append_left _ (List.mem_append_left _ (List.mem_append_left _ (List.mem_append_left _ (List.mem_append_right _ H)))))) tyX0 tyX0_ok nmX0 (hc := (rfl : vwCl[0]? = some (RX0, TX0, 6))) 25 1 (by decide) (List.mem_of_getElem? (i := 6) rfl) rfl rfl (tyX0_ok 1 (by decide)) rfl rfl (Nat.le_of_ble_eq_true rfl) rfl dX5_read_41 ?_
    refine V.eqws (ws2 := (HD g o b c u h x) ++ (SW g b ((acA tx len z (beA tx len s).2).2.1)) ++ (SW g c y) ++ (UW g u ai pa tu) ++ (BWs g x tx (nI 0) ((acA tx len z (beA tx len s).2).2.2)) ++ (HW g h (svM n + 1) sv2)) rfl ?_
    refine V.iload_n 0 rfl dX5_read_44 rfl ?_
    obtain ⟨nw, hnw⟩ := hsv.fst
    obtain ⟨w2, hw1, hw2⟩ := FST.ex (W0 := GW g o b c u h x z y ai pa tu tx len s n sv) (w := GW g o b c u h x ((acA tx len z (beA tx len s).2).2.1) y ai pa tu tx 0 ((acA tx len z (beA tx len s).2).2.2) (svM n + 1) sv2) (GW_fp hnw)
    refine V.perm (ws2 := w2) hw1 ?_
    exact V.iret hq XMx.r (Nat.le_of_ble_eq_true rfl) (Nat.le_of_ble_eq_true rfl) ⟨hb, rfl, sv2, hsv, hw2, hw1⟩ dX5_read_45
