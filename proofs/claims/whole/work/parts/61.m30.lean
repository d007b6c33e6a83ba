theorem pv6_3_1 {α : Type} {A0 A1 A2 A3 A4 A5 : List α} : ((((((A0 ++ A1) ++ A2) ++ A3) ++ A4) ++ A5)).Perm (((A3 ++ A1)) ++ ((((A0 ++ A2) ++ A4) ++ A5))) := by
  classical
  exact List.perm_iff_count.mpr (fun a => by simp only [List.count_append, List.count_nil]; omega)
abbrev rmX5_tour : Room := { frames := 7, cells := 11, slots := 267, locals := 124 }
set_option maxHeartbeats 4000000 in
set_option maxRecDepth 100000 in
theorem kX5_tour (g : GT) (hst : g.1.stackTraces = false) (o : Nat) (b c u h x : Nat → Nat) (z y ai pa tu tx : Nat → Int32) (len : Nat) (s : BS) (n : Nat) (sv : SV) (q0 : Int32) (hV : TV z) (hn6 : n ≤ 6) (hnl : n ≤ sv.length) (hl6 : sv.length ≤ 6) : UX g yX5_tour wsX5_tour rmX5_tour [.ref o, .int q0] (GW g o b c u h x z y ai pa tu tx len s n sv) (fun v w => ∃ j, j ≤ 20 ∧ q0 = nI j ∧ wi q0 1 20 = true ∧ v = some (.int ((cTs j ((z, ai, pa, tu), 0)).2)) ∧ ∃ sv2 : SV, svQ (svM n) (svR n sv) sv2 z ∧ GQ (GW g o b c u h x z y ai pa tu tx len s n sv) w (GW g o b c u h x ((cTs j ((z, ai, pa, tu), 0)).1.1) y ((cTs j ((z, ai, pa, tu), 0)).1.2.1) ((cTs j ((z, ai, pa, tu), 0)).1.2.2.1) ((cTs j ((z, ai, pa, tu), 0)).1.2.2.2) tx len s (svM n + 1) sv2)) (fun E w => w = GW g o b c u h x z y ai pa tu tx len s n sv ∧ (wi q0 1 20 = false ∧ E = IAE)) := by
  refine UX.ofV (cc := cX5_tour) (maxL := 2) (ret := some .int) (lv0 := [(0, .ref o), (1, .int q0)]) (by decide) rfl (Nat.le_of_ble_eq_true rfl) rfl ?_
  have hq : QFok g rmX5_tour (fun v w => ∃ j, j ≤ 20 ∧ q0 = nI j ∧ wi q0 1 20 = true ∧ v = some (.int ((cTs j ((z, ai, pa, tu), 0)).2)) ∧ ∃ sv2 : SV, svQ (svM n) (svR n sv) sv2 z ∧ GQ (GW g o b c u h x z y ai pa tu tx len s n sv) w (GW g o b c u h x ((cTs j ((z, ai, pa, tu), 0)).1.1) y ((cTs j ((z, ai, pa, tu), 0)).1.2.1) ((cTs j ((z, ai, pa, tu), 0)).1.2.2.1) ((cTs j ((z, ai, pa, tu), 0)).1.2.2.2) tx len s (svM n + 1) sv2)) (QFx g rmX5_tour (fun v w => ∃ j, j ≤ 20 ∧ q0 = nI j ∧ wi q0 1 20 = true ∧ v = some (.int ((cTs j ((z, ai, pa, tu), 0)).2)) ∧ ∃ sv2 : SV, svQ (svM n) (svR n sv) sv2 z ∧ GQ (GW g o b c u h x z y ai pa tu tx len s n sv) w (GW g o b c u h x ((cTs j ((z, ai, pa, tu), 0)).1.1) y ((cTs j ((z, ai, pa, tu), 0)).1.2.1) ((cTs j ((z, ai, pa, tu), 0)).1.2.2.1) ((cTs j ((z, ai, pa, tu), 0)).1.2.2.2) tx len s (svM n + 1) sv2)) (fun E w => w = GW g o b c u h x z y ai pa tu tx len s n sv ∧ (wi q0 1 20 = false ∧ E = IAE))) := QFx.q
  refine V.eqws (ws2 := (HD g o b c u h x) ++ (SW g b z) ++ (SW g c y) ++ (UW g u ai pa tu) ++ (BWs g x tx (nI len) s) ++ (HW g h n sv)) rfl ?_
  refine V.iload_n 1 rfl dX5_tour_0 rfl ?_
  refine V.iconst (v := 1) dX5_tour_1 (by decide) ?_
  refine V.bipush (v := 20) dX5_tour_2 (by decide) ?_
  refine V.callSX0 [.int q0, .int 1, .int 20] [] (kX5_checkRange g hst q0 1 20) gX5_tour_X5_checkRange rfl (by show _ ∧ _ ∧ _ = some (3 : Nat); decide +kernel) ⟨(Nat.le_of_ble_eq_true rfl), (Nat.le_of_ble_eq_true rfl)⟩ rfl (Nat.le_of_ble_eq_true rfl) ⟨(Nat.le_of_ble_eq_true rfl), (Nat.le_of_ble_eq_true rfl)⟩ ⟨(Nat.le_of_ble_eq_true rfl), (Nat.le_of_ble_eq_true rfl)⟩ dX5_tour_4 (fun E w hx => ?_) (fun r w hq2 => ?_)
  · obtain ⟨rfl, rfl, hx⟩ := hx; exact ⟨rfl, rfl, ⟨hx, rfl⟩⟩
  obtain ⟨rfl, rfl, c0⟩ := hq2
  refine ⟨rfl, ?_⟩
  refine V.eqst (st2 := []) rfl ?_
  obtain ⟨j, hj1, hj, rfl⟩ := wi_t c0
  refine V.aload_n 0 rfl dX5_tour_7 rfl ?_
  refine V.get (v := .ref (h 0)) (fun w H => List.mem_cons_of_mem _ (List.mem_append_left _ (List.mem_append_left _ (List.mem_append_left _ (List.mem_append_left _ (List.mem_append_left _ (List.mem_append_right _ H))))))) (hc := (rfl : vwCl[5]? = some (RX5, TX5, 5))) 0 3 (by decide) (List.mem_of_getElem? (i := 1) rfl) rfl rfl dX5_tour_8 ?_
  refine V.aload_n 0 rfl dX5_tour_11 rfl ?_
  refine V.get (v := .ref (b 0)) (fun w H => List.mem_cons_of_mem _ (List.mem_append_left _ (List.mem_append_left _ (List.mem_append_left _ (List.mem_append_left _ (List.mem_append_left _ (List.mem_append_right _ H))))))) (hc := (rfl : vwCl[5]? = some (RX5, TX5, 5))) 0 0 (by decide) (List.mem_of_getElem? (i := 2) rfl) rfl rfl dX5_tour_12 ?_
  refine V.callVP (F := (((HD g o b c u h x) ++ (SW g c y)) ++ (UW g u ai pa tu)) ++ (BWs g x tx (nI len) s)) [.ref (b 0)] [] (kX1_saveP g h n sv b z hn6 hnl hl6) gX5_tour_X1_save rfl (by show _ ∧ _ ∧ _ ∧ _ = some (1 : Nat); decide +kernel) ⟨(Nat.le_of_ble_eq_true rfl), (Nat.le_of_ble_eq_true rfl)⟩ (hc := (rfl : vwCl[1]? = some (RX1, TX1, 2))) 0 rfl pv6_5_1 rfl (Nat.le_of_ble_eq_true rfl) ⟨(Nat.le_of_ble_eq_true rfl), (Nat.le_of_ble_eq_true rfl)⟩ dX5_tour_15 (fun r w hq2 => by obtain ⟨-, sv2, -, hF2, -⟩ := hq2; exact hF2) (fun r w hq2 => ?_)
  obtain ⟨rfl, sv2, hsv, hF2, hp2⟩ := hq2
  refine V.perm ((List.Perm.append_right _ hp2.symm).trans pv6_5_1.symm) ?_
  refine V.eqst (st2 := []) rfl ?_
  refine V.aload_n 0 rfl dX5_tour_18 rfl ?_
  refine V.get (v := .ref (u 0)) (fun w H => List.mem_cons_of_mem _ (List.mem_append_left _ (List.mem_append_left _ (List.mem_append_left _ (List.mem_append_left _ (List.mem_append_left _ (List.mem_append_right _ H))))))) (hc := (rfl : vwCl[5]? = some (RX5, TX5, 5))) 0 2 (by decide) (List.mem_of_getElem? (i := 3) rfl) rfl rfl dX5_tour_19 ?_
  refine V.aload_n 0 rfl dX5_tour_22 rfl ?_
  refine V.get (v := .ref (b 0)) (fun w H => List.mem_cons_of_mem _ (List.mem_append_left _ (List.mem_append_left _ (List.mem_append_left _ (List.mem_append_left _ (List.mem_append_left _ (List.mem_append_right _ H))))))) (hc := (rfl : vwCl[5]? = some (RX5, TX5, 5))) 0 0 (by decide) (List.mem_of_getElem? (i := 2) rfl) rfl rfl dX5_tour_23 ?_
  refine V.iload_n 1 rfl dX5_tour_26 rfl ?_
  refine V.callVPf (ws2 := (HD g o b c u h x) ++ (SW g b ((cTs j ((z, ai, pa, tu), 0)).1.1)) ++ (SW g c y) ++ (UW g u ((cTs j ((z, ai, pa, tu), 0)).1.2.1) ((cTs j ((z, ai, pa, tu), 0)).1.2.2.1) ((cTs j ((z, ai, pa, tu), 0)).1.2.2.2)) ++ (BWs g x tx (nI len) s) ++ (HW g h (svM n + 1) sv2)) (st2 := [.int ((cTs j ((z, ai, pa, tu), 0)).2)]) [.ref (b 0), .int (nI j)] [] (kX4_make g u ai pa tu b z j (by omega) hV) gX5_tour_X4_make rfl (by show _ ∧ _ ∧ _ ∧ _ = some (2 : Nat); decide +kernel) ⟨Nat.le_of_ble_eq_true rfl, Nat.le_of_ble_eq_true rfl⟩ (hc := (rfl : vwCl[4]? = some (RX4, TX4, 3))) 0 rfl pv6_3_1 rfl (Nat.le_of_ble_eq_true rfl) ⟨Nat.le_of_ble_eq_true rfl, Nat.le_of_ble_eq_true rfl⟩ dX5_tour_27 USm pv6_3_1.symm rfl rfl rfl ?_
  obtain ⟨nw, hnw⟩ := hsv.fst
  obtain ⟨w2, hw1, hw2⟩ := FST.ex (W0 := GW g o b c u h x z y ai pa tu tx len s n sv) (w := GW g o b c u h x ((cTs j ((z, ai, pa, tu), 0)).1.1) y ((cTs j ((z, ai, pa, tu), 0)).1.2.1) ((cTs j ((z, ai, pa, tu), 0)).1.2.2.1) ((cTs j ((z, ai, pa, tu), 0)).1.2.2.2) tx len s (svM n + 1) sv2) (GW_fp hnw)
  refine V.perm (ws2 := w2) hw1 ?_
  exact V.iret hq XMx.r (Nat.le_of_ble_eq_true rfl) (Nat.le_of_ble_eq_true rfl) ⟨j, hj, rfl, c0, rfl, sv2, hsv, hw2, hw1⟩ dX5_tour_30
abbrev rmX5_inspect : Room := { frames := 4, cells := 10, slots := 261, locals := 124 }
set_option maxHeartbeats 4000000 in
set_option maxRecDepth 100000 in
theorem kX5_inspect (g : GT) (o : Nat) (b c u h x : Nat → Nat) (z y ai pa tu tx : Nat → Int32) (len : Nat) (s : BS) (n : Nat) (sv : SV) (hV : TV z) (hn6 : n ≤ 6) (hnl : n ≤ sv.length) (hl6 : sv.length ≤ 6) : UC g yX5_inspect wsX5_inspect rmX5_inspect [.ref o] (GW g o b c u h x z y ai pa tu tx len s n sv) (fun v w => v = some (.int ((inL z).2)) ∧ ∃ sv2 : SV, svQ (svM n) (svR n sv) sv2 z ∧ GQ (GW g o b c u h x z y ai pa tu tx len s n sv) w (GW g o b c u h x (inZ z) y ai pa tu tx len s (svM n + 1) sv2)) := by
  refine UC.ofV (cc := cX5_inspect) (maxL := 1) (ret := some .int) (lv0 := [(0, .ref o)]) (by decide) rfl (Nat.le_of_ble_eq_true rfl) rfl ?_
  generalize hQF : QFr g rmX5_inspect (fun v w => v = some (.int ((inL z).2)) ∧ ∃ sv2 : SV, svQ (svM n) (svR n sv) sv2 z ∧ GQ (GW g o b c u h x z y ai pa tu tx len s n sv) w (GW g o b c u h x (inZ z) y ai pa tu tx len s (svM n + 1) sv2)) = QF
  have hq : QFok g rmX5_inspect (fun v w => v = some (.int ((inL z).2)) ∧ ∃ sv2 : SV, svQ (svM n) (svR n sv) sv2 z ∧ GQ (GW g o b c u h x z y ai pa tu tx len s n sv) w (GW g o b c u h x (inZ z) y ai pa tu tx len s (svM n + 1) sv2)) QF := hQF ▸ QFr.q
  refine V.eqws (ws2 := (HD g o b c u h x) ++ (SW g b z) ++ (SW g c y) ++ (UW g u ai pa tu) ++ (BWs g x tx (nI len) s) ++ (HW g h n sv)) rfl ?_
  refine V.aload_n 0 rfl dX5_inspect_0 rfl ?_
  refine V.get (v := .ref (h 0)) (fun w H => List.mem_cons_of_mem _ (List.mem_append_left _ (List.mem_append_left _ (List.mem_append_left _ (List.mem_append_right _ H))))) (hc := (rfl : vwCl[5]? = some (RX5, TX5, 5))) 0 3 (by decide) (List.mem_of_getElem? (i := 1) rfl) rfl rfl dX5_inspect_1 ?_
  refine V.aload_n 0 rfl dX5_inspect_4 rfl ?_
  refine V.get (v := .ref (b 0)) (fun w H => List.mem_cons_of_mem _ (List.mem_append_left _ (List.mem_append_left _ (List.mem_append_left _ (List.mem_append_right _ H))))) (hc := (rfl : vwCl[5]? = some (RX5, TX5, 5))) 0 0 (by decide) (List.mem_of_getElem? (i := 2) rfl) rfl rfl dX5_inspect_5 ?_
  refine V.callVP (F := (((HD g o b c u h x) ++ (SW g c y)) ++ (UW g u ai pa tu)) ++ (BWs g x tx (nI len) s)) [.ref (b 0)] [] (kX1_saveP g h n sv b z hn6 hnl hl6) gX5_inspect_X1_save rfl (by show _ ∧ _ ∧ _ ∧ _ = some (1 : Nat); decide +kernel) ⟨(Nat.le_of_ble_eq_true rfl), (Nat.le_of_ble_eq_true rfl)⟩ (hc := (rfl : vwCl[1]? = some (RX1, TX1, 2))) 0 rfl pv6_5_1 rfl (Nat.le_of_ble_eq_true rfl) ⟨(Nat.le_of_ble_eq_true rfl), (Nat.le_of_ble_eq_true rfl)⟩ dX5_inspect_8 (fun r w hq2 => by obtain ⟨-, sv2, -, hF2, -⟩ := hq2; exact hF2) (fun r w hq2 => ?_)
  obtain ⟨rfl, sv2, hsv, hF2, hp2⟩ := hq2
  refine V.perm ((List.Perm.append_right _ hp2.symm).trans pv6_5_1.symm) ?_
  refine V.eqst (st2 := []) rfl ?_
  refine V.aload_n 0 rfl dX5_inspect_11 rfl ?_
  refine V.get (v := .ref (b 0)) (fun w H => List.mem_cons_of_mem _ (List.mem_append_left _ (List.mem_append_left _ (List.mem_append_left _ (List.mem_append_right _ H))))) (hc := (rfl : vwCl[5]? = some (RX5, TX5, 5))) 0 0 (by decide) (List.mem_of_getElem? (i := 2) rfl) rfl rfl dX5_inspect_12 ?_
  refine V.callVPf (ws2 := (HD g o b c u h x) ++ (SW g b (inZ z)) ++ (SW g c y) ++ (UW g u ai pa tu) ++ (BWs g x tx (nI len) s) ++ (HW g h (svM n + 1) sv2)) (st2 := [.int ((inL z).2)]) [] [] (kX2_takeOffWrong g b z hV.1.2.2.1 hV.np hV.2.2.2.2 hV.2.1.2.2.2.2) gX5_inspect_X2_takeOffWrong rfl (by show _ ∧ _ ∧ _ ∧ _ = some (0 : Nat); decide +kernel) ⟨Nat.le_of_ble_eq_true rfl, Nat.le_of_ble_eq_true rfl⟩ (hc := (rfl : vwCl[2]? = some (RX2, TX2, 12))) 0 rfl pv6_1 rfl (Nat.le_of_ble_eq_true rfl) ⟨Nat.le_of_ble_eq_true rfl, Nat.le_of_ble_eq_true rfl⟩ dX5_inspect_15 SWm pv6_1.symm rfl rfl rfl ?_
  obtain ⟨nw, hnw⟩ := hsv.fst
  obtain ⟨w2, hw1, hw2⟩ := FST.ex (W0 := GW g o b c u h x z y ai pa tu tx len s n sv) (w := GW g o b c u h x (inZ z) y ai pa tu tx len s (svM n + 1) sv2) (GW_fp hnw)
  refine V.perm (ws2 := w2) hw1 ?_
  exact V.iret hq XM.r (Nat.le_of_ble_eq_true rfl) (Nat.le_of_ble_eq_true rfl) ⟨rfl, sv2, hsv, hw2, hw1⟩ dX5_inspect_18
abbrev rmX5_append : Room := { frames := 7, cells := 2, slots := 12, locals := 104 }
set_option maxHeartbeats 4000000 in
set_option maxRecDepth 100000 in
theorem kX5_append (g : GT) (hst : g.1.stackTraces = false) (o : Nat) (b c u h x : Nat → Nat) (z y ai pa tu tx : Nat → Int32) (len : Nat) (s : BS) (n : Nat) (sv : SV) (q0 : Int32) (hl : len ≤ 60) : UX g yX5_append wsX5_append rmX5_append [.ref o, .int q0] (GW g o b c u h x z y ai pa tu tx len s n sv) (fun v w => (wi q0 33 126 = true ∧ len < 60) ∧ v = some (.int (nI (len + 1))) ∧ w = GW g o b c u h x z y ai pa tu (upd tx len q0) (len + 1) s n sv) (fun E w => w = GW g o b c u h x z y ai pa tu tx len s n sv ∧ ((wi q0 33 126 = false ∧ E = IAE) ∨ (wi q0 33 126 = true ∧ ¬ len < 60 ∧ E = ISE))) := by
  refine UX.ofV (cc := cX5_append) (maxL := 2) (ret := some .int) (lv0 := [(0, .ref o), (1, .int q0)]) (by decide) rfl (Nat.le_of_ble_eq_true rfl) rfl ?_
  have hq : QFok g rmX5_append (fun v w => (wi q0 33 126 = true ∧ len < 60) ∧ v = some (.int (nI (len + 1))) ∧ w = GW g o b c u h x z y ai pa tu (upd tx len q0) (len + 1) s n sv) (QFx g rmX5_append (fun v w => (wi q0 33 126 = true ∧ len < 60) ∧ v = some (.int (nI (len + 1))) ∧ w = GW g o b c u h x z y ai pa tu (upd tx len q0) (len + 1) s n sv) (fun E w => w = GW g o b c u h x z y ai pa tu tx len s n sv ∧ ((wi q0 33 126 = false ∧ E = IAE) ∨ (wi q0 33 126 = true ∧ ¬ len < 60 ∧ E = ISE)))) := QFx.q
  refine V.eqws (ws2 := (HD g o b c u h x) ++ (SW g b z) ++ (SW g c y) ++ (UW g u ai pa tu) ++ (BWs g x tx (nI len) s) ++ (HW g h n sv)) rfl ?_
  refine V.iload_n 1 rfl dX5_append_0 rfl ?_
  refine V.bipush (v := 33) dX5_append_1 (by decide) ?_
  refine V.bipush (v := 126) dX5_append_3 (by decide) ?_
  refine V.callSX0 [.int q0, .int 33, .int 126] [] (kX5_checkRange g hst q0 33 126) gX5_append_X5_checkRange rfl (by show _ ∧ _ ∧ _ = some (3 : Nat); decide +kernel) ⟨(Nat.le_of_ble_eq_true rfl), (Nat.le_of_ble_eq_true rfl)⟩ rfl (Nat.le_of_ble_eq_true rfl) ⟨(Nat.le_of_ble_eq_true rfl), (Nat.le_of_ble_eq_true rfl)⟩ ⟨(Nat.le_of_ble_eq_true rfl), (Nat.le_of_ble_eq_true rfl)⟩ dX5_append_5 (fun E w hx => ?_) (fun r w hq2 => ?_)
  · obtain ⟨rfl, rfl, hx⟩ := hx; exact ⟨rfl, rfl, Or.inl ⟨hx, rfl⟩⟩
  obtain ⟨rfl, rfl, c0⟩ := hq2
  refine ⟨rfl, ?_⟩
  refine V.eqst (st2 := []) rfl ?_
  refine V.aload_n 0 rfl dX5_append_8 rfl ?_
  refine V.get (v := .ref (x 0)) (fun w H => List.mem_cons_of_mem _ (List.mem_append_left _ (List.mem_append_left _ (List.mem_append_left _ (List.mem_append_right _ H))))) (hc := (rfl : vwCl[5]? = some (RX5, TX5, 5))) 0 4 (by decide) (List.mem_of_getElem? (i := 3) rfl) rfl rfl dX5_append_9 ?_
  refine V.get (v := .int (nI len)) (fun w H => List.mem_cons_of_mem _ (List.mem_append_left _ (List.mem_append_left _ (List.mem_append_right _ H)))) (hc := (rfl : vwCl[0]? = some (RX0, TX0, 6))) 25 1 (by decide) (List.mem_of_getElem? (i := 4) rfl) rfl rfl dX5_append_12 ?_
  refine V.bipush (v := 60) dX5_append_15 (by decide) ?_
  refine V.icmp_lt (tgt := 30) dX5_append_17 (by decide) (fun c17 => ?_) (fun c17 => ?_)
  · skip
    have h8 : len < 60 := nI_lt' (by omega) c17
    refine V.aload_n 0 rfl dX5_append_30 rfl ?_
    refine V.get (v := .ref (x 0)) (fun w H => List.mem_cons_of_mem _ (List.mem_append_left _ (List.mem_append_left _ (List.mem_append_left _ (List.mem_append_right _ H))))) (hc := (rfl : vwCl[5]? = some (RX5, TX5, 5))) 0 4 (by decide) (List.mem_of_getElem? (i := 3) rfl) rfl rfl dX5_append_31 ?_
    refine V.get (v := .ref (x 1)) (fun w H => List.mem_cons_of_mem _ (List.mem_append_left _ (List.mem_append_left _ (List.mem_append_right _ H)))) (hc := (rfl : vwCl[0]? = some (RX0, TX0, 6))) 25 0 (by decide) (List.mem_of_getElem? (i := 5) rfl) rfl rfl dX5_append_34 ?_
    refine V.aload_n 0 rfl dX5_append_37 rfl ?_
    refine V.get (v := .ref (x 0)) (fun w H => List.mem_cons_of_mem _ (List.mem_append_left _ (List.mem_append_left _ (List.mem_append_left _ (List.mem_append_right _ H))))) (hc := (rfl : vwCl[5]? = some (RX5, TX5, 5))) 0 4 (by decide) (List.mem_of_getElem? (i := 3) rfl) rfl rfl dX5_append_38 ?_
    refine V.get (v := .int (nI len)) (fun w H => List.mem_cons_of_mem _ (List.mem_append_left _ (List.mem_append_left _ (List.mem_append_right _ H)))) (hc := (rfl : vwCl[0]? = some (RX0, TX0, 6))) 25 1 (by decide) (List.mem_of_getElem? (i := 4) rfl) rfl rfl dX5_append_41 ?_
    refine V.iload_n 1 rfl dX5_append_44 rfl ?_
    refine V.iast (f := tx) (ws2 := (HD g o b c u h x) ++ (SW g b z) ++ (SW g c y) ++ (UW g u ai pa tu) ++ (BW g x (upd tx len q0) (nI len) s.1 (en s.2.1) (nI s.2.2.1) (bi s.2.2.2)) ++ (HW g h n sv)) 26 len rfl rfl (by omega) (by decide) rfl dX5_append_45 ?_
    refine V.aload_n 0 rfl dX5_append_46 rfl ?_
    refine V.get (v := .ref (x 0)) (fun w H => List.mem_cons_of_mem _ (List.mem_append_left _ (List.mem_append_left _ (List.mem_append_left _ (List.mem_append_right _ H))))) (hc := (rfl : vwCl[5]? = some (RX5, TX5, 5))) 0 4 (by decide) (List.mem_of_getElem? (i := 3) rfl) rfl rfl dX5_append_47 ?_
    refine V.dup dX5_append_50 rfl ?_
    refine V.get (v := .int (nI len)) (fun w H => List.mem_cons_of_mem _ (List.mem_append_left _ (List.mem_append_left _ (List.mem_append_right _ H)))) (hc := (rfl : vwCl[0]? = some (RX0, TX0, 6))) 25 1 (by decide) (List.mem_of_getElem? (i := 4) rfl) rfl rfl dX5_append_51 ?_
    refine V.iconst (v := 1) dX5_append_54 (by decide) ?_
    refine V.iaddN (v := nI (len + 1)) dX5_append_55 (nI_add len 1) ?_
    refine V.put (v := .int (nI (len + 1))) (ws2 := (HD g o b c u h x) ++ (SW g b z) ++ (SW g c y) ++ (UW g u ai pa tu) ++ (BW g x (upd tx len q0) (nI (len + 1)) s.1 (en s.2.1) (nI s.2.2.1) (bi s.2.2.2)) ++ (HW g h n sv)) (fun w H => List.mem_cons_of_mem _ (List.mem_append_left _ (List.mem_append_left _ (List.mem_append_right _ H)))) tyX0 tyX0_ok nmX0 (hc := (rfl : vwCl[0]? = some (RX0, TX0, 6))) 25 1 (by decide) (List.mem_of_getElem? (i := 4) rfl) rfl rfl (tyX0_ok 1 (by decide)) rfl rfl (Nat.le_of_ble_eq_true rfl) rfl dX5_append_56 ?_
    refine V.eqws (ws2 := (HD g o b c u h x) ++ (SW g b z) ++ (SW g c y) ++ (UW g u ai pa tu) ++ (BWs g x (upd tx len q0) (nI (len + 1)) s) ++ (HW g h n sv)) rfl ?_
    refine V.aload_n 0 rfl dX5_append_59 rfl ?_
    refine V.get (v := .ref (x 0)) (fun w H => List.mem_cons_of_mem _ (List.mem_append_left _ (List.mem_append_left _ (List.mem_append_left _ (List.mem_append_right _ H))))) (hc := (rfl : vwCl[5]? = some (RX5, TX5, 5))) 0 4 (by decide) (List.mem_of_getElem? (i := 3) rfl) rfl rfl dX5_append_60 ?_
    refine V.get (v := .int (nI (len + 1))) (fun w H => List.mem_cons_of_mem _ (List.mem_append_left _ (List.mem_append_left _ (List.mem_append_right _ H)))) (hc := (rfl : vwCl[0]? = some (RX0, TX0, 6))) 25 1 (by decide) (List.mem_of_getElem? (i := 4) rfl) rfl rfl dX5_append_63 ?_
    exact V.iret hq XMx.r (Nat.le_of_ble_eq_true rfl) (Nat.le_of_ble_eq_true rfl) ⟨⟨c0, h8⟩, rfl, rfl⟩ dX5_append_66
  · skip
    have h8 : ¬ len < 60 := fun q => c17 (nI_lt q (by decide))
    exact V.throwS (text := "the buffer is full") hst (by decide +kernel) (List.mem_of_getElem? (i := 1) rfl) (List.mem_of_getElem? (i := 2) rfl) (by decide) vx_gd1 (fun w H => List.mem_cons_of_mem _ (List.mem_append_left _ (List.mem_append_right _ H))) dX5_append_20 dX5_append_23 dX5_append_24 dX5_append_26 dX5_append_29 (Nat.le_of_ble_eq_true rfl) (Nat.le_of_ble_eq_true rfl) (Nat.le_of_ble_eq_true rfl) (Nat.le_of_ble_eq_true rfl) ⟨rfl, Or.inr (⟨c0, h8, rfl⟩)⟩ (Nat.le_of_ble_eq_true rfl) (Nat.le_of_ble_eq_true rfl)
abbrev rmX5_clearBuffer : Room := { frames := 0, cells := 0, slots := 0, locals := 0 }
set_option maxHeartbeats 4000000 in
set_option maxRecDepth 100000 in
theorem kX5_clearBuffer (g : GT) (o : Nat) (b c u h x : Nat → Nat) (z y ai pa tu tx : Nat → Int32) (len : Nat) (s : BS) (n : Nat) (sv : SV) : UC g yX5_clearBuffer wsX5_clearBuffer rmX5_clearBuffer [.ref o] (GW g o b c u h x z y ai pa tu tx len s n sv) (fun v w => v = some (.int (nI len)) ∧ w = GW g o b c u h x z y ai pa tu tx 0 s n sv) := by
  refine UC.ofV (cc := cX5_clearBuffer) (maxL := 2) (ret := some .int) (lv0 := [(0, .ref o)]) (by decide) rfl (Nat.le_of_ble_eq_true rfl) rfl ?_
  generalize hQF : QFr g rmX5_clearBuffer (fun v w => v = some (.int (nI len)) ∧ w = GW g o b c u h x z y ai pa tu tx 0 s n sv) = QF
  have hq : QFok g rmX5_clearBuffer (fun v w => v = some (.int (nI len)) ∧ w = GW g o b c u h x z y ai pa tu tx 0 s n sv) QF := hQF ▸ QFr.q
  refine V.eqws (ws2 := (HD g o b c u h x) ++ (SW g b z) ++ (SW g c y) ++ (UW g u ai pa tu) ++ (BWs g x tx (nI len) s) ++ (HW g h n sv)) rfl ?_
  refine V.aload_n 0 rfl dX5_clearBuffer_0 rfl ?_
  refine V.get (v := .ref (x 0)) (fun w H => List.mem_cons_of_mem _ (List.mem_append_left _ (List.mem_append_right _ H))) (hc := (rfl : vwCl[5]? = some (RX5, TX5, 5))) 0 4 (by decide) (List.mem_of_getElem? (i := 1) rfl) rfl rfl dX5_clearBuffer_1 ?_
  refine V.get (v := .int (nI len)) (fun w H => List.mem_cons_of_mem _ (List.mem_append_right _ H)) (hc := (rfl : vwCl[0]? = some (RX0, TX0, 6))) 25 1 (by decide) (List.mem_of_getElem? (i := 2) rfl) rfl rfl dX5_clearBuffer_4 ?_
  refine V.istore_n (lv2 := [(1, .int (nI len)), (0, .ref o)]) dX5_clearBuffer_7 rfl (by decide) rfl ?_
  refine V.aload_n 1 rfl dX5_clearBuffer_8 rfl ?_
  refine V.get (v := .ref (x 0)) (fun w H => List.mem_cons_of_mem _ (List.mem_append_left _ (List.mem_append_right _ H))) (hc := (rfl : vwCl[5]? = some (RX5, TX5, 5))) 0 4 (by decide) (List.mem_of_getElem? (i := 1) rfl) rfl rfl dX5_clearBuffer_9 ?_
  refine V.iconst (v := 0) dX5_clearBuffer_12 (by decide) ?_
  refine V.put (v := .int 0) (ws2 := (HD g o b c u h x) ++ (SW g b z) ++ (SW g c y) ++ (UW g u ai pa tu) ++ (BW g x tx 0 s.1 (en s.2.1) (nI s.2.2.1) (bi s.2.2.2)) ++ (HW g h n sv)) (fun w H => List.mem_cons_of_mem _ (List.mem_append_right _ H)) tyX0 tyX0_ok nmX0 (hc := (rfl : vwCl[0]? = some (RX0, TX0, 6))) 25 1 (by decide) (List.mem_of_getElem? (i := 2) rfl) rfl rfl (tyX0_ok 1 (by decide)) rfl rfl (Nat.le_of_ble_eq_true rfl) rfl dX5_clearBuffer_13 ?_
  refine V.eqws (ws2 := (HD g o b c u h x) ++ (SW g b z) ++ (SW g c y) ++ (UW g u ai pa tu) ++ (BWs g x tx (nI 0) s) ++ (HW g h n sv)) rfl ?_
  refine V.iload_n 0 rfl dX5_clearBuffer_16 rfl ?_
  exact V.iret hq XM.r (Nat.le_of_ble_eq_true rfl) (Nat.le_of_ble_eq_true rfl) ⟨rfl, rfl⟩ dX5_clearBuffer_17
theorem pv6_4 {α : Type} {A0 A1 A2 A3 A4 A5 : List α} : ((((((A0 ++ A1) ++ A2) ++ A3) ++ A4) ++ A5)).Perm ((A4) ++ (((((A0 ++ A1) ++ A2) ++ A3) ++ A5))) := by
  classical
  exact List.perm_iff_count.mpr (fun a => by simp only [List.count_append, List.count_nil]; omega)
abbrev rmX5_firstError : Room := { frames := 4, cells := 0, slots := 0, locals := 84 }
set_option maxHeartbeats 4000000 in
set_option maxRecDepth 100000 in
theorem kX5_firstError (g : GT) (o : Nat) (b c u h x : Nat → Nat) (z y ai pa tu tx : Nat → Int32) (len : Nat) (s : BS) (n : Nat) (sv : SV) (hl : len ≤ 60) (hD : s.2.2.1 ≤ 60) : UC g yX5_firstError wsX5_firstError rmX5_firstError [.ref o] (GW g o b c u h x z y ai pa tu tx len s n sv) (fun v w => v = some (.int (nI ((beA tx len s).1))) ∧ w = GW g o b c u h x z y ai pa tu tx len ((beA tx len s).2) n sv) := by
  refine UC.ofV (cc := cX5_firstError) (maxL := 1) (ret := some .int) (lv0 := [(0, .ref o)]) (by decide) rfl (Nat.le_of_ble_eq_true rfl) rfl ?_
  generalize hQF : QFr g rmX5_firstError (fun v w => v = some (.int (nI ((beA tx len s).1))) ∧ w = GW g o b c u h x z y ai pa tu tx len ((beA tx len s).2) n sv) = QF
  have hq : QFok g rmX5_firstError (fun v w => v = some (.int (nI ((beA tx len s).1))) ∧ w = GW g o b c u h x z y ai pa tu tx len ((beA tx len s).2) n sv) QF := hQF ▸ QFr.q
  refine V.eqws (ws2 := (HD g o b c u h x) ++ (SW g b z) ++ (SW g c y) ++ (UW g u ai pa tu) ++ (BWs g x tx (nI len) s) ++ (HW g h n sv)) rfl ?_
  refine V.aload_n 0 rfl dX5_firstError_0 rfl ?_
  refine V.get (v := .ref (x 0)) (fun w H => List.mem_cons_of_mem _ (List.mem_append_left _ (List.mem_append_right _ H))) (hc := (rfl : vwCl[5]? = some (RX5, TX5, 5))) 0 4 (by decide) (List.mem_of_getElem? (i := 1) rfl) rfl rfl dX5_firstError_1 ?_
  refine V.callVPf (ws2 := (HD g o b c u h x) ++ (SW g b z) ++ (SW g c y) ++ (UW g u ai pa tu) ++ (BWs g x tx (nI len) ((beA tx len s).2)) ++ (HW g h n sv)) (st2 := [.int (nI (beA tx len s).1)]) [] [] (kX0_errorIndex g x tx len s hl hD) gX5_firstError_X0_errorIndex rfl (by show _ ∧ _ ∧ _ ∧ _ = some (0 : Nat); decide +kernel) ⟨Nat.le_of_ble_eq_true rfl, Nat.le_of_ble_eq_true rfl⟩ (hc := (rfl : vwCl[0]? = some (RX0, TX0, 6))) 0 rfl pv6_4 rfl (Nat.le_of_ble_eq_true rfl) ⟨Nat.le_of_ble_eq_true rfl, Nat.le_of_ble_eq_true rfl⟩ dX5_firstError_4 BWm pv6_4.symm rfl rfl rfl ?_
  exact V.iret hq XM.r (Nat.le_of_ble_eq_true rfl) (Nat.le_of_ble_eq_true rfl) ⟨rfl, rfl⟩ dX5_firstError_7
abbrev rmX5_undo : Room := { frames := 6, cells := 1, slots := 6, locals := 124 }
set_option maxHeartbeats 4000000 in
set_option maxRecDepth 100000 in
theorem kX5_undo (g : GT) (hst : g.1.stackTraces = false) (o : Nat) (b c u h x : Nat → Nat) (z y ai pa tu tx : Nat → Int32) (len : Nat) (s : BS) (n : Nat) (sv : SV) (hn6 : n ≤ 6) (hnl : n ≤ sv.length) (hl6 : sv.length ≤ 6) : UX g yX5_undo wsX5_undo rmX5_undo [.ref o] (GW g o b c u h x z y ai pa tu tx len s n sv) (fun v w => ∃ (m : Nat) (xx : (Nat → Nat) × (Nat → Int32)), n = m + 1 ∧ sv[m]? = some xx ∧ v = some (.int (nI m)) ∧ w = GW g o b c u h x xx.2 y ai pa tu tx len s m sv) (fun E w => w = GW g o b c u h x z y ai pa tu tx len s n sv ∧ (n = 0 ∧ E = ISE)) := by
  refine UX.ofV (cc := cX5_undo) (maxL := 1) (ret := some .int) (lv0 := [(0, .ref o)]) (by decide) rfl (Nat.le_of_ble_eq_true rfl) rfl ?_
  have hq : QFok g rmX5_undo (fun v w => ∃ (m : Nat) (xx : (Nat → Nat) × (Nat → Int32)), n = m + 1 ∧ sv[m]? = some xx ∧ v = some (.int (nI m)) ∧ w = GW g o b c u h x xx.2 y ai pa tu tx len s m sv) (QFx g rmX5_undo (fun v w => ∃ (m : Nat) (xx : (Nat → Nat) × (Nat → Int32)), n = m + 1 ∧ sv[m]? = some xx ∧ v = some (.int (nI m)) ∧ w = GW g o b c u h x xx.2 y ai pa tu tx len s m sv) (fun E w => w = GW g o b c u h x z y ai pa tu tx len s n sv ∧ (n = 0 ∧ E = ISE))) := QFx.q
  refine V.eqws (ws2 := (HD g o b c u h x) ++ (SW g b z) ++ (SW g c y) ++ (UW g u ai pa tu) ++ (BWs g x tx (nI len) s) ++ (HW g h n sv)) rfl ?_
  refine V.aload_n 0 rfl dX5_undo_0 rfl ?_
  refine V.get (v := .ref (h 0)) (fun w H => List.mem_cons_of_mem _ (List.mem_append_left _ (List.mem_append_left _ (List.mem_append_left _ (List.mem_append_left _ (List.mem_append_right _ H)))))) (hc := (rfl : vwCl[5]? = some (RX5, TX5, 5))) 0 3 (by decide) (List.mem_of_getElem? (i := 3) rfl) rfl rfl dX5_undo_1 ?_
  refine V.aload_n 0 rfl dX5_undo_4 rfl ?_
  refine V.get (v := .ref (b 0)) (fun w H => List.mem_cons_of_mem _ (List.mem_append_left _ (List.mem_append_left _ (List.mem_append_left _ (List.mem_append_left _ (List.mem_append_right _ H)))))) (hc := (rfl : vwCl[5]? = some (RX5, TX5, 5))) 0 0 (by decide) (List.mem_of_getElem? (i := 4) rfl) rfl rfl dX5_undo_5 ?_
  rcases Nat.eq_zero_or_pos n with hn0 | hn0
  · skip
    subst hn0
    refine V.callVP (F := (((HD g o b c u h x) ++ (SW g c y)) ++ (UW g u ai pa tu)) ++ (BWs g x tx (nI len) s)) [.ref (b 0)] [] (kX1_restore_b1 g h sv b z) gX5_undo_X1_restore rfl (by show _ ∧ _ ∧ _ ∧ _ = some (1 : Nat); decide +kernel) ⟨(Nat.le_of_ble_eq_true rfl), (Nat.le_of_ble_eq_true rfl)⟩ (hc := (rfl : vwCl[1]? = some (RX1, TX1, 2))) 0 rfl pv6_5_1 rfl (Nat.le_of_ble_eq_true rfl) ⟨(Nat.le_of_ble_eq_true rfl), (Nat.le_of_ble_eq_true rfl)⟩ dX5_undo_8 (fun r w hq2 => by rw [hq2.2]; exact FST.of HSm) (fun r w hq2 => ?_)
    obtain ⟨rfl, rfl⟩ := hq2
    refine V.perm pv6_5_1.symm ?_
    refine V.eqst (st2 := [.int 0]) rfl ?_
    refine V.if_ne_f (tgt := 24) (by decide) dX5_undo_11 (by decide) ?_
    exact V.throwS (text := "no saved state") hst (by decide +kernel) (List.mem_of_getElem? (i := 1) rfl) (List.mem_of_getElem? (i := 2) rfl) (by decide) vx_gd1 (fun w H => List.mem_cons_of_mem _ (List.mem_append_right _ H)) dX5_undo_14 dX5_undo_17 dX5_undo_18 dX5_undo_20 dX5_undo_23 (Nat.le_of_ble_eq_true rfl) (Nat.le_of_ble_eq_true rfl) (Nat.le_of_ble_eq_true rfl) (Nat.le_of_ble_eq_true rfl) ⟨rfl, rfl, rfl⟩ (Nat.le_of_ble_eq_true rfl) (Nat.le_of_ble_eq_true rfl)
  · skip
    obtain ⟨m, rfl⟩ : ∃ m, n = m + 1 := ⟨n - 1, by omega⟩
    obtain ⟨xx, hx⟩ : ∃ xx, sv[m]? = some xx := ⟨_, List.getElem?_eq_getElem (by omega)⟩
    refine V.callVP (F := (((HD g o b c u h x) ++ (SW g c y)) ++ (UW g u ai pa tu)) ++ (BWs g x tx (nI len) s)) [.ref (b 0)] [] (kX1_restore_ok g h m sv xx b z (by omega) hx) gX5_undo_X1_restore rfl (by show _ ∧ _ ∧ _ ∧ _ = some (1 : Nat); decide +kernel) ⟨(Nat.le_of_ble_eq_true rfl), (Nat.le_of_ble_eq_true rfl)⟩ (hc := (rfl : vwCl[1]? = some (RX1, TX1, 2))) 0 rfl pv6_5_1 rfl (Nat.le_of_ble_eq_true rfl) ⟨(Nat.le_of_ble_eq_true rfl), (Nat.le_of_ble_eq_true rfl)⟩ dX5_undo_8 (fun r w hq2 => by rw [hq2.2]; exact FST.of HSm) (fun r w hq2 => ?_)
    obtain ⟨rfl, rfl⟩ := hq2
    refine V.perm pv6_5_1.symm ?_
    refine V.eqst (st2 := [.int 1]) rfl ?_
    refine V.if_ne_t (tgt := 24) (by decide) dX5_undo_11 (by decide) ?_
    refine V.aload_n 0 rfl dX5_undo_24 rfl ?_
    refine V.get (v := .ref (h 0)) (fun w H => List.mem_cons_of_mem _ (List.mem_append_left _ (List.mem_append_left _ (List.mem_append_left _ (List.mem_append_left _ (List.mem_append_right _ H)))))) (hc := (rfl : vwCl[5]? = some (RX5, TX5, 5))) 0 3 (by decide) (List.mem_of_getElem? (i := 3) rfl) rfl rfl dX5_undo_25 ?_
    refine V.get (v := .int (nI m)) (fun w H => List.mem_cons_of_mem _ (List.mem_append_left _ (List.mem_append_left _ (List.mem_append_left _ (List.mem_append_right _ H))))) (hc := (rfl : vwCl[1]? = some (RX1, TX1, 2))) 28 1 (by decide) (List.mem_of_getElem? (i := 5) rfl) rfl rfl dX5_undo_28 ?_
    exact V.iret hq XMx.r (Nat.le_of_ble_eq_true rfl) (Nat.le_of_ble_eq_true rfl) ⟨m, xx, rfl, hx, rfl, rfl⟩ dX5_undo_31
abbrev rmX5_feeder : Room := { frames := 7, cells := 2, slots := 12, locals := 104 }
set_option maxHeartbeats 4000000 in
set_option maxRecDepth 100000 in
theorem kX5_feeder (g : GT) (hst : g.1.stackTraces = false) (o : Nat) (b c u h x : Nat → Nat) (z y ai pa tu tx : Nat → Int32) (len : Nat) (s : BS) (n : Nat) (sv : SV) (q0 q1 : Int32) (hF : z 5 = nI (nf z)) (hF8 : nf z ≤ 8) : UX g yX5_feeder wsX5_feeder rmX5_feeder [.ref o, .int q0, .int q1] (GW g o b c u h x z y ai pa tu tx len s n sv) (fun v w => ∃ f k : Nat, f < nf z ∧ k < 9 ∧ q0 = nI f ∧ q1 = nI k ∧ wi q0 0 (z 5 - 1) = true ∧ wi q1 0 8 = true ∧ v = some (.int (fN z f k)) ∧ w = GW g o b c u h x z y ai pa tu tx len s n sv) (fun E w => w = GW g o b c u h x z y ai pa tu tx len s n sv ∧ ((wi q0 0 (z 5 - 1) = false ∧ E = IOB) ∨ ((∃ f, f < nf z ∧ q0 = nI f) ∧ wi q1 0 8 = false ∧ E = IAE))) := by
  refine UX.ofV (cc := cX5_feeder) (maxL := 3) (ret := some .int) (lv0 := [(0, .ref o), (1, .int q0), (2, .int q1)]) (by decide) rfl (Nat.le_of_ble_eq_true rfl) rfl ?_
  have hq : QFok g rmX5_feeder (fun v w => ∃ f k : Nat, f < nf z ∧ k < 9 ∧ q0 = nI f ∧ q1 = nI k ∧ wi q0 0 (z 5 - 1) = true ∧ wi q1 0 8 = true ∧ v = some (.int (fN z f k)) ∧ w = GW g o b c u h x z y ai pa tu tx len s n sv) (QFx g rmX5_feeder (fun v w => ∃ f k : Nat, f < nf z ∧ k < 9 ∧ q0 = nI f ∧ q1 = nI k ∧ wi q0 0 (z 5 - 1) = true ∧ wi q1 0 8 = true ∧ v = some (.int (fN z f k)) ∧ w = GW g o b c u h x z y ai pa tu tx len s n sv) (fun E w => w = GW g o b c u h x z y ai pa tu tx len s n sv ∧ ((wi q0 0 (z 5 - 1) = false ∧ E = IOB) ∨ ((∃ f, f < nf z ∧ q0 = nI f) ∧ wi q1 0 8 = false ∧ E = IAE)))) := QFx.q
  refine V.eqws (ws2 := (HD g o b c u h x) ++ (SW g b z) ++ (SW g c y) ++ (UW g u ai pa tu) ++ (BWs g x tx (nI len) s) ++ (HW g h n sv)) rfl ?_
  refine V.aload_n 0 rfl dX5_feeder_0 rfl ?_
  refine V.iload_n 1 rfl dX5_feeder_1 rfl ?_
  refine V.callVXP (F := []) [.int q0] [] (kX5_checkFeeder g hst o b c u h x z y ai pa tu tx len s n sv hF hF8 q0) gX5_feeder_X5_checkFeeder rfl (by show _ ∧ _ ∧ _ ∧ _ = some (1 : Nat); decide +kernel) ⟨(Nat.le_of_ble_eq_true rfl), (Nat.le_of_ble_eq_true rfl)⟩ (hc := (rfl : vwCl[5]? = some (RX5, TX5, 5))) 0 rfl (by rw [List.append_nil]; exact List.Perm.refl _) rfl (Nat.le_of_ble_eq_true rfl) ⟨(Nat.le_of_ble_eq_true rfl), (Nat.le_of_ble_eq_true rfl)⟩ ⟨(Nat.le_of_ble_eq_true rfl), (Nat.le_of_ble_eq_true rfl)⟩ dX5_feeder_2 (fun r w hq2 => by rw [hq2.1]; exact FST.rf) (fun E w hx => by rw [hx.1]; exact FST.rf) (fun E w hx => by rw [hx.1]) (fun E w hx => ?_) (fun r w hq2 => ?_)
  · obtain ⟨rfl, rfl, hx⟩ := hx; exact ⟨List.append_nil _, Or.inl ⟨hx, rfl⟩⟩
  obtain ⟨rfl, rfl, c0⟩ := hq2
  refine V.eqws (ws2 := (HD g o b c u h x) ++ (SW g b z) ++ (SW g c y) ++ (UW g u ai pa tu) ++ (BWs g x tx (nI len) s) ++ (HW g h n sv)) (List.append_nil _) ?_
  refine V.eqst (st2 := []) rfl ?_
  obtain ⟨f, hf, rfl⟩ := wi_f (m := nf z) (by omega) (by rw [← hF]; exact c0)
  refine V.iload_n 2 rfl dX5_feeder_5 rfl ?_
  refine V.iconst (v := 0) dX5_feeder_6 (by decide) ?_
  refine V.bipush (v := 8) dX5_feeder_7 (by decide) ?_
  refine V.callSX0 [.int q1, .int 0, .int 8] [] (kX5_checkRange g hst q1 0 8) gX5_feeder_X5_checkRange rfl (by show _ ∧ _ ∧ _ = some (3 : Nat); decide +kernel) ⟨(Nat.le_of_ble_eq_true rfl), (Nat.le_of_ble_eq_true rfl)⟩ rfl (Nat.le_of_ble_eq_true rfl) ⟨(Nat.le_of_ble_eq_true rfl), (Nat.le_of_ble_eq_true rfl)⟩ ⟨(Nat.le_of_ble_eq_true rfl), (Nat.le_of_ble_eq_true rfl)⟩ dX5_feeder_9 (fun E w hx => ?_) (fun r w hq2 => ?_)
  · obtain ⟨rfl, rfl, hx⟩ := hx; exact ⟨rfl, rfl, Or.inr (⟨⟨f, hf, rfl⟩, hx, rfl⟩)⟩
  obtain ⟨rfl, rfl, c1⟩ := hq2
  refine ⟨rfl, ?_⟩
  refine V.eqst (st2 := []) rfl ?_
  obtain ⟨k, hk, rfl⟩ := wi_nat c1 (show (8 : Int32) = nI 9 - 1 from by decide) (by decide) (by decide)
  refine V.iload_n 2 rfl dX5_feeder_12 rfl ?_
  refine V.bipush (v := 8) dX5_feeder_13 (by decide) ?_
  refine V.icmp_ne (tgt := 33) dX5_feeder_15 (by decide) (fun c15 => ?_) (fun c15 => ?_)
  · skip
    have hk8 : k < 8 := by have : k ≠ 8 := fun q => c15 (by rw [q]; rfl); omega
    refine V.aload_n 0 rfl dX5_feeder_33 rfl ?_
    refine V.get (v := .ref (b 0)) (fun w H => List.mem_cons_of_mem _ (List.mem_append_left _ (List.mem_append_left _ (List.mem_append_left _ (List.mem_append_left _ (List.mem_append_right _ H)))))) (hc := (rfl : vwCl[5]? = some (RX5, TX5, 5))) 0 0 (by decide) (List.mem_of_getElem? (i := 1) rfl) rfl rfl dX5_feeder_34 ?_
    refine V.get (v := .ref (b 2)) (fun w H => List.mem_cons_of_mem _ (List.mem_append_left _ (List.mem_append_left _ (List.mem_append_left _ (List.mem_append_right _ H))))) (hc := (rfl : vwCl[2]? = some (RX2, TX2, 12))) 1 8 (by decide) (List.mem_of_getElem? (i := 3) rfl) rfl rfl dX5_feeder_37 ?_
    refine V.iload_n 1 rfl dX5_feeder_40 rfl ?_
    refine V.iload_n 2 rfl dX5_feeder_41 rfl ?_
    refine V.callVf (ws2 := (HD g o b c u h x) ++ (SW g b z) ++ (SW g c y) ++ (UW g u ai pa tu) ++ (BWs g x tx (nI len) s) ++ (HW g h n sv)) (st2 := [.int ((sg z 12 64) (f * 8 + k))]) [.int (nI f), .int (nI k)] [] (kX3_at g (b 2) (b 3) 8 64 (sg z 12 64) f k (by first | omega | decide) (by first | omega | decide) (by first | omega | decide) (by first | omega | decide)) gX5_feeder_X3_at rfl (by show _ ∧ _ ∧ _ ∧ _ = some (2 : Nat); decide +kernel) ⟨Nat.le_of_ble_eq_true rfl, Nat.le_of_ble_eq_true rfl⟩ (hc := (rfl : vwCl[3]? = some (RX3, TX3, 2))) 3 rfl [3, 4] (by decide) rfl rfl (Nat.le_of_ble_eq_true rfl) ⟨Nat.le_of_ble_eq_true rfl, Nat.le_of_ble_eq_true rfl⟩ dX5_feeder_42 TWf (insW_of rfl rfl rfl) rfl rfl rfl ?_
    rw [sg_r (z := z) (o := 12) (n := 64) (r := f) (C := 8) (k := k) (by omega)]
    exact V.iret hq XMx.r (Nat.le_of_ble_eq_true rfl) (Nat.le_of_ble_eq_true rfl) ⟨f, k, hf, hk, rfl, rfl, c0, c1, (by rw [fN, if_pos hk8]), rfl⟩ dX5_feeder_45
  · skip
    have hk8 : ¬ k < 8 := by have : k = 8 := nI_ij (by omega) (by decide) c15; omega
    refine V.aload_n 0 rfl dX5_feeder_18 rfl ?_
    refine V.get (v := .ref (b 0)) (fun w H => List.mem_cons_of_mem _ (List.mem_append_left _ (List.mem_append_left _ (List.mem_append_left _ (List.mem_append_left _ (List.mem_append_right _ H)))))) (hc := (rfl : vwCl[5]? = some (RX5, TX5, 5))) 0 0 (by decide) (List.mem_of_getElem? (i := 1) rfl) rfl rfl dX5_feeder_19 ?_
    refine V.get (v := .ref (b 8)) (fun w H => List.mem_cons_of_mem _ (List.mem_append_left _ (List.mem_append_left _ (List.mem_append_left _ (List.mem_append_right _ H))))) (hc := (rfl : vwCl[2]? = some (RX2, TX2, 12))) 1 11 (by decide) (List.mem_of_getElem? (i := 2) rfl) rfl rfl dX5_feeder_22 ?_
    refine V.iconst (v := 4) dX5_feeder_25 (by decide) ?_
    refine V.iload_n 1 rfl dX5_feeder_26 rfl ?_
    refine V.callVf (ws2 := (HD g o b c u h x) ++ (SW g b z) ++ (SW g c y) ++ (UW g u ai pa tu) ++ (BWs g x tx (nI len) s) ++ (HW g h n sv)) (st2 := [.int (fu (tsF (sg z 216 32) 8 f) 0 4 0)]) [.int 4, .int (nI f)] [] (kX3_sum g (b 8) (b 9) 8 32 (sg z 216 32) 4 f (by decide) (by decide) (by decide) (by omega) (fun r hr => by omega)) gX5_feeder_X3_sum rfl (by show _ ∧ _ ∧ _ ∧ _ = some (2 : Nat); decide +kernel) ⟨Nat.le_of_ble_eq_true rfl, Nat.le_of_ble_eq_true rfl⟩ (hc := (rfl : vwCl[3]? = some (RX3, TX3, 2))) 9 rfl [9, 10] (by decide) rfl rfl (Nat.le_of_ble_eq_true rfl) ⟨Nat.le_of_ble_eq_true rfl, Nat.le_of_ble_eq_true rfl⟩ dX5_feeder_27 TWf (insW_of rfl rfl rfl) rfl rfl rfl ?_
    rw [ts_tS (by omega)]
    refine V.goto (tgt := 45) dX5_feeder_30 (by decide) ?_
    exact V.iret hq XMx.r (Nat.le_of_ble_eq_true rfl) (Nat.le_of_ble_eq_true rfl) ⟨f, k, hf, hk, rfl, rfl, c0, c1, (by rw [fN, if_neg hk8]), rfl⟩ dX5_feeder_45
abbrev rmX5_place : Room := { frames := 7, cells := 1, slots := 6, locals := 104 }
set_option maxHeartbeats 4000000 in
set_option maxRecDepth 100000 in
theorem kX5_place (g : GT) (hst : g.1.stackTraces = false) (o : Nat) (b c u h x : Nat → Nat) (z y ai pa tu tx : Nat → Int32) (len : Nat) (s : BS) (n : Nat) (sv : SV) (q0 q1 : Int32) (hP : z 6 = nI (np z)) (hP24 : np z ≤ 24) : UX g yX5_place wsX5_place rmX5_place [.ref o, .int q0, .int q1] (GW g o b c u h x z y ai pa tu tx len s n sv) (fun v w => ∃ p k : Nat, p < np z ∧ k < 5 ∧ q0 = nI p ∧ q1 = nI k ∧ wi q0 0 (z 6 - 1) = true ∧ wi q1 0 4 = true ∧ v = some (.int (z (76 + 5 * p + k))) ∧ w = GW g o b c u h x z y ai pa tu tx len s n sv) (fun E w => w = GW g o b c u h x z y ai pa tu tx len s n sv ∧ ((wi q0 0 (z 6 - 1) = false ∧ E = IOB) ∨ ((∃ p, p < np z ∧ q0 = nI p) ∧ wi q1 0 4 = false ∧ E = IAE))) := by
  refine UX.ofV (cc := cX5_place) (maxL := 3) (ret := some .int) (lv0 := [(0, .ref o), (1, .int q0), (2, .int q1)]) (by decide) rfl (Nat.le_of_ble_eq_true rfl) rfl ?_
  have hq : QFok g rmX5_place (fun v w => ∃ p k : Nat, p < np z ∧ k < 5 ∧ q0 = nI p ∧ q1 = nI k ∧ wi q0 0 (z 6 - 1) = true ∧ wi q1 0 4 = true ∧ v = some (.int (z (76 + 5 * p + k))) ∧ w = GW g o b c u h x z y ai pa tu tx len s n sv) (QFx g rmX5_place (fun v w => ∃ p k : Nat, p < np z ∧ k < 5 ∧ q0 = nI p ∧ q1 = nI k ∧ wi q0 0 (z 6 - 1) = true ∧ wi q1 0 4 = true ∧ v = some (.int (z (76 + 5 * p + k))) ∧ w = GW g o b c u h x z y ai pa tu tx len s n sv) (fun E w => w = GW g o b c u h x z y ai pa tu tx len s n sv ∧ ((wi q0 0 (z 6 - 1) = false ∧ E = IOB) ∨ ((∃ p, p < np z ∧ q0 = nI p) ∧ wi q1 0 4 = false ∧ E = IAE)))) := QFx.q
  refine V.eqws (ws2 := (HD g o b c u h x) ++ (SW g b z) ++ (SW g c y) ++ (UW g u ai pa tu) ++ (BWs g x tx (nI len) s) ++ (HW g h n sv)) rfl ?_
  refine V.iload_n 1 rfl dX5_place_0 rfl ?_
  refine V.if_lt (tgt := 15) dX5_place_1 (by decide) (fun c1 => ?_) (fun c1 => ?_)
  · skip
    exact V.throwS (text := "no such place") hst (by decide +kernel) (List.mem_of_getElem? (i := 1) rfl) (List.mem_of_getElem? (i := 2) rfl) (by decide) vx_gd3 (fun w H => List.mem_cons_of_mem _ (List.mem_append_left _ (List.mem_append_right _ H))) dX5_place_15 dX5_place_18 dX5_place_19 dX5_place_21 dX5_place_24 (Nat.le_of_ble_eq_true rfl) (Nat.le_of_ble_eq_true rfl) (Nat.le_of_ble_eq_true rfl) (Nat.le_of_ble_eq_true rfl) ⟨rfl, Or.inl ⟨by rw [hP, wi_ct (by omega), decide_eq_true c1] <;> rfl, rfl⟩⟩ (Nat.le_of_ble_eq_true rfl) (Nat.le_of_ble_eq_true rfl)
  · skip
    refine V.iload_n 1 rfl dX5_place_4 rfl ?_
    refine V.aload_n 0 rfl dX5_place_5 rfl ?_
    refine V.get (v := .ref (b 0)) (fun w H => List.mem_cons_of_mem _ (List.mem_append_left _ (List.mem_append_left _ (List.mem_append_left _ (List.mem_append_left _ (List.mem_append_right _ H)))))) (hc := (rfl : vwCl[5]? = some (RX5, TX5, 5))) 0 0 (by decide) (List.mem_of_getElem? (i := 3) rfl) rfl rfl dX5_place_6 ?_
    refine V.get (v := .int (z 6)) (fun w H => List.mem_cons_of_mem _ (List.mem_append_left _ (List.mem_append_left _ (List.mem_append_left _ (List.mem_append_right _ H))))) (hc := (rfl : vwCl[2]? = some (RX2, TX2, 12))) 1 1 (by decide) (List.mem_of_getElem? (i := 4) rfl) rfl rfl dX5_place_9 ?_
    refine V.icmp_lt (tgt := 25) dX5_place_12 (by decide) (fun c12 => ?_) (fun c12 => ?_)
    · skip
      have c0 : wi q0 0 (z 6 - 1) = true := by rw [hP, wi_ct (by omega), decide_eq_false c1, decide_eq_false (by rw [← hP]; exact Int32.not_le.mpr c12)] <;> rfl
      obtain ⟨p, hp, rfl⟩ := wi_f (m := np z) (by omega) (by rw [← hP]; exact c0)
      refine V.iload_n 2 rfl dX5_place_25 rfl ?_
      refine V.iconst (v := 0) dX5_place_26 (by decide) ?_
      refine V.iconst (v := 4) dX5_place_27 (by decide) ?_
      refine V.callSX0 [.int q1, .int 0, .int 4] [] (kX5_checkRange g hst q1 0 4) gX5_place_X5_checkRange rfl (by show _ ∧ _ ∧ _ = some (3 : Nat); decide +kernel) ⟨(Nat.le_of_ble_eq_true rfl), (Nat.le_of_ble_eq_true rfl)⟩ rfl (Nat.le_of_ble_eq_true rfl) ⟨(Nat.le_of_ble_eq_true rfl), (Nat.le_of_ble_eq_true rfl)⟩ ⟨(Nat.le_of_ble_eq_true rfl), (Nat.le_of_ble_eq_true rfl)⟩ dX5_place_28 (fun E w hx => ?_) (fun r w hq2 => ?_)
      · obtain ⟨rfl, rfl, hx⟩ := hx; exact ⟨rfl, rfl, Or.inr (⟨⟨p, hp, rfl⟩, hx, rfl⟩)⟩
      obtain ⟨rfl, rfl, c2⟩ := hq2
      refine ⟨rfl, ?_⟩
      refine V.eqst (st2 := []) rfl ?_
      obtain ⟨k, hk, rfl⟩ := wi_nat c2 (show (4 : Int32) = nI 5 - 1 from by decide) (by decide) (by decide)
      refine V.aload_n 0 rfl dX5_place_31 rfl ?_
      refine V.get (v := .ref (b 0)) (fun w H => List.mem_cons_of_mem _ (List.mem_append_left _ (List.mem_append_left _ (List.mem_append_left _ (List.mem_append_left _ (List.mem_append_right _ H)))))) (hc := (rfl : vwCl[5]? = some (RX5, TX5, 5))) 0 0 (by decide) (List.mem_of_getElem? (i := 3) rfl) rfl rfl dX5_place_32 ?_
      refine V.get (v := .ref (b 4)) (fun w H => List.mem_cons_of_mem _ (List.mem_append_left _ (List.mem_append_left _ (List.mem_append_left _ (List.mem_append_right _ H))))) (hc := (rfl : vwCl[2]? = some (RX2, TX2, 12))) 1 9 (by decide) (List.mem_of_getElem? (i := 5) rfl) rfl rfl dX5_place_35 ?_
      refine V.iload_n 1 rfl dX5_place_38 rfl ?_
      refine V.iload_n 2 rfl dX5_place_39 rfl ?_
      refine V.callVf (ws2 := (HD g o b c u h x) ++ (SW g b z) ++ (SW g c y) ++ (UW g u ai pa tu) ++ (BWs g x tx (nI len) s) ++ (HW g h n sv)) (st2 := [.int ((sg z 76 120) (p * 5 + k))]) [.int (nI p), .int (nI k)] [] (kX3_at g (b 4) (b 5) 5 120 (sg z 76 120) p k (by first | omega | decide) (by first | omega | decide) (by first | omega | decide) (by first | omega | decide)) gX5_place_X3_at rfl (by show _ ∧ _ ∧ _ ∧ _ = some (2 : Nat); decide +kernel) ⟨Nat.le_of_ble_eq_true rfl, Nat.le_of_ble_eq_true rfl⟩ (hc := (rfl : vwCl[3]? = some (RX3, TX3, 2))) 5 rfl [5, 6] (by decide) rfl rfl (Nat.le_of_ble_eq_true rfl) ⟨Nat.le_of_ble_eq_true rfl, Nat.le_of_ble_eq_true rfl⟩ dX5_place_40 TWf (insW_of rfl rfl rfl) rfl rfl rfl ?_
      rw [sg_r (z := z) (o := 76) (n := 120) (r := p) (C := 5) (k := k) (by omega)]
      exact V.iret hq XMx.r (Nat.le_of_ble_eq_true rfl) (Nat.le_of_ble_eq_true rfl) ⟨p, k, hp, hk, rfl, rfl, c0, c2, rfl, rfl⟩ dX5_place_43
    · skip
      exact V.throwS (text := "no such place") hst (by decide +kernel) (List.mem_of_getElem? (i := 1) rfl) (List.mem_of_getElem? (i := 2) rfl) (by decide) vx_gd3 (fun w H => List.mem_cons_of_mem _ (List.mem_append_left _ (List.mem_append_right _ H))) dX5_place_15 dX5_place_18 dX5_place_19 dX5_place_21 dX5_place_24 (Nat.le_of_ble_eq_true rfl) (Nat.le_of_ble_eq_true rfl) (Nat.le_of_ble_eq_true rfl) (Nat.le_of_ble_eq_true rfl) ⟨rfl, Or.inl ⟨by rw [hP, wi_ct (by omega), decide_eq_false c1, decide_eq_true (by rw [← hP]; exact Int32.not_lt.mp c12)] <;> rfl, rfl⟩⟩ (Nat.le_of_ble_eq_true rfl) (Nat.le_of_ble_eq_true rfl)
abbrev rmX5_nozzle : Room := { frames := 7, cells := 2, slots := 12, locals := 104 }
set_option maxHeartbeats 4000000 in
set_option maxRecDepth 100000 in
theorem kX5_nozzle (g : GT) (hst : g.1.stackTraces = false) (o : Nat) (b c u h x : Nat → Nat) (z y ai pa tu tx : Nat → Int32) (len : Nat) (s : BS) (n : Nat) (sv : SV) (q0 q1 : Int32) : UX g yX5_nozzle wsX5_nozzle rmX5_nozzle [.ref o, .int q0, .int q1] (GW g o b c u h x z y ai pa tu tx len s n sv) (fun v w => ∃ j k : Nat, j < 4 ∧ k < 5 ∧ q0 = nI j ∧ q1 = nI k ∧ wi q0 0 3 = true ∧ wi q1 0 4 = true ∧ v = some (.int (z (196 + 5 * j + k))) ∧ w = GW g o b c u h x z y ai pa tu tx len s n sv) (fun E w => w = GW g o b c u h x z y ai pa tu tx len s n sv ∧ ((wi q0 0 3 = false ∧ E = IOB) ∨ ((∃ j, j < 4 ∧ q0 = nI j) ∧ wi q1 0 4 = false ∧ E = IAE))) := by
  refine UX.ofV (cc := cX5_nozzle) (maxL := 3) (ret := some .int) (lv0 := [(0, .ref o), (1, .int q0), (2, .int q1)]) (by decide) rfl (Nat.le_of_ble_eq_true rfl) rfl ?_
  have hq : QFok g rmX5_nozzle (fun v w => ∃ j k : Nat, j < 4 ∧ k < 5 ∧ q0 = nI j ∧ q1 = nI k ∧ wi q0 0 3 = true ∧ wi q1 0 4 = true ∧ v = some (.int (z (196 + 5 * j + k))) ∧ w = GW g o b c u h x z y ai pa tu tx len s n sv) (QFx g rmX5_nozzle (fun v w => ∃ j k : Nat, j < 4 ∧ k < 5 ∧ q0 = nI j ∧ q1 = nI k ∧ wi q0 0 3 = true ∧ wi q1 0 4 = true ∧ v = some (.int (z (196 + 5 * j + k))) ∧ w = GW g o b c u h x z y ai pa tu tx len s n sv) (fun E w => w = GW g o b c u h x z y ai pa tu tx len s n sv ∧ ((wi q0 0 3 = false ∧ E = IOB) ∨ ((∃ j, j < 4 ∧ q0 = nI j) ∧ wi q1 0 4 = false ∧ E = IAE)))) := QFx.q
  refine V.eqws (ws2 := (HD g o b c u h x) ++ (SW g b z) ++ (SW g c y) ++ (UW g u ai pa tu) ++ (BWs g x tx (nI len) s) ++ (HW g h n sv)) rfl ?_
  refine V.iload_n 1 rfl dX5_nozzle_0 rfl ?_
  refine V.callSX0 [.int q0] [] (kX5_checkNozzle g hst q0) gX5_nozzle_X5_checkNozzle rfl (by show _ ∧ _ ∧ _ = some (1 : Nat); decide +kernel) ⟨(Nat.le_of_ble_eq_true rfl), (Nat.le_of_ble_eq_true rfl)⟩ rfl (Nat.le_of_ble_eq_true rfl) ⟨(Nat.le_of_ble_eq_true rfl), (Nat.le_of_ble_eq_true rfl)⟩ ⟨(Nat.le_of_ble_eq_true rfl), (Nat.le_of_ble_eq_true rfl)⟩ dX5_nozzle_1 (fun E w hx => ?_) (fun r w hq2 => ?_)
  · obtain ⟨rfl, rfl, hx⟩ := hx; exact ⟨rfl, rfl, Or.inl ⟨hx, rfl⟩⟩
  obtain ⟨rfl, rfl, c0⟩ := hq2
  refine ⟨rfl, ?_⟩
  refine V.eqst (st2 := []) rfl ?_
  obtain ⟨j, hj, rfl⟩ := wi_nat c0 (show (3 : Int32) = nI 4 - 1 from by decide) (by decide) (by decide)
  refine V.iload_n 2 rfl dX5_nozzle_4 rfl ?_
  refine V.iconst (v := 0) dX5_nozzle_5 (by decide) ?_
  refine V.iconst (v := 4) dX5_nozzle_6 (by decide) ?_
  refine V.callSX0 [.int q1, .int 0, .int 4] [] (kX5_checkRange g hst q1 0 4) gX5_nozzle_X5_checkRange rfl (by show _ ∧ _ ∧ _ = some (3 : Nat); decide +kernel) ⟨(Nat.le_of_ble_eq_true rfl), (Nat.le_of_ble_eq_true rfl)⟩ rfl (Nat.le_of_ble_eq_true rfl) ⟨(Nat.le_of_ble_eq_true rfl), (Nat.le_of_ble_eq_true rfl)⟩ ⟨(Nat.le_of_ble_eq_true rfl), (Nat.le_of_ble_eq_true rfl)⟩ dX5_nozzle_7 (fun E w hx => ?_) (fun r w hq2 => ?_)
  · obtain ⟨rfl, rfl, hx⟩ := hx; exact ⟨rfl, rfl, Or.inr (⟨⟨j, hj, rfl⟩, hx, rfl⟩)⟩
  obtain ⟨rfl, rfl, c1⟩ := hq2
  refine ⟨rfl, ?_⟩
  refine V.eqst (st2 := []) rfl ?_
  obtain ⟨k, hk, rfl⟩ := wi_nat c1 (show (4 : Int32) = nI 5 - 1 from by decide) (by decide) (by decide)
  refine V.aload_n 0 rfl dX5_nozzle_10 rfl ?_
  refine V.get (v := .ref (b 0)) (fun w H => List.mem_cons_of_mem _ (List.mem_append_left _ (List.mem_append_left _ (List.mem_append_left _ (List.mem_append_left _ (List.mem_append_right _ H)))))) (hc := (rfl : vwCl[5]? = some (RX5, TX5, 5))) 0 0 (by decide) (List.mem_of_getElem? (i := 1) rfl) rfl rfl dX5_nozzle_11 ?_
  refine V.get (v := .ref (b 6)) (fun w H => List.mem_cons_of_mem _ (List.mem_append_left _ (List.mem_append_left _ (List.mem_append_left _ (List.mem_append_right _ H))))) (hc := (rfl : vwCl[2]? = some (RX2, TX2, 12))) 1 10 (by decide) (List.mem_of_getElem? (i := 2) rfl) rfl rfl dX5_nozzle_14 ?_
  refine V.iload_n 1 rfl dX5_nozzle_17 rfl ?_
  refine V.iload_n 2 rfl dX5_nozzle_18 rfl ?_
  refine V.callVf (ws2 := (HD g o b c u h x) ++ (SW g b z) ++ (SW g c y) ++ (UW g u ai pa tu) ++ (BWs g x tx (nI len) s) ++ (HW g h n sv)) (st2 := [.int ((sg z 196 20) (j * 5 + k))]) [.int (nI j), .int (nI k)] [] (kX3_at g (b 6) (b 7) 5 20 (sg z 196 20) j k (by first | omega | decide) (by first | omega | decide) (by first | omega | decide) (by first | omega | decide)) gX5_nozzle_X3_at rfl (by show _ ∧ _ ∧ _ ∧ _ = some (2 : Nat); decide +kernel) ⟨Nat.le_of_ble_eq_true rfl, Nat.le_of_ble_eq_true rfl⟩ (hc := (rfl : vwCl[3]? = some (RX3, TX3, 2))) 7 rfl [7, 8] (by decide) rfl rfl (Nat.le_of_ble_eq_true rfl) ⟨Nat.le_of_ble_eq_true rfl, Nat.le_of_ble_eq_true rfl⟩ dX5_nozzle_19 TWf (insW_of rfl rfl rfl) rfl rfl rfl ?_
  rw [sg_r (z := z) (o := 196) (n := 20) (r := j) (C := 5) (k := k) (by omega)]
  exact V.iret hq XMx.r (Nat.le_of_ble_eq_true rfl) (Nat.le_of_ble_eq_true rfl) ⟨j, k, hj, hk, rfl, rfl, c0, c1, rfl, rfl⟩ dX5_nozzle_22
abbrev rmX5_trust : Room := { frames := 7, cells := 2, slots := 12, locals := 103 }
set_option maxHeartbeats 4000000 in
set_option maxRecDepth 100000 in
theorem kX5_trust (g : GT) (hst : g.1.stackTraces = false) (o : Nat) (b c u h x : Nat → Nat) (z y ai pa tu tx : Nat → Int32) (len : Nat) (s : BS) (n : Nat) (sv : SV) (q0 q1 : Int32) (hF : z 5 = nI (nf z)) (hF8 : nf z ≤ 8) : UX g yX5_trust wsX5_trust rmX5_trust [.ref o, .int q0, .int q1] (GW g o b c u h x z y ai pa tu tx len s n sv) (fun v w => ∃ j f : Nat, j < 4 ∧ f < nf z ∧ q0 = nI j ∧ q1 = nI f ∧ wi q0 0 3 = true ∧ wi q1 0 (z 5 - 1) = true ∧ v = some (.int (z (216 + 8 * j + f))) ∧ w = GW g o b c u h x z y ai pa tu tx len s n sv) (fun E w => w = GW g o b c u h x z y ai pa tu tx len s n sv ∧ ((wi q0 0 3 = false ∧ E = IOB) ∨ ((∃ j, j < 4 ∧ q0 = nI j) ∧ wi q1 0 (z 5 - 1) = false ∧ E = IOB))) := by
  refine UX.ofV (cc := cX5_trust) (maxL := 3) (ret := some .int) (lv0 := [(0, .ref o), (1, .int q0), (2, .int q1)]) (by decide) rfl (Nat.le_of_ble_eq_true rfl) rfl ?_
  have hq : QFok g rmX5_trust (fun v w => ∃ j f : Nat, j < 4 ∧ f < nf z ∧ q0 = nI j ∧ q1 = nI f ∧ wi q0 0 3 = true ∧ wi q1 0 (z 5 - 1) = true ∧ v = some (.int (z (216 + 8 * j + f))) ∧ w = GW g o b c u h x z y ai pa tu tx len s n sv) (QFx g rmX5_trust (fun v w => ∃ j f : Nat, j < 4 ∧ f < nf z ∧ q0 = nI j ∧ q1 = nI f ∧ wi q0 0 3 = true ∧ wi q1 0 (z 5 - 1) = true ∧ v = some (.int (z (216 + 8 * j + f))) ∧ w = GW g o b c u h x z y ai pa tu tx len s n sv) (fun E w => w = GW g o b c u h x z y ai pa tu tx len s n sv ∧ ((wi q0 0 3 = false ∧ E = IOB) ∨ ((∃ j, j < 4 ∧ q0 = nI j) ∧ wi q1 0 (z 5 - 1) = false ∧ E = IOB)))) := QFx.q
  refine V.eqws (ws2 := (HD g o b c u h x) ++ (SW g b z) ++ (SW g c y) ++ (UW g u ai pa tu) ++ (BWs g x tx (nI len) s) ++ (HW g h n sv)) rfl ?_
  refine V.iload_n 1 rfl dX5_trust_0 rfl ?_
  refine V.callSX0 [.int q0] [] (kX5_checkNozzle g hst q0) gX5_trust_X5_checkNozzle rfl (by show _ ∧ _ ∧ _ = some (1 : Nat); decide +kernel) ⟨(Nat.le_of_ble_eq_true rfl), (Nat.le_of_ble_eq_true rfl)⟩ rfl (Nat.le_of_ble_eq_true rfl) ⟨(Nat.le_of_ble_eq_true rfl), (Nat.le_of_ble_eq_true rfl)⟩ ⟨(Nat.le_of_ble_eq_true rfl), (Nat.le_of_ble_eq_true rfl)⟩ dX5_trust_1 (fun E w hx => ?_) (fun r w hq2 => ?_)
  · obtain ⟨rfl, rfl, hx⟩ := hx; exact ⟨rfl, rfl, Or.inl ⟨hx, rfl⟩⟩
  obtain ⟨rfl, rfl, c1⟩ := hq2
  refine ⟨rfl, ?_⟩
  refine V.eqst (st2 := []) rfl ?_
  obtain ⟨j, hj, rfl⟩ := wi_nat c1 (show (3 : Int32) = nI 4 - 1 from by decide) (by decide) (by decide)
  refine V.aload_n 0 rfl dX5_trust_4 rfl ?_
  refine V.iload_n 2 rfl dX5_trust_5 rfl ?_
  refine V.callVXP (F := []) [.int q1] [] (kX5_checkFeeder g hst o b c u h x z y ai pa tu tx len s n sv hF hF8 q1) gX5_trust_X5_checkFeeder rfl (by show _ ∧ _ ∧ _ ∧ _ = some (1 : Nat); decide +kernel) ⟨(Nat.le_of_ble_eq_true rfl), (Nat.le_of_ble_eq_true rfl)⟩ (hc := (rfl : vwCl[5]? = some (RX5, TX5, 5))) 0 rfl (by rw [List.append_nil]; exact List.Perm.refl _) rfl (Nat.le_of_ble_eq_true rfl) ⟨(Nat.le_of_ble_eq_true rfl), (Nat.le_of_ble_eq_true rfl)⟩ ⟨(Nat.le_of_ble_eq_true rfl), (Nat.le_of_ble_eq_true rfl)⟩ dX5_trust_6 (fun r w hq2 => by rw [hq2.1]; exact FST.rf) (fun E w hx => by rw [hx.1]; exact FST.rf) (fun E w hx => by rw [hx.1]) (fun E w hx => ?_) (fun r w hq2 => ?_)
  · obtain ⟨rfl, rfl, hx⟩ := hx; exact ⟨List.append_nil _, Or.inr (⟨⟨j, hj, rfl⟩, hx, rfl⟩)⟩
  obtain ⟨rfl, rfl, c0⟩ := hq2
  refine V.eqws (ws2 := (HD g o b c u h x) ++ (SW g b z) ++ (SW g c y) ++ (UW g u ai pa tu) ++ (BWs g x tx (nI len) s) ++ (HW g h n sv)) (List.append_nil _) ?_
  refine V.eqst (st2 := []) rfl ?_
  obtain ⟨f, hf, rfl⟩ := wi_f (m := nf z) (by omega) (by rw [← hF]; exact c0)
  refine V.aload_n 0 rfl dX5_trust_9 rfl ?_
  refine V.get (v := .ref (b 0)) (fun w H => List.mem_cons_of_mem _ (List.mem_append_left _ (List.mem_append_left _ (List.mem_append_left _ (List.mem_append_right _ H))))) (hc := (rfl : vwCl[5]? = some (RX5, TX5, 5))) 0 0 (by decide) (List.mem_of_getElem? (i := 1) rfl) rfl rfl dX5_trust_10 ?_
  refine V.get (v := .ref (b 8)) (fun w H => List.mem_cons_of_mem _ (List.mem_append_left _ (List.mem_append_left _ (List.mem_append_right _ H)))) (hc := (rfl : vwCl[2]? = some (RX2, TX2, 12))) 1 11 (by decide) (List.mem_of_getElem? (i := 2) rfl) rfl rfl dX5_trust_13 ?_
  refine V.iload_n 1 rfl dX5_trust_16 rfl ?_
  refine V.iload_n 2 rfl dX5_trust_17 rfl ?_
  refine V.callVf (ws2 := (HD g o b c u h x) ++ (SW g b z) ++ (SW g c y) ++ (UW g u ai pa tu) ++ (BWs g x tx (nI len) s) ++ (HW g h n sv)) (st2 := [.int ((sg z 216 32) (j * 8 + f))]) [.int (nI j), .int (nI f)] [] (kX3_at g (b 8) (b 9) 8 32 (sg z 216 32) j f (by first | omega | decide) (by first | omega | decide) (by first | omega | decide) (by first | omega | decide)) gX5_trust_X3_at rfl (by show _ ∧ _ ∧ _ ∧ _ = some (2 : Nat); decide +kernel) ⟨Nat.le_of_ble_eq_true rfl, Nat.le_of_ble_eq_true rfl⟩ (hc := (rfl : vwCl[3]? = some (RX3, TX3, 2))) 9 rfl [9, 10] (by decide) rfl rfl (Nat.le_of_ble_eq_true rfl) ⟨Nat.le_of_ble_eq_true rfl, Nat.le_of_ble_eq_true rfl⟩ dX5_trust_18 TWf (insW_of rfl rfl rfl) rfl rfl rfl ?_
  rw [sg_r (z := z) (o := 216) (n := 32) (r := j) (C := 8) (k := f) (by omega)]
  exact V.iret hq XMx.r (Nat.le_of_ble_eq_true rfl) (Nat.le_of_ble_eq_true rfl) ⟨j, f, hj, hf, rfl, rfl, c1, c0, rfl, rfl⟩ dX5_trust_21
abbrev rmX5_count : Room := { frames := 6, cells := 1, slots := 6, locals := 82 }
set_option maxHeartbeats 4000000 in
set_option maxRecDepth 100000 in
theorem kX5_count (g : GT) (hst : g.1.stackTraces = false) (o : Nat) (b c u h x : Nat → Nat) (z y ai pa tu tx : Nat → Int32) (len : Nat) (s : BS) (n : Nat) (sv : SV) (q0 : Int32) (hF : z 5 = nI (nf z)) (hF8 : nf z ≤ 8) (hP : z 6 = nI (np z)) (hP24 : np z ≤ 24) : UX g yX5_count wsX5_count rmX5_count [.ref o, .int q0] (GW g o b c u h x z y ai pa tu tx len s n sv) (fun v w => ∃ k : Nat, k < 14 ∧ q0 = nI k ∧ wi q0 0 13 = true ∧ v = some (.int (ctd z n k)) ∧ w = GW g o b c u h x z y ai pa tu tx len s n sv) (fun E w => w = GW g o b c u h x z y ai pa tu tx len s n sv ∧ (wi q0 0 13 = false ∧ E = IAE)) := by
  refine UX.ofV (cc := cX5_count) (maxL := 2) (ret := some .int) (lv0 := [(0, .ref o), (1, .int q0)]) (by decide) rfl (Nat.le_of_ble_eq_true rfl) rfl ?_
  have hq : QFok g rmX5_count (fun v w => ∃ k : Nat, k < 14 ∧ q0 = nI k ∧ wi q0 0 13 = true ∧ v = some (.int (ctd z n k)) ∧ w = GW g o b c u h x z y ai pa tu tx len s n sv) (QFx g rmX5_count (fun v w => ∃ k : Nat, k < 14 ∧ q0 = nI k ∧ wi q0 0 13 = true ∧ v = some (.int (ctd z n k)) ∧ w = GW g o b c u h x z y ai pa tu tx len s n sv) (fun E w => w = GW g o b c u h x z y ai pa tu tx len s n sv ∧ (wi q0 0 13 = false ∧ E = IAE))) := QFx.q
  refine V.eqws (ws2 := (HD g o b c u h x) ++ (SW g b z) ++ (SW g c y) ++ (UW g u ai pa tu) ++ (BWs g x tx (nI len) s) ++ (HW g h n sv)) rfl ?_
  refine V.iload_n 1 rfl dX5_count_0 rfl ?_
  rcases (Bool.eq_false_or_eq_true (wi q0 0 13)).symm with c0 | c0
  · skip
    refine V.tableOut (tgt := 203) (wi_out (m := 13) (by decide) c0) dX5_count_1 (by decide) ?_
    exact V.throwS (text := "no such number") hst (by decide +kernel) (List.mem_of_getElem? (i := 1) rfl) (List.mem_of_getElem? (i := 2) rfl) (by decide) vx_gd2 (fun w H => List.mem_cons_of_mem _ (List.mem_append_right _ H)) dX5_count_203 dX5_count_206 dX5_count_207 dX5_count_209 dX5_count_212 (Nat.le_of_ble_eq_true rfl) (Nat.le_of_ble_eq_true rfl) (Nat.le_of_ble_eq_true rfl) (Nat.le_of_ble_eq_true rfl) ⟨rfl, c0, rfl⟩ (Nat.le_of_ble_eq_true rfl) (Nat.le_of_ble_eq_true rfl)
  · skip
    obtain ⟨k, hk, rfl⟩ := wi_nat c0 (show (13 : Int32) = nI 14 - 1 from by decide) (by decide) (by decide)
    rcases (show k = 0 ∨ k = 1 ∨ k = 2 ∨ k = 3 ∨ k = 4 ∨ k = 5 ∨ k = 6 ∨ k = 7 ∨ k = 8 ∨ k = 9 ∨ k = 10 ∨ k = 11 ∨ k = 12 ∨ k = 13 by omega) with rfl | rfl | rfl | rfl | rfl | rfl | rfl | rfl | rfl | rfl | rfl | rfl | rfl | rfl
    · skip
      refine V.tableIn (off := 71) (tgt := 72) (by decide) (by decide) (by decide) dX5_count_1 (by decide) ?_
      refine V.aload_n 0 rfl dX5_count_72 rfl ?_
      refine V.get (v := .ref (b 0)) (fun w H => List.mem_cons_of_mem _ (List.mem_append_left _ (List.mem_append_left _ (List.mem_append_left _ (List.mem_append_left _ (List.mem_append_right _ H)))))) (hc := (rfl : vwCl[5]? = some (RX5, TX5, 5))) 0 0 (by decide) (List.mem_of_getElem? (i := 3) rfl) rfl rfl dX5_count_73 ?_
      refine V.get (v := .int (z 5)) (fun w H => List.mem_cons_of_mem _ (List.mem_append_left _ (List.mem_append_left _ (List.mem_append_left _ (List.mem_append_right _ H))))) (hc := (rfl : vwCl[2]? = some (RX2, TX2, 12))) 1 0 (by decide) (List.mem_of_getElem? (i := 4) rfl) rfl rfl dX5_count_76 ?_
      exact V.iret hq XMx.r (Nat.le_of_ble_eq_true rfl) (Nat.le_of_ble_eq_true rfl) ⟨0, hk, rfl, c0, rfl, rfl⟩ dX5_count_79
    · skip
      refine V.tableIn (off := 79) (tgt := 80) (by decide) (by decide) (by decide) dX5_count_1 (by decide) ?_
      refine V.aload_n 0 rfl dX5_count_80 rfl ?_
      refine V.get (v := .ref (b 0)) (fun w H => List.mem_cons_of_mem _ (List.mem_append_left _ (List.mem_append_left _ (List.mem_append_left _ (List.mem_append_left _ (List.mem_append_right _ H)))))) (hc := (rfl : vwCl[5]? = some (RX5, TX5, 5))) 0 0 (by decide) (List.mem_of_getElem? (i := 3) rfl) rfl rfl dX5_count_81 ?_
      refine V.get (v := .int (z 6)) (fun w H => List.mem_cons_of_mem _ (List.mem_append_left _ (List.mem_append_left _ (List.mem_append_left _ (List.mem_append_right _ H))))) (hc := (rfl : vwCl[2]? = some (RX2, TX2, 12))) 1 1 (by decide) (List.mem_of_getElem? (i := 5) rfl) rfl rfl dX5_count_84 ?_
      exact V.iret hq XMx.r (Nat.le_of_ble_eq_true rfl) (Nat.le_of_ble_eq_true rfl) ⟨1, hk, rfl, c0, rfl, rfl⟩ dX5_count_87
    · skip
      refine V.tableIn (off := 87) (tgt := 88) (by decide) (by decide) (by decide) dX5_count_1 (by decide) ?_
      refine V.aload_n 0 rfl dX5_count_88 rfl ?_
      refine V.get (v := .ref (b 0)) (fun w H => List.mem_cons_of_mem _ (List.mem_append_left _ (List.mem_append_left _ (List.mem_append_left _ (List.mem_append_left _ (List.mem_append_right _ H)))))) (hc := (rfl : vwCl[5]? = some (RX5, TX5, 5))) 0 0 (by decide) (List.mem_of_getElem? (i := 3) rfl) rfl rfl dX5_count_89 ?_
      refine V.get (v := .int (z 7)) (fun w H => List.mem_cons_of_mem _ (List.mem_append_left _ (List.mem_append_left _ (List.mem_append_left _ (List.mem_append_right _ H))))) (hc := (rfl : vwCl[2]? = some (RX2, TX2, 12))) 1 2 (by decide) (List.mem_of_getElem? (i := 6) rfl) rfl rfl dX5_count_92 ?_
      exact V.iret hq XMx.r (Nat.le_of_ble_eq_true rfl) (Nat.le_of_ble_eq_true rfl) ⟨2, hk, rfl, c0, rfl, rfl⟩ dX5_count_95
    · skip
      refine V.tableIn (off := 95) (tgt := 96) (by decide) (by decide) (by decide) dX5_count_1 (by decide) ?_
      refine V.aload_n 0 rfl dX5_count_96 rfl ?_
      refine V.get (v := .ref (b 0)) (fun w H => List.mem_cons_of_mem _ (List.mem_append_left _ (List.mem_append_left _ (List.mem_append_left _ (List.mem_append_left _ (List.mem_append_right _ H)))))) (hc := (rfl : vwCl[5]? = some (RX5, TX5, 5))) 0 0 (by decide) (List.mem_of_getElem? (i := 3) rfl) rfl rfl dX5_count_97 ?_
      refine V.get (v := .int (z 8)) (fun w H => List.mem_cons_of_mem _ (List.mem_append_left _ (List.mem_append_left _ (List.mem_append_left _ (List.mem_append_right _ H))))) (hc := (rfl : vwCl[2]? = some (RX2, TX2, 12))) 1 3 (by decide) (List.mem_of_getElem? (i := 7) rfl) rfl rfl dX5_count_100 ?_
      exact V.iret hq XMx.r (Nat.le_of_ble_eq_true rfl) (Nat.le_of_ble_eq_true rfl) ⟨3, hk, rfl, c0, rfl, rfl⟩ dX5_count_103
    · skip
      refine V.tableIn (off := 103) (tgt := 104) (by decide) (by decide) (by decide) dX5_count_1 (by decide) ?_
      refine V.aload_n 0 rfl dX5_count_104 rfl ?_
      refine V.get (v := .ref (b 0)) (fun w H => List.mem_cons_of_mem _ (List.mem_append_left _ (List.mem_append_left _ (List.mem_append_left _ (List.mem_append_left _ (List.mem_append_right _ H)))))) (hc := (rfl : vwCl[5]? = some (RX5, TX5, 5))) 0 0 (by decide) (List.mem_of_getElem? (i := 3) rfl) rfl rfl dX5_count_105 ?_
      refine V.get (v := .int (z 9)) (fun w H => List.mem_cons_of_mem _ (List.mem_append_left _ (List.mem_append_left _ (List.mem_append_left _ (List.mem_append_right _ H))))) (hc := (rfl : vwCl[2]? = some (RX2, TX2, 12))) 1 4 (by decide) (List.mem_of_getElem? (i := 8) rfl) rfl rfl dX5_count_108 ?_
      exact V.iret hq XMx.r (Nat.le_of_ble_eq_true rfl) (Nat.le_of_ble_eq_true rfl) ⟨4, hk, rfl, c0, rfl, rfl⟩ dX5_count_111
    · skip
      refine V.tableIn (off := 111) (tgt := 112) (by decide) (by decide) (by decide) dX5_count_1 (by decide) ?_
      refine V.aload_n 0 rfl dX5_count_112 rfl ?_
      refine V.get (v := .ref (b 0)) (fun w H => List.mem_cons_of_mem _ (List.mem_append_left _ (List.mem_append_left _ (List.mem_append_left _ (List.mem_append_left _ (List.mem_append_right _ H)))))) (hc := (rfl : vwCl[5]? = some (RX5, TX5, 5))) 0 0 (by decide) (List.mem_of_getElem? (i := 3) rfl) rfl rfl dX5_count_113 ?_
      refine V.get (v := .int (z 10)) (fun w H => List.mem_cons_of_mem _ (List.mem_append_left _ (List.mem_append_left _ (List.mem_append_left _ (List.mem_append_right _ H))))) (hc := (rfl : vwCl[2]? = some (RX2, TX2, 12))) 1 5 (by decide) (List.mem_of_getElem? (i := 9) rfl) rfl rfl dX5_count_116 ?_
      exact V.iret hq XMx.r (Nat.le_of_ble_eq_true rfl) (Nat.le_of_ble_eq_true rfl) ⟨5, hk, rfl, c0, rfl, rfl⟩ dX5_count_119
    · skip
      refine V.tableIn (off := 119) (tgt := 120) (by decide) (by decide) (by decide) dX5_count_1 (by decide) ?_
      refine V.aload_n 0 rfl dX5_count_120 rfl ?_
      refine V.get (v := .ref (b 0)) (fun w H => List.mem_cons_of_mem _ (List.mem_append_left _ (List.mem_append_left _ (List.mem_append_left _ (List.mem_append_left _ (List.mem_append_right _ H)))))) (hc := (rfl : vwCl[5]? = some (RX5, TX5, 5))) 0 0 (by decide) (List.mem_of_getElem? (i := 3) rfl) rfl rfl dX5_count_121 ?_
      refine V.iconst (v := 0) dX5_count_124 (by decide) ?_
      refine V.callVPf (ws2 := (HD g o b c u h x) ++ (SW g b z) ++ (SW g c y) ++ (UW g u ai pa tu) ++ (BWs g x tx (nI len) s) ++ (HW g h n sv)) (st2 := [.int (pT z (0 : Int32))]) [.int 0] [] (kX2_placesWith g b z (0 : Int32) hP hP24) gX5_count_X2_placesWith rfl (by show _ ∧ _ ∧ _ ∧ _ = some (1 : Nat); decide +kernel) ⟨Nat.le_of_ble_eq_true rfl, Nat.le_of_ble_eq_true rfl⟩ (hc := (rfl : vwCl[2]? = some (RX2, TX2, 12))) 0 rfl pv6_1 rfl (Nat.le_of_ble_eq_true rfl) ⟨Nat.le_of_ble_eq_true rfl, Nat.le_of_ble_eq_true rfl⟩ dX5_count_125 SWm pv6_1.symm rfl rfl rfl ?_
      exact V.iret hq XMx.r (Nat.le_of_ble_eq_true rfl) (Nat.le_of_ble_eq_true rfl) ⟨6, hk, rfl, c0, rfl, rfl⟩ dX5_count_128
    · skip
      refine V.tableIn (off := 128) (tgt := 129) (by decide) (by decide) (by decide) dX5_count_1 (by decide) ?_
      refine V.aload_n 0 rfl dX5_count_129 rfl ?_
      refine V.get (v := .ref (b 0)) (fun w H => List.mem_cons_of_mem _ (List.mem_append_left _ (List.mem_append_left _ (List.mem_append_left _ (List.mem_append_left _ (List.mem_append_right _ H)))))) (hc := (rfl : vwCl[5]? = some (RX5, TX5, 5))) 0 0 (by decide) (List.mem_of_getElem? (i := 3) rfl) rfl rfl dX5_count_130 ?_
      refine V.iconst (v := 1) dX5_count_133 (by decide) ?_
      refine V.callVPf (ws2 := (HD g o b c u h x) ++ (SW g b z) ++ (SW g c y) ++ (UW g u ai pa tu) ++ (BWs g x tx (nI len) s) ++ (HW g h n sv)) (st2 := [.int (pT z (1 : Int32))]) [.int 1] [] (kX2_placesWith g b z (1 : Int32) hP hP24) gX5_count_X2_placesWith rfl (by show _ ∧ _ ∧ _ ∧ _ = some (1 : Nat); decide +kernel) ⟨Nat.le_of_ble_eq_true rfl, Nat.le_of_ble_eq_true rfl⟩ (hc := (rfl : vwCl[2]? = some (RX2, TX2, 12))) 0 rfl pv6_1 rfl (Nat.le_of_ble_eq_true rfl) ⟨Nat.le_of_ble_eq_true rfl, Nat.le_of_ble_eq_true rfl⟩ dX5_count_134 SWm pv6_1.symm rfl rfl rfl ?_
      exact V.iret hq XMx.r (Nat.le_of_ble_eq_true rfl) (Nat.le_of_ble_eq_true rfl) ⟨7, hk, rfl, c0, rfl, rfl⟩ dX5_count_137
    · skip
      refine V.tableIn (off := 137) (tgt := 138) (by decide) (by decide) (by decide) dX5_count_1 (by decide) ?_
      refine V.aload_n 0 rfl dX5_count_138 rfl ?_
      refine V.get (v := .ref (b 0)) (fun w H => List.mem_cons_of_mem _ (List.mem_append_left _ (List.mem_append_left _ (List.mem_append_left _ (List.mem_append_left _ (List.mem_append_right _ H)))))) (hc := (rfl : vwCl[5]? = some (RX5, TX5, 5))) 0 0 (by decide) (List.mem_of_getElem? (i := 3) rfl) rfl rfl dX5_count_139 ?_
      refine V.iconst (v := 2) dX5_count_142 (by decide) ?_
      refine V.callVPf (ws2 := (HD g o b c u h x) ++ (SW g b z) ++ (SW g c y) ++ (UW g u ai pa tu) ++ (BWs g x tx (nI len) s) ++ (HW g h n sv)) (st2 := [.int (pT z (2 : Int32))]) [.int 2] [] (kX2_placesWith g b z (2 : Int32) hP hP24) gX5_count_X2_placesWith rfl (by show _ ∧ _ ∧ _ ∧ _ = some (1 : Nat); decide +kernel) ⟨Nat.le_of_ble_eq_true rfl, Nat.le_of_ble_eq_true rfl⟩ (hc := (rfl : vwCl[2]? = some (RX2, TX2, 12))) 0 rfl pv6_1 rfl (Nat.le_of_ble_eq_true rfl) ⟨Nat.le_of_ble_eq_true rfl, Nat.le_of_ble_eq_true rfl⟩ dX5_count_143 SWm pv6_1.symm rfl rfl rfl ?_
      exact V.iret hq XMx.r (Nat.le_of_ble_eq_true rfl) (Nat.le_of_ble_eq_true rfl) ⟨8, hk, rfl, c0, rfl, rfl⟩ dX5_count_146
    · skip
      refine V.tableIn (off := 146) (tgt := 147) (by decide) (by decide) (by decide) dX5_count_1 (by decide) ?_
      refine V.aload_n 0 rfl dX5_count_147 rfl ?_
      refine V.get (v := .ref (b 0)) (fun w H => List.mem_cons_of_mem _ (List.mem_append_left _ (List.mem_append_left _ (List.mem_append_left _ (List.mem_append_left _ (List.mem_append_right _ H)))))) (hc := (rfl : vwCl[5]? = some (RX5, TX5, 5))) 0 0 (by decide) (List.mem_of_getElem? (i := 3) rfl) rfl rfl dX5_count_148 ?_
      refine V.callVPf (ws2 := (HD g o b c u h x) ++ (SW g b z) ++ (SW g c y) ++ (UW g u ai pa tu) ++ (BWs g x tx (nI len) s) ++ (HW g h n sv)) (st2 := [.int (sN z 2)]) [] [] (kX2_misses g b z ) gX5_count_X2_misses rfl (by show _ ∧ _ ∧ _ ∧ _ = some (0 : Nat); decide +kernel) ⟨Nat.le_of_ble_eq_true rfl, Nat.le_of_ble_eq_true rfl⟩ (hc := (rfl : vwCl[2]? = some (RX2, TX2, 12))) 0 rfl pv6_1 rfl (Nat.le_of_ble_eq_true rfl) ⟨Nat.le_of_ble_eq_true rfl, Nat.le_of_ble_eq_true rfl⟩ dX5_count_151 SWm pv6_1.symm rfl rfl rfl ?_
      exact V.iret hq XMx.r (Nat.le_of_ble_eq_true rfl) (Nat.le_of_ble_eq_true rfl) ⟨9, hk, rfl, c0, rfl, rfl⟩ dX5_count_154
    · skip
      refine V.tableIn (off := 154) (tgt := 155) (by decide) (by decide) (by decide) dX5_count_1 (by decide) ?_
      refine V.aload_n 0 rfl dX5_count_155 rfl ?_
      refine V.get (v := .ref (b 0)) (fun w H => List.mem_cons_of_mem _ (List.mem_append_left _ (List.mem_append_left _ (List.mem_append_left _ (List.mem_append_left _ (List.mem_append_right _ H)))))) (hc := (rfl : vwCl[5]? = some (RX5, TX5, 5))) 0 0 (by decide) (List.mem_of_getElem? (i := 3) rfl) rfl rfl dX5_count_156 ?_
      refine V.get (v := .ref (b 6)) (fun w H => List.mem_cons_of_mem _ (List.mem_append_left _ (List.mem_append_left _ (List.mem_append_left _ (List.mem_append_right _ H))))) (hc := (rfl : vwCl[2]? = some (RX2, TX2, 12))) 1 10 (by decide) (List.mem_of_getElem? (i := 10) rfl) rfl rfl dX5_count_159 ?_
      refine V.iconst (v := 4) dX5_count_162 (by decide) ?_
      refine V.iconst (v := 4) dX5_count_163 (by decide) ?_
      refine V.callVf (ws2 := (HD g o b c u h x) ++ (SW g b z) ++ (SW g c y) ++ (UW g u ai pa tu) ++ (BWs g x tx (nI len) s) ++ (HW g h n sv)) (st2 := [.int (fu (tsF (sg z 196 20) 5 4) 0 4 0)]) [.int 4, .int 4] [] (kX3_sum g (b 6) (b 7) 5 20 (sg z 196 20) 4 4 (by decide) (by decide) (by decide) (by decide) (fun r hr => by omega)) gX5_count_X3_sum rfl (by show _ ∧ _ ∧ _ ∧ _ = some (2 : Nat); decide +kernel) ⟨Nat.le_of_ble_eq_true rfl, Nat.le_of_ble_eq_true rfl⟩ (hc := (rfl : vwCl[3]? = some (RX3, TX3, 2))) 7 rfl [7, 8] (by decide) rfl rfl (Nat.le_of_ble_eq_true rfl) ⟨Nat.le_of_ble_eq_true rfl, Nat.le_of_ble_eq_true rfl⟩ dX5_count_164 TWf (insW_of rfl rfl rfl) rfl rfl rfl ?_
      rw [ts_sN (by decide)]
      exact V.iret hq XMx.r (Nat.le_of_ble_eq_true rfl) (Nat.le_of_ble_eq_true rfl) ⟨10, hk, rfl, c0, rfl, rfl⟩ dX5_count_167
    · skip
      refine V.tableIn (off := 167) (tgt := 168) (by decide) (by decide) (by decide) dX5_count_1 (by decide) ?_
      refine V.aload_n 0 rfl dX5_count_168 rfl ?_
      refine V.get (v := .ref (b 0)) (fun w H => List.mem_cons_of_mem _ (List.mem_append_left _ (List.mem_append_left _ (List.mem_append_left _ (List.mem_append_left _ (List.mem_append_right _ H)))))) (hc := (rfl : vwCl[5]? = some (RX5, TX5, 5))) 0 0 (by decide) (List.mem_of_getElem? (i := 3) rfl) rfl rfl dX5_count_169 ?_
      refine V.get (v := .int (z 11)) (fun w H => List.mem_cons_of_mem _ (List.mem_append_left _ (List.mem_append_left _ (List.mem_append_left _ (List.mem_append_right _ H))))) (hc := (rfl : vwCl[2]? = some (RX2, TX2, 12))) 1 6 (by decide) (List.mem_of_getElem? (i := 11) rfl) rfl rfl dX5_count_172 ?_
      exact V.iret hq XMx.r (Nat.le_of_ble_eq_true rfl) (Nat.le_of_ble_eq_true rfl) ⟨11, hk, rfl, c0, rfl, rfl⟩ dX5_count_175
    · skip
      refine V.tableIn (off := 175) (tgt := 176) (by decide) (by decide) (by decide) dX5_count_1 (by decide) ?_
      refine V.aload_n 0 rfl dX5_count_176 rfl ?_
      refine V.get (v := .ref (b 0)) (fun w H => List.mem_cons_of_mem _ (List.mem_append_left _ (List.mem_append_left _ (List.mem_append_left _ (List.mem_append_left _ (List.mem_append_right _ H)))))) (hc := (rfl : vwCl[5]? = some (RX5, TX5, 5))) 0 0 (by decide) (List.mem_of_getElem? (i := 3) rfl) rfl rfl dX5_count_177 ?_
      refine V.get (v := .ref (b 2)) (fun w H => List.mem_cons_of_mem _ (List.mem_append_left _ (List.mem_append_left _ (List.mem_append_left _ (List.mem_append_right _ H))))) (hc := (rfl : vwCl[2]? = some (RX2, TX2, 12))) 1 8 (by decide) (List.mem_of_getElem? (i := 12) rfl) rfl rfl dX5_count_180 ?_
      refine V.aload_n 0 rfl dX5_count_183 rfl ?_
      refine V.get (v := .ref (b 0)) (fun w H => List.mem_cons_of_mem _ (List.mem_append_left _ (List.mem_append_left _ (List.mem_append_left _ (List.mem_append_left _ (List.mem_append_right _ H)))))) (hc := (rfl : vwCl[5]? = some (RX5, TX5, 5))) 0 0 (by decide) (List.mem_of_getElem? (i := 3) rfl) rfl rfl dX5_count_184 ?_
      refine V.get (v := .int (z 5)) (fun w H => List.mem_cons_of_mem _ (List.mem_append_left _ (List.mem_append_left _ (List.mem_append_left _ (List.mem_append_right _ H))))) (hc := (rfl : vwCl[2]? = some (RX2, TX2, 12))) 1 0 (by decide) (List.mem_of_getElem? (i := 4) rfl) rfl rfl dX5_count_187 ?_
      rw [hF]
      refine V.iconst (v := 2) dX5_count_190 (by decide) ?_
      refine V.callVf (ws2 := (HD g o b c u h x) ++ (SW g b z) ++ (SW g c y) ++ (UW g u ai pa tu) ++ (BWs g x tx (nI len) s) ++ (HW g h n sv)) (st2 := [.int (fu (tsF (sg z 12 64) 8 2) 0 (nf z) 0)]) [.int (nI (nf z)), .int 2] [] (kX3_sum g (b 2) (b 3) 8 64 (sg z 12 64) (nf z) 2 (by decide) (by decide) (by omega) (by decide) (fun r hr => by omega)) gX5_count_X3_sum rfl (by show _ ∧ _ ∧ _ ∧ _ = some (2 : Nat); decide +kernel) ⟨Nat.le_of_ble_eq_true rfl, Nat.le_of_ble_eq_true rfl⟩ (hc := (rfl : vwCl[3]? = some (RX3, TX3, 2))) 3 rfl [3, 4] (by decide) rfl rfl (Nat.le_of_ble_eq_true rfl) ⟨Nat.le_of_ble_eq_true rfl, Nat.le_of_ble_eq_true rfl⟩ dX5_count_191 TWf (insW_of rfl rfl rfl) rfl rfl rfl ?_
      rw [ts_aP hF8]
      exact V.iret hq XMx.r (Nat.le_of_ble_eq_true rfl) (Nat.le_of_ble_eq_true rfl) ⟨12, hk, rfl, c0, rfl, rfl⟩ dX5_count_194
    · skip
      refine V.tableIn (off := 194) (tgt := 195) (by decide) (by decide) (by decide) dX5_count_1 (by decide) ?_
      refine V.aload_n 0 rfl dX5_count_195 rfl ?_
      refine V.get (v := .ref (h 0)) (fun w H => List.mem_cons_of_mem _ (List.mem_append_left _ (List.mem_append_left _ (List.mem_append_left _ (List.mem_append_left _ (List.mem_append_right _ H)))))) (hc := (rfl : vwCl[5]? = some (RX5, TX5, 5))) 0 3 (by decide) (List.mem_of_getElem? (i := 13) rfl) rfl rfl dX5_count_196 ?_
      refine V.get (v := .int (nI n)) (fun w H => List.mem_cons_of_mem _ (List.mem_append_left _ (List.mem_append_left _ (List.mem_append_right _ H)))) (hc := (rfl : vwCl[1]? = some (RX1, TX1, 2))) 28 1 (by decide) (List.mem_of_getElem? (i := 14) rfl) rfl rfl dX5_count_199 ?_
      exact V.iret hq XMx.r (Nat.le_of_ble_eq_true rfl) (Nat.le_of_ble_eq_true rfl) ⟨13, hk, rfl, c0, rfl, rfl⟩ dX5_count_202
abbrev rmX5_setting : Room := { frames := 7, cells := 1, slots := 6, locals := 102 }
set_option maxHeartbeats 4000000 in
set_option maxRecDepth 100000 in
theorem kX5_setting (g : GT) (hst : g.1.stackTraces = false) (o : Nat) (b c u h x : Nat → Nat) (z y ai pa tu tx : Nat → Int32) (len : Nat) (s : BS) (n : Nat) (sv : SV) (q0 : Int32) : UX g yX5_setting wsX5_setting rmX5_setting [.ref o, .int q0] (GW g o b c u h x z y ai pa tu tx len s n sv) (fun v w => ∃ j : Nat, j < 5 ∧ q0 = nI j ∧ wi q0 0 4 = true ∧ v = some (.int (z (0 + j))) ∧ w = GW g o b c u h x z y ai pa tu tx len s n sv) (fun E w => w = GW g o b c u h x z y ai pa tu tx len s n sv ∧ (wi q0 0 4 = false ∧ E = IOB)) := by
  refine UX.ofV (cc := cX5_setting) (maxL := 2) (ret := some .int) (lv0 := [(0, .ref o), (1, .int q0)]) (by decide) rfl (Nat.le_of_ble_eq_true rfl) rfl ?_
  have hq : QFok g rmX5_setting (fun v w => ∃ j : Nat, j < 5 ∧ q0 = nI j ∧ wi q0 0 4 = true ∧ v = some (.int (z (0 + j))) ∧ w = GW g o b c u h x z y ai pa tu tx len s n sv) (QFx g rmX5_setting (fun v w => ∃ j : Nat, j < 5 ∧ q0 = nI j ∧ wi q0 0 4 = true ∧ v = some (.int (z (0 + j))) ∧ w = GW g o b c u h x z y ai pa tu tx len s n sv) (fun E w => w = GW g o b c u h x z y ai pa tu tx len s n sv ∧ (wi q0 0 4 = false ∧ E = IOB))) := QFx.q
  refine V.eqws (ws2 := (HD g o b c u h x) ++ (SW g b z) ++ (SW g c y) ++ (UW g u ai pa tu) ++ (BWs g x tx (nI len) s) ++ (HW g h n sv)) rfl ?_
  refine V.iload_n 1 rfl dX5_setting_0 rfl ?_
  refine V.callSX0 [.int q0] [] (kX5_checkSetting g hst q0) gX5_setting_X5_checkSetting rfl (by show _ ∧ _ ∧ _ = some (1 : Nat); decide +kernel) ⟨(Nat.le_of_ble_eq_true rfl), (Nat.le_of_ble_eq_true rfl)⟩ rfl (Nat.le_of_ble_eq_true rfl) ⟨(Nat.le_of_ble_eq_true rfl), (Nat.le_of_ble_eq_true rfl)⟩ ⟨(Nat.le_of_ble_eq_true rfl), (Nat.le_of_ble_eq_true rfl)⟩ dX5_setting_1 (fun E w hx => ?_) (fun r w hq2 => ?_)
  · obtain ⟨rfl, rfl, hx⟩ := hx; exact ⟨rfl, rfl, ⟨hx, rfl⟩⟩
  obtain ⟨rfl, rfl, c0⟩ := hq2
  refine ⟨rfl, ?_⟩
  refine V.eqst (st2 := []) rfl ?_
  obtain ⟨j, hj, rfl⟩ := wi_nat c0 (show (4 : Int32) = nI 5 - 1 from by decide) (by decide) (by decide)
  refine V.aload_n 0 rfl dX5_setting_4 rfl ?_
  refine V.get (v := .ref (b 0)) (fun w H => List.mem_cons_of_mem _ (List.mem_append_left _ (List.mem_append_left _ (List.mem_append_right _ H)))) (hc := (rfl : vwCl[5]? = some (RX5, TX5, 5))) 0 0 (by decide) (List.mem_of_getElem? (i := 1) rfl) rfl rfl dX5_setting_5 ?_
  refine V.get (v := .ref (b 1)) (fun w H => List.mem_cons_of_mem _ (List.mem_append_left _ (List.mem_append_right _ H))) (hc := (rfl : vwCl[2]? = some (RX2, TX2, 12))) 1 7 (by decide) (List.mem_of_getElem? (i := 2) rfl) rfl rfl dX5_setting_8 ?_
  refine V.iload_n 1 rfl dX5_setting_11 rfl ?_
  refine V.iald (f := sg z 0 5) 2 j rfl rfl hj (by decide) dX5_setting_12 ?_
  rw [show (sg z 0 5) j = z (0 + j) from sg_a (by omega)]
  exact V.iret hq XMx.r (Nat.le_of_ble_eq_true rfl) (Nat.le_of_ble_eq_true rfl) ⟨j, hj, rfl, c0, rfl, rfl⟩ dX5_setting_13
theorem pv6_2_1 {α : Type} {A0 A1 A2 A3 A4 A5 : List α} : ((((((A0 ++ A1) ++ A2) ++ A3) ++ A4) ++ A5)).Perm (((A2 ++ A1)) ++ ((((A0 ++ A3) ++ A4) ++ A5))) := by
  classical
  exact List.perm_iff_count.mpr (fun a => by simp only [List.count_append, List.count_nil]; omega)
theorem pv6_3_2 {α : Type} {A0 A1 A2 A3 A4 A5 : List α} : ((((((A0 ++ A1) ++ A2) ++ A3) ++ A4) ++ A5)).Perm (((A3 ++ A2)) ++ ((((A0 ++ A1) ++ A4) ++ A5))) := by
  classical
  exact List.perm_iff_count.mpr (fun a => by simp only [List.count_append, List.count_nil]; omega)
theorem pv6_2 {α : Type} {A0 A1 A2 A3 A4 A5 : List α} : ((((((A0 ++ A1) ++ A2) ++ A3) ++ A4) ++ A5)).Perm ((A2) ++ (((((A0 ++ A1) ++ A3) ++ A4) ++ A5))) := by
  classical
  exact List.perm_iff_count.mpr (fun a => by simp only [List.count_append, List.count_nil]; omega)
abbrev rmX5_ifToured : Room := { frames := 7, cells := 2, slots := 12, locals := 124 }
set_option maxHeartbeats 4000000 in
set_option maxRecDepth 100000 in
theorem kX5_ifToured (g : GT) (hst : g.1.stackTraces = false) (o : Nat) (b c u h x : Nat → Nat) (z y ai pa tu tx : Nat → Int32) (len : Nat) (s : BS) (n : Nat) (sv : SV) (q0 q1 : Int32) (hV : TV z) : UX g yX5_ifToured wsX5_ifToured rmX5_ifToured [.ref o, .int q0, .int q1] (GW g o b c u h x z y ai pa tu tx len s n sv) (fun v w => ∃ j k : Nat, 1 ≤ j ∧ j ≤ 20 ∧ k < 4 ∧ q0 = nI j ∧ q1 = nI k ∧ wi q0 1 20 = true ∧ wi q1 0 3 = true ∧ v = some (.int (tdC (z, ai, pa, tu) j k)) ∧ w = GW g o b c u h x z ((cTs j ((z, ai, pa, tu), 0)).1.1) ((cTs j ((z, ai, pa, tu), 0)).1.2.1) ((cTs j ((z, ai, pa, tu), 0)).1.2.2.1) ((cTs j ((z, ai, pa, tu), 0)).1.2.2.2) tx len s n sv) (fun E w => w = GW g o b c u h x z y ai pa tu tx len s n sv ∧ ((wi q0 1 20 = false ∧ E = IAE) ∨ ((∃ j, 1 ≤ j ∧ j ≤ 20 ∧ q0 = nI j) ∧ wi q1 0 3 = false ∧ E = IAE))) := by
  refine UX.ofV (cc := cX5_ifToured) (maxL := 4) (ret := some .int) (lv0 := [(0, .ref o), (1, .int q0), (2, .int q1)]) (by decide) rfl (Nat.le_of_ble_eq_true rfl) rfl ?_
  have hq : QFok g rmX5_ifToured (fun v w => ∃ j k : Nat, 1 ≤ j ∧ j ≤ 20 ∧ k < 4 ∧ q0 = nI j ∧ q1 = nI k ∧ wi q0 1 20 = true ∧ wi q1 0 3 = true ∧ v = some (.int (tdC (z, ai, pa, tu) j k)) ∧ w = GW g o b c u h x z ((cTs j ((z, ai, pa, tu), 0)).1.1) ((cTs j ((z, ai, pa, tu), 0)).1.2.1) ((cTs j ((z, ai, pa, tu), 0)).1.2.2.1) ((cTs j ((z, ai, pa, tu), 0)).1.2.2.2) tx len s n sv) (QFx g rmX5_ifToured (fun v w => ∃ j k : Nat, 1 ≤ j ∧ j ≤ 20 ∧ k < 4 ∧ q0 = nI j ∧ q1 = nI k ∧ wi q0 1 20 = true ∧ wi q1 0 3 = true ∧ v = some (.int (tdC (z, ai, pa, tu) j k)) ∧ w = GW g o b c u h x z ((cTs j ((z, ai, pa, tu), 0)).1.1) ((cTs j ((z, ai, pa, tu), 0)).1.2.1) ((cTs j ((z, ai, pa, tu), 0)).1.2.2.1) ((cTs j ((z, ai, pa, tu), 0)).1.2.2.2) tx len s n sv) (fun E w => w = GW g o b c u h x z y ai pa tu tx len s n sv ∧ ((wi q0 1 20 = false ∧ E = IAE) ∨ ((∃ j, 1 ≤ j ∧ j ≤ 20 ∧ q0 = nI j) ∧ wi q1 0 3 = false ∧ E = IAE)))) := QFx.q
  refine V.eqws (ws2 := (HD g o b c u h x) ++ (SW g b z) ++ (SW g c y) ++ (UW g u ai pa tu) ++ (BWs g x tx (nI len) s) ++ (HW g h n sv)) rfl ?_
  refine V.iload_n 1 rfl dX5_ifToured_0 rfl ?_
  refine V.iconst (v := 1) dX5_ifToured_1 (by decide) ?_
  refine V.bipush (v := 20) dX5_ifToured_2 (by decide) ?_
  refine V.callSX0 [.int q0, .int 1, .int 20] [] (kX5_checkRange g hst q0 1 20) gX5_ifToured_X5_checkRange rfl (by show _ ∧ _ ∧ _ = some (3 : Nat); decide +kernel) ⟨(Nat.le_of_ble_eq_true rfl), (Nat.le_of_ble_eq_true rfl)⟩ rfl (Nat.le_of_ble_eq_true rfl) ⟨(Nat.le_of_ble_eq_true rfl), (Nat.le_of_ble_eq_true rfl)⟩ ⟨(Nat.le_of_ble_eq_true rfl), (Nat.le_of_ble_eq_true rfl)⟩ dX5_ifToured_4 (fun E w hx => ?_) (fun r w hq2 => ?_)
  · obtain ⟨rfl, rfl, hx⟩ := hx; exact ⟨rfl, rfl, Or.inl ⟨hx, rfl⟩⟩
  obtain ⟨rfl, rfl, c0⟩ := hq2
  refine ⟨rfl, ?_⟩
  refine V.eqst (st2 := []) rfl ?_
  obtain ⟨j, hj1, hj, rfl⟩ := wi_t c0
  refine V.iload_n 2 rfl dX5_ifToured_7 rfl ?_
  refine V.iconst (v := 0) dX5_ifToured_8 (by decide) ?_
  refine V.iconst (v := 3) dX5_ifToured_9 (by decide) ?_
  refine V.callSX0 [.int q1, .int 0, .int 3] [] (kX5_checkRange g hst q1 0 3) gX5_ifToured_X5_checkRange rfl (by show _ ∧ _ ∧ _ = some (3 : Nat); decide +kernel) ⟨(Nat.le_of_ble_eq_true rfl), (Nat.le_of_ble_eq_true rfl)⟩ rfl (Nat.le_of_ble_eq_true rfl) ⟨(Nat.le_of_ble_eq_true rfl), (Nat.le_of_ble_eq_true rfl)⟩ ⟨(Nat.le_of_ble_eq_true rfl), (Nat.le_of_ble_eq_true rfl)⟩ dX5_ifToured_10 (fun E w hx => ?_) (fun r w hq2 => ?_)
  · obtain ⟨rfl, rfl, hx⟩ := hx; exact ⟨rfl, rfl, Or.inr (⟨⟨j, hj1, hj, rfl⟩, hx, rfl⟩)⟩
  obtain ⟨rfl, rfl, c1⟩ := hq2
  refine ⟨rfl, ?_⟩
  refine V.eqst (st2 := []) rfl ?_
  obtain ⟨k, hk, rfl⟩ := wi_nat c1 (show (3 : Int32) = nI 4 - 1 from by decide) (by decide) (by decide)
  refine V.aload_n 0 rfl dX5_ifToured_13 rfl ?_
  refine V.get (v := .ref (c 0)) (fun w H => List.mem_cons_of_mem _ (List.mem_append_left _ (List.mem_append_left _ (List.mem_append_left _ (List.mem_append_left _ (List.mem_append_right _ H)))))) (hc := (rfl : vwCl[5]? = some (RX5, TX5, 5))) 0 1 (by decide) (List.mem_of_getElem? (i := 1) rfl) rfl rfl dX5_ifToured_14 ?_
  refine V.aload_n 0 rfl dX5_ifToured_17 rfl ?_
  refine V.get (v := .ref (b 0)) (fun w H => List.mem_cons_of_mem _ (List.mem_append_left _ (List.mem_append_left _ (List.mem_append_left _ (List.mem_append_left _ (List.mem_append_right _ H)))))) (hc := (rfl : vwCl[5]? = some (RX5, TX5, 5))) 0 0 (by decide) (List.mem_of_getElem? (i := 2) rfl) rfl rfl dX5_ifToured_18 ?_
  refine V.callVPf (ws2 := (HD g o b c u h x) ++ (SW g b z) ++ (SW g c z) ++ (UW g u ai pa tu) ++ (BWs g x tx (nI len) s) ++ (HW g h n sv)) (st2 := []) [.ref (b 0)] [] (kX2_copyFrom g c y b z ) gX5_ifToured_X2_copyFrom rfl (by show _ ∧ _ ∧ _ ∧ _ = some (1 : Nat); decide +kernel) ⟨Nat.le_of_ble_eq_true rfl, Nat.le_of_ble_eq_true rfl⟩ (hc := (rfl : vwCl[2]? = some (RX2, TX2, 12))) 0 rfl pv6_2_1 rfl (Nat.le_of_ble_eq_true rfl) ⟨Nat.le_of_ble_eq_true rfl, Nat.le_of_ble_eq_true rfl⟩ dX5_ifToured_21 SSm pv6_2_1.symm rfl rfl rfl ?_
  refine V.aload_n 0 rfl dX5_ifToured_24 rfl ?_
  refine V.get (v := .ref (u 0)) (fun w H => List.mem_cons_of_mem _ (List.mem_append_left _ (List.mem_append_left _ (List.mem_append_left _ (List.mem_append_left _ (List.mem_append_right _ H)))))) (hc := (rfl : vwCl[5]? = some (RX5, TX5, 5))) 0 2 (by decide) (List.mem_of_getElem? (i := 3) rfl) rfl rfl dX5_ifToured_25 ?_
  refine V.aload_n 0 rfl dX5_ifToured_28 rfl ?_
  refine V.get (v := .ref (c 0)) (fun w H => List.mem_cons_of_mem _ (List.mem_append_left _ (List.mem_append_left _ (List.mem_append_left _ (List.mem_append_left _ (List.mem_append_right _ H)))))) (hc := (rfl : vwCl[5]? = some (RX5, TX5, 5))) 0 1 (by decide) (List.mem_of_getElem? (i := 1) rfl) rfl rfl dX5_ifToured_29 ?_
  refine V.iload_n 1 rfl dX5_ifToured_32 rfl ?_
  refine V.callVPf (ws2 := (HD g o b c u h x) ++ (SW g b z) ++ (SW g c ((cTs j ((z, ai, pa, tu), 0)).1.1)) ++ (UW g u ((cTs j ((z, ai, pa, tu), 0)).1.2.1) ((cTs j ((z, ai, pa, tu), 0)).1.2.2.1) ((cTs j ((z, ai, pa, tu), 0)).1.2.2.2)) ++ (BWs g x tx (nI len) s) ++ (HW g h n sv)) (st2 := [.int ((cTs j ((z, ai, pa, tu), 0)).2)]) [.ref (c 0), .int (nI j)] [] (kX4_make g u ai pa tu c z j (by omega) hV) gX5_ifToured_X4_make rfl (by show _ ∧ _ ∧ _ ∧ _ = some (2 : Nat); decide +kernel) ⟨Nat.le_of_ble_eq_true rfl, Nat.le_of_ble_eq_true rfl⟩ (hc := (rfl : vwCl[4]? = some (RX4, TX4, 3))) 0 rfl pv6_3_2 rfl (Nat.le_of_ble_eq_true rfl) ⟨Nat.le_of_ble_eq_true rfl, Nat.le_of_ble_eq_true rfl⟩ dX5_ifToured_33 USm pv6_3_2.symm rfl rfl rfl ?_
  refine V.istore_n (lv2 := [(3, .int ((cTs j ((z, ai, pa, tu), 0)).2)), (0, .ref o), (1, .int (nI j)), (2, .int (nI k))]) dX5_ifToured_36 rfl (by decide) rfl ?_
  refine V.iload_n 3 rfl dX5_ifToured_37 rfl ?_
  have hV2 : TV (cTs j ((z, ai, pa, tu), 0)).1.1 := TV.cTs (s := ((z, ai, pa, tu), 0)) hV
  rcases (show k = 0 ∨ k = 1 ∨ k = 2 ∨ k = 3 by omega) with rfl | rfl | rfl | rfl
  · skip
    refine V.tableIn (off := 26) (tgt := 64) (by decide) (by decide) (by decide) dX5_ifToured_38 (by decide) ?_
    refine V.iload_n 0 rfl dX5_ifToured_64 rfl ?_
    exact V.iret hq XMx.r (Nat.le_of_ble_eq_true rfl) (Nat.le_of_ble_eq_true rfl) ⟨j, 0, hj1, hj, hk, rfl, rfl, c0, c1, rfl, rfl⟩ dX5_ifToured_65
  · skip
    refine V.tableIn (off := 28) (tgt := 66) (by decide) (by decide) (by decide) dX5_ifToured_38 (by decide) ?_
    refine V.aload_n 1 rfl dX5_ifToured_66 rfl ?_
    refine V.get (v := .ref (c 0)) (fun w H => List.mem_cons_of_mem _ (List.mem_append_left _ (List.mem_append_left _ (List.mem_append_left _ (List.mem_append_left _ (List.mem_append_right _ H)))))) (hc := (rfl : vwCl[5]? = some (RX5, TX5, 5))) 0 1 (by decide) (List.mem_of_getElem? (i := 1) rfl) rfl rfl dX5_ifToured_67 ?_
    refine V.callVPf (ws2 := (HD g o b c u h x) ++ (SW g b z) ++ (SW g c ((cTs j ((z, ai, pa, tu), 0)).1.1)) ++ (UW g u ((cTs j ((z, ai, pa, tu), 0)).1.2.1) ((cTs j ((z, ai, pa, tu), 0)).1.2.2.1) ((cTs j ((z, ai, pa, tu), 0)).1.2.2.2)) ++ (BWs g x tx (nI len) s) ++ (HW g h n sv)) (st2 := [.int (sN ((cTs j ((z, ai, pa, tu), 0)).1.1) 2)]) [] [] (kX2_misses g c ((cTs j ((z, ai, pa, tu), 0)).1.1) ) gX5_ifToured_X2_misses rfl (by show _ ∧ _ ∧ _ ∧ _ = some (0 : Nat); decide +kernel) ⟨Nat.le_of_ble_eq_true rfl, Nat.le_of_ble_eq_true rfl⟩ (hc := (rfl : vwCl[2]? = some (RX2, TX2, 12))) 0 rfl pv6_2 rfl (Nat.le_of_ble_eq_true rfl) ⟨Nat.le_of_ble_eq_true rfl, Nat.le_of_ble_eq_true rfl⟩ dX5_ifToured_70 SWm pv6_2.symm rfl rfl rfl ?_
    refine V.aload_n 1 rfl dX5_ifToured_73 rfl ?_
    refine V.get (v := .ref (b 0)) (fun w H => List.mem_cons_of_mem _ (List.mem_append_left _ (List.mem_append_left _ (List.mem_append_left _ (List.mem_append_left _ (List.mem_append_right _ H)))))) (hc := (rfl : vwCl[5]? = some (RX5, TX5, 5))) 0 0 (by decide) (List.mem_of_getElem? (i := 2) rfl) rfl rfl dX5_ifToured_74 ?_
    refine V.callVPf (ws2 := (HD g o b c u h x) ++ (SW g b z) ++ (SW g c ((cTs j ((z, ai, pa, tu), 0)).1.1)) ++ (UW g u ((cTs j ((z, ai, pa, tu), 0)).1.2.1) ((cTs j ((z, ai, pa, tu), 0)).1.2.2.1) ((cTs j ((z, ai, pa, tu), 0)).1.2.2.2)) ++ (BWs g x tx (nI len) s) ++ (HW g h n sv)) (st2 := [.int (sN z 2), .int (sN ((cTs j ((z, ai, pa, tu), 0)).1.1) 2)]) [] [.int (sN ((cTs j ((z, ai, pa, tu), 0)).1.1) 2)] (kX2_misses g b z ) gX5_ifToured_X2_misses rfl (by show _ ∧ _ ∧ _ ∧ _ = some (0 : Nat); decide +kernel) ⟨Nat.le_of_ble_eq_true rfl, Nat.le_of_ble_eq_true rfl⟩ (hc := (rfl : vwCl[2]? = some (RX2, TX2, 12))) 0 rfl pv6_1 rfl (Nat.le_of_ble_eq_true rfl) ⟨Nat.le_of_ble_eq_true rfl, Nat.le_of_ble_eq_true rfl⟩ dX5_ifToured_77 SWm pv6_1.symm rfl rfl rfl ?_
    refine V.isub dX5_ifToured_80 ?_
    exact V.iret hq XMx.r (Nat.le_of_ble_eq_true rfl) (Nat.le_of_ble_eq_true rfl) ⟨j, 1, hj1, hj, hk, rfl, rfl, c0, c1, rfl, rfl⟩ dX5_ifToured_81
  · skip
    refine V.tableIn (off := 44) (tgt := 82) (by decide) (by decide) (by decide) dX5_ifToured_38 (by decide) ?_
    refine V.aload_n 1 rfl dX5_ifToured_82 rfl ?_
    refine V.get (v := .ref (c 0)) (fun w H => List.mem_cons_of_mem _ (List.mem_append_left _ (List.mem_append_left _ (List.mem_append_left _ (List.mem_append_left _ (List.mem_append_right _ H)))))) (hc := (rfl : vwCl[5]? = some (RX5, TX5, 5))) 0 1 (by decide) (List.mem_of_getElem? (i := 1) rfl) rfl rfl dX5_ifToured_83 ?_
    refine V.get (v := .int (((cTs j ((z, ai, pa, tu), 0)).1.1) 7)) (fun w H => List.mem_cons_of_mem _ (List.mem_append_left _ (List.mem_append_left _ (List.mem_append_left _ (List.mem_append_right _ H))))) (hc := (rfl : vwCl[2]? = some (RX2, TX2, 12))) 11 2 (by decide) (List.mem_of_getElem? (i := 4) rfl) rfl rfl dX5_ifToured_86 ?_
    refine V.aload_n 1 rfl dX5_ifToured_89 rfl ?_
    refine V.get (v := .ref (b 0)) (fun w H => List.mem_cons_of_mem _ (List.mem_append_left _ (List.mem_append_left _ (List.mem_append_left _ (List.mem_append_left _ (List.mem_append_right _ H)))))) (hc := (rfl : vwCl[5]? = some (RX5, TX5, 5))) 0 0 (by decide) (List.mem_of_getElem? (i := 2) rfl) rfl rfl dX5_ifToured_90 ?_
    refine V.get (v := .int (z 7)) (fun w H => List.mem_cons_of_mem _ (List.mem_append_left _ (List.mem_append_left _ (List.mem_append_left _ (List.mem_append_right _ H))))) (hc := (rfl : vwCl[2]? = some (RX2, TX2, 12))) 1 2 (by decide) (List.mem_of_getElem? (i := 4) rfl) rfl rfl dX5_ifToured_93 ?_
    refine V.isub dX5_ifToured_96 ?_
    exact V.iret hq XMx.r (Nat.le_of_ble_eq_true rfl) (Nat.le_of_ble_eq_true rfl) ⟨j, 2, hj1, hj, hk, rfl, rfl, c0, c1, rfl, rfl⟩ dX5_ifToured_97
  · skip
    refine V.tableOut (tgt := 98) (by decide) dX5_ifToured_38 (by decide) ?_
    refine V.aload_n 1 rfl dX5_ifToured_98 rfl ?_
    refine V.get (v := .ref (c 0)) (fun w H => List.mem_cons_of_mem _ (List.mem_append_left _ (List.mem_append_left _ (List.mem_append_left _ (List.mem_append_left _ (List.mem_append_right _ H)))))) (hc := (rfl : vwCl[5]? = some (RX5, TX5, 5))) 0 1 (by decide) (List.mem_of_getElem? (i := 1) rfl) rfl rfl dX5_ifToured_99 ?_
    refine V.iconst (v := 1) dX5_ifToured_102 (by decide) ?_
    refine V.callVPf (ws2 := (HD g o b c u h x) ++ (SW g b z) ++ (SW g c ((cTs j ((z, ai, pa, tu), 0)).1.1)) ++ (UW g u ((cTs j ((z, ai, pa, tu), 0)).1.2.1) ((cTs j ((z, ai, pa, tu), 0)).1.2.2.1) ((cTs j ((z, ai, pa, tu), 0)).1.2.2.2)) ++ (BWs g x tx (nI len) s) ++ (HW g h n sv)) (st2 := [.int (pT ((cTs j ((z, ai, pa, tu), 0)).1.1) (1 : Int32))]) [.int 1] [] (kX2_placesWith g c ((cTs j ((z, ai, pa, tu), 0)).1.1) (1 : Int32) hV2.1.2.2.1 hV2.np) gX5_ifToured_X2_placesWith rfl (by show _ ∧ _ ∧ _ ∧ _ = some (1 : Nat); decide +kernel) ⟨Nat.le_of_ble_eq_true rfl, Nat.le_of_ble_eq_true rfl⟩ (hc := (rfl : vwCl[2]? = some (RX2, TX2, 12))) 0 rfl pv6_2 rfl (Nat.le_of_ble_eq_true rfl) ⟨Nat.le_of_ble_eq_true rfl, Nat.le_of_ble_eq_true rfl⟩ dX5_ifToured_103 SWm pv6_2.symm rfl rfl rfl ?_
    exact V.iret hq XMx.r (Nat.le_of_ble_eq_true rfl) (Nat.le_of_ble_eq_true rfl) ⟨j, 3, hj1, hj, hk, rfl, rfl, c0, c1, rfl, rfl⟩ dX5_ifToured_106
abbrev rmX5_choice : Room := { frames := 7, cells := 2, slots := 12, locals := 104 }
set_option maxHeartbeats 4000000 in
set_option maxRecDepth 100000 in
theorem kX5_choice (g : GT) (hst : g.1.stackTraces = false) (o : Nat) (b c u h x : Nat → Nat) (z y ai pa tu tx : Nat → Int32) (len : Nat) (s : BS) (n : Nat) (sv : SV) (q0 q1 : Int32) (hV : TV z) : UX g yX5_choice wsX5_choice rmX5_choice [.ref o, .int q0, .int q1] (GW g o b c u h x z y ai pa tu tx len s n sv) (fun v w => ∃ j : Nat, j < 4 ∧ q0 = nI j ∧ wi q0 0 3 = true ∧ wi q1 0 5 = true ∧ v = some (.int (en (cho z j q1))) ∧ w = GW g o b c u h x z y ai pa tu tx len s n sv) (fun E w => w = GW g o b c u h x z y ai pa tu tx len s n sv ∧ ((wi q0 0 3 = false ∧ E = IOB) ∨ ((∃ j, j < 4 ∧ q0 = nI j) ∧ wi q1 0 5 = false ∧ E = IAE))) := by
  refine UX.ofV (cc := cX5_choice) (maxL := 3) (ret := some .int) (lv0 := [(0, .ref o), (1, .int q0), (2, .int q1)]) (by decide) rfl (Nat.le_of_ble_eq_true rfl) rfl ?_
  have hq : QFok g rmX5_choice (fun v w => ∃ j : Nat, j < 4 ∧ q0 = nI j ∧ wi q0 0 3 = true ∧ wi q1 0 5 = true ∧ v = some (.int (en (cho z j q1))) ∧ w = GW g o b c u h x z y ai pa tu tx len s n sv) (QFx g rmX5_choice (fun v w => ∃ j : Nat, j < 4 ∧ q0 = nI j ∧ wi q0 0 3 = true ∧ wi q1 0 5 = true ∧ v = some (.int (en (cho z j q1))) ∧ w = GW g o b c u h x z y ai pa tu tx len s n sv) (fun E w => w = GW g o b c u h x z y ai pa tu tx len s n sv ∧ ((wi q0 0 3 = false ∧ E = IOB) ∨ ((∃ j, j < 4 ∧ q0 = nI j) ∧ wi q1 0 5 = false ∧ E = IAE)))) := QFx.q
  refine V.eqws (ws2 := (HD g o b c u h x) ++ (SW g b z) ++ (SW g c y) ++ (UW g u ai pa tu) ++ (BWs g x tx (nI len) s) ++ (HW g h n sv)) rfl ?_
  refine V.iload_n 1 rfl dX5_choice_0 rfl ?_
  refine V.callSX0 [.int q0] [] (kX5_checkNozzle g hst q0) gX5_choice_X5_checkNozzle rfl (by show _ ∧ _ ∧ _ = some (1 : Nat); decide +kernel) ⟨(Nat.le_of_ble_eq_true rfl), (Nat.le_of_ble_eq_true rfl)⟩ rfl (Nat.le_of_ble_eq_true rfl) ⟨(Nat.le_of_ble_eq_true rfl), (Nat.le_of_ble_eq_true rfl)⟩ ⟨(Nat.le_of_ble_eq_true rfl), (Nat.le_of_ble_eq_true rfl)⟩ dX5_choice_1 (fun E w hx => ?_) (fun r w hq2 => ?_)
  · obtain ⟨rfl, rfl, hx⟩ := hx; exact ⟨rfl, rfl, Or.inl ⟨hx, rfl⟩⟩
  obtain ⟨rfl, rfl, c0⟩ := hq2
  refine ⟨rfl, ?_⟩
  refine V.eqst (st2 := []) rfl ?_
  obtain ⟨j, hj, rfl⟩ := wi_nat c0 (show (3 : Int32) = nI 4 - 1 from by decide) (by decide) (by decide)
  refine V.iload_n 2 rfl dX5_choice_4 rfl ?_
  refine V.iconst (v := 0) dX5_choice_5 (by decide) ?_
  refine V.iconst (v := 5) dX5_choice_6 (by decide) ?_
  refine V.callSX0 [.int q1, .int 0, .int 5] [] (kX5_checkRange g hst q1 0 5) gX5_choice_X5_checkRange rfl (by show _ ∧ _ ∧ _ = some (3 : Nat); decide +kernel) ⟨(Nat.le_of_ble_eq_true rfl), (Nat.le_of_ble_eq_true rfl)⟩ rfl (Nat.le_of_ble_eq_true rfl) ⟨(Nat.le_of_ble_eq_true rfl), (Nat.le_of_ble_eq_true rfl)⟩ ⟨(Nat.le_of_ble_eq_true rfl), (Nat.le_of_ble_eq_true rfl)⟩ dX5_choice_7 (fun E w hx => ?_) (fun r w hq2 => ?_)
  · obtain ⟨rfl, rfl, hx⟩ := hx; exact ⟨rfl, rfl, Or.inr (⟨⟨j, hj, rfl⟩, hx, rfl⟩)⟩
  obtain ⟨rfl, rfl, c1⟩ := hq2
  refine ⟨rfl, ?_⟩
  refine V.eqst (st2 := []) rfl ?_
  refine V.aload_n 0 rfl dX5_choice_10 rfl ?_
  refine V.get (v := .ref (b 0)) (fun w H => List.mem_cons_of_mem _ (List.mem_append_left _ (List.mem_append_left _ (List.mem_append_left _ (List.mem_append_left _ (List.mem_append_right _ H)))))) (hc := (rfl : vwCl[5]? = some (RX5, TX5, 5))) 0 0 (by decide) (List.mem_of_getElem? (i := 1) rfl) rfl rfl dX5_choice_11 ?_
  refine V.iload_n 1 rfl dX5_choice_14 rfl ?_
  refine V.iload_n 2 rfl dX5_choice_15 rfl ?_
  refine V.callVPf (ws2 := (HD g o b c u h x) ++ (SW g b z) ++ (SW g c y) ++ (UW g u ai pa tu) ++ (BWs g x tx (nI len) s) ++ (HW g h n sv)) (st2 := [.int (en (cho z j q1))]) [.int (nI j), .int q1] [] (kX2_favorite g b z j q1 hj hV.1.1 hV.nf (ABF.of hV.2.1)) gX5_choice_X2_favorite rfl (by show _ ∧ _ ∧ _ ∧ _ = some (2 : Nat); decide +kernel) ⟨Nat.le_of_ble_eq_true rfl, Nat.le_of_ble_eq_true rfl⟩ (hc := (rfl : vwCl[2]? = some (RX2, TX2, 12))) 0 rfl pv6_1 rfl (Nat.le_of_ble_eq_true rfl) ⟨Nat.le_of_ble_eq_true rfl, Nat.le_of_ble_eq_true rfl⟩ dX5_choice_16 SWm pv6_1.symm rfl rfl rfl ?_
  exact V.iret hq XMx.r (Nat.le_of_ble_eq_true rfl) (Nat.le_of_ble_eq_true rfl) ⟨j, hj, rfl, c0, c1, rfl, rfl⟩ dX5_choice_19
abbrev rmX5_aim : Room := { frames := 7, cells := 1, slots := 6, locals := 102 }
set_option maxHeartbeats 4000000 in
set_option maxRecDepth 100000 in
theorem kX5_aim (g : GT) (hst : g.1.stackTraces = false) (o : Nat) (b c u h x : Nat → Nat) (z y ai pa tu tx : Nat → Int32) (len : Nat) (s : BS) (n : Nat) (sv : SV) (q0 : Int32) (hV : TV z) : UX g yX5_aim wsX5_aim rmX5_aim [.ref o, .int q0] (GW g o b c u h x z y ai pa tu tx len s n sv) (fun v w => ∃ j : Nat, j < 4 ∧ q0 = nI j ∧ wi q0 0 3 = true ∧ v = some (.int (lA z ai j)) ∧ w = GW g o b c u h x z y (lA z ai) pa tu tx len s n sv) (fun E w => w = GW g o b c u h x z y ai pa tu tx len s n sv ∧ (wi q0 0 3 = false ∧ E = IOB)) := by
  refine UX.ofV (cc := cX5_aim) (maxL := 2) (ret := some .int) (lv0 := [(0, .ref o), (1, .int q0)]) (by decide) rfl (Nat.le_of_ble_eq_true rfl) rfl ?_
  have hq : QFok g rmX5_aim (fun v w => ∃ j : Nat, j < 4 ∧ q0 = nI j ∧ wi q0 0 3 = true ∧ v = some (.int (lA z ai j)) ∧ w = GW g o b c u h x z y (lA z ai) pa tu tx len s n sv) (QFx g rmX5_aim (fun v w => ∃ j : Nat, j < 4 ∧ q0 = nI j ∧ wi q0 0 3 = true ∧ v = some (.int (lA z ai j)) ∧ w = GW g o b c u h x z y (lA z ai) pa tu tx len s n sv) (fun E w => w = GW g o b c u h x z y ai pa tu tx len s n sv ∧ (wi q0 0 3 = false ∧ E = IOB))) := QFx.q
  refine V.eqws (ws2 := (HD g o b c u h x) ++ (SW g b z) ++ (SW g c y) ++ (UW g u ai pa tu) ++ (BWs g x tx (nI len) s) ++ (HW g h n sv)) rfl ?_
  refine V.iload_n 1 rfl dX5_aim_0 rfl ?_
  refine V.callSX0 [.int q0] [] (kX5_checkNozzle g hst q0) gX5_aim_X5_checkNozzle rfl (by show _ ∧ _ ∧ _ = some (1 : Nat); decide +kernel) ⟨(Nat.le_of_ble_eq_true rfl), (Nat.le_of_ble_eq_true rfl)⟩ rfl (Nat.le_of_ble_eq_true rfl) ⟨(Nat.le_of_ble_eq_true rfl), (Nat.le_of_ble_eq_true rfl)⟩ ⟨(Nat.le_of_ble_eq_true rfl), (Nat.le_of_ble_eq_true rfl)⟩ dX5_aim_1 (fun E w hx => ?_) (fun r w hq2 => ?_)
  · obtain ⟨rfl, rfl, hx⟩ := hx; exact ⟨rfl, rfl, ⟨hx, rfl⟩⟩
  obtain ⟨rfl, rfl, c0⟩ := hq2
  refine ⟨rfl, ?_⟩
  refine V.eqst (st2 := []) rfl ?_
  obtain ⟨j, hj, rfl⟩ := wi_nat c0 (show (3 : Int32) = nI 4 - 1 from by decide) (by decide) (by decide)
  refine V.aload_n 0 rfl dX5_aim_4 rfl ?_
  refine V.get (v := .ref (u 0)) (fun w H => List.mem_cons_of_mem _ (List.mem_append_left _ (List.mem_append_left _ (List.mem_append_left _ (List.mem_append_left _ (List.mem_append_right _ H)))))) (hc := (rfl : vwCl[5]? = some (RX5, TX5, 5))) 0 2 (by decide) (List.mem_of_getElem? (i := 1) rfl) rfl rfl dX5_aim_5 ?_
  refine V.aload_n 0 rfl dX5_aim_8 rfl ?_
  refine V.get (v := .ref (b 0)) (fun w H => List.mem_cons_of_mem _ (List.mem_append_left _ (List.mem_append_left _ (List.mem_append_left _ (List.mem_append_left _ (List.mem_append_right _ H)))))) (hc := (rfl : vwCl[5]? = some (RX5, TX5, 5))) 0 0 (by decide) (List.mem_of_getElem? (i := 2) rfl) rfl rfl dX5_aim_9 ?_
  refine V.callVPf (ws2 := (HD g o b c u h x) ++ (SW g b z) ++ (SW g c y) ++ (UW g u (lA z ai) pa tu) ++ (BWs g x tx (nI len) s) ++ (HW g h n sv)) (st2 := []) [.ref (b 0)] [] (kX4_chooseAims g u ai pa tu b z hV.1 hV.2.2.1) gX5_aim_X4_chooseAims rfl (by show _ ∧ _ ∧ _ ∧ _ = some (1 : Nat); decide +kernel) ⟨Nat.le_of_ble_eq_true rfl, Nat.le_of_ble_eq_true rfl⟩ (hc := (rfl : vwCl[4]? = some (RX4, TX4, 3))) 0 rfl pv6_3_1 rfl (Nat.le_of_ble_eq_true rfl) ⟨Nat.le_of_ble_eq_true rfl, Nat.le_of_ble_eq_true rfl⟩ dX5_aim_12 USm pv6_3_1.symm rfl rfl rfl ?_
  refine V.aload_n 0 rfl dX5_aim_15 rfl ?_
  refine V.get (v := .ref (u 0)) (fun w H => List.mem_cons_of_mem _ (List.mem_append_left _ (List.mem_append_left _ (List.mem_append_left _ (List.mem_append_left _ (List.mem_append_right _ H)))))) (hc := (rfl : vwCl[5]? = some (RX5, TX5, 5))) 0 2 (by decide) (List.mem_of_getElem? (i := 1) rfl) rfl rfl dX5_aim_16 ?_
  refine V.get (v := .ref (u 1)) (fun w H => List.mem_cons_of_mem _ (List.mem_append_left _ (List.mem_append_left _ (List.mem_append_left _ (List.mem_append_right _ H))))) (hc := (rfl : vwCl[4]? = some (RX4, TX4, 3))) 21 0 (by decide) (List.mem_of_getElem? (i := 3) rfl) rfl rfl dX5_aim_19 ?_
  refine V.iload_n 1 rfl dX5_aim_22 rfl ?_
  refine V.iald (f := lA z ai) 22 j rfl rfl hj (by decide) dX5_aim_23 ?_
  exact V.iret hq XMx.r (Nat.le_of_ble_eq_true rfl) (Nat.le_of_ble_eq_true rfl) ⟨j, hj, rfl, c0, rfl, rfl⟩ dX5_aim_24
abbrev rmX5_needed : Room := { frames := 5, cells := 0, slots := 0, locals := 124 }
set_option maxHeartbeats 4000000 in
set_option maxRecDepth 100000 in
theorem kX5_needed (g : GT) (o : Nat) (b c u h x : Nat → Nat) (z y ai pa tu tx : Nat → Int32) (len : Nat) (s : BS) (n : Nat) (sv : SV) (hV : TV z) : UC g yX5_needed wsX5_needed rmX5_needed [.ref o] (GW g o b c u h x z y ai pa tu tx len s n sv) (fun v w => v = some (.int (en (ncA (z, ai, pa, tu)).1)) ∧ w = GW g o b c u h x z ((ncA (z, ai, pa, tu)).2.1) ((ncA (z, ai, pa, tu)).2.2.1) ((ncA (z, ai, pa, tu)).2.2.2.1) ((ncA (z, ai, pa, tu)).2.2.2.2) tx len s n sv) := by
  refine UC.ofV (cc := cX5_needed) (maxL := 2) (ret := some .int) (lv0 := [(0, .ref o)]) (by decide) rfl (Nat.le_of_ble_eq_true rfl) rfl ?_
  generalize hQF : QFr g rmX5_needed (fun v w => v = some (.int (en (ncA (z, ai, pa, tu)).1)) ∧ w = GW g o b c u h x z ((ncA (z, ai, pa, tu)).2.1) ((ncA (z, ai, pa, tu)).2.2.1) ((ncA (z, ai, pa, tu)).2.2.2.1) ((ncA (z, ai, pa, tu)).2.2.2.2) tx len s n sv) = QF
  have hq : QFok g rmX5_needed (fun v w => v = some (.int (en (ncA (z, ai, pa, tu)).1)) ∧ w = GW g o b c u h x z ((ncA (z, ai, pa, tu)).2.1) ((ncA (z, ai, pa, tu)).2.2.1) ((ncA (z, ai, pa, tu)).2.2.2.1) ((ncA (z, ai, pa, tu)).2.2.2.2) tx len s n sv) QF := hQF ▸ QFr.q
  refine V.eqws (ws2 := (HD g o b c u h x) ++ (SW g b z) ++ (SW g c y) ++ (UW g u ai pa tu) ++ (BWs g x tx (nI len) s) ++ (HW g h n sv)) rfl ?_
  refine V.aload_n 0 rfl dX5_needed_0 rfl ?_
  refine V.get (v := .ref (c 0)) (fun w H => List.mem_cons_of_mem _ (List.mem_append_left _ (List.mem_append_left _ (List.mem_append_left _ (List.mem_append_right _ H))))) (hc := (rfl : vwCl[5]? = some (RX5, TX5, 5))) 0 1 (by decide) (List.mem_of_getElem? (i := 1) rfl) rfl rfl dX5_needed_1 ?_
  refine V.aload_n 0 rfl dX5_needed_4 rfl ?_
  refine V.get (v := .ref (b 0)) (fun w H => List.mem_cons_of_mem _ (List.mem_append_left _ (List.mem_append_left _ (List.mem_append_left _ (List.mem_append_right _ H))))) (hc := (rfl : vwCl[5]? = some (RX5, TX5, 5))) 0 0 (by decide) (List.mem_of_getElem? (i := 2) rfl) rfl rfl dX5_needed_5 ?_
  refine V.callVPf (ws2 := (HD g o b c u h x) ++ (SW g b z) ++ (SW g c z) ++ (UW g u ai pa tu) ++ (BWs g x tx (nI len) s) ++ (HW g h n sv)) (st2 := []) [.ref (b 0)] [] (kX2_copyFrom g c y b z ) gX5_needed_X2_copyFrom rfl (by show _ ∧ _ ∧ _ ∧ _ = some (1 : Nat); decide +kernel) ⟨Nat.le_of_ble_eq_true rfl, Nat.le_of_ble_eq_true rfl⟩ (hc := (rfl : vwCl[2]? = some (RX2, TX2, 12))) 0 rfl pv6_2_1 rfl (Nat.le_of_ble_eq_true rfl) ⟨Nat.le_of_ble_eq_true rfl, Nat.le_of_ble_eq_true rfl⟩ dX5_needed_8 SSm pv6_2_1.symm rfl rfl rfl ?_
  refine V.iconst (v := 0) dX5_needed_11 (by decide) ?_
  refine V.istore_n (lv2 := [(1, .int 0), (0, .ref o)]) dX5_needed_12 rfl (by decide) rfl ?_
  have L13 : ∀ (kL : Nat) (i : Nat) (q : R5), i + kL = 40 → (TV q.1) → (ncL kL i q = ncA (z, ai, pa, tu)) → V g rmX5_needed RX5 cX5_needed wsX5_needed 2 QF (XM (some .int) "needed") 0 0 ((HD g o b c u h x) ++ (SW g b z) ++ (SW g c q.1) ++ (UW g u q.2.1 q.2.2.1 q.2.2.2) ++ (BWs g x tx (nI len) s) ++ (HW g h n sv)) 13 [(1, .int (nI i)), (0, .ref o)] [] := by
    intro kL
    induction kL with
    | zero =>
      intro i q hrel hq1 hfu
      refine V.iload_n 0 rfl dX5_needed_13 rfl ?_
      refine V.bipush (v := 40) dX5_needed_14 (by decide) ?_
      refine V.icmp_ge_t (tgt := 56) (by rw [show i = 40 from by omega]; decide) dX5_needed_16 (by decide) ?_
      refine V.aload_n 1 rfl dX5_needed_56 rfl ?_
      refine V.get (v := .ref (c 0)) (fun w H => List.mem_cons_of_mem _ (List.mem_append_left _ (List.mem_append_left _ (List.mem_append_left _ (List.mem_append_right _ H))))) (hc := (rfl : vwCl[5]? = some (RX5, TX5, 5))) 0 1 (by decide) (List.mem_of_getElem? (i := 1) rfl) rfl rfl dX5_needed_57 ?_
      refine V.callVPf (ws2 := (HD g o b c u h x) ++ (SW g b z) ++ (SW g c q.1) ++ (UW g u q.2.1 q.2.2.1 q.2.2.2) ++ (BWs g x tx (nI len) s) ++ (HW g h n sv)) (st2 := [.int (bi (aR_t q.1))]) [] [] (kX2_allRight g c q.1 hq1.1.2.2.1 hq1.np) gX5_needed_X2_allRight rfl (by show _ ∧ _ ∧ _ ∧ _ = some (0 : Nat); decide +kernel) ⟨Nat.le_of_ble_eq_true rfl, Nat.le_of_ble_eq_true rfl⟩ (hc := (rfl : vwCl[2]? = some (RX2, TX2, 12))) 0 rfl pv6_2 rfl (Nat.le_of_ble_eq_true rfl) ⟨Nat.le_of_ble_eq_true rfl, Nat.le_of_ble_eq_true rfl⟩ dX5_needed_60 SWm pv6_2.symm rfl rfl rfl ?_
      refine V.if_eq (tgt := 70) dX5_needed_63 (by decide) (fun c63 => ?_) (fun c63 => ?_)
      · skip
        have h63 := aR_0 (bi_0 c63)
        have hW : ncA (z, ai, pa, tu) = (none, q) := hfu.symm.trans (ncL_n h63)
        refine V.iconst (v := -1) dX5_needed_70 (by decide) ?_
        exact V.iret hq XM.r (Nat.le_of_ble_eq_true rfl) (Nat.le_of_ble_eq_true rfl) ⟨by rw [hW] <;> rfl, by rw [hW] <;> rfl⟩ dX5_needed_71
      · skip
        have h63 := aR_1 (bi_1 c63)
        have hW : ncA (z, ai, pa, tu) = (some i, q) := hfu.symm.trans (ncL_y h63)
        refine V.iload_n 0 rfl dX5_needed_66 rfl ?_
        refine V.goto (tgt := 71) dX5_needed_67 (by decide) ?_
        exact V.iret hq XM.r (Nat.le_of_ble_eq_true rfl) (Nat.le_of_ble_eq_true rfl) ⟨by rw [hW] <;> rfl, by rw [hW] <;> rfl⟩ dX5_needed_71
    | succ kL ih =>
      intro i q hrel hq1 hfu
      refine V.iload_n 0 rfl dX5_needed_13 rfl ?_
      refine V.bipush (v := 40) dX5_needed_14 (by decide) ?_
      refine V.icmp_ge_f (tgt := 56) (by exact nI_ge (a := i) (b := 40) (by omega) (by decide)) dX5_needed_16 (by decide) ?_
      refine V.aload_n 1 rfl dX5_needed_19 rfl ?_
      refine V.get (v := .ref (c 0)) (fun w H => List.mem_cons_of_mem _ (List.mem_append_left _ (List.mem_append_left _ (List.mem_append_left _ (List.mem_append_right _ H))))) (hc := (rfl : vwCl[5]? = some (RX5, TX5, 5))) 0 1 (by decide) (List.mem_of_getElem? (i := 1) rfl) rfl rfl dX5_needed_20 ?_
      refine V.callVPf (ws2 := (HD g o b c u h x) ++ (SW g b z) ++ (SW g c q.1) ++ (UW g u q.2.1 q.2.2.1 q.2.2.2) ++ (BWs g x tx (nI len) s) ++ (HW g h n sv)) (st2 := [.int (bi (aR_t q.1))]) [] [] (kX2_allRight g c q.1 hq1.1.2.2.1 hq1.np) gX5_needed_X2_allRight rfl (by show _ ∧ _ ∧ _ ∧ _ = some (0 : Nat); decide +kernel) ⟨Nat.le_of_ble_eq_true rfl, Nat.le_of_ble_eq_true rfl⟩ (hc := (rfl : vwCl[2]? = some (RX2, TX2, 12))) 0 rfl pv6_2 rfl (Nat.le_of_ble_eq_true rfl) ⟨Nat.le_of_ble_eq_true rfl, Nat.le_of_ble_eq_true rfl⟩ dX5_needed_23 SWm pv6_2.symm rfl rfl rfl ?_
      refine V.if_ne (tgt := 56) dX5_needed_26 (by decide) (fun c26 => ?_) (fun c26 => ?_)
      · skip
        have h26 := aR_1 (bi_1 c26)
        have hW : ncA (z, ai, pa, tu) = (some i, q) := hfu.symm.trans (ncL_y h26)
        refine V.aload_n 1 rfl dX5_needed_56 rfl ?_
        refine V.get (v := .ref (c 0)) (fun w H => List.mem_cons_of_mem _ (List.mem_append_left _ (List.mem_append_left _ (List.mem_append_left _ (List.mem_append_right _ H))))) (hc := (rfl : vwCl[5]? = some (RX5, TX5, 5))) 0 1 (by decide) (List.mem_of_getElem? (i := 1) rfl) rfl rfl dX5_needed_57 ?_
        refine V.callVPf (ws2 := (HD g o b c u h x) ++ (SW g b z) ++ (SW g c q.1) ++ (UW g u q.2.1 q.2.2.1 q.2.2.2) ++ (BWs g x tx (nI len) s) ++ (HW g h n sv)) (st2 := [.int (bi (aR_t q.1))]) [] [] (kX2_allRight g c q.1 hq1.1.2.2.1 hq1.np) gX5_needed_X2_allRight rfl (by show _ ∧ _ ∧ _ ∧ _ = some (0 : Nat); decide +kernel) ⟨Nat.le_of_ble_eq_true rfl, Nat.le_of_ble_eq_true rfl⟩ (hc := (rfl : vwCl[2]? = some (RX2, TX2, 12))) 0 rfl pv6_2 rfl (Nat.le_of_ble_eq_true rfl) ⟨Nat.le_of_ble_eq_true rfl, Nat.le_of_ble_eq_true rfl⟩ dX5_needed_60 SWm pv6_2.symm rfl rfl rfl ?_
        refine V.if_eq_f (tgt := 70) (by exact c26) dX5_needed_63 (by decide) ?_
        refine V.iload_n 0 rfl dX5_needed_66 rfl ?_
        refine V.goto (tgt := 71) dX5_needed_67 (by decide) ?_
        exact V.iret hq XM.r (Nat.le_of_ble_eq_true rfl) (Nat.le_of_ble_eq_true rfl) ⟨by rw [hW] <;> rfl, by rw [hW] <;> rfl⟩ dX5_needed_71
      · skip
        have h26 := aR_0 (bi_0 c26)
        rw [ncL_s, if_neg h26] at hfu
        refine V.aload_n 1 rfl dX5_needed_29 rfl ?_
        refine V.get (v := .ref (u 0)) (fun w H => List.mem_cons_of_mem _ (List.mem_append_left _ (List.mem_append_left _ (List.mem_append_left _ (List.mem_append_right _ H))))) (hc := (rfl : vwCl[5]? = some (RX5, TX5, 5))) 0 2 (by decide) (List.mem_of_getElem? (i := 3) rfl) rfl rfl dX5_needed_30 ?_
        refine V.aload_n 1 rfl dX5_needed_33 rfl ?_
        refine V.get (v := .ref (c 0)) (fun w H => List.mem_cons_of_mem _ (List.mem_append_left _ (List.mem_append_left _ (List.mem_append_left _ (List.mem_append_right _ H))))) (hc := (rfl : vwCl[5]? = some (RX5, TX5, 5))) 0 1 (by decide) (List.mem_of_getElem? (i := 1) rfl) rfl rfl dX5_needed_34 ?_
        refine V.iconst (v := 1) dX5_needed_37 (by decide) ?_
        refine V.callVPf (ws2 := (HD g o b c u h x) ++ (SW g b z) ++ (SW g c ((cTs 1 ((q.1, q.2.1, q.2.2.1, q.2.2.2), 0)).1.1)) ++ (UW g u ((cTs 1 ((q.1, q.2.1, q.2.2.1, q.2.2.2), 0)).1.2.1) ((cTs 1 ((q.1, q.2.1, q.2.2.1, q.2.2.2), 0)).1.2.2.1) ((cTs 1 ((q.1, q.2.1, q.2.2.1, q.2.2.2), 0)).1.2.2.2)) ++ (BWs g x tx (nI len) s) ++ (HW g h n sv)) (st2 := [.int ((cTs 1 ((q.1, q.2.1, q.2.2.1, q.2.2.2), 0)).2)]) [.ref (c 0), .int 1] [] (kX4_make g u q.2.1 q.2.2.1 q.2.2.2 c q.1 1 (by decide) hq1) gX5_needed_X4_make rfl (by show _ ∧ _ ∧ _ ∧ _ = some (2 : Nat); decide +kernel) ⟨Nat.le_of_ble_eq_true rfl, Nat.le_of_ble_eq_true rfl⟩ (hc := (rfl : vwCl[4]? = some (RX4, TX4, 3))) 0 rfl pv6_3_2 rfl (Nat.le_of_ble_eq_true rfl) ⟨Nat.le_of_ble_eq_true rfl, Nat.le_of_ble_eq_true rfl⟩ dX5_needed_38 USm pv6_3_2.symm rfl rfl rfl ?_
        refine V.pop dX5_needed_41 rfl ?_
        have hV2 : TV (cTs 1 (q, 0)).1.1 := TV.cTs (s := (q, 0)) hq1
        refine V.eqws (ws2 := (HD g o b c u h x) ++ (SW g b z) ++ (SW g c ((cTs 1 (q, 0)).1.1)) ++ (UW g u ((cTs 1 (q, 0)).1.2.1) ((cTs 1 (q, 0)).1.2.2.1) ((cTs 1 (q, 0)).1.2.2.2)) ++ (BWs g x tx (nI len) s) ++ (HW g h n sv)) rfl ?_
        refine V.aload_n 1 rfl dX5_needed_42 rfl ?_
        refine V.get (v := .ref (c 0)) (fun w H => List.mem_cons_of_mem _ (List.mem_append_left _ (List.mem_append_left _ (List.mem_append_left _ (List.mem_append_right _ H))))) (hc := (rfl : vwCl[5]? = some (RX5, TX5, 5))) 0 1 (by decide) (List.mem_of_getElem? (i := 1) rfl) rfl rfl dX5_needed_43 ?_
        refine V.callVPf (ws2 := (HD g o b c u h x) ++ (SW g b z) ++ (SW g c (inZ ((cTs 1 (q, 0)).1.1))) ++ (UW g u ((cTs 1 (q, 0)).1.2.1) ((cTs 1 (q, 0)).1.2.2.1) ((cTs 1 (q, 0)).1.2.2.2)) ++ (BWs g x tx (nI len) s) ++ (HW g h n sv)) (st2 := [.int ((inL ((cTs 1 (q, 0)).1.1)).2)]) [] [] (kX2_takeOffWrong g c ((cTs 1 (q, 0)).1.1) hV2.1.2.2.1 hV2.np hV2.2.2.2.2 hV2.2.1.2.2.2.2) gX5_needed_X2_takeOffWrong rfl (by show _ ∧ _ ∧ _ ∧ _ = some (0 : Nat); decide +kernel) ⟨Nat.le_of_ble_eq_true rfl, Nat.le_of_ble_eq_true rfl⟩ (hc := (rfl : vwCl[2]? = some (RX2, TX2, 12))) 0 rfl pv6_2 rfl (Nat.le_of_ble_eq_true rfl) ⟨Nat.le_of_ble_eq_true rfl, Nat.le_of_ble_eq_true rfl⟩ dX5_needed_46 SWm pv6_2.symm rfl rfl rfl ?_
        refine V.pop dX5_needed_49 rfl ?_
        refine V.eqws (ws2 := (HD g o b c u h x) ++ (SW g b z) ++ (SW g c ((ncT q).1)) ++ (UW g u ((ncT q).2.1) ((ncT q).2.2.1) ((ncT q).2.2.2)) ++ (BWs g x tx (nI len) s) ++ (HW g h n sv)) rfl ?_
        refine V.iinc (v := nI (i + 1)) (lv2 := [(1, .int (nI (i + 1))), (0, .ref o)]) 0 rfl dX5_needed_50 (nI_add i 1) (by decide) rfl ?_
        refine V.goto (tgt := 13) dX5_needed_53 (by decide) ?_
        refine V.eqlv (lv2 := [(1, .int (nI (i + 1))), (0, .ref o)]) [0, 1] rfl ?_
        exact ih (i + 1) (ncT q) (by omega) hq1.ncT hfu
  refine V.eqlv (lv2 := [(1, .int 0), (0, .ref o)]) [0, 1] rfl ?_
  exact L13 40 0 (z, ai, pa, tu) (by omega) hV rfl
abbrev rmX5_rumored : Room := { frames := 2, cells := 0, slots := 0, locals := 48 }
set_option maxHeartbeats 4000000 in
set_option maxRecDepth 100000 in
theorem kX5_rumored (g : GT) (o : Nat) (b c u h x : Nat → Nat) (z y ai pa tu tx : Nat → Int32) (len : Nat) (s : BS) (n : Nat) (sv : SV) (hF : z 5 = nI (nf z)) (hF8 : nf z ≤ 8) (hR : RT z) : UC g yX5_rumored wsX5_rumored rmX5_rumored [.ref o] (GW g o b c u h x z y ai pa tu tx len s n sv) (fun v w => v = some (.int (en (rmd z))) ∧ w = GW g o b c u h x z y ai pa tu tx len s n sv) := by
  refine UC.ofV (cc := cX5_rumored) (maxL := 5) (ret := some .int) (lv0 := [(0, .ref o)]) (by decide) rfl (Nat.le_of_ble_eq_true rfl) rfl ?_
  generalize hQF : QFr g rmX5_rumored (fun v w => v = some (.int (en (rmd z))) ∧ w = GW g o b c u h x z y ai pa tu tx len s n sv) = QF
  have hq : QFok g rmX5_rumored (fun v w => v = some (.int (en (rmd z))) ∧ w = GW g o b c u h x z y ai pa tu tx len s n sv) QF := hQF ▸ QFr.q
  refine V.eqws (ws2 := (HD g o b c u h x) ++ (SW g b z) ++ (SW g c y) ++ (UW g u ai pa tu) ++ (BWs g x tx (nI len) s) ++ (HW g h n sv)) rfl ?_
  refine V.iconst (v := -1) dX5_rumored_0 (by decide) ?_
  refine V.istore_n (lv2 := [(1, .int (-1)), (0, .ref o)]) dX5_rumored_1 rfl (by decide) rfl ?_
  refine V.iconst (v := -1) dX5_rumored_2 (by decide) ?_
  refine V.istore_n (lv2 := [(2, .int (-1)), (1, .int (-1)), (0, .ref o)]) dX5_rumored_3 rfl (by decide) rfl ?_
  refine V.iconst (v := 0) dX5_rumored_4 (by decide) ?_
  refine V.istore_n (lv2 := [(3, .int 0), (2, .int (-1)), (1, .int (-1)), (0, .ref o)]) dX5_rumored_5 rfl (by decide) rfl ?_
  have L6 : ∀ (kL : Nat) (i : Nat) (oo : Option Nat), i + kL = nf z → (fu (rmF z) i kL oo = rmd z) → V g rmX5_rumored RX5 cX5_rumored wsX5_rumored 5 QF (XM (some .int) "rumored") 0 0 ((HD g o b c u h x) ++ (SW g b z) ++ (SW g c y) ++ (UW g u ai pa tu) ++ (BWs g x tx (nI len) s) ++ (HW g h n sv)) 6 [(3, .int (nI i)), (2, .int (gd z oo)), (1, .int (en oo)), (0, .ref o)] [] := by
    intro kL
    induction kL with
    | zero =>
      intro i oo hrel hfu
      rw [fu_0] at hfu
      refine V.iload_n 0 rfl dX5_rumored_6 rfl ?_
      refine V.aload_n 3 rfl dX5_rumored_7 rfl ?_
      refine V.get (v := .ref (b 0)) (fun w H => List.mem_cons_of_mem _ (List.mem_append_left _ (List.mem_append_left _ (List.mem_append_right _ H)))) (hc := (rfl : vwCl[5]? = some (RX5, TX5, 5))) 0 0 (by decide) (List.mem_of_getElem? (i := 1) rfl) rfl rfl dX5_rumored_8 ?_
      refine V.get (v := .int (z 5)) (fun w H => List.mem_cons_of_mem _ (List.mem_append_left _ (List.mem_append_right _ H))) (hc := (rfl : vwCl[2]? = some (RX2, TX2, 12))) 1 0 (by decide) (List.mem_of_getElem? (i := 2) rfl) rfl rfl dX5_rumored_11 ?_
      rw [hF]
      refine V.icmp_ge_t (tgt := 44) (by exact nI_le (a := nf z) (b := i) (by omega) (by omega)) dX5_rumored_14 (by decide) ?_
      refine V.iload_n 2 rfl dX5_rumored_44 rfl ?_
      exact V.iret hq XM.r (Nat.le_of_ble_eq_true rfl) (Nat.le_of_ble_eq_true rfl) ⟨by rw [← hfu] <;> rfl, rfl⟩ dX5_rumored_45
    | succ kL ih =>
      intro i oo hrel hfu
      rw [fu_s] at hfu
      refine V.iload_n 0 rfl dX5_rumored_6 rfl ?_
      refine V.aload_n 3 rfl dX5_rumored_7 rfl ?_
      refine V.get (v := .ref (b 0)) (fun w H => List.mem_cons_of_mem _ (List.mem_append_left _ (List.mem_append_left _ (List.mem_append_right _ H)))) (hc := (rfl : vwCl[5]? = some (RX5, TX5, 5))) 0 0 (by decide) (List.mem_of_getElem? (i := 1) rfl) rfl rfl dX5_rumored_8 ?_
      refine V.get (v := .int (z 5)) (fun w H => List.mem_cons_of_mem _ (List.mem_append_left _ (List.mem_append_right _ H))) (hc := (rfl : vwCl[2]? = some (RX2, TX2, 12))) 1 0 (by decide) (List.mem_of_getElem? (i := 2) rfl) rfl rfl dX5_rumored_11 ?_
      rw [hF]
      refine V.icmp_ge_f (tgt := 44) (by exact nI_ge (a := i) (b := nf z) (by omega) (by omega)) dX5_rumored_14 (by decide) ?_
      refine V.aload_n 3 rfl dX5_rumored_17 rfl ?_
      refine V.get (v := .ref (b 0)) (fun w H => List.mem_cons_of_mem _ (List.mem_append_left _ (List.mem_append_left _ (List.mem_append_right _ H)))) (hc := (rfl : vwCl[5]? = some (RX5, TX5, 5))) 0 0 (by decide) (List.mem_of_getElem? (i := 1) rfl) rfl rfl dX5_rumored_18 ?_
      refine V.iload_n 0 rfl dX5_rumored_21 rfl ?_
      refine V.callVPf (ws2 := (HD g o b c u h x) ++ (SW g b z) ++ (SW g c y) ++ (UW g u ai pa tu) ++ (BWs g x tx (nI len) s) ++ (HW g h n sv)) (st2 := [.int (dc z i)]) [.int (nI i)] [] (kX2_trustSpread g b z i (by omega)) gX5_rumored_X2_trustSpread rfl (by show _ ∧ _ ∧ _ ∧ _ = some (1 : Nat); decide +kernel) ⟨Nat.le_of_ble_eq_true rfl, Nat.le_of_ble_eq_true rfl⟩ (hc := (rfl : vwCl[2]? = some (RX2, TX2, 12))) 0 rfl pv6_1 rfl (Nat.le_of_ble_eq_true rfl) ⟨Nat.le_of_ble_eq_true rfl, Nat.le_of_ble_eq_true rfl⟩ dX5_rumored_22 SWm pv6_1.symm rfl rfl rfl ?_
      refine V.istore (lv2 := [(4, .int (dc z i)), (3, .int (nI i)), (2, .int (gd z oo)), (1, .int (en oo)), (0, .ref o)]) dX5_rumored_25 (by decide) rfl ?_
      refine V.iload 0 rfl dX5_rumored_27 ?_
      refine V.iload_n 2 rfl dX5_rumored_29 rfl ?_
      refine V.icmp_le (tgt := 38) dX5_rumored_30 (by decide) (fun c30 => ?_) (fun c30 => ?_)
      · skip
        refine V.iinc (v := nI (i + 1)) (lv2 := [(3, .int (nI (i + 1))), (4, .int (dc z i)), (2, .int (gd z oo)), (1, .int (en oo)), (0, .ref o)]) 1 rfl dX5_rumored_38 (nI_add i 1) (by decide) rfl ?_
        refine V.goto (tgt := 6) dX5_rumored_41 (by decide) ?_
        refine V.eqlv (lv2 := [(3, .int (nI (i + 1))), (2, .int (gd z oo)), (1, .int (en oo)), (0, .ref o)]) [0, 2, 3, 4] rfl ?_
        exact ih (i + 1) oo (by omega) (by rw [rm_t hR (by omega) c30] at hfu; exact hfu)
      · skip
        refine V.iload 0 rfl dX5_rumored_33 ?_
        refine V.istore_n (lv2 := [(2, .int (dc z i)), (4, .int (dc z i)), (3, .int (nI i)), (1, .int (en oo)), (0, .ref o)]) dX5_rumored_35 rfl (by decide) rfl ?_
        refine V.iload_n 2 rfl dX5_rumored_36 rfl ?_
        refine V.istore_n (lv2 := [(1, .int (nI i)), (2, .int (dc z i)), (4, .int (dc z i)), (3, .int (nI i)), (0, .ref o)]) dX5_rumored_37 rfl (by decide) rfl ?_
        refine V.iinc (v := nI (i + 1)) (lv2 := [(3, .int (nI (i + 1))), (1, .int (nI i)), (2, .int (dc z i)), (4, .int (dc z i)), (0, .ref o)]) 3 rfl dX5_rumored_38 (nI_add i 1) (by decide) rfl ?_
        refine V.goto (tgt := 6) dX5_rumored_41 (by decide) ?_
        refine V.eqlv (lv2 := [(3, .int (nI (i + 1))), (2, .int (dc z i)), (1, .int (nI i)), (0, .ref o)]) [0, 2, 1, 4] rfl ?_
        exact ih (i + 1) (some i) (by omega) (by rw [rm_f c30] at hfu; exact hfu)
  refine V.eqlv (lv2 := [(3, .int 0), (2, .int (-1)), (1, .int (-1)), (0, .ref o)]) [0, 1, 2, 3] rfl ?_
  exact L6 (nf z) 0 none (by omega) rfl
abbrev rmX5_missShare : Room := { frames := 3, cells := 0, slots := 0, locals := 68 }
set_option maxHeartbeats 4000000 in
set_option maxRecDepth 100000 in
theorem kX5_missShare (g : GT) (o : Nat) (b c u h x : Nat → Nat) (z y ai pa tu tx : Nat → Int32) (len : Nat) (s : BS) (n : Nat) (sv : SV) (hne : ¬ sN z 1 = 0 → vf_n64 (FP.ddiv (FP.i2d (sN z 2)) (FP.i2d (sN z 1)))) (hT : 0 ≤ (sN z 1).toInt) : UC g yX5_missShare wsX5_missShare rmX5_missShare [.ref o] (GW g o b c u h x z y ai pa tu tx len s n sv) (fun v w => v = some (.double (shr z)) ∧ w = GW g o b c u h x z y ai pa tu tx len s n sv) := by
  refine UC.ofV (cc := cX5_missShare) (maxL := 2) (ret := some .double) (lv0 := [(0, .ref o)]) (by decide) rfl (Nat.le_of_ble_eq_true rfl) rfl ?_
  generalize hQF : QFr g rmX5_missShare (fun v w => v = some (.double (shr z)) ∧ w = GW g o b c u h x z y ai pa tu tx len s n sv) = QF
  have hq : QFok g rmX5_missShare (fun v w => v = some (.double (shr z)) ∧ w = GW g o b c u h x z y ai pa tu tx len s n sv) QF := hQF ▸ QFr.q
  refine V.eqws (ws2 := (HD g o b c u h x) ++ (SW g b z) ++ (SW g c y) ++ (UW g u ai pa tu) ++ (BWs g x tx (nI len) s) ++ (HW g h n sv)) rfl ?_
  refine V.aload_n 0 rfl dX5_missShare_0 rfl ?_
  refine V.get (v := .ref (b 0)) (fun w H => List.mem_cons_of_mem _ (List.mem_append_left _ (List.mem_append_left _ (List.mem_append_right _ H)))) (hc := (rfl : vwCl[5]? = some (RX5, TX5, 5))) 0 0 (by decide) (List.mem_of_getElem? (i := 1) rfl) rfl rfl dX5_missShare_1 ?_
  refine V.get (v := .ref (b 6)) (fun w H => List.mem_cons_of_mem _ (List.mem_append_left _ (List.mem_append_right _ H))) (hc := (rfl : vwCl[2]? = some (RX2, TX2, 12))) 1 10 (by decide) (List.mem_of_getElem? (i := 2) rfl) rfl rfl dX5_missShare_4 ?_
  refine V.iconst (v := 4) dX5_missShare_7 (by decide) ?_
  refine V.iconst (v := 1) dX5_missShare_8 (by decide) ?_
  refine V.callVf (ws2 := (HD g o b c u h x) ++ (SW g b z) ++ (SW g c y) ++ (UW g u ai pa tu) ++ (BWs g x tx (nI len) s) ++ (HW g h n sv)) (st2 := [.int (fu (tsF (sg z 196 20) 5 1) 0 4 0)]) [.int 4, .int 1] [] (kX3_sum g (b 6) (b 7) 5 20 (sg z 196 20) 4 1 (by decide) (by decide) (by decide) (by decide) (fun r hr => by omega)) gX5_missShare_X3_sum rfl (by show _ ∧ _ ∧ _ ∧ _ = some (2 : Nat); decide +kernel) ⟨Nat.le_of_ble_eq_true rfl, Nat.le_of_ble_eq_true rfl⟩ (hc := (rfl : vwCl[3]? = some (RX3, TX3, 2))) 7 rfl [7, 8] (by decide) rfl rfl (Nat.le_of_ble_eq_true rfl) ⟨Nat.le_of_ble_eq_true rfl, Nat.le_of_ble_eq_true rfl⟩ dX5_missShare_9 TWf (insW_of rfl rfl rfl) rfl rfl rfl ?_
  rw [ts_sN (by decide)]
  refine V.istore_n (lv2 := [(1, .int (sN z 1)), (0, .ref o)]) dX5_missShare_12 rfl (by decide) rfl ?_
  refine V.iload_n 0 rfl dX5_missShare_13 rfl ?_
  refine V.if_le (tgt := 31) dX5_missShare_14 (by decide) (fun c14 => ?_) (fun c14 => ?_)
  · skip
    have h0 : sN z 1 = 0 := Int32.toInt_inj.mp (by have h1 := le_t.mp c14; have h2 : (0 : Int32).toInt = 0 := rfl; omega)
    refine V.dconst0 dX5_missShare_31 ?_
    exact V.dret hq XM.r (Nat.le_of_ble_eq_true rfl) (Nat.le_of_ble_eq_true rfl) ⟨by rw [shr, if_pos h0], rfl⟩ dX5_missShare_32
  · skip
    have h0 : ¬ sN z 1 = 0 := fun q => c14 (by rw [q]; decide)
    refine V.aload_n 1 rfl dX5_missShare_17 rfl ?_
    refine V.get (v := .ref (b 0)) (fun w H => List.mem_cons_of_mem _ (List.mem_append_left _ (List.mem_append_left _ (List.mem_append_right _ H)))) (hc := (rfl : vwCl[5]? = some (RX5, TX5, 5))) 0 0 (by decide) (List.mem_of_getElem? (i := 1) rfl) rfl rfl dX5_missShare_18 ?_
    refine V.callVPf (ws2 := (HD g o b c u h x) ++ (SW g b z) ++ (SW g c y) ++ (UW g u ai pa tu) ++ (BWs g x tx (nI len) s) ++ (HW g h n sv)) (st2 := [.int (sN z 2)]) [] [] (kX2_misses g b z ) gX5_missShare_X2_misses rfl (by show _ ∧ _ ∧ _ ∧ _ = some (0 : Nat); decide +kernel) ⟨Nat.le_of_ble_eq_true rfl, Nat.le_of_ble_eq_true rfl⟩ (hc := (rfl : vwCl[2]? = some (RX2, TX2, 12))) 0 rfl pv6_1 rfl (Nat.le_of_ble_eq_true rfl) ⟨Nat.le_of_ble_eq_true rfl, Nat.le_of_ble_eq_true rfl⟩ dX5_missShare_21 SWm pv6_1.symm rfl rfl rfl ?_
    refine V.i2d dX5_missShare_24 ?_
    refine V.iload_n 0 rfl dX5_missShare_25 rfl ?_
    refine V.i2d dX5_missShare_26 ?_
    refine V.ddiv dX5_missShare_27 (hne h0) ?_
    refine V.goto (tgt := 32) dX5_missShare_28 (by decide) ?_
    exact V.dret hq XM.r (Nat.le_of_ble_eq_true rfl) (Nat.le_of_ble_eq_true rfl) ⟨by rw [shr, if_neg h0], rfl⟩ dX5_missShare_32
