theorem pv6_5_1 {α : Type} {A0 A1 A2 A3 A4 A5 : List α} : ((((((A0 ++ A1) ++ A2) ++ A3) ++ A4) ++ A5)).Perm (((A5 ++ A1)) ++ ((((A0 ++ A2) ++ A3) ++ A4))) := by
  classical
  exact List.perm_iff_count.mpr (fun a => by simp only [List.count_append, List.count_nil]; omega)
theorem pv6_1 {α : Type} {A0 A1 A2 A3 A4 A5 : List α} : ((((((A0 ++ A1) ++ A2) ++ A3) ++ A4) ++ A5)).Perm ((A1) ++ (((((A0 ++ A2) ++ A3) ++ A4) ++ A5))) := by
  classical
  exact List.perm_iff_count.mpr (fun a => by simp only [List.count_append, List.count_nil]; omega)
abbrev rmX5_addFeeder : Room := { frames := 7, cells := 15, slots := 291, locals := 124 }
set_option maxHeartbeats 4000000 in
set_option maxRecDepth 100000 in
theorem kX5_addFeeder (g : GT) (hst : g.1.stackTraces = false) (o : Nat) (b c u h x : Nat → Nat) (z y ai pa tu tx : Nat → Int32) (len : Nat) (s : BS) (n : Nat) (sv : SV) (q0 q1 q2 q3 q4 : Int32) (hF : z 5 = nI (nf z)) (hF8 : nf z ≤ 8) (hn6 : n ≤ 6) (hnl : n ≤ sv.length) (hl6 : sv.length ≤ 6) : UX g yX5_addFeeder wsX5_addFeeder rmX5_addFeeder [.ref o, .int q0, .int q1, .int q2, .int q3, .int q4] (GW g o b c u h x z y ai pa tu tx len s n sv) (fun v w => (wi q0 0 99 = true ∧ wi q1 0 5 = true ∧ wi q2 0 500 = true ∧ wi q3 0 100 = true ∧ wi q4 0 100 = true ∧ nf z < 8) ∧ v = some (.int (nI (nf z))) ∧ ∃ sv2 : SV, svQ (svM n) (svR n sv) sv2 z ∧ GQ (GW g o b c u h x z y ai pa tu tx len s n sv) w (GW g o b c u h x (nfI z q0 q1 q2 q3 q4) y ai pa tu tx len s (svM n + 1) sv2)) (fun E w => w = GW g o b c u h x z y ai pa tu tx len s n sv ∧ ((wi q0 0 99 = false ∧ E = IAE) ∨ (wi q0 0 99 = true ∧ wi q1 0 5 = false ∧ E = IAE) ∨ (wi q0 0 99 = true ∧ wi q1 0 5 = true ∧ wi q2 0 500 = false ∧ E = IAE) ∨ (wi q0 0 99 = true ∧ wi q1 0 5 = true ∧ wi q2 0 500 = true ∧ wi q3 0 100 = false ∧ E = IAE) ∨ (wi q0 0 99 = true ∧ wi q1 0 5 = true ∧ wi q2 0 500 = true ∧ wi q3 0 100 = true ∧ wi q4 0 100 = false ∧ E = IAE) ∨ (wi q0 0 99 = true ∧ wi q1 0 5 = true ∧ wi q2 0 500 = true ∧ wi q3 0 100 = true ∧ wi q4 0 100 = true ∧ ¬ nf z < 8 ∧ E = ISE))) := by
  refine UX.ofV (cc := cX5_addFeeder) (maxL := 6) (ret := some .int) (lv0 := [(0, .ref o), (1, .int q0), (2, .int q1), (3, .int q2), (4, .int q3), (5, .int q4)]) (by decide) rfl (Nat.le_of_ble_eq_true rfl) rfl ?_
  have hq : QFok g rmX5_addFeeder (fun v w => (wi q0 0 99 = true ∧ wi q1 0 5 = true ∧ wi q2 0 500 = true ∧ wi q3 0 100 = true ∧ wi q4 0 100 = true ∧ nf z < 8) ∧ v = some (.int (nI (nf z))) ∧ ∃ sv2 : SV, svQ (svM n) (svR n sv) sv2 z ∧ GQ (GW g o b c u h x z y ai pa tu tx len s n sv) w (GW g o b c u h x (nfI z q0 q1 q2 q3 q4) y ai pa tu tx len s (svM n + 1) sv2)) (QFx g rmX5_addFeeder (fun v w => (wi q0 0 99 = true ∧ wi q1 0 5 = true ∧ wi q2 0 500 = true ∧ wi q3 0 100 = true ∧ wi q4 0 100 = true ∧ nf z < 8) ∧ v = some (.int (nI (nf z))) ∧ ∃ sv2 : SV, svQ (svM n) (svR n sv) sv2 z ∧ GQ (GW g o b c u h x z y ai pa tu tx len s n sv) w (GW g o b c u h x (nfI z q0 q1 q2 q3 q4) y ai pa tu tx len s (svM n + 1) sv2)) (fun E w => w = GW g o b c u h x z y ai pa tu tx len s n sv ∧ ((wi q0 0 99 = false ∧ E = IAE) ∨ (wi q0 0 99 = true ∧ wi q1 0 5 = false ∧ E = IAE) ∨ (wi q0 0 99 = true ∧ wi q1 0 5 = true ∧ wi q2 0 500 = false ∧ E = IAE) ∨ (wi q0 0 99 = true ∧ wi q1 0 5 = true ∧ wi q2 0 500 = true ∧ wi q3 0 100 = false ∧ E = IAE) ∨ (wi q0 0 99 = true ∧ wi q1 0 5 = true ∧ wi q2 0 500 = true ∧ wi q3 0 100 = true ∧ wi q4 0 100 = false ∧ E = IAE) ∨ (wi q0 0 99 = true ∧ wi q1 0 5 = true ∧ wi q2 0 500 = true ∧ wi q3 0 100 = true ∧ wi q4 0 100 = true ∧ ¬ nf z < 8 ∧ E = ISE)))) := QFx.q
  refine V.eqws (ws2 := (HD g o b c u h x) ++ (SW g b z) ++ (SW g c y) ++ (UW g u ai pa tu) ++ (BWs g x tx (nI len) s) ++ (HW g h n sv)) rfl ?_
  refine V.iload_n 1 rfl dX5_addFeeder_0 rfl ?_
  refine V.iconst (v := 0) dX5_addFeeder_1 (by decide) ?_
  refine V.bipush (v := 99) dX5_addFeeder_2 (by decide) ?_
  refine V.callSX0 [.int q0, .int 0, .int 99] [] (kX5_checkRange g hst q0 0 99) gX5_addFeeder_X5_checkRange rfl (by show _ ∧ _ ∧ _ = some (3 : Nat); decide +kernel) ⟨(Nat.le_of_ble_eq_true rfl), (Nat.le_of_ble_eq_true rfl)⟩ rfl (Nat.le_of_ble_eq_true rfl) ⟨(Nat.le_of_ble_eq_true rfl), (Nat.le_of_ble_eq_true rfl)⟩ ⟨(Nat.le_of_ble_eq_true rfl), (Nat.le_of_ble_eq_true rfl)⟩ dX5_addFeeder_4 (fun E w hx => ?_) (fun r w hq2 => ?_)
  · obtain ⟨rfl, rfl, hx⟩ := hx; exact ⟨rfl, rfl, Or.inl ⟨hx, rfl⟩⟩
  obtain ⟨rfl, rfl, c0⟩ := hq2
  refine ⟨rfl, ?_⟩
  refine V.eqst (st2 := []) rfl ?_
  refine V.iload_n 2 rfl dX5_addFeeder_7 rfl ?_
  refine V.iconst (v := 0) dX5_addFeeder_8 (by decide) ?_
  refine V.iconst (v := 5) dX5_addFeeder_9 (by decide) ?_
  refine V.callSX0 [.int q1, .int 0, .int 5] [] (kX5_checkRange g hst q1 0 5) gX5_addFeeder_X5_checkRange rfl (by show _ ∧ _ ∧ _ = some (3 : Nat); decide +kernel) ⟨(Nat.le_of_ble_eq_true rfl), (Nat.le_of_ble_eq_true rfl)⟩ rfl (Nat.le_of_ble_eq_true rfl) ⟨(Nat.le_of_ble_eq_true rfl), (Nat.le_of_ble_eq_true rfl)⟩ ⟨(Nat.le_of_ble_eq_true rfl), (Nat.le_of_ble_eq_true rfl)⟩ dX5_addFeeder_10 (fun E w hx => ?_) (fun r w hq2 => ?_)
  · obtain ⟨rfl, rfl, hx⟩ := hx; exact ⟨rfl, rfl, Or.inr (Or.inl ⟨c0, hx, rfl⟩)⟩
  obtain ⟨rfl, rfl, c1⟩ := hq2
  refine ⟨rfl, ?_⟩
  refine V.eqst (st2 := []) rfl ?_
  refine V.iload_n 3 rfl dX5_addFeeder_13 rfl ?_
  refine V.iconst (v := 0) dX5_addFeeder_14 (by decide) ?_
  refine V.sipush (v := 500) dX5_addFeeder_15 (by decide) ?_
  refine V.callSX0 [.int q2, .int 0, .int 500] [] (kX5_checkRange g hst q2 0 500) gX5_addFeeder_X5_checkRange rfl (by show _ ∧ _ ∧ _ = some (3 : Nat); decide +kernel) ⟨(Nat.le_of_ble_eq_true rfl), (Nat.le_of_ble_eq_true rfl)⟩ rfl (Nat.le_of_ble_eq_true rfl) ⟨(Nat.le_of_ble_eq_true rfl), (Nat.le_of_ble_eq_true rfl)⟩ ⟨(Nat.le_of_ble_eq_true rfl), (Nat.le_of_ble_eq_true rfl)⟩ dX5_addFeeder_18 (fun E w hx => ?_) (fun r w hq2 => ?_)
  · obtain ⟨rfl, rfl, hx⟩ := hx; exact ⟨rfl, rfl, Or.inr (Or.inr (Or.inl ⟨c0, c1, hx, rfl⟩))⟩
  obtain ⟨rfl, rfl, c2⟩ := hq2
  refine ⟨rfl, ?_⟩
  refine V.eqst (st2 := []) rfl ?_
  refine V.iload 4 rfl dX5_addFeeder_21 ?_
  refine V.iconst (v := 0) dX5_addFeeder_23 (by decide) ?_
  refine V.bipush (v := 100) dX5_addFeeder_24 (by decide) ?_
  refine V.callSX0 [.int q3, .int 0, .int 100] [] (kX5_checkRange g hst q3 0 100) gX5_addFeeder_X5_checkRange rfl (by show _ ∧ _ ∧ _ = some (3 : Nat); decide +kernel) ⟨(Nat.le_of_ble_eq_true rfl), (Nat.le_of_ble_eq_true rfl)⟩ rfl (Nat.le_of_ble_eq_true rfl) ⟨(Nat.le_of_ble_eq_true rfl), (Nat.le_of_ble_eq_true rfl)⟩ ⟨(Nat.le_of_ble_eq_true rfl), (Nat.le_of_ble_eq_true rfl)⟩ dX5_addFeeder_26 (fun E w hx => ?_) (fun r w hq2 => ?_)
  · obtain ⟨rfl, rfl, hx⟩ := hx; exact ⟨rfl, rfl, Or.inr (Or.inr (Or.inr (Or.inl ⟨c0, c1, c2, hx, rfl⟩)))⟩
  obtain ⟨rfl, rfl, c3⟩ := hq2
  refine ⟨rfl, ?_⟩
  refine V.eqst (st2 := []) rfl ?_
  refine V.iload 5 rfl dX5_addFeeder_29 ?_
  refine V.iconst (v := 0) dX5_addFeeder_31 (by decide) ?_
  refine V.bipush (v := 100) dX5_addFeeder_32 (by decide) ?_
  refine V.callSX0 [.int q4, .int 0, .int 100] [] (kX5_checkRange g hst q4 0 100) gX5_addFeeder_X5_checkRange rfl (by show _ ∧ _ ∧ _ = some (3 : Nat); decide +kernel) ⟨(Nat.le_of_ble_eq_true rfl), (Nat.le_of_ble_eq_true rfl)⟩ rfl (Nat.le_of_ble_eq_true rfl) ⟨(Nat.le_of_ble_eq_true rfl), (Nat.le_of_ble_eq_true rfl)⟩ ⟨(Nat.le_of_ble_eq_true rfl), (Nat.le_of_ble_eq_true rfl)⟩ dX5_addFeeder_34 (fun E w hx => ?_) (fun r w hq2 => ?_)
  · obtain ⟨rfl, rfl, hx⟩ := hx; exact ⟨rfl, rfl, Or.inr (Or.inr (Or.inr (Or.inr (Or.inl ⟨c0, c1, c2, c3, hx, rfl⟩))))⟩
  obtain ⟨rfl, rfl, c4⟩ := hq2
  refine ⟨rfl, ?_⟩
  refine V.eqst (st2 := []) rfl ?_
  refine V.aload_n 0 rfl dX5_addFeeder_37 rfl ?_
  refine V.get (v := .ref (b 0)) (fun w H => List.mem_cons_of_mem _ (List.mem_append_left _ (List.mem_append_left _ (List.mem_append_left _ (List.mem_append_left _ (List.mem_append_left _ (List.mem_append_right _ H))))))) (hc := (rfl : vwCl[5]? = some (RX5, TX5, 5))) 0 0 (by decide) (List.mem_of_getElem? (i := 3) rfl) rfl rfl dX5_addFeeder_38 ?_
  refine V.get (v := .int (z 5)) (fun w H => List.mem_cons_of_mem _ (List.mem_append_left _ (List.mem_append_left _ (List.mem_append_left _ (List.mem_append_left _ (List.mem_append_right _ H)))))) (hc := (rfl : vwCl[2]? = some (RX2, TX2, 12))) 1 0 (by decide) (List.mem_of_getElem? (i := 4) rfl) rfl rfl dX5_addFeeder_41 ?_
  refine V.bipush (v := 8) dX5_addFeeder_44 (by decide) ?_
  refine V.icmp_lt (tgt := 59) dX5_addFeeder_46 (by decide) (fun c46 => ?_) (fun c46 => ?_)
  · skip
    have h8 : nf z < 8 := nI_lt' (by omega) (by rw [← hF]; exact c46)
    refine V.aload_n 0 rfl dX5_addFeeder_59 rfl ?_
    refine V.get (v := .ref (h 0)) (fun w H => List.mem_cons_of_mem _ (List.mem_append_left _ (List.mem_append_left _ (List.mem_append_left _ (List.mem_append_left _ (List.mem_append_left _ (List.mem_append_right _ H))))))) (hc := (rfl : vwCl[5]? = some (RX5, TX5, 5))) 0 3 (by decide) (List.mem_of_getElem? (i := 5) rfl) rfl rfl dX5_addFeeder_60 ?_
    refine V.aload_n 0 rfl dX5_addFeeder_63 rfl ?_
    refine V.get (v := .ref (b 0)) (fun w H => List.mem_cons_of_mem _ (List.mem_append_left _ (List.mem_append_left _ (List.mem_append_left _ (List.mem_append_left _ (List.mem_append_left _ (List.mem_append_right _ H))))))) (hc := (rfl : vwCl[5]? = some (RX5, TX5, 5))) 0 0 (by decide) (List.mem_of_getElem? (i := 3) rfl) rfl rfl dX5_addFeeder_64 ?_
    refine V.callVP (F := (((HD g o b c u h x) ++ (SW g c y)) ++ (UW g u ai pa tu)) ++ (BWs g x tx (nI len) s)) [.ref (b 0)] [] (kX1_saveP g h n sv b z hn6 hnl hl6) gX5_addFeeder_X1_save rfl (by show _ ∧ _ ∧ _ ∧ _ = some (1 : Nat); decide +kernel) ⟨(Nat.le_of_ble_eq_true rfl), (Nat.le_of_ble_eq_true rfl)⟩ (hc := (rfl : vwCl[1]? = some (RX1, TX1, 2))) 0 rfl pv6_5_1 rfl (Nat.le_of_ble_eq_true rfl) ⟨(Nat.le_of_ble_eq_true rfl), (Nat.le_of_ble_eq_true rfl)⟩ dX5_addFeeder_67 (fun r w hq2 => by obtain ⟨-, sv2, -, hF2, -⟩ := hq2; exact hF2) (fun r w hq2 => ?_)
    obtain ⟨rfl, sv2, hsv, hF2, hp2⟩ := hq2
    refine V.perm ((List.Perm.append_right _ hp2.symm).trans pv6_5_1.symm) ?_
    refine V.eqst (st2 := []) rfl ?_
    refine V.aload_n 0 rfl dX5_addFeeder_70 rfl ?_
    refine V.get (v := .ref (b 0)) (fun w H => List.mem_cons_of_mem _ (List.mem_append_left _ (List.mem_append_left _ (List.mem_append_left _ (List.mem_append_left _ (List.mem_append_left _ (List.mem_append_right _ H))))))) (hc := (rfl : vwCl[5]? = some (RX5, TX5, 5))) 0 0 (by decide) (List.mem_of_getElem? (i := 3) rfl) rfl rfl dX5_addFeeder_71 ?_
    refine V.iload_n 1 rfl dX5_addFeeder_74 rfl ?_
    refine V.iload_n 2 rfl dX5_addFeeder_75 rfl ?_
    refine V.iload_n 3 rfl dX5_addFeeder_76 rfl ?_
    refine V.iload 4 rfl dX5_addFeeder_77 ?_
    refine V.iload 5 rfl dX5_addFeeder_79 ?_
    refine V.callVPf (ws2 := (HD g o b c u h x) ++ (SW g b (nfI z q0 q1 q2 q3 q4)) ++ (SW g c y) ++ (UW g u ai pa tu) ++ (BWs g x tx (nI len) s) ++ (HW g h (svM n + 1) sv2)) (st2 := [.int (nI (nf z))]) [.int q0, .int q1, .int q2, .int q3, .int q4] [] (kX2_newFeeder g b z q0 q1 q2 q3 q4 hF h8) gX5_addFeeder_X2_newFeeder rfl (by show _ ∧ _ ∧ _ ∧ _ = some (5 : Nat); decide +kernel) ⟨Nat.le_of_ble_eq_true rfl, Nat.le_of_ble_eq_true rfl⟩ (hc := (rfl : vwCl[2]? = some (RX2, TX2, 12))) 0 rfl pv6_1 rfl (Nat.le_of_ble_eq_true rfl) ⟨Nat.le_of_ble_eq_true rfl, Nat.le_of_ble_eq_true rfl⟩ dX5_addFeeder_81 SWm pv6_1.symm rfl rfl rfl ?_
    obtain ⟨nw, hnw⟩ := hsv.fst
    obtain ⟨w2, hw1, hw2⟩ := FST.ex (W0 := GW g o b c u h x z y ai pa tu tx len s n sv) (w := GW g o b c u h x (nfI z q0 q1 q2 q3 q4) y ai pa tu tx len s (svM n + 1) sv2) (GW_fp hnw)
    refine V.perm (ws2 := w2) hw1 ?_
    exact V.iret hq XMx.r (Nat.le_of_ble_eq_true rfl) (Nat.le_of_ble_eq_true rfl) ⟨⟨c0, c1, c2, c3, c4, h8⟩, rfl, sv2, hsv, hw2, hw1⟩ dX5_addFeeder_84
  · skip
    have h8 : ¬ nf z < 8 := fun q => c46 (by rw [hF]; exact nI_lt q (by decide))
    exact V.throwS (text := "too many feeders") hst (by decide +kernel) (List.mem_of_getElem? (i := 1) rfl) (List.mem_of_getElem? (i := 2) rfl) (by decide) vx_gd1 (fun w H => List.mem_cons_of_mem _ (List.mem_append_left _ (List.mem_append_right _ H))) dX5_addFeeder_49 dX5_addFeeder_52 dX5_addFeeder_53 dX5_addFeeder_55 dX5_addFeeder_58 (Nat.le_of_ble_eq_true rfl) (Nat.le_of_ble_eq_true rfl) (Nat.le_of_ble_eq_true rfl) (Nat.le_of_ble_eq_true rfl) ⟨rfl, Or.inr (Or.inr (Or.inr (Or.inr (Or.inr (⟨c0, c1, c2, c3, c4, h8, rfl⟩)))))⟩ (Nat.le_of_ble_eq_true rfl) (Nat.le_of_ble_eq_true rfl)
abbrev rmX5_addPlace : Room := { frames := 7, cells := 12, slots := 273, locals := 124 }
set_option maxHeartbeats 4000000 in
set_option maxRecDepth 100000 in
theorem kX5_addPlace (g : GT) (hst : g.1.stackTraces = false) (o : Nat) (b c u h x : Nat → Nat) (z y ai pa tu tx : Nat → Int32) (len : Nat) (s : BS) (n : Nat) (sv : SV) (q0 q1 : Int32) (hP : z 6 = nI (np z)) (hP24 : np z ≤ 24) (hn6 : n ≤ 6) (hnl : n ≤ sv.length) (hl6 : sv.length ≤ 6) : UX g yX5_addPlace wsX5_addPlace rmX5_addPlace [.ref o, .int q0, .int q1] (GW g o b c u h x z y ai pa tu tx len s n sv) (fun v w => (wi q0 0 99 = true ∧ wi q1 0 5 = true ∧ np z < 24) ∧ v = some (.int (nI (np z))) ∧ ∃ sv2 : SV, svQ (svM n) (svR n sv) sv2 z ∧ GQ (GW g o b c u h x z y ai pa tu tx len s n sv) w (GW g o b c u h x (apA z q0 q1) y ai pa tu tx len s (svM n + 1) sv2)) (fun E w => w = GW g o b c u h x z y ai pa tu tx len s n sv ∧ ((wi q0 0 99 = false ∧ E = IAE) ∨ (wi q0 0 99 = true ∧ wi q1 0 5 = false ∧ E = IAE) ∨ (wi q0 0 99 = true ∧ wi q1 0 5 = true ∧ ¬ np z < 24 ∧ E = ISE))) := by
  refine UX.ofV (cc := cX5_addPlace) (maxL := 3) (ret := some .int) (lv0 := [(0, .ref o), (1, .int q0), (2, .int q1)]) (by decide) rfl (Nat.le_of_ble_eq_true rfl) rfl ?_
  have hq : QFok g rmX5_addPlace (fun v w => (wi q0 0 99 = true ∧ wi q1 0 5 = true ∧ np z < 24) ∧ v = some (.int (nI (np z))) ∧ ∃ sv2 : SV, svQ (svM n) (svR n sv) sv2 z ∧ GQ (GW g o b c u h x z y ai pa tu tx len s n sv) w (GW g o b c u h x (apA z q0 q1) y ai pa tu tx len s (svM n + 1) sv2)) (QFx g rmX5_addPlace (fun v w => (wi q0 0 99 = true ∧ wi q1 0 5 = true ∧ np z < 24) ∧ v = some (.int (nI (np z))) ∧ ∃ sv2 : SV, svQ (svM n) (svR n sv) sv2 z ∧ GQ (GW g o b c u h x z y ai pa tu tx len s n sv) w (GW g o b c u h x (apA z q0 q1) y ai pa tu tx len s (svM n + 1) sv2)) (fun E w => w = GW g o b c u h x z y ai pa tu tx len s n sv ∧ ((wi q0 0 99 = false ∧ E = IAE) ∨ (wi q0 0 99 = true ∧ wi q1 0 5 = false ∧ E = IAE) ∨ (wi q0 0 99 = true ∧ wi q1 0 5 = true ∧ ¬ np z < 24 ∧ E = ISE)))) := QFx.q
  refine V.eqws (ws2 := (HD g o b c u h x) ++ (SW g b z) ++ (SW g c y) ++ (UW g u ai pa tu) ++ (BWs g x tx (nI len) s) ++ (HW g h n sv)) rfl ?_
  refine V.iload_n 1 rfl dX5_addPlace_0 rfl ?_
  refine V.iconst (v := 0) dX5_addPlace_1 (by decide) ?_
  refine V.bipush (v := 99) dX5_addPlace_2 (by decide) ?_
  refine V.callSX0 [.int q0, .int 0, .int 99] [] (kX5_checkRange g hst q0 0 99) gX5_addPlace_X5_checkRange rfl (by show _ ∧ _ ∧ _ = some (3 : Nat); decide +kernel) ⟨(Nat.le_of_ble_eq_true rfl), (Nat.le_of_ble_eq_true rfl)⟩ rfl (Nat.le_of_ble_eq_true rfl) ⟨(Nat.le_of_ble_eq_true rfl), (Nat.le_of_ble_eq_true rfl)⟩ ⟨(Nat.le_of_ble_eq_true rfl), (Nat.le_of_ble_eq_true rfl)⟩ dX5_addPlace_4 (fun E w hx => ?_) (fun r w hq2 => ?_)
  · obtain ⟨rfl, rfl, hx⟩ := hx; exact ⟨rfl, rfl, Or.inl ⟨hx, rfl⟩⟩
  obtain ⟨rfl, rfl, c0⟩ := hq2
  refine ⟨rfl, ?_⟩
  refine V.eqst (st2 := []) rfl ?_
  refine V.iload_n 2 rfl dX5_addPlace_7 rfl ?_
  refine V.iconst (v := 0) dX5_addPlace_8 (by decide) ?_
  refine V.iconst (v := 5) dX5_addPlace_9 (by decide) ?_
  refine V.callSX0 [.int q1, .int 0, .int 5] [] (kX5_checkRange g hst q1 0 5) gX5_addPlace_X5_checkRange rfl (by show _ ∧ _ ∧ _ = some (3 : Nat); decide +kernel) ⟨(Nat.le_of_ble_eq_true rfl), (Nat.le_of_ble_eq_true rfl)⟩ rfl (Nat.le_of_ble_eq_true rfl) ⟨(Nat.le_of_ble_eq_true rfl), (Nat.le_of_ble_eq_true rfl)⟩ ⟨(Nat.le_of_ble_eq_true rfl), (Nat.le_of_ble_eq_true rfl)⟩ dX5_addPlace_10 (fun E w hx => ?_) (fun r w hq2 => ?_)
  · obtain ⟨rfl, rfl, hx⟩ := hx; exact ⟨rfl, rfl, Or.inr (Or.inl ⟨c0, hx, rfl⟩)⟩
  obtain ⟨rfl, rfl, c1⟩ := hq2
  refine ⟨rfl, ?_⟩
  refine V.eqst (st2 := []) rfl ?_
  refine V.aload_n 0 rfl dX5_addPlace_13 rfl ?_
  refine V.get (v := .ref (b 0)) (fun w H => List.mem_cons_of_mem _ (List.mem_append_left _ (List.mem_append_left _ (List.mem_append_left _ (List.mem_append_left _ (List.mem_append_left _ (List.mem_append_right _ H))))))) (hc := (rfl : vwCl[5]? = some (RX5, TX5, 5))) 0 0 (by decide) (List.mem_of_getElem? (i := 3) rfl) rfl rfl dX5_addPlace_14 ?_
  refine V.get (v := .int (z 6)) (fun w H => List.mem_cons_of_mem _ (List.mem_append_left _ (List.mem_append_left _ (List.mem_append_left _ (List.mem_append_left _ (List.mem_append_right _ H)))))) (hc := (rfl : vwCl[2]? = some (RX2, TX2, 12))) 1 1 (by decide) (List.mem_of_getElem? (i := 4) rfl) rfl rfl dX5_addPlace_17 ?_
  refine V.bipush (v := 24) dX5_addPlace_20 (by decide) ?_
  refine V.icmp_lt (tgt := 35) dX5_addPlace_22 (by decide) (fun c46 => ?_) (fun c46 => ?_)
  · skip
    have h8 : np z < 24 := nI_lt' (by omega) (by rw [← hP]; exact c46)
    refine V.aload_n 0 rfl dX5_addPlace_35 rfl ?_
    refine V.get (v := .ref (h 0)) (fun w H => List.mem_cons_of_mem _ (List.mem_append_left _ (List.mem_append_left _ (List.mem_append_left _ (List.mem_append_left _ (List.mem_append_left _ (List.mem_append_right _ H))))))) (hc := (rfl : vwCl[5]? = some (RX5, TX5, 5))) 0 3 (by decide) (List.mem_of_getElem? (i := 5) rfl) rfl rfl dX5_addPlace_36 ?_
    refine V.aload_n 0 rfl dX5_addPlace_39 rfl ?_
    refine V.get (v := .ref (b 0)) (fun w H => List.mem_cons_of_mem _ (List.mem_append_left _ (List.mem_append_left _ (List.mem_append_left _ (List.mem_append_left _ (List.mem_append_left _ (List.mem_append_right _ H))))))) (hc := (rfl : vwCl[5]? = some (RX5, TX5, 5))) 0 0 (by decide) (List.mem_of_getElem? (i := 3) rfl) rfl rfl dX5_addPlace_40 ?_
    refine V.callVP (F := (((HD g o b c u h x) ++ (SW g c y)) ++ (UW g u ai pa tu)) ++ (BWs g x tx (nI len) s)) [.ref (b 0)] [] (kX1_saveP g h n sv b z hn6 hnl hl6) gX5_addPlace_X1_save rfl (by show _ ∧ _ ∧ _ ∧ _ = some (1 : Nat); decide +kernel) ⟨(Nat.le_of_ble_eq_true rfl), (Nat.le_of_ble_eq_true rfl)⟩ (hc := (rfl : vwCl[1]? = some (RX1, TX1, 2))) 0 rfl pv6_5_1 rfl (Nat.le_of_ble_eq_true rfl) ⟨(Nat.le_of_ble_eq_true rfl), (Nat.le_of_ble_eq_true rfl)⟩ dX5_addPlace_43 (fun r w hq2 => by obtain ⟨-, sv2, -, hF2, -⟩ := hq2; exact hF2) (fun r w hq2 => ?_)
    obtain ⟨rfl, sv2, hsv, hF2, hp2⟩ := hq2
    refine V.perm ((List.Perm.append_right _ hp2.symm).trans pv6_5_1.symm) ?_
    refine V.eqst (st2 := []) rfl ?_
    refine V.aload_n 0 rfl dX5_addPlace_46 rfl ?_
    refine V.get (v := .ref (b 0)) (fun w H => List.mem_cons_of_mem _ (List.mem_append_left _ (List.mem_append_left _ (List.mem_append_left _ (List.mem_append_left _ (List.mem_append_left _ (List.mem_append_right _ H))))))) (hc := (rfl : vwCl[5]? = some (RX5, TX5, 5))) 0 0 (by decide) (List.mem_of_getElem? (i := 3) rfl) rfl rfl dX5_addPlace_47 ?_
    refine V.iload_n 1 rfl dX5_addPlace_50 rfl ?_
    refine V.iload_n 2 rfl dX5_addPlace_51 rfl ?_
    refine V.callVPf (ws2 := (HD g o b c u h x) ++ (SW g b (apA z q0 q1)) ++ (SW g c y) ++ (UW g u ai pa tu) ++ (BWs g x tx (nI len) s) ++ (HW g h (svM n + 1) sv2)) (st2 := [.int (nI (np z))]) [.int q0, .int q1] [] (kX2_newPlace g b z q0 q1 hP h8 apI_eq) gX5_addPlace_X2_newPlace rfl (by show _ ∧ _ ∧ _ ∧ _ = some (2 : Nat); decide +kernel) ⟨Nat.le_of_ble_eq_true rfl, Nat.le_of_ble_eq_true rfl⟩ (hc := (rfl : vwCl[2]? = some (RX2, TX2, 12))) 0 rfl pv6_1 rfl (Nat.le_of_ble_eq_true rfl) ⟨Nat.le_of_ble_eq_true rfl, Nat.le_of_ble_eq_true rfl⟩ dX5_addPlace_52 SWm pv6_1.symm rfl rfl rfl ?_
    obtain ⟨nw, hnw⟩ := hsv.fst
    obtain ⟨w2, hw1, hw2⟩ := FST.ex (W0 := GW g o b c u h x z y ai pa tu tx len s n sv) (w := GW g o b c u h x (apA z q0 q1) y ai pa tu tx len s (svM n + 1) sv2) (GW_fp hnw)
    refine V.perm (ws2 := w2) hw1 ?_
    exact V.iret hq XMx.r (Nat.le_of_ble_eq_true rfl) (Nat.le_of_ble_eq_true rfl) ⟨⟨c0, c1, h8⟩, rfl, sv2, hsv, hw2, hw1⟩ dX5_addPlace_55
  · skip
    have h8 : ¬ np z < 24 := fun q => c46 (by rw [hP]; exact nI_lt q (by decide))
    exact V.throwS (text := "too many places") hst (by decide +kernel) (List.mem_of_getElem? (i := 1) rfl) (List.mem_of_getElem? (i := 2) rfl) (by decide) vx_gd1 (fun w H => List.mem_cons_of_mem _ (List.mem_append_left _ (List.mem_append_right _ H))) dX5_addPlace_25 dX5_addPlace_28 dX5_addPlace_29 dX5_addPlace_31 dX5_addPlace_34 (Nat.le_of_ble_eq_true rfl) (Nat.le_of_ble_eq_true rfl) (Nat.le_of_ble_eq_true rfl) (Nat.le_of_ble_eq_true rfl) ⟨rfl, Or.inr (Or.inr (⟨c0, c1, h8, rfl⟩))⟩ (Nat.le_of_ble_eq_true rfl) (Nat.le_of_ble_eq_true rfl)
abbrev rmX5_fill : Room := { frames := 7, cells := 12, slots := 273, locals := 124 }
set_option maxHeartbeats 4000000 in
set_option maxRecDepth 100000 in
theorem kX5_fill (g : GT) (hst : g.1.stackTraces = false) (o : Nat) (b c u h x : Nat → Nat) (z y ai pa tu tx : Nat → Int32) (len : Nat) (s : BS) (n : Nat) (sv : SV) (q0 q1 : Int32) (hF : z 5 = nI (nf z)) (hF8 : nf z ≤ 8) (hn6 : n ≤ 6) (hnl : n ≤ sv.length) (hl6 : sv.length ≤ 6) : UX g yX5_fill wsX5_fill rmX5_fill [.ref o, .int q0, .int q1] (GW g o b c u h x z y ai pa tu tx len s n sv) (fun v w => ∃ f, f < nf z ∧ q0 = nI f ∧ wi q1 1 500 = true ∧ z (12 + 8 * f + 2) + q1 ≤ 500 ∧ v = some (.int (z (12 + 8 * f + 2) + q1)) ∧ ∃ sv2 : SV, svQ (svM n) (svR n sv) sv2 z ∧ GQ (GW g o b c u h x z y ai pa tu tx len s n sv) w (GW g o b c u h x (upd z (12 + 8 * f + 2) (z (12 + 8 * f + 2) + q1)) y ai pa tu tx len s (svM n + 1) sv2)) (fun E w => w = GW g o b c u h x z y ai pa tu tx len s n sv ∧ ((wi q0 0 (z 5 - 1) = false ∧ E = IOB) ∨ ((∃ f, f < nf z ∧ q0 = nI f) ∧ wi q1 1 500 = false ∧ E = IAE) ∨ ((∃ f, f < nf z ∧ q0 = nI f ∧ ¬ z (12 + 8 * f + 2) + q1 ≤ 500) ∧ wi q1 1 500 = true ∧ E = ISE))) := by
  refine UX.ofV (cc := cX5_fill) (maxL := 4) (ret := some .int) (lv0 := [(0, .ref o), (1, .int q0), (2, .int q1)]) (by decide) rfl (Nat.le_of_ble_eq_true rfl) rfl ?_
  have hq : QFok g rmX5_fill (fun v w => ∃ f, f < nf z ∧ q0 = nI f ∧ wi q1 1 500 = true ∧ z (12 + 8 * f + 2) + q1 ≤ 500 ∧ v = some (.int (z (12 + 8 * f + 2) + q1)) ∧ ∃ sv2 : SV, svQ (svM n) (svR n sv) sv2 z ∧ GQ (GW g o b c u h x z y ai pa tu tx len s n sv) w (GW g o b c u h x (upd z (12 + 8 * f + 2) (z (12 + 8 * f + 2) + q1)) y ai pa tu tx len s (svM n + 1) sv2)) (QFx g rmX5_fill (fun v w => ∃ f, f < nf z ∧ q0 = nI f ∧ wi q1 1 500 = true ∧ z (12 + 8 * f + 2) + q1 ≤ 500 ∧ v = some (.int (z (12 + 8 * f + 2) + q1)) ∧ ∃ sv2 : SV, svQ (svM n) (svR n sv) sv2 z ∧ GQ (GW g o b c u h x z y ai pa tu tx len s n sv) w (GW g o b c u h x (upd z (12 + 8 * f + 2) (z (12 + 8 * f + 2) + q1)) y ai pa tu tx len s (svM n + 1) sv2)) (fun E w => w = GW g o b c u h x z y ai pa tu tx len s n sv ∧ ((wi q0 0 (z 5 - 1) = false ∧ E = IOB) ∨ ((∃ f, f < nf z ∧ q0 = nI f) ∧ wi q1 1 500 = false ∧ E = IAE) ∨ ((∃ f, f < nf z ∧ q0 = nI f ∧ ¬ z (12 + 8 * f + 2) + q1 ≤ 500) ∧ wi q1 1 500 = true ∧ E = ISE)))) := QFx.q
  refine V.eqws (ws2 := (HD g o b c u h x) ++ (SW g b z) ++ (SW g c y) ++ (UW g u ai pa tu) ++ (BWs g x tx (nI len) s) ++ (HW g h n sv)) rfl ?_
  refine V.aload_n 0 rfl dX5_fill_0 rfl ?_
  refine V.iload_n 1 rfl dX5_fill_1 rfl ?_
  refine V.callVXP (F := []) [.int q0] [] (kX5_checkFeeder g hst o b c u h x z y ai pa tu tx len s n sv hF hF8 q0) gX5_fill_X5_checkFeeder rfl (by show _ ∧ _ ∧ _ ∧ _ = some (1 : Nat); decide +kernel) ⟨(Nat.le_of_ble_eq_true rfl), (Nat.le_of_ble_eq_true rfl)⟩ (hc := (rfl : vwCl[5]? = some (RX5, TX5, 5))) 0 rfl (by rw [List.append_nil]; exact List.Perm.refl _) rfl (Nat.le_of_ble_eq_true rfl) ⟨(Nat.le_of_ble_eq_true rfl), (Nat.le_of_ble_eq_true rfl)⟩ ⟨(Nat.le_of_ble_eq_true rfl), (Nat.le_of_ble_eq_true rfl)⟩ dX5_fill_2 (fun r w hq2 => by rw [hq2.1]; exact FST.rf) (fun E w hx => by rw [hx.1]; exact FST.rf) (fun E w hx => by rw [hx.1]) (fun E w hx => ?_) (fun r w hq2 => ?_)
  · obtain ⟨rfl, rfl, hx⟩ := hx; exact ⟨List.append_nil _, Or.inl ⟨hx, rfl⟩⟩
  obtain ⟨rfl, rfl, c0⟩ := hq2
  refine V.eqws (ws2 := (HD g o b c u h x) ++ (SW g b z) ++ (SW g c y) ++ (UW g u ai pa tu) ++ (BWs g x tx (nI len) s) ++ (HW g h n sv)) (List.append_nil _) ?_
  refine V.eqst (st2 := []) rfl ?_
  obtain ⟨f, hf, rfl⟩ := wi_f (m := nf z) (by omega) (by rw [← hF]; exact c0)
  refine V.iload_n 2 rfl dX5_fill_5 rfl ?_
  refine V.iconst (v := 1) dX5_fill_6 (by decide) ?_
  refine V.sipush (v := 500) dX5_fill_7 (by decide) ?_
  refine V.callSX0 [.int q1, .int 1, .int 500] [] (kX5_checkRange g hst q1 1 500) gX5_fill_X5_checkRange rfl (by show _ ∧ _ ∧ _ = some (3 : Nat); decide +kernel) ⟨(Nat.le_of_ble_eq_true rfl), (Nat.le_of_ble_eq_true rfl)⟩ rfl (Nat.le_of_ble_eq_true rfl) ⟨(Nat.le_of_ble_eq_true rfl), (Nat.le_of_ble_eq_true rfl)⟩ ⟨(Nat.le_of_ble_eq_true rfl), (Nat.le_of_ble_eq_true rfl)⟩ dX5_fill_10 (fun E w hx => ?_) (fun r w hq2 => ?_)
  · obtain ⟨rfl, rfl, hx⟩ := hx; exact ⟨rfl, rfl, Or.inr (Or.inl ⟨⟨f, hf, rfl⟩, hx, rfl⟩)⟩
  obtain ⟨rfl, rfl, c1⟩ := hq2
  refine ⟨rfl, ?_⟩
  refine V.eqst (st2 := []) rfl ?_
  refine V.aload_n 0 rfl dX5_fill_13 rfl ?_
  refine V.get (v := .ref (b 0)) (fun w H => List.mem_cons_of_mem _ (List.mem_append_left _ (List.mem_append_left _ (List.mem_append_left _ (List.mem_append_left _ (List.mem_append_left _ (List.mem_append_left _ (List.mem_append_right _ H)))))))) (hc := (rfl : vwCl[5]? = some (RX5, TX5, 5))) 0 0 (by decide) (List.mem_of_getElem? (i := 3) rfl) rfl rfl dX5_fill_14 ?_
  refine V.get (v := .ref (b 2)) (fun w H => List.mem_cons_of_mem _ (List.mem_append_left _ (List.mem_append_left _ (List.mem_append_left _ (List.mem_append_left _ (List.mem_append_left _ (List.mem_append_right _ H))))))) (hc := (rfl : vwCl[2]? = some (RX2, TX2, 12))) 1 8 (by decide) (List.mem_of_getElem? (i := 4) rfl) rfl rfl dX5_fill_17 ?_
  refine V.iload_n 1 rfl dX5_fill_20 rfl ?_
  refine V.iconst (v := 2) dX5_fill_21 (by decide) ?_
  refine V.callVf (ws2 := (HD g o b c u h x) ++ (SW g b z) ++ (SW g c y) ++ (UW g u ai pa tu) ++ (BWs g x tx (nI len) s) ++ (HW g h n sv)) (st2 := [.int ((sg z 12 64) (f * 8 + 2))]) [.int (nI f), .int 2] [] (kX3_at g (b 2) (b 3) 8 64 (sg z 12 64) f 2 (by first | omega | decide) (by first | omega | decide) (by first | omega | decide) (by first | omega | decide)) gX5_fill_X3_at rfl (by show _ ∧ _ ∧ _ ∧ _ = some (2 : Nat); decide +kernel) ⟨Nat.le_of_ble_eq_true rfl, Nat.le_of_ble_eq_true rfl⟩ (hc := (rfl : vwCl[3]? = some (RX3, TX3, 2))) 3 rfl [3, 4] (by decide) rfl rfl (Nat.le_of_ble_eq_true rfl) ⟨Nat.le_of_ble_eq_true rfl, Nat.le_of_ble_eq_true rfl⟩ dX5_fill_22 TWf (insW_of rfl rfl rfl) rfl rfl rfl ?_
  rw [sg_r (z := z) (o := 12) (n := 64) (r := f) (C := 8) (k := 2) (by omega)]
  refine V.iload_n 2 rfl dX5_fill_25 rfl ?_
  refine V.iadd dX5_fill_26 ?_
  refine V.istore_n (lv2 := [(3, .int ((z (12 + 8 * f + 2)) + q1)), (0, .ref o), (1, .int (nI f)), (2, .int q1)]) dX5_fill_27 rfl (by decide) rfl ?_
  refine V.iload_n 0 rfl dX5_fill_28 rfl ?_
  refine V.sipush (v := 500) dX5_fill_29 (by decide) ?_
  refine V.icmp_le (tgt := 45) dX5_fill_32 (by decide) (fun c32 => ?_) (fun c32 => ?_)
  · skip
    refine V.aload_n 1 rfl dX5_fill_45 rfl ?_
    refine V.get (v := .ref (h 0)) (fun w H => List.mem_cons_of_mem _ (List.mem_append_left _ (List.mem_append_left _ (List.mem_append_left _ (List.mem_append_left _ (List.mem_append_left _ (List.mem_append_left _ (List.mem_append_right _ H)))))))) (hc := (rfl : vwCl[5]? = some (RX5, TX5, 5))) 0 3 (by decide) (List.mem_of_getElem? (i := 5) rfl) rfl rfl dX5_fill_46 ?_
    refine V.aload_n 1 rfl dX5_fill_49 rfl ?_
    refine V.get (v := .ref (b 0)) (fun w H => List.mem_cons_of_mem _ (List.mem_append_left _ (List.mem_append_left _ (List.mem_append_left _ (List.mem_append_left _ (List.mem_append_left _ (List.mem_append_left _ (List.mem_append_right _ H)))))))) (hc := (rfl : vwCl[5]? = some (RX5, TX5, 5))) 0 0 (by decide) (List.mem_of_getElem? (i := 3) rfl) rfl rfl dX5_fill_50 ?_
    refine V.callVP (F := (((HD g o b c u h x) ++ (SW g c y)) ++ (UW g u ai pa tu)) ++ (BWs g x tx (nI len) s)) [.ref (b 0)] [] (kX1_saveP g h n sv b z hn6 hnl hl6) gX5_fill_X1_save rfl (by show _ ∧ _ ∧ _ ∧ _ = some (1 : Nat); decide +kernel) ⟨(Nat.le_of_ble_eq_true rfl), (Nat.le_of_ble_eq_true rfl)⟩ (hc := (rfl : vwCl[1]? = some (RX1, TX1, 2))) 0 rfl pv6_5_1 rfl (Nat.le_of_ble_eq_true rfl) ⟨(Nat.le_of_ble_eq_true rfl), (Nat.le_of_ble_eq_true rfl)⟩ dX5_fill_53 (fun r w hq2 => by obtain ⟨-, sv2, -, hF2, -⟩ := hq2; exact hF2) (fun r w hq2 => ?_)
    obtain ⟨rfl, sv2, hsv, hF2, hp2⟩ := hq2
    refine V.perm ((List.Perm.append_right _ hp2.symm).trans pv6_5_1.symm) ?_
    refine V.eqst (st2 := []) rfl ?_
    refine V.aload_n 1 rfl dX5_fill_56 rfl ?_
    refine V.get (v := .ref (b 0)) (fun w H => List.mem_cons_of_mem _ (List.mem_append_left _ (List.mem_append_left _ (List.mem_append_left _ (List.mem_append_left _ (List.mem_append_left _ (List.mem_append_left _ (List.mem_append_right _ H)))))))) (hc := (rfl : vwCl[5]? = some (RX5, TX5, 5))) 0 0 (by decide) (List.mem_of_getElem? (i := 3) rfl) rfl rfl dX5_fill_57 ?_
    refine V.get (v := .ref (b 2)) (fun w H => List.mem_cons_of_mem _ (List.mem_append_left _ (List.mem_append_left _ (List.mem_append_left _ (List.mem_append_left _ (List.mem_append_left _ (List.mem_append_right _ H))))))) (hc := (rfl : vwCl[2]? = some (RX2, TX2, 12))) 1 8 (by decide) (List.mem_of_getElem? (i := 4) rfl) rfl rfl dX5_fill_60 ?_
    refine V.iload_n 2 rfl dX5_fill_63 rfl ?_
    refine V.iconst (v := 2) dX5_fill_64 (by decide) ?_
    refine V.iload_n 0 rfl dX5_fill_65 rfl ?_
    refine V.callVf (ws2 := (HD g o b c u h x) ++ (SW g b (upd z (12 + 8 * f + 2) ((z (12 + 8 * f + 2)) + q1))) ++ (SW g c y) ++ (UW g u ai pa tu) ++ (BWs g x tx (nI len) s) ++ (HW g h (svM n + 1) sv2)) (st2 := []) [.int (nI f), .int 2, .int ((z (12 + 8 * f + 2)) + q1)] [] (kX3_put g (b 2) (b 3) 8 64 (sg z 12 64) f 2 ((z (12 + 8 * f + 2)) + q1) (by first | omega | decide) (by first | omega | decide) (by first | omega | decide) (by first | omega | decide)) gX5_fill_X3_put rfl (by show _ ∧ _ ∧ _ ∧ _ = some (3 : Nat); decide +kernel) ⟨Nat.le_of_ble_eq_true rfl, Nat.le_of_ble_eq_true rfl⟩ (hc := (rfl : vwCl[3]? = some (RX3, TX3, 2))) 3 rfl [3, 4] (by decide) rfl rfl (Nat.le_of_ble_eq_true rfl) ⟨Nat.le_of_ble_eq_true rfl, Nat.le_of_ble_eq_true rfl⟩ dX5_fill_66 TWf (insW_of rfl rfl (congrArg (fun _l : va_W => (HD g o b c u h x) ++ _l ++ (SW g c y) ++ (UW g u ai pa tu) ++ (BWs g x tx (nI len) s)) (SW_f (g := g) (b := b) (z := z) (v := ((z (12 + 8 * f + 2)) + q1)) (r := f) (k := 2) (by omega)))) rfl rfl rfl ?_
    refine V.iload_n 0 rfl dX5_fill_69 rfl ?_
    obtain ⟨nw, hnw⟩ := hsv.fst
    obtain ⟨w2, hw1, hw2⟩ := FST.ex (W0 := GW g o b c u h x z y ai pa tu tx len s n sv) (w := GW g o b c u h x (upd z (12 + 8 * f + 2) (z (12 + 8 * f + 2) + q1)) y ai pa tu tx len s (svM n + 1) sv2) (GW_fp hnw)
    refine V.perm (ws2 := w2) hw1 ?_
    exact V.iret hq XMx.r (Nat.le_of_ble_eq_true rfl) (Nat.le_of_ble_eq_true rfl) ⟨f, hf, rfl, c1, c32, rfl, sv2, hsv, hw2, hw1⟩ dX5_fill_70
  · skip
    exact V.throwS (text := "too many parts") hst (by decide +kernel) (List.mem_of_getElem? (i := 1) rfl) (List.mem_of_getElem? (i := 2) rfl) (by decide) vx_gd1 (fun w H => List.mem_cons_of_mem _ (List.mem_append_left _ (List.mem_append_left _ (List.mem_append_right _ H)))) dX5_fill_35 dX5_fill_38 dX5_fill_39 dX5_fill_41 dX5_fill_44 (Nat.le_of_ble_eq_true rfl) (Nat.le_of_ble_eq_true rfl) (Nat.le_of_ble_eq_true rfl) (Nat.le_of_ble_eq_true rfl) ⟨rfl, Or.inr (Or.inr ⟨⟨f, hf, rfl, c32⟩, c1, rfl⟩)⟩ (Nat.le_of_ble_eq_true rfl) (Nat.le_of_ble_eq_true rfl)
abbrev rmX5_repair : Room := { frames := 7, cells := 13, slots := 279, locals := 124 }
set_option maxHeartbeats 4000000 in
set_option maxRecDepth 100000 in
theorem kX5_repair (g : GT) (hst : g.1.stackTraces = false) (o : Nat) (b c u h x : Nat → Nat) (z y ai pa tu tx : Nat → Int32) (len : Nat) (s : BS) (n : Nat) (sv : SV) (q0 q1 q2 : Int32) (hF : z 5 = nI (nf z)) (hF8 : nf z ≤ 8) (hn6 : n ≤ 6) (hnl : n ≤ sv.length) (hl6 : sv.length ≤ 6) : UX g yX5_repair wsX5_repair rmX5_repair [.ref o, .int q0, .int q1, .int q2] (GW g o b c u h x z y ai pa tu tx len s n sv) (fun v w => ∃ f, f < nf z ∧ q0 = nI f ∧ wi q1 0 100 = true ∧ wi q2 0 100 = true ∧ v = some (.int (z (12 + 8 * f + 3))) ∧ ∃ sv2 : SV, svQ (svM n) (svR n sv) sv2 z ∧ GQ (GW g o b c u h x z y ai pa tu tx len s n sv) w (GW g o b c u h x (upd (upd z (12 + 8 * f + 3) q1) (12 + 8 * f + 4) q2) y ai pa tu tx len s (svM n + 1) sv2)) (fun E w => w = GW g o b c u h x z y ai pa tu tx len s n sv ∧ ((wi q0 0 (z 5 - 1) = false ∧ E = IOB) ∨ ((∃ f, f < nf z ∧ q0 = nI f) ∧ wi q1 0 100 = false ∧ E = IAE) ∨ ((∃ f, f < nf z ∧ q0 = nI f) ∧ wi q1 0 100 = true ∧ wi q2 0 100 = false ∧ E = IAE))) := by
  refine UX.ofV (cc := cX5_repair) (maxL := 5) (ret := some .int) (lv0 := [(0, .ref o), (1, .int q0), (2, .int q1), (3, .int q2)]) (by decide) rfl (Nat.le_of_ble_eq_true rfl) rfl ?_
  have hq : QFok g rmX5_repair (fun v w => ∃ f, f < nf z ∧ q0 = nI f ∧ wi q1 0 100 = true ∧ wi q2 0 100 = true ∧ v = some (.int (z (12 + 8 * f + 3))) ∧ ∃ sv2 : SV, svQ (svM n) (svR n sv) sv2 z ∧ GQ (GW g o b c u h x z y ai pa tu tx len s n sv) w (GW g o b c u h x (upd (upd z (12 + 8 * f + 3) q1) (12 + 8 * f + 4) q2) y ai pa tu tx len s (svM n + 1) sv2)) (QFx g rmX5_repair (fun v w => ∃ f, f < nf z ∧ q0 = nI f ∧ wi q1 0 100 = true ∧ wi q2 0 100 = true ∧ v = some (.int (z (12 + 8 * f + 3))) ∧ ∃ sv2 : SV, svQ (svM n) (svR n sv) sv2 z ∧ GQ (GW g o b c u h x z y ai pa tu tx len s n sv) w (GW g o b c u h x (upd (upd z (12 + 8 * f + 3) q1) (12 + 8 * f + 4) q2) y ai pa tu tx len s (svM n + 1) sv2)) (fun E w => w = GW g o b c u h x z y ai pa tu tx len s n sv ∧ ((wi q0 0 (z 5 - 1) = false ∧ E = IOB) ∨ ((∃ f, f < nf z ∧ q0 = nI f) ∧ wi q1 0 100 = false ∧ E = IAE) ∨ ((∃ f, f < nf z ∧ q0 = nI f) ∧ wi q1 0 100 = true ∧ wi q2 0 100 = false ∧ E = IAE)))) := QFx.q
  refine V.eqws (ws2 := (HD g o b c u h x) ++ (SW g b z) ++ (SW g c y) ++ (UW g u ai pa tu) ++ (BWs g x tx (nI len) s) ++ (HW g h n sv)) rfl ?_
  refine V.aload_n 0 rfl dX5_repair_0 rfl ?_
  refine V.iload_n 1 rfl dX5_repair_1 rfl ?_
  refine V.callVXP (F := []) [.int q0] [] (kX5_checkFeeder g hst o b c u h x z y ai pa tu tx len s n sv hF hF8 q0) gX5_repair_X5_checkFeeder rfl (by show _ ∧ _ ∧ _ ∧ _ = some (1 : Nat); decide +kernel) ⟨(Nat.le_of_ble_eq_true rfl), (Nat.le_of_ble_eq_true rfl)⟩ (hc := (rfl : vwCl[5]? = some (RX5, TX5, 5))) 0 rfl (by rw [List.append_nil]; exact List.Perm.refl _) rfl (Nat.le_of_ble_eq_true rfl) ⟨(Nat.le_of_ble_eq_true rfl), (Nat.le_of_ble_eq_true rfl)⟩ ⟨(Nat.le_of_ble_eq_true rfl), (Nat.le_of_ble_eq_true rfl)⟩ dX5_repair_2 (fun r w hq2 => by rw [hq2.1]; exact FST.rf) (fun E w hx => by rw [hx.1]; exact FST.rf) (fun E w hx => by rw [hx.1]) (fun E w hx => ?_) (fun r w hq2 => ?_)
  · obtain ⟨rfl, rfl, hx⟩ := hx; exact ⟨List.append_nil _, Or.inl ⟨hx, rfl⟩⟩
  obtain ⟨rfl, rfl, c0⟩ := hq2
  refine V.eqws (ws2 := (HD g o b c u h x) ++ (SW g b z) ++ (SW g c y) ++ (UW g u ai pa tu) ++ (BWs g x tx (nI len) s) ++ (HW g h n sv)) (List.append_nil _) ?_
  refine V.eqst (st2 := []) rfl ?_
  obtain ⟨f, hf, rfl⟩ := wi_f (m := nf z) (by omega) (by rw [← hF]; exact c0)
  refine V.iload_n 2 rfl dX5_repair_5 rfl ?_
  refine V.iconst (v := 0) dX5_repair_6 (by decide) ?_
  refine V.bipush (v := 100) dX5_repair_7 (by decide) ?_
  refine V.callSX0 [.int q1, .int 0, .int 100] [] (kX5_checkRange g hst q1 0 100) gX5_repair_X5_checkRange rfl (by show _ ∧ _ ∧ _ = some (3 : Nat); decide +kernel) ⟨(Nat.le_of_ble_eq_true rfl), (Nat.le_of_ble_eq_true rfl)⟩ rfl (Nat.le_of_ble_eq_true rfl) ⟨(Nat.le_of_ble_eq_true rfl), (Nat.le_of_ble_eq_true rfl)⟩ ⟨(Nat.le_of_ble_eq_true rfl), (Nat.le_of_ble_eq_true rfl)⟩ dX5_repair_9 (fun E w hx => ?_) (fun r w hq2 => ?_)
  · obtain ⟨rfl, rfl, hx⟩ := hx; exact ⟨rfl, rfl, Or.inr (Or.inl ⟨⟨f, hf, rfl⟩, hx, rfl⟩)⟩
  obtain ⟨rfl, rfl, c1⟩ := hq2
  refine ⟨rfl, ?_⟩
  refine V.eqst (st2 := []) rfl ?_
  refine V.iload_n 3 rfl dX5_repair_12 rfl ?_
  refine V.iconst (v := 0) dX5_repair_13 (by decide) ?_
  refine V.bipush (v := 100) dX5_repair_14 (by decide) ?_
  refine V.callSX0 [.int q2, .int 0, .int 100] [] (kX5_checkRange g hst q2 0 100) gX5_repair_X5_checkRange rfl (by show _ ∧ _ ∧ _ = some (3 : Nat); decide +kernel) ⟨(Nat.le_of_ble_eq_true rfl), (Nat.le_of_ble_eq_true rfl)⟩ rfl (Nat.le_of_ble_eq_true rfl) ⟨(Nat.le_of_ble_eq_true rfl), (Nat.le_of_ble_eq_true rfl)⟩ ⟨(Nat.le_of_ble_eq_true rfl), (Nat.le_of_ble_eq_true rfl)⟩ dX5_repair_16 (fun E w hx => ?_) (fun r w hq2 => ?_)
  · obtain ⟨rfl, rfl, hx⟩ := hx; exact ⟨rfl, rfl, Or.inr (Or.inr (⟨⟨f, hf, rfl⟩, c1, hx, rfl⟩))⟩
  obtain ⟨rfl, rfl, c2⟩ := hq2
  refine ⟨rfl, ?_⟩
  refine V.eqst (st2 := []) rfl ?_
  refine V.aload_n 0 rfl dX5_repair_19 rfl ?_
  refine V.get (v := .ref (h 0)) (fun w H => List.mem_cons_of_mem _ (List.mem_append_left _ (List.mem_append_left _ (List.mem_append_left _ (List.mem_append_left _ (List.mem_append_left _ (List.mem_append_right _ H))))))) (hc := (rfl : vwCl[5]? = some (RX5, TX5, 5))) 0 3 (by decide) (List.mem_of_getElem? (i := 1) rfl) rfl rfl dX5_repair_20 ?_
  refine V.aload_n 0 rfl dX5_repair_23 rfl ?_
  refine V.get (v := .ref (b 0)) (fun w H => List.mem_cons_of_mem _ (List.mem_append_left _ (List.mem_append_left _ (List.mem_append_left _ (List.mem_append_left _ (List.mem_append_left _ (List.mem_append_right _ H))))))) (hc := (rfl : vwCl[5]? = some (RX5, TX5, 5))) 0 0 (by decide) (List.mem_of_getElem? (i := 2) rfl) rfl rfl dX5_repair_24 ?_
  refine V.callVP (F := (((HD g o b c u h x) ++ (SW g c y)) ++ (UW g u ai pa tu)) ++ (BWs g x tx (nI len) s)) [.ref (b 0)] [] (kX1_saveP g h n sv b z hn6 hnl hl6) gX5_repair_X1_save rfl (by show _ ∧ _ ∧ _ ∧ _ = some (1 : Nat); decide +kernel) ⟨(Nat.le_of_ble_eq_true rfl), (Nat.le_of_ble_eq_true rfl)⟩ (hc := (rfl : vwCl[1]? = some (RX1, TX1, 2))) 0 rfl pv6_5_1 rfl (Nat.le_of_ble_eq_true rfl) ⟨(Nat.le_of_ble_eq_true rfl), (Nat.le_of_ble_eq_true rfl)⟩ dX5_repair_27 (fun r w hq2 => by obtain ⟨-, sv2, -, hF2, -⟩ := hq2; exact hF2) (fun r w hq2 => ?_)
  obtain ⟨rfl, sv2, hsv, hF2, hp2⟩ := hq2
  refine V.perm ((List.Perm.append_right _ hp2.symm).trans pv6_5_1.symm) ?_
  refine V.eqst (st2 := []) rfl ?_
  refine V.aload_n 0 rfl dX5_repair_30 rfl ?_
  refine V.get (v := .ref (b 0)) (fun w H => List.mem_cons_of_mem _ (List.mem_append_left _ (List.mem_append_left _ (List.mem_append_left _ (List.mem_append_left _ (List.mem_append_left _ (List.mem_append_right _ H))))))) (hc := (rfl : vwCl[5]? = some (RX5, TX5, 5))) 0 0 (by decide) (List.mem_of_getElem? (i := 2) rfl) rfl rfl dX5_repair_31 ?_
  refine V.get (v := .ref (b 2)) (fun w H => List.mem_cons_of_mem _ (List.mem_append_left _ (List.mem_append_left _ (List.mem_append_left _ (List.mem_append_left _ (List.mem_append_right _ H)))))) (hc := (rfl : vwCl[2]? = some (RX2, TX2, 12))) 1 8 (by decide) (List.mem_of_getElem? (i := 3) rfl) rfl rfl dX5_repair_34 ?_
  refine V.iload_n 1 rfl dX5_repair_37 rfl ?_
  refine V.iconst (v := 3) dX5_repair_38 (by decide) ?_
  refine V.callVf (ws2 := (HD g o b c u h x) ++ (SW g b z) ++ (SW g c y) ++ (UW g u ai pa tu) ++ (BWs g x tx (nI len) s) ++ (HW g h (svM n + 1) sv2)) (st2 := [.int ((sg z 12 64) (f * 8 + 3))]) [.int (nI f), .int 3] [] (kX3_at g (b 2) (b 3) 8 64 (sg z 12 64) f 3 (by first | omega | decide) (by first | omega | decide) (by first | omega | decide) (by first | omega | decide)) gX5_repair_X3_at rfl (by show _ ∧ _ ∧ _ ∧ _ = some (2 : Nat); decide +kernel) ⟨Nat.le_of_ble_eq_true rfl, Nat.le_of_ble_eq_true rfl⟩ (hc := (rfl : vwCl[3]? = some (RX3, TX3, 2))) 3 rfl [3, 4] (by decide) rfl rfl (Nat.le_of_ble_eq_true rfl) ⟨Nat.le_of_ble_eq_true rfl, Nat.le_of_ble_eq_true rfl⟩ dX5_repair_39 TWf (insW_of rfl rfl rfl) rfl rfl rfl ?_
  rw [sg_r (z := z) (o := 12) (n := 64) (r := f) (C := 8) (k := 3) (by omega)]
  refine V.istore (lv2 := [(4, .int (z (12 + 8 * f + 3))), (0, .ref o), (1, .int (nI f)), (2, .int q1), (3, .int q2)]) dX5_repair_42 (by decide) rfl ?_
  refine V.aload_n 1 rfl dX5_repair_44 rfl ?_
  refine V.get (v := .ref (b 0)) (fun w H => List.mem_cons_of_mem _ (List.mem_append_left _ (List.mem_append_left _ (List.mem_append_left _ (List.mem_append_left _ (List.mem_append_left _ (List.mem_append_right _ H))))))) (hc := (rfl : vwCl[5]? = some (RX5, TX5, 5))) 0 0 (by decide) (List.mem_of_getElem? (i := 2) rfl) rfl rfl dX5_repair_45 ?_
  refine V.get (v := .ref (b 2)) (fun w H => List.mem_cons_of_mem _ (List.mem_append_left _ (List.mem_append_left _ (List.mem_append_left _ (List.mem_append_left _ (List.mem_append_right _ H)))))) (hc := (rfl : vwCl[2]? = some (RX2, TX2, 12))) 1 8 (by decide) (List.mem_of_getElem? (i := 3) rfl) rfl rfl dX5_repair_48 ?_
  refine V.iload_n 2 rfl dX5_repair_51 rfl ?_
  refine V.iconst (v := 3) dX5_repair_52 (by decide) ?_
  refine V.iload_n 3 rfl dX5_repair_53 rfl ?_
  refine V.callVf (ws2 := (HD g o b c u h x) ++ (SW g b (upd z (12 + 8 * f + 3) q1)) ++ (SW g c y) ++ (UW g u ai pa tu) ++ (BWs g x tx (nI len) s) ++ (HW g h (svM n + 1) sv2)) (st2 := []) [.int (nI f), .int 3, .int q1] [] (kX3_put g (b 2) (b 3) 8 64 (sg z 12 64) f 3 q1 (by first | omega | decide) (by first | omega | decide) (by first | omega | decide) (by first | omega | decide)) gX5_repair_X3_put rfl (by show _ ∧ _ ∧ _ ∧ _ = some (3 : Nat); decide +kernel) ⟨Nat.le_of_ble_eq_true rfl, Nat.le_of_ble_eq_true rfl⟩ (hc := (rfl : vwCl[3]? = some (RX3, TX3, 2))) 3 rfl [3, 4] (by decide) rfl rfl (Nat.le_of_ble_eq_true rfl) ⟨Nat.le_of_ble_eq_true rfl, Nat.le_of_ble_eq_true rfl⟩ dX5_repair_54 TWf (insW_of rfl rfl (congrArg (fun _l : va_W => (HD g o b c u h x) ++ _l ++ (SW g c y) ++ (UW g u ai pa tu) ++ (BWs g x tx (nI len) s)) (SW_f (g := g) (b := b) (z := z) (v := q1) (r := f) (k := 3) (by omega)))) rfl rfl rfl ?_
  refine V.aload_n 1 rfl dX5_repair_57 rfl ?_
  refine V.get (v := .ref (b 0)) (fun w H => List.mem_cons_of_mem _ (List.mem_append_left _ (List.mem_append_left _ (List.mem_append_left _ (List.mem_append_left _ (List.mem_append_left _ (List.mem_append_right _ H))))))) (hc := (rfl : vwCl[5]? = some (RX5, TX5, 5))) 0 0 (by decide) (List.mem_of_getElem? (i := 2) rfl) rfl rfl dX5_repair_58 ?_
  refine V.get (v := .ref (b 2)) (fun w H => List.mem_cons_of_mem _ (List.mem_append_left _ (List.mem_append_left _ (List.mem_append_left _ (List.mem_append_left _ (List.mem_append_right _ H)))))) (hc := (rfl : vwCl[2]? = some (RX2, TX2, 12))) 1 8 (by decide) (List.mem_of_getElem? (i := 3) rfl) rfl rfl dX5_repair_61 ?_
  refine V.iload_n 2 rfl dX5_repair_64 rfl ?_
  refine V.iconst (v := 4) dX5_repair_65 (by decide) ?_
  refine V.iload_n 4 rfl dX5_repair_66 rfl ?_
  refine V.callVf (ws2 := (HD g o b c u h x) ++ (SW g b (upd (upd z (12 + 8 * f + 3) q1) (12 + 8 * f + 4) q2)) ++ (SW g c y) ++ (UW g u ai pa tu) ++ (BWs g x tx (nI len) s) ++ (HW g h (svM n + 1) sv2)) (st2 := []) [.int (nI f), .int 4, .int q2] [] (kX3_put g (b 2) (b 3) 8 64 (sg (upd z (12 + 8 * f + 3) q1) 12 64) f 4 q2 (by first | omega | decide) (by first | omega | decide) (by first | omega | decide) (by first | omega | decide)) gX5_repair_X3_put rfl (by show _ ∧ _ ∧ _ ∧ _ = some (3 : Nat); decide +kernel) ⟨Nat.le_of_ble_eq_true rfl, Nat.le_of_ble_eq_true rfl⟩ (hc := (rfl : vwCl[3]? = some (RX3, TX3, 2))) 3 rfl [3, 4] (by decide) rfl rfl (Nat.le_of_ble_eq_true rfl) ⟨Nat.le_of_ble_eq_true rfl, Nat.le_of_ble_eq_true rfl⟩ dX5_repair_67 TWf (insW_of rfl rfl (congrArg (fun _l : va_W => (HD g o b c u h x) ++ _l ++ (SW g c y) ++ (UW g u ai pa tu) ++ (BWs g x tx (nI len) s)) (SW_f (g := g) (b := b) (z := (upd z (12 + 8 * f + 3) q1)) (v := q2) (r := f) (k := 4) (by omega)))) rfl rfl rfl ?_
  refine V.iload 0 rfl dX5_repair_70 ?_
  obtain ⟨nw, hnw⟩ := hsv.fst
  obtain ⟨w2, hw1, hw2⟩ := FST.ex (W0 := GW g o b c u h x z y ai pa tu tx len s n sv) (w := GW g o b c u h x (upd (upd z (12 + 8 * f + 3) q1) (12 + 8 * f + 4) q2) y ai pa tu tx len s (svM n + 1) sv2) (GW_fp hnw)
  refine V.perm (ws2 := w2) hw1 ?_
  exact V.iret hq XMx.r (Nat.le_of_ble_eq_true rfl) (Nat.le_of_ble_eq_true rfl) ⟨f, hf, rfl, c1, c2, rfl, sv2, hsv, hw2, hw1⟩ dX5_repair_72
abbrev rmX5_fit : Room := { frames := 7, cells := 12, slots := 273, locals := 124 }
set_option maxHeartbeats 4000000 in
set_option maxRecDepth 100000 in
theorem kX5_fit (g : GT) (hst : g.1.stackTraces = false) (o : Nat) (b c u h x : Nat → Nat) (z y ai pa tu tx : Nat → Int32) (len : Nat) (s : BS) (n : Nat) (sv : SV) (q0 q1 : Int32) (hn6 : n ≤ 6) (hnl : n ≤ sv.length) (hl6 : sv.length ≤ 6) : UX g yX5_fit wsX5_fit rmX5_fit [.ref o, .int q0, .int q1] (GW g o b c u h x z y ai pa tu tx len s n sv) (fun v w => ∃ j, j < 4 ∧ q0 = nI j ∧ wi q1 0 63 = true ∧ v = some (.int (z (196 + 5 * j + 0))) ∧ ∃ sv2 : SV, svQ (svM n) (svR n sv) sv2 z ∧ GQ (GW g o b c u h x z y ai pa tu tx len s n sv) w (GW g o b c u h x (upd z (196 + 5 * j + 0) q1) y ai pa tu tx len s (svM n + 1) sv2)) (fun E w => w = GW g o b c u h x z y ai pa tu tx len s n sv ∧ ((wi q0 0 3 = false ∧ E = IOB) ∨ ((∃ j, j < 4 ∧ q0 = nI j) ∧ wi q1 0 63 = false ∧ E = IAE))) := by
  refine UX.ofV (cc := cX5_fit) (maxL := 4) (ret := some .int) (lv0 := [(0, .ref o), (1, .int q0), (2, .int q1)]) (by decide) rfl (Nat.le_of_ble_eq_true rfl) rfl ?_
  have hq : QFok g rmX5_fit (fun v w => ∃ j, j < 4 ∧ q0 = nI j ∧ wi q1 0 63 = true ∧ v = some (.int (z (196 + 5 * j + 0))) ∧ ∃ sv2 : SV, svQ (svM n) (svR n sv) sv2 z ∧ GQ (GW g o b c u h x z y ai pa tu tx len s n sv) w (GW g o b c u h x (upd z (196 + 5 * j + 0) q1) y ai pa tu tx len s (svM n + 1) sv2)) (QFx g rmX5_fit (fun v w => ∃ j, j < 4 ∧ q0 = nI j ∧ wi q1 0 63 = true ∧ v = some (.int (z (196 + 5 * j + 0))) ∧ ∃ sv2 : SV, svQ (svM n) (svR n sv) sv2 z ∧ GQ (GW g o b c u h x z y ai pa tu tx len s n sv) w (GW g o b c u h x (upd z (196 + 5 * j + 0) q1) y ai pa tu tx len s (svM n + 1) sv2)) (fun E w => w = GW g o b c u h x z y ai pa tu tx len s n sv ∧ ((wi q0 0 3 = false ∧ E = IOB) ∨ ((∃ j, j < 4 ∧ q0 = nI j) ∧ wi q1 0 63 = false ∧ E = IAE)))) := QFx.q
  refine V.eqws (ws2 := (HD g o b c u h x) ++ (SW g b z) ++ (SW g c y) ++ (UW g u ai pa tu) ++ (BWs g x tx (nI len) s) ++ (HW g h n sv)) rfl ?_
  refine V.iload_n 1 rfl dX5_fit_0 rfl ?_
  refine V.callSX0 [.int q0] [] (kX5_checkNozzle g hst q0) gX5_fit_X5_checkNozzle rfl (by show _ ∧ _ ∧ _ = some (1 : Nat); decide +kernel) ⟨(Nat.le_of_ble_eq_true rfl), (Nat.le_of_ble_eq_true rfl)⟩ rfl (Nat.le_of_ble_eq_true rfl) ⟨(Nat.le_of_ble_eq_true rfl), (Nat.le_of_ble_eq_true rfl)⟩ ⟨(Nat.le_of_ble_eq_true rfl), (Nat.le_of_ble_eq_true rfl)⟩ dX5_fit_1 (fun E w hx => ?_) (fun r w hq2 => ?_)
  · obtain ⟨rfl, rfl, hx⟩ := hx; exact ⟨rfl, rfl, Or.inl ⟨hx, rfl⟩⟩
  obtain ⟨rfl, rfl, c0⟩ := hq2
  refine ⟨rfl, ?_⟩
  refine V.eqst (st2 := []) rfl ?_
  obtain ⟨j, hj, rfl⟩ := wi_nat c0 (show (3 : Int32) = nI 4 - 1 from by decide) (by decide) (by decide)
  refine V.iload_n 2 rfl dX5_fit_4 rfl ?_
  refine V.iconst (v := 0) dX5_fit_5 (by decide) ?_
  refine V.bipush (v := 63) dX5_fit_6 (by decide) ?_
  refine V.callSX0 [.int q1, .int 0, .int 63] [] (kX5_checkRange g hst q1 0 63) gX5_fit_X5_checkRange rfl (by show _ ∧ _ ∧ _ = some (3 : Nat); decide +kernel) ⟨(Nat.le_of_ble_eq_true rfl), (Nat.le_of_ble_eq_true rfl)⟩ rfl (Nat.le_of_ble_eq_true rfl) ⟨(Nat.le_of_ble_eq_true rfl), (Nat.le_of_ble_eq_true rfl)⟩ ⟨(Nat.le_of_ble_eq_true rfl), (Nat.le_of_ble_eq_true rfl)⟩ dX5_fit_8 (fun E w hx => ?_) (fun r w hq2 => ?_)
  · obtain ⟨rfl, rfl, hx⟩ := hx; exact ⟨rfl, rfl, Or.inr (⟨⟨j, hj, rfl⟩, hx, rfl⟩)⟩
  obtain ⟨rfl, rfl, c1⟩ := hq2
  refine ⟨rfl, ?_⟩
  refine V.eqst (st2 := []) rfl ?_
  refine V.aload_n 0 rfl dX5_fit_11 rfl ?_
  refine V.get (v := .ref (h 0)) (fun w H => List.mem_cons_of_mem _ (List.mem_append_left _ (List.mem_append_left _ (List.mem_append_left _ (List.mem_append_left _ (List.mem_append_left _ (List.mem_append_right _ H))))))) (hc := (rfl : vwCl[5]? = some (RX5, TX5, 5))) 0 3 (by decide) (List.mem_of_getElem? (i := 1) rfl) rfl rfl dX5_fit_12 ?_
  refine V.aload_n 0 rfl dX5_fit_15 rfl ?_
  refine V.get (v := .ref (b 0)) (fun w H => List.mem_cons_of_mem _ (List.mem_append_left _ (List.mem_append_left _ (List.mem_append_left _ (List.mem_append_left _ (List.mem_append_left _ (List.mem_append_right _ H))))))) (hc := (rfl : vwCl[5]? = some (RX5, TX5, 5))) 0 0 (by decide) (List.mem_of_getElem? (i := 2) rfl) rfl rfl dX5_fit_16 ?_
  refine V.callVP (F := (((HD g o b c u h x) ++ (SW g c y)) ++ (UW g u ai pa tu)) ++ (BWs g x tx (nI len) s)) [.ref (b 0)] [] (kX1_saveP g h n sv b z hn6 hnl hl6) gX5_fit_X1_save rfl (by show _ ∧ _ ∧ _ ∧ _ = some (1 : Nat); decide +kernel) ⟨(Nat.le_of_ble_eq_true rfl), (Nat.le_of_ble_eq_true rfl)⟩ (hc := (rfl : vwCl[1]? = some (RX1, TX1, 2))) 0 rfl pv6_5_1 rfl (Nat.le_of_ble_eq_true rfl) ⟨(Nat.le_of_ble_eq_true rfl), (Nat.le_of_ble_eq_true rfl)⟩ dX5_fit_19 (fun r w hq2 => by obtain ⟨-, sv2, -, hF2, -⟩ := hq2; exact hF2) (fun r w hq2 => ?_)
  obtain ⟨rfl, sv2, hsv, hF2, hp2⟩ := hq2
  refine V.perm ((List.Perm.append_right _ hp2.symm).trans pv6_5_1.symm) ?_
  refine V.eqst (st2 := []) rfl ?_
  refine V.aload_n 0 rfl dX5_fit_22 rfl ?_
  refine V.get (v := .ref (b 0)) (fun w H => List.mem_cons_of_mem _ (List.mem_append_left _ (List.mem_append_left _ (List.mem_append_left _ (List.mem_append_left _ (List.mem_append_left _ (List.mem_append_right _ H))))))) (hc := (rfl : vwCl[5]? = some (RX5, TX5, 5))) 0 0 (by decide) (List.mem_of_getElem? (i := 2) rfl) rfl rfl dX5_fit_23 ?_
  refine V.get (v := .ref (b 6)) (fun w H => List.mem_cons_of_mem _ (List.mem_append_left _ (List.mem_append_left _ (List.mem_append_left _ (List.mem_append_left _ (List.mem_append_right _ H)))))) (hc := (rfl : vwCl[2]? = some (RX2, TX2, 12))) 1 10 (by decide) (List.mem_of_getElem? (i := 3) rfl) rfl rfl dX5_fit_26 ?_
  refine V.iload_n 1 rfl dX5_fit_29 rfl ?_
  refine V.iconst (v := 0) dX5_fit_30 (by decide) ?_
  refine V.callVf (ws2 := (HD g o b c u h x) ++ (SW g b z) ++ (SW g c y) ++ (UW g u ai pa tu) ++ (BWs g x tx (nI len) s) ++ (HW g h (svM n + 1) sv2)) (st2 := [.int ((sg z 196 20) (j * 5 + 0))]) [.int (nI j), .int 0] [] (kX3_at g (b 6) (b 7) 5 20 (sg z 196 20) j 0 (by first | omega | decide) (by first | omega | decide) (by first | omega | decide) (by first | omega | decide)) gX5_fit_X3_at rfl (by show _ ∧ _ ∧ _ ∧ _ = some (2 : Nat); decide +kernel) ⟨Nat.le_of_ble_eq_true rfl, Nat.le_of_ble_eq_true rfl⟩ (hc := (rfl : vwCl[3]? = some (RX3, TX3, 2))) 7 rfl [7, 8] (by decide) rfl rfl (Nat.le_of_ble_eq_true rfl) ⟨Nat.le_of_ble_eq_true rfl, Nat.le_of_ble_eq_true rfl⟩ dX5_fit_31 TWf (insW_of rfl rfl rfl) rfl rfl rfl ?_
  rw [sg_r (z := z) (o := 196) (n := 20) (r := j) (C := 5) (k := 0) (by omega)]
  refine V.istore_n (lv2 := [(3, .int (z (196 + 5 * j + 0))), (0, .ref o), (1, .int (nI j)), (2, .int q1)]) dX5_fit_34 rfl (by decide) rfl ?_
  refine V.aload_n 1 rfl dX5_fit_35 rfl ?_
  refine V.get (v := .ref (b 0)) (fun w H => List.mem_cons_of_mem _ (List.mem_append_left _ (List.mem_append_left _ (List.mem_append_left _ (List.mem_append_left _ (List.mem_append_left _ (List.mem_append_right _ H))))))) (hc := (rfl : vwCl[5]? = some (RX5, TX5, 5))) 0 0 (by decide) (List.mem_of_getElem? (i := 2) rfl) rfl rfl dX5_fit_36 ?_
  refine V.get (v := .ref (b 6)) (fun w H => List.mem_cons_of_mem _ (List.mem_append_left _ (List.mem_append_left _ (List.mem_append_left _ (List.mem_append_left _ (List.mem_append_right _ H)))))) (hc := (rfl : vwCl[2]? = some (RX2, TX2, 12))) 1 10 (by decide) (List.mem_of_getElem? (i := 3) rfl) rfl rfl dX5_fit_39 ?_
  refine V.iload_n 2 rfl dX5_fit_42 rfl ?_
  refine V.iconst (v := 0) dX5_fit_43 (by decide) ?_
  refine V.iload_n 3 rfl dX5_fit_44 rfl ?_
  refine V.callVf (ws2 := (HD g o b c u h x) ++ (SW g b (upd z (196 + 5 * j + 0) q1)) ++ (SW g c y) ++ (UW g u ai pa tu) ++ (BWs g x tx (nI len) s) ++ (HW g h (svM n + 1) sv2)) (st2 := []) [.int (nI j), .int 0, .int q1] [] (kX3_put g (b 6) (b 7) 5 20 (sg z 196 20) j 0 q1 (by first | omega | decide) (by first | omega | decide) (by first | omega | decide) (by first | omega | decide)) gX5_fit_X3_put rfl (by show _ ∧ _ ∧ _ ∧ _ = some (3 : Nat); decide +kernel) ⟨Nat.le_of_ble_eq_true rfl, Nat.le_of_ble_eq_true rfl⟩ (hc := (rfl : vwCl[3]? = some (RX3, TX3, 2))) 7 rfl [7, 8] (by decide) rfl rfl (Nat.le_of_ble_eq_true rfl) ⟨Nat.le_of_ble_eq_true rfl, Nat.le_of_ble_eq_true rfl⟩ dX5_fit_45 TWf (insW_of rfl rfl (congrArg (fun _l : va_W => (HD g o b c u h x) ++ _l ++ (SW g c y) ++ (UW g u ai pa tu) ++ (BWs g x tx (nI len) s)) (SW_n (g := g) (b := b) (z := z) (v := q1) (r := j) (k := 0) (by omega)))) rfl rfl rfl ?_
  refine V.iload_n 0 rfl dX5_fit_48 rfl ?_
  obtain ⟨nw, hnw⟩ := hsv.fst
  obtain ⟨w2, hw1, hw2⟩ := FST.ex (W0 := GW g o b c u h x z y ai pa tu tx len s n sv) (w := GW g o b c u h x (upd z (196 + 5 * j + 0) q1) y ai pa tu tx len s (svM n + 1) sv2) (GW_fp hnw)
  refine V.perm (ws2 := w2) hw1 ?_
  exact V.iret hq XMx.r (Nat.le_of_ble_eq_true rfl) (Nat.le_of_ble_eq_true rfl) ⟨j, hj, rfl, c1, rfl, sv2, hsv, hw2, hw1⟩ dX5_fit_49
abbrev rmX5_clear : Room := { frames := 4, cells := 10, slots := 261, locals := 124 }
set_option maxHeartbeats 4000000 in
set_option maxRecDepth 100000 in
theorem kX5_clear (g : GT) (o : Nat) (b c u h x : Nat → Nat) (z y ai pa tu tx : Nat → Int32) (len : Nat) (s : BS) (n : Nat) (sv : SV) (hP : z 6 = nI (np z)) (hP24 : np z ≤ 24) (hn6 : n ≤ 6) (hnl : n ≤ sv.length) (hl6 : sv.length ≤ 6) : UC g yX5_clear wsX5_clear rmX5_clear [.ref o] (GW g o b c u h x z y ai pa tu tx len s n sv) (fun v w => v = some (.int (pT z 1)) ∧ ∃ sv2 : SV, svQ (svM n) (svR n sv) sv2 z ∧ GQ (GW g o b c u h x z y ai pa tu tx len s n sv) w (GW g o b c u h x (clZ z) y ai pa tu tx len s (svM n + 1) sv2)) := by
  refine UC.ofV (cc := cX5_clear) (maxL := 3) (ret := some .int) (lv0 := [(0, .ref o)]) (by decide) rfl (Nat.le_of_ble_eq_true rfl) rfl ?_
  generalize hQF : QFr g rmX5_clear (fun v w => v = some (.int (pT z 1)) ∧ ∃ sv2 : SV, svQ (svM n) (svR n sv) sv2 z ∧ GQ (GW g o b c u h x z y ai pa tu tx len s n sv) w (GW g o b c u h x (clZ z) y ai pa tu tx len s (svM n + 1) sv2)) = QF
  have hq : QFok g rmX5_clear (fun v w => v = some (.int (pT z 1)) ∧ ∃ sv2 : SV, svQ (svM n) (svR n sv) sv2 z ∧ GQ (GW g o b c u h x z y ai pa tu tx len s n sv) w (GW g o b c u h x (clZ z) y ai pa tu tx len s (svM n + 1) sv2)) QF := hQF ▸ QFr.q
  refine V.eqws (ws2 := (HD g o b c u h x) ++ (SW g b z) ++ (SW g c y) ++ (UW g u ai pa tu) ++ (BWs g x tx (nI len) s) ++ (HW g h n sv)) rfl ?_
  refine V.aload_n 0 rfl dX5_clear_0 rfl ?_
  refine V.get (v := .ref (h 0)) (fun w H => List.mem_cons_of_mem _ (List.mem_append_left _ (List.mem_append_left _ (List.mem_append_left _ (List.mem_append_right _ H))))) (hc := (rfl : vwCl[5]? = some (RX5, TX5, 5))) 0 3 (by decide) (List.mem_of_getElem? (i := 1) rfl) rfl rfl dX5_clear_1 ?_
  refine V.aload_n 0 rfl dX5_clear_4 rfl ?_
  refine V.get (v := .ref (b 0)) (fun w H => List.mem_cons_of_mem _ (List.mem_append_left _ (List.mem_append_left _ (List.mem_append_left _ (List.mem_append_right _ H))))) (hc := (rfl : vwCl[5]? = some (RX5, TX5, 5))) 0 0 (by decide) (List.mem_of_getElem? (i := 2) rfl) rfl rfl dX5_clear_5 ?_
  refine V.callVP (F := (((HD g o b c u h x) ++ (SW g c y)) ++ (UW g u ai pa tu)) ++ (BWs g x tx (nI len) s)) [.ref (b 0)] [] (kX1_saveP g h n sv b z hn6 hnl hl6) gX5_clear_X1_save rfl (by show _ ∧ _ ∧ _ ∧ _ = some (1 : Nat); decide +kernel) ⟨(Nat.le_of_ble_eq_true rfl), (Nat.le_of_ble_eq_true rfl)⟩ (hc := (rfl : vwCl[1]? = some (RX1, TX1, 2))) 0 rfl pv6_5_1 rfl (Nat.le_of_ble_eq_true rfl) ⟨(Nat.le_of_ble_eq_true rfl), (Nat.le_of_ble_eq_true rfl)⟩ dX5_clear_8 (fun r w hq2 => by obtain ⟨-, sv2, -, hF2, -⟩ := hq2; exact hF2) (fun r w hq2 => ?_)
  obtain ⟨rfl, sv2, hsv, hF2, hp2⟩ := hq2
  refine V.perm ((List.Perm.append_right _ hp2.symm).trans pv6_5_1.symm) ?_
  refine V.eqst (st2 := []) rfl ?_
  refine V.aload_n 0 rfl dX5_clear_11 rfl ?_
  refine V.get (v := .ref (b 0)) (fun w H => List.mem_cons_of_mem _ (List.mem_append_left _ (List.mem_append_left _ (List.mem_append_left _ (List.mem_append_right _ H))))) (hc := (rfl : vwCl[5]? = some (RX5, TX5, 5))) 0 0 (by decide) (List.mem_of_getElem? (i := 2) rfl) rfl rfl dX5_clear_12 ?_
  refine V.iconst (v := 1) dX5_clear_15 (by decide) ?_
  refine V.callVPf (ws2 := (HD g o b c u h x) ++ (SW g b z) ++ (SW g c y) ++ (UW g u ai pa tu) ++ (BWs g x tx (nI len) s) ++ (HW g h (svM n + 1) sv2)) (st2 := [.int (pT z (1 : Int32))]) [.int 1] [] (kX2_placesWith g b z (1 : Int32) hP hP24) gX5_clear_X2_placesWith rfl (by show _ ∧ _ ∧ _ ∧ _ = some (1 : Nat); decide +kernel) ⟨Nat.le_of_ble_eq_true rfl, Nat.le_of_ble_eq_true rfl⟩ (hc := (rfl : vwCl[2]? = some (RX2, TX2, 12))) 0 rfl pv6_1 rfl (Nat.le_of_ble_eq_true rfl) ⟨Nat.le_of_ble_eq_true rfl, Nat.le_of_ble_eq_true rfl⟩ dX5_clear_16 SWm pv6_1.symm rfl rfl rfl ?_
  refine V.istore_n (lv2 := [(1, .int (pT z (1 : Int32))), (0, .ref o)]) dX5_clear_19 rfl (by decide) rfl ?_
  refine V.iconst (v := 0) dX5_clear_20 (by decide) ?_
  refine V.istore_n (lv2 := [(2, .int 0), (1, .int (pT z (1 : Int32))), (0, .ref o)]) dX5_clear_21 rfl (by decide) rfl ?_
  have L22 : ∀ (kL : Nat) (i : Nat) (yy : Nat → Int32), i + kL = np z → (yy 6 = nI (np z)) → (fu (fun p y => emz y p) i kL yy = clZ z) → V g rmX5_clear RX5 cX5_clear wsX5_clear 3 QF (XM (some .int) "clear") (0 + rmX1_saveP.cells) (0 + rmX1_saveP.slots) ((HD g o b c u h x) ++ (SW g b yy) ++ (SW g c y) ++ (UW g u ai pa tu) ++ (BWs g x tx (nI len) s) ++ (HW g h (svM n + 1) sv2)) 22 [(2, .int (nI i)), (1, .int (pT z 1)), (0, .ref o)] [] := by
    intro kL
    induction kL with
    | zero =>
      intro i yy hrel h6 hfu
      rw [fu_0] at hfu
      refine V.iload_n 0 rfl dX5_clear_22 rfl ?_
      refine V.aload_n 2 rfl dX5_clear_23 rfl ?_
      refine V.get (v := .ref (b 0)) (fun w H => List.mem_cons_of_mem _ (List.mem_append_left _ (List.mem_append_left _ (List.mem_append_left _ (List.mem_append_right _ H))))) (hc := (rfl : vwCl[5]? = some (RX5, TX5, 5))) 0 0 (by decide) (List.mem_of_getElem? (i := 2) rfl) rfl rfl dX5_clear_24 ?_
      refine V.get (v := .int (yy 6)) (fun w H => List.mem_cons_of_mem _ (List.mem_append_left _ (List.mem_append_left _ (List.mem_append_right _ H)))) (hc := (rfl : vwCl[2]? = some (RX2, TX2, 12))) 1 1 (by decide) (List.mem_of_getElem? (i := 3) rfl) rfl rfl dX5_clear_27 ?_
      rw [h6]
      refine V.icmp_ge_t (tgt := 47) (by exact nI_le (a := np z) (b := i) (by omega) (by omega)) dX5_clear_30 (by decide) ?_
      subst hfu
      refine V.iload_n 1 rfl dX5_clear_47 rfl ?_
      obtain ⟨nw, hnw⟩ := hsv.fst
      obtain ⟨w2, hw1, hw2⟩ := FST.ex (W0 := GW g o b c u h x z y ai pa tu tx len s n sv) (w := GW g o b c u h x (clZ z) y ai pa tu tx len s (svM n + 1) sv2) (GW_fp hnw)
      refine V.perm (ws2 := w2) hw1 ?_
      exact V.iret hq XM.r (Nat.le_of_ble_eq_true rfl) (Nat.le_of_ble_eq_true rfl) ⟨rfl, sv2, hsv, hw2, hw1⟩ dX5_clear_48
    | succ kL ih =>
      intro i yy hrel h6 hfu
      rw [fu_s] at hfu
      refine V.iload_n 0 rfl dX5_clear_22 rfl ?_
      refine V.aload_n 2 rfl dX5_clear_23 rfl ?_
      refine V.get (v := .ref (b 0)) (fun w H => List.mem_cons_of_mem _ (List.mem_append_left _ (List.mem_append_left _ (List.mem_append_left _ (List.mem_append_right _ H))))) (hc := (rfl : vwCl[5]? = some (RX5, TX5, 5))) 0 0 (by decide) (List.mem_of_getElem? (i := 2) rfl) rfl rfl dX5_clear_24 ?_
      refine V.get (v := .int (yy 6)) (fun w H => List.mem_cons_of_mem _ (List.mem_append_left _ (List.mem_append_left _ (List.mem_append_right _ H)))) (hc := (rfl : vwCl[2]? = some (RX2, TX2, 12))) 1 1 (by decide) (List.mem_of_getElem? (i := 3) rfl) rfl rfl dX5_clear_27 ?_
      rw [h6]
      refine V.icmp_ge_f (tgt := 47) (by exact nI_ge (a := i) (b := np z) (by omega) (by omega)) dX5_clear_30 (by decide) ?_
      refine V.aload_n 2 rfl dX5_clear_33 rfl ?_
      refine V.get (v := .ref (b 0)) (fun w H => List.mem_cons_of_mem _ (List.mem_append_left _ (List.mem_append_left _ (List.mem_append_left _ (List.mem_append_right _ H))))) (hc := (rfl : vwCl[5]? = some (RX5, TX5, 5))) 0 0 (by decide) (List.mem_of_getElem? (i := 2) rfl) rfl rfl dX5_clear_34 ?_
      refine V.iload_n 0 rfl dX5_clear_37 rfl ?_
      refine V.callVPf (ws2 := (HD g o b c u h x) ++ (SW g b (emz yy i)) ++ (SW g c y) ++ (UW g u ai pa tu) ++ (BWs g x tx (nI len) s) ++ (HW g h (svM n + 1) sv2)) (st2 := []) [.int (nI i)] [] (kX2_emptyPlace g b yy i (by first | omega | decide)) gX5_clear_X2_emptyPlace rfl (by show _ ∧ _ ∧ _ ∧ _ = some (1 : Nat); decide +kernel) ⟨Nat.le_of_ble_eq_true rfl, Nat.le_of_ble_eq_true rfl⟩ (hc := (rfl : vwCl[2]? = some (RX2, TX2, 12))) 0 rfl pv6_1 rfl (Nat.le_of_ble_eq_true rfl) ⟨Nat.le_of_ble_eq_true rfl, Nat.le_of_ble_eq_true rfl⟩ dX5_clear_38 SWm pv6_1.symm rfl rfl rfl ?_
      refine V.iinc (v := nI (i + 1)) (lv2 := [(2, .int (nI (i + 1))), (1, .int (pT z 1)), (0, .ref o)]) 0 rfl dX5_clear_41 (nI_add i 1) (by decide) rfl ?_
      refine V.goto (tgt := 22) dX5_clear_44 (by decide) ?_
      refine V.eqlv (lv2 := [(2, .int (nI (i + 1))), (1, .int (pT z 1)), (0, .ref o)]) [0, 1, 2] rfl ?_
      exact ih (i + 1) (emz yy i) (by omega) (by rw [emz_lo (by decide)]; exact h6) hfu
  refine V.eqlv (lv2 := [(2, .int 0), (1, .int (pT z (1 : Int32))), (0, .ref o)]) [0, 1, 2] rfl ?_
  exact L22 (np z) 0 z (by omega) hP rfl
abbrev rmX5_set : Room := { frames := 7, cells := 12, slots := 273, locals := 124 }
set_option maxHeartbeats 4000000 in
set_option maxRecDepth 100000 in
theorem kX5_set (g : GT) (hst : g.1.stackTraces = false) (o : Nat) (b c u h x : Nat → Nat) (z y ai pa tu tx : Nat → Int32) (len : Nat) (s : BS) (n : Nat) (sv : SV) (q0 q1 : Int32) (hn6 : n ≤ 6) (hnl : n ≤ sv.length) (hl6 : sv.length ≤ 6) : UX g yX5_set wsX5_set rmX5_set [.ref o, .int q0, .int q1] (GW g o b c u h x z y ai pa tu tx len s n sv) (fun v w => ∃ j, j < 5 ∧ q0 = nI j ∧ wi q1 0 (gsT j) = true ∧ v = some (.int (z (0 + j))) ∧ ∃ sv2 : SV, svQ (svM n) (svR n sv) sv2 z ∧ GQ (GW g o b c u h x z y ai pa tu tx len s n sv) w (GW g o b c u h x (upd z (0 + j) q1) y ai pa tu tx len s (svM n + 1) sv2)) (fun E w => w = GW g o b c u h x z y ai pa tu tx len s n sv ∧ ((wi q0 0 4 = false ∧ E = IOB) ∨ ((∃ j, j < 5 ∧ q0 = nI j ∧ wi q1 0 (gsT j) = false) ∧ E = IAE))) := by
  refine UX.ofV (cc := cX5_set) (maxL := 4) (ret := some .int) (lv0 := [(0, .ref o), (1, .int q0), (2, .int q1)]) (by decide) rfl (Nat.le_of_ble_eq_true rfl) rfl ?_
  have hq : QFok g rmX5_set (fun v w => ∃ j, j < 5 ∧ q0 = nI j ∧ wi q1 0 (gsT j) = true ∧ v = some (.int (z (0 + j))) ∧ ∃ sv2 : SV, svQ (svM n) (svR n sv) sv2 z ∧ GQ (GW g o b c u h x z y ai pa tu tx len s n sv) w (GW g o b c u h x (upd z (0 + j) q1) y ai pa tu tx len s (svM n + 1) sv2)) (QFx g rmX5_set (fun v w => ∃ j, j < 5 ∧ q0 = nI j ∧ wi q1 0 (gsT j) = true ∧ v = some (.int (z (0 + j))) ∧ ∃ sv2 : SV, svQ (svM n) (svR n sv) sv2 z ∧ GQ (GW g o b c u h x z y ai pa tu tx len s n sv) w (GW g o b c u h x (upd z (0 + j) q1) y ai pa tu tx len s (svM n + 1) sv2)) (fun E w => w = GW g o b c u h x z y ai pa tu tx len s n sv ∧ ((wi q0 0 4 = false ∧ E = IOB) ∨ ((∃ j, j < 5 ∧ q0 = nI j ∧ wi q1 0 (gsT j) = false) ∧ E = IAE)))) := QFx.q
  refine V.eqws (ws2 := (HD g o b c u h x) ++ (SW g b z) ++ (SW g c y) ++ (UW g u ai pa tu) ++ (BWs g x tx (nI len) s) ++ (HW g h n sv)) rfl ?_
  refine V.iload_n 1 rfl dX5_set_0 rfl ?_
  refine V.callSX0 [.int q0] [] (kX5_checkSetting g hst q0) gX5_set_X5_checkSetting rfl (by show _ ∧ _ ∧ _ = some (1 : Nat); decide +kernel) ⟨(Nat.le_of_ble_eq_true rfl), (Nat.le_of_ble_eq_true rfl)⟩ rfl (Nat.le_of_ble_eq_true rfl) ⟨(Nat.le_of_ble_eq_true rfl), (Nat.le_of_ble_eq_true rfl)⟩ ⟨(Nat.le_of_ble_eq_true rfl), (Nat.le_of_ble_eq_true rfl)⟩ dX5_set_1 (fun E w hx => ?_) (fun r w hq2 => ?_)
  · obtain ⟨rfl, rfl, hx⟩ := hx; exact ⟨rfl, rfl, Or.inl ⟨hx, rfl⟩⟩
  obtain ⟨rfl, rfl, c0⟩ := hq2
  refine ⟨rfl, ?_⟩
  refine V.eqst (st2 := []) rfl ?_
  obtain ⟨j, hj, rfl⟩ := wi_nat c0 (show (4 : Int32) = nI 5 - 1 from by decide) (by decide) (by decide)
  refine V.iload_n 2 rfl dX5_set_4 rfl ?_
  refine V.iconst (v := 0) dX5_set_5 (by decide) ?_
  refine V.getsS (by decide +kernel) dX5_set_6 (fun tt => ?_)
  refine V.iload_n 1 rfl dX5_set_9 rfl ?_
  refine V.ialdT (j := j) (v := gsT j) rfl hj (by decide) rfl dX5_set_10 ?_
  refine V.callSX0 [.int q1, .int 0, .int (gsT j)] [] (kX5_checkRange g hst q1 0 (gsT j)) gX5_set_X5_checkRange rfl (by show _ ∧ _ ∧ _ = some (3 : Nat); decide +kernel) ⟨(Nat.le_of_ble_eq_true rfl), (Nat.le_of_ble_eq_true rfl)⟩ rfl (Nat.le_of_ble_eq_true rfl) ⟨(Nat.le_of_ble_eq_true rfl), (Nat.le_of_ble_eq_true rfl)⟩ ⟨(Nat.le_of_ble_eq_true rfl), (Nat.le_of_ble_eq_true rfl)⟩ dX5_set_11 (fun E w hx => ?_) (fun r w hq2 => ?_)
  · obtain ⟨rfl, rfl, hx⟩ := hx; exact ⟨rfl, rfl, Or.inr ⟨⟨j, hj, rfl, hx⟩, rfl⟩⟩
  obtain ⟨rfl, rfl, c1⟩ := hq2
  refine ⟨rfl, ?_⟩
  refine V.eqst (st2 := []) rfl ?_
  refine V.aload_n 0 rfl dX5_set_14 rfl ?_
  refine V.get (v := .ref (h 0)) (fun w H => List.mem_cons_of_mem _ (List.mem_append_left _ (List.mem_append_left _ (List.mem_append_left _ (List.mem_append_left _ (List.mem_append_left _ (List.mem_append_right _ H))))))) (hc := (rfl : vwCl[5]? = some (RX5, TX5, 5))) 0 3 (by decide) (List.mem_of_getElem? (i := 2) rfl) rfl rfl dX5_set_15 ?_
  refine V.aload_n 0 rfl dX5_set_18 rfl ?_
  refine V.get (v := .ref (b 0)) (fun w H => List.mem_cons_of_mem _ (List.mem_append_left _ (List.mem_append_left _ (List.mem_append_left _ (List.mem_append_left _ (List.mem_append_left _ (List.mem_append_right _ H))))))) (hc := (rfl : vwCl[5]? = some (RX5, TX5, 5))) 0 0 (by decide) (List.mem_of_getElem? (i := 3) rfl) rfl rfl dX5_set_19 ?_
  refine V.callVP (F := (((HD g o b c u h x) ++ (SW g c y)) ++ (UW g u ai pa tu)) ++ (BWs g x tx (nI len) s)) [.ref (b 0)] [] (kX1_saveP g h n sv b z hn6 hnl hl6) gX5_set_X1_save rfl (by show _ ∧ _ ∧ _ ∧ _ = some (1 : Nat); decide +kernel) ⟨(Nat.le_of_ble_eq_true rfl), (Nat.le_of_ble_eq_true rfl)⟩ (hc := (rfl : vwCl[1]? = some (RX1, TX1, 2))) 0 rfl pv6_5_1 rfl (Nat.le_of_ble_eq_true rfl) ⟨(Nat.le_of_ble_eq_true rfl), (Nat.le_of_ble_eq_true rfl)⟩ dX5_set_22 (fun r w hq2 => by obtain ⟨-, sv2, -, hF2, -⟩ := hq2; exact hF2) (fun r w hq2 => ?_)
  obtain ⟨rfl, sv2, hsv, hF2, hp2⟩ := hq2
  refine V.perm ((List.Perm.append_right _ hp2.symm).trans pv6_5_1.symm) ?_
  refine V.eqst (st2 := []) rfl ?_
  refine V.aload_n 0 rfl dX5_set_25 rfl ?_
  refine V.get (v := .ref (b 0)) (fun w H => List.mem_cons_of_mem _ (List.mem_append_left _ (List.mem_append_left _ (List.mem_append_left _ (List.mem_append_left _ (List.mem_append_left _ (List.mem_append_right _ H))))))) (hc := (rfl : vwCl[5]? = some (RX5, TX5, 5))) 0 0 (by decide) (List.mem_of_getElem? (i := 3) rfl) rfl rfl dX5_set_26 ?_
  refine V.get (v := .ref (b 1)) (fun w H => List.mem_cons_of_mem _ (List.mem_append_left _ (List.mem_append_left _ (List.mem_append_left _ (List.mem_append_left _ (List.mem_append_right _ H)))))) (hc := (rfl : vwCl[2]? = some (RX2, TX2, 12))) 1 7 (by decide) (List.mem_of_getElem? (i := 4) rfl) rfl rfl dX5_set_29 ?_
  refine V.iload_n 1 rfl dX5_set_32 rfl ?_
  refine V.iald (f := sg z 0 5) 2 j rfl rfl hj (by decide) dX5_set_33 ?_
  rw [show (sg z 0 5) j = z (0 + j) from sg_a (by omega)]
  refine V.istore_n (lv2 := [(3, .int (z (0 + j))), (0, .ref o), (1, .int (nI j)), (2, .int q1)]) dX5_set_34 rfl (by decide) rfl ?_
  refine V.aload_n 1 rfl dX5_set_35 rfl ?_
  refine V.get (v := .ref (b 0)) (fun w H => List.mem_cons_of_mem _ (List.mem_append_left _ (List.mem_append_left _ (List.mem_append_left _ (List.mem_append_left _ (List.mem_append_left _ (List.mem_append_right _ H))))))) (hc := (rfl : vwCl[5]? = some (RX5, TX5, 5))) 0 0 (by decide) (List.mem_of_getElem? (i := 3) rfl) rfl rfl dX5_set_36 ?_
  refine V.get (v := .ref (b 1)) (fun w H => List.mem_cons_of_mem _ (List.mem_append_left _ (List.mem_append_left _ (List.mem_append_left _ (List.mem_append_left _ (List.mem_append_right _ H)))))) (hc := (rfl : vwCl[2]? = some (RX2, TX2, 12))) 1 7 (by decide) (List.mem_of_getElem? (i := 4) rfl) rfl rfl dX5_set_39 ?_
  refine V.iload_n 2 rfl dX5_set_42 rfl ?_
  refine V.iload_n 3 rfl dX5_set_43 rfl ?_
  refine V.iast (f := sg z 0 5) (ws2 := (HD g o b c u h x) ++ (SW g b (upd z (0 + j) q1)) ++ (SW g c y) ++ (UW g u ai pa tu) ++ (BWs g x tx (nI len) s) ++ (HW g h (svM n + 1) sv2)) 2 j rfl rfl hj (by decide) (congrArg (fun _l : va_W => (HD g o b c u h x) ++ _l ++ (SW g c y) ++ (UW g u ai pa tu) ++ (BWs g x tx (nI len) s) ++ (HW g h (svM n + 1) sv2)) (SW_s (g := g) (b := b) (z := z) (v := q1) (j := j) (by omega))) dX5_set_44 ?_
  refine V.iload_n 0 rfl dX5_set_45 rfl ?_
  obtain ⟨nw, hnw⟩ := hsv.fst
  obtain ⟨w2, hw1, hw2⟩ := FST.ex (W0 := GW g o b c u h x z y ai pa tu tx len s n sv) (w := GW g o b c u h x (upd z (0 + j) q1) y ai pa tu tx len s (svM n + 1) sv2) (GW_fp hnw)
  refine V.perm (ws2 := w2) hw1 ?_
  exact V.iret hq XMx.r (Nat.le_of_ble_eq_true rfl) (Nat.le_of_ble_eq_true rfl) ⟨j, hj, rfl, c1, rfl, sv2, hsv, hw2, hw1⟩ dX5_set_46
