/-- are all places right (allRight's answer) -/
noncomputable def aR_t (z : Nat → Int32) : Bool := decide (pT z 1 = z 6)
theorem aR_1 {z : Nat → Int32} (h : aR_t z = true) : pT z 1 = z 6 := of_decide_eq_true h
theorem aR_0 {z : Nat → Int32} (h : aR_t z = false) : ¬ pT z 1 = z 6 := of_decide_eq_false h
abbrev rmX2_allRight : Room := { frames := 2, cells := 0, slots := 0, locals := 47 }
set_option maxHeartbeats 4000000 in
set_option maxRecDepth 100000 in
theorem kX2_allRight (g : GT) (b : Nat → Nat) (z : Nat → Int32) (hP : z 6 = nI (np z)) (hP24 : np z ≤ 24) : UC g yX2_allRight wsX2_allRight rmX2_allRight [.ref (b 0)] (SW g b z) (Qf (some (.int (bi (aR_t z)))) (SW g b z)) := by
  refine UC.ofV (cc := cX2_allRight) (maxL := 1) (ret := some .boolean) (lv0 := [(0, .ref (b 0))]) (by decide) rfl (Nat.le_of_ble_eq_true rfl) rfl ?_
  generalize hQF : QFr g rmX2_allRight (Qf (some (.int (bi (aR_t z)))) (SW g b z)) = QF
  have hq : QFok g rmX2_allRight (Qf (some (.int (bi (aR_t z)))) (SW g b z)) QF := hQF ▸ QFr.q
  refine V.aload_n 0 rfl dX2_allRight_0 rfl ?_
  refine V.iconst (v := 1) dX2_allRight_1 (by decide) ?_
  refine V.callVf (ws2 := SW g b z) (st2 := [.int (pT z (1 : Int32))]) [.int 1] [] (kX2_placesWith g b z (1 : Int32) hP hP24) gX2_allRight_X2_placesWith rfl (by show _ ∧ _ ∧ _ ∧ _ = some (1 : Nat); decide +kernel) ⟨Nat.le_of_ble_eq_true rfl, Nat.le_of_ble_eq_true rfl⟩ (hc := (rfl : vwCl[2]? = some (RX2, TX2, 12))) 0 rfl [0, 1, 2, 3, 4, 5, 6, 7, 8, 9] (by decide) rfl rfl (Nat.le_of_ble_eq_true rfl) ⟨Nat.le_of_ble_eq_true rfl, Nat.le_of_ble_eq_true rfl⟩ dX2_allRight_2 rfl rfl rfl rfl rfl ?_
  refine V.aload_n 0 rfl dX2_allRight_5 rfl ?_
  refine V.get (v := .int (z 6)) (fun w H => List.mem_cons_of_mem _ (List.mem_append_left _ (List.mem_append_right _ H))) (hc := (rfl : vwCl[2]? = some (RX2, TX2, 12))) 0 1 (by decide) (List.mem_of_getElem? (i := 1) rfl) rfl rfl dX2_allRight_6 ?_
  refine V.icmp_ne (tgt := 16) dX2_allRight_9 (by decide) (fun c9 => ?_) (fun c9 => ?_)
  · skip
    refine V.iconst (v := 0) dX2_allRight_16 (by decide) ?_
    exact V.zret hq XM.r rfl (Nat.le_of_ble_eq_true rfl) (Nat.le_of_ble_eq_true rfl) ⟨by rw [aR_t, decide_eq_false c9] <;> rfl, rfl⟩ dX2_allRight_17
  · skip
    refine V.iconst (v := 1) dX2_allRight_12 (by decide) ?_
    refine V.goto (tgt := 17) dX2_allRight_13 (by decide) ?_
    exact V.zret hq XM.r rfl (Nat.le_of_ble_eq_true rfl) (Nat.le_of_ble_eq_true rfl) ⟨by rw [aR_t, decide_eq_true c9] <;> rfl, rfl⟩ dX2_allRight_17
