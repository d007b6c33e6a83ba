abbrev rmX2_emptyPlace : Room := { frames := 1, cells := 0, slots := 0, locals := 25 }
set_option maxHeartbeats 4000000 in
set_option maxRecDepth 100000 in
theorem kX2_emptyPlace (g : GT) (b : Nat → Nat) (z : Nat → Int32) (p : Nat) (hp : p < 24) : UC g yX2_emptyPlace wsX2_emptyPlace rmX2_emptyPlace [.ref (b 0), .int (nI p)] (SW g b z) (Qf (none) (SW g b (emz z p))) := by
  refine UC.ofV (cc := cX2_emptyPlace) (maxL := 2) (ret := none) (lv0 := [(0, .ref (b 0)), (1, .int (nI p))]) (by decide) rfl (Nat.le_of_ble_eq_true rfl) rfl ?_
  generalize hQF : QFr g rmX2_emptyPlace (Qf (none) (SW g b (emz z p))) = QF
  have hq : QFok g rmX2_emptyPlace (Qf (none) (SW g b (emz z p))) QF := hQF ▸ QFr.q
  refine V.aload_n 0 rfl dX2_emptyPlace_0 rfl ?_
  refine V.get (v := .ref (b 4)) (fun w H => List.mem_cons_of_mem _ (List.mem_append_left _ (List.mem_append_right _ H))) (hc := (rfl : vwCl[2]? = some (RX2, TX2, 12))) 0 9 (by decide) (List.mem_of_getElem? (i := 1) rfl) rfl rfl dX2_emptyPlace_1 ?_
  refine V.iload_n 1 rfl dX2_emptyPlace_4 rfl ?_
  refine V.iconst (v := 2) dX2_emptyPlace_5 (by decide) ?_
  refine V.iconst (v := 0) dX2_emptyPlace_6 (by decide) ?_
  refine V.callVf (ws2 := SW g b (upd z (76 + 5 * p + 2) (0 : Int32))) (st2 := []) [.int (nI p), .int 2, .int 0] [] (kX3_put g (b 4) (b 5) 5 120 (sg z 76 120) p 2 (0 : Int32) (by first | omega | decide) (by first | omega | decide) (by first | omega | decide) (by first | omega | decide)) gX2_emptyPlace_X3_put rfl (by show _ ∧ _ ∧ _ ∧ _ = some (3 : Nat); decide +kernel) ⟨Nat.le_of_ble_eq_true rfl, Nat.le_of_ble_eq_true rfl⟩ (hc := (rfl : vwCl[3]? = some (RX3, TX3, 2))) 4 rfl [4, 5] (by decide) rfl rfl (Nat.le_of_ble_eq_true rfl) ⟨Nat.le_of_ble_eq_true rfl, Nat.le_of_ble_eq_true rfl⟩ dX2_emptyPlace_7 TWf (SW_p (g := g) (b := b) (z := z) (v := (0 : Int32)) (r := p) (k := 2) (by omega)) rfl rfl rfl ?_
  refine V.aload_n 0 rfl dX2_emptyPlace_10 rfl ?_
  refine V.get (v := .ref (b 4)) (fun w H => List.mem_cons_of_mem _ (List.mem_append_left _ (List.mem_append_right _ H))) (hc := (rfl : vwCl[2]? = some (RX2, TX2, 12))) 0 9 (by decide) (List.mem_of_getElem? (i := 1) rfl) rfl rfl dX2_emptyPlace_11 ?_
  refine V.iload_n 1 rfl dX2_emptyPlace_14 rfl ?_
  refine V.iconst (v := 3) dX2_emptyPlace_15 (by decide) ?_
  refine V.iconst (v := -1) dX2_emptyPlace_16 (by decide) ?_
  refine V.callVf (ws2 := SW g b (upd (upd z (76 + 5 * p + 2) (0 : Int32)) (76 + 5 * p + 3) (-1 : Int32))) (st2 := []) [.int (nI p), .int 3, .int (-1)] [] (kX3_put g (b 4) (b 5) 5 120 (sg (upd z (76 + 5 * p + 2) (0 : Int32)) 76 120) p 3 (-1 : Int32) (by first | omega | decide) (by first | omega | decide) (by first | omega | decide) (by first | omega | decide)) gX2_emptyPlace_X3_put rfl (by show _ ∧ _ ∧ _ ∧ _ = some (3 : Nat); decide +kernel) ⟨Nat.le_of_ble_eq_true rfl, Nat.le_of_ble_eq_true rfl⟩ (hc := (rfl : vwCl[3]? = some (RX3, TX3, 2))) 4 rfl [4, 5] (by decide) rfl rfl (Nat.le_of_ble_eq_true rfl) ⟨Nat.le_of_ble_eq_true rfl, Nat.le_of_ble_eq_true rfl⟩ dX2_emptyPlace_17 TWf (SW_p (g := g) (b := b) (z := (upd z (76 + 5 * p + 2) (0 : Int32))) (v := (-1 : Int32)) (r := p) (k := 3) (by omega)) rfl rfl rfl ?_
  refine V.aload_n 0 rfl dX2_emptyPlace_20 rfl ?_
  refine V.get (v := .ref (b 4)) (fun w H => List.mem_cons_of_mem _ (List.mem_append_left _ (List.mem_append_right _ H))) (hc := (rfl : vwCl[2]? = some (RX2, TX2, 12))) 0 9 (by decide) (List.mem_of_getElem? (i := 1) rfl) rfl rfl dX2_emptyPlace_21 ?_
  refine V.iload_n 1 rfl dX2_emptyPlace_24 rfl ?_
  refine V.iconst (v := 4) dX2_emptyPlace_25 (by decide) ?_
  refine V.iconst (v := -1) dX2_emptyPlace_26 (by decide) ?_
  refine V.callVf (ws2 := SW g b (upd (upd (upd z (76 + 5 * p + 2) (0 : Int32)) (76 + 5 * p + 3) (-1 : Int32)) (76 + 5 * p + 4) (-1 : Int32))) (st2 := []) [.int (nI p), .int 4, .int (-1)] [] (kX3_put g (b 4) (b 5) 5 120 (sg (upd (upd z (76 + 5 * p + 2) (0 : Int32)) (76 + 5 * p + 3) (-1 : Int32)) 76 120) p 4 (-1 : Int32) (by first | omega | decide) (by first | omega | decide) (by first | omega | decide) (by first | omega | decide)) gX2_emptyPlace_X3_put rfl (by show _ ∧ _ ∧ _ ∧ _ = some (3 : Nat); decide +kernel) ⟨Nat.le_of_ble_eq_true rfl, Nat.le_of_ble_eq_true rfl⟩ (hc := (rfl : vwCl[3]? = some (RX3, TX3, 2))) 4 rfl [4, 5] (by decide) rfl rfl (Nat.le_of_ble_eq_true rfl) ⟨Nat.le_of_ble_eq_true rfl, Nat.le_of_ble_eq_true rfl⟩ dX2_emptyPlace_27 TWf (SW_p (g := g) (b := b) (z := (upd (upd z (76 + 5 * p + 2) (0 : Int32)) (76 + 5 * p + 3) (-1 : Int32))) (v := (-1 : Int32)) (r := p) (k := 4) (by omega)) rfl rfl rfl ?_
  exact V.vret hq XM.r (Nat.le_of_ble_eq_true rfl) (Nat.le_of_ble_eq_true rfl) ⟨rfl, rfl⟩ dX2_emptyPlace_30
abbrev rmX2_misses : Room := { frames := 2, cells := 0, slots := 0, locals := 48 }
set_option maxHeartbeats 4000000 in
set_option maxRecDepth 100000 in
theorem kX2_misses (g : GT) (b : Nat → Nat) (z : Nat → Int32) : UC g yX2_misses wsX2_misses rmX2_misses [.ref (b 0)] (SW g b z) (Qf (some (.int (sN z 2))) (SW g b z)) := by
  refine UC.ofV (cc := cX2_misses) (maxL := 1) (ret := some .int) (lv0 := [(0, .ref (b 0))]) (by decide) rfl (Nat.le_of_ble_eq_true rfl) rfl ?_
  generalize hQF : QFr g rmX2_misses (Qf (some (.int (sN z 2))) (SW g b z)) = QF
  have hq : QFok g rmX2_misses (Qf (some (.int (sN z 2))) (SW g b z)) QF := hQF ▸ QFr.q
  refine V.aload_n 0 rfl dX2_misses_0 rfl ?_
  refine V.get (v := .ref (b 6)) (fun w H => List.mem_cons_of_mem _ (List.mem_append_left _ (List.mem_append_right _ H))) (hc := (rfl : vwCl[2]? = some (RX2, TX2, 12))) 0 10 (by decide) (List.mem_of_getElem? (i := 1) rfl) rfl rfl dX2_misses_1 ?_
  refine V.iconst (v := 4) dX2_misses_4 (by decide) ?_
  refine V.iconst (v := 2) dX2_misses_5 (by decide) ?_
  refine V.callVf (ws2 := SW g b z) (st2 := [.int (fu (tsF (sg z 196 20) 5 2) 0 4 0)]) [.int 4, .int 2] [] (kX3_sum g (b 6) (b 7) 5 20 (sg z 196 20) 4 2 (by decide) (by decide) (by decide) (by decide) (fun r h => by omega)) gX2_misses_X3_sum rfl (by show _ ∧ _ ∧ _ ∧ _ = some (2 : Nat); decide +kernel) ⟨Nat.le_of_ble_eq_true rfl, Nat.le_of_ble_eq_true rfl⟩ (hc := (rfl : vwCl[3]? = some (RX3, TX3, 2))) 6 rfl [6, 7] (by decide) rfl rfl (Nat.le_of_ble_eq_true rfl) ⟨Nat.le_of_ble_eq_true rfl, Nat.le_of_ble_eq_true rfl⟩ dX2_misses_6 TWf rfl rfl rfl rfl ?_
  exact V.iret hq XM.r (Nat.le_of_ble_eq_true rfl) (Nat.le_of_ble_eq_true rfl) ⟨by rw [ts_sN (by decide)], rfl⟩ dX2_misses_9
abbrev rmX2_placesWith : Room := { frames := 1, cells := 0, slots := 0, locals := 24 }
set_option maxHeartbeats 4000000 in
set_option maxRecDepth 100000 in
theorem kX2_placesWith (g : GT) (b : Nat → Nat) (z : Nat → Int32) (x : Int32) (hP : z 6 = nI (np z)) (hP24 : np z ≤ 24) : UC g yX2_placesWith wsX2_placesWith rmX2_placesWith [.ref (b 0), .int x] (SW g b z) (Qf (some (.int (pT z x))) (SW g b z)) := by
  refine UC.ofV (cc := cX2_placesWith) (maxL := 4) (ret := some .int) (lv0 := [(0, .ref (b 0)), (1, .int x)]) (by decide) rfl (Nat.le_of_ble_eq_true rfl) rfl ?_
  generalize hQF : QFr g rmX2_placesWith (Qf (some (.int (pT z x))) (SW g b z)) = QF
  have hq : QFok g rmX2_placesWith (Qf (some (.int (pT z x))) (SW g b z)) QF := hQF ▸ QFr.q
  refine V.iconst (v := 0) dX2_placesWith_0 (by decide) ?_
  refine V.istore_n (lv2 := [(2, .int 0), (0, .ref (b 0)), (1, .int x)]) dX2_placesWith_1 rfl (by decide) rfl ?_
  refine V.iconst (v := 0) dX2_placesWith_2 (by decide) ?_
  refine V.istore_n (lv2 := [(3, .int 0), (2, .int 0), (0, .ref (b 0)), (1, .int x)]) dX2_placesWith_3 rfl (by decide) rfl ?_
  have L4 : ∀ (kL : Nat) (i : Nat) (c : Int32), i + kL = np z → (fu (pTF z x) i kL c = pT z x) → V g rmX2_placesWith RX2 cX2_placesWith wsX2_placesWith 4 QF (XM (some .int) "placesWith") 0 0 (SW g b z) 4 [(3, .int (nI i)), (2, .int c), (0, .ref (b 0)), (1, .int x)] [] := by
    intro kL
    induction kL with
    | zero =>
      intro i c hrel hfu
      rw [fu_0] at hfu
      refine V.iload_n 0 rfl dX2_placesWith_4 rfl ?_
      refine V.aload_n 2 rfl dX2_placesWith_5 rfl ?_
      refine V.get (v := .int (z 6)) (fun w H => List.mem_cons_of_mem _ (List.mem_append_left _ (List.mem_append_right _ H))) (hc := (rfl : vwCl[2]? = some (RX2, TX2, 12))) 0 1 (by decide) (List.mem_of_getElem? (i := 1) rfl) rfl rfl dX2_placesWith_6 ?_
      rw [hP]
      refine V.icmp_ge_t (tgt := 34) (by exact nI_le (a := np z) (b := i) (by omega) (by omega)) dX2_placesWith_9 (by decide) ?_
      refine V.iload_n 1 rfl dX2_placesWith_34 rfl ?_
      exact V.iret hq XM.r (Nat.le_of_ble_eq_true rfl) (Nat.le_of_ble_eq_true rfl) ⟨by rw [← hfu] <;> rfl, rfl⟩ dX2_placesWith_35
    | succ kL ih =>
      intro i c hrel hfu
      rw [fu_s] at hfu
      refine V.iload_n 0 rfl dX2_placesWith_4 rfl ?_
      refine V.aload_n 2 rfl dX2_placesWith_5 rfl ?_
      refine V.get (v := .int (z 6)) (fun w H => List.mem_cons_of_mem _ (List.mem_append_left _ (List.mem_append_right _ H))) (hc := (rfl : vwCl[2]? = some (RX2, TX2, 12))) 0 1 (by decide) (List.mem_of_getElem? (i := 1) rfl) rfl rfl dX2_placesWith_6 ?_
      rw [hP]
      refine V.icmp_ge_f (tgt := 34) (by exact nI_ge (a := i) (b := np z) (by omega) (by omega)) dX2_placesWith_9 (by decide) ?_
      refine V.aload_n 2 rfl dX2_placesWith_12 rfl ?_
      refine V.get (v := .ref (b 4)) (fun w H => List.mem_cons_of_mem _ (List.mem_append_left _ (List.mem_append_right _ H))) (hc := (rfl : vwCl[2]? = some (RX2, TX2, 12))) 0 9 (by decide) (List.mem_of_getElem? (i := 2) rfl) rfl rfl dX2_placesWith_13 ?_
      refine V.iload_n 0 rfl dX2_placesWith_16 rfl ?_
      refine V.iconst (v := 2) dX2_placesWith_17 (by decide) ?_
      refine V.callVf (ws2 := SW g b z) (st2 := [.int ((sg z 76 120) (i * 5 + 2))]) [.int (nI i), .int 2] [] (kX3_at g (b 4) (b 5) 5 120 (sg z 76 120) i 2 (by first | omega | decide) (by first | omega | decide) (by first | omega | decide) (by first | omega | decide)) gX2_placesWith_X3_at rfl (by show _ ∧ _ ∧ _ ∧ _ = some (2 : Nat); decide +kernel) ⟨Nat.le_of_ble_eq_true rfl, Nat.le_of_ble_eq_true rfl⟩ (hc := (rfl : vwCl[3]? = some (RX3, TX3, 2))) 4 rfl [4, 5] (by decide) rfl rfl (Nat.le_of_ble_eq_true rfl) ⟨Nat.le_of_ble_eq_true rfl, Nat.le_of_ble_eq_true rfl⟩ dX2_placesWith_18 TWf rfl rfl rfl rfl ?_
      rw [sg_r (z := z) (o := 76) (n := 120) (r := i) (C := 5) (k := 2) (by omega)]
      refine V.iload_n 3 rfl dX2_placesWith_21 rfl ?_
      refine V.icmp_ne (tgt := 28) dX2_placesWith_22 (by decide) (fun c22 => ?_) (fun c22 => ?_)
      · skip
        refine V.iinc (v := nI (i + 1)) (lv2 := [(3, .int (nI (i + 1))), (2, .int c), (0, .ref (b 0)), (1, .int x)]) 0 rfl dX2_placesWith_28 (nI_add i 1) (by decide) rfl ?_
        refine V.goto (tgt := 4) dX2_placesWith_31 (by decide) ?_
        refine V.eqlv (lv2 := [(3, .int (nI (i + 1))), (2, .int c), (0, .ref (b 0)), (1, .int x)]) [0, 1, 2, 3] rfl ?_
        exact ih (i + 1) (c) (by omega) (by rw [← hfu, pTF, if_neg c22] <;> rw [Int32.add_zero])
      · skip
        refine V.iinc (v := c + 1) (lv2 := [(2, .int (c + 1)), (3, .int (nI i)), (0, .ref (b 0)), (1, .int x)]) 1 rfl dX2_placesWith_25 rfl (by decide) rfl ?_
        refine V.iinc (v := nI (i + 1)) (lv2 := [(3, .int (nI (i + 1))), (2, .int (c + 1)), (0, .ref (b 0)), (1, .int x)]) 1 rfl dX2_placesWith_28 (nI_add i 1) (by decide) rfl ?_
        refine V.goto (tgt := 4) dX2_placesWith_31 (by decide) ?_
        refine V.eqlv (lv2 := [(3, .int (nI (i + 1))), (2, .int (c + 1)), (0, .ref (b 0)), (1, .int x)]) [0, 1, 2, 3] rfl ?_
        exact ih (i + 1) (c + 1) (by omega) (by rw [← hfu, pTF, if_pos c22])
  refine V.eqlv (lv2 := [(3, .int 0), (2, .int 0), (0, .ref (b 0)), (1, .int x)]) [0, 1, 2, 3] rfl ?_
  exact L4 (np z) 0 0 (by omega) rfl
