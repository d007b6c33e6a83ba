abbrev rmX2_goTo : Room := { frames := 1, cells := 0, slots := 0, locals := 15 }
set_option maxHeartbeats 4000000 in
set_option maxRecDepth 100000 in
theorem kX2_goTo (g : GT) (b : Nat → Nat) (z : Nat → Int32) (x : Int32) (m : Int32) (hA : (if 0 ≤ x - z 9 then x - z 9 else 0 - (x - z 9)) = ap (z 9) x) : UC g yX2_goTo wsX2_goTo rmX2_goTo [.ref (b 0), .int x, .int m] (SW g b z) (Qf (none) (SW g b (gz z x m))) := by
  refine UC.ofV (cc := cX2_goTo) (maxL := 3) (ret := none) (lv0 := [(0, .ref (b 0)), (1, .int x), (2, .int m)]) (by decide) rfl (Nat.le_of_ble_eq_true rfl) rfl ?_
  generalize hQF : QFr g rmX2_goTo (Qf (none) (SW g b (gz z x m))) = QF
  have hq : QFok g rmX2_goTo (Qf (none) (SW g b (gz z x m))) QF := hQF ▸ QFr.q
  refine V.aload_n 0 rfl dX2_goTo_0 rfl ?_
  refine V.dup dX2_goTo_1 rfl ?_
  refine V.get (v := .int (z 7)) (fun w H => List.mem_cons_of_mem _ (List.mem_append_right _ H)) (hc := (rfl : vwCl[2]? = some (RX2, TX2, 12))) 0 2 (by decide) (List.mem_of_getElem? (i := 1) rfl) rfl rfl dX2_goTo_2 ?_
  refine V.iload_n 1 rfl dX2_goTo_5 rfl ?_
  refine V.aload_n 0 rfl dX2_goTo_6 rfl ?_
  refine V.get (v := .int (z 9)) (fun w H => List.mem_cons_of_mem _ (List.mem_append_right _ H)) (hc := (rfl : vwCl[2]? = some (RX2, TX2, 12))) 0 4 (by decide) (List.mem_of_getElem? (i := 2) rfl) rfl rfl dX2_goTo_7 ?_
  refine V.isub dX2_goTo_10 ?_
  refine V.mabs (by decide +kernel) (by decide +kernel) (by decide +kernel) (by decide +kernel) (Nat.le_of_ble_eq_true rfl) (Nat.le_of_ble_eq_true rfl) (Nat.le_of_ble_eq_true rfl) (Nat.le_of_ble_eq_true rfl) dX2_goTo_11 ?_
  rw [hA]
  refine V.iload_n 2 rfl dX2_goTo_14 rfl ?_
  refine V.iadd dX2_goTo_15 ?_
  refine V.iadd dX2_goTo_16 ?_
  refine V.put (v := .int ((z 7) + ((ap (z 9) x) + m))) (ws2 := SW g b (upd z 7 ((z 7) + ((ap (z 9) x) + m)))) (fun w H => List.mem_cons_of_mem _ (List.mem_append_right _ H)) tyX2 tyX2_ok nmX2 (hc := (rfl : vwCl[2]? = some (RX2, TX2, 12))) 0 2 (by decide) (List.mem_of_getElem? (i := 1) rfl) rfl rfl (tyX2_ok 2 (by decide)) rfl rfl (Nat.le_of_ble_eq_true rfl) (SW_7 (g := g) (b := b) (z := z) (v := (z 7) + ((ap (z 9) x) + m))) dX2_goTo_17 ?_
  refine V.aload_n 0 rfl dX2_goTo_20 rfl ?_
  refine V.iload_n 1 rfl dX2_goTo_21 rfl ?_
  refine V.put (v := .int x) (ws2 := SW g b (upd (upd z 7 ((z 7) + ((ap (z 9) x) + m))) 9 x)) (fun w H => List.mem_cons_of_mem _ (List.mem_append_right _ H)) tyX2 tyX2_ok nmX2 (hc := (rfl : vwCl[2]? = some (RX2, TX2, 12))) 0 4 (by decide) (List.mem_of_getElem? (i := 2) rfl) rfl rfl (tyX2_ok 4 (by decide)) rfl rfl (Nat.le_of_ble_eq_true rfl) (SW_9 (g := g) (b := b) (z := (upd z 7 ((z 7) + ((ap (z 9) x) + m)))) (v := x)) dX2_goTo_22 ?_
  exact V.vret hq XM.r (Nat.le_of_ble_eq_true rfl) (Nat.le_of_ble_eq_true rfl) ⟨rfl, rfl⟩ dX2_goTo_25
abbrev rmX2_drawPercent : Room := { frames := 0, cells := 0, slots := 0, locals := 0 }
set_option maxHeartbeats 4000000 in
set_option maxRecDepth 100000 in
theorem kX2_drawPercent (g : GT) (b : Nat → Nat) (z : Nat → Int32) (hN : nxI (z 8) = nx (z 8)) : UC g yX2_drawPercent wsX2_drawPercent rmX2_drawPercent [.ref (b 0)] (SW g b z) (Qf (some (.int (dv z 100))) (SW g b (dz z))) := by
  refine UC.ofV (cc := cX2_drawPercent) (maxL := 3) (ret := some .int) (lv0 := [(0, .ref (b 0))]) (by decide) rfl (Nat.le_of_ble_eq_true rfl) rfl ?_
  generalize hQF : QFr g rmX2_drawPercent (Qf (some (.int (dv z 100))) (SW g b (dz z))) = QF
  have hq : QFok g rmX2_drawPercent (Qf (some (.int (dv z 100))) (SW g b (dz z))) QF := hQF ▸ QFr.q
  refine V.ldc2 (v := 1103515245) (by decide +kernel) dX2_drawPercent_0 ?_
  refine V.aload_n 0 rfl dX2_drawPercent_3 rfl ?_
  refine V.get (v := .int (z 8)) (fun w H => List.mem_cons_of_mem _ (List.mem_append_right _ H)) (hc := (rfl : vwCl[2]? = some (RX2, TX2, 12))) 0 3 (by decide) (List.mem_of_getElem? (i := 2) rfl) rfl rfl dX2_drawPercent_4 ?_
  refine V.i2l dX2_drawPercent_7 ?_
  refine V.lmul dX2_drawPercent_8 ?_
  refine V.ldc2 (v := 12345) (by decide +kernel) dX2_drawPercent_9 ?_
  refine V.ladd dX2_drawPercent_12 ?_
  refine V.lstore_n (lv2 := [(1, .long (((1103515245 : Int64) * (Int32.toInt64 (z 8))) + (12345 : Int64))), (0, .ref (b 0))]) dX2_drawPercent_13 rfl (by decide) rfl ?_
  refine V.aload_n 1 rfl dX2_drawPercent_14 rfl ?_
  refine V.lload_n 0 rfl dX2_drawPercent_15 rfl ?_
  refine V.ldc2 (v := 2147483648) (by decide +kernel) dX2_drawPercent_16 ?_
  refine V.lrem dX2_drawPercent_19 (by decide) ?_
  refine V.l2i dX2_drawPercent_20 ?_
  rw [show (Int64.toInt32 ((((1103515245 : Int64) * (Int32.toInt64 (z 8))) + (12345 : Int64)) - (((1103515245 : Int64) * (Int32.toInt64 (z 8))) + (12345 : Int64)) / (2147483648 : Int64) * (2147483648 : Int64))) = nx (z 8) from hN]
  refine V.put (v := .int (nx (z 8))) (ws2 := SW g b (upd z 8 (nx (z 8)))) (fun w H => List.mem_cons_of_mem _ (List.mem_append_right _ H)) tyX2 tyX2_ok nmX2 (hc := (rfl : vwCl[2]? = some (RX2, TX2, 12))) 0 3 (by decide) (List.mem_of_getElem? (i := 2) rfl) rfl rfl (tyX2_ok 3 (by decide)) rfl rfl (Nat.le_of_ble_eq_true rfl) (SW_8 (g := g) (b := b) (z := z) (v := nx (z 8))) dX2_drawPercent_21 ?_
  refine V.aload_n 1 rfl dX2_drawPercent_24 rfl ?_
  refine V.get (v := .int ((upd z 8 (nx (z 8))) 8)) (fun w H => List.mem_cons_of_mem _ (List.mem_append_right _ H)) (hc := (rfl : vwCl[2]? = some (RX2, TX2, 12))) 0 3 (by decide) (List.mem_of_getElem? (i := 2) rfl) rfl rfl dX2_drawPercent_25 ?_
  refine V.ldci (v := 65536) (by decide +kernel) dX2_drawPercent_28 ?_
  refine V.idiv dX2_drawPercent_30 (by decide) ?_
  refine V.bipush (v := 100) dX2_drawPercent_31 (by decide) ?_
  refine V.irem dX2_drawPercent_33 (by decide) ?_
  exact V.iret hq XM.r (Nat.le_of_ble_eq_true rfl) (Nat.le_of_ble_eq_true rfl) ⟨rfl, rfl⟩ dX2_drawPercent_34
abbrev rmX2_blame : Room := { frames := 1, cells := 0, slots := 0, locals := 25 }
set_option maxHeartbeats 4000000 in
set_option maxRecDepth 100000 in
theorem kX2_blame (g : GT) (b : Nat → Nat) (z : Nat → Int32) (n : Nat) (f : Nat) (hn : n < 4) (hf : f < 8) (hB : (if z (216 + 8 * n + f) - z 1 < 0 then 0 else z (216 + 8 * n + f) - z 1) = cl (z (216 + 8 * n + f) + -(z 1))) : UC g yX2_blame wsX2_blame rmX2_blame [.ref (b 0), .int (nI n), .int (nI f)] (SW g b z) (Qf (none) (SW g b (tM z n f (-(z 1))))) := by
  refine UC.ofV (cc := cX2_blame) (maxL := 4) (ret := none) (lv0 := [(0, .ref (b 0)), (1, .int (nI n)), (2, .int (nI f))]) (by decide) rfl (Nat.le_of_ble_eq_true rfl) rfl ?_
  generalize hQF : QFr g rmX2_blame (Qf (none) (SW g b (tM z n f (-(z 1))))) = QF
  have hq : QFok g rmX2_blame (Qf (none) (SW g b (tM z n f (-(z 1))))) QF := hQF ▸ QFr.q
  refine V.aload_n 0 rfl dX2_blame_0 rfl ?_
  refine V.get (v := .ref (b 8)) (fun w H => List.mem_cons_of_mem _ (List.mem_append_left _ (List.mem_append_right _ H))) (hc := (rfl : vwCl[2]? = some (RX2, TX2, 12))) 0 11 (by decide) (List.mem_of_getElem? (i := 1) rfl) rfl rfl dX2_blame_1 ?_
  refine V.iload_n 1 rfl dX2_blame_4 rfl ?_
  refine V.iload_n 2 rfl dX2_blame_5 rfl ?_
  refine V.callVf (ws2 := SW g b z) (st2 := [.int ((sg z 216 32) (n * 8 + f))]) [.int (nI n), .int (nI f)] [] (kX3_at g (b 8) (b 9) 8 32 (sg z 216 32) n f (by first | omega | decide) (by first | omega | decide) (by first | omega | decide) (by first | omega | decide)) gX2_blame_X3_at rfl (by show _ ∧ _ ∧ _ ∧ _ = some (2 : Nat); decide +kernel) ⟨Nat.le_of_ble_eq_true rfl, Nat.le_of_ble_eq_true rfl⟩ (hc := (rfl : vwCl[3]? = some (RX3, TX3, 2))) 8 rfl [8, 9] (by decide) rfl rfl (Nat.le_of_ble_eq_true rfl) ⟨Nat.le_of_ble_eq_true rfl, Nat.le_of_ble_eq_true rfl⟩ dX2_blame_6 TWf rfl rfl rfl rfl ?_
  rw [sg_r (z := z) (o := 216) (n := 32) (r := n) (C := 8) (k := f) (by omega)]
  refine V.aload_n 0 rfl dX2_blame_9 rfl ?_
  refine V.get (v := .ref (b 1)) (fun w H => List.mem_cons_of_mem _ (List.mem_append_left _ (List.mem_append_right _ H))) (hc := (rfl : vwCl[2]? = some (RX2, TX2, 12))) 0 7 (by decide) (List.mem_of_getElem? (i := 2) rfl) rfl rfl dX2_blame_10 ?_
  refine V.iconst (v := 1) dX2_blame_13 (by decide) ?_
  refine V.iald (f := sg z 0 5) 1 1 rfl rfl (by decide) (by decide) dX2_blame_14 ?_
  rw [show (sg z 0 5) 1 = z 1 from sg_a (by omega)]
  refine V.isub dX2_blame_15 ?_
  refine V.istore_n (lv2 := [(3, .int ((z (216 + 8 * n + f)) - (z 1))), (0, .ref (b 0)), (1, .int (nI n)), (2, .int (nI f))]) dX2_blame_16 rfl (by decide) rfl ?_
  refine V.aload_n 1 rfl dX2_blame_17 rfl ?_
  refine V.get (v := .ref (b 8)) (fun w H => List.mem_cons_of_mem _ (List.mem_append_left _ (List.mem_append_right _ H))) (hc := (rfl : vwCl[2]? = some (RX2, TX2, 12))) 0 11 (by decide) (List.mem_of_getElem? (i := 1) rfl) rfl rfl dX2_blame_18 ?_
  refine V.iload_n 2 rfl dX2_blame_21 rfl ?_
  refine V.iload_n 3 rfl dX2_blame_22 rfl ?_
  refine V.iload_n 0 rfl dX2_blame_23 rfl ?_
  refine V.iconst (v := 0) dX2_blame_24 (by decide) ?_
  refine V.mmax (by decide +kernel) (by decide +kernel) (by decide +kernel) (by decide +kernel) (Nat.le_of_ble_eq_true rfl) (Nat.le_of_ble_eq_true rfl) (Nat.le_of_ble_eq_true rfl) (Nat.le_of_ble_eq_true rfl) dX2_blame_25 ?_
  refine V.callVf (ws2 := SW g b (upd z (216 + 8 * n + f) (if (z (216 + 8 * n + f)) - (z 1) < 0 then 0 else (z (216 + 8 * n + f)) - (z 1)))) (st2 := []) [.int (nI n), .int (nI f), .int (if (z (216 + 8 * n + f)) - (z 1) < 0 then 0 else (z (216 + 8 * n + f)) - (z 1))] [] (kX3_put g (b 8) (b 9) 8 32 (sg z 216 32) n f (if (z (216 + 8 * n + f)) - (z 1) < 0 then 0 else (z (216 + 8 * n + f)) - (z 1)) (by first | omega | decide) (by first | omega | decide) (by first | omega | decide) (by first | omega | decide)) gX2_blame_X3_put rfl (by show _ ∧ _ ∧ _ ∧ _ = some (3 : Nat); decide +kernel) ⟨Nat.le_of_ble_eq_true rfl, Nat.le_of_ble_eq_true rfl⟩ (hc := (rfl : vwCl[3]? = some (RX3, TX3, 2))) 8 rfl [8, 9] (by decide) rfl rfl (Nat.le_of_ble_eq_true rfl) ⟨Nat.le_of_ble_eq_true rfl, Nat.le_of_ble_eq_true rfl⟩ dX2_blame_28 TWf (SW_t (g := g) (b := b) (z := z) (v := (if (z (216 + 8 * n + f)) - (z 1) < 0 then 0 else (z (216 + 8 * n + f)) - (z 1))) (r := n) (k := f) (by omega)) rfl rfl rfl ?_
  exact V.vret hq XM.r (Nat.le_of_ble_eq_true rfl) (Nat.le_of_ble_eq_true rfl) ⟨rfl, by rw [← tM_eq hB]⟩ dX2_blame_31
abbrev rmX2_praise : Room := { frames := 1, cells := 0, slots := 0, locals := 25 }
set_option maxHeartbeats 4000000 in
set_option maxRecDepth 100000 in
theorem kX2_praise (g : GT) (b : Nat → Nat) (z : Nat → Int32) (n : Nat) (f : Nat) (hn : n < 4) (hf : f < 8) (hB : (if 100 < z (216 + 8 * n + f) + z 2 then 100 else z (216 + 8 * n + f) + z 2) = cl (z (216 + 8 * n + f) + z 2)) : UC g yX2_praise wsX2_praise rmX2_praise [.ref (b 0), .int (nI n), .int (nI f)] (SW g b z) (Qf (none) (SW g b (tM z n f (z 2)))) := by
  refine UC.ofV (cc := cX2_praise) (maxL := 4) (ret := none) (lv0 := [(0, .ref (b 0)), (1, .int (nI n)), (2, .int (nI f))]) (by decide) rfl (Nat.le_of_ble_eq_true rfl) rfl ?_
  generalize hQF : QFr g rmX2_praise (Qf (none) (SW g b (tM z n f (z 2)))) = QF
  have hq : QFok g rmX2_praise (Qf (none) (SW g b (tM z n f (z 2)))) QF := hQF ▸ QFr.q
  refine V.aload_n 0 rfl dX2_praise_0 rfl ?_
  refine V.get (v := .ref (b 8)) (fun w H => List.mem_cons_of_mem _ (List.mem_append_left _ (List.mem_append_right _ H))) (hc := (rfl : vwCl[2]? = some (RX2, TX2, 12))) 0 11 (by decide) (List.mem_of_getElem? (i := 1) rfl) rfl rfl dX2_praise_1 ?_
  refine V.iload_n 1 rfl dX2_praise_4 rfl ?_
  refine V.iload_n 2 rfl dX2_praise_5 rfl ?_
  refine V.callVf (ws2 := SW g b z) (st2 := [.int ((sg z 216 32) (n * 8 + f))]) [.int (nI n), .int (nI f)] [] (kX3_at g (b 8) (b 9) 8 32 (sg z 216 32) n f (by first | omega | decide) (by first | omega | decide) (by first | omega | decide) (by first | omega | decide)) gX2_praise_X3_at rfl (by show _ ∧ _ ∧ _ ∧ _ = some (2 : Nat); decide +kernel) ⟨Nat.le_of_ble_eq_true rfl, Nat.le_of_ble_eq_true rfl⟩ (hc := (rfl : vwCl[3]? = some (RX3, TX3, 2))) 8 rfl [8, 9] (by decide) rfl rfl (Nat.le_of_ble_eq_true rfl) ⟨Nat.le_of_ble_eq_true rfl, Nat.le_of_ble_eq_true rfl⟩ dX2_praise_6 TWf rfl rfl rfl rfl ?_
  rw [sg_r (z := z) (o := 216) (n := 32) (r := n) (C := 8) (k := f) (by omega)]
  refine V.aload_n 0 rfl dX2_praise_9 rfl ?_
  refine V.get (v := .ref (b 1)) (fun w H => List.mem_cons_of_mem _ (List.mem_append_left _ (List.mem_append_right _ H))) (hc := (rfl : vwCl[2]? = some (RX2, TX2, 12))) 0 7 (by decide) (List.mem_of_getElem? (i := 2) rfl) rfl rfl dX2_praise_10 ?_
  refine V.iconst (v := 2) dX2_praise_13 (by decide) ?_
  refine V.iald (f := sg z 0 5) 1 2 rfl rfl (by decide) (by decide) dX2_praise_14 ?_
  rw [show (sg z 0 5) 2 = z 2 from sg_a (by omega)]
  refine V.iadd dX2_praise_15 ?_
  refine V.istore_n (lv2 := [(3, .int ((z (216 + 8 * n + f)) + (z 2))), (0, .ref (b 0)), (1, .int (nI n)), (2, .int (nI f))]) dX2_praise_16 rfl (by decide) rfl ?_
  refine V.aload_n 1 rfl dX2_praise_17 rfl ?_
  refine V.get (v := .ref (b 8)) (fun w H => List.mem_cons_of_mem _ (List.mem_append_left _ (List.mem_append_right _ H))) (hc := (rfl : vwCl[2]? = some (RX2, TX2, 12))) 0 11 (by decide) (List.mem_of_getElem? (i := 1) rfl) rfl rfl dX2_praise_18 ?_
  refine V.iload_n 2 rfl dX2_praise_21 rfl ?_
  refine V.iload_n 3 rfl dX2_praise_22 rfl ?_
  refine V.iload_n 0 rfl dX2_praise_23 rfl ?_
  refine V.bipush (v := 100) dX2_praise_24 (by decide) ?_
  refine V.mmin (by decide +kernel) (by decide +kernel) (by decide +kernel) (by decide +kernel) (Nat.le_of_ble_eq_true rfl) (Nat.le_of_ble_eq_true rfl) (Nat.le_of_ble_eq_true rfl) (Nat.le_of_ble_eq_true rfl) dX2_praise_26 ?_
  refine V.callVf (ws2 := SW g b (upd z (216 + 8 * n + f) (if 100 < (z (216 + 8 * n + f)) + (z 2) then 100 else (z (216 + 8 * n + f)) + (z 2)))) (st2 := []) [.int (nI n), .int (nI f), .int (if 100 < (z (216 + 8 * n + f)) + (z 2) then 100 else (z (216 + 8 * n + f)) + (z 2))] [] (kX3_put g (b 8) (b 9) 8 32 (sg z 216 32) n f (if 100 < (z (216 + 8 * n + f)) + (z 2) then 100 else (z (216 + 8 * n + f)) + (z 2)) (by first | omega | decide) (by first | omega | decide) (by first | omega | decide) (by first | omega | decide)) gX2_praise_X3_put rfl (by show _ ∧ _ ∧ _ ∧ _ = some (3 : Nat); decide +kernel) ⟨Nat.le_of_ble_eq_true rfl, Nat.le_of_ble_eq_true rfl⟩ (hc := (rfl : vwCl[3]? = some (RX3, TX3, 2))) 8 rfl [8, 9] (by decide) rfl rfl (Nat.le_of_ble_eq_true rfl) ⟨Nat.le_of_ble_eq_true rfl, Nat.le_of_ble_eq_true rfl⟩ dX2_praise_29 TWf (SW_t (g := g) (b := b) (z := z) (v := (if 100 < (z (216 + 8 * n + f)) + (z 2) then 100 else (z (216 + 8 * n + f)) + (z 2))) (r := n) (k := f) (by omega)) rfl rfl rfl ?_
  exact V.vret hq XM.r (Nat.le_of_ble_eq_true rfl) (Nat.le_of_ble_eq_true rfl) ⟨rfl, by rw [← tM_eq hB]⟩ dX2_praise_32
abbrev rmX2_newPlace : Room := { frames := 2, cells := 0, slots := 0, locals := 46 }
set_option maxHeartbeats 4000000 in
set_option maxRecDepth 100000 in
theorem kX2_newPlace (g : GT) (b : Nat → Nat) (z : Nat → Int32) (x : Int32) (k : Int32) (hP : z 6 = nI (np z)) (hP24 : np z < 24) (hz : upd (emz (upd (upd z (76 + 5 * np z + 0) x) (76 + 5 * np z + 1) k) (np z)) 6 (emz (upd (upd z (76 + 5 * np z + 0) x) (76 + 5 * np z + 1) k) (np z) 6 + 1) = apA z x k) : UC g yX2_newPlace wsX2_newPlace rmX2_newPlace [.ref (b 0), .int x, .int k] (SW g b z) (Qf (some (.int (nI (np z)))) (SW g b (apA z x k))) := by
  refine UC.ofV (cc := cX2_newPlace) (maxL := 4) (ret := some .int) (lv0 := [(0, .ref (b 0)), (1, .int x), (2, .int k)]) (by decide) rfl (Nat.le_of_ble_eq_true rfl) rfl ?_
  generalize hQF : QFr g rmX2_newPlace (Qf (some (.int (nI (np z)))) (SW g b (apA z x k))) = QF
  have hq : QFok g rmX2_newPlace (Qf (some (.int (nI (np z)))) (SW g b (apA z x k))) QF := hQF ▸ QFr.q
  refine V.aload_n 0 rfl dX2_newPlace_0 rfl ?_
  refine V.get (v := .int (z 6)) (fun w H => List.mem_cons_of_mem _ (List.mem_append_left _ (List.mem_append_right _ H))) (hc := (rfl : vwCl[2]? = some (RX2, TX2, 12))) 0 1 (by decide) (List.mem_of_getElem? (i := 1) rfl) rfl rfl dX2_newPlace_1 ?_
  rw [hP]
  refine V.istore_n (lv2 := [(3, .int (nI (np z))), (0, .ref (b 0)), (1, .int x), (2, .int k)]) dX2_newPlace_4 rfl (by decide) rfl ?_
  refine V.aload_n 1 rfl dX2_newPlace_5 rfl ?_
  refine V.get (v := .ref (b 4)) (fun w H => List.mem_cons_of_mem _ (List.mem_append_left _ (List.mem_append_right _ H))) (hc := (rfl : vwCl[2]? = some (RX2, TX2, 12))) 0 9 (by decide) (List.mem_of_getElem? (i := 2) rfl) rfl rfl dX2_newPlace_6 ?_
  refine V.iload_n 0 rfl dX2_newPlace_9 rfl ?_
  refine V.iconst (v := 0) dX2_newPlace_10 (by decide) ?_
  refine V.iload_n 2 rfl dX2_newPlace_11 rfl ?_
  refine V.callVf (ws2 := SW g b (upd z (76 + 5 * (np z) + 0) x)) (st2 := []) [.int (nI (np z)), .int 0, .int x] [] (kX3_put g (b 4) (b 5) 5 120 (sg z 76 120) (np z) 0 x (by first | omega | decide) (by first | omega | decide) (by first | omega | decide) (by first | omega | decide)) gX2_newPlace_X3_put rfl (by show _ ∧ _ ∧ _ ∧ _ = some (3 : Nat); decide +kernel) ⟨Nat.le_of_ble_eq_true rfl, Nat.le_of_ble_eq_true rfl⟩ (hc := (rfl : vwCl[3]? = some (RX3, TX3, 2))) 4 rfl [4, 5] (by decide) rfl rfl (Nat.le_of_ble_eq_true rfl) ⟨Nat.le_of_ble_eq_true rfl, Nat.le_of_ble_eq_true rfl⟩ dX2_newPlace_12 TWf (SW_p (g := g) (b := b) (z := z) (v := x) (r := (np z)) (k := 0) (by omega)) rfl rfl rfl ?_
  refine V.aload_n 1 rfl dX2_newPlace_15 rfl ?_
  refine V.get (v := .ref (b 4)) (fun w H => List.mem_cons_of_mem _ (List.mem_append_left _ (List.mem_append_right _ H))) (hc := (rfl : vwCl[2]? = some (RX2, TX2, 12))) 0 9 (by decide) (List.mem_of_getElem? (i := 2) rfl) rfl rfl dX2_newPlace_16 ?_
  refine V.iload_n 0 rfl dX2_newPlace_19 rfl ?_
  refine V.iconst (v := 1) dX2_newPlace_20 (by decide) ?_
  refine V.iload_n 3 rfl dX2_newPlace_21 rfl ?_
  refine V.callVf (ws2 := SW g b (upd (upd z (76 + 5 * (np z) + 0) x) (76 + 5 * (np z) + 1) k)) (st2 := []) [.int (nI (np z)), .int 1, .int k] [] (kX3_put g (b 4) (b 5) 5 120 (sg (upd z (76 + 5 * (np z) + 0) x) 76 120) (np z) 1 k (by first | omega | decide) (by first | omega | decide) (by first | omega | decide) (by first | omega | decide)) gX2_newPlace_X3_put rfl (by show _ ∧ _ ∧ _ ∧ _ = some (3 : Nat); decide +kernel) ⟨Nat.le_of_ble_eq_true rfl, Nat.le_of_ble_eq_true rfl⟩ (hc := (rfl : vwCl[3]? = some (RX3, TX3, 2))) 4 rfl [4, 5] (by decide) rfl rfl (Nat.le_of_ble_eq_true rfl) ⟨Nat.le_of_ble_eq_true rfl, Nat.le_of_ble_eq_true rfl⟩ dX2_newPlace_22 TWf (SW_p (g := g) (b := b) (z := (upd z (76 + 5 * (np z) + 0) x)) (v := k) (r := (np z)) (k := 1) (by omega)) rfl rfl rfl ?_
  refine V.aload_n 1 rfl dX2_newPlace_25 rfl ?_
  refine V.iload_n 0 rfl dX2_newPlace_26 rfl ?_
  refine V.callVf (ws2 := SW g b (emz (upd (upd z (76 + 5 * (np z) + 0) x) (76 + 5 * (np z) + 1) k) (np z))) (st2 := []) [.int (nI (np z))] [] (kX2_emptyPlace g b (upd (upd z (76 + 5 * (np z) + 0) x) (76 + 5 * (np z) + 1) k) (np z) (by first | omega | decide)) gX2_newPlace_X2_emptyPlace rfl (by show _ ∧ _ ∧ _ ∧ _ = some (1 : Nat); decide +kernel) ⟨Nat.le_of_ble_eq_true rfl, Nat.le_of_ble_eq_true rfl⟩ (hc := (rfl : vwCl[2]? = some (RX2, TX2, 12))) 0 rfl [0, 1, 2, 3, 4, 5, 6, 7, 8, 9] (by decide) rfl rfl (Nat.le_of_ble_eq_true rfl) ⟨Nat.le_of_ble_eq_true rfl, Nat.le_of_ble_eq_true rfl⟩ dX2_newPlace_27 rfl rfl rfl rfl rfl ?_
  refine V.aload_n 1 rfl dX2_newPlace_30 rfl ?_
  refine V.dup dX2_newPlace_31 rfl ?_
  refine V.get (v := .int ((emz (upd (upd z (76 + 5 * (np z) + 0) x) (76 + 5 * (np z) + 1) k) (np z)) 6)) (fun w H => List.mem_cons_of_mem _ (List.mem_append_left _ (List.mem_append_right _ H))) (hc := (rfl : vwCl[2]? = some (RX2, TX2, 12))) 0 1 (by decide) (List.mem_of_getElem? (i := 1) rfl) rfl rfl dX2_newPlace_32 ?_
  refine V.iconst (v := 1) dX2_newPlace_35 (by decide) ?_
  refine V.iadd dX2_newPlace_36 ?_
  refine V.put (v := .int (((emz (upd (upd z (76 + 5 * (np z) + 0) x) (76 + 5 * (np z) + 1) k) (np z)) 6) + 1)) (ws2 := SW g b (upd (emz (upd (upd z (76 + 5 * (np z) + 0) x) (76 + 5 * (np z) + 1) k) (np z)) 6 (((emz (upd (upd z (76 + 5 * (np z) + 0) x) (76 + 5 * (np z) + 1) k) (np z)) 6) + 1))) (fun w H => List.mem_cons_of_mem _ (List.mem_append_left _ (List.mem_append_right _ H))) tyX2 tyX2_ok nmX2 (hc := (rfl : vwCl[2]? = some (RX2, TX2, 12))) 0 1 (by decide) (List.mem_of_getElem? (i := 1) rfl) rfl rfl (tyX2_ok 1 (by decide)) rfl rfl (Nat.le_of_ble_eq_true rfl) (SW_6 (g := g) (b := b) (z := (emz (upd (upd z (76 + 5 * (np z) + 0) x) (76 + 5 * (np z) + 1) k) (np z))) (v := ((emz (upd (upd z (76 + 5 * (np z) + 0) x) (76 + 5 * (np z) + 1) k) (np z)) 6) + 1)) dX2_newPlace_37 ?_
  refine V.iload_n 0 rfl dX2_newPlace_40 rfl ?_
  exact V.iret hq XM.r (Nat.le_of_ble_eq_true rfl) (Nat.le_of_ble_eq_true rfl) ⟨rfl, by rw [hz]⟩ dX2_newPlace_41
abbrev rmX2_isBetter : Room := { frames := 1, cells := 0, slots := 0, locals := 24 }
set_option maxHeartbeats 4000000 in
set_option maxRecDepth 100000 in
theorem kX2_isBetter (g : GT) (b : Nat → Nat) (z : Nat → Int32) (n : Nat) (f : Nat) (t : Nat) (hn : n < 4) (hf : f < 8) (ht : t < 8) (hA : ABF z) : UC g yX2_isBetter wsX2_isBetter rmX2_isBetter [.ref (b 0), .int (nI n), .int (nI f), .int (nI t)] (SW g b z) (Qf (some (.int (bi (bt z n f t)))) (SW g b z)) := by
  refine UC.ofV (cc := cX2_isBetter) (maxL := 5) (ret := some .boolean) (lv0 := [(0, .ref (b 0)), (1, .int (nI n)), (2, .int (nI f)), (3, .int (nI t))]) (by decide) rfl (Nat.le_of_ble_eq_true rfl) rfl ?_
  generalize hQF : QFr g rmX2_isBetter (Qf (some (.int (bi (bt z n f t)))) (SW g b z)) = QF
  have hq : QFok g rmX2_isBetter (Qf (some (.int (bi (bt z n f t)))) (SW g b z)) QF := hQF ▸ QFr.q
  refine V.aload_n 0 rfl dX2_isBetter_0 rfl ?_
  refine V.get (v := .ref (b 8)) (fun w H => List.mem_cons_of_mem _ (List.mem_append_left _ (List.mem_append_right _ H))) (hc := (rfl : vwCl[2]? = some (RX2, TX2, 12))) 0 11 (by decide) (List.mem_of_getElem? (i := 1) rfl) rfl rfl dX2_isBetter_1 ?_
  refine V.iload_n 1 rfl dX2_isBetter_4 rfl ?_
  refine V.iload_n 2 rfl dX2_isBetter_5 rfl ?_
  refine V.callVf (ws2 := SW g b z) (st2 := [.int ((sg z 216 32) (n * 8 + f))]) [.int (nI n), .int (nI f)] [] (kX3_at g (b 8) (b 9) 8 32 (sg z 216 32) n f (by first | omega | decide) (by first | omega | decide) (by first | omega | decide) (by first | omega | decide)) gX2_isBetter_X3_at rfl (by show _ ∧ _ ∧ _ ∧ _ = some (2 : Nat); decide +kernel) ⟨Nat.le_of_ble_eq_true rfl, Nat.le_of_ble_eq_true rfl⟩ (hc := (rfl : vwCl[3]? = some (RX3, TX3, 2))) 8 rfl [8, 9] (by decide) rfl rfl (Nat.le_of_ble_eq_true rfl) ⟨Nat.le_of_ble_eq_true rfl, Nat.le_of_ble_eq_true rfl⟩ dX2_isBetter_6 TWf rfl rfl rfl rfl ?_
  rw [sg_r (z := z) (o := 216) (n := 32) (r := n) (C := 8) (k := f) (by omega)]
  refine V.aload_n 0 rfl dX2_isBetter_9 rfl ?_
  refine V.get (v := .ref (b 8)) (fun w H => List.mem_cons_of_mem _ (List.mem_append_left _ (List.mem_append_right _ H))) (hc := (rfl : vwCl[2]? = some (RX2, TX2, 12))) 0 11 (by decide) (List.mem_of_getElem? (i := 1) rfl) rfl rfl dX2_isBetter_10 ?_
  refine V.iload_n 1 rfl dX2_isBetter_13 rfl ?_
  refine V.iload_n 3 rfl dX2_isBetter_14 rfl ?_
  refine V.callVf (ws2 := SW g b z) (st2 := [.int ((sg z 216 32) (n * 8 + t)), .int (z (216 + 8 * n + f))]) [.int (nI n), .int (nI t)] [.int (z (216 + 8 * n + f))] (kX3_at g (b 8) (b 9) 8 32 (sg z 216 32) n t (by first | omega | decide) (by first | omega | decide) (by first | omega | decide) (by first | omega | decide)) gX2_isBetter_X3_at rfl (by show _ ∧ _ ∧ _ ∧ _ = some (2 : Nat); decide +kernel) ⟨Nat.le_of_ble_eq_true rfl, Nat.le_of_ble_eq_true rfl⟩ (hc := (rfl : vwCl[3]? = some (RX3, TX3, 2))) 8 rfl [8, 9] (by decide) rfl rfl (Nat.le_of_ble_eq_true rfl) ⟨Nat.le_of_ble_eq_true rfl, Nat.le_of_ble_eq_true rfl⟩ dX2_isBetter_15 TWf rfl rfl rfl rfl ?_
  rw [sg_r (z := z) (o := 216) (n := 32) (r := n) (C := 8) (k := t) (by omega)]
  refine V.isub dX2_isBetter_18 ?_
  refine V.istore (lv2 := [(4, .int ((z (216 + 8 * n + f)) - (z (216 + 8 * n + t)))), (0, .ref (b 0)), (1, .int (nI n)), (2, .int (nI f)), (3, .int (nI t))]) dX2_isBetter_19 (by decide) rfl ?_
  refine V.iload 0 rfl dX2_isBetter_21 ?_
  refine V.if_eq (tgt := 37) dX2_isBetter_23 (by decide) (fun c23 => ?_) (fun c23 => ?_)
  · skip
    refine V.aload_n 1 rfl dX2_isBetter_37 rfl ?_
    refine V.get (v := .ref (b 2)) (fun w H => List.mem_cons_of_mem _ (List.mem_append_left _ (List.mem_append_right _ H))) (hc := (rfl : vwCl[2]? = some (RX2, TX2, 12))) 0 8 (by decide) (List.mem_of_getElem? (i := 2) rfl) rfl rfl dX2_isBetter_38 ?_
    refine V.iload_n 3 rfl dX2_isBetter_41 rfl ?_
    refine V.iconst (v := 0) dX2_isBetter_42 (by decide) ?_
    refine V.callVf (ws2 := SW g b z) (st2 := [.int ((sg z 12 64) (f * 8 + 0))]) [.int (nI f), .int 0] [] (kX3_at g (b 2) (b 3) 8 64 (sg z 12 64) f 0 (by first | omega | decide) (by first | omega | decide) (by first | omega | decide) (by first | omega | decide)) gX2_isBetter_X3_at rfl (by show _ ∧ _ ∧ _ ∧ _ = some (2 : Nat); decide +kernel) ⟨Nat.le_of_ble_eq_true rfl, Nat.le_of_ble_eq_true rfl⟩ (hc := (rfl : vwCl[3]? = some (RX3, TX3, 2))) 2 rfl [2, 3] (by decide) rfl rfl (Nat.le_of_ble_eq_true rfl) ⟨Nat.le_of_ble_eq_true rfl, Nat.le_of_ble_eq_true rfl⟩ dX2_isBetter_43 TWf rfl rfl rfl rfl ?_
    rw [sg_r (z := z) (o := 12) (n := 64) (r := f) (C := 8) (k := 0) (by omega)]
    refine V.aload_n 1 rfl dX2_isBetter_46 rfl ?_
    refine V.get (v := .int (z 9)) (fun w H => List.mem_cons_of_mem _ (List.mem_append_left _ (List.mem_append_right _ H))) (hc := (rfl : vwCl[2]? = some (RX2, TX2, 12))) 0 4 (by decide) (List.mem_of_getElem? (i := 3) rfl) rfl rfl dX2_isBetter_47 ?_
    refine V.isub dX2_isBetter_50 ?_
    refine V.mabs (by decide +kernel) (by decide +kernel) (by decide +kernel) (by decide +kernel) (Nat.le_of_ble_eq_true rfl) (Nat.le_of_ble_eq_true rfl) (Nat.le_of_ble_eq_true rfl) (Nat.le_of_ble_eq_true rfl) dX2_isBetter_51 ?_
    rw [hA f hf]
    refine V.aload_n 1 rfl dX2_isBetter_54 rfl ?_
    refine V.get (v := .ref (b 2)) (fun w H => List.mem_cons_of_mem _ (List.mem_append_left _ (List.mem_append_right _ H))) (hc := (rfl : vwCl[2]? = some (RX2, TX2, 12))) 0 8 (by decide) (List.mem_of_getElem? (i := 2) rfl) rfl rfl dX2_isBetter_55 ?_
    refine V.iload_n 4 rfl dX2_isBetter_58 rfl ?_
    refine V.iconst (v := 0) dX2_isBetter_59 (by decide) ?_
    refine V.callVf (ws2 := SW g b z) (st2 := [.int ((sg z 12 64) (t * 8 + 0)), .int (ap (z (12 + 8 * f + 0)) (z 9))]) [.int (nI t), .int 0] [.int (ap (z (12 + 8 * f + 0)) (z 9))] (kX3_at g (b 2) (b 3) 8 64 (sg z 12 64) t 0 (by first | omega | decide) (by first | omega | decide) (by first | omega | decide) (by first | omega | decide)) gX2_isBetter_X3_at rfl (by show _ ∧ _ ∧ _ ∧ _ = some (2 : Nat); decide +kernel) ⟨Nat.le_of_ble_eq_true rfl, Nat.le_of_ble_eq_true rfl⟩ (hc := (rfl : vwCl[3]? = some (RX3, TX3, 2))) 2 rfl [2, 3] (by decide) rfl rfl (Nat.le_of_ble_eq_true rfl) ⟨Nat.le_of_ble_eq_true rfl, Nat.le_of_ble_eq_true rfl⟩ dX2_isBetter_60 TWf rfl rfl rfl rfl ?_
    rw [sg_r (z := z) (o := 12) (n := 64) (r := t) (C := 8) (k := 0) (by omega)]
    refine V.aload_n 1 rfl dX2_isBetter_63 rfl ?_
    refine V.get (v := .int (z 9)) (fun w H => List.mem_cons_of_mem _ (List.mem_append_left _ (List.mem_append_right _ H))) (hc := (rfl : vwCl[2]? = some (RX2, TX2, 12))) 0 4 (by decide) (List.mem_of_getElem? (i := 3) rfl) rfl rfl dX2_isBetter_64 ?_
    refine V.isub dX2_isBetter_67 ?_
    refine V.mabs (by decide +kernel) (by decide +kernel) (by decide +kernel) (by decide +kernel) (Nat.le_of_ble_eq_true rfl) (Nat.le_of_ble_eq_true rfl) (Nat.le_of_ble_eq_true rfl) (Nat.le_of_ble_eq_true rfl) dX2_isBetter_68 ?_
    rw [hA t ht]
    refine V.icmp_ge (tgt := 78) dX2_isBetter_71 (by decide) (fun c71 => ?_) (fun c71 => ?_)
    · skip
      refine V.iconst (v := 0) dX2_isBetter_78 (by decide) ?_
      exact V.zret hq XM.r rfl (Nat.le_of_ble_eq_true rfl) (Nat.le_of_ble_eq_true rfl) ⟨by rw [bt, c23, decide_eq_true c71] <;> rfl, rfl⟩ dX2_isBetter_79
    · skip
      refine V.iconst (v := 1) dX2_isBetter_74 (by decide) ?_
      refine V.goto (tgt := 79) dX2_isBetter_75 (by decide) ?_
      exact V.zret hq XM.r rfl (Nat.le_of_ble_eq_true rfl) (Nat.le_of_ble_eq_true rfl) ⟨by rw [bt, c23, decide_eq_false c71] <;> rfl, rfl⟩ dX2_isBetter_79
  · skip
    refine V.iload 0 rfl dX2_isBetter_26 ?_
    refine V.if_le (tgt := 35) dX2_isBetter_28 (by decide) (fun c28 => ?_) (fun c28 => ?_)
    · skip
      have c28 := Int32.not_lt.mpr c28
      refine V.iconst (v := 0) dX2_isBetter_35 (by decide) ?_
      exact V.zret hq XM.r rfl (Nat.le_of_ble_eq_true rfl) (Nat.le_of_ble_eq_true rfl) ⟨by rw [bt, decide_eq_false c28, decide_eq_false c23, Bool.false_and, Bool.false_or] <;> rfl, rfl⟩ dX2_isBetter_36
    · skip
      have c28 := Int32.not_le.mp c28
      refine V.iconst (v := 1) dX2_isBetter_31 (by decide) ?_
      refine V.goto (tgt := 36) dX2_isBetter_32 (by decide) ?_
      exact V.zret hq XM.r rfl (Nat.le_of_ble_eq_true rfl) (Nat.le_of_ble_eq_true rfl) ⟨by rw [bt, decide_eq_true c28, Bool.true_or] <;> rfl, rfl⟩ dX2_isBetter_36
abbrev rmX2_favorite : Room := { frames := 2, cells := 0, slots := 0, locals := 48 }
set_option maxHeartbeats 4000000 in
set_option maxRecDepth 100000 in
theorem kX2_favorite (g : GT) (b : Nat → Nat) (z : Nat → Int32) (n : Nat) (kd : Int32) (hn : n < 4) (hF : z 5 = nI (nf z)) (hF8 : nf z ≤ 8) (hA : ABF z) : UC g yX2_favorite wsX2_favorite rmX2_favorite [.ref (b 0), .int (nI n), .int kd] (SW g b z) (Qf (some (.int (en (cho z n kd)))) (SW g b z)) := by
  refine UC.ofV (cc := cX2_favorite) (maxL := 6) (ret := some .int) (lv0 := [(0, .ref (b 0)), (1, .int (nI n)), (2, .int kd)]) (by decide) rfl (Nat.le_of_ble_eq_true rfl) rfl ?_
  generalize hQF : QFr g rmX2_favorite (Qf (some (.int (en (cho z n kd)))) (SW g b z)) = QF
  have hq : QFok g rmX2_favorite (Qf (some (.int (en (cho z n kd)))) (SW g b z)) QF := hQF ▸ QFr.q
  refine V.iconst (v := -1) dX2_favorite_0 (by decide) ?_
  refine V.istore_n (lv2 := [(3, .int (-1)), (0, .ref (b 0)), (1, .int (nI n)), (2, .int kd)]) dX2_favorite_1 rfl (by decide) rfl ?_
  refine V.iconst (v := 0) dX2_favorite_2 (by decide) ?_
  refine V.istore (lv2 := [(4, .int 0), (3, .int (-1)), (0, .ref (b 0)), (1, .int (nI n)), (2, .int kd)]) dX2_favorite_3 (by decide) rfl ?_
  have L5 : ∀ (kL : Nat) (i : Nat) (o : Option Nat), i + kL = nf z → ((∀ b : Nat, o = some b → b < 8)) → (fu (csF z n kd) i kL o = cho z n kd) → V g rmX2_favorite RX2 cX2_favorite wsX2_favorite 6 QF (XM (some .int) "favorite") 0 0 (SW g b z) 5 [(4, .int (nI i)), (3, .int (en o)), (0, .ref (b 0)), (1, .int (nI n)), (2, .int kd)] [] := by
    intro kL
    induction kL with
    | zero =>
      intro i o hrel ho hfu
      rw [fu_0] at hfu
      refine V.iload 0 rfl dX2_favorite_5 ?_
      refine V.aload_n 2 rfl dX2_favorite_7 rfl ?_
      refine V.get (v := .int (z 5)) (fun w H => List.mem_cons_of_mem _ (List.mem_append_left _ (List.mem_append_right _ H))) (hc := (rfl : vwCl[2]? = some (RX2, TX2, 12))) 0 0 (by decide) (List.mem_of_getElem? (i := 1) rfl) rfl rfl dX2_favorite_8 ?_
      rw [hF]
      refine V.icmp_ge_t (tgt := 78) (by exact nI_le (a := nf z) (b := i) (by omega) (by omega)) dX2_favorite_11 (by decide) ?_
      refine V.iload_n 1 rfl dX2_favorite_78 rfl ?_
      exact V.iret hq XM.r (Nat.le_of_ble_eq_true rfl) (Nat.le_of_ble_eq_true rfl) ⟨by rw [← hfu] <;> rfl, rfl⟩ dX2_favorite_79
    | succ kL ih =>
      intro i o hrel ho hfu
      rw [fu_s] at hfu
      refine V.iload 0 rfl dX2_favorite_5 ?_
      refine V.aload_n 2 rfl dX2_favorite_7 rfl ?_
      refine V.get (v := .int (z 5)) (fun w H => List.mem_cons_of_mem _ (List.mem_append_left _ (List.mem_append_right _ H))) (hc := (rfl : vwCl[2]? = some (RX2, TX2, 12))) 0 0 (by decide) (List.mem_of_getElem? (i := 1) rfl) rfl rfl dX2_favorite_8 ?_
      rw [hF]
      refine V.icmp_ge_f (tgt := 78) (by exact nI_ge (a := i) (b := nf z) (by omega) (by omega)) dX2_favorite_11 (by decide) ?_
      refine V.aload_n 2 rfl dX2_favorite_14 rfl ?_
      refine V.get (v := .ref (b 2)) (fun w H => List.mem_cons_of_mem _ (List.mem_append_left _ (List.mem_append_right _ H))) (hc := (rfl : vwCl[2]? = some (RX2, TX2, 12))) 0 8 (by decide) (List.mem_of_getElem? (i := 2) rfl) rfl rfl dX2_favorite_15 ?_
      refine V.iload 0 rfl dX2_favorite_18 ?_
      refine V.iconst (v := 1) dX2_favorite_20 (by decide) ?_
      refine V.callVf (ws2 := SW g b z) (st2 := [.int ((sg z 12 64) (i * 8 + 1))]) [.int (nI i), .int 1] [] (kX3_at g (b 2) (b 3) 8 64 (sg z 12 64) i 1 (by first | omega | decide) (by first | omega | decide) (by first | omega | decide) (by first | omega | decide)) gX2_favorite_X3_at rfl (by show _ ∧ _ ∧ _ ∧ _ = some (2 : Nat); decide +kernel) ⟨Nat.le_of_ble_eq_true rfl, Nat.le_of_ble_eq_true rfl⟩ (hc := (rfl : vwCl[3]? = some (RX3, TX3, 2))) 2 rfl [2, 3] (by decide) rfl rfl (Nat.le_of_ble_eq_true rfl) ⟨Nat.le_of_ble_eq_true rfl, Nat.le_of_ble_eq_true rfl⟩ dX2_favorite_21 TWf rfl rfl rfl rfl ?_
      rw [sg_r (z := z) (o := 12) (n := 64) (r := i) (C := 8) (k := 1) (by omega)]
      refine V.iload_n 4 rfl dX2_favorite_24 rfl ?_
      refine V.icmp_ne (tgt := 45) dX2_favorite_25 (by decide) (fun c25 => ?_) (fun c25 => ?_)
      · skip
        refine V.iconst (v := 0) dX2_favorite_45 (by decide) ?_
        have hg : gv z i kd = false := by rw [gv, decide_eq_false c25, Bool.false_and]
        refine V.istore (lv2 := [(5, .int 0), (4, .int (nI i)), (3, .int (en o)), (0, .ref (b 0)), (1, .int (nI n)), (2, .int kd)]) dX2_favorite_46 (by decide) rfl ?_
        refine V.iload 0 rfl dX2_favorite_48 ?_
        refine V.if_eq_t (tgt := 72) (by decide) dX2_favorite_50 (by decide) ?_
        refine V.iinc (v := nI (i + 1)) (lv2 := [(4, .int (nI (i + 1))), (5, .int 0), (3, .int (en o)), (0, .ref (b 0)), (1, .int (nI n)), (2, .int kd)]) 1 rfl dX2_favorite_72 (nI_add i 1) (by decide) rfl ?_
        refine V.goto (tgt := 5) dX2_favorite_75 (by decide) ?_
        refine V.eqlv (lv2 := [(4, .int (nI (i + 1))), (3, .int (en o)), (0, .ref (b 0)), (1, .int (nI n)), (2, .int kd)]) [0, 2, 3, 4, 5] rfl ?_
        exact ih (i + 1) o (by omega) ho (by rw [← hfu, show csF z n kd i o = o from by simp [csF, hg]])
      · skip
        refine V.aload_n 2 rfl dX2_favorite_28 rfl ?_
        refine V.get (v := .ref (b 2)) (fun w H => List.mem_cons_of_mem _ (List.mem_append_left _ (List.mem_append_right _ H))) (hc := (rfl : vwCl[2]? = some (RX2, TX2, 12))) 0 8 (by decide) (List.mem_of_getElem? (i := 2) rfl) rfl rfl dX2_favorite_29 ?_
        refine V.iload 0 rfl dX2_favorite_32 ?_
        refine V.iconst (v := 2) dX2_favorite_34 (by decide) ?_
        refine V.callVf (ws2 := SW g b z) (st2 := [.int ((sg z 12 64) (i * 8 + 2))]) [.int (nI i), .int 2] [] (kX3_at g (b 2) (b 3) 8 64 (sg z 12 64) i 2 (by first | omega | decide) (by first | omega | decide) (by first | omega | decide) (by first | omega | decide)) gX2_favorite_X3_at rfl (by show _ ∧ _ ∧ _ ∧ _ = some (2 : Nat); decide +kernel) ⟨Nat.le_of_ble_eq_true rfl, Nat.le_of_ble_eq_true rfl⟩ (hc := (rfl : vwCl[3]? = some (RX3, TX3, 2))) 2 rfl [2, 3] (by decide) rfl rfl (Nat.le_of_ble_eq_true rfl) ⟨Nat.le_of_ble_eq_true rfl, Nat.le_of_ble_eq_true rfl⟩ dX2_favorite_35 TWf rfl rfl rfl rfl ?_
        rw [sg_r (z := z) (o := 12) (n := 64) (r := i) (C := 8) (k := 2) (by omega)]
        refine V.if_le (tgt := 45) dX2_favorite_38 (by decide) (fun c38 => ?_) (fun c38 => ?_)
        · skip
          refine V.iconst (v := 0) dX2_favorite_45 (by decide) ?_
          have hg : gv z i kd = false := by rw [gv, decide_eq_true c25, decide_eq_true c38] <;> rfl
          refine V.istore (lv2 := [(5, .int 0), (4, .int (nI i)), (3, .int (en o)), (0, .ref (b 0)), (1, .int (nI n)), (2, .int kd)]) dX2_favorite_46 (by decide) rfl ?_
          refine V.iload 0 rfl dX2_favorite_48 ?_
          refine V.if_eq_t (tgt := 72) (by decide) dX2_favorite_50 (by decide) ?_
          refine V.iinc (v := nI (i + 1)) (lv2 := [(4, .int (nI (i + 1))), (5, .int 0), (3, .int (en o)), (0, .ref (b 0)), (1, .int (nI n)), (2, .int kd)]) 1 rfl dX2_favorite_72 (nI_add i 1) (by decide) rfl ?_
          refine V.goto (tgt := 5) dX2_favorite_75 (by decide) ?_
          refine V.eqlv (lv2 := [(4, .int (nI (i + 1))), (3, .int (en o)), (0, .ref (b 0)), (1, .int (nI n)), (2, .int kd)]) [0, 2, 3, 4, 5] rfl ?_
          exact ih (i + 1) o (by omega) ho (by rw [← hfu, show csF z n kd i o = o from by simp [csF, hg]])
        · skip
          refine V.iconst (v := 1) dX2_favorite_41 (by decide) ?_
          refine V.goto (tgt := 46) dX2_favorite_42 (by decide) ?_
          have hg : gv z i kd = true := by rw [gv, decide_eq_true c25, decide_eq_false c38] <;> rfl
          refine V.istore (lv2 := [(5, .int 1), (4, .int (nI i)), (3, .int (en o)), (0, .ref (b 0)), (1, .int (nI n)), (2, .int kd)]) dX2_favorite_46 (by decide) rfl ?_
          refine V.iload 0 rfl dX2_favorite_48 ?_
          refine V.if_eq_f (tgt := 72) (by decide) dX2_favorite_50 (by decide) ?_
          cases o with
          | none =>
            refine V.iload_n 2 rfl dX2_favorite_53 rfl ?_
            refine V.iconst (v := -1) dX2_favorite_54 (by decide) ?_
            refine V.icmp_eq_t (tgt := 69) rfl dX2_favorite_55 (by decide) ?_
            refine V.iload 1 rfl dX2_favorite_69 ?_
            refine V.istore_n (lv2 := [(3, .int (nI i)), (5, .int 1), (4, .int (nI i)), (0, .ref (b 0)), (1, .int (nI n)), (2, .int kd)]) dX2_favorite_71 rfl (by decide) rfl ?_
            refine V.iinc (v := nI (i + 1)) (lv2 := [(4, .int (nI (i + 1))), (3, .int (nI i)), (5, .int 1), (0, .ref (b 0)), (1, .int (nI n)), (2, .int kd)]) 2 rfl dX2_favorite_72 (nI_add i 1) (by decide) rfl ?_
            refine V.goto (tgt := 5) dX2_favorite_75 (by decide) ?_
            refine V.eqlv (lv2 := [(4, .int (nI (i + 1))), (3, .int (nI i)), (0, .ref (b 0)), (1, .int (nI n)), (2, .int kd)]) [0, 1, 3, 4, 5] rfl ?_
            exact ih (i + 1) (some i) (by omega) (fun b h => by cases h; omega) (by rw [← hfu, show csF z n kd i none = (some i) from by simp [csF, hg]])
          | some w =>
            have hb : w < 8 := ho w rfl
            refine V.iload_n 2 rfl dX2_favorite_53 rfl ?_
            refine V.iconst (v := -1) dX2_favorite_54 (by decide) ?_
            refine V.icmp_eq_f (tgt := 69) (en_ne hb (by decide)) dX2_favorite_55 (by decide) ?_
            refine V.aload_n 3 rfl dX2_favorite_58 rfl ?_
            refine V.iload_n 4 rfl dX2_favorite_59 rfl ?_
            refine V.iload 1 rfl dX2_favorite_60 ?_
            refine V.iload_n 2 rfl dX2_favorite_62 rfl ?_
            refine V.callVf (ws2 := SW g b z) (st2 := [.int (bi (bt z n i w))]) [.int (nI n), .int (nI i), .int (nI w)] [] (kX2_isBetter g b z n i w hn (by omega) hb hA) gX2_favorite_X2_isBetter rfl (by show _ ∧ _ ∧ _ ∧ _ = some (3 : Nat); decide +kernel) ⟨Nat.le_of_ble_eq_true rfl, Nat.le_of_ble_eq_true rfl⟩ (hc := (rfl : vwCl[2]? = some (RX2, TX2, 12))) 0 rfl [0, 1, 2, 3, 4, 5, 6, 7, 8, 9] (by decide) rfl rfl (Nat.le_of_ble_eq_true rfl) ⟨Nat.le_of_ble_eq_true rfl, Nat.le_of_ble_eq_true rfl⟩ dX2_favorite_63 rfl rfl rfl rfl rfl ?_
            refine V.if_eq (tgt := 72) dX2_favorite_66 (by decide) (fun c66 => ?_) (fun c66 => ?_)
            · skip
              have c66 := bi_0 c66
              refine V.iinc (v := nI (i + 1)) (lv2 := [(4, .int (nI (i + 1))), (5, .int 1), (3, .int (nI w)), (0, .ref (b 0)), (1, .int (nI n)), (2, .int kd)]) 1 rfl dX2_favorite_72 (nI_add i 1) (by decide) rfl ?_
              refine V.goto (tgt := 5) dX2_favorite_75 (by decide) ?_
              refine V.eqlv (lv2 := [(4, .int (nI (i + 1))), (3, .int (nI w)), (0, .ref (b 0)), (1, .int (nI n)), (2, .int kd)]) [0, 2, 3, 4, 5] rfl ?_
              exact ih (i + 1) (some w) (by omega) ho (by rw [← hfu, show csF z n kd i (some w) = (some w) from by simp [csF, hg, c66]])
            · skip
              have c66 := bi_1 c66
              refine V.iload 1 rfl dX2_favorite_69 ?_
              refine V.istore_n (lv2 := [(3, .int (nI i)), (5, .int 1), (4, .int (nI i)), (0, .ref (b 0)), (1, .int (nI n)), (2, .int kd)]) dX2_favorite_71 rfl (by decide) rfl ?_
              refine V.iinc (v := nI (i + 1)) (lv2 := [(4, .int (nI (i + 1))), (3, .int (nI i)), (5, .int 1), (0, .ref (b 0)), (1, .int (nI n)), (2, .int kd)]) 2 rfl dX2_favorite_72 (nI_add i 1) (by decide) rfl ?_
              refine V.goto (tgt := 5) dX2_favorite_75 (by decide) ?_
              refine V.eqlv (lv2 := [(4, .int (nI (i + 1))), (3, .int (nI i)), (0, .ref (b 0)), (1, .int (nI n)), (2, .int kd)]) [0, 1, 3, 4, 5] rfl ?_
              exact ih (i + 1) (some i) (by omega) (fun b h => by cases h; omega) (by rw [← hfu, show csF z n kd i (some w) = (some i) from by simp [csF, hg, c66]])
  refine V.eqlv (lv2 := [(4, .int 0), (3, .int (-1)), (0, .ref (b 0)), (1, .int (nI n)), (2, .int kd)]) [0, 1, 2, 3, 4] rfl ?_
  exact L5 (nf z) 0 none (by omega) (fun b h => by cases h) rfl
