abbrev rmX6_feeder_b1 : Room := { frames := 2, cells := 0, slots := 0, locals := 43 }
set_option maxHeartbeats 4000000 in
set_option maxRecDepth 100000 in
theorem kX6_feeder_b1 (g : GT) (a : Nat → Nat) (z hi tx ai pa tu pt ke : Nat → Int32) (st le th re nu du : Int32) (ha : Int64) (v : Int32) (k : Int32) (h0 : wi v 0 (z 5 - 1) = false) : UC g yX6_feeder wsX6_feeder rmX6_feeder_b1 [.ref (a 0), .int v, .int k] (MW g a z hi tx ai pa tu pt ke st le th re nu du ha) (Qf (some (.int 0)) (MW g a z hi tx ai pa tu pt ke st le 1 re nu du ha)) := by
  refine UC.ofV (cc := cX6_feeder) (maxL := 3) (ret := some .int) (lv0 := [(0, .ref (a 0)), (1, .int v), (2, .int k)]) (by decide) rfl (Nat.le_of_ble_eq_true rfl) rfl ?_
  generalize hQF : QFr g rmX6_feeder_b1 (Qf (some (.int 0)) (MW g a z hi tx ai pa tu pt ke st le 1 re nu du ha)) = QF
  have hq : QFok g rmX6_feeder_b1 (Qf (some (.int 0)) (MW g a z hi tx ai pa tu pt ke st le 1 re nu du ha)) QF := hQF ▸ QFr.q
  refine V.aload_n 0 rfl dX6_feeder_0 rfl ?_
  refine V.aload_n 0 rfl dX6_feeder_1 rfl ?_
  refine V.iload_n 1 rfl dX6_feeder_2 rfl ?_
  refine V.callVf (ws2 := MW g a z hi tx ai pa tu pt ke st le th re nu du ha) (st2 := [.int (bi (wi v 0 (z 5 - 1))), .ref (a 0)]) [.int v] [.ref (a 0)] (kX6_isFeeder g a z hi tx ai pa tu pt ke st le th re nu du ha v ) gX6_feeder_X6_isFeeder rfl (by show _ ∧ _ ∧ _ ∧ _ = some (1 : Nat); decide +kernel) ⟨Nat.le_of_ble_eq_true rfl, Nat.le_of_ble_eq_true rfl⟩ (hc := (rfl : vwCl[6]? = some (RX6, TX6, 15))) 0 rfl [0, 1, 2, 3, 4, 5, 6, 7, 8] (by decide) rfl rfl (Nat.le_of_ble_eq_true rfl) ⟨Nat.le_of_ble_eq_true rfl, Nat.le_of_ble_eq_true rfl⟩ dX6_feeder_3 MWf rfl rfl rfl rfl ?_
  rw [h0]
  refine V.if_ne_f (tgt := 13) (by decide) dX6_feeder_6 (by decide) ?_
  refine V.iconst (v := 1) dX6_feeder_9 (by decide) ?_
  refine V.goto (tgt := 28) dX6_feeder_10 (by decide) ?_
  refine V.put (v := .int 1) (ws2 := MW g a z hi tx ai pa tu pt ke st le 1 re nu du ha) (fun w H => List.mem_cons_of_mem _ (List.mem_append_right _ H)) tyX6 tyX6_ok nmX6 (hc := (rfl : vwCl[6]? = some (RX6, TX6, 15))) 0 5 (by decide) (List.mem_of_getElem? (i := 1) rfl) rfl rfl (tyX6_ok 5 (by decide)) rfl rfl (Nat.le_of_ble_eq_true rfl) rfl dX6_feeder_28 ?_
  refine V.aload_n 0 rfl dX6_feeder_31 rfl ?_
  refine V.get (v := .int 1) (fun w H => List.mem_cons_of_mem _ (List.mem_append_right _ H)) (hc := (rfl : vwCl[6]? = some (RX6, TX6, 15))) 0 5 (by decide) (List.mem_of_getElem? (i := 1) rfl) rfl rfl dX6_feeder_32 ?_
  refine V.if_le_f (tgt := 42) (by decide) dX6_feeder_35 (by decide) ?_
  refine V.iconst (v := 0) dX6_feeder_38 (by decide) ?_
  refine V.goto (tgt := 48) dX6_feeder_39 (by decide) ?_
  exact V.iret hq XM.r (Nat.le_of_ble_eq_true rfl) (Nat.le_of_ble_eq_true rfl) ⟨rfl, rfl⟩ dX6_feeder_48
abbrev rmX6_feeder_b2 : Room := { frames := 2, cells := 0, slots := 0, locals := 43 }
set_option maxHeartbeats 4000000 in
set_option maxRecDepth 100000 in
theorem kX6_feeder_b2 (g : GT) (a : Nat → Nat) (z hi tx ai pa tu pt ke : Nat → Int32) (st le th re nu du : Int32) (ha : Int64) (v : Int32) (k : Int32) (h0 : wi v 0 (z 5 - 1) = true) (h1 : wi k 0 8 = false) : UC g yX6_feeder wsX6_feeder rmX6_feeder_b2 [.ref (a 0), .int v, .int k] (MW g a z hi tx ai pa tu pt ke st le th re nu du ha) (Qf (some (.int 0)) (MW g a z hi tx ai pa tu pt ke st le 2 re nu du ha)) := by
  refine UC.ofV (cc := cX6_feeder) (maxL := 3) (ret := some .int) (lv0 := [(0, .ref (a 0)), (1, .int v), (2, .int k)]) (by decide) rfl (Nat.le_of_ble_eq_true rfl) rfl ?_
  generalize hQF : QFr g rmX6_feeder_b2 (Qf (some (.int 0)) (MW g a z hi tx ai pa tu pt ke st le 2 re nu du ha)) = QF
  have hq : QFok g rmX6_feeder_b2 (Qf (some (.int 0)) (MW g a z hi tx ai pa tu pt ke st le 2 re nu du ha)) QF := hQF ▸ QFr.q
  refine V.aload_n 0 rfl dX6_feeder_0 rfl ?_
  refine V.aload_n 0 rfl dX6_feeder_1 rfl ?_
  refine V.iload_n 1 rfl dX6_feeder_2 rfl ?_
  refine V.callVf (ws2 := MW g a z hi tx ai pa tu pt ke st le th re nu du ha) (st2 := [.int (bi (wi v 0 (z 5 - 1))), .ref (a 0)]) [.int v] [.ref (a 0)] (kX6_isFeeder g a z hi tx ai pa tu pt ke st le th re nu du ha v ) gX6_feeder_X6_isFeeder rfl (by show _ ∧ _ ∧ _ ∧ _ = some (1 : Nat); decide +kernel) ⟨Nat.le_of_ble_eq_true rfl, Nat.le_of_ble_eq_true rfl⟩ (hc := (rfl : vwCl[6]? = some (RX6, TX6, 15))) 0 rfl [0, 1, 2, 3, 4, 5, 6, 7, 8] (by decide) rfl rfl (Nat.le_of_ble_eq_true rfl) ⟨Nat.le_of_ble_eq_true rfl, Nat.le_of_ble_eq_true rfl⟩ dX6_feeder_3 MWf rfl rfl rfl rfl ?_
  rw [h0]
  refine V.if_ne_t (tgt := 13) (by decide) dX6_feeder_6 (by decide) ?_
  refine V.iload_n 2 rfl dX6_feeder_13 rfl ?_
  refine V.iconst (v := 0) dX6_feeder_14 (by decide) ?_
  refine V.bipush (v := 8) dX6_feeder_15 (by decide) ?_
  refine V.callSf (ws2 := MW g a z hi tx ai pa tu pt ke st le th re nu du ha) (st2 := [.int (bi (wi k (0 : Int32) (8 : Int32))), .ref (a 0)]) [.int k, .int 0, .int 8] [.ref (a 0)] (kX6_within g k (0 : Int32) (8 : Int32) ) gX6_feeder_X6_within rfl (by show _ ∧ _ ∧ _ = some (3 : Nat); decide +kernel) ⟨Nat.le_of_ble_eq_true rfl, Nat.le_of_ble_eq_true rfl⟩ [] (by decide) rfl rfl (Nat.le_of_ble_eq_true rfl) ⟨Nat.le_of_ble_eq_true rfl, Nat.le_of_ble_eq_true rfl⟩ dX6_feeder_17 rfl (List.append_nil _) rfl rfl rfl ?_
  rw [h1]
  refine V.if_eq_t (tgt := 27) (by decide) dX6_feeder_20 (by decide) ?_
  refine V.iconst (v := 2) dX6_feeder_27 (by decide) ?_
  refine V.put (v := .int 2) (ws2 := MW g a z hi tx ai pa tu pt ke st le 2 re nu du ha) (fun w H => List.mem_cons_of_mem _ (List.mem_append_right _ H)) tyX6 tyX6_ok nmX6 (hc := (rfl : vwCl[6]? = some (RX6, TX6, 15))) 0 5 (by decide) (List.mem_of_getElem? (i := 1) rfl) rfl rfl (tyX6_ok 5 (by decide)) rfl rfl (Nat.le_of_ble_eq_true rfl) rfl dX6_feeder_28 ?_
  refine V.aload_n 0 rfl dX6_feeder_31 rfl ?_
  refine V.get (v := .int 2) (fun w H => List.mem_cons_of_mem _ (List.mem_append_right _ H)) (hc := (rfl : vwCl[6]? = some (RX6, TX6, 15))) 0 5 (by decide) (List.mem_of_getElem? (i := 1) rfl) rfl rfl dX6_feeder_32 ?_
  refine V.if_le_f (tgt := 42) (by decide) dX6_feeder_35 (by decide) ?_
  refine V.iconst (v := 0) dX6_feeder_38 (by decide) ?_
  refine V.goto (tgt := 48) dX6_feeder_39 (by decide) ?_
  exact V.iret hq XM.r (Nat.le_of_ble_eq_true rfl) (Nat.le_of_ble_eq_true rfl) ⟨rfl, rfl⟩ dX6_feeder_48
abbrev rmX6_feeder_ok : Room := { frames := 2, cells := 0, slots := 0, locals := 46 }
set_option maxHeartbeats 4000000 in
set_option maxRecDepth 100000 in
theorem kX6_feeder_ok (g : GT) (a : Nat → Nat) (z hi tx ai pa tu pt ke : Nat → Int32) (st le th re nu du : Int32) (ha : Int64) (f : Nat) (k : Nat) (hf : f < 8) (hk : k ≤ 8) (h0 : wi (nI f) 0 (z 5 - 1) = true) (h1 : wi (nI k) 0 8 = true) : UC g yX6_feeder wsX6_feeder rmX6_feeder_ok [.ref (a 0), .int (nI f), .int (nI k)] (MW g a z hi tx ai pa tu pt ke st le th re nu du ha) (Qf (some (.int (fN z f k))) (MW g a z hi tx ai pa tu pt ke st le 0 re nu du ha)) := by
  refine UC.ofV (cc := cX6_feeder) (maxL := 3) (ret := some .int) (lv0 := [(0, .ref (a 0)), (1, .int (nI f)), (2, .int (nI k))]) (by decide) rfl (Nat.le_of_ble_eq_true rfl) rfl ?_
  generalize hQF : QFr g rmX6_feeder_ok (Qf (some (.int (fN z f k))) (MW g a z hi tx ai pa tu pt ke st le 0 re nu du ha)) = QF
  have hq : QFok g rmX6_feeder_ok (Qf (some (.int (fN z f k))) (MW g a z hi tx ai pa tu pt ke st le 0 re nu du ha)) QF := hQF ▸ QFr.q
  refine V.aload_n 0 rfl dX6_feeder_0 rfl ?_
  refine V.aload_n 0 rfl dX6_feeder_1 rfl ?_
  refine V.iload_n 1 rfl dX6_feeder_2 rfl ?_
  refine V.callVf (ws2 := MW g a z hi tx ai pa tu pt ke st le th re nu du ha) (st2 := [.int (bi (wi (nI f) 0 (z 5 - 1))), .ref (a 0)]) [.int (nI f)] [.ref (a 0)] (kX6_isFeeder g a z hi tx ai pa tu pt ke st le th re nu du ha (nI f) ) gX6_feeder_X6_isFeeder rfl (by show _ ∧ _ ∧ _ ∧ _ = some (1 : Nat); decide +kernel) ⟨Nat.le_of_ble_eq_true rfl, Nat.le_of_ble_eq_true rfl⟩ (hc := (rfl : vwCl[6]? = some (RX6, TX6, 15))) 0 rfl [0, 1, 2, 3, 4, 5, 6, 7, 8] (by decide) rfl rfl (Nat.le_of_ble_eq_true rfl) ⟨Nat.le_of_ble_eq_true rfl, Nat.le_of_ble_eq_true rfl⟩ dX6_feeder_3 MWf rfl rfl rfl rfl ?_
  rw [h0]
  refine V.if_ne_t (tgt := 13) (by decide) dX6_feeder_6 (by decide) ?_
  refine V.iload_n 2 rfl dX6_feeder_13 rfl ?_
  refine V.iconst (v := 0) dX6_feeder_14 (by decide) ?_
  refine V.bipush (v := 8) dX6_feeder_15 (by decide) ?_
  refine V.callSf (ws2 := MW g a z hi tx ai pa tu pt ke st le th re nu du ha) (st2 := [.int (bi (wi (nI k) (0 : Int32) (8 : Int32))), .ref (a 0)]) [.int (nI k), .int 0, .int 8] [.ref (a 0)] (kX6_within g (nI k) (0 : Int32) (8 : Int32) ) gX6_feeder_X6_within rfl (by show _ ∧ _ ∧ _ = some (3 : Nat); decide +kernel) ⟨Nat.le_of_ble_eq_true rfl, Nat.le_of_ble_eq_true rfl⟩ [] (by decide) rfl rfl (Nat.le_of_ble_eq_true rfl) ⟨Nat.le_of_ble_eq_true rfl, Nat.le_of_ble_eq_true rfl⟩ dX6_feeder_17 rfl (List.append_nil _) rfl rfl rfl ?_
  rw [h1]
  refine V.if_eq_f (tgt := 27) (by decide) dX6_feeder_20 (by decide) ?_
  refine V.iconst (v := 0) dX6_feeder_23 (by decide) ?_
  refine V.goto (tgt := 28) dX6_feeder_24 (by decide) ?_
  refine V.put (v := .int 0) (ws2 := MW g a z hi tx ai pa tu pt ke st le 0 re nu du ha) (fun w H => List.mem_cons_of_mem _ (List.mem_append_right _ H)) tyX6 tyX6_ok nmX6 (hc := (rfl : vwCl[6]? = some (RX6, TX6, 15))) 0 5 (by decide) (List.mem_of_getElem? (i := 1) rfl) rfl rfl (tyX6_ok 5 (by decide)) rfl rfl (Nat.le_of_ble_eq_true rfl) rfl dX6_feeder_28 ?_
  refine V.aload_n 0 rfl dX6_feeder_31 rfl ?_
  refine V.get (v := .int 0) (fun w H => List.mem_cons_of_mem _ (List.mem_append_right _ H)) (hc := (rfl : vwCl[6]? = some (RX6, TX6, 15))) 0 5 (by decide) (List.mem_of_getElem? (i := 1) rfl) rfl rfl dX6_feeder_32 ?_
  refine V.if_le_t (tgt := 42) (by decide) dX6_feeder_35 (by decide) ?_
  refine V.aload_n 0 rfl dX6_feeder_42 rfl ?_
  refine V.iload_n 1 rfl dX6_feeder_43 rfl ?_
  refine V.iload_n 2 rfl dX6_feeder_44 rfl ?_
  refine V.callVf (ws2 := MW g a z hi tx ai pa tu pt ke st le 0 re nu du ha) (st2 := [.int (fN z f k)]) [.int (nI f), .int (nI k)] [] (kX6_feederNow g a z hi tx ai pa tu pt ke st le 0 re nu du ha f k hf hk) gX6_feeder_X6_feederNow rfl (by show _ ∧ _ ∧ _ ∧ _ = some (2 : Nat); decide +kernel) ⟨Nat.le_of_ble_eq_true rfl, Nat.le_of_ble_eq_true rfl⟩ (hc := (rfl : vwCl[6]? = some (RX6, TX6, 15))) 0 rfl [0, 1, 2, 3, 4, 5, 6, 7, 8] (by decide) rfl rfl (Nat.le_of_ble_eq_true rfl) ⟨Nat.le_of_ble_eq_true rfl, Nat.le_of_ble_eq_true rfl⟩ dX6_feeder_45 MWf rfl rfl rfl rfl ?_
  exact V.iret hq XM.r (Nat.le_of_ble_eq_true rfl) (Nat.le_of_ble_eq_true rfl) ⟨rfl, rfl⟩ dX6_feeder_48
abbrev rmX6_place_b1 : Room := { frames := 2, cells := 0, slots := 0, locals := 43 }
set_option maxHeartbeats 4000000 in
set_option maxRecDepth 100000 in
theorem kX6_place_b1 (g : GT) (a : Nat → Nat) (z hi tx ai pa tu pt ke : Nat → Int32) (st le th re nu du : Int32) (ha : Int64) (v : Int32) (k : Int32) (h0 : wi v 0 (z 6 - 1) = false) : UC g yX6_place wsX6_place rmX6_place_b1 [.ref (a 0), .int v, .int k] (MW g a z hi tx ai pa tu pt ke st le th re nu du ha) (Qf (some (.int 0)) (MW g a z hi tx ai pa tu pt ke st le 1 re nu du ha)) := by
  refine UC.ofV (cc := cX6_place) (maxL := 3) (ret := some .int) (lv0 := [(0, .ref (a 0)), (1, .int v), (2, .int k)]) (by decide) rfl (Nat.le_of_ble_eq_true rfl) rfl ?_
  generalize hQF : QFr g rmX6_place_b1 (Qf (some (.int 0)) (MW g a z hi tx ai pa tu pt ke st le 1 re nu du ha)) = QF
  have hq : QFok g rmX6_place_b1 (Qf (some (.int 0)) (MW g a z hi tx ai pa tu pt ke st le 1 re nu du ha)) QF := hQF ▸ QFr.q
  refine V.aload_n 0 rfl dX6_place_0 rfl ?_
  refine V.aload_n 0 rfl dX6_place_1 rfl ?_
  refine V.iload_n 1 rfl dX6_place_2 rfl ?_
  refine V.callVf (ws2 := MW g a z hi tx ai pa tu pt ke st le th re nu du ha) (st2 := [.int (bi (wi v 0 (z 6 - 1))), .ref (a 0)]) [.int v] [.ref (a 0)] (kX6_isPlace g a z hi tx ai pa tu pt ke st le th re nu du ha v ) gX6_place_X6_isPlace rfl (by show _ ∧ _ ∧ _ ∧ _ = some (1 : Nat); decide +kernel) ⟨Nat.le_of_ble_eq_true rfl, Nat.le_of_ble_eq_true rfl⟩ (hc := (rfl : vwCl[6]? = some (RX6, TX6, 15))) 0 rfl [0, 1, 2, 3, 4, 5, 6, 7, 8] (by decide) rfl rfl (Nat.le_of_ble_eq_true rfl) ⟨Nat.le_of_ble_eq_true rfl, Nat.le_of_ble_eq_true rfl⟩ dX6_place_3 MWf rfl rfl rfl rfl ?_
  rw [h0]
  refine V.if_ne_f (tgt := 13) (by decide) dX6_place_6 (by decide) ?_
  refine V.iconst (v := 1) dX6_place_9 (by decide) ?_
  refine V.goto (tgt := 27) dX6_place_10 (by decide) ?_
  refine V.put (v := .int 1) (ws2 := MW g a z hi tx ai pa tu pt ke st le 1 re nu du ha) (fun w H => List.mem_cons_of_mem _ (List.mem_append_right _ H)) tyX6 tyX6_ok nmX6 (hc := (rfl : vwCl[6]? = some (RX6, TX6, 15))) 0 5 (by decide) (List.mem_of_getElem? (i := 1) rfl) rfl rfl (tyX6_ok 5 (by decide)) rfl rfl (Nat.le_of_ble_eq_true rfl) rfl dX6_place_27 ?_
  refine V.aload_n 0 rfl dX6_place_30 rfl ?_
  refine V.get (v := .int 1) (fun w H => List.mem_cons_of_mem _ (List.mem_append_right _ H)) (hc := (rfl : vwCl[6]? = some (RX6, TX6, 15))) 0 5 (by decide) (List.mem_of_getElem? (i := 1) rfl) rfl rfl dX6_place_31 ?_
  refine V.if_le_f (tgt := 41) (by decide) dX6_place_34 (by decide) ?_
  refine V.iconst (v := 0) dX6_place_37 (by decide) ?_
  refine V.goto (tgt := 47) dX6_place_38 (by decide) ?_
  exact V.iret hq XM.r (Nat.le_of_ble_eq_true rfl) (Nat.le_of_ble_eq_true rfl) ⟨rfl, rfl⟩ dX6_place_47
abbrev rmX6_place_b2 : Room := { frames := 2, cells := 0, slots := 0, locals := 43 }
set_option maxHeartbeats 4000000 in
set_option maxRecDepth 100000 in
theorem kX6_place_b2 (g : GT) (a : Nat → Nat) (z hi tx ai pa tu pt ke : Nat → Int32) (st le th re nu du : Int32) (ha : Int64) (v : Int32) (k : Int32) (h0 : wi v 0 (z 6 - 1) = true) (h1 : wi k 0 4 = false) : UC g yX6_place wsX6_place rmX6_place_b2 [.ref (a 0), .int v, .int k] (MW g a z hi tx ai pa tu pt ke st le th re nu du ha) (Qf (some (.int 0)) (MW g a z hi tx ai pa tu pt ke st le 2 re nu du ha)) := by
  refine UC.ofV (cc := cX6_place) (maxL := 3) (ret := some .int) (lv0 := [(0, .ref (a 0)), (1, .int v), (2, .int k)]) (by decide) rfl (Nat.le_of_ble_eq_true rfl) rfl ?_
  generalize hQF : QFr g rmX6_place_b2 (Qf (some (.int 0)) (MW g a z hi tx ai pa tu pt ke st le 2 re nu du ha)) = QF
  have hq : QFok g rmX6_place_b2 (Qf (some (.int 0)) (MW g a z hi tx ai pa tu pt ke st le 2 re nu du ha)) QF := hQF ▸ QFr.q
  refine V.aload_n 0 rfl dX6_place_0 rfl ?_
  refine V.aload_n 0 rfl dX6_place_1 rfl ?_
  refine V.iload_n 1 rfl dX6_place_2 rfl ?_
  refine V.callVf (ws2 := MW g a z hi tx ai pa tu pt ke st le th re nu du ha) (st2 := [.int (bi (wi v 0 (z 6 - 1))), .ref (a 0)]) [.int v] [.ref (a 0)] (kX6_isPlace g a z hi tx ai pa tu pt ke st le th re nu du ha v ) gX6_place_X6_isPlace rfl (by show _ ∧ _ ∧ _ ∧ _ = some (1 : Nat); decide +kernel) ⟨Nat.le_of_ble_eq_true rfl, Nat.le_of_ble_eq_true rfl⟩ (hc := (rfl : vwCl[6]? = some (RX6, TX6, 15))) 0 rfl [0, 1, 2, 3, 4, 5, 6, 7, 8] (by decide) rfl rfl (Nat.le_of_ble_eq_true rfl) ⟨Nat.le_of_ble_eq_true rfl, Nat.le_of_ble_eq_true rfl⟩ dX6_place_3 MWf rfl rfl rfl rfl ?_
  rw [h0]
  refine V.if_ne_t (tgt := 13) (by decide) dX6_place_6 (by decide) ?_
  refine V.iload_n 2 rfl dX6_place_13 rfl ?_
  refine V.iconst (v := 0) dX6_place_14 (by decide) ?_
  refine V.iconst (v := 4) dX6_place_15 (by decide) ?_
  refine V.callSf (ws2 := MW g a z hi tx ai pa tu pt ke st le th re nu du ha) (st2 := [.int (bi (wi k (0 : Int32) (4 : Int32))), .ref (a 0)]) [.int k, .int 0, .int 4] [.ref (a 0)] (kX6_within g k (0 : Int32) (4 : Int32) ) gX6_place_X6_within rfl (by show _ ∧ _ ∧ _ = some (3 : Nat); decide +kernel) ⟨Nat.le_of_ble_eq_true rfl, Nat.le_of_ble_eq_true rfl⟩ [] (by decide) rfl rfl (Nat.le_of_ble_eq_true rfl) ⟨Nat.le_of_ble_eq_true rfl, Nat.le_of_ble_eq_true rfl⟩ dX6_place_16 rfl (List.append_nil _) rfl rfl rfl ?_
  rw [h1]
  refine V.if_eq_t (tgt := 26) (by decide) dX6_place_19 (by decide) ?_
  refine V.iconst (v := 2) dX6_place_26 (by decide) ?_
  refine V.put (v := .int 2) (ws2 := MW g a z hi tx ai pa tu pt ke st le 2 re nu du ha) (fun w H => List.mem_cons_of_mem _ (List.mem_append_right _ H)) tyX6 tyX6_ok nmX6 (hc := (rfl : vwCl[6]? = some (RX6, TX6, 15))) 0 5 (by decide) (List.mem_of_getElem? (i := 1) rfl) rfl rfl (tyX6_ok 5 (by decide)) rfl rfl (Nat.le_of_ble_eq_true rfl) rfl dX6_place_27 ?_
  refine V.aload_n 0 rfl dX6_place_30 rfl ?_
  refine V.get (v := .int 2) (fun w H => List.mem_cons_of_mem _ (List.mem_append_right _ H)) (hc := (rfl : vwCl[6]? = some (RX6, TX6, 15))) 0 5 (by decide) (List.mem_of_getElem? (i := 1) rfl) rfl rfl dX6_place_31 ?_
  refine V.if_le_f (tgt := 41) (by decide) dX6_place_34 (by decide) ?_
  refine V.iconst (v := 0) dX6_place_37 (by decide) ?_
  refine V.goto (tgt := 47) dX6_place_38 (by decide) ?_
  exact V.iret hq XM.r (Nat.le_of_ble_eq_true rfl) (Nat.le_of_ble_eq_true rfl) ⟨rfl, rfl⟩ dX6_place_47
abbrev rmX6_place_ok : Room := { frames := 2, cells := 0, slots := 0, locals := 43 }
set_option maxHeartbeats 4000000 in
set_option maxRecDepth 100000 in
theorem kX6_place_ok (g : GT) (a : Nat → Nat) (z hi tx ai pa tu pt ke : Nat → Int32) (st le th re nu du : Int32) (ha : Int64) (p : Nat) (k : Nat) (hp : p < 24) (hk : k < 5) (h0 : wi (nI p) 0 (z 6 - 1) = true) (h1 : wi (nI k) 0 4 = true) : UC g yX6_place wsX6_place rmX6_place_ok [.ref (a 0), .int (nI p), .int (nI k)] (MW g a z hi tx ai pa tu pt ke st le th re nu du ha) (Qf (some (.int (z (76 + 5 * p + k)))) (MW g a z hi tx ai pa tu pt ke st le 0 re nu du ha)) := by
  refine UC.ofV (cc := cX6_place) (maxL := 3) (ret := some .int) (lv0 := [(0, .ref (a 0)), (1, .int (nI p)), (2, .int (nI k))]) (by decide) rfl (Nat.le_of_ble_eq_true rfl) rfl ?_
  generalize hQF : QFr g rmX6_place_ok (Qf (some (.int (z (76 + 5 * p + k)))) (MW g a z hi tx ai pa tu pt ke st le 0 re nu du ha)) = QF
  have hq : QFok g rmX6_place_ok (Qf (some (.int (z (76 + 5 * p + k)))) (MW g a z hi tx ai pa tu pt ke st le 0 re nu du ha)) QF := hQF ▸ QFr.q
  refine V.aload_n 0 rfl dX6_place_0 rfl ?_
  refine V.aload_n 0 rfl dX6_place_1 rfl ?_
  refine V.iload_n 1 rfl dX6_place_2 rfl ?_
  refine V.callVf (ws2 := MW g a z hi tx ai pa tu pt ke st le th re nu du ha) (st2 := [.int (bi (wi (nI p) 0 (z 6 - 1))), .ref (a 0)]) [.int (nI p)] [.ref (a 0)] (kX6_isPlace g a z hi tx ai pa tu pt ke st le th re nu du ha (nI p) ) gX6_place_X6_isPlace rfl (by show _ ∧ _ ∧ _ ∧ _ = some (1 : Nat); decide +kernel) ⟨Nat.le_of_ble_eq_true rfl, Nat.le_of_ble_eq_true rfl⟩ (hc := (rfl : vwCl[6]? = some (RX6, TX6, 15))) 0 rfl [0, 1, 2, 3, 4, 5, 6, 7, 8] (by decide) rfl rfl (Nat.le_of_ble_eq_true rfl) ⟨Nat.le_of_ble_eq_true rfl, Nat.le_of_ble_eq_true rfl⟩ dX6_place_3 MWf rfl rfl rfl rfl ?_
  rw [h0]
  refine V.if_ne_t (tgt := 13) (by decide) dX6_place_6 (by decide) ?_
  refine V.iload_n 2 rfl dX6_place_13 rfl ?_
  refine V.iconst (v := 0) dX6_place_14 (by decide) ?_
  refine V.iconst (v := 4) dX6_place_15 (by decide) ?_
  refine V.callSf (ws2 := MW g a z hi tx ai pa tu pt ke st le th re nu du ha) (st2 := [.int (bi (wi (nI k) (0 : Int32) (4 : Int32))), .ref (a 0)]) [.int (nI k), .int 0, .int 4] [.ref (a 0)] (kX6_within g (nI k) (0 : Int32) (4 : Int32) ) gX6_place_X6_within rfl (by show _ ∧ _ ∧ _ = some (3 : Nat); decide +kernel) ⟨Nat.le_of_ble_eq_true rfl, Nat.le_of_ble_eq_true rfl⟩ [] (by decide) rfl rfl (Nat.le_of_ble_eq_true rfl) ⟨Nat.le_of_ble_eq_true rfl, Nat.le_of_ble_eq_true rfl⟩ dX6_place_16 rfl (List.append_nil _) rfl rfl rfl ?_
  rw [h1]
  refine V.if_eq_f (tgt := 26) (by decide) dX6_place_19 (by decide) ?_
  refine V.iconst (v := 0) dX6_place_22 (by decide) ?_
  refine V.goto (tgt := 27) dX6_place_23 (by decide) ?_
  refine V.put (v := .int 0) (ws2 := MW g a z hi tx ai pa tu pt ke st le 0 re nu du ha) (fun w H => List.mem_cons_of_mem _ (List.mem_append_right _ H)) tyX6 tyX6_ok nmX6 (hc := (rfl : vwCl[6]? = some (RX6, TX6, 15))) 0 5 (by decide) (List.mem_of_getElem? (i := 1) rfl) rfl rfl (tyX6_ok 5 (by decide)) rfl rfl (Nat.le_of_ble_eq_true rfl) rfl dX6_place_27 ?_
  refine V.aload_n 0 rfl dX6_place_30 rfl ?_
  refine V.get (v := .int 0) (fun w H => List.mem_cons_of_mem _ (List.mem_append_right _ H)) (hc := (rfl : vwCl[6]? = some (RX6, TX6, 15))) 0 5 (by decide) (List.mem_of_getElem? (i := 1) rfl) rfl rfl dX6_place_31 ?_
  refine V.if_le_t (tgt := 41) (by decide) dX6_place_34 (by decide) ?_
  refine V.aload_n 0 rfl dX6_place_41 rfl ?_
  refine V.iload_n 1 rfl dX6_place_42 rfl ?_
  refine V.iload_n 2 rfl dX6_place_43 rfl ?_
  refine V.callVf (ws2 := MW g a z hi tx ai pa tu pt ke st le 0 re nu du ha) (st2 := [.int (z (76 + 5 * p + k))]) [.int (nI p), .int (nI k)] [] (kX6_ofPlace g a z hi tx ai pa tu pt ke st le 0 re nu du ha p k hp hk) gX6_place_X6_ofPlace rfl (by show _ ∧ _ ∧ _ ∧ _ = some (2 : Nat); decide +kernel) ⟨Nat.le_of_ble_eq_true rfl, Nat.le_of_ble_eq_true rfl⟩ (hc := (rfl : vwCl[6]? = some (RX6, TX6, 15))) 0 rfl [0, 1, 2, 3, 4, 5, 6, 7, 8] (by decide) rfl rfl (Nat.le_of_ble_eq_true rfl) ⟨Nat.le_of_ble_eq_true rfl, Nat.le_of_ble_eq_true rfl⟩ dX6_place_44 MWf rfl rfl rfl rfl ?_
  exact V.iret hq XM.r (Nat.le_of_ble_eq_true rfl) (Nat.le_of_ble_eq_true rfl) ⟨rfl, rfl⟩ dX6_place_47
abbrev rmX6_nozzle_b1 : Room := { frames := 2, cells := 0, slots := 0, locals := 42 }
set_option maxHeartbeats 4000000 in
set_option maxRecDepth 100000 in
theorem kX6_nozzle_b1 (g : GT) (a : Nat → Nat) (z hi tx ai pa tu pt ke : Nat → Int32) (st le th re nu du : Int32) (ha : Int64) (v : Int32) (k : Int32) (h0 : wi v 0 3 = false) : UC g yX6_nozzle wsX6_nozzle rmX6_nozzle_b1 [.ref (a 0), .int v, .int k] (MW g a z hi tx ai pa tu pt ke st le th re nu du ha) (Qf (some (.int 0)) (MW g a z hi tx ai pa tu pt ke st le 1 re nu du ha)) := by
  refine UC.ofV (cc := cX6_nozzle) (maxL := 3) (ret := some .int) (lv0 := [(0, .ref (a 0)), (1, .int v), (2, .int k)]) (by decide) rfl (Nat.le_of_ble_eq_true rfl) rfl ?_
  generalize hQF : QFr g rmX6_nozzle_b1 (Qf (some (.int 0)) (MW g a z hi tx ai pa tu pt ke st le 1 re nu du ha)) = QF
  have hq : QFok g rmX6_nozzle_b1 (Qf (some (.int 0)) (MW g a z hi tx ai pa tu pt ke st le 1 re nu du ha)) QF := hQF ▸ QFr.q
  refine V.aload_n 0 rfl dX6_nozzle_0 rfl ?_
  refine V.iload_n 1 rfl dX6_nozzle_1 rfl ?_
  refine V.callSf (ws2 := MW g a z hi tx ai pa tu pt ke st le th re nu du ha) (st2 := [.int (bi (wi v 0 3)), .ref (a 0)]) [.int v] [.ref (a 0)] (kX6_isNozzle g v ) gX6_nozzle_X6_isNozzle rfl (by show _ ∧ _ ∧ _ = some (1 : Nat); decide +kernel) ⟨Nat.le_of_ble_eq_true rfl, Nat.le_of_ble_eq_true rfl⟩ [] (by decide) rfl rfl (Nat.le_of_ble_eq_true rfl) ⟨Nat.le_of_ble_eq_true rfl, Nat.le_of_ble_eq_true rfl⟩ dX6_nozzle_2 rfl (List.append_nil _) rfl rfl rfl ?_
  rw [h0]
  refine V.if_ne_f (tgt := 12) (by decide) dX6_nozzle_5 (by decide) ?_
  refine V.iconst (v := 1) dX6_nozzle_8 (by decide) ?_
  refine V.goto (tgt := 26) dX6_nozzle_9 (by decide) ?_
  refine V.put (v := .int 1) (ws2 := MW g a z hi tx ai pa tu pt ke st le 1 re nu du ha) (fun w H => List.mem_cons_of_mem _ (List.mem_append_right _ H)) tyX6 tyX6_ok nmX6 (hc := (rfl : vwCl[6]? = some (RX6, TX6, 15))) 0 5 (by decide) (List.mem_of_getElem? (i := 1) rfl) rfl rfl (tyX6_ok 5 (by decide)) rfl rfl (Nat.le_of_ble_eq_true rfl) rfl dX6_nozzle_26 ?_
  refine V.aload_n 0 rfl dX6_nozzle_29 rfl ?_
  refine V.get (v := .int 1) (fun w H => List.mem_cons_of_mem _ (List.mem_append_right _ H)) (hc := (rfl : vwCl[6]? = some (RX6, TX6, 15))) 0 5 (by decide) (List.mem_of_getElem? (i := 1) rfl) rfl rfl dX6_nozzle_30 ?_
  refine V.if_le_f (tgt := 40) (by decide) dX6_nozzle_33 (by decide) ?_
  refine V.iconst (v := 0) dX6_nozzle_36 (by decide) ?_
  refine V.goto (tgt := 46) dX6_nozzle_37 (by decide) ?_
  exact V.iret hq XM.r (Nat.le_of_ble_eq_true rfl) (Nat.le_of_ble_eq_true rfl) ⟨rfl, rfl⟩ dX6_nozzle_46
abbrev rmX6_nozzle_b2 : Room := { frames := 2, cells := 0, slots := 0, locals := 42 }
set_option maxHeartbeats 4000000 in
set_option maxRecDepth 100000 in
theorem kX6_nozzle_b2 (g : GT) (a : Nat → Nat) (z hi tx ai pa tu pt ke : Nat → Int32) (st le th re nu du : Int32) (ha : Int64) (v : Int32) (k : Int32) (h0 : wi v 0 3 = true) (h1 : wi k 0 4 = false) : UC g yX6_nozzle wsX6_nozzle rmX6_nozzle_b2 [.ref (a 0), .int v, .int k] (MW g a z hi tx ai pa tu pt ke st le th re nu du ha) (Qf (some (.int 0)) (MW g a z hi tx ai pa tu pt ke st le 2 re nu du ha)) := by
  refine UC.ofV (cc := cX6_nozzle) (maxL := 3) (ret := some .int) (lv0 := [(0, .ref (a 0)), (1, .int v), (2, .int k)]) (by decide) rfl (Nat.le_of_ble_eq_true rfl) rfl ?_
  generalize hQF : QFr g rmX6_nozzle_b2 (Qf (some (.int 0)) (MW g a z hi tx ai pa tu pt ke st le 2 re nu du ha)) = QF
  have hq : QFok g rmX6_nozzle_b2 (Qf (some (.int 0)) (MW g a z hi tx ai pa tu pt ke st le 2 re nu du ha)) QF := hQF ▸ QFr.q
  refine V.aload_n 0 rfl dX6_nozzle_0 rfl ?_
  refine V.iload_n 1 rfl dX6_nozzle_1 rfl ?_
  refine V.callSf (ws2 := MW g a z hi tx ai pa tu pt ke st le th re nu du ha) (st2 := [.int (bi (wi v 0 3)), .ref (a 0)]) [.int v] [.ref (a 0)] (kX6_isNozzle g v ) gX6_nozzle_X6_isNozzle rfl (by show _ ∧ _ ∧ _ = some (1 : Nat); decide +kernel) ⟨Nat.le_of_ble_eq_true rfl, Nat.le_of_ble_eq_true rfl⟩ [] (by decide) rfl rfl (Nat.le_of_ble_eq_true rfl) ⟨Nat.le_of_ble_eq_true rfl, Nat.le_of_ble_eq_true rfl⟩ dX6_nozzle_2 rfl (List.append_nil _) rfl rfl rfl ?_
  rw [h0]
  refine V.if_ne_t (tgt := 12) (by decide) dX6_nozzle_5 (by decide) ?_
  refine V.iload_n 2 rfl dX6_nozzle_12 rfl ?_
  refine V.iconst (v := 0) dX6_nozzle_13 (by decide) ?_
  refine V.iconst (v := 4) dX6_nozzle_14 (by decide) ?_
  refine V.callSf (ws2 := MW g a z hi tx ai pa tu pt ke st le th re nu du ha) (st2 := [.int (bi (wi k (0 : Int32) (4 : Int32))), .ref (a 0)]) [.int k, .int 0, .int 4] [.ref (a 0)] (kX6_within g k (0 : Int32) (4 : Int32) ) gX6_nozzle_X6_within rfl (by show _ ∧ _ ∧ _ = some (3 : Nat); decide +kernel) ⟨Nat.le_of_ble_eq_true rfl, Nat.le_of_ble_eq_true rfl⟩ [] (by decide) rfl rfl (Nat.le_of_ble_eq_true rfl) ⟨Nat.le_of_ble_eq_true rfl, Nat.le_of_ble_eq_true rfl⟩ dX6_nozzle_15 rfl (List.append_nil _) rfl rfl rfl ?_
  rw [h1]
  refine V.if_eq_t (tgt := 25) (by decide) dX6_nozzle_18 (by decide) ?_
  refine V.iconst (v := 2) dX6_nozzle_25 (by decide) ?_
  refine V.put (v := .int 2) (ws2 := MW g a z hi tx ai pa tu pt ke st le 2 re nu du ha) (fun w H => List.mem_cons_of_mem _ (List.mem_append_right _ H)) tyX6 tyX6_ok nmX6 (hc := (rfl : vwCl[6]? = some (RX6, TX6, 15))) 0 5 (by decide) (List.mem_of_getElem? (i := 1) rfl) rfl rfl (tyX6_ok 5 (by decide)) rfl rfl (Nat.le_of_ble_eq_true rfl) rfl dX6_nozzle_26 ?_
  refine V.aload_n 0 rfl dX6_nozzle_29 rfl ?_
  refine V.get (v := .int 2) (fun w H => List.mem_cons_of_mem _ (List.mem_append_right _ H)) (hc := (rfl : vwCl[6]? = some (RX6, TX6, 15))) 0 5 (by decide) (List.mem_of_getElem? (i := 1) rfl) rfl rfl dX6_nozzle_30 ?_
  refine V.if_le_f (tgt := 40) (by decide) dX6_nozzle_33 (by decide) ?_
  refine V.iconst (v := 0) dX6_nozzle_36 (by decide) ?_
  refine V.goto (tgt := 46) dX6_nozzle_37 (by decide) ?_
  exact V.iret hq XM.r (Nat.le_of_ble_eq_true rfl) (Nat.le_of_ble_eq_true rfl) ⟨rfl, rfl⟩ dX6_nozzle_46
abbrev rmX6_nozzle_ok : Room := { frames := 2, cells := 0, slots := 0, locals := 42 }
set_option maxHeartbeats 4000000 in
set_option maxRecDepth 100000 in
theorem kX6_nozzle_ok (g : GT) (a : Nat → Nat) (z hi tx ai pa tu pt ke : Nat → Int32) (st le th re nu du : Int32) (ha : Int64) (n : Nat) (k : Nat) (hn : n < 4) (hk : k < 5) (h0 : wi (nI n) 0 3 = true) (h1 : wi (nI k) 0 4 = true) : UC g yX6_nozzle wsX6_nozzle rmX6_nozzle_ok [.ref (a 0), .int (nI n), .int (nI k)] (MW g a z hi tx ai pa tu pt ke st le th re nu du ha) (Qf (some (.int (z (196 + 5 * n + k)))) (MW g a z hi tx ai pa tu pt ke st le 0 re nu du ha)) := by
  refine UC.ofV (cc := cX6_nozzle) (maxL := 3) (ret := some .int) (lv0 := [(0, .ref (a 0)), (1, .int (nI n)), (2, .int (nI k))]) (by decide) rfl (Nat.le_of_ble_eq_true rfl) rfl ?_
  generalize hQF : QFr g rmX6_nozzle_ok (Qf (some (.int (z (196 + 5 * n + k)))) (MW g a z hi tx ai pa tu pt ke st le 0 re nu du ha)) = QF
  have hq : QFok g rmX6_nozzle_ok (Qf (some (.int (z (196 + 5 * n + k)))) (MW g a z hi tx ai pa tu pt ke st le 0 re nu du ha)) QF := hQF ▸ QFr.q
  refine V.aload_n 0 rfl dX6_nozzle_0 rfl ?_
  refine V.iload_n 1 rfl dX6_nozzle_1 rfl ?_
  refine V.callSf (ws2 := MW g a z hi tx ai pa tu pt ke st le th re nu du ha) (st2 := [.int (bi (wi (nI n) 0 3)), .ref (a 0)]) [.int (nI n)] [.ref (a 0)] (kX6_isNozzle g (nI n) ) gX6_nozzle_X6_isNozzle rfl (by show _ ∧ _ ∧ _ = some (1 : Nat); decide +kernel) ⟨Nat.le_of_ble_eq_true rfl, Nat.le_of_ble_eq_true rfl⟩ [] (by decide) rfl rfl (Nat.le_of_ble_eq_true rfl) ⟨Nat.le_of_ble_eq_true rfl, Nat.le_of_ble_eq_true rfl⟩ dX6_nozzle_2 rfl (List.append_nil _) rfl rfl rfl ?_
  rw [h0]
  refine V.if_ne_t (tgt := 12) (by decide) dX6_nozzle_5 (by decide) ?_
  refine V.iload_n 2 rfl dX6_nozzle_12 rfl ?_
  refine V.iconst (v := 0) dX6_nozzle_13 (by decide) ?_
  refine V.iconst (v := 4) dX6_nozzle_14 (by decide) ?_
  refine V.callSf (ws2 := MW g a z hi tx ai pa tu pt ke st le th re nu du ha) (st2 := [.int (bi (wi (nI k) (0 : Int32) (4 : Int32))), .ref (a 0)]) [.int (nI k), .int 0, .int 4] [.ref (a 0)] (kX6_within g (nI k) (0 : Int32) (4 : Int32) ) gX6_nozzle_X6_within rfl (by show _ ∧ _ ∧ _ = some (3 : Nat); decide +kernel) ⟨Nat.le_of_ble_eq_true rfl, Nat.le_of_ble_eq_true rfl⟩ [] (by decide) rfl rfl (Nat.le_of_ble_eq_true rfl) ⟨Nat.le_of_ble_eq_true rfl, Nat.le_of_ble_eq_true rfl⟩ dX6_nozzle_15 rfl (List.append_nil _) rfl rfl rfl ?_
  rw [h1]
  refine V.if_eq_f (tgt := 25) (by decide) dX6_nozzle_18 (by decide) ?_
  refine V.iconst (v := 0) dX6_nozzle_21 (by decide) ?_
  refine V.goto (tgt := 26) dX6_nozzle_22 (by decide) ?_
  refine V.put (v := .int 0) (ws2 := MW g a z hi tx ai pa tu pt ke st le 0 re nu du ha) (fun w H => List.mem_cons_of_mem _ (List.mem_append_right _ H)) tyX6 tyX6_ok nmX6 (hc := (rfl : vwCl[6]? = some (RX6, TX6, 15))) 0 5 (by decide) (List.mem_of_getElem? (i := 1) rfl) rfl rfl (tyX6_ok 5 (by decide)) rfl rfl (Nat.le_of_ble_eq_true rfl) rfl dX6_nozzle_26 ?_
  refine V.aload_n 0 rfl dX6_nozzle_29 rfl ?_
  refine V.get (v := .int 0) (fun w H => List.mem_cons_of_mem _ (List.mem_append_right _ H)) (hc := (rfl : vwCl[6]? = some (RX6, TX6, 15))) 0 5 (by decide) (List.mem_of_getElem? (i := 1) rfl) rfl rfl dX6_nozzle_30 ?_
  refine V.if_le_t (tgt := 40) (by decide) dX6_nozzle_33 (by decide) ?_
  refine V.aload_n 0 rfl dX6_nozzle_40 rfl ?_
  refine V.iload_n 1 rfl dX6_nozzle_41 rfl ?_
  refine V.iload_n 2 rfl dX6_nozzle_42 rfl ?_
  refine V.callVf (ws2 := MW g a z hi tx ai pa tu pt ke st le 0 re nu du ha) (st2 := [.int (z (196 + 5 * n + k))]) [.int (nI n), .int (nI k)] [] (kX6_ofNozzle g a z hi tx ai pa tu pt ke st le 0 re nu du ha n k hn hk) gX6_nozzle_X6_ofNozzle rfl (by show _ ∧ _ ∧ _ ∧ _ = some (2 : Nat); decide +kernel) ⟨Nat.le_of_ble_eq_true rfl, Nat.le_of_ble_eq_true rfl⟩ (hc := (rfl : vwCl[6]? = some (RX6, TX6, 15))) 0 rfl [0, 1, 2, 3, 4, 5, 6, 7, 8] (by decide) rfl rfl (Nat.le_of_ble_eq_true rfl) ⟨Nat.le_of_ble_eq_true rfl, Nat.le_of_ble_eq_true rfl⟩ dX6_nozzle_43 MWf rfl rfl rfl rfl ?_
  exact V.iret hq XM.r (Nat.le_of_ble_eq_true rfl) (Nat.le_of_ble_eq_true rfl) ⟨rfl, rfl⟩ dX6_nozzle_46
abbrev rmX6_trust_b1 : Room := { frames := 2, cells := 0, slots := 0, locals := 42 }
set_option maxHeartbeats 4000000 in
set_option maxRecDepth 100000 in
theorem kX6_trust_b1 (g : GT) (a : Nat → Nat) (z hi tx ai pa tu pt ke : Nat → Int32) (st le th re nu du : Int32) (ha : Int64) (v : Int32) (k : Int32) (h0 : wi v 0 3 = false) : UC g yX6_trust wsX6_trust rmX6_trust_b1 [.ref (a 0), .int v, .int k] (MW g a z hi tx ai pa tu pt ke st le th re nu du ha) (Qf (some (.int 0)) (MW g a z hi tx ai pa tu pt ke st le 1 re nu du ha)) := by
  refine UC.ofV (cc := cX6_trust) (maxL := 3) (ret := some .int) (lv0 := [(0, .ref (a 0)), (1, .int v), (2, .int k)]) (by decide) rfl (Nat.le_of_ble_eq_true rfl) rfl ?_
  generalize hQF : QFr g rmX6_trust_b1 (Qf (some (.int 0)) (MW g a z hi tx ai pa tu pt ke st le 1 re nu du ha)) = QF
  have hq : QFok g rmX6_trust_b1 (Qf (some (.int 0)) (MW g a z hi tx ai pa tu pt ke st le 1 re nu du ha)) QF := hQF ▸ QFr.q
  refine V.aload_n 0 rfl dX6_trust_0 rfl ?_
  refine V.iload_n 1 rfl dX6_trust_1 rfl ?_
  refine V.callSf (ws2 := MW g a z hi tx ai pa tu pt ke st le th re nu du ha) (st2 := [.int (bi (wi v 0 3)), .ref (a 0)]) [.int v] [.ref (a 0)] (kX6_isNozzle g v ) gX6_trust_X6_isNozzle rfl (by show _ ∧ _ ∧ _ = some (1 : Nat); decide +kernel) ⟨Nat.le_of_ble_eq_true rfl, Nat.le_of_ble_eq_true rfl⟩ [] (by decide) rfl rfl (Nat.le_of_ble_eq_true rfl) ⟨Nat.le_of_ble_eq_true rfl, Nat.le_of_ble_eq_true rfl⟩ dX6_trust_2 rfl (List.append_nil _) rfl rfl rfl ?_
  rw [h0]
  refine V.if_eq_t (tgt := 20) (by decide) dX6_trust_5 (by decide) ?_
  refine V.iconst (v := 1) dX6_trust_20 (by decide) ?_
  refine V.put (v := .int 1) (ws2 := MW g a z hi tx ai pa tu pt ke st le 1 re nu du ha) (fun w H => List.mem_cons_of_mem _ (List.mem_append_right _ H)) tyX6 tyX6_ok nmX6 (hc := (rfl : vwCl[6]? = some (RX6, TX6, 15))) 0 5 (by decide) (List.mem_of_getElem? (i := 1) rfl) rfl rfl (tyX6_ok 5 (by decide)) rfl rfl (Nat.le_of_ble_eq_true rfl) rfl dX6_trust_21 ?_
  refine V.aload_n 0 rfl dX6_trust_24 rfl ?_
  refine V.get (v := .int 1) (fun w H => List.mem_cons_of_mem _ (List.mem_append_right _ H)) (hc := (rfl : vwCl[6]? = some (RX6, TX6, 15))) 0 5 (by decide) (List.mem_of_getElem? (i := 1) rfl) rfl rfl dX6_trust_25 ?_
  refine V.if_le_f (tgt := 35) (by decide) dX6_trust_28 (by decide) ?_
  refine V.iconst (v := 0) dX6_trust_31 (by decide) ?_
  refine V.goto (tgt := 41) dX6_trust_32 (by decide) ?_
  exact V.iret hq XM.r (Nat.le_of_ble_eq_true rfl) (Nat.le_of_ble_eq_true rfl) ⟨rfl, rfl⟩ dX6_trust_41
abbrev rmX6_trust_b2 : Room := { frames := 2, cells := 0, slots := 0, locals := 43 }
set_option maxHeartbeats 4000000 in
set_option maxRecDepth 100000 in
theorem kX6_trust_b2 (g : GT) (a : Nat → Nat) (z hi tx ai pa tu pt ke : Nat → Int32) (st le th re nu du : Int32) (ha : Int64) (v : Int32) (k : Int32) (h0 : wi v 0 3 = true) (h1 : wi k 0 (z 5 - 1) = false) : UC g yX6_trust wsX6_trust rmX6_trust_b2 [.ref (a 0), .int v, .int k] (MW g a z hi tx ai pa tu pt ke st le th re nu du ha) (Qf (some (.int 0)) (MW g a z hi tx ai pa tu pt ke st le 1 re nu du ha)) := by
  refine UC.ofV (cc := cX6_trust) (maxL := 3) (ret := some .int) (lv0 := [(0, .ref (a 0)), (1, .int v), (2, .int k)]) (by decide) rfl (Nat.le_of_ble_eq_true rfl) rfl ?_
  generalize hQF : QFr g rmX6_trust_b2 (Qf (some (.int 0)) (MW g a z hi tx ai pa tu pt ke st le 1 re nu du ha)) = QF
  have hq : QFok g rmX6_trust_b2 (Qf (some (.int 0)) (MW g a z hi tx ai pa tu pt ke st le 1 re nu du ha)) QF := hQF ▸ QFr.q
  refine V.aload_n 0 rfl dX6_trust_0 rfl ?_
  refine V.iload_n 1 rfl dX6_trust_1 rfl ?_
  refine V.callSf (ws2 := MW g a z hi tx ai pa tu pt ke st le th re nu du ha) (st2 := [.int (bi (wi v 0 3)), .ref (a 0)]) [.int v] [.ref (a 0)] (kX6_isNozzle g v ) gX6_trust_X6_isNozzle rfl (by show _ ∧ _ ∧ _ = some (1 : Nat); decide +kernel) ⟨Nat.le_of_ble_eq_true rfl, Nat.le_of_ble_eq_true rfl⟩ [] (by decide) rfl rfl (Nat.le_of_ble_eq_true rfl) ⟨Nat.le_of_ble_eq_true rfl, Nat.le_of_ble_eq_true rfl⟩ dX6_trust_2 rfl (List.append_nil _) rfl rfl rfl ?_
  rw [h0]
  refine V.if_eq_f (tgt := 20) (by decide) dX6_trust_5 (by decide) ?_
  refine V.aload_n 0 rfl dX6_trust_8 rfl ?_
  refine V.iload_n 2 rfl dX6_trust_9 rfl ?_
  refine V.callVf (ws2 := MW g a z hi tx ai pa tu pt ke st le th re nu du ha) (st2 := [.int (bi (wi k 0 (z 5 - 1))), .ref (a 0)]) [.int k] [.ref (a 0)] (kX6_isFeeder g a z hi tx ai pa tu pt ke st le th re nu du ha k ) gX6_trust_X6_isFeeder rfl (by show _ ∧ _ ∧ _ ∧ _ = some (1 : Nat); decide +kernel) ⟨Nat.le_of_ble_eq_true rfl, Nat.le_of_ble_eq_true rfl⟩ (hc := (rfl : vwCl[6]? = some (RX6, TX6, 15))) 0 rfl [0, 1, 2, 3, 4, 5, 6, 7, 8] (by decide) rfl rfl (Nat.le_of_ble_eq_true rfl) ⟨Nat.le_of_ble_eq_true rfl, Nat.le_of_ble_eq_true rfl⟩ dX6_trust_10 MWf rfl rfl rfl rfl ?_
  rw [h1]
  refine V.if_eq_t (tgt := 20) (by decide) dX6_trust_13 (by decide) ?_
  refine V.iconst (v := 1) dX6_trust_20 (by decide) ?_
  refine V.put (v := .int 1) (ws2 := MW g a z hi tx ai pa tu pt ke st le 1 re nu du ha) (fun w H => List.mem_cons_of_mem _ (List.mem_append_right _ H)) tyX6 tyX6_ok nmX6 (hc := (rfl : vwCl[6]? = some (RX6, TX6, 15))) 0 5 (by decide) (List.mem_of_getElem? (i := 1) rfl) rfl rfl (tyX6_ok 5 (by decide)) rfl rfl (Nat.le_of_ble_eq_true rfl) rfl dX6_trust_21 ?_
  refine V.aload_n 0 rfl dX6_trust_24 rfl ?_
  refine V.get (v := .int 1) (fun w H => List.mem_cons_of_mem _ (List.mem_append_right _ H)) (hc := (rfl : vwCl[6]? = some (RX6, TX6, 15))) 0 5 (by decide) (List.mem_of_getElem? (i := 1) rfl) rfl rfl dX6_trust_25 ?_
  refine V.if_le_f (tgt := 35) (by decide) dX6_trust_28 (by decide) ?_
  refine V.iconst (v := 0) dX6_trust_31 (by decide) ?_
  refine V.goto (tgt := 41) dX6_trust_32 (by decide) ?_
  exact V.iret hq XM.r (Nat.le_of_ble_eq_true rfl) (Nat.le_of_ble_eq_true rfl) ⟨rfl, rfl⟩ dX6_trust_41
abbrev rmX6_trust_ok : Room := { frames := 2, cells := 0, slots := 0, locals := 43 }
set_option maxHeartbeats 4000000 in
set_option maxRecDepth 100000 in
theorem kX6_trust_ok (g : GT) (a : Nat → Nat) (z hi tx ai pa tu pt ke : Nat → Int32) (st le th re nu du : Int32) (ha : Int64) (n : Nat) (f : Nat) (hn : n < 4) (hf : f < 8) (h0 : wi (nI n) 0 3 = true) (h1 : wi (nI f) 0 (z 5 - 1) = true) : UC g yX6_trust wsX6_trust rmX6_trust_ok [.ref (a 0), .int (nI n), .int (nI f)] (MW g a z hi tx ai pa tu pt ke st le th re nu du ha) (Qf (some (.int (z (216 + 8 * n + f)))) (MW g a z hi tx ai pa tu pt ke st le 0 re nu du ha)) := by
  refine UC.ofV (cc := cX6_trust) (maxL := 3) (ret := some .int) (lv0 := [(0, .ref (a 0)), (1, .int (nI n)), (2, .int (nI f))]) (by decide) rfl (Nat.le_of_ble_eq_true rfl) rfl ?_
  generalize hQF : QFr g rmX6_trust_ok (Qf (some (.int (z (216 + 8 * n + f)))) (MW g a z hi tx ai pa tu pt ke st le 0 re nu du ha)) = QF
  have hq : QFok g rmX6_trust_ok (Qf (some (.int (z (216 + 8 * n + f)))) (MW g a z hi tx ai pa tu pt ke st le 0 re nu du ha)) QF := hQF ▸ QFr.q
  refine V.aload_n 0 rfl dX6_trust_0 rfl ?_
  refine V.iload_n 1 rfl dX6_trust_1 rfl ?_
  refine V.callSf (ws2 := MW g a z hi tx ai pa tu pt ke st le th re nu du ha) (st2 := [.int (bi (wi (nI n) 0 3)), .ref (a 0)]) [.int (nI n)] [.ref (a 0)] (kX6_isNozzle g (nI n) ) gX6_trust_X6_isNozzle rfl (by show _ ∧ _ ∧ _ = some (1 : Nat); decide +kernel) ⟨Nat.le_of_ble_eq_true rfl, Nat.le_of_ble_eq_true rfl⟩ [] (by decide) rfl rfl (Nat.le_of_ble_eq_true rfl) ⟨Nat.le_of_ble_eq_true rfl, Nat.le_of_ble_eq_true rfl⟩ dX6_trust_2 rfl (List.append_nil _) rfl rfl rfl ?_
  rw [h0]
  refine V.if_eq_f (tgt := 20) (by decide) dX6_trust_5 (by decide) ?_
  refine V.aload_n 0 rfl dX6_trust_8 rfl ?_
  refine V.iload_n 2 rfl dX6_trust_9 rfl ?_
  refine V.callVf (ws2 := MW g a z hi tx ai pa tu pt ke st le th re nu du ha) (st2 := [.int (bi (wi (nI f) 0 (z 5 - 1))), .ref (a 0)]) [.int (nI f)] [.ref (a 0)] (kX6_isFeeder g a z hi tx ai pa tu pt ke st le th re nu du ha (nI f) ) gX6_trust_X6_isFeeder rfl (by show _ ∧ _ ∧ _ ∧ _ = some (1 : Nat); decide +kernel) ⟨Nat.le_of_ble_eq_true rfl, Nat.le_of_ble_eq_true rfl⟩ (hc := (rfl : vwCl[6]? = some (RX6, TX6, 15))) 0 rfl [0, 1, 2, 3, 4, 5, 6, 7, 8] (by decide) rfl rfl (Nat.le_of_ble_eq_true rfl) ⟨Nat.le_of_ble_eq_true rfl, Nat.le_of_ble_eq_true rfl⟩ dX6_trust_10 MWf rfl rfl rfl rfl ?_
  rw [h1]
  refine V.if_eq_f (tgt := 20) (by decide) dX6_trust_13 (by decide) ?_
  refine V.iconst (v := 0) dX6_trust_16 (by decide) ?_
  refine V.goto (tgt := 21) dX6_trust_17 (by decide) ?_
  refine V.put (v := .int 0) (ws2 := MW g a z hi tx ai pa tu pt ke st le 0 re nu du ha) (fun w H => List.mem_cons_of_mem _ (List.mem_append_right _ H)) tyX6 tyX6_ok nmX6 (hc := (rfl : vwCl[6]? = some (RX6, TX6, 15))) 0 5 (by decide) (List.mem_of_getElem? (i := 1) rfl) rfl rfl (tyX6_ok 5 (by decide)) rfl rfl (Nat.le_of_ble_eq_true rfl) rfl dX6_trust_21 ?_
  refine V.aload_n 0 rfl dX6_trust_24 rfl ?_
  refine V.get (v := .int 0) (fun w H => List.mem_cons_of_mem _ (List.mem_append_right _ H)) (hc := (rfl : vwCl[6]? = some (RX6, TX6, 15))) 0 5 (by decide) (List.mem_of_getElem? (i := 1) rfl) rfl rfl dX6_trust_25 ?_
  refine V.if_le_t (tgt := 35) (by decide) dX6_trust_28 (by decide) ?_
  refine V.aload_n 0 rfl dX6_trust_35 rfl ?_
  refine V.iload_n 1 rfl dX6_trust_36 rfl ?_
  refine V.iload_n 2 rfl dX6_trust_37 rfl ?_
  refine V.callVf (ws2 := MW g a z hi tx ai pa tu pt ke st le 0 re nu du ha) (st2 := [.int (z (216 + 8 * n + f))]) [.int (nI n), .int (nI f)] [] (kX6_trustOf g a z hi tx ai pa tu pt ke st le 0 re nu du ha n f hn hf) gX6_trust_X6_trustOf rfl (by show _ ∧ _ ∧ _ ∧ _ = some (2 : Nat); decide +kernel) ⟨Nat.le_of_ble_eq_true rfl, Nat.le_of_ble_eq_true rfl⟩ (hc := (rfl : vwCl[6]? = some (RX6, TX6, 15))) 0 rfl [0, 1, 2, 3, 4, 5, 6, 7, 8] (by decide) rfl rfl (Nat.le_of_ble_eq_true rfl) ⟨Nat.le_of_ble_eq_true rfl, Nat.le_of_ble_eq_true rfl⟩ dX6_trust_38 MWf rfl rfl rfl rfl ?_
  exact V.iret hq XM.r (Nat.le_of_ble_eq_true rfl) (Nat.le_of_ble_eq_true rfl) ⟨rfl, rfl⟩ dX6_trust_41
abbrev rmX6_count_b1 : Room := { frames := 1, cells := 0, slots := 0, locals := 22 }
set_option maxHeartbeats 4000000 in
set_option maxRecDepth 100000 in
theorem kX6_count_b1 (g : GT) (a : Nat → Nat) (z hi tx ai pa tu pt ke : Nat → Int32) (st le th re nu du : Int32) (ha : Int64) (v : Int32) (h0 : wi v 0 13 = false) : UC g yX6_count wsX6_count rmX6_count_b1 [.ref (a 0), .int v] (MW g a z hi tx ai pa tu pt ke st le th re nu du ha) (Qf (some (.int 0)) (MW g a z hi tx ai pa tu pt ke st le 1 re nu du ha)) := by
  refine UC.ofV (cc := cX6_count) (maxL := 2) (ret := some .int) (lv0 := [(0, .ref (a 0)), (1, .int v)]) (by decide) rfl (Nat.le_of_ble_eq_true rfl) rfl ?_
  generalize hQF : QFr g rmX6_count_b1 (Qf (some (.int 0)) (MW g a z hi tx ai pa tu pt ke st le 1 re nu du ha)) = QF
  have hq : QFok g rmX6_count_b1 (Qf (some (.int 0)) (MW g a z hi tx ai pa tu pt ke st le 1 re nu du ha)) QF := hQF ▸ QFr.q
  refine V.aload_n 0 rfl dX6_count_0 rfl ?_
  refine V.iload_n 1 rfl dX6_count_1 rfl ?_
  refine V.iconst (v := 0) dX6_count_2 (by decide) ?_
  refine V.bipush (v := 13) dX6_count_3 (by decide) ?_
  refine V.callSf (ws2 := MW g a z hi tx ai pa tu pt ke st le th re nu du ha) (st2 := [.int (bi (wi v (0 : Int32) (13 : Int32))), .ref (a 0)]) [.int v, .int 0, .int 13] [.ref (a 0)] (kX6_within g v (0 : Int32) (13 : Int32) ) gX6_count_X6_within rfl (by show _ ∧ _ ∧ _ = some (3 : Nat); decide +kernel) ⟨Nat.le_of_ble_eq_true rfl, Nat.le_of_ble_eq_true rfl⟩ [] (by decide) rfl rfl (Nat.le_of_ble_eq_true rfl) ⟨Nat.le_of_ble_eq_true rfl, Nat.le_of_ble_eq_true rfl⟩ dX6_count_5 rfl (List.append_nil _) rfl rfl rfl ?_
  rw [h0]
  refine V.if_eq_t (tgt := 15) (by decide) dX6_count_8 (by decide) ?_
  refine V.iconst (v := 1) dX6_count_15 (by decide) ?_
  refine V.put (v := .int 1) (ws2 := MW g a z hi tx ai pa tu pt ke st le 1 re nu du ha) (fun w H => List.mem_cons_of_mem _ (List.mem_append_right _ H)) tyX6 tyX6_ok nmX6 (hc := (rfl : vwCl[6]? = some (RX6, TX6, 15))) 0 5 (by decide) (List.mem_of_getElem? (i := 1) rfl) rfl rfl (tyX6_ok 5 (by decide)) rfl rfl (Nat.le_of_ble_eq_true rfl) rfl dX6_count_16 ?_
  refine V.aload_n 0 rfl dX6_count_19 rfl ?_
  refine V.get (v := .int 1) (fun w H => List.mem_cons_of_mem _ (List.mem_append_right _ H)) (hc := (rfl : vwCl[6]? = some (RX6, TX6, 15))) 0 5 (by decide) (List.mem_of_getElem? (i := 1) rfl) rfl rfl dX6_count_20 ?_
  refine V.if_le_f (tgt := 30) (by decide) dX6_count_23 (by decide) ?_
  refine V.iconst (v := 0) dX6_count_26 (by decide) ?_
  refine V.goto (tgt := 35) dX6_count_27 (by decide) ?_
  exact V.iret hq XM.r (Nat.le_of_ble_eq_true rfl) (Nat.le_of_ble_eq_true rfl) ⟨rfl, rfl⟩ dX6_count_35
abbrev rmX6_count_ok : Room := { frames := 3, cells := 0, slots := 0, locals := 66 }
set_option maxHeartbeats 4000000 in
set_option maxRecDepth 100000 in
theorem kX6_count_ok (g : GT) (a : Nat → Nat) (z hi tx ai pa tu pt ke : Nat → Int32) (le th re nu du : Int32) (ha : Int64) (k : Nat) (sn : Nat) (hk : k < 14) (h0 : wi (nI k) 0 13 = true) (hF : z 5 = nI (nf z)) (hF8 : nf z ≤ 8) (hP : z 6 = nI (np z)) (hP24 : np z ≤ 24) : UC g yX6_count wsX6_count rmX6_count_ok [.ref (a 0), .int (nI k)] (MW g a z hi tx ai pa tu pt ke (nI sn) le th re nu du ha) (Qf (some (.int (ctd z sn k))) (MW g a z hi tx ai pa tu pt ke (nI sn) le 0 re nu du ha)) := by
  refine UC.ofV (cc := cX6_count) (maxL := 2) (ret := some .int) (lv0 := [(0, .ref (a 0)), (1, .int (nI k))]) (by decide) rfl (Nat.le_of_ble_eq_true rfl) rfl ?_
  generalize hQF : QFr g rmX6_count_ok (Qf (some (.int (ctd z sn k))) (MW g a z hi tx ai pa tu pt ke (nI sn) le 0 re nu du ha)) = QF
  have hq : QFok g rmX6_count_ok (Qf (some (.int (ctd z sn k))) (MW g a z hi tx ai pa tu pt ke (nI sn) le 0 re nu du ha)) QF := hQF ▸ QFr.q
  refine V.aload_n 0 rfl dX6_count_0 rfl ?_
  refine V.iload_n 1 rfl dX6_count_1 rfl ?_
  refine V.iconst (v := 0) dX6_count_2 (by decide) ?_
  refine V.bipush (v := 13) dX6_count_3 (by decide) ?_
  refine V.callSf (ws2 := MW g a z hi tx ai pa tu pt ke (nI sn) le th re nu du ha) (st2 := [.int (bi (wi (nI k) (0 : Int32) (13 : Int32))), .ref (a 0)]) [.int (nI k), .int 0, .int 13] [.ref (a 0)] (kX6_within g (nI k) (0 : Int32) (13 : Int32) ) gX6_count_X6_within rfl (by show _ ∧ _ ∧ _ = some (3 : Nat); decide +kernel) ⟨Nat.le_of_ble_eq_true rfl, Nat.le_of_ble_eq_true rfl⟩ [] (by decide) rfl rfl (Nat.le_of_ble_eq_true rfl) ⟨Nat.le_of_ble_eq_true rfl, Nat.le_of_ble_eq_true rfl⟩ dX6_count_5 rfl (List.append_nil _) rfl rfl rfl ?_
  rw [h0]
  refine V.if_eq_f (tgt := 15) (by decide) dX6_count_8 (by decide) ?_
  refine V.iconst (v := 0) dX6_count_11 (by decide) ?_
  refine V.goto (tgt := 16) dX6_count_12 (by decide) ?_
  refine V.put (v := .int 0) (ws2 := MW g a z hi tx ai pa tu pt ke (nI sn) le 0 re nu du ha) (fun w H => List.mem_cons_of_mem _ (List.mem_append_right _ H)) tyX6 tyX6_ok nmX6 (hc := (rfl : vwCl[6]? = some (RX6, TX6, 15))) 0 5 (by decide) (List.mem_of_getElem? (i := 1) rfl) rfl rfl (tyX6_ok 5 (by decide)) rfl rfl (Nat.le_of_ble_eq_true rfl) rfl dX6_count_16 ?_
  refine V.aload_n 0 rfl dX6_count_19 rfl ?_
  refine V.get (v := .int 0) (fun w H => List.mem_cons_of_mem _ (List.mem_append_right _ H)) (hc := (rfl : vwCl[6]? = some (RX6, TX6, 15))) 0 5 (by decide) (List.mem_of_getElem? (i := 1) rfl) rfl rfl dX6_count_20 ?_
  refine V.if_le_t (tgt := 30) (by decide) dX6_count_23 (by decide) ?_
  refine V.aload_n 0 rfl dX6_count_30 rfl ?_
  refine V.iload_n 1 rfl dX6_count_31 rfl ?_
  refine V.callVf (ws2 := MW g a z hi tx ai pa tu pt ke (nI sn) le 0 re nu du ha) (st2 := [.int (ctd z sn k)]) [.int (nI k)] [] (kX6_counted g a z hi tx ai pa tu pt ke le 0 re nu du ha k sn hk hF hF8 hP hP24) gX6_count_X6_counted rfl (by show _ ∧ _ ∧ _ ∧ _ = some (1 : Nat); decide +kernel) ⟨Nat.le_of_ble_eq_true rfl, Nat.le_of_ble_eq_true rfl⟩ (hc := (rfl : vwCl[6]? = some (RX6, TX6, 15))) 0 rfl [0, 1, 2, 3, 4, 5, 6, 7, 8] (by decide) rfl rfl (Nat.le_of_ble_eq_true rfl) ⟨Nat.le_of_ble_eq_true rfl, Nat.le_of_ble_eq_true rfl⟩ dX6_count_32 MWf rfl rfl rfl rfl ?_
  exact V.iret hq XM.r (Nat.le_of_ble_eq_true rfl) (Nat.le_of_ble_eq_true rfl) ⟨rfl, rfl⟩ dX6_count_35
abbrev rmX6_setting_b1 : Room := { frames := 2, cells := 0, slots := 0, locals := 42 }
set_option maxHeartbeats 4000000 in
set_option maxRecDepth 100000 in
theorem kX6_setting_b1 (g : GT) (a : Nat → Nat) (z hi tx ai pa tu pt ke : Nat → Int32) (st le th re nu du : Int32) (ha : Int64) (v : Int32) (h0 : wi v 0 4 = false) : UC g yX6_setting wsX6_setting rmX6_setting_b1 [.ref (a 0), .int v] (MW g a z hi tx ai pa tu pt ke st le th re nu du ha) (Qf (some (.int 0)) (MW g a z hi tx ai pa tu pt ke st le 1 re nu du ha)) := by
  refine UC.ofV (cc := cX6_setting) (maxL := 2) (ret := some .int) (lv0 := [(0, .ref (a 0)), (1, .int v)]) (by decide) rfl (Nat.le_of_ble_eq_true rfl) rfl ?_
  generalize hQF : QFr g rmX6_setting_b1 (Qf (some (.int 0)) (MW g a z hi tx ai pa tu pt ke st le 1 re nu du ha)) = QF
  have hq : QFok g rmX6_setting_b1 (Qf (some (.int 0)) (MW g a z hi tx ai pa tu pt ke st le 1 re nu du ha)) QF := hQF ▸ QFr.q
  refine V.aload_n 0 rfl dX6_setting_0 rfl ?_
  refine V.iload_n 1 rfl dX6_setting_1 rfl ?_
  refine V.callSf (ws2 := MW g a z hi tx ai pa tu pt ke st le th re nu du ha) (st2 := [.int (bi (wi v 0 4)), .ref (a 0)]) [.int v] [.ref (a 0)] (kX6_isSetting g v ) gX6_setting_X6_isSetting rfl (by show _ ∧ _ ∧ _ = some (1 : Nat); decide +kernel) ⟨Nat.le_of_ble_eq_true rfl, Nat.le_of_ble_eq_true rfl⟩ [] (by decide) rfl rfl (Nat.le_of_ble_eq_true rfl) ⟨Nat.le_of_ble_eq_true rfl, Nat.le_of_ble_eq_true rfl⟩ dX6_setting_2 rfl (List.append_nil _) rfl rfl rfl ?_
  rw [h0]
  refine V.if_eq_t (tgt := 12) (by decide) dX6_setting_5 (by decide) ?_
  refine V.iconst (v := 1) dX6_setting_12 (by decide) ?_
  refine V.put (v := .int 1) (ws2 := MW g a z hi tx ai pa tu pt ke st le 1 re nu du ha) (fun w H => List.mem_cons_of_mem _ (List.mem_append_right _ H)) tyX6 tyX6_ok nmX6 (hc := (rfl : vwCl[6]? = some (RX6, TX6, 15))) 0 5 (by decide) (List.mem_of_getElem? (i := 1) rfl) rfl rfl (tyX6_ok 5 (by decide)) rfl rfl (Nat.le_of_ble_eq_true rfl) rfl dX6_setting_13 ?_
  refine V.aload_n 0 rfl dX6_setting_16 rfl ?_
  refine V.get (v := .int 1) (fun w H => List.mem_cons_of_mem _ (List.mem_append_right _ H)) (hc := (rfl : vwCl[6]? = some (RX6, TX6, 15))) 0 5 (by decide) (List.mem_of_getElem? (i := 1) rfl) rfl rfl dX6_setting_17 ?_
  refine V.if_le_f (tgt := 27) (by decide) dX6_setting_20 (by decide) ?_
  refine V.iconst (v := 0) dX6_setting_23 (by decide) ?_
  refine V.goto (tgt := 35) dX6_setting_24 (by decide) ?_
  exact V.iret hq XM.r (Nat.le_of_ble_eq_true rfl) (Nat.le_of_ble_eq_true rfl) ⟨rfl, rfl⟩ dX6_setting_35
abbrev rmX6_setting_ok : Room := { frames := 2, cells := 0, slots := 0, locals := 42 }
set_option maxHeartbeats 4000000 in
set_option maxRecDepth 100000 in
theorem kX6_setting_ok (g : GT) (a : Nat → Nat) (z hi tx ai pa tu pt ke : Nat → Int32) (st le th re nu du : Int32) (ha : Int64) (n : Nat) (hn : n < 5) (h0 : wi (nI n) 0 4 = true) : UC g yX6_setting wsX6_setting rmX6_setting_ok [.ref (a 0), .int (nI n)] (MW g a z hi tx ai pa tu pt ke st le th re nu du ha) (Qf (some (.int (z (0 + n)))) (MW g a z hi tx ai pa tu pt ke st le 0 re nu du ha)) := by
  refine UC.ofV (cc := cX6_setting) (maxL := 2) (ret := some .int) (lv0 := [(0, .ref (a 0)), (1, .int (nI n))]) (by decide) rfl (Nat.le_of_ble_eq_true rfl) rfl ?_
  generalize hQF : QFr g rmX6_setting_ok (Qf (some (.int (z (0 + n)))) (MW g a z hi tx ai pa tu pt ke st le 0 re nu du ha)) = QF
  have hq : QFok g rmX6_setting_ok (Qf (some (.int (z (0 + n)))) (MW g a z hi tx ai pa tu pt ke st le 0 re nu du ha)) QF := hQF ▸ QFr.q
  refine V.aload_n 0 rfl dX6_setting_0 rfl ?_
  refine V.iload_n 1 rfl dX6_setting_1 rfl ?_
  refine V.callSf (ws2 := MW g a z hi tx ai pa tu pt ke st le th re nu du ha) (st2 := [.int (bi (wi (nI n) 0 4)), .ref (a 0)]) [.int (nI n)] [.ref (a 0)] (kX6_isSetting g (nI n) ) gX6_setting_X6_isSetting rfl (by show _ ∧ _ ∧ _ = some (1 : Nat); decide +kernel) ⟨Nat.le_of_ble_eq_true rfl, Nat.le_of_ble_eq_true rfl⟩ [] (by decide) rfl rfl (Nat.le_of_ble_eq_true rfl) ⟨Nat.le_of_ble_eq_true rfl, Nat.le_of_ble_eq_true rfl⟩ dX6_setting_2 rfl (List.append_nil _) rfl rfl rfl ?_
  rw [h0]
  refine V.if_eq_f (tgt := 12) (by decide) dX6_setting_5 (by decide) ?_
  refine V.iconst (v := 0) dX6_setting_8 (by decide) ?_
  refine V.goto (tgt := 13) dX6_setting_9 (by decide) ?_
  refine V.put (v := .int 0) (ws2 := MW g a z hi tx ai pa tu pt ke st le 0 re nu du ha) (fun w H => List.mem_cons_of_mem _ (List.mem_append_right _ H)) tyX6 tyX6_ok nmX6 (hc := (rfl : vwCl[6]? = some (RX6, TX6, 15))) 0 5 (by decide) (List.mem_of_getElem? (i := 1) rfl) rfl rfl (tyX6_ok 5 (by decide)) rfl rfl (Nat.le_of_ble_eq_true rfl) rfl dX6_setting_13 ?_
  refine V.aload_n 0 rfl dX6_setting_16 rfl ?_
  refine V.get (v := .int 0) (fun w H => List.mem_cons_of_mem _ (List.mem_append_right _ H)) (hc := (rfl : vwCl[6]? = some (RX6, TX6, 15))) 0 5 (by decide) (List.mem_of_getElem? (i := 1) rfl) rfl rfl dX6_setting_17 ?_
  refine V.if_le_t (tgt := 27) (by decide) dX6_setting_20 (by decide) ?_
  refine V.aload_n 0 rfl dX6_setting_27 rfl ?_
  refine V.get (v := .ref (a 1)) (fun w H => List.mem_cons_of_mem _ (List.mem_append_right _ H)) (hc := (rfl : vwCl[6]? = some (RX6, TX6, 15))) 0 0 (by decide) (List.mem_of_getElem? (i := 2) rfl) rfl rfl dX6_setting_28 ?_
  refine V.iconst (v := 0) dX6_setting_31 (by decide) ?_
  refine V.iload_n 1 rfl dX6_setting_32 rfl ?_
  refine V.iaddN (v := nI (0 + n)) dX6_setting_33 (nI_add 0 n) ?_
  refine V.iald (f := z) 1 (0 + n) rfl rfl (by omega) (by decide) dX6_setting_34 ?_
  exact V.iret hq XM.r (Nat.le_of_ble_eq_true rfl) (Nat.le_of_ble_eq_true rfl) ⟨rfl, rfl⟩ dX6_setting_35
abbrev rmX6_ifToured_b1 : Room := { frames := 2, cells := 0, slots := 0, locals := 42 }
set_option maxHeartbeats 4000000 in
set_option maxRecDepth 100000 in
theorem kX6_ifToured_b1 (g : GT) (a : Nat → Nat) (z hi tx ai pa tu pt ke : Nat → Int32) (st le th re nu du : Int32) (ha : Int64) (v : Int32) (k : Int32) (h0 : wi v 1 20 = false) : UC g yX6_ifToured wsX6_ifToured rmX6_ifToured_b1 [.ref (a 0), .int v, .int k] (MW g a z hi tx ai pa tu pt ke st le th re nu du ha) (Qf (some (.int 0)) (MW g a z hi tx ai pa tu pt ke st le 1 re nu du ha)) := by
  refine UC.ofV (cc := cX6_ifToured) (maxL := 3) (ret := some .int) (lv0 := [(0, .ref (a 0)), (1, .int v), (2, .int k)]) (by decide) rfl (Nat.le_of_ble_eq_true rfl) rfl ?_
  generalize hQF : QFr g rmX6_ifToured_b1 (Qf (some (.int 0)) (MW g a z hi tx ai pa tu pt ke st le 1 re nu du ha)) = QF
  have hq : QFok g rmX6_ifToured_b1 (Qf (some (.int 0)) (MW g a z hi tx ai pa tu pt ke st le 1 re nu du ha)) QF := hQF ▸ QFr.q
  refine V.aload_n 0 rfl dX6_ifToured_0 rfl ?_
  refine V.iload_n 1 rfl dX6_ifToured_1 rfl ?_
  refine V.callSf (ws2 := MW g a z hi tx ai pa tu pt ke st le th re nu du ha) (st2 := [.int (bi (wi v 1 20)), .ref (a 0)]) [.int v] [.ref (a 0)] (kX6_areTimes g v ) gX6_ifToured_X6_areTimes rfl (by show _ ∧ _ ∧ _ = some (1 : Nat); decide +kernel) ⟨Nat.le_of_ble_eq_true rfl, Nat.le_of_ble_eq_true rfl⟩ [] (by decide) rfl rfl (Nat.le_of_ble_eq_true rfl) ⟨Nat.le_of_ble_eq_true rfl, Nat.le_of_ble_eq_true rfl⟩ dX6_ifToured_2 rfl (List.append_nil _) rfl rfl rfl ?_
  rw [h0]
  refine V.if_eq_t (tgt := 21) (by decide) dX6_ifToured_5 (by decide) ?_
  refine V.iconst (v := 1) dX6_ifToured_21 (by decide) ?_
  refine V.put (v := .int 1) (ws2 := MW g a z hi tx ai pa tu pt ke st le 1 re nu du ha) (fun w H => List.mem_cons_of_mem _ (List.mem_append_right _ H)) tyX6 tyX6_ok nmX6 (hc := (rfl : vwCl[6]? = some (RX6, TX6, 15))) 0 5 (by decide) (List.mem_of_getElem? (i := 1) rfl) rfl rfl (tyX6_ok 5 (by decide)) rfl rfl (Nat.le_of_ble_eq_true rfl) rfl dX6_ifToured_22 ?_
  refine V.aload_n 0 rfl dX6_ifToured_25 rfl ?_
  refine V.get (v := .int 1) (fun w H => List.mem_cons_of_mem _ (List.mem_append_right _ H)) (hc := (rfl : vwCl[6]? = some (RX6, TX6, 15))) 0 5 (by decide) (List.mem_of_getElem? (i := 1) rfl) rfl rfl dX6_ifToured_26 ?_
  refine V.if_le_f (tgt := 36) (by decide) dX6_ifToured_29 (by decide) ?_
  refine V.iconst (v := 0) dX6_ifToured_32 (by decide) ?_
  refine V.goto (tgt := 42) dX6_ifToured_33 (by decide) ?_
  exact V.iret hq XM.r (Nat.le_of_ble_eq_true rfl) (Nat.le_of_ble_eq_true rfl) ⟨rfl, rfl⟩ dX6_ifToured_42
abbrev rmX6_ifToured_b2 : Room := { frames := 2, cells := 0, slots := 0, locals := 42 }
set_option maxHeartbeats 4000000 in
set_option maxRecDepth 100000 in
theorem kX6_ifToured_b2 (g : GT) (a : Nat → Nat) (z hi tx ai pa tu pt ke : Nat → Int32) (st le th re nu du : Int32) (ha : Int64) (v : Int32) (k : Int32) (h0 : wi v 1 20 = true) (h1 : wi k 0 3 = false) : UC g yX6_ifToured wsX6_ifToured rmX6_ifToured_b2 [.ref (a 0), .int v, .int k] (MW g a z hi tx ai pa tu pt ke st le th re nu du ha) (Qf (some (.int 0)) (MW g a z hi tx ai pa tu pt ke st le 1 re nu du ha)) := by
  refine UC.ofV (cc := cX6_ifToured) (maxL := 3) (ret := some .int) (lv0 := [(0, .ref (a 0)), (1, .int v), (2, .int k)]) (by decide) rfl (Nat.le_of_ble_eq_true rfl) rfl ?_
  generalize hQF : QFr g rmX6_ifToured_b2 (Qf (some (.int 0)) (MW g a z hi tx ai pa tu pt ke st le 1 re nu du ha)) = QF
  have hq : QFok g rmX6_ifToured_b2 (Qf (some (.int 0)) (MW g a z hi tx ai pa tu pt ke st le 1 re nu du ha)) QF := hQF ▸ QFr.q
  refine V.aload_n 0 rfl dX6_ifToured_0 rfl ?_
  refine V.iload_n 1 rfl dX6_ifToured_1 rfl ?_
  refine V.callSf (ws2 := MW g a z hi tx ai pa tu pt ke st le th re nu du ha) (st2 := [.int (bi (wi v 1 20)), .ref (a 0)]) [.int v] [.ref (a 0)] (kX6_areTimes g v ) gX6_ifToured_X6_areTimes rfl (by show _ ∧ _ ∧ _ = some (1 : Nat); decide +kernel) ⟨Nat.le_of_ble_eq_true rfl, Nat.le_of_ble_eq_true rfl⟩ [] (by decide) rfl rfl (Nat.le_of_ble_eq_true rfl) ⟨Nat.le_of_ble_eq_true rfl, Nat.le_of_ble_eq_true rfl⟩ dX6_ifToured_2 rfl (List.append_nil _) rfl rfl rfl ?_
  rw [h0]
  refine V.if_eq_f (tgt := 21) (by decide) dX6_ifToured_5 (by decide) ?_
  refine V.iload_n 2 rfl dX6_ifToured_8 rfl ?_
  refine V.iconst (v := 0) dX6_ifToured_9 (by decide) ?_
  refine V.iconst (v := 3) dX6_ifToured_10 (by decide) ?_
  refine V.callSf (ws2 := MW g a z hi tx ai pa tu pt ke st le th re nu du ha) (st2 := [.int (bi (wi k (0 : Int32) (3 : Int32))), .ref (a 0)]) [.int k, .int 0, .int 3] [.ref (a 0)] (kX6_within g k (0 : Int32) (3 : Int32) ) gX6_ifToured_X6_within rfl (by show _ ∧ _ ∧ _ = some (3 : Nat); decide +kernel) ⟨Nat.le_of_ble_eq_true rfl, Nat.le_of_ble_eq_true rfl⟩ [] (by decide) rfl rfl (Nat.le_of_ble_eq_true rfl) ⟨Nat.le_of_ble_eq_true rfl, Nat.le_of_ble_eq_true rfl⟩ dX6_ifToured_11 rfl (List.append_nil _) rfl rfl rfl ?_
  rw [h1]
  refine V.if_eq_t (tgt := 21) (by decide) dX6_ifToured_14 (by decide) ?_
  refine V.iconst (v := 1) dX6_ifToured_21 (by decide) ?_
  refine V.put (v := .int 1) (ws2 := MW g a z hi tx ai pa tu pt ke st le 1 re nu du ha) (fun w H => List.mem_cons_of_mem _ (List.mem_append_right _ H)) tyX6 tyX6_ok nmX6 (hc := (rfl : vwCl[6]? = some (RX6, TX6, 15))) 0 5 (by decide) (List.mem_of_getElem? (i := 1) rfl) rfl rfl (tyX6_ok 5 (by decide)) rfl rfl (Nat.le_of_ble_eq_true rfl) rfl dX6_ifToured_22 ?_
  refine V.aload_n 0 rfl dX6_ifToured_25 rfl ?_
  refine V.get (v := .int 1) (fun w H => List.mem_cons_of_mem _ (List.mem_append_right _ H)) (hc := (rfl : vwCl[6]? = some (RX6, TX6, 15))) 0 5 (by decide) (List.mem_of_getElem? (i := 1) rfl) rfl rfl dX6_ifToured_26 ?_
  refine V.if_le_f (tgt := 36) (by decide) dX6_ifToured_29 (by decide) ?_
  refine V.iconst (v := 0) dX6_ifToured_32 (by decide) ?_
  refine V.goto (tgt := 42) dX6_ifToured_33 (by decide) ?_
  exact V.iret hq XM.r (Nat.le_of_ble_eq_true rfl) (Nat.le_of_ble_eq_true rfl) ⟨rfl, rfl⟩ dX6_ifToured_42
abbrev rmX6_ifToured_ok : Room := { frames := 8, cells := 0, slots := 0, locals := 188 }
set_option maxHeartbeats 4000000 in
set_option maxRecDepth 100000 in
theorem kX6_ifToured_ok (g : GT) (a : Nat → Nat) (z hi tx ai pa tu pt ke : Nat → Int32) (st le th re nu du : Int32) (ha : Int64) (t : Nat) (k : Nat) (ht : t ≤ 20) (hk : k < 4) (h0 : wi (nI t) 1 20 = true) (h1 : wi (nI k) 0 3 = true) (hK : KZ z) : UC g yX6_ifToured wsX6_ifToured rmX6_ifToured_ok [.ref (a 0), .int (nI t), .int (nI k)] (MW g a z hi tx ai pa tu pt ke st le th re nu du ha) (Qf (some (.int (tdV (z, ai, pa, tu) t k))) (MW g a z hi tx ((rTs t ((z, ai, pa, tu), 0)).1.2.1) ((rTs t ((z, ai, pa, tu), 0)).1.2.2.1) ((rTs t ((z, ai, pa, tu), 0)).1.2.2.2) pt (fu (cpF z) 0 248 ke) st le 0 re nu du ha)) := by
  refine UC.ofV (cc := cX6_ifToured) (maxL := 3) (ret := some .int) (lv0 := [(0, .ref (a 0)), (1, .int (nI t)), (2, .int (nI k))]) (by decide) rfl (Nat.le_of_ble_eq_true rfl) rfl ?_
  generalize hQF : QFr g rmX6_ifToured_ok (Qf (some (.int (tdV (z, ai, pa, tu) t k))) (MW g a z hi tx ((rTs t ((z, ai, pa, tu), 0)).1.2.1) ((rTs t ((z, ai, pa, tu), 0)).1.2.2.1) ((rTs t ((z, ai, pa, tu), 0)).1.2.2.2) pt (fu (cpF z) 0 248 ke) st le 0 re nu du ha)) = QF
  have hq : QFok g rmX6_ifToured_ok (Qf (some (.int (tdV (z, ai, pa, tu) t k))) (MW g a z hi tx ((rTs t ((z, ai, pa, tu), 0)).1.2.1) ((rTs t ((z, ai, pa, tu), 0)).1.2.2.1) ((rTs t ((z, ai, pa, tu), 0)).1.2.2.2) pt (fu (cpF z) 0 248 ke) st le 0 re nu du ha)) QF := hQF ▸ QFr.q
  refine V.aload_n 0 rfl dX6_ifToured_0 rfl ?_
  refine V.iload_n 1 rfl dX6_ifToured_1 rfl ?_
  refine V.callSf (ws2 := MW g a z hi tx ai pa tu pt ke st le th re nu du ha) (st2 := [.int (bi (wi (nI t) 1 20)), .ref (a 0)]) [.int (nI t)] [.ref (a 0)] (kX6_areTimes g (nI t) ) gX6_ifToured_X6_areTimes rfl (by show _ ∧ _ ∧ _ = some (1 : Nat); decide +kernel) ⟨Nat.le_of_ble_eq_true rfl, Nat.le_of_ble_eq_true rfl⟩ [] (by decide) rfl rfl (Nat.le_of_ble_eq_true rfl) ⟨Nat.le_of_ble_eq_true rfl, Nat.le_of_ble_eq_true rfl⟩ dX6_ifToured_2 rfl (List.append_nil _) rfl rfl rfl ?_
  rw [h0]
  refine V.if_eq_f (tgt := 21) (by decide) dX6_ifToured_5 (by decide) ?_
  refine V.iload_n 2 rfl dX6_ifToured_8 rfl ?_
  refine V.iconst (v := 0) dX6_ifToured_9 (by decide) ?_
  refine V.iconst (v := 3) dX6_ifToured_10 (by decide) ?_
  refine V.callSf (ws2 := MW g a z hi tx ai pa tu pt ke st le th re nu du ha) (st2 := [.int (bi (wi (nI k) (0 : Int32) (3 : Int32))), .ref (a 0)]) [.int (nI k), .int 0, .int 3] [.ref (a 0)] (kX6_within g (nI k) (0 : Int32) (3 : Int32) ) gX6_ifToured_X6_within rfl (by show _ ∧ _ ∧ _ = some (3 : Nat); decide +kernel) ⟨Nat.le_of_ble_eq_true rfl, Nat.le_of_ble_eq_true rfl⟩ [] (by decide) rfl rfl (Nat.le_of_ble_eq_true rfl) ⟨Nat.le_of_ble_eq_true rfl, Nat.le_of_ble_eq_true rfl⟩ dX6_ifToured_11 rfl (List.append_nil _) rfl rfl rfl ?_
  rw [h1]
  refine V.if_eq_f (tgt := 21) (by decide) dX6_ifToured_14 (by decide) ?_
  refine V.iconst (v := 0) dX6_ifToured_17 (by decide) ?_
  refine V.goto (tgt := 22) dX6_ifToured_18 (by decide) ?_
  refine V.put (v := .int 0) (ws2 := MW g a z hi tx ai pa tu pt ke st le 0 re nu du ha) (fun w H => List.mem_cons_of_mem _ (List.mem_append_right _ H)) tyX6 tyX6_ok nmX6 (hc := (rfl : vwCl[6]? = some (RX6, TX6, 15))) 0 5 (by decide) (List.mem_of_getElem? (i := 1) rfl) rfl rfl (tyX6_ok 5 (by decide)) rfl rfl (Nat.le_of_ble_eq_true rfl) rfl dX6_ifToured_22 ?_
  refine V.aload_n 0 rfl dX6_ifToured_25 rfl ?_
  refine V.get (v := .int 0) (fun w H => List.mem_cons_of_mem _ (List.mem_append_right _ H)) (hc := (rfl : vwCl[6]? = some (RX6, TX6, 15))) 0 5 (by decide) (List.mem_of_getElem? (i := 1) rfl) rfl rfl dX6_ifToured_26 ?_
  refine V.if_le_t (tgt := 36) (by decide) dX6_ifToured_29 (by decide) ?_
  refine V.aload_n 0 rfl dX6_ifToured_36 rfl ?_
  refine V.iload_n 1 rfl dX6_ifToured_37 rfl ?_
  refine V.iload_n 2 rfl dX6_ifToured_38 rfl ?_
  refine V.callVf (ws2 := MW g a z hi tx ((rTs t ((z, ai, pa, tu), 0)).1.2.1) ((rTs t ((z, ai, pa, tu), 0)).1.2.2.1) ((rTs t ((z, ai, pa, tu), 0)).1.2.2.2) pt (fu (cpF z) 0 248 ke) st le 0 re nu du ha) (st2 := [.int (tdV (z, ai, pa, tu) t k)]) [.int (nI t), .int (nI k)] [] (kX6_touredThen g a z hi tx ai pa tu pt ke st le 0 re nu du ha t k ht hk hK) gX6_ifToured_X6_touredThen rfl (by show _ ∧ _ ∧ _ ∧ _ = some (2 : Nat); decide +kernel) ⟨Nat.le_of_ble_eq_true rfl, Nat.le_of_ble_eq_true rfl⟩ (hc := (rfl : vwCl[6]? = some (RX6, TX6, 15))) 0 rfl [0, 1, 2, 3, 4, 5, 6, 7, 8] (by decide) rfl rfl (Nat.le_of_ble_eq_true rfl) ⟨Nat.le_of_ble_eq_true rfl, Nat.le_of_ble_eq_true rfl⟩ dX6_ifToured_39 MWf rfl rfl rfl rfl ?_
  exact V.iret hq XM.r (Nat.le_of_ble_eq_true rfl) (Nat.le_of_ble_eq_true rfl) ⟨rfl, rfl⟩ dX6_ifToured_42
abbrev rmX6_choice_b1 : Room := { frames := 2, cells := 0, slots := 0, locals := 42 }
set_option maxHeartbeats 4000000 in
set_option maxRecDepth 100000 in
theorem kX6_choice_b1 (g : GT) (a : Nat → Nat) (z hi tx ai pa tu pt ke : Nat → Int32) (st le th re nu du : Int32) (ha : Int64) (v : Int32) (k : Int32) (h0 : wi v 0 3 = false) : UC g yX6_choice wsX6_choice rmX6_choice_b1 [.ref (a 0), .int v, .int k] (MW g a z hi tx ai pa tu pt ke st le th re nu du ha) (Qf (some (.int 0)) (MW g a z hi tx ai pa tu pt ke st le 1 re nu du ha)) := by
  refine UC.ofV (cc := cX6_choice) (maxL := 3) (ret := some .int) (lv0 := [(0, .ref (a 0)), (1, .int v), (2, .int k)]) (by decide) rfl (Nat.le_of_ble_eq_true rfl) rfl ?_
  generalize hQF : QFr g rmX6_choice_b1 (Qf (some (.int 0)) (MW g a z hi tx ai pa tu pt ke st le 1 re nu du ha)) = QF
  have hq : QFok g rmX6_choice_b1 (Qf (some (.int 0)) (MW g a z hi tx ai pa tu pt ke st le 1 re nu du ha)) QF := hQF ▸ QFr.q
  refine V.aload_n 0 rfl dX6_choice_0 rfl ?_
  refine V.iload_n 1 rfl dX6_choice_1 rfl ?_
  refine V.callSf (ws2 := MW g a z hi tx ai pa tu pt ke st le th re nu du ha) (st2 := [.int (bi (wi v 0 3)), .ref (a 0)]) [.int v] [.ref (a 0)] (kX6_isNozzle g v ) gX6_choice_X6_isNozzle rfl (by show _ ∧ _ ∧ _ = some (1 : Nat); decide +kernel) ⟨Nat.le_of_ble_eq_true rfl, Nat.le_of_ble_eq_true rfl⟩ [] (by decide) rfl rfl (Nat.le_of_ble_eq_true rfl) ⟨Nat.le_of_ble_eq_true rfl, Nat.le_of_ble_eq_true rfl⟩ dX6_choice_2 rfl (List.append_nil _) rfl rfl rfl ?_
  rw [h0]
  refine V.if_ne_f (tgt := 12) (by decide) dX6_choice_5 (by decide) ?_
  refine V.iconst (v := 1) dX6_choice_8 (by decide) ?_
  refine V.goto (tgt := 24) dX6_choice_9 (by decide) ?_
  refine V.put (v := .int 1) (ws2 := MW g a z hi tx ai pa tu pt ke st le 1 re nu du ha) (fun w H => List.mem_cons_of_mem _ (List.mem_append_right _ H)) tyX6 tyX6_ok nmX6 (hc := (rfl : vwCl[6]? = some (RX6, TX6, 15))) 0 5 (by decide) (List.mem_of_getElem? (i := 1) rfl) rfl rfl (tyX6_ok 5 (by decide)) rfl rfl (Nat.le_of_ble_eq_true rfl) rfl dX6_choice_24 ?_
  refine V.aload_n 0 rfl dX6_choice_27 rfl ?_
  refine V.get (v := .int 1) (fun w H => List.mem_cons_of_mem _ (List.mem_append_right _ H)) (hc := (rfl : vwCl[6]? = some (RX6, TX6, 15))) 0 5 (by decide) (List.mem_of_getElem? (i := 1) rfl) rfl rfl dX6_choice_28 ?_
  refine V.if_le_f (tgt := 38) (by decide) dX6_choice_31 (by decide) ?_
  refine V.iconst (v := 0) dX6_choice_34 (by decide) ?_
  refine V.goto (tgt := 44) dX6_choice_35 (by decide) ?_
  exact V.iret hq XM.r (Nat.le_of_ble_eq_true rfl) (Nat.le_of_ble_eq_true rfl) ⟨rfl, rfl⟩ dX6_choice_44
abbrev rmX6_choice_b2 : Room := { frames := 2, cells := 0, slots := 0, locals := 42 }
set_option maxHeartbeats 4000000 in
set_option maxRecDepth 100000 in
theorem kX6_choice_b2 (g : GT) (a : Nat → Nat) (z hi tx ai pa tu pt ke : Nat → Int32) (st le th re nu du : Int32) (ha : Int64) (v : Int32) (k : Int32) (h0 : wi v 0 3 = true) (h1 : wi k 0 5 = false) : UC g yX6_choice wsX6_choice rmX6_choice_b2 [.ref (a 0), .int v, .int k] (MW g a z hi tx ai pa tu pt ke st le th re nu du ha) (Qf (some (.int 0)) (MW g a z hi tx ai pa tu pt ke st le 2 re nu du ha)) := by
  refine UC.ofV (cc := cX6_choice) (maxL := 3) (ret := some .int) (lv0 := [(0, .ref (a 0)), (1, .int v), (2, .int k)]) (by decide) rfl (Nat.le_of_ble_eq_true rfl) rfl ?_
  generalize hQF : QFr g rmX6_choice_b2 (Qf (some (.int 0)) (MW g a z hi tx ai pa tu pt ke st le 2 re nu du ha)) = QF
  have hq : QFok g rmX6_choice_b2 (Qf (some (.int 0)) (MW g a z hi tx ai pa tu pt ke st le 2 re nu du ha)) QF := hQF ▸ QFr.q
  refine V.aload_n 0 rfl dX6_choice_0 rfl ?_
  refine V.iload_n 1 rfl dX6_choice_1 rfl ?_
  refine V.callSf (ws2 := MW g a z hi tx ai pa tu pt ke st le th re nu du ha) (st2 := [.int (bi (wi v 0 3)), .ref (a 0)]) [.int v] [.ref (a 0)] (kX6_isNozzle g v ) gX6_choice_X6_isNozzle rfl (by show _ ∧ _ ∧ _ = some (1 : Nat); decide +kernel) ⟨Nat.le_of_ble_eq_true rfl, Nat.le_of_ble_eq_true rfl⟩ [] (by decide) rfl rfl (Nat.le_of_ble_eq_true rfl) ⟨Nat.le_of_ble_eq_true rfl, Nat.le_of_ble_eq_true rfl⟩ dX6_choice_2 rfl (List.append_nil _) rfl rfl rfl ?_
  rw [h0]
  refine V.if_ne_t (tgt := 12) (by decide) dX6_choice_5 (by decide) ?_
  refine V.iload_n 2 rfl dX6_choice_12 rfl ?_
  refine V.callSf (ws2 := MW g a z hi tx ai pa tu pt ke st le th re nu du ha) (st2 := [.int (bi (wi k 0 5)), .ref (a 0)]) [.int k] [.ref (a 0)] (kX6_isKind g k ) gX6_choice_X6_isKind rfl (by show _ ∧ _ ∧ _ = some (1 : Nat); decide +kernel) ⟨Nat.le_of_ble_eq_true rfl, Nat.le_of_ble_eq_true rfl⟩ [] (by decide) rfl rfl (Nat.le_of_ble_eq_true rfl) ⟨Nat.le_of_ble_eq_true rfl, Nat.le_of_ble_eq_true rfl⟩ dX6_choice_13 rfl (List.append_nil _) rfl rfl rfl ?_
  rw [h1]
  refine V.if_eq_t (tgt := 23) (by decide) dX6_choice_16 (by decide) ?_
  refine V.iconst (v := 2) dX6_choice_23 (by decide) ?_
  refine V.put (v := .int 2) (ws2 := MW g a z hi tx ai pa tu pt ke st le 2 re nu du ha) (fun w H => List.mem_cons_of_mem _ (List.mem_append_right _ H)) tyX6 tyX6_ok nmX6 (hc := (rfl : vwCl[6]? = some (RX6, TX6, 15))) 0 5 (by decide) (List.mem_of_getElem? (i := 1) rfl) rfl rfl (tyX6_ok 5 (by decide)) rfl rfl (Nat.le_of_ble_eq_true rfl) rfl dX6_choice_24 ?_
  refine V.aload_n 0 rfl dX6_choice_27 rfl ?_
  refine V.get (v := .int 2) (fun w H => List.mem_cons_of_mem _ (List.mem_append_right _ H)) (hc := (rfl : vwCl[6]? = some (RX6, TX6, 15))) 0 5 (by decide) (List.mem_of_getElem? (i := 1) rfl) rfl rfl dX6_choice_28 ?_
  refine V.if_le_f (tgt := 38) (by decide) dX6_choice_31 (by decide) ?_
  refine V.iconst (v := 0) dX6_choice_34 (by decide) ?_
  refine V.goto (tgt := 44) dX6_choice_35 (by decide) ?_
  exact V.iret hq XM.r (Nat.le_of_ble_eq_true rfl) (Nat.le_of_ble_eq_true rfl) ⟨rfl, rfl⟩ dX6_choice_44
abbrev rmX6_choice_ok : Room := { frames := 3, cells := 0, slots := 0, locals := 70 }
set_option maxHeartbeats 4000000 in
set_option maxRecDepth 100000 in
theorem kX6_choice_ok (g : GT) (a : Nat → Nat) (z hi tx ai pa tu pt ke : Nat → Int32) (st le th re nu du : Int32) (ha : Int64) (n : Nat) (k : Int32) (hn : n < 4) (h0 : wi (nI n) 0 3 = true) (h1 : wi k 0 5 = true) (hF : z 5 = nI (nf z)) (hF8 : nf z ≤ 8) : UC g yX6_choice wsX6_choice rmX6_choice_ok [.ref (a 0), .int (nI n), .int k] (MW g a z hi tx ai pa tu pt ke st le th re nu du ha) (Qf (some (.int (en (cho z n k)))) (MW g a z hi tx ai pa tu pt ke st le 0 re nu du ha)) := by
  refine UC.ofV (cc := cX6_choice) (maxL := 3) (ret := some .int) (lv0 := [(0, .ref (a 0)), (1, .int (nI n)), (2, .int k)]) (by decide) rfl (Nat.le_of_ble_eq_true rfl) rfl ?_
  generalize hQF : QFr g rmX6_choice_ok (Qf (some (.int (en (cho z n k)))) (MW g a z hi tx ai pa tu pt ke st le 0 re nu du ha)) = QF
  have hq : QFok g rmX6_choice_ok (Qf (some (.int (en (cho z n k)))) (MW g a z hi tx ai pa tu pt ke st le 0 re nu du ha)) QF := hQF ▸ QFr.q
  refine V.aload_n 0 rfl dX6_choice_0 rfl ?_
  refine V.iload_n 1 rfl dX6_choice_1 rfl ?_
  refine V.callSf (ws2 := MW g a z hi tx ai pa tu pt ke st le th re nu du ha) (st2 := [.int (bi (wi (nI n) 0 3)), .ref (a 0)]) [.int (nI n)] [.ref (a 0)] (kX6_isNozzle g (nI n) ) gX6_choice_X6_isNozzle rfl (by show _ ∧ _ ∧ _ = some (1 : Nat); decide +kernel) ⟨Nat.le_of_ble_eq_true rfl, Nat.le_of_ble_eq_true rfl⟩ [] (by decide) rfl rfl (Nat.le_of_ble_eq_true rfl) ⟨Nat.le_of_ble_eq_true rfl, Nat.le_of_ble_eq_true rfl⟩ dX6_choice_2 rfl (List.append_nil _) rfl rfl rfl ?_
  rw [h0]
  refine V.if_ne_t (tgt := 12) (by decide) dX6_choice_5 (by decide) ?_
  refine V.iload_n 2 rfl dX6_choice_12 rfl ?_
  refine V.callSf (ws2 := MW g a z hi tx ai pa tu pt ke st le th re nu du ha) (st2 := [.int (bi (wi k 0 5)), .ref (a 0)]) [.int k] [.ref (a 0)] (kX6_isKind g k ) gX6_choice_X6_isKind rfl (by show _ ∧ _ ∧ _ = some (1 : Nat); decide +kernel) ⟨Nat.le_of_ble_eq_true rfl, Nat.le_of_ble_eq_true rfl⟩ [] (by decide) rfl rfl (Nat.le_of_ble_eq_true rfl) ⟨Nat.le_of_ble_eq_true rfl, Nat.le_of_ble_eq_true rfl⟩ dX6_choice_13 rfl (List.append_nil _) rfl rfl rfl ?_
  rw [h1]
  refine V.if_eq_f (tgt := 23) (by decide) dX6_choice_16 (by decide) ?_
  refine V.iconst (v := 0) dX6_choice_19 (by decide) ?_
  refine V.goto (tgt := 24) dX6_choice_20 (by decide) ?_
  refine V.put (v := .int 0) (ws2 := MW g a z hi tx ai pa tu pt ke st le 0 re nu du ha) (fun w H => List.mem_cons_of_mem _ (List.mem_append_right _ H)) tyX6 tyX6_ok nmX6 (hc := (rfl : vwCl[6]? = some (RX6, TX6, 15))) 0 5 (by decide) (List.mem_of_getElem? (i := 1) rfl) rfl rfl (tyX6_ok 5 (by decide)) rfl rfl (Nat.le_of_ble_eq_true rfl) rfl dX6_choice_24 ?_
  refine V.aload_n 0 rfl dX6_choice_27 rfl ?_
  refine V.get (v := .int 0) (fun w H => List.mem_cons_of_mem _ (List.mem_append_right _ H)) (hc := (rfl : vwCl[6]? = some (RX6, TX6, 15))) 0 5 (by decide) (List.mem_of_getElem? (i := 1) rfl) rfl rfl dX6_choice_28 ?_
  refine V.if_le_t (tgt := 38) (by decide) dX6_choice_31 (by decide) ?_
  refine V.aload_n 0 rfl dX6_choice_38 rfl ?_
  refine V.iload_n 1 rfl dX6_choice_39 rfl ?_
  refine V.iload_n 2 rfl dX6_choice_40 rfl ?_
  refine V.callVf (ws2 := MW g a z hi tx ai pa tu pt ke st le 0 re nu du ha) (st2 := [.int (en (cho z n k))]) [.int (nI n), .int k] [] (kX6_choiceOf g a z hi tx ai pa tu pt ke st le 0 re nu du ha n k hn hF hF8) gX6_choice_X6_choiceOf rfl (by show _ ∧ _ ∧ _ ∧ _ = some (2 : Nat); decide +kernel) ⟨Nat.le_of_ble_eq_true rfl, Nat.le_of_ble_eq_true rfl⟩ (hc := (rfl : vwCl[6]? = some (RX6, TX6, 15))) 0 rfl [0, 1, 2, 3, 4, 5, 6, 7, 8] (by decide) rfl rfl (Nat.le_of_ble_eq_true rfl) ⟨Nat.le_of_ble_eq_true rfl, Nat.le_of_ble_eq_true rfl⟩ dX6_choice_41 MWf rfl rfl rfl rfl ?_
  exact V.iret hq XM.r (Nat.le_of_ble_eq_true rfl) (Nat.le_of_ble_eq_true rfl) ⟨rfl, rfl⟩ dX6_choice_44
abbrev rmX6_aim_b1 : Room := { frames := 2, cells := 0, slots := 0, locals := 42 }
set_option maxHeartbeats 4000000 in
set_option maxRecDepth 100000 in
theorem kX6_aim_b1 (g : GT) (a : Nat → Nat) (z hi tx ai pa tu pt ke : Nat → Int32) (st le th re nu du : Int32) (ha : Int64) (v : Int32) (h0 : wi v 0 3 = false) : UC g yX6_aim wsX6_aim rmX6_aim_b1 [.ref (a 0), .int v] (MW g a z hi tx ai pa tu pt ke st le th re nu du ha) (Qf (some (.int 0)) (MW g a z hi tx ai pa tu pt ke st le 1 re nu du ha)) := by
  refine UC.ofV (cc := cX6_aim) (maxL := 2) (ret := some .int) (lv0 := [(0, .ref (a 0)), (1, .int v)]) (by decide) rfl (Nat.le_of_ble_eq_true rfl) rfl ?_
  generalize hQF : QFr g rmX6_aim_b1 (Qf (some (.int 0)) (MW g a z hi tx ai pa tu pt ke st le 1 re nu du ha)) = QF
  have hq : QFok g rmX6_aim_b1 (Qf (some (.int 0)) (MW g a z hi tx ai pa tu pt ke st le 1 re nu du ha)) QF := hQF ▸ QFr.q
  refine V.aload_n 0 rfl dX6_aim_0 rfl ?_
  refine V.iload_n 1 rfl dX6_aim_1 rfl ?_
  refine V.callSf (ws2 := MW g a z hi tx ai pa tu pt ke st le th re nu du ha) (st2 := [.int (bi (wi v 0 3)), .ref (a 0)]) [.int v] [.ref (a 0)] (kX6_isNozzle g v ) gX6_aim_X6_isNozzle rfl (by show _ ∧ _ ∧ _ = some (1 : Nat); decide +kernel) ⟨Nat.le_of_ble_eq_true rfl, Nat.le_of_ble_eq_true rfl⟩ [] (by decide) rfl rfl (Nat.le_of_ble_eq_true rfl) ⟨Nat.le_of_ble_eq_true rfl, Nat.le_of_ble_eq_true rfl⟩ dX6_aim_2 rfl (List.append_nil _) rfl rfl rfl ?_
  rw [h0]
  refine V.if_eq_t (tgt := 12) (by decide) dX6_aim_5 (by decide) ?_
  refine V.iconst (v := 1) dX6_aim_12 (by decide) ?_
  refine V.put (v := .int 1) (ws2 := MW g a z hi tx ai pa tu pt ke st le 1 re nu du ha) (fun w H => List.mem_cons_of_mem _ (List.mem_append_right _ H)) tyX6 tyX6_ok nmX6 (hc := (rfl : vwCl[6]? = some (RX6, TX6, 15))) 0 5 (by decide) (List.mem_of_getElem? (i := 1) rfl) rfl rfl (tyX6_ok 5 (by decide)) rfl rfl (Nat.le_of_ble_eq_true rfl) rfl dX6_aim_13 ?_
  refine V.aload_n 0 rfl dX6_aim_16 rfl ?_
  refine V.get (v := .int 1) (fun w H => List.mem_cons_of_mem _ (List.mem_append_right _ H)) (hc := (rfl : vwCl[6]? = some (RX6, TX6, 15))) 0 5 (by decide) (List.mem_of_getElem? (i := 1) rfl) rfl rfl dX6_aim_17 ?_
  refine V.if_le_f (tgt := 27) (by decide) dX6_aim_20 (by decide) ?_
  refine V.iconst (v := 0) dX6_aim_23 (by decide) ?_
  refine V.goto (tgt := 32) dX6_aim_24 (by decide) ?_
  exact V.iret hq XM.r (Nat.le_of_ble_eq_true rfl) (Nat.le_of_ble_eq_true rfl) ⟨rfl, rfl⟩ dX6_aim_32
abbrev rmX6_aim_ok : Room := { frames := 6, cells := 0, slots := 0, locals := 136 }
set_option maxHeartbeats 4000000 in
set_option maxRecDepth 100000 in
theorem kX6_aim_ok (g : GT) (a : Nat → Nat) (z hi tx ai pa tu pt ke : Nat → Int32) (st le th re nu du : Int32) (ha : Int64) (n : Nat) (hn : n < 4) (h0 : wi (nI n) 0 3 = true) (hF : z 5 = nI (nf z)) (hF8 : nf z ≤ 8) (hP : z 6 = nI (np z)) (hP24 : np z ≤ 24) : UC g yX6_aim wsX6_aim rmX6_aim_ok [.ref (a 0), .int (nI n)] (MW g a z hi tx ai pa tu pt ke st le th re nu du ha) (Qf (some (.int (lA z ai n))) (MW g a z hi tx (lA z ai) pa tu pt ke st le 0 re nu du ha)) := by
  refine UC.ofV (cc := cX6_aim) (maxL := 2) (ret := some .int) (lv0 := [(0, .ref (a 0)), (1, .int (nI n))]) (by decide) rfl (Nat.le_of_ble_eq_true rfl) rfl ?_
  generalize hQF : QFr g rmX6_aim_ok (Qf (some (.int (lA z ai n))) (MW g a z hi tx (lA z ai) pa tu pt ke st le 0 re nu du ha)) = QF
  have hq : QFok g rmX6_aim_ok (Qf (some (.int (lA z ai n))) (MW g a z hi tx (lA z ai) pa tu pt ke st le 0 re nu du ha)) QF := hQF ▸ QFr.q
  refine V.aload_n 0 rfl dX6_aim_0 rfl ?_
  refine V.iload_n 1 rfl dX6_aim_1 rfl ?_
  refine V.callSf (ws2 := MW g a z hi tx ai pa tu pt ke st le th re nu du ha) (st2 := [.int (bi (wi (nI n) 0 3)), .ref (a 0)]) [.int (nI n)] [.ref (a 0)] (kX6_isNozzle g (nI n) ) gX6_aim_X6_isNozzle rfl (by show _ ∧ _ ∧ _ = some (1 : Nat); decide +kernel) ⟨Nat.le_of_ble_eq_true rfl, Nat.le_of_ble_eq_true rfl⟩ [] (by decide) rfl rfl (Nat.le_of_ble_eq_true rfl) ⟨Nat.le_of_ble_eq_true rfl, Nat.le_of_ble_eq_true rfl⟩ dX6_aim_2 rfl (List.append_nil _) rfl rfl rfl ?_
  rw [h0]
  refine V.if_eq_f (tgt := 12) (by decide) dX6_aim_5 (by decide) ?_
  refine V.iconst (v := 0) dX6_aim_8 (by decide) ?_
  refine V.goto (tgt := 13) dX6_aim_9 (by decide) ?_
  refine V.put (v := .int 0) (ws2 := MW g a z hi tx ai pa tu pt ke st le 0 re nu du ha) (fun w H => List.mem_cons_of_mem _ (List.mem_append_right _ H)) tyX6 tyX6_ok nmX6 (hc := (rfl : vwCl[6]? = some (RX6, TX6, 15))) 0 5 (by decide) (List.mem_of_getElem? (i := 1) rfl) rfl rfl (tyX6_ok 5 (by decide)) rfl rfl (Nat.le_of_ble_eq_true rfl) rfl dX6_aim_13 ?_
  refine V.aload_n 0 rfl dX6_aim_16 rfl ?_
  refine V.get (v := .int 0) (fun w H => List.mem_cons_of_mem _ (List.mem_append_right _ H)) (hc := (rfl : vwCl[6]? = some (RX6, TX6, 15))) 0 5 (by decide) (List.mem_of_getElem? (i := 1) rfl) rfl rfl dX6_aim_17 ?_
  refine V.if_le_t (tgt := 27) (by decide) dX6_aim_20 (by decide) ?_
  refine V.aload_n 0 rfl dX6_aim_27 rfl ?_
  refine V.iload_n 1 rfl dX6_aim_28 rfl ?_
  refine V.callVf (ws2 := MW g a z hi tx (lA z ai) pa tu pt ke st le 0 re nu du ha) (st2 := [.int (lA z ai n)]) [.int (nI n)] [] (kX6_aimNow g a z hi tx ai pa tu pt ke st le 0 re nu du ha n hn hF hF8 hP hP24) gX6_aim_X6_aimNow rfl (by show _ ∧ _ ∧ _ ∧ _ = some (1 : Nat); decide +kernel) ⟨Nat.le_of_ble_eq_true rfl, Nat.le_of_ble_eq_true rfl⟩ (hc := (rfl : vwCl[6]? = some (RX6, TX6, 15))) 0 rfl [0, 1, 2, 3, 4, 5, 6, 7, 8] (by decide) rfl rfl (Nat.le_of_ble_eq_true rfl) ⟨Nat.le_of_ble_eq_true rfl, Nat.le_of_ble_eq_true rfl⟩ dX6_aim_29 MWf rfl rfl rfl rfl ?_
  exact V.iret hq XM.r (Nat.le_of_ble_eq_true rfl) (Nat.le_of_ble_eq_true rfl) ⟨rfl, rfl⟩ dX6_aim_32
abbrev rmX6_needed : Room := { frames := 7, cells := 0, slots := 0, locals := 162 }
set_option maxHeartbeats 4000000 in
set_option maxRecDepth 100000 in
theorem kX6_needed (g : GT) (a : Nat → Nat) (z hi tx ai pa tu pt ke : Nat → Int32) (st le th re nu du : Int32) (ha : Int64) (hK : KZ z) (hI : PI z) : UC g yX6_needed wsX6_needed rmX6_needed [.ref (a 0)] (MW g a z hi tx ai pa tu pt ke st le th re nu du ha) (Qf (some (.int (en (ndA (z, ai, pa, tu)).1))) (MW g a z hi tx ((ndA (z, ai, pa, tu)).2.2.1) ((ndA (z, ai, pa, tu)).2.2.2.1) ((ndA (z, ai, pa, tu)).2.2.2.2) pt (fu (cpF z) 0 248 ke) st le 0 re nu du ha)) := by
  refine UC.ofV (cc := cX6_needed) (maxL := 1) (ret := some .int) (lv0 := [(0, .ref (a 0))]) (by decide) rfl (Nat.le_of_ble_eq_true rfl) rfl ?_
  generalize hQF : QFr g rmX6_needed (Qf (some (.int (en (ndA (z, ai, pa, tu)).1))) (MW g a z hi tx ((ndA (z, ai, pa, tu)).2.2.1) ((ndA (z, ai, pa, tu)).2.2.2.1) ((ndA (z, ai, pa, tu)).2.2.2.2) pt (fu (cpF z) 0 248 ke) st le 0 re nu du ha)) = QF
  have hq : QFok g rmX6_needed (Qf (some (.int (en (ndA (z, ai, pa, tu)).1))) (MW g a z hi tx ((ndA (z, ai, pa, tu)).2.2.1) ((ndA (z, ai, pa, tu)).2.2.2.1) ((ndA (z, ai, pa, tu)).2.2.2.2) pt (fu (cpF z) 0 248 ke) st le 0 re nu du ha)) QF := hQF ▸ QFr.q
  refine V.aload_n 0 rfl dX6_needed_0 rfl ?_
  refine V.iconst (v := 0) dX6_needed_1 (by decide) ?_
  refine V.put (v := .int 0) (ws2 := MW g a z hi tx ai pa tu pt ke st le 0 re nu du ha) (fun w H => List.mem_cons_of_mem _ (List.mem_append_right _ H)) tyX6 tyX6_ok nmX6 (hc := (rfl : vwCl[6]? = some (RX6, TX6, 15))) 0 5 (by decide) (List.mem_of_getElem? (i := 1) rfl) rfl rfl (tyX6_ok 5 (by decide)) rfl rfl (Nat.le_of_ble_eq_true rfl) rfl dX6_needed_2 ?_
  refine V.aload_n 0 rfl dX6_needed_5 rfl ?_
  refine V.callVf (ws2 := MW g a z hi tx ((ndA (z, ai, pa, tu)).2.2.1) ((ndA (z, ai, pa, tu)).2.2.2.1) ((ndA (z, ai, pa, tu)).2.2.2.2) pt (fu (cpF z) 0 248 ke) st le 0 re nu du ha) (st2 := [.int (en (ndA (z, ai, pa, tu)).1)]) [] [] (kX6_neededNow g a z hi tx ai pa tu pt ke st le 0 re nu du ha  hK hI) gX6_needed_X6_neededNow rfl (by show _ ∧ _ ∧ _ ∧ _ = some (0 : Nat); decide +kernel) ⟨Nat.le_of_ble_eq_true rfl, Nat.le_of_ble_eq_true rfl⟩ (hc := (rfl : vwCl[6]? = some (RX6, TX6, 15))) 0 rfl [0, 1, 2, 3, 4, 5, 6, 7, 8] (by decide) rfl rfl (Nat.le_of_ble_eq_true rfl) ⟨Nat.le_of_ble_eq_true rfl, Nat.le_of_ble_eq_true rfl⟩ dX6_needed_6 MWf rfl rfl rfl rfl ?_
  exact V.iret hq XM.r (Nat.le_of_ble_eq_true rfl) (Nat.le_of_ble_eq_true rfl) ⟨rfl, rfl⟩ dX6_needed_9
abbrev rmX6_rumored : Room := { frames := 3, cells := 0, slots := 0, locals := 69 }
set_option maxHeartbeats 4000000 in
set_option maxRecDepth 100000 in
theorem kX6_rumored (g : GT) (a : Nat → Nat) (z hi tx ai pa tu pt ke : Nat → Int32) (st le th re nu du : Int32) (ha : Int64) (hF : z 5 = nI (nf z)) (hF8 : nf z ≤ 8) : UC g yX6_rumored wsX6_rumored rmX6_rumored [.ref (a 0)] (MW g a z hi tx ai pa tu pt ke st le th re nu du ha) (Qf (some (.int (en (rmd z)))) (MW g a z hi tx ai pa tu pt ke st le 0 re nu du ha)) := by
  refine UC.ofV (cc := cX6_rumored) (maxL := 1) (ret := some .int) (lv0 := [(0, .ref (a 0))]) (by decide) rfl (Nat.le_of_ble_eq_true rfl) rfl ?_
  generalize hQF : QFr g rmX6_rumored (Qf (some (.int (en (rmd z)))) (MW g a z hi tx ai pa tu pt ke st le 0 re nu du ha)) = QF
  have hq : QFok g rmX6_rumored (Qf (some (.int (en (rmd z)))) (MW g a z hi tx ai pa tu pt ke st le 0 re nu du ha)) QF := hQF ▸ QFr.q
  refine V.aload_n 0 rfl dX6_rumored_0 rfl ?_
  refine V.iconst (v := 0) dX6_rumored_1 (by decide) ?_
  refine V.put (v := .int 0) (ws2 := MW g a z hi tx ai pa tu pt ke st le 0 re nu du ha) (fun w H => List.mem_cons_of_mem _ (List.mem_append_right _ H)) tyX6 tyX6_ok nmX6 (hc := (rfl : vwCl[6]? = some (RX6, TX6, 15))) 0 5 (by decide) (List.mem_of_getElem? (i := 1) rfl) rfl rfl (tyX6_ok 5 (by decide)) rfl rfl (Nat.le_of_ble_eq_true rfl) rfl dX6_rumored_2 ?_
  refine V.aload_n 0 rfl dX6_rumored_5 rfl ?_
  refine V.callVf (ws2 := MW g a z hi tx ai pa tu pt ke st le 0 re nu du ha) (st2 := [.int (en (rmd z))]) [] [] (kX6_rumoredNow g a z hi tx ai pa tu pt ke st le 0 re nu du ha  hF hF8) gX6_rumored_X6_rumoredNow rfl (by show _ ∧ _ ∧ _ ∧ _ = some (0 : Nat); decide +kernel) ⟨Nat.le_of_ble_eq_true rfl, Nat.le_of_ble_eq_true rfl⟩ (hc := (rfl : vwCl[6]? = some (RX6, TX6, 15))) 0 rfl [0, 1, 2, 3, 4, 5, 6, 7, 8] (by decide) rfl rfl (Nat.le_of_ble_eq_true rfl) ⟨Nat.le_of_ble_eq_true rfl, Nat.le_of_ble_eq_true rfl⟩ dX6_rumored_6 MWf rfl rfl rfl rfl ?_
  exact V.iret hq XM.r (Nat.le_of_ble_eq_true rfl) (Nat.le_of_ble_eq_true rfl) ⟨rfl, rfl⟩ dX6_rumored_9
abbrev rmX6_missShare : Room := { frames := 3, cells := 0, slots := 0, locals := 66 }
set_option maxHeartbeats 4000000 in
set_option maxRecDepth 100000 in
theorem kX6_missShare (g : GT) (a : Nat → Nat) (z hi tx ai pa tu pt ke : Nat → Int32) (st le th re nu du : Int32) (ha : Int64) (hne : ¬ sN z 1 = 0 → vf_n64 (FP.ddiv (FP.i2d (sN z 2)) (FP.i2d (sN z 1)))) : UC g yX6_missShare wsX6_missShare rmX6_missShare [.ref (a 0)] (MW g a z hi tx ai pa tu pt ke st le th re nu du ha) (Qf (some (.double (shr z))) (MW g a z hi tx ai pa tu pt ke st le 0 re nu du ha)) := by
  refine UC.ofV (cc := cX6_missShare) (maxL := 1) (ret := some .double) (lv0 := [(0, .ref (a 0))]) (by decide) rfl (Nat.le_of_ble_eq_true rfl) rfl ?_
  generalize hQF : QFr g rmX6_missShare (Qf (some (.double (shr z))) (MW g a z hi tx ai pa tu pt ke st le 0 re nu du ha)) = QF
  have hq : QFok g rmX6_missShare (Qf (some (.double (shr z))) (MW g a z hi tx ai pa tu pt ke st le 0 re nu du ha)) QF := hQF ▸ QFr.q
  refine V.aload_n 0 rfl dX6_missShare_0 rfl ?_
  refine V.iconst (v := 0) dX6_missShare_1 (by decide) ?_
  refine V.put (v := .int 0) (ws2 := MW g a z hi tx ai pa tu pt ke st le 0 re nu du ha) (fun w H => List.mem_cons_of_mem _ (List.mem_append_right _ H)) tyX6 tyX6_ok nmX6 (hc := (rfl : vwCl[6]? = some (RX6, TX6, 15))) 0 5 (by decide) (List.mem_of_getElem? (i := 1) rfl) rfl rfl (tyX6_ok 5 (by decide)) rfl rfl (Nat.le_of_ble_eq_true rfl) rfl dX6_missShare_2 ?_
  refine V.aload_n 0 rfl dX6_missShare_5 rfl ?_
  refine V.callVf (ws2 := MW g a z hi tx ai pa tu pt ke st le 0 re nu du ha) (st2 := [.double (shr z)]) [] [] (kX6_share g a z hi tx ai pa tu pt ke st le 0 re nu du ha  hne) gX6_missShare_X6_share rfl (by show _ ∧ _ ∧ _ ∧ _ = some (0 : Nat); decide +kernel) ⟨Nat.le_of_ble_eq_true rfl, Nat.le_of_ble_eq_true rfl⟩ (hc := (rfl : vwCl[6]? = some (RX6, TX6, 15))) 0 rfl [0, 1, 2, 3, 4, 5, 6, 7, 8] (by decide) rfl rfl (Nat.le_of_ble_eq_true rfl) ⟨Nat.le_of_ble_eq_true rfl, Nat.le_of_ble_eq_true rfl⟩ dX6_missShare_6 MWf rfl rfl rfl rfl ?_
  exact V.dret hq XM.r (Nat.le_of_ble_eq_true rfl) (Nat.le_of_ble_eq_true rfl) ⟨rfl, rfl⟩ dX6_missShare_9
abbrev rmX6_digest : Room := { frames := 8, cells := 0, slots := 0, locals := 188 }
set_option maxHeartbeats 4000000 in
set_option maxRecDepth 100000 in
theorem kX6_digest (g : GT) (a : Nat → Nat) (z hi tx ai pa tu pt ke : Nat → Int32) (th re nu du : Int32) (ha : Int64) (sn : Nat) (ln : Nat) (hl : ln ≤ 60) (hK : KZ z) (hI : PI z) (hne : ¬ sN z 1 = 0 → vf_n64 (FP.ddiv (FP.i2d (sN z 2)) (FP.i2d (sN z 1)))) (hnn : Op.cmpValue (FP.dcmp (shr z) (shr z)) .l = 0) : UC g yX6_digest wsX6_digest rmX6_digest [.ref (a 0)] (MW g a z hi tx ai pa tu pt ke (nI sn) (nI ln) th re nu du ha) (Qf (some (.long (dgI tx ln (dgH z (dgG z sn ai pa tu ke).1)))) (MW g a z hi tx ((dgG z sn ai pa tu ke).2.1) ((dgG z sn ai pa tu ke).2.2.1) ((dgG z sn ai pa tu ke).2.2.2.1) pt ((dgG z sn ai pa tu ke).2.2.2.2) (nI sn) (nI ln) 0 re nu du (dgI tx ln (dgH z (dgG z sn ai pa tu ke).1)))) := by
  refine UC.ofV (cc := cX6_digest) (maxL := 2) (ret := some .long) (lv0 := [(0, .ref (a 0))]) (by decide) rfl (Nat.le_of_ble_eq_true rfl) rfl ?_
  generalize hQF : QFr g rmX6_digest (Qf (some (.long (dgI tx ln (dgH z (dgG z sn ai pa tu ke).1)))) (MW g a z hi tx ((dgG z sn ai pa tu ke).2.1) ((dgG z sn ai pa tu ke).2.2.1) ((dgG z sn ai pa tu ke).2.2.2.1) pt ((dgG z sn ai pa tu ke).2.2.2.2) (nI sn) (nI ln) 0 re nu du (dgI tx ln (dgH z (dgG z sn ai pa tu ke).1)))) = QF
  have hq : QFok g rmX6_digest (Qf (some (.long (dgI tx ln (dgH z (dgG z sn ai pa tu ke).1)))) (MW g a z hi tx ((dgG z sn ai pa tu ke).2.1) ((dgG z sn ai pa tu ke).2.2.1) ((dgG z sn ai pa tu ke).2.2.2.1) pt ((dgG z sn ai pa tu ke).2.2.2.2) (nI sn) (nI ln) 0 re nu du (dgI tx ln (dgH z (dgG z sn ai pa tu ke).1)))) QF := hQF ▸ QFr.q
  obtain ⟨hF, hF8, hP, hP24, hR, hR5⟩ := id hK
  refine V.aload_n 0 rfl dX6_digest_0 rfl ?_
  refine V.iconst (v := 0) dX6_digest_1 (by decide) ?_
  refine V.put (v := .int 0) (ws2 := MW g a z hi tx ai pa tu pt ke (nI sn) (nI ln) 0 re nu du ha) (fun w H => List.mem_cons_of_mem _ (List.mem_append_right _ H)) tyX6 tyX6_ok nmX6 (hc := (rfl : vwCl[6]? = some (RX6, TX6, 15))) 0 5 (by decide) (List.mem_of_getElem? (i := 1) rfl) rfl rfl (tyX6_ok 5 (by decide)) rfl rfl (Nat.le_of_ble_eq_true rfl) rfl dX6_digest_2 ?_
  refine V.aload_n 0 rfl dX6_digest_5 rfl ?_
  refine V.ldc2 (v := 2467) (by decide +kernel) dX6_digest_6 ?_
  refine V.put (v := .long (2467 : Int64)) (ws2 := MW g a z hi tx ai pa tu pt ke (nI sn) (nI ln) 0 re nu du (2467 : Int64)) (fun w H => List.mem_cons_of_mem _ (List.mem_append_right _ H)) tyX6 tyX6_ok nmX6 (hc := (rfl : vwCl[6]? = some (RX6, TX6, 15))) 0 14 (by decide) (List.mem_of_getElem? (i := 3) rfl) rfl rfl (tyX6_ok 14 (by decide)) rfl rfl (Nat.le_of_ble_eq_true rfl) rfl dX6_digest_9 ?_
  refine V.iconst (v := 0) dX6_digest_12 (by decide) ?_
  refine V.istore_n (lv2 := [(1, .int 0), (0, .ref (a 0))]) dX6_digest_13 rfl (by decide) rfl ?_
  have L14 : ∀ (kL : Nat) (i : Nat) (h : Int64), i + kL = 14 → (fu (fun k h => mx h (ctd z sn k).toInt64) i kL h = dgA z sn) → V g rmX6_digest RX6 cX6_digest wsX6_digest 2 QF (XM (some .long) "digest") 0 0 (MW g a z hi tx ai pa tu pt ke (nI sn) (nI ln) 0 re nu du h) 14 [(1, .int (nI i)), (0, .ref (a 0))] [] := by
    intro kL
    induction kL with
    | zero =>
      intro i h hrel hu1
      rw [fu_0] at hu1
      refine V.iload_n 0 rfl dX6_digest_14 rfl ?_
      refine V.bipush (v := 14) dX6_digest_15 (by decide) ?_
      refine V.icmp_ge_t (tgt := 36) (by rw [show i = 14 from by omega]; decide) dX6_digest_17 (by decide) ?_
      have hy : h = dgA z sn := by rw [← hu1]
      subst hy
      refine V.iconst (v := 0) dX6_digest_36 (by decide) ?_
      refine V.istore_n (lv2 := [(1, .int 0), (0, .ref (a 0))]) dX6_digest_37 rfl (by decide) rfl ?_
      have L38 : ∀ (kL : Nat) (i : Nat) (h : Int64), i + kL = 5 → (fu (fun k h => mx h (z (0 + k)).toInt64) i kL h = dgB z (dgA z sn)) → V g rmX6_digest RX6 cX6_digest wsX6_digest 2 QF (XM (some .long) "digest") 0 0 (MW g a z hi tx ai pa tu pt ke (nI sn) (nI ln) 0 re nu du h) 38 [(1, .int (nI i)), (0, .ref (a 0))] [] := by
        intro kL
        induction kL with
        | zero =>
          intro i h hrel hu2
          rw [fu_0] at hu2
          refine V.iload_n 0 rfl dX6_digest_38 rfl ?_
          refine V.iconst (v := 5) dX6_digest_39 (by decide) ?_
          refine V.icmp_ge_t (tgt := 62) (by rw [show i = 5 from by omega]; decide) dX6_digest_40 (by decide) ?_
          have hy : h = dgB z (dgA z sn) := by rw [← hu2]
          subst hy
          refine V.iconst (v := 0) dX6_digest_62 (by decide) ?_
          refine V.istore_n (lv2 := [(1, .int 0), (0, .ref (a 0))]) dX6_digest_63 rfl (by decide) rfl ?_
          have L64 : ∀ (kL : Nat) (i : Nat) (h : Int64), i + kL = 9 * nf z → (fu (fun k h => mx h (fN z (k / 9) (k % 9)).toInt64) i kL h = dgC z (dgB z (dgA z sn))) → V g rmX6_digest RX6 cX6_digest wsX6_digest 2 QF (XM (some .long) "digest") 0 0 (MW g a z hi tx ai pa tu pt ke (nI sn) (nI ln) 0 re nu du h) 64 [(1, .int (nI i)), (0, .ref (a 0))] [] := by
            intro kL
            induction kL with
            | zero =>
              intro i h hrel hu3
              rw [fu_0] at hu3
              refine V.iload_n 0 rfl dX6_digest_64 rfl ?_
              refine V.bipush (v := 9) dX6_digest_65 (by decide) ?_
              refine V.aload_n 1 rfl dX6_digest_67 rfl ?_
              refine V.get (v := .ref (a 1)) (fun w H => List.mem_cons_of_mem _ (List.mem_append_right _ H)) (hc := (rfl : vwCl[6]? = some (RX6, TX6, 15))) 0 0 (by decide) (List.mem_of_getElem? (i := 4) rfl) rfl rfl dX6_digest_68 ?_
              refine V.iconst (v := 5) dX6_digest_71 (by decide) ?_
              refine V.iald (f := z) 1 5 rfl rfl (by decide) (by decide) dX6_digest_72 ?_
              rw [hF]
              refine V.imulN (v := nI (9 * (nf z))) dX6_digest_73 (pk_mul 9 (nf z)) ?_
              refine V.icmp_ge_t (tgt := 100) (by exact nI_le (a := 9 * nf z) (b := i) (by omega) (by omega)) dX6_digest_74 (by decide) ?_
              have hy : h = dgC z (dgB z (dgA z sn)) := by rw [← hu3]
              subst hy
              refine V.iconst (v := 0) dX6_digest_100 (by decide) ?_
              refine V.istore_n (lv2 := [(1, .int 0), (0, .ref (a 0))]) dX6_digest_101 rfl (by decide) rfl ?_
              have L102 : ∀ (kL : Nat) (i : Nat) (h : Int64), i + kL = 5 * np z → (fu (fun k h => mx h (z (76 + k)).toInt64) i kL h = dgD z (dgC z (dgB z (dgA z sn)))) → V g rmX6_digest RX6 cX6_digest wsX6_digest 2 QF (XM (some .long) "digest") 0 0 (MW g a z hi tx ai pa tu pt ke (nI sn) (nI ln) 0 re nu du h) 102 [(1, .int (nI i)), (0, .ref (a 0))] [] := by
                intro kL
                induction kL with
                | zero =>
                  intro i h hrel hu4
                  rw [fu_0] at hu4
                  refine V.iload_n 0 rfl dX6_digest_102 rfl ?_
                  refine V.iconst (v := 5) dX6_digest_103 (by decide) ?_
                  refine V.aload_n 1 rfl dX6_digest_104 rfl ?_
                  refine V.get (v := .ref (a 1)) (fun w H => List.mem_cons_of_mem _ (List.mem_append_right _ H)) (hc := (rfl : vwCl[6]? = some (RX6, TX6, 15))) 0 0 (by decide) (List.mem_of_getElem? (i := 4) rfl) rfl rfl dX6_digest_105 ?_
                  refine V.bipush (v := 6) dX6_digest_108 (by decide) ?_
                  refine V.iald (f := z) 1 6 rfl rfl (by decide) (by decide) dX6_digest_110 ?_
                  rw [hP]
                  refine V.imulN (v := nI (5 * (np z))) dX6_digest_111 (pk_mul 5 (np z)) ?_
                  refine V.icmp_ge_t (tgt := 135) (by exact nI_le (a := 5 * np z) (b := i) (by omega) (by omega)) dX6_digest_112 (by decide) ?_
                  have hy : h = dgD z (dgC z (dgB z (dgA z sn))) := by rw [← hu4]
                  subst hy
                  refine V.iconst (v := 0) dX6_digest_135 (by decide) ?_
                  refine V.istore_n (lv2 := [(1, .int 0), (0, .ref (a 0))]) dX6_digest_136 rfl (by decide) rfl ?_
                  have L137 : ∀ (kL : Nat) (i : Nat) (s : Int64 × (Nat → Int32)), i + kL = 4 → (fu (dgEF z) i kL s = dgE z sn ai) → V g rmX6_digest RX6 cX6_digest wsX6_digest 2 QF (XM (some .long) "digest") 0 0 (MW g a z hi tx s.2 pa tu pt ke (nI sn) (nI ln) 0 re nu du s.1) 137 [(1, .int (nI i)), (0, .ref (a 0))] [] := by
                    intro kL
                    induction kL with
                    | zero =>
                      intro i s hrel hu5
                      rw [fu_0] at hu5
                      refine V.iload_n 0 rfl dX6_digest_137 rfl ?_
                      refine V.iconst (v := 4) dX6_digest_138 (by decide) ?_
                      refine V.icmp_ge_t (tgt := 153) (by rw [show i = 4 from by omega]; decide) dX6_digest_139 (by decide) ?_
                      have hy : s = dgE z sn ai := by rw [← hu5]
                      subst hy
                      refine V.iconst (v := 0) dX6_digest_153 (by decide) ?_
                      refine V.istore_n (lv2 := [(1, .int 0), (0, .ref (a 0))]) dX6_digest_154 rfl (by decide) rfl ?_
                      have L155 : ∀ (kL : Nat) (i : Nat) (s : DS), i + kL = 4 → (fu (dgFF z) i kL s = dgF z sn ai pa tu ke) → V g rmX6_digest RX6 cX6_digest wsX6_digest 2 QF (XM (some .long) "digest") 0 0 (MW g a z hi tx s.2.1 s.2.2.1 s.2.2.2.1 pt s.2.2.2.2 (nI sn) (nI ln) 0 re nu du s.1) 155 [(1, .int (nI i)), (0, .ref (a 0))] [] := by
                        intro kL
                        induction kL with
                        | zero =>
                          intro i s hrel hu6
                          rw [fu_0] at hu6
                          refine V.iload_n 0 rfl dX6_digest_155 rfl ?_
                          refine V.iconst (v := 4) dX6_digest_156 (by decide) ?_
                          refine V.icmp_ge_t (tgt := 177) (by rw [show i = 4 from by omega]; decide) dX6_digest_157 (by decide) ?_
                          have hy : s = dgF z sn ai pa tu ke := by rw [← hu6]
                          subst hy
                          refine V.aload_n 1 rfl dX6_digest_177 rfl ?_
                          refine V.aload_n 1 rfl dX6_digest_178 rfl ?_
                          refine V.callVf (ws2 := MW g a z hi tx ((ndA (z, (dgF z sn ai pa tu ke).2.1, (dgF z sn ai pa tu ke).2.2.1, (dgF z sn ai pa tu ke).2.2.2.1)).2.2.1) ((ndA (z, (dgF z sn ai pa tu ke).2.1, (dgF z sn ai pa tu ke).2.2.1, (dgF z sn ai pa tu ke).2.2.2.1)).2.2.2.1) ((ndA (z, (dgF z sn ai pa tu ke).2.1, (dgF z sn ai pa tu ke).2.2.1, (dgF z sn ai pa tu ke).2.2.2.1)).2.2.2.2) pt (fu (cpF z) 0 248 ((dgF z sn ai pa tu ke).2.2.2.2)) (nI sn) (nI ln) 0 re nu du ((dgF z sn ai pa tu ke).1)) (st2 := [.int (en (ndA (z, (dgF z sn ai pa tu ke).2.1, (dgF z sn ai pa tu ke).2.2.1, (dgF z sn ai pa tu ke).2.2.2.1)).1), .ref (a 0)]) [] [.ref (a 0)] (kX6_neededNow g a z hi tx ((dgF z sn ai pa tu ke).2.1) ((dgF z sn ai pa tu ke).2.2.1) ((dgF z sn ai pa tu ke).2.2.2.1) pt ((dgF z sn ai pa tu ke).2.2.2.2) (nI sn) (nI ln) 0 re nu du ((dgF z sn ai pa tu ke).1)  hK hI) gX6_digest_X6_neededNow rfl (by show _ ∧ _ ∧ _ ∧ _ = some (0 : Nat); decide +kernel) ⟨Nat.le_of_ble_eq_true rfl, Nat.le_of_ble_eq_true rfl⟩ (hc := (rfl : vwCl[6]? = some (RX6, TX6, 15))) 0 rfl [0, 1, 2, 3, 4, 5, 6, 7, 8] (by decide) rfl rfl (Nat.le_of_ble_eq_true rfl) ⟨Nat.le_of_ble_eq_true rfl, Nat.le_of_ble_eq_true rfl⟩ dX6_digest_179 MWf rfl rfl rfl rfl ?_
                          refine V.i2l dX6_digest_182 ?_
                          refine V.callVf (ws2 := MW g a z hi tx ((ndA (z, (dgF z sn ai pa tu ke).2.1, (dgF z sn ai pa tu ke).2.2.1, (dgF z sn ai pa tu ke).2.2.2.1)).2.2.1) ((ndA (z, (dgF z sn ai pa tu ke).2.1, (dgF z sn ai pa tu ke).2.2.1, (dgF z sn ai pa tu ke).2.2.2.1)).2.2.2.1) ((ndA (z, (dgF z sn ai pa tu ke).2.1, (dgF z sn ai pa tu ke).2.2.1, (dgF z sn ai pa tu ke).2.2.2.1)).2.2.2.2) pt (fu (cpF z) 0 248 ((dgF z sn ai pa tu ke).2.2.2.2)) (nI sn) (nI ln) 0 re nu du (mx ((dgF z sn ai pa tu ke).1) (Int32.toInt64 (en (ndA (z, (dgF z sn ai pa tu ke).2.1, (dgF z sn ai pa tu ke).2.2.1, (dgF z sn ai pa tu ke).2.2.2.1)).1)))) (st2 := []) [.long (Int32.toInt64 (en (ndA (z, (dgF z sn ai pa tu ke).2.1, (dgF z sn ai pa tu ke).2.2.1, (dgF z sn ai pa tu ke).2.2.2.1)).1))] [] (kX6_mix g a z hi tx ((ndA (z, (dgF z sn ai pa tu ke).2.1, (dgF z sn ai pa tu ke).2.2.1, (dgF z sn ai pa tu ke).2.2.2.1)).2.2.1) ((ndA (z, (dgF z sn ai pa tu ke).2.1, (dgF z sn ai pa tu ke).2.2.1, (dgF z sn ai pa tu ke).2.2.2.1)).2.2.2.1) ((ndA (z, (dgF z sn ai pa tu ke).2.1, (dgF z sn ai pa tu ke).2.2.1, (dgF z sn ai pa tu ke).2.2.2.1)).2.2.2.2) pt (fu (cpF z) 0 248 ((dgF z sn ai pa tu ke).2.2.2.2)) (nI sn) (nI ln) 0 re nu du ((dgF z sn ai pa tu ke).1) (Int32.toInt64 (en (ndA (z, (dgF z sn ai pa tu ke).2.1, (dgF z sn ai pa tu ke).2.2.1, (dgF z sn ai pa tu ke).2.2.2.1)).1)) ) gX6_digest_X6_mix rfl (by show _ ∧ _ ∧ _ ∧ _ = some (1 : Nat); decide +kernel) ⟨Nat.le_of_ble_eq_true rfl, Nat.le_of_ble_eq_true rfl⟩ (hc := (rfl : vwCl[6]? = some (RX6, TX6, 15))) 0 rfl [0, 1, 2, 3, 4, 5, 6, 7, 8] (by decide) rfl rfl (Nat.le_of_ble_eq_true rfl) ⟨Nat.le_of_ble_eq_true rfl, Nat.le_of_ble_eq_true rfl⟩ dX6_digest_183 MWf rfl rfl rfl rfl ?_
                          refine V.eqws (ws2 := MW g a z hi tx ((dgG z sn ai pa tu ke).2.1) ((dgG z sn ai pa tu ke).2.2.1) ((dgG z sn ai pa tu ke).2.2.2.1) pt ((dgG z sn ai pa tu ke).2.2.2.2) (nI sn) (nI ln) 0 re nu du ((dgG z sn ai pa tu ke).1)) rfl ?_
                          refine V.aload_n 1 rfl dX6_digest_186 rfl ?_
                          refine V.aload_n 1 rfl dX6_digest_187 rfl ?_
                          refine V.callVf (ws2 := MW g a z hi tx ((dgG z sn ai pa tu ke).2.1) ((dgG z sn ai pa tu ke).2.2.1) ((dgG z sn ai pa tu ke).2.2.2.1) pt ((dgG z sn ai pa tu ke).2.2.2.2) (nI sn) (nI ln) 0 re nu du ((dgG z sn ai pa tu ke).1)) (st2 := [.int (en (rmd z)), .ref (a 0)]) [] [.ref (a 0)] (kX6_rumoredNow g a z hi tx ((dgG z sn ai pa tu ke).2.1) ((dgG z sn ai pa tu ke).2.2.1) ((dgG z sn ai pa tu ke).2.2.2.1) pt ((dgG z sn ai pa tu ke).2.2.2.2) (nI sn) (nI ln) 0 re nu du ((dgG z sn ai pa tu ke).1)  hF hF8) gX6_digest_X6_rumoredNow rfl (by show _ ∧ _ ∧ _ ∧ _ = some (0 : Nat); decide +kernel) ⟨Nat.le_of_ble_eq_true rfl, Nat.le_of_ble_eq_true rfl⟩ (hc := (rfl : vwCl[6]? = some (RX6, TX6, 15))) 0 rfl [0, 1, 2, 3, 4, 5, 6, 7, 8] (by decide) rfl rfl (Nat.le_of_ble_eq_true rfl) ⟨Nat.le_of_ble_eq_true rfl, Nat.le_of_ble_eq_true rfl⟩ dX6_digest_188 MWf rfl rfl rfl rfl ?_
                          refine V.i2l dX6_digest_191 ?_
                          refine V.callVf (ws2 := MW g a z hi tx ((dgG z sn ai pa tu ke).2.1) ((dgG z sn ai pa tu ke).2.2.1) ((dgG z sn ai pa tu ke).2.2.2.1) pt ((dgG z sn ai pa tu ke).2.2.2.2) (nI sn) (nI ln) 0 re nu du (mx ((dgG z sn ai pa tu ke).1) (Int32.toInt64 (en (rmd z))))) (st2 := []) [.long (Int32.toInt64 (en (rmd z)))] [] (kX6_mix g a z hi tx ((dgG z sn ai pa tu ke).2.1) ((dgG z sn ai pa tu ke).2.2.1) ((dgG z sn ai pa tu ke).2.2.2.1) pt ((dgG z sn ai pa tu ke).2.2.2.2) (nI sn) (nI ln) 0 re nu du ((dgG z sn ai pa tu ke).1) (Int32.toInt64 (en (rmd z))) ) gX6_digest_X6_mix rfl (by show _ ∧ _ ∧ _ ∧ _ = some (1 : Nat); decide +kernel) ⟨Nat.le_of_ble_eq_true rfl, Nat.le_of_ble_eq_true rfl⟩ (hc := (rfl : vwCl[6]? = some (RX6, TX6, 15))) 0 rfl [0, 1, 2, 3, 4, 5, 6, 7, 8] (by decide) rfl rfl (Nat.le_of_ble_eq_true rfl) ⟨Nat.le_of_ble_eq_true rfl, Nat.le_of_ble_eq_true rfl⟩ dX6_digest_192 MWf rfl rfl rfl rfl ?_
                          refine V.aload_n 1 rfl dX6_digest_195 rfl ?_
                          refine V.aload_n 1 rfl dX6_digest_196 rfl ?_
                          refine V.callVf (ws2 := MW g a z hi tx ((dgG z sn ai pa tu ke).2.1) ((dgG z sn ai pa tu ke).2.2.1) ((dgG z sn ai pa tu ke).2.2.2.1) pt ((dgG z sn ai pa tu ke).2.2.2.2) (nI sn) (nI ln) 0 re nu du (mx ((dgG z sn ai pa tu ke).1) (Int32.toInt64 (en (rmd z))))) (st2 := [.double (shr z), .ref (a 0)]) [] [.ref (a 0)] (kX6_share g a z hi tx ((dgG z sn ai pa tu ke).2.1) ((dgG z sn ai pa tu ke).2.2.1) ((dgG z sn ai pa tu ke).2.2.2.1) pt ((dgG z sn ai pa tu ke).2.2.2.2) (nI sn) (nI ln) 0 re nu du (mx ((dgG z sn ai pa tu ke).1) (Int32.toInt64 (en (rmd z))))  hne) gX6_digest_X6_share rfl (by show _ ∧ _ ∧ _ ∧ _ = some (0 : Nat); decide +kernel) ⟨Nat.le_of_ble_eq_true rfl, Nat.le_of_ble_eq_true rfl⟩ (hc := (rfl : vwCl[6]? = some (RX6, TX6, 15))) 0 rfl [0, 1, 2, 3, 4, 5, 6, 7, 8] (by decide) rfl rfl (Nat.le_of_ble_eq_true rfl) ⟨Nat.le_of_ble_eq_true rfl, Nat.le_of_ble_eq_true rfl⟩ dX6_digest_197 MWf rfl rfl rfl rfl ?_
                          refine V.callSf (ws2 := MW g a z hi tx ((dgG z sn ai pa tu ke).2.1) ((dgG z sn ai pa tu ke).2.2.1) ((dgG z sn ai pa tu ke).2.2.2.1) pt ((dgG z sn ai pa tu ke).2.2.2.2) (nI sn) (nI ln) 0 re nu du (mx ((dgG z sn ai pa tu ke).1) (Int32.toInt64 (en (rmd z))))) (st2 := [.long (UInt64.toInt64 (shr z)), .ref (a 0)]) [.double (shr z)] [.ref (a 0)] (kDL g (shr z) hnn) gX6_digest_Jxe99ae_doubleToLongBits_ccdee rfl (by show _ ∧ _ ∧ _ = some (1 : Nat); decide +kernel) ⟨Nat.le_of_ble_eq_true rfl, Nat.le_of_ble_eq_true rfl⟩ [] (by decide) rfl rfl (Nat.le_of_ble_eq_true rfl) ⟨Nat.le_of_ble_eq_true rfl, Nat.le_of_ble_eq_true rfl⟩ dX6_digest_200 rfl (List.append_nil _) rfl rfl rfl ?_
                          refine V.callVf (ws2 := MW g a z hi tx ((dgG z sn ai pa tu ke).2.1) ((dgG z sn ai pa tu ke).2.2.1) ((dgG z sn ai pa tu ke).2.2.2.1) pt ((dgG z sn ai pa tu ke).2.2.2.2) (nI sn) (nI ln) 0 re nu du (mx (mx ((dgG z sn ai pa tu ke).1) (Int32.toInt64 (en (rmd z)))) (UInt64.toInt64 (shr z)))) (st2 := []) [.long (UInt64.toInt64 (shr z))] [] (kX6_mix g a z hi tx ((dgG z sn ai pa tu ke).2.1) ((dgG z sn ai pa tu ke).2.2.1) ((dgG z sn ai pa tu ke).2.2.2.1) pt ((dgG z sn ai pa tu ke).2.2.2.2) (nI sn) (nI ln) 0 re nu du (mx ((dgG z sn ai pa tu ke).1) (Int32.toInt64 (en (rmd z)))) (UInt64.toInt64 (shr z)) ) gX6_digest_X6_mix rfl (by show _ ∧ _ ∧ _ ∧ _ = some (1 : Nat); decide +kernel) ⟨Nat.le_of_ble_eq_true rfl, Nat.le_of_ble_eq_true rfl⟩ (hc := (rfl : vwCl[6]? = some (RX6, TX6, 15))) 0 rfl [0, 1, 2, 3, 4, 5, 6, 7, 8] (by decide) rfl rfl (Nat.le_of_ble_eq_true rfl) ⟨Nat.le_of_ble_eq_true rfl, Nat.le_of_ble_eq_true rfl⟩ dX6_digest_203 MWf rfl rfl rfl rfl ?_
                          refine V.eqws (ws2 := MW g a z hi tx ((dgG z sn ai pa tu ke).2.1) ((dgG z sn ai pa tu ke).2.2.1) ((dgG z sn ai pa tu ke).2.2.2.1) pt ((dgG z sn ai pa tu ke).2.2.2.2) (nI sn) (nI ln) 0 re nu du (dgH z (dgG z sn ai pa tu ke).1)) rfl ?_
                          refine V.aload_n 1 rfl dX6_digest_206 rfl ?_
                          refine V.aload_n 1 rfl dX6_digest_207 rfl ?_
                          refine V.get (v := .int (nI ln)) (fun w H => List.mem_cons_of_mem _ (List.mem_append_right _ H)) (hc := (rfl : vwCl[6]? = some (RX6, TX6, 15))) 0 3 (by decide) (List.mem_of_getElem? (i := 5) rfl) rfl rfl dX6_digest_208 ?_
                          refine V.i2l dX6_digest_211 ?_
                          refine V.callVf (ws2 := MW g a z hi tx ((dgG z sn ai pa tu ke).2.1) ((dgG z sn ai pa tu ke).2.2.1) ((dgG z sn ai pa tu ke).2.2.2.1) pt ((dgG z sn ai pa tu ke).2.2.2.2) (nI sn) (nI ln) 0 re nu du (mx (dgH z (dgG z sn ai pa tu ke).1) (Int32.toInt64 (nI ln)))) (st2 := []) [.long (Int32.toInt64 (nI ln))] [] (kX6_mix g a z hi tx ((dgG z sn ai pa tu ke).2.1) ((dgG z sn ai pa tu ke).2.2.1) ((dgG z sn ai pa tu ke).2.2.2.1) pt ((dgG z sn ai pa tu ke).2.2.2.2) (nI sn) (nI ln) 0 re nu du (dgH z (dgG z sn ai pa tu ke).1) (Int32.toInt64 (nI ln)) ) gX6_digest_X6_mix rfl (by show _ ∧ _ ∧ _ ∧ _ = some (1 : Nat); decide +kernel) ⟨Nat.le_of_ble_eq_true rfl, Nat.le_of_ble_eq_true rfl⟩ (hc := (rfl : vwCl[6]? = some (RX6, TX6, 15))) 0 rfl [0, 1, 2, 3, 4, 5, 6, 7, 8] (by decide) rfl rfl (Nat.le_of_ble_eq_true rfl) ⟨Nat.le_of_ble_eq_true rfl, Nat.le_of_ble_eq_true rfl⟩ dX6_digest_212 MWf rfl rfl rfl rfl ?_
                          refine V.iconst (v := 0) dX6_digest_215 (by decide) ?_
                          refine V.istore_n (lv2 := [(1, .int 0), (0, .ref (a 0))]) dX6_digest_216 rfl (by decide) rfl ?_
                          have L217 : ∀ (kL : Nat) (i : Nat) (h : Int64), i + kL = ln → (fu (fun k h => mx h (tx k).toInt64) i kL h = dgI tx ln (dgH z (dgG z sn ai pa tu ke).1)) → V g rmX6_digest RX6 cX6_digest wsX6_digest 2 QF (XM (some .long) "digest") 0 0 (MW g a z hi tx ((dgG z sn ai pa tu ke).2.1) ((dgG z sn ai pa tu ke).2.2.1) ((dgG z sn ai pa tu ke).2.2.2.1) pt ((dgG z sn ai pa tu ke).2.2.2.2) (nI sn) (nI ln) 0 re nu du h) 217 [(1, .int (nI i)), (0, .ref (a 0))] [] := by
                            intro kL
                            induction kL with
                            | zero =>
                              intro i h hrel hu7
                              rw [fu_0] at hu7
                              refine V.iload_n 0 rfl dX6_digest_217 rfl ?_
                              refine V.aload_n 1 rfl dX6_digest_218 rfl ?_
                              refine V.get (v := .int (nI ln)) (fun w H => List.mem_cons_of_mem _ (List.mem_append_right _ H)) (hc := (rfl : vwCl[6]? = some (RX6, TX6, 15))) 0 3 (by decide) (List.mem_of_getElem? (i := 5) rfl) rfl rfl dX6_digest_219 ?_
                              refine V.icmp_ge_t (tgt := 242) (by exact nI_le (a := ln) (b := i) (by omega) (by omega)) dX6_digest_222 (by decide) ?_
                              refine V.aload_n 1 rfl dX6_digest_242 rfl ?_
                              refine V.get (v := .long h) (fun w H => List.mem_cons_of_mem _ (List.mem_append_right _ H)) (hc := (rfl : vwCl[6]? = some (RX6, TX6, 15))) 0 14 (by decide) (List.mem_of_getElem? (i := 3) rfl) rfl rfl dX6_digest_243 ?_
                              exact V.lret hq XM.r (Nat.le_of_ble_eq_true rfl) (Nat.le_of_ble_eq_true rfl) ⟨by rw [← hu7] <;> rfl, by rw [← hu7] <;> rfl⟩ dX6_digest_246
                            | succ kL ih =>
                              intro i h hrel hu7
                              rw [fu_s] at hu7
                              refine V.iload_n 0 rfl dX6_digest_217 rfl ?_
                              refine V.aload_n 1 rfl dX6_digest_218 rfl ?_
                              refine V.get (v := .int (nI ln)) (fun w H => List.mem_cons_of_mem _ (List.mem_append_right _ H)) (hc := (rfl : vwCl[6]? = some (RX6, TX6, 15))) 0 3 (by decide) (List.mem_of_getElem? (i := 5) rfl) rfl rfl dX6_digest_219 ?_
                              refine V.icmp_ge_f (tgt := 242) (by exact nI_ge (a := i) (b := ln) (by omega) (by omega)) dX6_digest_222 (by decide) ?_
                              refine V.aload_n 1 rfl dX6_digest_225 rfl ?_
                              refine V.aload_n 1 rfl dX6_digest_226 rfl ?_
                              refine V.get (v := .ref (a 3)) (fun w H => List.mem_cons_of_mem _ (List.mem_append_right _ H)) (hc := (rfl : vwCl[6]? = some (RX6, TX6, 15))) 0 4 (by decide) (List.mem_of_getElem? (i := 6) rfl) rfl rfl dX6_digest_227 ?_
                              refine V.iload_n 0 rfl dX6_digest_230 rfl ?_
                              refine V.iald (f := tx) 3 i rfl rfl (by omega) (by decide) dX6_digest_231 ?_
                              refine V.i2l dX6_digest_232 ?_
                              refine V.callVf (ws2 := MW g a z hi tx ((dgG z sn ai pa tu ke).2.1) ((dgG z sn ai pa tu ke).2.2.1) ((dgG z sn ai pa tu ke).2.2.2.1) pt ((dgG z sn ai pa tu ke).2.2.2.2) (nI sn) (nI ln) 0 re nu du (mx h (Int32.toInt64 (tx i)))) (st2 := []) [.long (Int32.toInt64 (tx i))] [] (kX6_mix g a z hi tx ((dgG z sn ai pa tu ke).2.1) ((dgG z sn ai pa tu ke).2.2.1) ((dgG z sn ai pa tu ke).2.2.2.1) pt ((dgG z sn ai pa tu ke).2.2.2.2) (nI sn) (nI ln) 0 re nu du h (Int32.toInt64 (tx i)) ) gX6_digest_X6_mix rfl (by show _ ∧ _ ∧ _ ∧ _ = some (1 : Nat); decide +kernel) ⟨Nat.le_of_ble_eq_true rfl, Nat.le_of_ble_eq_true rfl⟩ (hc := (rfl : vwCl[6]? = some (RX6, TX6, 15))) 0 rfl [0, 1, 2, 3, 4, 5, 6, 7, 8] (by decide) rfl rfl (Nat.le_of_ble_eq_true rfl) ⟨Nat.le_of_ble_eq_true rfl, Nat.le_of_ble_eq_true rfl⟩ dX6_digest_233 MWf rfl rfl rfl rfl ?_
                              refine V.iinc (v := nI (i + 1)) (lv2 := [(1, .int (nI (i + 1))), (0, .ref (a 0))]) 0 rfl dX6_digest_236 (nI_add i 1) (by decide) rfl ?_
                              refine V.goto (tgt := 217) dX6_digest_239 (by decide) ?_
                              refine V.eqlv (lv2 := [(1, .int (nI (i + 1))), (0, .ref (a 0))]) [0, 1] rfl ?_
                              exact ih (i + 1) (mx h (tx i).toInt64) (by omega) hu7
                          refine V.eqlv (lv2 := [(1, .int 0), (0, .ref (a 0))]) [0, 1] rfl ?_
                          exact L217 ln 0 (mx (dgH z (dgG z sn ai pa tu ke).1) (nI ln).toInt64) (by omega) rfl
                        | succ kL ih =>
                          intro i s hrel hu6
                          rw [fu_s] at hu6
                          refine V.iload_n 0 rfl dX6_digest_155 rfl ?_
                          refine V.iconst (v := 4) dX6_digest_156 (by decide) ?_
                          refine V.icmp_ge_f (tgt := 177) (by exact nI_ge (a := i) (b := 4) (by omega) (by decide)) dX6_digest_157 (by decide) ?_
                          refine V.aload_n 1 rfl dX6_digest_160 rfl ?_
                          refine V.aload_n 1 rfl dX6_digest_161 rfl ?_
                          refine V.iconst (v := 3) dX6_digest_162 (by decide) ?_
                          refine V.iload_n 0 rfl dX6_digest_163 rfl ?_
                          refine V.callVf (ws2 := MW g a z hi tx ((rTs 3 ((z, s.2.1, s.2.2.1, s.2.2.2.1), 0)).1.2.1) ((rTs 3 ((z, s.2.1, s.2.2.1, s.2.2.2.1), 0)).1.2.2.1) ((rTs 3 ((z, s.2.1, s.2.2.1, s.2.2.2.1), 0)).1.2.2.2) pt (fu (cpF z) 0 248 s.2.2.2.2) (nI sn) (nI ln) 0 re nu du s.1) (st2 := [.int (tdV (z, s.2.1, s.2.2.1, s.2.2.2.1) 3 i), .ref (a 0)]) [.int 3, .int (nI i)] [.ref (a 0)] (kX6_touredThen g a z hi tx s.2.1 s.2.2.1 s.2.2.2.1 pt s.2.2.2.2 (nI sn) (nI ln) 0 re nu du s.1 3 i (by decide) (by omega) hK) gX6_digest_X6_touredThen rfl (by show _ ∧ _ ∧ _ ∧ _ = some (2 : Nat); decide +kernel) ⟨Nat.le_of_ble_eq_true rfl, Nat.le_of_ble_eq_true rfl⟩ (hc := (rfl : vwCl[6]? = some (RX6, TX6, 15))) 0 rfl [0, 1, 2, 3, 4, 5, 6, 7, 8] (by decide) rfl rfl (Nat.le_of_ble_eq_true rfl) ⟨Nat.le_of_ble_eq_true rfl, Nat.le_of_ble_eq_true rfl⟩ dX6_digest_164 MWf rfl rfl rfl rfl ?_
                          refine V.i2l dX6_digest_167 ?_
                          refine V.callVf (ws2 := MW g a z hi tx ((rTs 3 ((z, s.2.1, s.2.2.1, s.2.2.2.1), 0)).1.2.1) ((rTs 3 ((z, s.2.1, s.2.2.1, s.2.2.2.1), 0)).1.2.2.1) ((rTs 3 ((z, s.2.1, s.2.2.1, s.2.2.2.1), 0)).1.2.2.2) pt (fu (cpF z) 0 248 s.2.2.2.2) (nI sn) (nI ln) 0 re nu du (mx s.1 (Int32.toInt64 (tdV (z, s.2.1, s.2.2.1, s.2.2.2.1) 3 i)))) (st2 := []) [.long (Int32.toInt64 (tdV (z, s.2.1, s.2.2.1, s.2.2.2.1) 3 i))] [] (kX6_mix g a z hi tx ((rTs 3 ((z, s.2.1, s.2.2.1, s.2.2.2.1), 0)).1.2.1) ((rTs 3 ((z, s.2.1, s.2.2.1, s.2.2.2.1), 0)).1.2.2.1) ((rTs 3 ((z, s.2.1, s.2.2.1, s.2.2.2.1), 0)).1.2.2.2) pt (fu (cpF z) 0 248 s.2.2.2.2) (nI sn) (nI ln) 0 re nu du s.1 (Int32.toInt64 (tdV (z, s.2.1, s.2.2.1, s.2.2.2.1) 3 i)) ) gX6_digest_X6_mix rfl (by show _ ∧ _ ∧ _ ∧ _ = some (1 : Nat); decide +kernel) ⟨Nat.le_of_ble_eq_true rfl, Nat.le_of_ble_eq_true rfl⟩ (hc := (rfl : vwCl[6]? = some (RX6, TX6, 15))) 0 rfl [0, 1, 2, 3, 4, 5, 6, 7, 8] (by decide) rfl rfl (Nat.le_of_ble_eq_true rfl) ⟨Nat.le_of_ble_eq_true rfl, Nat.le_of_ble_eq_true rfl⟩ dX6_digest_168 MWf rfl rfl rfl rfl ?_
                          refine V.iinc (v := nI (i + 1)) (lv2 := [(1, .int (nI (i + 1))), (0, .ref (a 0))]) 0 rfl dX6_digest_171 (nI_add i 1) (by decide) rfl ?_
                          refine V.goto (tgt := 155) dX6_digest_174 (by decide) ?_
                          refine V.eqlv (lv2 := [(1, .int (nI (i + 1))), (0, .ref (a 0))]) [0, 1] rfl ?_
                          exact ih (i + 1) (dgFF z i s) (by omega) hu6
                      refine V.eqlv (lv2 := [(1, .int 0), (0, .ref (a 0))]) [0, 1] rfl ?_
                      exact L155 4 0 ((dgE z sn ai).1, (dgE z sn ai).2, pa, tu, ke) (by omega) rfl
                    | succ kL ih =>
                      intro i s hrel hu5
                      rw [fu_s] at hu5
                      refine V.iload_n 0 rfl dX6_digest_137 rfl ?_
                      refine V.iconst (v := 4) dX6_digest_138 (by decide) ?_
                      refine V.icmp_ge_f (tgt := 153) (by exact nI_ge (a := i) (b := 4) (by omega) (by decide)) dX6_digest_139 (by decide) ?_
                      refine V.aload_n 1 rfl dX6_digest_142 rfl ?_
                      refine V.iload_n 0 rfl dX6_digest_143 rfl ?_
                      refine V.callVf (ws2 := MW g a z hi tx (lA z s.2) pa tu pt ke (nI sn) (nI ln) 0 re nu du (mnZ z i (lA z s.2 i) s.1)) (st2 := []) [.int (nI i)] [] (kX6_mixNozzle g a z hi tx s.2 pa tu pt ke (nI sn) (nI ln) 0 re nu du s.1 i (by omega) hF hF8 hP hP24) gX6_digest_X6_mixNozzle rfl (by show _ ∧ _ ∧ _ ∧ _ = some (1 : Nat); decide +kernel) ⟨Nat.le_of_ble_eq_true rfl, Nat.le_of_ble_eq_true rfl⟩ (hc := (rfl : vwCl[6]? = some (RX6, TX6, 15))) 0 rfl [0, 1, 2, 3, 4, 5, 6, 7, 8] (by decide) rfl rfl (Nat.le_of_ble_eq_true rfl) ⟨Nat.le_of_ble_eq_true rfl, Nat.le_of_ble_eq_true rfl⟩ dX6_digest_144 MWf rfl rfl rfl rfl ?_
                      refine V.iinc (v := nI (i + 1)) (lv2 := [(1, .int (nI (i + 1))), (0, .ref (a 0))]) 0 rfl dX6_digest_147 (nI_add i 1) (by decide) rfl ?_
                      refine V.goto (tgt := 137) dX6_digest_150 (by decide) ?_
                      refine V.eqlv (lv2 := [(1, .int (nI (i + 1))), (0, .ref (a 0))]) [0, 1] rfl ?_
                      exact ih (i + 1) (dgEF z i s) (by omega) hu5
                  refine V.eqlv (lv2 := [(1, .int 0), (0, .ref (a 0))]) [0, 1] rfl ?_
                  exact L137 4 0 (dgD z (dgC z (dgB z (dgA z sn))), ai) (by omega) rfl
                | succ kL ih =>
                  intro i h hrel hu4
                  rw [fu_s] at hu4
                  refine V.iload_n 0 rfl dX6_digest_102 rfl ?_
                  refine V.iconst (v := 5) dX6_digest_103 (by decide) ?_
                  refine V.aload_n 1 rfl dX6_digest_104 rfl ?_
                  refine V.get (v := .ref (a 1)) (fun w H => List.mem_cons_of_mem _ (List.mem_append_right _ H)) (hc := (rfl : vwCl[6]? = some (RX6, TX6, 15))) 0 0 (by decide) (List.mem_of_getElem? (i := 4) rfl) rfl rfl dX6_digest_105 ?_
                  refine V.bipush (v := 6) dX6_digest_108 (by decide) ?_
                  refine V.iald (f := z) 1 6 rfl rfl (by decide) (by decide) dX6_digest_110 ?_
                  rw [hP]
                  refine V.imulN (v := nI (5 * (np z))) dX6_digest_111 (pk_mul 5 (np z)) ?_
                  refine V.icmp_ge_f (tgt := 135) (by exact nI_ge (a := i) (b := 5 * np z) (by omega) (by omega)) dX6_digest_112 (by decide) ?_
                  refine V.aload_n 1 rfl dX6_digest_115 rfl ?_
                  refine V.aload_n 1 rfl dX6_digest_116 rfl ?_
                  refine V.get (v := .ref (a 1)) (fun w H => List.mem_cons_of_mem _ (List.mem_append_right _ H)) (hc := (rfl : vwCl[6]? = some (RX6, TX6, 15))) 0 0 (by decide) (List.mem_of_getElem? (i := 4) rfl) rfl rfl dX6_digest_117 ?_
                  refine V.bipush (v := 76) dX6_digest_120 (by decide) ?_
                  refine V.iload_n 0 rfl dX6_digest_122 rfl ?_
                  refine V.iaddN (v := nI (76 + i)) dX6_digest_123 (nI_add 76 i) ?_
                  refine V.iald (f := z) 1 (76 + i) rfl rfl (by omega) (by decide) dX6_digest_124 ?_
                  refine V.i2l dX6_digest_125 ?_
                  refine V.callVf (ws2 := MW g a z hi tx ai pa tu pt ke (nI sn) (nI ln) 0 re nu du (mx h (Int32.toInt64 (z (76 + i))))) (st2 := []) [.long (Int32.toInt64 (z (76 + i)))] [] (kX6_mix g a z hi tx ai pa tu pt ke (nI sn) (nI ln) 0 re nu du h (Int32.toInt64 (z (76 + i))) ) gX6_digest_X6_mix rfl (by show _ ∧ _ ∧ _ ∧ _ = some (1 : Nat); decide +kernel) ⟨Nat.le_of_ble_eq_true rfl, Nat.le_of_ble_eq_true rfl⟩ (hc := (rfl : vwCl[6]? = some (RX6, TX6, 15))) 0 rfl [0, 1, 2, 3, 4, 5, 6, 7, 8] (by decide) rfl rfl (Nat.le_of_ble_eq_true rfl) ⟨Nat.le_of_ble_eq_true rfl, Nat.le_of_ble_eq_true rfl⟩ dX6_digest_126 MWf rfl rfl rfl rfl ?_
                  refine V.iinc (v := nI (i + 1)) (lv2 := [(1, .int (nI (i + 1))), (0, .ref (a 0))]) 0 rfl dX6_digest_129 (nI_add i 1) (by decide) rfl ?_
                  refine V.goto (tgt := 102) dX6_digest_132 (by decide) ?_
                  refine V.eqlv (lv2 := [(1, .int (nI (i + 1))), (0, .ref (a 0))]) [0, 1] rfl ?_
                  exact ih (i + 1) (mx h (z (76 + i)).toInt64) (by omega) hu4
              refine V.eqlv (lv2 := [(1, .int 0), (0, .ref (a 0))]) [0, 1] rfl ?_
              exact L102 (5 * np z) 0 (dgC z (dgB z (dgA z sn))) (by omega) rfl
            | succ kL ih =>
              intro i h hrel hu3
              rw [fu_s] at hu3
              refine V.iload_n 0 rfl dX6_digest_64 rfl ?_
              refine V.bipush (v := 9) dX6_digest_65 (by decide) ?_
              refine V.aload_n 1 rfl dX6_digest_67 rfl ?_
              refine V.get (v := .ref (a 1)) (fun w H => List.mem_cons_of_mem _ (List.mem_append_right _ H)) (hc := (rfl : vwCl[6]? = some (RX6, TX6, 15))) 0 0 (by decide) (List.mem_of_getElem? (i := 4) rfl) rfl rfl dX6_digest_68 ?_
              refine V.iconst (v := 5) dX6_digest_71 (by decide) ?_
              refine V.iald (f := z) 1 5 rfl rfl (by decide) (by decide) dX6_digest_72 ?_
              rw [hF]
              refine V.imulN (v := nI (9 * (nf z))) dX6_digest_73 (pk_mul 9 (nf z)) ?_
              refine V.icmp_ge_f (tgt := 100) (by exact nI_ge (a := i) (b := 9 * nf z) (by omega) (by omega)) dX6_digest_74 (by decide) ?_
              refine V.aload_n 1 rfl dX6_digest_77 rfl ?_
              refine V.aload_n 1 rfl dX6_digest_78 rfl ?_
              refine V.iload_n 0 rfl dX6_digest_79 rfl ?_
              refine V.bipush (v := 9) dX6_digest_80 (by decide) ?_
              refine V.idiv dX6_digest_82 (by decide) ?_
              rw [dv9 i (by omega)]
              refine V.iload_n 0 rfl dX6_digest_83 rfl ?_
              refine V.bipush (v := 9) dX6_digest_84 (by decide) ?_
              refine V.irem dX6_digest_86 (by decide) ?_
              rw [show nI i - nI i / 9 * 9 = nI (i % 9) from rm9 i (by omega)]
              refine V.callVf (ws2 := MW g a z hi tx ai pa tu pt ke (nI sn) (nI ln) 0 re nu du h) (st2 := [.int (fN z (i / 9) (i % 9)), .ref (a 0)]) [.int (nI (i / 9)), .int (nI (i % 9))] [.ref (a 0)] (kX6_feederNow g a z hi tx ai pa tu pt ke (nI sn) (nI ln) 0 re nu du h (i / 9) (i % 9) (by omega) (by omega)) gX6_digest_X6_feederNow rfl (by show _ ∧ _ ∧ _ ∧ _ = some (2 : Nat); decide +kernel) ⟨Nat.le_of_ble_eq_true rfl, Nat.le_of_ble_eq_true rfl⟩ (hc := (rfl : vwCl[6]? = some (RX6, TX6, 15))) 0 rfl [0, 1, 2, 3, 4, 5, 6, 7, 8] (by decide) rfl rfl (Nat.le_of_ble_eq_true rfl) ⟨Nat.le_of_ble_eq_true rfl, Nat.le_of_ble_eq_true rfl⟩ dX6_digest_87 MWf rfl rfl rfl rfl ?_
              refine V.i2l dX6_digest_90 ?_
              refine V.callVf (ws2 := MW g a z hi tx ai pa tu pt ke (nI sn) (nI ln) 0 re nu du (mx h (Int32.toInt64 (fN z (i / 9) (i % 9))))) (st2 := []) [.long (Int32.toInt64 (fN z (i / 9) (i % 9)))] [] (kX6_mix g a z hi tx ai pa tu pt ke (nI sn) (nI ln) 0 re nu du h (Int32.toInt64 (fN z (i / 9) (i % 9))) ) gX6_digest_X6_mix rfl (by show _ ∧ _ ∧ _ ∧ _ = some (1 : Nat); decide +kernel) ⟨Nat.le_of_ble_eq_true rfl, Nat.le_of_ble_eq_true rfl⟩ (hc := (rfl : vwCl[6]? = some (RX6, TX6, 15))) 0 rfl [0, 1, 2, 3, 4, 5, 6, 7, 8] (by decide) rfl rfl (Nat.le_of_ble_eq_true rfl) ⟨Nat.le_of_ble_eq_true rfl, Nat.le_of_ble_eq_true rfl⟩ dX6_digest_91 MWf rfl rfl rfl rfl ?_
              refine V.iinc (v := nI (i + 1)) (lv2 := [(1, .int (nI (i + 1))), (0, .ref (a 0))]) 0 rfl dX6_digest_94 (nI_add i 1) (by decide) rfl ?_
              refine V.goto (tgt := 64) dX6_digest_97 (by decide) ?_
              refine V.eqlv (lv2 := [(1, .int (nI (i + 1))), (0, .ref (a 0))]) [0, 1] rfl ?_
              exact ih (i + 1) (mx h (fN z (i / 9) (i % 9)).toInt64) (by omega) hu3
          refine V.eqlv (lv2 := [(1, .int 0), (0, .ref (a 0))]) [0, 1] rfl ?_
          exact L64 (9 * nf z) 0 (dgB z (dgA z sn)) (by omega) rfl
        | succ kL ih =>
          intro i h hrel hu2
          rw [fu_s] at hu2
          refine V.iload_n 0 rfl dX6_digest_38 rfl ?_
          refine V.iconst (v := 5) dX6_digest_39 (by decide) ?_
          refine V.icmp_ge_f (tgt := 62) (by exact nI_ge (a := i) (b := 5) (by omega) (by decide)) dX6_digest_40 (by decide) ?_
          refine V.aload_n 1 rfl dX6_digest_43 rfl ?_
          refine V.aload_n 1 rfl dX6_digest_44 rfl ?_
          refine V.get (v := .ref (a 1)) (fun w H => List.mem_cons_of_mem _ (List.mem_append_right _ H)) (hc := (rfl : vwCl[6]? = some (RX6, TX6, 15))) 0 0 (by decide) (List.mem_of_getElem? (i := 4) rfl) rfl rfl dX6_digest_45 ?_
          refine V.iconst (v := 0) dX6_digest_48 (by decide) ?_
          refine V.iload_n 0 rfl dX6_digest_49 rfl ?_
          refine V.iaddN (v := nI (0 + i)) dX6_digest_50 (nI_add 0 i) ?_
          refine V.iald (f := z) 1 (0 + i) rfl rfl (by omega) (by decide) dX6_digest_51 ?_
          refine V.i2l dX6_digest_52 ?_
          refine V.callVf (ws2 := MW g a z hi tx ai pa tu pt ke (nI sn) (nI ln) 0 re nu du (mx h (Int32.toInt64 (z (0 + i))))) (st2 := []) [.long (Int32.toInt64 (z (0 + i)))] [] (kX6_mix g a z hi tx ai pa tu pt ke (nI sn) (nI ln) 0 re nu du h (Int32.toInt64 (z (0 + i))) ) gX6_digest_X6_mix rfl (by show _ ∧ _ ∧ _ ∧ _ = some (1 : Nat); decide +kernel) ⟨Nat.le_of_ble_eq_true rfl, Nat.le_of_ble_eq_true rfl⟩ (hc := (rfl : vwCl[6]? = some (RX6, TX6, 15))) 0 rfl [0, 1, 2, 3, 4, 5, 6, 7, 8] (by decide) rfl rfl (Nat.le_of_ble_eq_true rfl) ⟨Nat.le_of_ble_eq_true rfl, Nat.le_of_ble_eq_true rfl⟩ dX6_digest_53 MWf rfl rfl rfl rfl ?_
          refine V.iinc (v := nI (i + 1)) (lv2 := [(1, .int (nI (i + 1))), (0, .ref (a 0))]) 0 rfl dX6_digest_56 (nI_add i 1) (by decide) rfl ?_
          refine V.goto (tgt := 38) dX6_digest_59 (by decide) ?_
          refine V.eqlv (lv2 := [(1, .int (nI (i + 1))), (0, .ref (a 0))]) [0, 1] rfl ?_
          exact ih (i + 1) (mx h (z (0 + i)).toInt64) (by omega) hu2
      refine V.eqlv (lv2 := [(1, .int 0), (0, .ref (a 0))]) [0, 1] rfl ?_
      exact L38 (5) 0 (dgA z sn) (by omega) rfl
    | succ kL ih =>
      intro i h hrel hu1
      rw [fu_s] at hu1
      refine V.iload_n 0 rfl dX6_digest_14 rfl ?_
      refine V.bipush (v := 14) dX6_digest_15 (by decide) ?_
      refine V.icmp_ge_f (tgt := 36) (by exact nI_ge (a := i) (b := 14) (by omega) (by decide)) dX6_digest_17 (by decide) ?_
      refine V.aload_n 1 rfl dX6_digest_20 rfl ?_
      refine V.aload_n 1 rfl dX6_digest_21 rfl ?_
      refine V.iload_n 0 rfl dX6_digest_22 rfl ?_
      refine V.callVf (ws2 := MW g a z hi tx ai pa tu pt ke (nI sn) (nI ln) 0 re nu du h) (st2 := [.int (ctd z sn i), .ref (a 0)]) [.int (nI i)] [.ref (a 0)] (kX6_counted g a z hi tx ai pa tu pt ke (nI ln) 0 re nu du h i sn (by omega) hF hF8 hP hP24) gX6_digest_X6_counted rfl (by show _ ∧ _ ∧ _ ∧ _ = some (1 : Nat); decide +kernel) ⟨Nat.le_of_ble_eq_true rfl, Nat.le_of_ble_eq_true rfl⟩ (hc := (rfl : vwCl[6]? = some (RX6, TX6, 15))) 0 rfl [0, 1, 2, 3, 4, 5, 6, 7, 8] (by decide) rfl rfl (Nat.le_of_ble_eq_true rfl) ⟨Nat.le_of_ble_eq_true rfl, Nat.le_of_ble_eq_true rfl⟩ dX6_digest_23 MWf rfl rfl rfl rfl ?_
      refine V.i2l dX6_digest_26 ?_
      refine V.callVf (ws2 := MW g a z hi tx ai pa tu pt ke (nI sn) (nI ln) 0 re nu du (mx h (Int32.toInt64 (ctd z sn i)))) (st2 := []) [.long (Int32.toInt64 (ctd z sn i))] [] (kX6_mix g a z hi tx ai pa tu pt ke (nI sn) (nI ln) 0 re nu du h (Int32.toInt64 (ctd z sn i)) ) gX6_digest_X6_mix rfl (by show _ ∧ _ ∧ _ ∧ _ = some (1 : Nat); decide +kernel) ⟨Nat.le_of_ble_eq_true rfl, Nat.le_of_ble_eq_true rfl⟩ (hc := (rfl : vwCl[6]? = some (RX6, TX6, 15))) 0 rfl [0, 1, 2, 3, 4, 5, 6, 7, 8] (by decide) rfl rfl (Nat.le_of_ble_eq_true rfl) ⟨Nat.le_of_ble_eq_true rfl, Nat.le_of_ble_eq_true rfl⟩ dX6_digest_27 MWf rfl rfl rfl rfl ?_
      refine V.iinc (v := nI (i + 1)) (lv2 := [(1, .int (nI (i + 1))), (0, .ref (a 0))]) 0 rfl dX6_digest_30 (nI_add i 1) (by decide) rfl ?_
      refine V.goto (tgt := 14) dX6_digest_33 (by decide) ?_
      refine V.eqlv (lv2 := [(1, .int (nI (i + 1))), (0, .ref (a 0))]) [0, 1] rfl ?_
      exact ih (i + 1) (mx h (ctd z sn i).toInt64) (by omega) hu1
  refine V.eqlv (lv2 := [(1, .int 0), (0, .ref (a 0))]) [0, 1] rfl ?_
  exact L14 (14) 0 (2467) (by omega) rfl
