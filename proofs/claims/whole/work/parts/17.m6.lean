abbrev rmX6_feederNow : Room := { frames := 1, cells := 0, slots := 0, locals := 22 }
set_option maxHeartbeats 4000000 in
set_option maxRecDepth 100000 in
theorem kX6_feederNow (g : GT) (a : Nat → Nat) (z hi tx ai pa tu pt ke : Nat → Int32) (st le th re nu du : Int32) (ha : Int64) (f : Nat) (k : Nat) (hf : f < 8) (hk : k ≤ 8) : UC g yX6_feederNow wsX6_feederNow rmX6_feederNow [.ref (a 0), .int (nI f), .int (nI k)] (MW g a z hi tx ai pa tu pt ke st le th re nu du ha) (Qf (some (.int (fN z f k))) (MW g a z hi tx ai pa tu pt ke st le th re nu du ha)) := by
  refine UC.ofV (cc := cX6_feederNow) (maxL := 5) (ret := some .int) (lv0 := [(0, .ref (a 0)), (1, .int (nI f)), (2, .int (nI k))]) (by decide) rfl (Nat.le_of_ble_eq_true rfl) rfl ?_
  generalize hQF : QFr g rmX6_feederNow (Qf (some (.int (fN z f k))) (MW g a z hi tx ai pa tu pt ke st le th re nu du ha)) = QF
  have hq : QFok g rmX6_feederNow (Qf (some (.int (fN z f k))) (MW g a z hi tx ai pa tu pt ke st le th re nu du ha)) QF := hQF ▸ QFr.q
  by_cases h8 : k < 8
  · skip
    refine V.iload_n 2 rfl dX6_feederNow_0 rfl ?_
    refine V.bipush (v := 8) dX6_feederNow_1 (by decide) ?_
    refine V.icmp_ge_f (tgt := 13) (by exact nI_ge (a := k) (b := 8) h8 (by decide)) dX6_feederNow_3 (by decide) ?_
    refine V.aload_n 0 rfl dX6_feederNow_6 rfl ?_
    refine V.iload_n 1 rfl dX6_feederNow_7 rfl ?_
    refine V.iload_n 2 rfl dX6_feederNow_8 rfl ?_
    refine V.callVf (ws2 := MW g a z hi tx ai pa tu pt ke st le th re nu du ha) (st2 := [.int (z (12 + 8 * f + k))]) [.int (nI f), .int (nI k)] [] (kX6_ofFeeder g a z hi tx ai pa tu pt ke st le th re nu du ha f k (by first | omega | decide) (by first | omega | decide)) gX6_feederNow_X6_ofFeeder rfl (by show _ ∧ _ ∧ _ ∧ _ = some (2 : Nat); decide +kernel) ⟨Nat.le_of_ble_eq_true rfl, Nat.le_of_ble_eq_true rfl⟩ (hc := (rfl : vwCl[6]? = some (RX6, TX6, 15))) 0 rfl [0, 1, 2, 3, 4, 5, 6, 7, 8] (by decide) rfl rfl (Nat.le_of_ble_eq_true rfl) ⟨Nat.le_of_ble_eq_true rfl, Nat.le_of_ble_eq_true rfl⟩ dX6_feederNow_9 MWf rfl rfl rfl rfl ?_
    exact V.iret hq XM.r (Nat.le_of_ble_eq_true rfl) (Nat.le_of_ble_eq_true rfl) ⟨by rw [fN, if_pos h8], rfl⟩ dX6_feederNow_12
  · skip
    refine V.iload_n 2 rfl dX6_feederNow_0 rfl ?_
    refine V.bipush (v := 8) dX6_feederNow_1 (by decide) ?_
    refine V.icmp_ge_t (tgt := 13) (by exact nI_le (a := 8) (b := k) (by omega) (by omega)) dX6_feederNow_3 (by decide) ?_
    refine V.iconst (v := 0) dX6_feederNow_13 (by decide) ?_
    refine V.istore_n (lv2 := [(3, .int 0), (0, .ref (a 0)), (1, .int (nI f)), (2, .int (nI k))]) dX6_feederNow_14 rfl (by decide) rfl ?_
    refine V.iconst (v := 0) dX6_feederNow_15 (by decide) ?_
    refine V.istore (lv2 := [(4, .int 0), (3, .int 0), (0, .ref (a 0)), (1, .int (nI f)), (2, .int (nI k))]) dX6_feederNow_16 (by decide) rfl ?_
    have L18 : ∀ (kL : Nat) (i : Nat) (c : Int32), i + kL = 4 → (fu (tSF z f) i kL c = fu (tSF z f) 0 4 0) → V g rmX6_feederNow RX6 cX6_feederNow wsX6_feederNow 5 QF (XM (some .int) "feederNow") 0 0 (MW g a z hi tx ai pa tu pt ke st le th re nu du ha) 18 [(4, .int (nI i)), (3, .int c), (0, .ref (a 0)), (1, .int (nI f)), (2, .int (nI k))] [] := by
      intro kL
      induction kL with
      | zero =>
        intro i c hrel hfu
        rw [fu_0] at hfu
        refine V.iload 0 rfl dX6_feederNow_18 ?_
        refine V.iconst (v := 4) dX6_feederNow_20 (by decide) ?_
        refine V.icmp_ge_t (tgt := 40) (by rw [show i = 4 from by omega]; decide) dX6_feederNow_21 (by decide) ?_
        refine V.iload_n 1 rfl dX6_feederNow_40 rfl ?_
        exact V.iret hq XM.r (Nat.le_of_ble_eq_true rfl) (Nat.le_of_ble_eq_true rfl) ⟨by rw [fN, if_neg h8, tS, ← hfu] <;> rfl, rfl⟩ dX6_feederNow_41
      | succ kL ih =>
        intro i c hrel hfu
        rw [fu_s] at hfu
        refine V.iload 0 rfl dX6_feederNow_18 ?_
        refine V.iconst (v := 4) dX6_feederNow_20 (by decide) ?_
        refine V.icmp_ge_f (tgt := 40) (by exact nI_ge (a := i) (b := 4) (by omega) (by decide)) dX6_feederNow_21 (by decide) ?_
        refine V.iload_n 1 rfl dX6_feederNow_24 rfl ?_
        refine V.aload_n 2 rfl dX6_feederNow_25 rfl ?_
        refine V.iload 0 rfl dX6_feederNow_26 ?_
        refine V.iload_n 3 rfl dX6_feederNow_28 rfl ?_
        refine V.callVf (ws2 := MW g a z hi tx ai pa tu pt ke st le th re nu du ha) (st2 := [.int (z (216 + 8 * i + f)), .int c]) [.int (nI i), .int (nI f)] [.int c] (kX6_trustOf g a z hi tx ai pa tu pt ke st le th re nu du ha i f (by first | omega | decide) (by first | omega | decide)) gX6_feederNow_X6_trustOf rfl (by show _ ∧ _ ∧ _ ∧ _ = some (2 : Nat); decide +kernel) ⟨Nat.le_of_ble_eq_true rfl, Nat.le_of_ble_eq_true rfl⟩ (hc := (rfl : vwCl[6]? = some (RX6, TX6, 15))) 0 rfl [0, 1, 2, 3, 4, 5, 6, 7, 8] (by decide) rfl rfl (Nat.le_of_ble_eq_true rfl) ⟨Nat.le_of_ble_eq_true rfl, Nat.le_of_ble_eq_true rfl⟩ dX6_feederNow_29 MWf rfl rfl rfl rfl ?_
        refine V.iadd dX6_feederNow_32 ?_
        refine V.istore_n (lv2 := [(3, .int (c + (z (216 + 8 * i + f)))), (4, .int (nI i)), (0, .ref (a 0)), (1, .int (nI f)), (2, .int (nI k))]) dX6_feederNow_33 rfl (by decide) rfl ?_
        refine V.iinc (v := nI (i + 1)) (lv2 := [(4, .int (nI (i + 1))), (3, .int (c + (z (216 + 8 * i + f)))), (0, .ref (a 0)), (1, .int (nI f)), (2, .int (nI k))]) 1 rfl dX6_feederNow_34 (nI_add i 1) (by decide) rfl ?_
        refine V.goto (tgt := 18) dX6_feederNow_37 (by decide) ?_
        refine V.eqlv (lv2 := [(4, .int (nI (i + 1))), (3, .int (c + (z (216 + 8 * i + f)))), (0, .ref (a 0)), (1, .int (nI f)), (2, .int (nI k))]) [0, 1, 2, 3, 4] rfl ?_
        exact ih (i + 1) (tSF z f i c) (by omega) hfu
    refine V.eqlv (lv2 := [(4, .int 0), (3, .int 0), (0, .ref (a 0)), (1, .int (nI f)), (2, .int (nI k))]) [0, 1, 2, 3, 4] rfl ?_
    exact L18 4 0 0 (by omega) rfl
abbrev rmX6_sumOfNozzles : Room := { frames := 1, cells := 0, slots := 0, locals := 22 }
set_option maxHeartbeats 4000000 in
set_option maxRecDepth 100000 in
theorem kX6_sumOfNozzles (g : GT) (a : Nat → Nat) (z hi tx ai pa tu pt ke : Nat → Int32) (st le th re nu du : Int32) (ha : Int64) (k : Nat) (hk : k < 5) : UC g yX6_sumOfNozzles wsX6_sumOfNozzles rmX6_sumOfNozzles [.ref (a 0), .int (nI k)] (MW g a z hi tx ai pa tu pt ke st le th re nu du ha) (Qf (some (.int (sN z k))) (MW g a z hi tx ai pa tu pt ke st le th re nu du ha)) := by
  refine UC.ofV (cc := cX6_sumOfNozzles) (maxL := 4) (ret := some .int) (lv0 := [(0, .ref (a 0)), (1, .int (nI k))]) (by decide) rfl (Nat.le_of_ble_eq_true rfl) rfl ?_
  generalize hQF : QFr g rmX6_sumOfNozzles (Qf (some (.int (sN z k))) (MW g a z hi tx ai pa tu pt ke st le th re nu du ha)) = QF
  have hq : QFok g rmX6_sumOfNozzles (Qf (some (.int (sN z k))) (MW g a z hi tx ai pa tu pt ke st le th re nu du ha)) QF := hQF ▸ QFr.q
  refine V.iconst (v := 0) dX6_sumOfNozzles_0 (by decide) ?_
  refine V.istore_n (lv2 := [(2, .int 0), (0, .ref (a 0)), (1, .int (nI k))]) dX6_sumOfNozzles_1 rfl (by decide) rfl ?_
  refine V.iconst (v := 0) dX6_sumOfNozzles_2 (by decide) ?_
  refine V.istore_n (lv2 := [(3, .int 0), (2, .int 0), (0, .ref (a 0)), (1, .int (nI k))]) dX6_sumOfNozzles_3 rfl (by decide) rfl ?_
  have L4 : ∀ (kL : Nat) (i : Nat) (c : Int32), i + kL = 4 → (fu (sNF z k) i kL c = sN z k) → V g rmX6_sumOfNozzles RX6 cX6_sumOfNozzles wsX6_sumOfNozzles 4 QF (XM (some .int) "sumOfNozzles") 0 0 (MW g a z hi tx ai pa tu pt ke st le th re nu du ha) 4 [(3, .int (nI i)), (2, .int c), (0, .ref (a 0)), (1, .int (nI k))] [] := by
    intro kL
    induction kL with
    | zero =>
      intro i c hrel hfu
      rw [fu_0] at hfu
      refine V.iload_n 0 rfl dX6_sumOfNozzles_4 rfl ?_
      refine V.iconst (v := 4) dX6_sumOfNozzles_5 (by decide) ?_
      refine V.icmp_ge_t (tgt := 24) (by rw [show i = 4 from by omega]; decide) dX6_sumOfNozzles_6 (by decide) ?_
      refine V.iload_n 1 rfl dX6_sumOfNozzles_24 rfl ?_
      exact V.iret hq XM.r (Nat.le_of_ble_eq_true rfl) (Nat.le_of_ble_eq_true rfl) ⟨by rw [← hfu] <;> rfl, rfl⟩ dX6_sumOfNozzles_25
    | succ kL ih =>
      intro i c hrel hfu
      rw [fu_s] at hfu
      refine V.iload_n 0 rfl dX6_sumOfNozzles_4 rfl ?_
      refine V.iconst (v := 4) dX6_sumOfNozzles_5 (by decide) ?_
      refine V.icmp_ge_f (tgt := 24) (by exact nI_ge (a := i) (b := 4) (by omega) (by decide)) dX6_sumOfNozzles_6 (by decide) ?_
      refine V.iload_n 1 rfl dX6_sumOfNozzles_9 rfl ?_
      refine V.aload_n 2 rfl dX6_sumOfNozzles_10 rfl ?_
      refine V.iload_n 0 rfl dX6_sumOfNozzles_11 rfl ?_
      refine V.iload_n 3 rfl dX6_sumOfNozzles_12 rfl ?_
      refine V.callVf (ws2 := MW g a z hi tx ai pa tu pt ke st le th re nu du ha) (st2 := [.int (z (196 + 5 * i + k)), .int c]) [.int (nI i), .int (nI k)] [.int c] (kX6_ofNozzle g a z hi tx ai pa tu pt ke st le th re nu du ha i k (by first | omega | decide) (by first | omega | decide)) gX6_sumOfNozzles_X6_ofNozzle rfl (by show _ ∧ _ ∧ _ ∧ _ = some (2 : Nat); decide +kernel) ⟨Nat.le_of_ble_eq_true rfl, Nat.le_of_ble_eq_true rfl⟩ (hc := (rfl : vwCl[6]? = some (RX6, TX6, 15))) 0 rfl [0, 1, 2, 3, 4, 5, 6, 7, 8] (by decide) rfl rfl (Nat.le_of_ble_eq_true rfl) ⟨Nat.le_of_ble_eq_true rfl, Nat.le_of_ble_eq_true rfl⟩ dX6_sumOfNozzles_13 MWf rfl rfl rfl rfl ?_
      refine V.iadd dX6_sumOfNozzles_16 ?_
      refine V.istore_n (lv2 := [(2, .int (c + (z (196 + 5 * i + k)))), (3, .int (nI i)), (0, .ref (a 0)), (1, .int (nI k))]) dX6_sumOfNozzles_17 rfl (by decide) rfl ?_
      refine V.iinc (v := nI (i + 1)) (lv2 := [(3, .int (nI (i + 1))), (2, .int (c + (z (196 + 5 * i + k)))), (0, .ref (a 0)), (1, .int (nI k))]) 1 rfl dX6_sumOfNozzles_18 (nI_add i 1) (by decide) rfl ?_
      refine V.goto (tgt := 4) dX6_sumOfNozzles_21 (by decide) ?_
      refine V.eqlv (lv2 := [(3, .int (nI (i + 1))), (2, .int (c + (z (196 + 5 * i + k)))), (0, .ref (a 0)), (1, .int (nI k))]) [0, 1, 2, 3] rfl ?_
      exact ih (i + 1) (sNF z k i c) (by omega) hfu
  refine V.eqlv (lv2 := [(3, .int 0), (2, .int 0), (0, .ref (a 0)), (1, .int (nI k))]) [0, 1, 2, 3] rfl ?_
  exact L4 4 0 0 (by omega) rfl
abbrev rmX6_allParts : Room := { frames := 1, cells := 0, slots := 0, locals := 22 }
set_option maxHeartbeats 4000000 in
set_option maxRecDepth 100000 in
theorem kX6_allParts (g : GT) (a : Nat → Nat) (z hi tx ai pa tu pt ke : Nat → Int32) (st le th re nu du : Int32) (ha : Int64) (hF : z 5 = nI (nf z)) (hF8 : nf z ≤ 8) : UC g yX6_allParts wsX6_allParts rmX6_allParts [.ref (a 0)] (MW g a z hi tx ai pa tu pt ke st le th re nu du ha) (Qf (some (.int (aP z))) (MW g a z hi tx ai pa tu pt ke st le th re nu du ha)) := by
  refine UC.ofV (cc := cX6_allParts) (maxL := 3) (ret := some .int) (lv0 := [(0, .ref (a 0))]) (by decide) rfl (Nat.le_of_ble_eq_true rfl) rfl ?_
  generalize hQF : QFr g rmX6_allParts (Qf (some (.int (aP z))) (MW g a z hi tx ai pa tu pt ke st le th re nu du ha)) = QF
  have hq : QFok g rmX6_allParts (Qf (some (.int (aP z))) (MW g a z hi tx ai pa tu pt ke st le th re nu du ha)) QF := hQF ▸ QFr.q
  refine V.iconst (v := 0) dX6_allParts_0 (by decide) ?_
  refine V.istore_n (lv2 := [(1, .int 0), (0, .ref (a 0))]) dX6_allParts_1 rfl (by decide) rfl ?_
  refine V.iconst (v := 0) dX6_allParts_2 (by decide) ?_
  refine V.istore_n (lv2 := [(2, .int 0), (1, .int 0), (0, .ref (a 0))]) dX6_allParts_3 rfl (by decide) rfl ?_
  have L4 : ∀ (kL : Nat) (i : Nat) (c : Int32), i + kL = nf z → (fu (aPF z) i kL c = aP z) → V g rmX6_allParts RX6 cX6_allParts wsX6_allParts 3 QF (XM (some .int) "allParts") 0 0 (MW g a z hi tx ai pa tu pt ke st le th re nu du ha) 4 [(2, .int (nI i)), (1, .int c), (0, .ref (a 0))] [] := by
    intro kL
    induction kL with
    | zero =>
      intro i c hrel hfu
      rw [fu_0] at hfu
      refine V.iload_n 0 rfl dX6_allParts_4 rfl ?_
      refine V.aload_n 2 rfl dX6_allParts_5 rfl ?_
      refine V.get (v := .ref (a 1)) (fun w H => List.mem_cons_of_mem _ (List.mem_append_right _ H)) (hc := (rfl : vwCl[6]? = some (RX6, TX6, 15))) 0 0 (by decide) (List.mem_of_getElem? (i := 1) rfl) rfl rfl dX6_allParts_6 ?_
      refine V.iconst (v := 5) dX6_allParts_9 (by decide) ?_
      refine V.iald (f := z) 1 5 rfl rfl (by decide) (by decide) dX6_allParts_10 ?_
      refine V.icmp_ge_t (tgt := 29) (by rw [hF, show i = nf z from by omega]; exact nI_le (Nat.le_refl _) (by omega)) dX6_allParts_11 (by decide) ?_
      refine V.iload_n 1 rfl dX6_allParts_29 rfl ?_
      exact V.iret hq XM.r (Nat.le_of_ble_eq_true rfl) (Nat.le_of_ble_eq_true rfl) ⟨by rw [← hfu] <;> rfl, rfl⟩ dX6_allParts_30
    | succ kL ih =>
      intro i c hrel hfu
      rw [fu_s] at hfu
      refine V.iload_n 0 rfl dX6_allParts_4 rfl ?_
      refine V.aload_n 2 rfl dX6_allParts_5 rfl ?_
      refine V.get (v := .ref (a 1)) (fun w H => List.mem_cons_of_mem _ (List.mem_append_right _ H)) (hc := (rfl : vwCl[6]? = some (RX6, TX6, 15))) 0 0 (by decide) (List.mem_of_getElem? (i := 1) rfl) rfl rfl dX6_allParts_6 ?_
      refine V.iconst (v := 5) dX6_allParts_9 (by decide) ?_
      refine V.iald (f := z) 1 5 rfl rfl (by decide) (by decide) dX6_allParts_10 ?_
      refine V.icmp_ge_f (tgt := 29) (by rw [hF]; exact nI_ge (by omega) (by omega)) dX6_allParts_11 (by decide) ?_
      refine V.iload_n 1 rfl dX6_allParts_14 rfl ?_
      refine V.aload_n 2 rfl dX6_allParts_15 rfl ?_
      refine V.iload_n 0 rfl dX6_allParts_16 rfl ?_
      refine V.iconst (v := 2) dX6_allParts_17 (by decide) ?_
      refine V.callVf (ws2 := MW g a z hi tx ai pa tu pt ke st le th re nu du ha) (st2 := [.int (z (12 + 8 * i + 2)), .int c]) [.int (nI i), .int 2] [.int c] (kX6_ofFeeder g a z hi tx ai pa tu pt ke st le th re nu du ha i 2 (by first | omega | decide) (by first | omega | decide)) gX6_allParts_X6_ofFeeder rfl (by show _ ∧ _ ∧ _ ∧ _ = some (2 : Nat); decide +kernel) ⟨Nat.le_of_ble_eq_true rfl, Nat.le_of_ble_eq_true rfl⟩ (hc := (rfl : vwCl[6]? = some (RX6, TX6, 15))) 0 rfl [0, 1, 2, 3, 4, 5, 6, 7, 8] (by decide) rfl rfl (Nat.le_of_ble_eq_true rfl) ⟨Nat.le_of_ble_eq_true rfl, Nat.le_of_ble_eq_true rfl⟩ dX6_allParts_18 MWf rfl rfl rfl rfl ?_
      refine V.iadd dX6_allParts_21 ?_
      refine V.istore_n (lv2 := [(1, .int (c + (z (12 + 8 * i + 2)))), (2, .int (nI i)), (0, .ref (a 0))]) dX6_allParts_22 rfl (by decide) rfl ?_
      refine V.iinc (v := nI (i + 1)) (lv2 := [(2, .int (nI (i + 1))), (1, .int (c + (z (12 + 8 * i + 2)))), (0, .ref (a 0))]) 1 rfl dX6_allParts_23 (nI_add i 1) (by decide) rfl ?_
      refine V.goto (tgt := 4) dX6_allParts_26 (by decide) ?_
      refine V.eqlv (lv2 := [(2, .int (nI (i + 1))), (1, .int (c + (z (12 + 8 * i + 2)))), (0, .ref (a 0))]) [0, 1, 2] rfl ?_
      exact ih (i + 1) (aPF z i c) (by omega) hfu
  refine V.eqlv (lv2 := [(2, .int 0), (1, .int 0), (0, .ref (a 0))]) [0, 1, 2] rfl ?_
  exact L4 (nf z) 0 0 (by omega) rfl
abbrev rmX6_counted : Room := { frames := 2, cells := 0, slots := 0, locals := 45 }
set_option maxHeartbeats 4000000 in
set_option maxRecDepth 100000 in
theorem kX6_counted (g : GT) (a : Nat → Nat) (z hi tx ai pa tu pt ke : Nat → Int32) (le th re nu du : Int32) (ha : Int64) (k : Nat) (sn : Nat) (hk : k < 14) (hF : z 5 = nI (nf z)) (hF8 : nf z ≤ 8) (hP : z 6 = nI (np z)) (hP24 : np z ≤ 24) : UC g yX6_counted wsX6_counted rmX6_counted [.ref (a 0), .int (nI k)] (MW g a z hi tx ai pa tu pt ke (nI sn) le th re nu du ha) (Qf (some (.int (ctd z sn k))) (MW g a z hi tx ai pa tu pt ke (nI sn) le th re nu du ha)) := by
  refine UC.ofV (cc := cX6_counted) (maxL := 2) (ret := some .int) (lv0 := [(0, .ref (a 0)), (1, .int (nI k))]) (by decide) rfl (Nat.le_of_ble_eq_true rfl) rfl ?_
  generalize hQF : QFr g rmX6_counted (Qf (some (.int (ctd z sn k))) (MW g a z hi tx ai pa tu pt ke (nI sn) le th re nu du ha)) = QF
  have hq : QFok g rmX6_counted (Qf (some (.int (ctd z sn k))) (MW g a z hi tx ai pa tu pt ke (nI sn) le th re nu du ha)) QF := hQF ▸ QFr.q
  rcases (show k < 6 ∨ k = 6 ∨ k = 7 ∨ k = 8 ∨ k = 9 ∨ k = 10 ∨ k = 11 ∨ k = 12 ∨ k = 13 by omega) with h6 | rfl | rfl | rfl | rfl | rfl | rfl | rfl | rfl
  · skip
    refine V.iload_n 1 rfl dX6_counted_0 rfl ?_
    refine V.tableOut (tgt := 87) (Or.inl (by rw [nI_toInt (by omega)]; omega)) dX6_counted_1 (by decide) ?_
    refine V.aload_n 0 rfl dX6_counted_87 rfl ?_
    refine V.get (v := .ref (a 1)) (fun w H => List.mem_cons_of_mem _ (List.mem_append_right _ H)) (hc := (rfl : vwCl[6]? = some (RX6, TX6, 15))) 0 0 (by decide) (List.mem_of_getElem? (i := 1) rfl) rfl rfl dX6_counted_88 ?_
    refine V.iconst (v := 5) dX6_counted_91 (by decide) ?_
    refine V.iload_n 1 rfl dX6_counted_92 rfl ?_
    refine V.iaddN (v := nI (5 + k)) dX6_counted_93 (nI_add 5 k) ?_
    refine V.iald (f := z) 1 (5 + k) rfl rfl (by omega) (by decide) dX6_counted_94 ?_
    exact V.iret hq XM.r (Nat.le_of_ble_eq_true rfl) (Nat.le_of_ble_eq_true rfl) ⟨by rw [ctd, if_pos h6], rfl⟩ dX6_counted_95
  · skip
    refine V.iload_n 1 rfl dX6_counted_0 rfl ?_
    refine V.tableIn (off := 47) (tgt := 48) (by decide) (by decide) (by decide) dX6_counted_1 (by decide) ?_
    refine V.aload_n 0 rfl dX6_counted_48 rfl ?_
    refine V.iload_n 1 rfl dX6_counted_49 rfl ?_
    refine V.bipush (v := 6) dX6_counted_50 (by decide) ?_
    refine V.isubN (v := nI 0) dX6_counted_52 (by decide) ?_
    refine V.callVf (ws2 := MW g a z hi tx ai pa tu pt ke (nI sn) le th re nu du ha) (st2 := [.int (pT z (nI 0))]) [.int (nI 0)] [] (kX6_placesThat g a z hi tx ai pa tu pt ke (nI sn) le th re nu du ha (nI 0) hP hP24) gX6_counted_X6_placesThat rfl (by show _ ∧ _ ∧ _ ∧ _ = some (1 : Nat); decide +kernel) ⟨Nat.le_of_ble_eq_true rfl, Nat.le_of_ble_eq_true rfl⟩ (hc := (rfl : vwCl[6]? = some (RX6, TX6, 15))) 0 rfl [0, 1, 2, 3, 4, 5, 6, 7, 8] (by decide) rfl rfl (Nat.le_of_ble_eq_true rfl) ⟨Nat.le_of_ble_eq_true rfl, Nat.le_of_ble_eq_true rfl⟩ dX6_counted_53 MWf rfl rfl rfl rfl ?_
    exact V.iret hq XM.r (Nat.le_of_ble_eq_true rfl) (Nat.le_of_ble_eq_true rfl) ⟨rfl, rfl⟩ dX6_counted_56
  · skip
    refine V.iload_n 1 rfl dX6_counted_0 rfl ?_
    refine V.tableIn (off := 47) (tgt := 48) (by decide) (by decide) (by decide) dX6_counted_1 (by decide) ?_
    refine V.aload_n 0 rfl dX6_counted_48 rfl ?_
    refine V.iload_n 1 rfl dX6_counted_49 rfl ?_
    refine V.bipush (v := 6) dX6_counted_50 (by decide) ?_
    refine V.isubN (v := nI 1) dX6_counted_52 (by decide) ?_
    refine V.callVf (ws2 := MW g a z hi tx ai pa tu pt ke (nI sn) le th re nu du ha) (st2 := [.int (pT z (nI 1))]) [.int (nI 1)] [] (kX6_placesThat g a z hi tx ai pa tu pt ke (nI sn) le th re nu du ha (nI 1) hP hP24) gX6_counted_X6_placesThat rfl (by show _ ∧ _ ∧ _ ∧ _ = some (1 : Nat); decide +kernel) ⟨Nat.le_of_ble_eq_true rfl, Nat.le_of_ble_eq_true rfl⟩ (hc := (rfl : vwCl[6]? = some (RX6, TX6, 15))) 0 rfl [0, 1, 2, 3, 4, 5, 6, 7, 8] (by decide) rfl rfl (Nat.le_of_ble_eq_true rfl) ⟨Nat.le_of_ble_eq_true rfl, Nat.le_of_ble_eq_true rfl⟩ dX6_counted_53 MWf rfl rfl rfl rfl ?_
    exact V.iret hq XM.r (Nat.le_of_ble_eq_true rfl) (Nat.le_of_ble_eq_true rfl) ⟨rfl, rfl⟩ dX6_counted_56
  · skip
    refine V.iload_n 1 rfl dX6_counted_0 rfl ?_
    refine V.tableIn (off := 47) (tgt := 48) (by decide) (by decide) (by decide) dX6_counted_1 (by decide) ?_
    refine V.aload_n 0 rfl dX6_counted_48 rfl ?_
    refine V.iload_n 1 rfl dX6_counted_49 rfl ?_
    refine V.bipush (v := 6) dX6_counted_50 (by decide) ?_
    refine V.isubN (v := nI 2) dX6_counted_52 (by decide) ?_
    refine V.callVf (ws2 := MW g a z hi tx ai pa tu pt ke (nI sn) le th re nu du ha) (st2 := [.int (pT z (nI 2))]) [.int (nI 2)] [] (kX6_placesThat g a z hi tx ai pa tu pt ke (nI sn) le th re nu du ha (nI 2) hP hP24) gX6_counted_X6_placesThat rfl (by show _ ∧ _ ∧ _ ∧ _ = some (1 : Nat); decide +kernel) ⟨Nat.le_of_ble_eq_true rfl, Nat.le_of_ble_eq_true rfl⟩ (hc := (rfl : vwCl[6]? = some (RX6, TX6, 15))) 0 rfl [0, 1, 2, 3, 4, 5, 6, 7, 8] (by decide) rfl rfl (Nat.le_of_ble_eq_true rfl) ⟨Nat.le_of_ble_eq_true rfl, Nat.le_of_ble_eq_true rfl⟩ dX6_counted_53 MWf rfl rfl rfl rfl ?_
    exact V.iret hq XM.r (Nat.le_of_ble_eq_true rfl) (Nat.le_of_ble_eq_true rfl) ⟨rfl, rfl⟩ dX6_counted_56
  · skip
    refine V.iload_n 1 rfl dX6_counted_0 rfl ?_
    refine V.tableIn (off := 56) (tgt := 57) (by decide) (by decide) (by decide) dX6_counted_1 (by decide) ?_
    refine V.aload_n 0 rfl dX6_counted_57 rfl ?_
    refine V.iconst (v := 2) dX6_counted_58 (by decide) ?_
    refine V.callVf (ws2 := MW g a z hi tx ai pa tu pt ke (nI sn) le th re nu du ha) (st2 := [.int (sN z 2)]) [.int 2] [] (kX6_sumOfNozzles g a z hi tx ai pa tu pt ke (nI sn) le th re nu du ha 2 (by first | omega | decide)) gX6_counted_X6_sumOfNozzles rfl (by show _ ∧ _ ∧ _ ∧ _ = some (1 : Nat); decide +kernel) ⟨Nat.le_of_ble_eq_true rfl, Nat.le_of_ble_eq_true rfl⟩ (hc := (rfl : vwCl[6]? = some (RX6, TX6, 15))) 0 rfl [0, 1, 2, 3, 4, 5, 6, 7, 8] (by decide) rfl rfl (Nat.le_of_ble_eq_true rfl) ⟨Nat.le_of_ble_eq_true rfl, Nat.le_of_ble_eq_true rfl⟩ dX6_counted_59 MWf rfl rfl rfl rfl ?_
    exact V.iret hq XM.r (Nat.le_of_ble_eq_true rfl) (Nat.le_of_ble_eq_true rfl) ⟨rfl, rfl⟩ dX6_counted_62
  · skip
    refine V.iload_n 1 rfl dX6_counted_0 rfl ?_
    refine V.tableIn (off := 62) (tgt := 63) (by decide) (by decide) (by decide) dX6_counted_1 (by decide) ?_
    refine V.aload_n 0 rfl dX6_counted_63 rfl ?_
    refine V.iconst (v := 4) dX6_counted_64 (by decide) ?_
    refine V.callVf (ws2 := MW g a z hi tx ai pa tu pt ke (nI sn) le th re nu du ha) (st2 := [.int (sN z 4)]) [.int 4] [] (kX6_sumOfNozzles g a z hi tx ai pa tu pt ke (nI sn) le th re nu du ha 4 (by first | omega | decide)) gX6_counted_X6_sumOfNozzles rfl (by show _ ∧ _ ∧ _ ∧ _ = some (1 : Nat); decide +kernel) ⟨Nat.le_of_ble_eq_true rfl, Nat.le_of_ble_eq_true rfl⟩ (hc := (rfl : vwCl[6]? = some (RX6, TX6, 15))) 0 rfl [0, 1, 2, 3, 4, 5, 6, 7, 8] (by decide) rfl rfl (Nat.le_of_ble_eq_true rfl) ⟨Nat.le_of_ble_eq_true rfl, Nat.le_of_ble_eq_true rfl⟩ dX6_counted_65 MWf rfl rfl rfl rfl ?_
    exact V.iret hq XM.r (Nat.le_of_ble_eq_true rfl) (Nat.le_of_ble_eq_true rfl) ⟨rfl, rfl⟩ dX6_counted_68
  · skip
    refine V.iload_n 1 rfl dX6_counted_0 rfl ?_
    refine V.tableIn (off := 68) (tgt := 69) (by decide) (by decide) (by decide) dX6_counted_1 (by decide) ?_
    refine V.aload_n 0 rfl dX6_counted_69 rfl ?_
    refine V.get (v := .ref (a 1)) (fun w H => List.mem_cons_of_mem _ (List.mem_append_right _ H)) (hc := (rfl : vwCl[6]? = some (RX6, TX6, 15))) 0 0 (by decide) (List.mem_of_getElem? (i := 1) rfl) rfl rfl dX6_counted_70 ?_
    refine V.bipush (v := 11) dX6_counted_73 (by decide) ?_
    refine V.iald (f := z) 1 11 rfl rfl (by decide) (by decide) dX6_counted_75 ?_
    exact V.iret hq XM.r (Nat.le_of_ble_eq_true rfl) (Nat.le_of_ble_eq_true rfl) ⟨rfl, rfl⟩ dX6_counted_76
  · skip
    refine V.iload_n 1 rfl dX6_counted_0 rfl ?_
    refine V.tableIn (off := 76) (tgt := 77) (by decide) (by decide) (by decide) dX6_counted_1 (by decide) ?_
    refine V.aload_n 0 rfl dX6_counted_77 rfl ?_
    refine V.callVf (ws2 := MW g a z hi tx ai pa tu pt ke (nI sn) le th re nu du ha) (st2 := [.int (aP z)]) [] [] (kX6_allParts g a z hi tx ai pa tu pt ke (nI sn) le th re nu du ha  hF hF8) gX6_counted_X6_allParts rfl (by show _ ∧ _ ∧ _ ∧ _ = some (0 : Nat); decide +kernel) ⟨Nat.le_of_ble_eq_true rfl, Nat.le_of_ble_eq_true rfl⟩ (hc := (rfl : vwCl[6]? = some (RX6, TX6, 15))) 0 rfl [0, 1, 2, 3, 4, 5, 6, 7, 8] (by decide) rfl rfl (Nat.le_of_ble_eq_true rfl) ⟨Nat.le_of_ble_eq_true rfl, Nat.le_of_ble_eq_true rfl⟩ dX6_counted_78 MWf rfl rfl rfl rfl ?_
    exact V.iret hq XM.r (Nat.le_of_ble_eq_true rfl) (Nat.le_of_ble_eq_true rfl) ⟨rfl, rfl⟩ dX6_counted_81
  · skip
    refine V.iload_n 1 rfl dX6_counted_0 rfl ?_
    refine V.tableIn (off := 81) (tgt := 82) (by decide) (by decide) (by decide) dX6_counted_1 (by decide) ?_
    refine V.aload_n 0 rfl dX6_counted_82 rfl ?_
    refine V.get (v := .int (nI sn)) (fun w H => List.mem_cons_of_mem _ (List.mem_append_right _ H)) (hc := (rfl : vwCl[6]? = some (RX6, TX6, 15))) 0 1 (by decide) (List.mem_of_getElem? (i := 2) rfl) rfl rfl dX6_counted_83 ?_
    exact V.iret hq XM.r (Nat.le_of_ble_eq_true rfl) (Nat.le_of_ble_eq_true rfl) ⟨rfl, rfl⟩ dX6_counted_86
abbrev rmX6_aimNow : Room := { frames := 5, cells := 0, slots := 0, locals := 115 }
set_option maxHeartbeats 4000000 in
set_option maxRecDepth 100000 in
theorem kX6_aimNow (g : GT) (a : Nat → Nat) (z hi tx ai pa tu pt ke : Nat → Int32) (st le th re nu du : Int32) (ha : Int64) (n : Nat) (hn : n < 4) (hF : z 5 = nI (nf z)) (hF8 : nf z ≤ 8) (hP : z 6 = nI (np z)) (hP24 : np z ≤ 24) : UC g yX6_aimNow wsX6_aimNow rmX6_aimNow [.ref (a 0), .int (nI n)] (MW g a z hi tx ai pa tu pt ke st le th re nu du ha) (Qf (some (.int (lA z ai n))) (MW g a z hi tx (lA z ai) pa tu pt ke st le th re nu du ha)) := by
  refine UC.ofV (cc := cX6_aimNow) (maxL := 2) (ret := some .int) (lv0 := [(0, .ref (a 0)), (1, .int (nI n))]) (by decide) rfl (Nat.le_of_ble_eq_true rfl) rfl ?_
  generalize hQF : QFr g rmX6_aimNow (Qf (some (.int (lA z ai n))) (MW g a z hi tx (lA z ai) pa tu pt ke st le th re nu du ha)) = QF
  have hq : QFok g rmX6_aimNow (Qf (some (.int (lA z ai n))) (MW g a z hi tx (lA z ai) pa tu pt ke st le th re nu du ha)) QF := hQF ▸ QFr.q
  refine V.aload_n 0 rfl dX6_aimNow_0 rfl ?_
  refine V.callVf (ws2 := MW g a z hi tx (lA z ai) pa tu pt ke st le th re nu du ha) (st2 := []) [] [] (kX6_layAims g a z hi tx ai pa tu pt ke st le th re nu du ha  hF hF8 hP hP24) gX6_aimNow_X6_layAims rfl (by show _ ∧ _ ∧ _ ∧ _ = some (0 : Nat); decide +kernel) ⟨Nat.le_of_ble_eq_true rfl, Nat.le_of_ble_eq_true rfl⟩ (hc := (rfl : vwCl[6]? = some (RX6, TX6, 15))) 0 rfl [0, 1, 2, 3, 4, 5, 6, 7, 8] (by decide) rfl rfl (Nat.le_of_ble_eq_true rfl) ⟨Nat.le_of_ble_eq_true rfl, Nat.le_of_ble_eq_true rfl⟩ dX6_aimNow_1 MWf rfl rfl rfl rfl ?_
  refine V.aload_n 0 rfl dX6_aimNow_4 rfl ?_
  refine V.get (v := .ref (a 4)) (fun w H => List.mem_cons_of_mem _ (List.mem_append_right _ H)) (hc := (rfl : vwCl[6]? = some (RX6, TX6, 15))) 0 6 (by decide) (List.mem_of_getElem? (i := 1) rfl) rfl rfl dX6_aimNow_5 ?_
  refine V.iload_n 1 rfl dX6_aimNow_8 rfl ?_
  refine V.iald (f := lA z ai) 4 n rfl rfl (by omega) (by decide) dX6_aimNow_9 ?_
  exact V.iret hq XM.r (Nat.le_of_ble_eq_true rfl) (Nat.le_of_ble_eq_true rfl) ⟨rfl, rfl⟩ dX6_aimNow_10
abbrev rmX6_touredThen : Room := { frames := 7, cells := 0, slots := 0, locals := 162 }
set_option maxHeartbeats 4000000 in
set_option maxRecDepth 100000 in
theorem kX6_touredThen (g : GT) (a : Nat → Nat) (z hi tx ai pa tu pt ke : Nat → Int32) (st le th re nu du : Int32) (ha : Int64) (t : Nat) (k : Nat) (ht : t ≤ 20) (hk : k < 4) (hK : KZ z) : UC g yX6_touredThen wsX6_touredThen rmX6_touredThen [.ref (a 0), .int (nI t), .int (nI k)] (MW g a z hi tx ai pa tu pt ke st le th re nu du ha) (Qf (some (.int (tdV (z, ai, pa, tu) t k))) (MW g a z hi tx ((rTs t ((z, ai, pa, tu), 0)).1.2.1) ((rTs t ((z, ai, pa, tu), 0)).1.2.2.1) ((rTs t ((z, ai, pa, tu), 0)).1.2.2.2) pt (fu (cpF z) 0 248 ke) st le th re nu du ha)) := by
  refine UC.ofV (cc := cX6_touredThen) (maxL := 7) (ret := some .int) (lv0 := [(0, .ref (a 0)), (1, .int (nI t)), (2, .int (nI k))]) (by decide) rfl (Nat.le_of_ble_eq_true rfl) rfl ?_
  generalize hQF : QFr g rmX6_touredThen (Qf (some (.int (tdV (z, ai, pa, tu) t k))) (MW g a z hi tx ((rTs t ((z, ai, pa, tu), 0)).1.2.1) ((rTs t ((z, ai, pa, tu), 0)).1.2.2.1) ((rTs t ((z, ai, pa, tu), 0)).1.2.2.2) pt (fu (cpF z) 0 248 ke) st le th re nu du ha)) = QF
  have hq : QFok g rmX6_touredThen (Qf (some (.int (tdV (z, ai, pa, tu) t k))) (MW g a z hi tx ((rTs t ((z, ai, pa, tu), 0)).1.2.1) ((rTs t ((z, ai, pa, tu), 0)).1.2.2.1) ((rTs t ((z, ai, pa, tu), 0)).1.2.2.2) pt (fu (cpF z) 0 248 ke) st le th re nu du ha)) QF := hQF ▸ QFr.q
  obtain ⟨hF, hF8, hP, hP24, hR, hR5⟩ := id hK
  refine V.aload_n 0 rfl dX6_touredThen_0 rfl ?_
  refine V.callVf (ws2 := MW g a z hi tx ai pa tu pt (fu (cpF z) 0 248 ke) st le th re nu du ha) (st2 := []) [] [] (kX6_keep g a z hi tx ai pa tu pt ke st le th re nu du ha  ) gX6_touredThen_X6_keep rfl (by show _ ∧ _ ∧ _ ∧ _ = some (0 : Nat); decide +kernel) ⟨Nat.le_of_ble_eq_true rfl, Nat.le_of_ble_eq_true rfl⟩ (hc := (rfl : vwCl[6]? = some (RX6, TX6, 15))) 0 rfl [0, 1, 2, 3, 4, 5, 6, 7, 8] (by decide) rfl rfl (Nat.le_of_ble_eq_true rfl) ⟨Nat.le_of_ble_eq_true rfl, Nat.le_of_ble_eq_true rfl⟩ dX6_touredThen_1 MWf rfl rfl rfl rfl ?_
  refine V.aload_n 0 rfl dX6_touredThen_4 rfl ?_
  refine V.iconst (v := 2) dX6_touredThen_5 (by decide) ?_
  refine V.callVf (ws2 := MW g a z hi tx ai pa tu pt (fu (cpF z) 0 248 ke) st le th re nu du ha) (st2 := [.int (sN z 2)]) [.int 2] [] (kX6_sumOfNozzles g a z hi tx ai pa tu pt (fu (cpF z) 0 248 ke) st le th re nu du ha 2 (by first | omega | decide)) gX6_touredThen_X6_sumOfNozzles rfl (by show _ ∧ _ ∧ _ ∧ _ = some (1 : Nat); decide +kernel) ⟨Nat.le_of_ble_eq_true rfl, Nat.le_of_ble_eq_true rfl⟩ (hc := (rfl : vwCl[6]? = some (RX6, TX6, 15))) 0 rfl [0, 1, 2, 3, 4, 5, 6, 7, 8] (by decide) rfl rfl (Nat.le_of_ble_eq_true rfl) ⟨Nat.le_of_ble_eq_true rfl, Nat.le_of_ble_eq_true rfl⟩ dX6_touredThen_6 MWf rfl rfl rfl rfl ?_
  refine V.istore_n (lv2 := [(3, .int (sN z 2)), (0, .ref (a 0)), (1, .int (nI t)), (2, .int (nI k))]) dX6_touredThen_9 rfl (by decide) rfl ?_
  refine V.aload_n 1 rfl dX6_touredThen_10 rfl ?_
  refine V.get (v := .ref (a 1)) (fun w H => List.mem_cons_of_mem _ (List.mem_append_right _ H)) (hc := (rfl : vwCl[6]? = some (RX6, TX6, 15))) 0 0 (by decide) (List.mem_of_getElem? (i := 1) rfl) rfl rfl dX6_touredThen_11 ?_
  refine V.bipush (v := 7) dX6_touredThen_14 (by decide) ?_
  refine V.iald (f := z) 1 7 rfl rfl (by decide) (by decide) dX6_touredThen_16 ?_
  refine V.istore (lv2 := [(4, .int (z 7)), (3, .int (sN z 2)), (0, .ref (a 0)), (1, .int (nI t)), (2, .int (nI k))]) dX6_touredThen_17 (by decide) rfl ?_
  refine V.aload_n 2 rfl dX6_touredThen_19 rfl ?_
  refine V.iload_n 3 rfl dX6_touredThen_20 rfl ?_
  refine V.callVf (ws2 := MW g a ((rTs t ((z, ai, pa, tu), 0)).1.1) hi tx ((rTs t ((z, ai, pa, tu), 0)).1.2.1) ((rTs t ((z, ai, pa, tu), 0)).1.2.2.1) ((rTs t ((z, ai, pa, tu), 0)).1.2.2.2) pt (fu (cpF z) 0 248 ke) st le th re nu du ha) (st2 := [.int ((rTs t ((z, ai, pa, tu), 0)).2)]) [.int (nI t)] [] (kX6_tours g a z hi tx ai pa tu pt (fu (cpF z) 0 248 ke) st le th re nu du ha t (by first | omega | decide) (by first | omega | decide)) gX6_touredThen_X6_tours rfl (by show _ ∧ _ ∧ _ ∧ _ = some (1 : Nat); decide +kernel) ⟨Nat.le_of_ble_eq_true rfl, Nat.le_of_ble_eq_true rfl⟩ (hc := (rfl : vwCl[6]? = some (RX6, TX6, 15))) 0 rfl [0, 1, 2, 3, 4, 5, 6, 7, 8] (by decide) rfl rfl (Nat.le_of_ble_eq_true rfl) ⟨Nat.le_of_ble_eq_true rfl, Nat.le_of_ble_eq_true rfl⟩ dX6_touredThen_21 MWf rfl rfl rfl rfl ?_
  refine V.istore (lv2 := [(5, .int ((rTs t ((z, ai, pa, tu), 0)).2)), (4, .int (z 7)), (3, .int (sN z 2)), (0, .ref (a 0)), (1, .int (nI t)), (2, .int (nI k))]) dX6_touredThen_24 (by decide) rfl ?_
  have hK1 := hK.lo (rTs_lo7 t (z, ai, pa, tu) 0)
  obtain ⟨hF1, hF81, hP1, hP241, hR1, hR51⟩ := id hK1
  rcases (show k = 0 ∨ k = 1 ∨ k = 2 ∨ k = 3 by omega) with rfl | rfl | rfl | rfl
  · skip
    refine V.iload_n 5 rfl dX6_touredThen_26 rfl ?_
    refine V.if_ne_f (tgt := 35) (by decide) dX6_touredThen_27 (by decide) ?_
    refine V.iload 0 rfl dX6_touredThen_30 ?_
    refine V.goto (tgt := 73) dX6_touredThen_32 (by decide) ?_
    refine V.istore (lv2 := [(6, .int ((rTs t ((z, ai, pa, tu), 0)).2)), (5, .int ((rTs t ((z, ai, pa, tu), 0)).2)), (4, .int (z 7)), (3, .int (sN z 2)), (0, .ref (a 0)), (1, .int (nI t)), (2, .int 0)]) dX6_touredThen_73 (by decide) rfl ?_
    refine V.aload_n 4 rfl dX6_touredThen_75 rfl ?_
    refine V.callVf (ws2 := MW g a (fu (cpF (fu (cpF z) 0 248 ke)) 0 248 ((rTs t ((z, ai, pa, tu), 0)).1.1)) hi tx ((rTs t ((z, ai, pa, tu), 0)).1.2.1) ((rTs t ((z, ai, pa, tu), 0)).1.2.2.1) ((rTs t ((z, ai, pa, tu), 0)).1.2.2.2) pt (fu (cpF z) 0 248 ke) st le th re nu du ha) (st2 := []) [] [] (kX6_layBack g a ((rTs t ((z, ai, pa, tu), 0)).1.1) hi tx ((rTs t ((z, ai, pa, tu), 0)).1.2.1) ((rTs t ((z, ai, pa, tu), 0)).1.2.2.1) ((rTs t ((z, ai, pa, tu), 0)).1.2.2.2) pt (fu (cpF z) 0 248 ke) st le th re nu du ha  ) gX6_touredThen_X6_layBack rfl (by show _ ∧ _ ∧ _ ∧ _ = some (0 : Nat); decide +kernel) ⟨Nat.le_of_ble_eq_true rfl, Nat.le_of_ble_eq_true rfl⟩ (hc := (rfl : vwCl[6]? = some (RX6, TX6, 15))) 0 rfl [0, 1, 2, 3, 4, 5, 6, 7, 8] (by decide) rfl rfl (Nat.le_of_ble_eq_true rfl) ⟨Nat.le_of_ble_eq_true rfl, Nat.le_of_ble_eq_true rfl⟩ dX6_touredThen_76 MWf rfl rfl rfl rfl ?_
    refine V.conv (ws2 := MW g a z hi tx ((rTs t ((z, ai, pa, tu), 0)).1.2.1) ((rTs t ((z, ai, pa, tu), 0)).1.2.2.1) ((rTs t ((z, ai, pa, tu), 0)).1.2.2.2) pt (fu (cpF z) 0 248 ke) st le th re nu du ha) (fun H h => va_P_conv (p := 1) rfl (va_at_i (fun k hk => by rw [cpF_at, if_pos (by omega), cpF_at, if_pos (by omega)])) h) rfl ?_
    refine V.iload 0 rfl dX6_touredThen_79 ?_
    exact V.iret hq XM.r (Nat.le_of_ble_eq_true rfl) (Nat.le_of_ble_eq_true rfl) ⟨rfl, rfl⟩ dX6_touredThen_81
  · skip
    refine V.iload_n 5 rfl dX6_touredThen_26 rfl ?_
    refine V.if_ne_t (tgt := 35) (by decide) dX6_touredThen_27 (by decide) ?_
    refine V.iload_n 5 rfl dX6_touredThen_35 rfl ?_
    refine V.iconst (v := 1) dX6_touredThen_36 (by decide) ?_
    refine V.icmp_ne_f (tgt := 50) (by decide) dX6_touredThen_37 (by decide) ?_
    refine V.aload_n 3 rfl dX6_touredThen_40 rfl ?_
    refine V.iconst (v := 2) dX6_touredThen_41 (by decide) ?_
    refine V.callVf (ws2 := MW g a ((rTs t ((z, ai, pa, tu), 0)).1.1) hi tx ((rTs t ((z, ai, pa, tu), 0)).1.2.1) ((rTs t ((z, ai, pa, tu), 0)).1.2.2.1) ((rTs t ((z, ai, pa, tu), 0)).1.2.2.2) pt (fu (cpF z) 0 248 ke) st le th re nu du ha) (st2 := [.int (sN ((rTs t ((z, ai, pa, tu), 0)).1.1) 2)]) [.int 2] [] (kX6_sumOfNozzles g a ((rTs t ((z, ai, pa, tu), 0)).1.1) hi tx ((rTs t ((z, ai, pa, tu), 0)).1.2.1) ((rTs t ((z, ai, pa, tu), 0)).1.2.2.1) ((rTs t ((z, ai, pa, tu), 0)).1.2.2.2) pt (fu (cpF z) 0 248 ke) st le th re nu du ha 2 (by first | omega | decide)) gX6_touredThen_X6_sumOfNozzles rfl (by show _ ∧ _ ∧ _ ∧ _ = some (1 : Nat); decide +kernel) ⟨Nat.le_of_ble_eq_true rfl, Nat.le_of_ble_eq_true rfl⟩ (hc := (rfl : vwCl[6]? = some (RX6, TX6, 15))) 0 rfl [0, 1, 2, 3, 4, 5, 6, 7, 8] (by decide) rfl rfl (Nat.le_of_ble_eq_true rfl) ⟨Nat.le_of_ble_eq_true rfl, Nat.le_of_ble_eq_true rfl⟩ dX6_touredThen_42 MWf rfl rfl rfl rfl ?_
    refine V.iload_n 2 rfl dX6_touredThen_45 rfl ?_
    refine V.isub dX6_touredThen_46 ?_
    refine V.goto (tgt := 73) dX6_touredThen_47 (by decide) ?_
    refine V.istore (lv2 := [(6, .int ((sN ((rTs t ((z, ai, pa, tu), 0)).1.1) 2) - (sN z 2))), (5, .int ((rTs t ((z, ai, pa, tu), 0)).2)), (4, .int (z 7)), (3, .int (sN z 2)), (0, .ref (a 0)), (1, .int (nI t)), (2, .int 1)]) dX6_touredThen_73 (by decide) rfl ?_
    refine V.aload_n 4 rfl dX6_touredThen_75 rfl ?_
    refine V.callVf (ws2 := MW g a (fu (cpF (fu (cpF z) 0 248 ke)) 0 248 ((rTs t ((z, ai, pa, tu), 0)).1.1)) hi tx ((rTs t ((z, ai, pa, tu), 0)).1.2.1) ((rTs t ((z, ai, pa, tu), 0)).1.2.2.1) ((rTs t ((z, ai, pa, tu), 0)).1.2.2.2) pt (fu (cpF z) 0 248 ke) st le th re nu du ha) (st2 := []) [] [] (kX6_layBack g a ((rTs t ((z, ai, pa, tu), 0)).1.1) hi tx ((rTs t ((z, ai, pa, tu), 0)).1.2.1) ((rTs t ((z, ai, pa, tu), 0)).1.2.2.1) ((rTs t ((z, ai, pa, tu), 0)).1.2.2.2) pt (fu (cpF z) 0 248 ke) st le th re nu du ha  ) gX6_touredThen_X6_layBack rfl (by show _ ∧ _ ∧ _ ∧ _ = some (0 : Nat); decide +kernel) ⟨Nat.le_of_ble_eq_true rfl, Nat.le_of_ble_eq_true rfl⟩ (hc := (rfl : vwCl[6]? = some (RX6, TX6, 15))) 0 rfl [0, 1, 2, 3, 4, 5, 6, 7, 8] (by decide) rfl rfl (Nat.le_of_ble_eq_true rfl) ⟨Nat.le_of_ble_eq_true rfl, Nat.le_of_ble_eq_true rfl⟩ dX6_touredThen_76 MWf rfl rfl rfl rfl ?_
    refine V.conv (ws2 := MW g a z hi tx ((rTs t ((z, ai, pa, tu), 0)).1.2.1) ((rTs t ((z, ai, pa, tu), 0)).1.2.2.1) ((rTs t ((z, ai, pa, tu), 0)).1.2.2.2) pt (fu (cpF z) 0 248 ke) st le th re nu du ha) (fun H h => va_P_conv (p := 1) rfl (va_at_i (fun k hk => by rw [cpF_at, if_pos (by omega), cpF_at, if_pos (by omega)])) h) rfl ?_
    refine V.iload 0 rfl dX6_touredThen_79 ?_
    exact V.iret hq XM.r (Nat.le_of_ble_eq_true rfl) (Nat.le_of_ble_eq_true rfl) ⟨rfl, rfl⟩ dX6_touredThen_81
  · skip
    refine V.iload_n 5 rfl dX6_touredThen_26 rfl ?_
    refine V.if_ne_t (tgt := 35) (by decide) dX6_touredThen_27 (by decide) ?_
    refine V.iload_n 5 rfl dX6_touredThen_35 rfl ?_
    refine V.iconst (v := 1) dX6_touredThen_36 (by decide) ?_
    refine V.icmp_ne_t (tgt := 50) (by decide) dX6_touredThen_37 (by decide) ?_
    refine V.iload_n 5 rfl dX6_touredThen_50 rfl ?_
    refine V.iconst (v := 2) dX6_touredThen_51 (by decide) ?_
    refine V.icmp_ne_f (tgt := 68) (by decide) dX6_touredThen_52 (by decide) ?_
    refine V.aload_n 3 rfl dX6_touredThen_55 rfl ?_
    refine V.get (v := .ref (a 1)) (fun w H => List.mem_cons_of_mem _ (List.mem_append_right _ H)) (hc := (rfl : vwCl[6]? = some (RX6, TX6, 15))) 0 0 (by decide) (List.mem_of_getElem? (i := 1) rfl) rfl rfl dX6_touredThen_56 ?_
    refine V.bipush (v := 7) dX6_touredThen_59 (by decide) ?_
    refine V.iald (f := (rTs t ((z, ai, pa, tu), 0)).1.1) 1 7 rfl rfl (by decide) (by decide) dX6_touredThen_61 ?_
    refine V.iload 1 rfl dX6_touredThen_62 ?_
    refine V.isub dX6_touredThen_64 ?_
    refine V.goto (tgt := 73) dX6_touredThen_65 (by decide) ?_
    refine V.istore (lv2 := [(6, .int ((((rTs t ((z, ai, pa, tu), 0)).1.1) 7) - (z 7))), (5, .int ((rTs t ((z, ai, pa, tu), 0)).2)), (4, .int (z 7)), (3, .int (sN z 2)), (0, .ref (a 0)), (1, .int (nI t)), (2, .int 2)]) dX6_touredThen_73 (by decide) rfl ?_
    refine V.aload_n 4 rfl dX6_touredThen_75 rfl ?_
    refine V.callVf (ws2 := MW g a (fu (cpF (fu (cpF z) 0 248 ke)) 0 248 ((rTs t ((z, ai, pa, tu), 0)).1.1)) hi tx ((rTs t ((z, ai, pa, tu), 0)).1.2.1) ((rTs t ((z, ai, pa, tu), 0)).1.2.2.1) ((rTs t ((z, ai, pa, tu), 0)).1.2.2.2) pt (fu (cpF z) 0 248 ke) st le th re nu du ha) (st2 := []) [] [] (kX6_layBack g a ((rTs t ((z, ai, pa, tu), 0)).1.1) hi tx ((rTs t ((z, ai, pa, tu), 0)).1.2.1) ((rTs t ((z, ai, pa, tu), 0)).1.2.2.1) ((rTs t ((z, ai, pa, tu), 0)).1.2.2.2) pt (fu (cpF z) 0 248 ke) st le th re nu du ha  ) gX6_touredThen_X6_layBack rfl (by show _ ∧ _ ∧ _ ∧ _ = some (0 : Nat); decide +kernel) ⟨Nat.le_of_ble_eq_true rfl, Nat.le_of_ble_eq_true rfl⟩ (hc := (rfl : vwCl[6]? = some (RX6, TX6, 15))) 0 rfl [0, 1, 2, 3, 4, 5, 6, 7, 8] (by decide) rfl rfl (Nat.le_of_ble_eq_true rfl) ⟨Nat.le_of_ble_eq_true rfl, Nat.le_of_ble_eq_true rfl⟩ dX6_touredThen_76 MWf rfl rfl rfl rfl ?_
    refine V.conv (ws2 := MW g a z hi tx ((rTs t ((z, ai, pa, tu), 0)).1.2.1) ((rTs t ((z, ai, pa, tu), 0)).1.2.2.1) ((rTs t ((z, ai, pa, tu), 0)).1.2.2.2) pt (fu (cpF z) 0 248 ke) st le th re nu du ha) (fun H h => va_P_conv (p := 1) rfl (va_at_i (fun k hk => by rw [cpF_at, if_pos (by omega), cpF_at, if_pos (by omega)])) h) rfl ?_
    refine V.iload 0 rfl dX6_touredThen_79 ?_
    exact V.iret hq XM.r (Nat.le_of_ble_eq_true rfl) (Nat.le_of_ble_eq_true rfl) ⟨rfl, rfl⟩ dX6_touredThen_81
  · skip
    refine V.iload_n 5 rfl dX6_touredThen_26 rfl ?_
    refine V.if_ne_t (tgt := 35) (by decide) dX6_touredThen_27 (by decide) ?_
    refine V.iload_n 5 rfl dX6_touredThen_35 rfl ?_
    refine V.iconst (v := 1) dX6_touredThen_36 (by decide) ?_
    refine V.icmp_ne_t (tgt := 50) (by decide) dX6_touredThen_37 (by decide) ?_
    refine V.iload_n 5 rfl dX6_touredThen_50 rfl ?_
    refine V.iconst (v := 2) dX6_touredThen_51 (by decide) ?_
    refine V.icmp_ne_t (tgt := 68) (by decide) dX6_touredThen_52 (by decide) ?_
    refine V.aload_n 3 rfl dX6_touredThen_68 rfl ?_
    refine V.iconst (v := 1) dX6_touredThen_69 (by decide) ?_
    refine V.callVf (ws2 := MW g a ((rTs t ((z, ai, pa, tu), 0)).1.1) hi tx ((rTs t ((z, ai, pa, tu), 0)).1.2.1) ((rTs t ((z, ai, pa, tu), 0)).1.2.2.1) ((rTs t ((z, ai, pa, tu), 0)).1.2.2.2) pt (fu (cpF z) 0 248 ke) st le th re nu du ha) (st2 := [.int (pT ((rTs t ((z, ai, pa, tu), 0)).1.1) (1 : Int32))]) [.int 1] [] (kX6_placesThat g a ((rTs t ((z, ai, pa, tu), 0)).1.1) hi tx ((rTs t ((z, ai, pa, tu), 0)).1.2.1) ((rTs t ((z, ai, pa, tu), 0)).1.2.2.1) ((rTs t ((z, ai, pa, tu), 0)).1.2.2.2) pt (fu (cpF z) 0 248 ke) st le th re nu du ha (1 : Int32) (by first | omega | decide) (by first | omega | decide)) gX6_touredThen_X6_placesThat rfl (by show _ ∧ _ ∧ _ ∧ _ = some (1 : Nat); decide +kernel) ⟨Nat.le_of_ble_eq_true rfl, Nat.le_of_ble_eq_true rfl⟩ (hc := (rfl : vwCl[6]? = some (RX6, TX6, 15))) 0 rfl [0, 1, 2, 3, 4, 5, 6, 7, 8] (by decide) rfl rfl (Nat.le_of_ble_eq_true rfl) ⟨Nat.le_of_ble_eq_true rfl, Nat.le_of_ble_eq_true rfl⟩ dX6_touredThen_70 MWf rfl rfl rfl rfl ?_
    refine V.istore (lv2 := [(6, .int (pT ((rTs t ((z, ai, pa, tu), 0)).1.1) (1 : Int32))), (5, .int ((rTs t ((z, ai, pa, tu), 0)).2)), (4, .int (z 7)), (3, .int (sN z 2)), (0, .ref (a 0)), (1, .int (nI t)), (2, .int 3)]) dX6_touredThen_73 (by decide) rfl ?_
    refine V.aload_n 4 rfl dX6_touredThen_75 rfl ?_
    refine V.callVf (ws2 := MW g a (fu (cpF (fu (cpF z) 0 248 ke)) 0 248 ((rTs t ((z, ai, pa, tu), 0)).1.1)) hi tx ((rTs t ((z, ai, pa, tu), 0)).1.2.1) ((rTs t ((z, ai, pa, tu), 0)).1.2.2.1) ((rTs t ((z, ai, pa, tu), 0)).1.2.2.2) pt (fu (cpF z) 0 248 ke) st le th re nu du ha) (st2 := []) [] [] (kX6_layBack g a ((rTs t ((z, ai, pa, tu), 0)).1.1) hi tx ((rTs t ((z, ai, pa, tu), 0)).1.2.1) ((rTs t ((z, ai, pa, tu), 0)).1.2.2.1) ((rTs t ((z, ai, pa, tu), 0)).1.2.2.2) pt (fu (cpF z) 0 248 ke) st le th re nu du ha  ) gX6_touredThen_X6_layBack rfl (by show _ ∧ _ ∧ _ ∧ _ = some (0 : Nat); decide +kernel) ⟨Nat.le_of_ble_eq_true rfl, Nat.le_of_ble_eq_true rfl⟩ (hc := (rfl : vwCl[6]? = some (RX6, TX6, 15))) 0 rfl [0, 1, 2, 3, 4, 5, 6, 7, 8] (by decide) rfl rfl (Nat.le_of_ble_eq_true rfl) ⟨Nat.le_of_ble_eq_true rfl, Nat.le_of_ble_eq_true rfl⟩ dX6_touredThen_76 MWf rfl rfl rfl rfl ?_
    refine V.conv (ws2 := MW g a z hi tx ((rTs t ((z, ai, pa, tu), 0)).1.2.1) ((rTs t ((z, ai, pa, tu), 0)).1.2.2.1) ((rTs t ((z, ai, pa, tu), 0)).1.2.2.2) pt (fu (cpF z) 0 248 ke) st le th re nu du ha) (fun H h => va_P_conv (p := 1) rfl (va_at_i (fun k hk => by rw [cpF_at, if_pos (by omega), cpF_at, if_pos (by omega)])) h) rfl ?_
    refine V.iload 0 rfl dX6_touredThen_79 ?_
    exact V.iret hq XM.r (Nat.le_of_ble_eq_true rfl) (Nat.le_of_ble_eq_true rfl) ⟨rfl, rfl⟩ dX6_touredThen_81
abbrev rmX6_neededNow : Room := { frames := 6, cells := 0, slots := 0, locals := 138 }
set_option maxHeartbeats 4000000 in
set_option maxRecDepth 100000 in
theorem kX6_neededNow (g : GT) (a : Nat → Nat) (z hi tx ai pa tu pt ke : Nat → Int32) (st le th re nu du : Int32) (ha : Int64) (hK : KZ z) (hI : PI z) : UC g yX6_neededNow wsX6_neededNow rmX6_neededNow [.ref (a 0)] (MW g a z hi tx ai pa tu pt ke st le th re nu du ha) (Qf (some (.int (en (ndA (z, ai, pa, tu)).1))) (MW g a z hi tx ((ndA (z, ai, pa, tu)).2.2.1) ((ndA (z, ai, pa, tu)).2.2.2.1) ((ndA (z, ai, pa, tu)).2.2.2.2) pt (fu (cpF z) 0 248 ke) st le th re nu du ha)) := by
  refine UC.ofV (cc := cX6_neededNow) (maxL := 5) (ret := some .int) (lv0 := [(0, .ref (a 0))]) (by decide) rfl (Nat.le_of_ble_eq_true rfl) rfl ?_
  generalize hQF : QFr g rmX6_neededNow (Qf (some (.int (en (ndA (z, ai, pa, tu)).1))) (MW g a z hi tx ((ndA (z, ai, pa, tu)).2.2.1) ((ndA (z, ai, pa, tu)).2.2.2.1) ((ndA (z, ai, pa, tu)).2.2.2.2) pt (fu (cpF z) 0 248 ke) st le th re nu du ha)) = QF
  have hq : QFok g rmX6_neededNow (Qf (some (.int (en (ndA (z, ai, pa, tu)).1))) (MW g a z hi tx ((ndA (z, ai, pa, tu)).2.2.1) ((ndA (z, ai, pa, tu)).2.2.2.1) ((ndA (z, ai, pa, tu)).2.2.2.2) pt (fu (cpF z) 0 248 ke) st le th re nu du ha)) QF := hQF ▸ QFr.q
  obtain ⟨hF, hF8, hP, hP24, hR, hR5⟩ := id hK
  refine V.aload_n 0 rfl dX6_neededNow_0 rfl ?_
  refine V.callVf (ws2 := MW g a z hi tx ai pa tu pt (fu (cpF z) 0 248 ke) st le th re nu du ha) (st2 := []) [] [] (kX6_keep g a z hi tx ai pa tu pt ke st le th re nu du ha  ) gX6_neededNow_X6_keep rfl (by show _ ∧ _ ∧ _ ∧ _ = some (0 : Nat); decide +kernel) ⟨Nat.le_of_ble_eq_true rfl, Nat.le_of_ble_eq_true rfl⟩ (hc := (rfl : vwCl[6]? = some (RX6, TX6, 15))) 0 rfl [0, 1, 2, 3, 4, 5, 6, 7, 8] (by decide) rfl rfl (Nat.le_of_ble_eq_true rfl) ⟨Nat.le_of_ble_eq_true rfl, Nat.le_of_ble_eq_true rfl⟩ dX6_neededNow_1 MWf rfl rfl rfl rfl ?_
  refine V.aload_n 0 rfl dX6_neededNow_4 rfl ?_
  refine V.iconst (v := 1) dX6_neededNow_5 (by decide) ?_
  refine V.callVf (ws2 := MW g a z hi tx ai pa tu pt (fu (cpF z) 0 248 ke) st le th re nu du ha) (st2 := [.int (pT z (1 : Int32))]) [.int 1] [] (kX6_placesThat g a z hi tx ai pa tu pt (fu (cpF z) 0 248 ke) st le th re nu du ha (1 : Int32) hP hP24) gX6_neededNow_X6_placesThat rfl (by show _ ∧ _ ∧ _ ∧ _ = some (1 : Nat); decide +kernel) ⟨Nat.le_of_ble_eq_true rfl, Nat.le_of_ble_eq_true rfl⟩ (hc := (rfl : vwCl[6]? = some (RX6, TX6, 15))) 0 rfl [0, 1, 2, 3, 4, 5, 6, 7, 8] (by decide) rfl rfl (Nat.le_of_ble_eq_true rfl) ⟨Nat.le_of_ble_eq_true rfl, Nat.le_of_ble_eq_true rfl⟩ dX6_neededNow_6 MWf rfl rfl rfl rfl ?_
  refine V.aload_n 0 rfl dX6_neededNow_9 rfl ?_
  refine V.get (v := .ref (a 1)) (fun w H => List.mem_cons_of_mem _ (List.mem_append_right _ H)) (hc := (rfl : vwCl[6]? = some (RX6, TX6, 15))) 0 0 (by decide) (List.mem_of_getElem? (i := 1) rfl) rfl rfl dX6_neededNow_10 ?_
  refine V.bipush (v := 6) dX6_neededNow_13 (by decide) ?_
  refine V.iald (f := z) 1 6 rfl rfl (by decide) (by decide) dX6_neededNow_15 ?_
  have L27 : ∀ (kL : Nat) (i : Nat) (o : Option Nat) (s : R5), i + kL = 41 → (lo7 s.1 z) → (PI s.1) → (∀ r : Nat, o = some r → r < 100) → (ndL kL i o s = ndA (z, ai, pa, tu)) → V g rmX6_neededNow RX6 cX6_neededNow wsX6_neededNow 5 QF (XM (some .int) "neededNow") 0 0 (MW g a s.1 hi tx s.2.1 s.2.2.1 s.2.2.2 pt (fu (cpF z) 0 248 ke) st le th re nu du ha) 27 [(0, .ref (a 0)), (1, .int (en o)), (2, .int (nI i))] [] := by
    intro kL
    induction kL with
    | zero =>
      intro i o s hrel hs7 hI2 ho hnd
      have hK1 := hK.lo hs7
      obtain ⟨hF1, hF81, hP1, hP241, hR1, hR51⟩ := id hK1
      refine V.iload_n 2 rfl dX6_neededNow_27 rfl ?_
      refine V.bipush (v := 40) dX6_neededNow_28 (by decide) ?_
      refine V.icmp_gt_t (tgt := 76) (by rw [show i = 41 from by omega]; decide) dX6_neededNow_30 (by decide) ?_
      refine V.aload_n 0 rfl dX6_neededNow_76 rfl ?_
      refine V.callVf (ws2 := MW g a (fu (cpF (fu (cpF z) 0 248 ke)) 0 248 s.1) hi tx s.2.1 s.2.2.1 s.2.2.2 pt (fu (cpF z) 0 248 ke) st le th re nu du ha) (st2 := []) [] [] (kX6_layBack g a s.1 hi tx s.2.1 s.2.2.1 s.2.2.2 pt (fu (cpF z) 0 248 ke) st le th re nu du ha  ) gX6_neededNow_X6_layBack rfl (by show _ ∧ _ ∧ _ ∧ _ = some (0 : Nat); decide +kernel) ⟨Nat.le_of_ble_eq_true rfl, Nat.le_of_ble_eq_true rfl⟩ (hc := (rfl : vwCl[6]? = some (RX6, TX6, 15))) 0 rfl [0, 1, 2, 3, 4, 5, 6, 7, 8] (by decide) rfl rfl (Nat.le_of_ble_eq_true rfl) ⟨Nat.le_of_ble_eq_true rfl, Nat.le_of_ble_eq_true rfl⟩ dX6_neededNow_77 MWf rfl rfl rfl rfl ?_
      refine V.conv (ws2 := MW g a z hi tx s.2.1 s.2.2.1 s.2.2.2 pt (fu (cpF z) 0 248 ke) st le th re nu du ha) (fun H h => va_P_conv (p := 1) rfl (va_at_i (fun k hk => by rw [cpF_at, if_pos (by omega), cpF_at, if_pos (by omega)])) h) rfl ?_
      refine V.iload_n 1 rfl dX6_neededNow_80 rfl ?_
      exact V.iret hq XM.r (Nat.le_of_ble_eq_true rfl) (Nat.le_of_ble_eq_true rfl) ⟨by rw [← hnd] <;> rfl, by rw [← hnd] <;> rfl⟩ dX6_neededNow_81
    | succ kL ih =>
      intro i o s hrel hs7 hI2 ho hnd
      have hK1 := hK.lo hs7
      obtain ⟨hF1, hF81, hP1, hP241, hR1, hR51⟩ := id hK1
      refine V.iload_n 2 rfl dX6_neededNow_27 rfl ?_
      refine V.bipush (v := 40) dX6_neededNow_28 (by decide) ?_
      refine V.icmp_gt_f (tgt := 76) (by exact nI_nlt (a := 40) (b := i) (by omega) (by omega)) dX6_neededNow_30 (by decide) ?_
      refine V.iload_n 1 rfl dX6_neededNow_33 rfl ?_
      refine V.iconst (v := -1) dX6_neededNow_34 (by decide) ?_
      cases o with
      | none =>
        refine V.icmp_ne_f (tgt := 76) rfl dX6_neededNow_35 (by decide) ?_
        refine V.aload_n 0 rfl dX6_neededNow_38 rfl ?_
        refine V.callVf (ws2 := MW g a ((rT (s.1, s.2.1, s.2.2.1, s.2.2.2)).1) hi tx ((rT (s.1, s.2.1, s.2.2.1, s.2.2.2)).2.1) ((rT (s.1, s.2.1, s.2.2.1, s.2.2.2)).2.2.1) ((rT (s.1, s.2.1, s.2.2.1, s.2.2.2)).2.2.2) pt (fu (cpF z) 0 248 ke) st le th re nu du ha) (st2 := [.int ((rD (s.1, s.2.1, s.2.2.1, s.2.2.2)).2)]) [] [] (kX6_tourOnce g a s.1 hi tx s.2.1 s.2.2.1 s.2.2.2 pt (fu (cpF z) 0 248 ke) st le th re nu du ha  hK1) gX6_neededNow_X6_tourOnce rfl (by show _ ∧ _ ∧ _ ∧ _ = some (0 : Nat); decide +kernel) ⟨Nat.le_of_ble_eq_true rfl, Nat.le_of_ble_eq_true rfl⟩ (hc := (rfl : vwCl[6]? = some (RX6, TX6, 15))) 0 rfl [0, 1, 2, 3, 4, 5, 6, 7, 8] (by decide) rfl rfl (Nat.le_of_ble_eq_true rfl) ⟨Nat.le_of_ble_eq_true rfl, Nat.le_of_ble_eq_true rfl⟩ dX6_neededNow_39 MWf rfl rfl rfl rfl ?_
        have hK2 := hK1.lo (rT_lo7 s)
        obtain ⟨hF2, hF82, hP2, hP242, hR2, hR52⟩ := id hK2
        have hI3 : PI (rT s).1 := rT_PI s hK1 hP241 hI2
        refine V.istore_n (lv2 := [(3, .int ((rD s).2)), (0, .ref (a 0)), (1, .int (-1)), (2, .int (nI i))]) dX6_neededNow_42 rfl (by decide) rfl ?_
        refine V.aload_n 1 rfl dX6_neededNow_43 rfl ?_
        refine V.callVf (ws2 := MW g a (inZ ((rT s).1)) hi tx ((rT s).2.1) ((rT s).2.2.1) ((rT s).2.2.2) pt (fu (cpF z) 0 248 ke) st le th re nu du ha) (st2 := [.int ((inL ((rT s).1)).2)]) [] [] (kX6_inspects g a ((rT s).1) hi tx ((rT s).2.1) ((rT s).2.2.1) ((rT s).2.2.2) pt (fu (cpF z) 0 248 ke) st le th re nu du ha  hP2 hP242 hI3) gX6_neededNow_X6_inspects rfl (by show _ ∧ _ ∧ _ ∧ _ = some (0 : Nat); decide +kernel) ⟨Nat.le_of_ble_eq_true rfl, Nat.le_of_ble_eq_true rfl⟩ (hc := (rfl : vwCl[6]? = some (RX6, TX6, 15))) 0 rfl [0, 1, 2, 3, 4, 5, 6, 7, 8] (by decide) rfl rfl (Nat.le_of_ble_eq_true rfl) ⟨Nat.le_of_ble_eq_true rfl, Nat.le_of_ble_eq_true rfl⟩ dX6_neededNow_44 MWf rfl rfl rfl rfl ?_
        refine V.istore (lv2 := [(4, .int ((inL ((rT s).1)).2)), (3, .int ((rD s).2)), (0, .ref (a 0)), (1, .int (-1)), (2, .int (nI i))]) dX6_neededNow_47 (by decide) rfl ?_
        have hI4 : PI (inZ (rT s).1) := inZ_PI hI3
        have hK3 := hK2.lo (inZ_lo7 (z := (rT s).1))
        obtain ⟨hF3, hF83, hP3, hP243, hR3, hR53⟩ := id hK3
        refine V.aload_n 2 rfl dX6_neededNow_49 rfl ?_
        refine V.iconst (v := 1) dX6_neededNow_50 (by decide) ?_
        refine V.callVf (ws2 := MW g a (inZ ((rT s).1)) hi tx ((rT s).2.1) ((rT s).2.2.1) ((rT s).2.2.2) pt (fu (cpF z) 0 248 ke) st le th re nu du ha) (st2 := [.int (pT (inZ ((rT s).1)) (1 : Int32))]) [.int 1] [] (kX6_placesThat g a (inZ ((rT s).1)) hi tx ((rT s).2.1) ((rT s).2.2.1) ((rT s).2.2.2) pt (fu (cpF z) 0 248 ke) st le th re nu du ha (1 : Int32) hP3 hP243) gX6_neededNow_X6_placesThat rfl (by show _ ∧ _ ∧ _ ∧ _ = some (1 : Nat); decide +kernel) ⟨Nat.le_of_ble_eq_true rfl, Nat.le_of_ble_eq_true rfl⟩ (hc := (rfl : vwCl[6]? = some (RX6, TX6, 15))) 0 rfl [0, 1, 2, 3, 4, 5, 6, 7, 8] (by decide) rfl rfl (Nat.le_of_ble_eq_true rfl) ⟨Nat.le_of_ble_eq_true rfl, Nat.le_of_ble_eq_true rfl⟩ dX6_neededNow_51 MWf rfl rfl rfl rfl ?_
        refine V.aload_n 2 rfl dX6_neededNow_54 rfl ?_
        refine V.get (v := .ref (a 1)) (fun w H => List.mem_cons_of_mem _ (List.mem_append_right _ H)) (hc := (rfl : vwCl[6]? = some (RX6, TX6, 15))) 0 0 (by decide) (List.mem_of_getElem? (i := 1) rfl) rfl rfl dX6_neededNow_55 ?_
        refine V.bipush (v := 6) dX6_neededNow_58 (by decide) ?_
        refine V.iald (f := inZ ((rT s).1)) 1 6 rfl rfl (by decide) (by decide) dX6_neededNow_60 ?_
        refine V.icmp_ne (tgt := 68) dX6_neededNow_61 (by decide) (fun c61 => ?_) (fun c61 => ?_)
        · skip
          refine V.iconst (v := -1) dX6_neededNow_68 (by decide) ?_
          refine V.istore_n (lv2 := [(1, .int (-1)), (4, .int ((inL ((rT s).1)).2)), (3, .int ((rD s).2)), (0, .ref (a 0)), (2, .int (nI i))]) dX6_neededNow_69 rfl (by decide) rfl ?_
          refine V.iinc (v := nI (i + 1)) (lv2 := [(2, .int (nI (i + 1))), (1, .int (-1)), (4, .int ((inL ((rT s).1)).2)), (3, .int ((rD s).2)), (0, .ref (a 0))]) 4 rfl dX6_neededNow_70 (nI_add i 1) (by decide) rfl ?_
          refine V.goto (tgt := 27) dX6_neededNow_73 (by decide) ?_
          refine V.eqlv (lv2 := [(0, .ref (a 0)), (1, .int (-1)), (2, .int (nI (i + 1)))]) [4, 1, 0] rfl ?_
          exact ih (i + 1) none (inZ (rT s).1, (rT s).2) (by omega) (inZ_lo7.tr ((rT_lo7 s).tr hs7)) hI4 (fun r h => by cases h) (by rw [← hnd, ndL_none, if_neg c61])
        · skip
          refine V.iload_n 4 rfl dX6_neededNow_64 rfl ?_
          refine V.goto (tgt := 69) dX6_neededNow_65 (by decide) ?_
          refine V.istore_n (lv2 := [(1, .int (nI i)), (4, .int ((inL ((rT s).1)).2)), (3, .int ((rD s).2)), (0, .ref (a 0)), (2, .int (nI i))]) dX6_neededNow_69 rfl (by decide) rfl ?_
          refine V.iinc (v := nI (i + 1)) (lv2 := [(2, .int (nI (i + 1))), (1, .int (nI i)), (4, .int ((inL ((rT s).1)).2)), (3, .int ((rD s).2)), (0, .ref (a 0))]) 4 rfl dX6_neededNow_70 (nI_add i 1) (by decide) rfl ?_
          refine V.goto (tgt := 27) dX6_neededNow_73 (by decide) ?_
          refine V.eqlv (lv2 := [(0, .ref (a 0)), (1, .int (nI i)), (2, .int (nI (i + 1)))]) [4, 1, 0] rfl ?_
          exact ih (i + 1) (some i) (inZ (rT s).1, (rT s).2) (by omega) (inZ_lo7.tr ((rT_lo7 s).tr hs7)) hI4 (fun r h => by cases h; omega) (by rw [← hnd, ndL_none, if_pos c61])
      | some r =>
        have hr := ho r rfl
        refine V.icmp_ne_t (tgt := 76) (en_ne hr (by decide)) dX6_neededNow_35 (by decide) ?_
        refine V.aload_n 0 rfl dX6_neededNow_76 rfl ?_
        refine V.callVf (ws2 := MW g a (fu (cpF (fu (cpF z) 0 248 ke)) 0 248 s.1) hi tx s.2.1 s.2.2.1 s.2.2.2 pt (fu (cpF z) 0 248 ke) st le th re nu du ha) (st2 := []) [] [] (kX6_layBack g a s.1 hi tx s.2.1 s.2.2.1 s.2.2.2 pt (fu (cpF z) 0 248 ke) st le th re nu du ha  ) gX6_neededNow_X6_layBack rfl (by show _ ∧ _ ∧ _ ∧ _ = some (0 : Nat); decide +kernel) ⟨Nat.le_of_ble_eq_true rfl, Nat.le_of_ble_eq_true rfl⟩ (hc := (rfl : vwCl[6]? = some (RX6, TX6, 15))) 0 rfl [0, 1, 2, 3, 4, 5, 6, 7, 8] (by decide) rfl rfl (Nat.le_of_ble_eq_true rfl) ⟨Nat.le_of_ble_eq_true rfl, Nat.le_of_ble_eq_true rfl⟩ dX6_neededNow_77 MWf rfl rfl rfl rfl ?_
        refine V.conv (ws2 := MW g a z hi tx s.2.1 s.2.2.1 s.2.2.2 pt (fu (cpF z) 0 248 ke) st le th re nu du ha) (fun H h => va_P_conv (p := 1) rfl (va_at_i (fun k hk => by rw [cpF_at, if_pos (by omega), cpF_at, if_pos (by omega)])) h) rfl ?_
        refine V.iload_n 1 rfl dX6_neededNow_80 rfl ?_
        exact V.iret hq XM.r (Nat.le_of_ble_eq_true rfl) (Nat.le_of_ble_eq_true rfl) ⟨by rw [← hnd, ndL_some] <;> rfl, by rw [← hnd, ndL_some] <;> rfl⟩ dX6_neededNow_81
  refine V.icmp_ne (tgt := 23) dX6_neededNow_16 (by decide) (fun c16 => ?_) (fun c16 => ?_)
  · skip
    refine V.iconst (v := -1) dX6_neededNow_23 (by decide) ?_
    refine V.istore_n (lv2 := [(1, .int (-1)), (0, .ref (a 0))]) dX6_neededNow_24 rfl (by decide) rfl ?_
    refine V.iconst (v := 1) dX6_neededNow_25 (by decide) ?_
    refine V.istore_n (lv2 := [(2, .int 1), (1, .int (-1)), (0, .ref (a 0))]) dX6_neededNow_26 rfl (by decide) rfl ?_
    refine V.eqlv (lv2 := [(0, .ref (a 0)), (1, .int (-1)), (2, .int 1)]) [2, 1, 0] rfl ?_
    exact L27 40 1 none (z, ai, pa, tu) (by omega) lo7.rf hI (fun r h => by cases h) (by rw [ndA, if_neg c16])
  · skip
    refine V.iconst (v := 0) dX6_neededNow_19 (by decide) ?_
    refine V.goto (tgt := 24) dX6_neededNow_20 (by decide) ?_
    refine V.istore_n (lv2 := [(1, .int 0), (0, .ref (a 0))]) dX6_neededNow_24 rfl (by decide) rfl ?_
    refine V.iconst (v := 1) dX6_neededNow_25 (by decide) ?_
    refine V.istore_n (lv2 := [(2, .int 1), (1, .int 0), (0, .ref (a 0))]) dX6_neededNow_26 rfl (by decide) rfl ?_
    refine V.eqlv (lv2 := [(0, .ref (a 0)), (1, .int 0), (2, .int 1)]) [2, 1, 0] rfl ?_
    exact L27 40 1 (some 0) (z, ai, pa, tu) (by omega) lo7.rf hI (fun r h => by cases h; omega) (by rw [ndA, if_pos c16])
abbrev rmX6_discord : Room := { frames := 1, cells := 0, slots := 0, locals := 22 }
set_option maxHeartbeats 4000000 in
set_option maxRecDepth 100000 in
theorem kX6_discord (g : GT) (a : Nat → Nat) (z hi tx ai pa tu pt ke : Nat → Int32) (st le th re nu du : Int32) (ha : Int64) (f : Nat) (hf : f < 8) : UC g yX6_discord wsX6_discord rmX6_discord [.ref (a 0), .int (nI f)] (MW g a z hi tx ai pa tu pt ke st le th re nu du ha) (Qf (some (.int (dc z f))) (MW g a z hi tx ai pa tu pt ke st le th re nu du ha)) := by
  refine UC.ofV (cc := cX6_discord) (maxL := 6) (ret := some .int) (lv0 := [(0, .ref (a 0)), (1, .int (nI f))]) (by decide) rfl (Nat.le_of_ble_eq_true rfl) rfl ?_
  generalize hQF : QFr g rmX6_discord (Qf (some (.int (dc z f))) (MW g a z hi tx ai pa tu pt ke st le th re nu du ha)) = QF
  have hq : QFok g rmX6_discord (Qf (some (.int (dc z f))) (MW g a z hi tx ai pa tu pt ke st le th re nu du ha)) QF := hQF ▸ QFr.q
  refine V.aload_n 0 rfl dX6_discord_0 rfl ?_
  refine V.iconst (v := 0) dX6_discord_1 (by decide) ?_
  refine V.iload_n 1 rfl dX6_discord_2 rfl ?_
  refine V.callVf (ws2 := MW g a z hi tx ai pa tu pt ke st le th re nu du ha) (st2 := [.int (z (216 + 8 * 0 + f))]) [.int 0, .int (nI f)] [] (kX6_trustOf g a z hi tx ai pa tu pt ke st le th re nu du ha 0 f (by first | omega | decide) (by first | omega | decide)) gX6_discord_X6_trustOf rfl (by show _ ∧ _ ∧ _ ∧ _ = some (2 : Nat); decide +kernel) ⟨Nat.le_of_ble_eq_true rfl, Nat.le_of_ble_eq_true rfl⟩ (hc := (rfl : vwCl[6]? = some (RX6, TX6, 15))) 0 rfl [0, 1, 2, 3, 4, 5, 6, 7, 8] (by decide) rfl rfl (Nat.le_of_ble_eq_true rfl) ⟨Nat.le_of_ble_eq_true rfl, Nat.le_of_ble_eq_true rfl⟩ dX6_discord_3 MWf rfl rfl rfl rfl ?_
  refine V.istore_n (lv2 := [(2, .int (z (216 + 8 * 0 + f))), (0, .ref (a 0)), (1, .int (nI f))]) dX6_discord_6 rfl (by decide) rfl ?_
  refine V.iload_n 0 rfl dX6_discord_7 rfl ?_
  refine V.istore_n (lv2 := [(3, .int (z (216 + 8 * 0 + f))), (2, .int (z (216 + 8 * 0 + f))), (0, .ref (a 0)), (1, .int (nI f))]) dX6_discord_8 rfl (by decide) rfl ?_
  refine V.iconst (v := 1) dX6_discord_9 (by decide) ?_
  refine V.istore (lv2 := [(4, .int 1), (3, .int (z (216 + 8 * 0 + f))), (2, .int (z (216 + 8 * 0 + f))), (0, .ref (a 0)), (1, .int (nI f))]) dX6_discord_10 (by decide) rfl ?_
  have L12 : ∀ (kL : Nat) (i : Nat) (s : Int32 × Int32), i + kL = 4 → (fu (dcF z f) i kL s = dcS z f) → V g rmX6_discord RX6 cX6_discord wsX6_discord 6 QF (XM (some .int) "discord") 0 0 (MW g a z hi tx ai pa tu pt ke st le th re nu du ha) 12 [(4, .int (nI i)), (3, .int s.2), (2, .int s.1), (0, .ref (a 0)), (1, .int (nI f))] [] := by
    intro kL
    induction kL with
    | zero =>
      intro i s hrel hfu
      rw [fu_0] at hfu
      refine V.iload 0 rfl dX6_discord_12 ?_
      refine V.iconst (v := 4) dX6_discord_14 (by decide) ?_
      refine V.icmp_ge_t (tgt := 59) (by rw [show i = 4 from by omega]; decide) dX6_discord_15 (by decide) ?_
      refine V.iload_n 2 rfl dX6_discord_59 rfl ?_
      refine V.iload_n 1 rfl dX6_discord_60 rfl ?_
      refine V.isub dX6_discord_61 ?_
      exact V.iret hq XM.r (Nat.le_of_ble_eq_true rfl) (Nat.le_of_ble_eq_true rfl) ⟨by rw [dc, ← hfu] <;> rfl, rfl⟩ dX6_discord_62
    | succ kL ih =>
      intro i s hrel hfu
      rw [fu_s] at hfu
      refine V.iload 0 rfl dX6_discord_12 ?_
      refine V.iconst (v := 4) dX6_discord_14 (by decide) ?_
      refine V.icmp_ge_f (tgt := 59) (by exact nI_ge (a := i) (b := 4) (by omega) (by decide)) dX6_discord_15 (by decide) ?_
      refine V.aload_n 3 rfl dX6_discord_18 rfl ?_
      refine V.iload 0 rfl dX6_discord_19 ?_
      refine V.iload_n 4 rfl dX6_discord_21 rfl ?_
      refine V.callVf (ws2 := MW g a z hi tx ai pa tu pt ke st le th re nu du ha) (st2 := [.int (z (216 + 8 * i + f))]) [.int (nI i), .int (nI f)] [] (kX6_trustOf g a z hi tx ai pa tu pt ke st le th re nu du ha i f (by first | omega | decide) (by first | omega | decide)) gX6_discord_X6_trustOf rfl (by show _ ∧ _ ∧ _ ∧ _ = some (2 : Nat); decide +kernel) ⟨Nat.le_of_ble_eq_true rfl, Nat.le_of_ble_eq_true rfl⟩ (hc := (rfl : vwCl[6]? = some (RX6, TX6, 15))) 0 rfl [0, 1, 2, 3, 4, 5, 6, 7, 8] (by decide) rfl rfl (Nat.le_of_ble_eq_true rfl) ⟨Nat.le_of_ble_eq_true rfl, Nat.le_of_ble_eq_true rfl⟩ dX6_discord_22 MWf rfl rfl rfl rfl ?_
      refine V.istore (lv2 := [(5, .int (z (216 + 8 * i + f))), (4, .int (nI i)), (3, .int s.2), (2, .int s.1), (0, .ref (a 0)), (1, .int (nI f))]) dX6_discord_25 (by decide) rfl ?_
      refine V.iload 0 rfl dX6_discord_27 ?_
      refine V.iload_n 3 rfl dX6_discord_29 rfl ?_
      refine V.icmp_le (tgt := 38) dX6_discord_30 (by decide) (fun c30 => ?_) (fun c30 => ?_)
      · skip
        refine V.iload_n 3 rfl dX6_discord_38 rfl ?_
        refine V.istore_n (lv2 := [(2, .int s.1), (5, .int (z (216 + 8 * i + f))), (4, .int (nI i)), (3, .int s.2), (0, .ref (a 0)), (1, .int (nI f))]) dX6_discord_39 rfl (by decide) rfl ?_
        refine V.iload 1 rfl dX6_discord_40 ?_
        refine V.iload_n 3 rfl dX6_discord_42 rfl ?_
        refine V.icmp_ge (tgt := 51) dX6_discord_43 (by decide) (fun c43 => ?_) (fun c43 => ?_)
        · skip
          refine V.iload_n 3 rfl dX6_discord_51 rfl ?_
          refine V.istore_n (lv2 := [(3, .int s.2), (2, .int s.1), (5, .int (z (216 + 8 * i + f))), (4, .int (nI i)), (0, .ref (a 0)), (1, .int (nI f))]) dX6_discord_52 rfl (by decide) rfl ?_
          refine V.iinc (v := nI (i + 1)) (lv2 := [(4, .int (nI (i + 1))), (3, .int s.2), (2, .int s.1), (5, .int (z (216 + 8 * i + f))), (0, .ref (a 0)), (1, .int (nI f))]) 3 rfl dX6_discord_53 (nI_add i 1) (by decide) rfl ?_
          refine V.goto (tgt := 12) dX6_discord_56 (by decide) ?_
          refine V.eqlv (lv2 := [(4, .int (nI (i + 1))), (3, .int s.2), (2, .int s.1), (0, .ref (a 0)), (1, .int (nI f))]) [0, 1, 2, 4, 5] rfl ?_
          exact ih (i + 1) (s.1, s.2) (by omega) (by rw [← hfu, dcF, if_pos c30, if_pos c43])
        · skip
          refine V.iload 1 rfl dX6_discord_46 ?_
          refine V.goto (tgt := 52) dX6_discord_48 (by decide) ?_
          refine V.istore_n (lv2 := [(3, .int (z (216 + 8 * i + f))), (2, .int s.1), (5, .int (z (216 + 8 * i + f))), (4, .int (nI i)), (0, .ref (a 0)), (1, .int (nI f))]) dX6_discord_52 rfl (by decide) rfl ?_
          refine V.iinc (v := nI (i + 1)) (lv2 := [(4, .int (nI (i + 1))), (3, .int (z (216 + 8 * i + f))), (2, .int s.1), (5, .int (z (216 + 8 * i + f))), (0, .ref (a 0)), (1, .int (nI f))]) 3 rfl dX6_discord_53 (nI_add i 1) (by decide) rfl ?_
          refine V.goto (tgt := 12) dX6_discord_56 (by decide) ?_
          refine V.eqlv (lv2 := [(4, .int (nI (i + 1))), (3, .int (z (216 + 8 * i + f))), (2, .int s.1), (0, .ref (a 0)), (1, .int (nI f))]) [0, 1, 2, 4, 5] rfl ?_
          exact ih (i + 1) (s.1, z (216 + 8 * i + f)) (by omega) (by rw [← hfu, dcF, if_pos c30, if_neg c43])
      · skip
        refine V.iload 0 rfl dX6_discord_33 ?_
        refine V.goto (tgt := 39) dX6_discord_35 (by decide) ?_
        refine V.istore_n (lv2 := [(2, .int (z (216 + 8 * i + f))), (5, .int (z (216 + 8 * i + f))), (4, .int (nI i)), (3, .int s.2), (0, .ref (a 0)), (1, .int (nI f))]) dX6_discord_39 rfl (by decide) rfl ?_
        refine V.iload 1 rfl dX6_discord_40 ?_
        refine V.iload_n 3 rfl dX6_discord_42 rfl ?_
        refine V.icmp_ge (tgt := 51) dX6_discord_43 (by decide) (fun c43 => ?_) (fun c43 => ?_)
        · skip
          refine V.iload_n 3 rfl dX6_discord_51 rfl ?_
          refine V.istore_n (lv2 := [(3, .int s.2), (2, .int (z (216 + 8 * i + f))), (5, .int (z (216 + 8 * i + f))), (4, .int (nI i)), (0, .ref (a 0)), (1, .int (nI f))]) dX6_discord_52 rfl (by decide) rfl ?_
          refine V.iinc (v := nI (i + 1)) (lv2 := [(4, .int (nI (i + 1))), (3, .int s.2), (2, .int (z (216 + 8 * i + f))), (5, .int (z (216 + 8 * i + f))), (0, .ref (a 0)), (1, .int (nI f))]) 3 rfl dX6_discord_53 (nI_add i 1) (by decide) rfl ?_
          refine V.goto (tgt := 12) dX6_discord_56 (by decide) ?_
          refine V.eqlv (lv2 := [(4, .int (nI (i + 1))), (3, .int s.2), (2, .int (z (216 + 8 * i + f))), (0, .ref (a 0)), (1, .int (nI f))]) [0, 1, 2, 4, 5] rfl ?_
          exact ih (i + 1) (z (216 + 8 * i + f), s.2) (by omega) (by rw [← hfu, dcF, if_neg c30, if_pos c43])
        · skip
          refine V.iload 1 rfl dX6_discord_46 ?_
          refine V.goto (tgt := 52) dX6_discord_48 (by decide) ?_
          refine V.istore_n (lv2 := [(3, .int (z (216 + 8 * i + f))), (2, .int (z (216 + 8 * i + f))), (5, .int (z (216 + 8 * i + f))), (4, .int (nI i)), (0, .ref (a 0)), (1, .int (nI f))]) dX6_discord_52 rfl (by decide) rfl ?_
          refine V.iinc (v := nI (i + 1)) (lv2 := [(4, .int (nI (i + 1))), (3, .int (z (216 + 8 * i + f))), (2, .int (z (216 + 8 * i + f))), (5, .int (z (216 + 8 * i + f))), (0, .ref (a 0)), (1, .int (nI f))]) 3 rfl dX6_discord_53 (nI_add i 1) (by decide) rfl ?_
          refine V.goto (tgt := 12) dX6_discord_56 (by decide) ?_
          refine V.eqlv (lv2 := [(4, .int (nI (i + 1))), (3, .int (z (216 + 8 * i + f))), (2, .int (z (216 + 8 * i + f))), (0, .ref (a 0)), (1, .int (nI f))]) [0, 1, 2, 4, 5] rfl ?_
          exact ih (i + 1) (z (216 + 8 * i + f), z (216 + 8 * i + f)) (by omega) (by rw [← hfu, dcF, if_neg c30, if_neg c43])
  refine V.eqlv (lv2 := [(4, .int 1), (3, .int (z (216 + 8 * 0 + f))), (2, .int (z (216 + 8 * 0 + f))), (0, .ref (a 0)), (1, .int (nI f))]) [0, 1, 2, 3, 4] rfl ?_
  exact L12 3 1 (z (216 + 8 * 0 + f), z (216 + 8 * 0 + f)) (by omega) rfl
abbrev rmX6_rumoredNow : Room := { frames := 2, cells := 0, slots := 0, locals := 47 }
set_option maxHeartbeats 4000000 in
set_option maxRecDepth 100000 in
theorem kX6_rumoredNow (g : GT) (a : Nat → Nat) (z hi tx ai pa tu pt ke : Nat → Int32) (st le th re nu du : Int32) (ha : Int64) (hF : z 5 = nI (nf z)) (hF8 : nf z ≤ 8) : UC g yX6_rumoredNow wsX6_rumoredNow rmX6_rumoredNow [.ref (a 0)] (MW g a z hi tx ai pa tu pt ke st le th re nu du ha) (Qf (some (.int (en (rmd z)))) (MW g a z hi tx ai pa tu pt ke st le th re nu du ha)) := by
  refine UC.ofV (cc := cX6_rumoredNow) (maxL := 3) (ret := some .int) (lv0 := [(0, .ref (a 0))]) (by decide) rfl (Nat.le_of_ble_eq_true rfl) rfl ?_
  generalize hQF : QFr g rmX6_rumoredNow (Qf (some (.int (en (rmd z)))) (MW g a z hi tx ai pa tu pt ke st le th re nu du ha)) = QF
  have hq : QFok g rmX6_rumoredNow (Qf (some (.int (en (rmd z)))) (MW g a z hi tx ai pa tu pt ke st le th re nu du ha)) QF := hQF ▸ QFr.q
  refine V.iconst (v := -1) dX6_rumoredNow_0 (by decide) ?_
  refine V.istore_n (lv2 := [(1, .int (-1)), (0, .ref (a 0))]) dX6_rumoredNow_1 rfl (by decide) rfl ?_
  refine V.iconst (v := 0) dX6_rumoredNow_2 (by decide) ?_
  refine V.istore_n (lv2 := [(2, .int 0), (1, .int (-1)), (0, .ref (a 0))]) dX6_rumoredNow_3 rfl (by decide) rfl ?_
  have L4 : ∀ (kL : Nat) (i : Nat) (o : Option Nat), i + kL = nf z → ((∀ b : Nat, o = some b → b < 8)) → (fu (rmF z) i kL o = rmd z) → V g rmX6_rumoredNow RX6 cX6_rumoredNow wsX6_rumoredNow 3 QF (XM (some .int) "rumoredNow") 0 0 (MW g a z hi tx ai pa tu pt ke st le th re nu du ha) 4 [(2, .int (nI i)), (1, .int (en o)), (0, .ref (a 0))] [] := by
    intro kL
    induction kL with
    | zero =>
      intro i o hrel ho hfu
      rw [fu_0] at hfu
      refine V.iload_n 0 rfl dX6_rumoredNow_4 rfl ?_
      refine V.aload_n 2 rfl dX6_rumoredNow_5 rfl ?_
      refine V.get (v := .ref (a 1)) (fun w H => List.mem_cons_of_mem _ (List.mem_append_right _ H)) (hc := (rfl : vwCl[6]? = some (RX6, TX6, 15))) 0 0 (by decide) (List.mem_of_getElem? (i := 1) rfl) rfl rfl dX6_rumoredNow_6 ?_
      refine V.iconst (v := 5) dX6_rumoredNow_9 (by decide) ?_
      refine V.iald (f := z) 1 5 rfl rfl (by decide) (by decide) dX6_rumoredNow_10 ?_
      refine V.icmp_ge_t (tgt := 44) (by rw [hF, show i = nf z from by omega]; exact nI_le (Nat.le_refl _) (by omega)) dX6_rumoredNow_11 (by decide) ?_
      refine V.iload_n 1 rfl dX6_rumoredNow_44 rfl ?_
      exact V.iret hq XM.r (Nat.le_of_ble_eq_true rfl) (Nat.le_of_ble_eq_true rfl) ⟨by rw [← hfu] <;> rfl, rfl⟩ dX6_rumoredNow_45
    | succ kL ih =>
      intro i o hrel ho hfu
      rw [fu_s] at hfu
      refine V.iload_n 0 rfl dX6_rumoredNow_4 rfl ?_
      refine V.aload_n 2 rfl dX6_rumoredNow_5 rfl ?_
      refine V.get (v := .ref (a 1)) (fun w H => List.mem_cons_of_mem _ (List.mem_append_right _ H)) (hc := (rfl : vwCl[6]? = some (RX6, TX6, 15))) 0 0 (by decide) (List.mem_of_getElem? (i := 1) rfl) rfl rfl dX6_rumoredNow_6 ?_
      refine V.iconst (v := 5) dX6_rumoredNow_9 (by decide) ?_
      refine V.iald (f := z) 1 5 rfl rfl (by decide) (by decide) dX6_rumoredNow_10 ?_
      refine V.icmp_ge_f (tgt := 44) (by rw [hF]; exact nI_ge (by omega) (by omega)) dX6_rumoredNow_11 (by decide) ?_
      cases o with
      | none =>
        refine V.iload_n 1 rfl dX6_rumoredNow_14 rfl ?_
        refine V.iconst (v := -1) dX6_rumoredNow_15 (by decide) ?_
        refine V.icmp_eq_t (tgt := 32) rfl dX6_rumoredNow_16 (by decide) ?_
        refine V.iload_n 0 rfl dX6_rumoredNow_32 rfl ?_
        refine V.goto (tgt := 37) dX6_rumoredNow_33 (by decide) ?_
        refine V.istore_n (lv2 := [(1, .int (nI i)), (2, .int (nI i)), (0, .ref (a 0))]) dX6_rumoredNow_37 rfl (by decide) rfl ?_
        refine V.iinc (v := nI (i + 1)) (lv2 := [(2, .int (nI (i + 1))), (1, .int (nI i)), (0, .ref (a 0))]) 1 rfl dX6_rumoredNow_38 (nI_add i 1) (by decide) rfl ?_
        refine V.goto (tgt := 4) dX6_rumoredNow_41 (by decide) ?_
        refine V.eqlv (lv2 := [(2, .int (nI (i + 1))), (1, .int (nI i)), (0, .ref (a 0))]) [0, 1, 2] rfl ?_
        exact ih (i + 1) (some i) (by omega) (fun b h => by cases h; omega) (by rw [← hfu]; simp only [rmF])
      | some b =>
        have hb := ho b rfl
        refine V.iload_n 1 rfl dX6_rumoredNow_14 rfl ?_
        refine V.iconst (v := -1) dX6_rumoredNow_15 (by decide) ?_
        refine V.icmp_eq_f (tgt := 32) (en_ne hb (by decide)) dX6_rumoredNow_16 (by decide) ?_
        refine V.aload_n 2 rfl dX6_rumoredNow_19 rfl ?_
        refine V.iload_n 0 rfl dX6_rumoredNow_20 rfl ?_
        refine V.callVf (ws2 := MW g a z hi tx ai pa tu pt ke st le th re nu du ha) (st2 := [.int (dc z i)]) [.int (nI i)] [] (kX6_discord g a z hi tx ai pa tu pt ke st le th re nu du ha i (by first | omega | decide)) gX6_rumoredNow_X6_discord rfl (by show _ ∧ _ ∧ _ ∧ _ = some (1 : Nat); decide +kernel) ⟨Nat.le_of_ble_eq_true rfl, Nat.le_of_ble_eq_true rfl⟩ (hc := (rfl : vwCl[6]? = some (RX6, TX6, 15))) 0 rfl [0, 1, 2, 3, 4, 5, 6, 7, 8] (by decide) rfl rfl (Nat.le_of_ble_eq_true rfl) ⟨Nat.le_of_ble_eq_true rfl, Nat.le_of_ble_eq_true rfl⟩ dX6_rumoredNow_21 MWf rfl rfl rfl rfl ?_
        refine V.aload_n 2 rfl dX6_rumoredNow_24 rfl ?_
        refine V.iload_n 1 rfl dX6_rumoredNow_25 rfl ?_
        refine V.callVf (ws2 := MW g a z hi tx ai pa tu pt ke st le th re nu du ha) (st2 := [.int (dc z b), .int (dc z i)]) [.int (nI b)] [.int (dc z i)] (kX6_discord g a z hi tx ai pa tu pt ke st le th re nu du ha b (by first | omega | decide)) gX6_rumoredNow_X6_discord rfl (by show _ ∧ _ ∧ _ ∧ _ = some (1 : Nat); decide +kernel) ⟨Nat.le_of_ble_eq_true rfl, Nat.le_of_ble_eq_true rfl⟩ (hc := (rfl : vwCl[6]? = some (RX6, TX6, 15))) 0 rfl [0, 1, 2, 3, 4, 5, 6, 7, 8] (by decide) rfl rfl (Nat.le_of_ble_eq_true rfl) ⟨Nat.le_of_ble_eq_true rfl, Nat.le_of_ble_eq_true rfl⟩ dX6_rumoredNow_26 MWf rfl rfl rfl rfl ?_
        refine V.icmp_le (tgt := 36) dX6_rumoredNow_29 (by decide) (fun c29 => ?_) (fun c29 => ?_)
        · skip
          refine V.iload_n 1 rfl dX6_rumoredNow_36 rfl ?_
          refine V.istore_n (lv2 := [(1, .int (nI b)), (2, .int (nI i)), (0, .ref (a 0))]) dX6_rumoredNow_37 rfl (by decide) rfl ?_
          refine V.iinc (v := nI (i + 1)) (lv2 := [(2, .int (nI (i + 1))), (1, .int (nI b)), (0, .ref (a 0))]) 1 rfl dX6_rumoredNow_38 (nI_add i 1) (by decide) rfl ?_
          refine V.goto (tgt := 4) dX6_rumoredNow_41 (by decide) ?_
          refine V.eqlv (lv2 := [(2, .int (nI (i + 1))), (1, .int (nI b)), (0, .ref (a 0))]) [0, 1, 2] rfl ?_
          exact ih (i + 1) (some b) (by omega) ho (by rw [← hfu]; simp only [rmF]; rw [if_pos c29])
        · skip
          refine V.iload_n 0 rfl dX6_rumoredNow_32 rfl ?_
          refine V.goto (tgt := 37) dX6_rumoredNow_33 (by decide) ?_
          refine V.istore_n (lv2 := [(1, .int (nI i)), (2, .int (nI i)), (0, .ref (a 0))]) dX6_rumoredNow_37 rfl (by decide) rfl ?_
          refine V.iinc (v := nI (i + 1)) (lv2 := [(2, .int (nI (i + 1))), (1, .int (nI i)), (0, .ref (a 0))]) 1 rfl dX6_rumoredNow_38 (nI_add i 1) (by decide) rfl ?_
          refine V.goto (tgt := 4) dX6_rumoredNow_41 (by decide) ?_
          refine V.eqlv (lv2 := [(2, .int (nI (i + 1))), (1, .int (nI i)), (0, .ref (a 0))]) [0, 1, 2] rfl ?_
          exact ih (i + 1) (some i) (by omega) (fun b h => by cases h; omega) (by rw [← hfu]; simp only [rmF]; rw [if_neg c29])
  refine V.eqlv (lv2 := [(2, .int 0), (1, .int (-1)), (0, .ref (a 0))]) [0, 1, 2] rfl ?_
  exact L4 (nf z) 0 none (by omega) (fun b h => by cases h) rfl
abbrev rmX6_share : Room := { frames := 2, cells := 0, slots := 0, locals := 45 }
set_option maxHeartbeats 4000000 in
set_option maxRecDepth 100000 in
theorem kX6_share (g : GT) (a : Nat → Nat) (z hi tx ai pa tu pt ke : Nat → Int32) (st le th re nu du : Int32) (ha : Int64) (hne : ¬ sN z 1 = 0 → vf_n64 (FP.ddiv (FP.i2d (sN z 2)) (FP.i2d (sN z 1)))) : UC g yX6_share wsX6_share rmX6_share [.ref (a 0)] (MW g a z hi tx ai pa tu pt ke st le th re nu du ha) (Qf (some (.double (shr z))) (MW g a z hi tx ai pa tu pt ke st le th re nu du ha)) := by
  refine UC.ofV (cc := cX6_share) (maxL := 2) (ret := some .double) (lv0 := [(0, .ref (a 0))]) (by decide) rfl (Nat.le_of_ble_eq_true rfl) rfl ?_
  generalize hQF : QFr g rmX6_share (Qf (some (.double (shr z))) (MW g a z hi tx ai pa tu pt ke st le th re nu du ha)) = QF
  have hq : QFok g rmX6_share (Qf (some (.double (shr z))) (MW g a z hi tx ai pa tu pt ke st le th re nu du ha)) QF := hQF ▸ QFr.q
  refine V.aload_n 0 rfl dX6_share_0 rfl ?_
  refine V.iconst (v := 1) dX6_share_1 (by decide) ?_
  refine V.callVf (ws2 := MW g a z hi tx ai pa tu pt ke st le th re nu du ha) (st2 := [.int (sN z 1)]) [.int 1] [] (kX6_sumOfNozzles g a z hi tx ai pa tu pt ke st le th re nu du ha 1 (by first | omega | decide)) gX6_share_X6_sumOfNozzles rfl (by show _ ∧ _ ∧ _ ∧ _ = some (1 : Nat); decide +kernel) ⟨Nat.le_of_ble_eq_true rfl, Nat.le_of_ble_eq_true rfl⟩ (hc := (rfl : vwCl[6]? = some (RX6, TX6, 15))) 0 rfl [0, 1, 2, 3, 4, 5, 6, 7, 8] (by decide) rfl rfl (Nat.le_of_ble_eq_true rfl) ⟨Nat.le_of_ble_eq_true rfl, Nat.le_of_ble_eq_true rfl⟩ dX6_share_2 MWf rfl rfl rfl rfl ?_
  refine V.istore_n (lv2 := [(1, .int (sN z 1)), (0, .ref (a 0))]) dX6_share_5 rfl (by decide) rfl ?_
  refine V.iload_n 0 rfl dX6_share_6 rfl ?_
  refine V.if_ne (tgt := 14) dX6_share_7 (by decide) (fun c7 => ?_) (fun c7 => ?_)
  · skip
    refine V.aload_n 1 rfl dX6_share_14 rfl ?_
    refine V.iconst (v := 2) dX6_share_15 (by decide) ?_
    refine V.callVf (ws2 := MW g a z hi tx ai pa tu pt ke st le th re nu du ha) (st2 := [.int (sN z 2)]) [.int 2] [] (kX6_sumOfNozzles g a z hi tx ai pa tu pt ke st le th re nu du ha 2 (by first | omega | decide)) gX6_share_X6_sumOfNozzles rfl (by show _ ∧ _ ∧ _ ∧ _ = some (1 : Nat); decide +kernel) ⟨Nat.le_of_ble_eq_true rfl, Nat.le_of_ble_eq_true rfl⟩ (hc := (rfl : vwCl[6]? = some (RX6, TX6, 15))) 0 rfl [0, 1, 2, 3, 4, 5, 6, 7, 8] (by decide) rfl rfl (Nat.le_of_ble_eq_true rfl) ⟨Nat.le_of_ble_eq_true rfl, Nat.le_of_ble_eq_true rfl⟩ dX6_share_16 MWf rfl rfl rfl rfl ?_
    refine V.i2d dX6_share_19 ?_
    refine V.iload_n 0 rfl dX6_share_20 rfl ?_
    refine V.i2d dX6_share_21 ?_
    refine V.ddiv dX6_share_22 (hne c7) ?_
    exact V.dret hq XM.r (Nat.le_of_ble_eq_true rfl) (Nat.le_of_ble_eq_true rfl) ⟨by rw [shr, if_neg c7], rfl⟩ dX6_share_23
  · skip
    refine V.dconst0 dX6_share_10 ?_
    refine V.goto (tgt := 23) dX6_share_11 (by decide) ?_
    exact V.dret hq XM.r (Nat.le_of_ble_eq_true rfl) (Nat.le_of_ble_eq_true rfl) ⟨by rw [shr, if_pos c7], rfl⟩ dX6_share_23
abbrev rmX6_mix : Room := { frames := 0, cells := 0, slots := 0, locals := 0 }
set_option maxHeartbeats 4000000 in
set_option maxRecDepth 100000 in
theorem kX6_mix (g : GT) (a : Nat → Nat) (z hi tx ai pa tu pt ke : Nat → Int32) (st le th re nu du : Int32) (ha : Int64) (v : Int64) : UC g yX6_mix wsX6_mix rmX6_mix [.ref (a 0), .long v] (MW g a z hi tx ai pa tu pt ke st le th re nu du ha) (Qf (none) (MW g a z hi tx ai pa tu pt ke st le th re nu du (mx ha v))) := by
  refine UC.ofV (cc := cX6_mix) (maxL := 3) (ret := none) (lv0 := [(0, .ref (a 0)), (1, .long v)]) (by decide) rfl (Nat.le_of_ble_eq_true rfl) rfl ?_
  generalize hQF : QFr g rmX6_mix (Qf (none) (MW g a z hi tx ai pa tu pt ke st le th re nu du (mx ha v))) = QF
  have hq : QFok g rmX6_mix (Qf (none) (MW g a z hi tx ai pa tu pt ke st le th re nu du (mx ha v))) QF := hQF ▸ QFr.q
  refine V.aload_n 0 rfl dX6_mix_0 rfl ?_
  refine V.ldc2 (v := 31) (by decide +kernel) dX6_mix_1 ?_
  refine V.aload_n 0 rfl dX6_mix_4 rfl ?_
  refine V.get (v := .long ha) (fun w H => List.mem_cons_of_mem _ (List.mem_append_right _ H)) (hc := (rfl : vwCl[6]? = some (RX6, TX6, 15))) 0 14 (by decide) (List.mem_of_getElem? (i := 2) rfl) rfl rfl dX6_mix_5 ?_
  refine V.lmul dX6_mix_8 ?_
  refine V.lload_n 1 rfl dX6_mix_9 rfl ?_
  refine V.ladd dX6_mix_10 ?_
  refine V.put (v := .long (((31 : Int64) * ha) + v)) (ws2 := MW g a z hi tx ai pa tu pt ke st le th re nu du (((31 : Int64) * ha) + v)) (fun w H => List.mem_cons_of_mem _ (List.mem_append_right _ H)) tyX6 tyX6_ok nmX6 (hc := (rfl : vwCl[6]? = some (RX6, TX6, 15))) 0 14 (by decide) (List.mem_of_getElem? (i := 2) rfl) rfl rfl (tyX6_ok 14 (by decide)) rfl rfl (Nat.le_of_ble_eq_true rfl) rfl dX6_mix_11 ?_
  exact V.vret hq XM.r (Nat.le_of_ble_eq_true rfl) (Nat.le_of_ble_eq_true rfl) ⟨rfl, rfl⟩ dX6_mix_14
abbrev rmX6_mixNozzle : Room := { frames := 6, cells := 0, slots := 0, locals := 136 }
set_option maxHeartbeats 4000000 in
set_option maxRecDepth 100000 in
theorem kX6_mixNozzle (g : GT) (a : Nat → Nat) (z hi tx ai pa tu pt ke : Nat → Int32) (st le th re nu du : Int32) (ha : Int64) (n : Nat) (hn : n < 4) (hF : z 5 = nI (nf z)) (hF8 : nf z ≤ 8) (hP : z 6 = nI (np z)) (hP24 : np z ≤ 24) : UC g yX6_mixNozzle wsX6_mixNozzle rmX6_mixNozzle [.ref (a 0), .int (nI n)] (MW g a z hi tx ai pa tu pt ke st le th re nu du ha) (Qf (none) (MW g a z hi tx (lA z ai) pa tu pt ke st le th re nu du (mnZ z n (lA z ai n) ha))) := by
  refine UC.ofV (cc := cX6_mixNozzle) (maxL := 3) (ret := none) (lv0 := [(0, .ref (a 0)), (1, .int (nI n))]) (by decide) rfl (Nat.le_of_ble_eq_true rfl) rfl ?_
  generalize hQF : QFr g rmX6_mixNozzle (Qf (none) (MW g a z hi tx (lA z ai) pa tu pt ke st le th re nu du (mnZ z n (lA z ai n) ha))) = QF
  have hq : QFok g rmX6_mixNozzle (Qf (none) (MW g a z hi tx (lA z ai) pa tu pt ke st le th re nu du (mnZ z n (lA z ai n) ha))) QF := hQF ▸ QFr.q
  refine V.iconst (v := 0) dX6_mixNozzle_0 (by decide) ?_
  refine V.istore_n (lv2 := [(2, .int 0), (0, .ref (a 0)), (1, .int (nI n))]) dX6_mixNozzle_1 rfl (by decide) rfl ?_
  have L2 : ∀ (kL : Nat) (i : Nat) (h : Int64), i + kL = 5 → (fu (fun k h => mx h (z (196 + 5 * n + k)).toInt64) i kL h = mnA z n ha) → V g rmX6_mixNozzle RX6 cX6_mixNozzle wsX6_mixNozzle 3 QF (XM none "mixNozzle") 0 0 (MW g a z hi tx ai pa tu pt ke st le th re nu du h) 2 [(2, .int (nI i)), (0, .ref (a 0)), (1, .int (nI n))] [] := by
    intro kL
    induction kL with
    | zero =>
      intro i h hrel hu1
      rw [fu_0] at hu1
      refine V.iload_n 0 rfl dX6_mixNozzle_2 rfl ?_
      refine V.iconst (v := 5) dX6_mixNozzle_3 (by decide) ?_
      refine V.icmp_ge_t (tgt := 24) (by rw [show i = 5 from by omega]; decide) dX6_mixNozzle_4 (by decide) ?_
      have hy : h = mnA z n ha := hu1
      subst hy
      refine V.iconst (v := 0) dX6_mixNozzle_24 (by decide) ?_
      refine V.istore_n (lv2 := [(2, .int 0), (0, .ref (a 0)), (1, .int (nI n))]) dX6_mixNozzle_25 rfl (by decide) rfl ?_
      have L26 : ∀ (kL : Nat) (i : Nat) (h : Int64), i + kL = nf z → (fu (fun f h => mx h (z (216 + 8 * n + f)).toInt64) i kL h = mnB z n (mnA z n ha)) → V g rmX6_mixNozzle RX6 cX6_mixNozzle wsX6_mixNozzle 3 QF (XM none "mixNozzle") 0 0 (MW g a z hi tx ai pa tu pt ke st le th re nu du h) 26 [(2, .int (nI i)), (0, .ref (a 0)), (1, .int (nI n))] [] := by
        intro kL
        induction kL with
        | zero =>
          intro i h hrel hu2
          rw [fu_0] at hu2
          refine V.iload_n 0 rfl dX6_mixNozzle_26 rfl ?_
          refine V.aload_n 1 rfl dX6_mixNozzle_27 rfl ?_
          refine V.get (v := .ref (a 1)) (fun w H => List.mem_cons_of_mem _ (List.mem_append_right _ H)) (hc := (rfl : vwCl[6]? = some (RX6, TX6, 15))) 0 0 (by decide) (List.mem_of_getElem? (i := 1) rfl) rfl rfl dX6_mixNozzle_28 ?_
          refine V.iconst (v := 5) dX6_mixNozzle_31 (by decide) ?_
          refine V.iald (f := z) 1 5 rfl rfl (by decide) (by decide) dX6_mixNozzle_32 ?_
          refine V.icmp_ge_t (tgt := 53) (by rw [hF, show i = nf z from by omega]; exact nI_le (Nat.le_refl _) (by omega)) dX6_mixNozzle_33 (by decide) ?_
          have hy : h = mnB z n (mnA z n ha) := hu2
          subst hy
          refine V.iconst (v := 0) dX6_mixNozzle_53 (by decide) ?_
          refine V.istore_n (lv2 := [(2, .int 0), (0, .ref (a 0)), (1, .int (nI n))]) dX6_mixNozzle_54 rfl (by decide) rfl ?_
          have L55 : ∀ (kL : Nat) (i : Nat) (h : Int64), i + kL = 6 → (fu (fun k h => mx h (en (cho z n (nI k))).toInt64) i kL h = mnC z n (mnB z n (mnA z n ha))) → V g rmX6_mixNozzle RX6 cX6_mixNozzle wsX6_mixNozzle 3 QF (XM none "mixNozzle") 0 0 (MW g a z hi tx ai pa tu pt ke st le th re nu du h) 55 [(2, .int (nI i)), (0, .ref (a 0)), (1, .int (nI n))] [] := by
            intro kL
            induction kL with
            | zero =>
              intro i h hrel hu3
              rw [fu_0] at hu3
              refine V.iload_n 0 rfl dX6_mixNozzle_55 rfl ?_
              refine V.bipush (v := 6) dX6_mixNozzle_56 (by decide) ?_
              refine V.icmp_ge_t (tgt := 78) (by rw [show i = 6 from by omega]; decide) dX6_mixNozzle_58 (by decide) ?_
              have hy : h = mnC z n (mnB z n (mnA z n ha)) := hu3
              subst hy
              refine V.aload_n 1 rfl dX6_mixNozzle_78 rfl ?_
              refine V.aload_n 1 rfl dX6_mixNozzle_79 rfl ?_
              refine V.iload_n 2 rfl dX6_mixNozzle_80 rfl ?_
              refine V.callVf (ws2 := MW g a z hi tx (lA z ai) pa tu pt ke st le th re nu du (mnC z n (mnB z n (mnA z n ha)))) (st2 := [.int (lA z ai n), .ref (a 0)]) [.int (nI n)] [.ref (a 0)] (kX6_aimNow g a z hi tx ai pa tu pt ke st le th re nu du (mnC z n (mnB z n (mnA z n ha))) n hn hF hF8 hP hP24) gX6_mixNozzle_X6_aimNow rfl (by show _ ∧ _ ∧ _ ∧ _ = some (1 : Nat); decide +kernel) ⟨Nat.le_of_ble_eq_true rfl, Nat.le_of_ble_eq_true rfl⟩ (hc := (rfl : vwCl[6]? = some (RX6, TX6, 15))) 0 rfl [0, 1, 2, 3, 4, 5, 6, 7, 8] (by decide) rfl rfl (Nat.le_of_ble_eq_true rfl) ⟨Nat.le_of_ble_eq_true rfl, Nat.le_of_ble_eq_true rfl⟩ dX6_mixNozzle_81 MWf rfl rfl rfl rfl ?_
              refine V.i2l dX6_mixNozzle_84 ?_
              refine V.callVf (ws2 := MW g a z hi tx (lA z ai) pa tu pt ke st le th re nu du (mx (mnC z n (mnB z n (mnA z n ha))) (Int32.toInt64 (lA z ai n)))) (st2 := []) [.long (Int32.toInt64 (lA z ai n))] [] (kX6_mix g a z hi tx (lA z ai) pa tu pt ke st le th re nu du (mnC z n (mnB z n (mnA z n ha))) (Int32.toInt64 (lA z ai n)) ) gX6_mixNozzle_X6_mix rfl (by show _ ∧ _ ∧ _ ∧ _ = some (1 : Nat); decide +kernel) ⟨Nat.le_of_ble_eq_true rfl, Nat.le_of_ble_eq_true rfl⟩ (hc := (rfl : vwCl[6]? = some (RX6, TX6, 15))) 0 rfl [0, 1, 2, 3, 4, 5, 6, 7, 8] (by decide) rfl rfl (Nat.le_of_ble_eq_true rfl) ⟨Nat.le_of_ble_eq_true rfl, Nat.le_of_ble_eq_true rfl⟩ dX6_mixNozzle_85 MWf rfl rfl rfl rfl ?_
              exact V.vret hq XM.r (Nat.le_of_ble_eq_true rfl) (Nat.le_of_ble_eq_true rfl) ⟨rfl, rfl⟩ dX6_mixNozzle_88
            | succ kL ih =>
              intro i h hrel hu3
              rw [fu_s] at hu3
              refine V.iload_n 0 rfl dX6_mixNozzle_55 rfl ?_
              refine V.bipush (v := 6) dX6_mixNozzle_56 (by decide) ?_
              refine V.icmp_ge_f (tgt := 78) (by exact nI_ge (a := i) (b := 6) (by omega) (by decide)) dX6_mixNozzle_58 (by decide) ?_
              refine V.aload_n 1 rfl dX6_mixNozzle_61 rfl ?_
              refine V.aload_n 1 rfl dX6_mixNozzle_62 rfl ?_
              refine V.iload_n 2 rfl dX6_mixNozzle_63 rfl ?_
              refine V.iload_n 0 rfl dX6_mixNozzle_64 rfl ?_
              refine V.callVf (ws2 := MW g a z hi tx ai pa tu pt ke st le th re nu du h) (st2 := [.int (en (cho z n (nI i))), .ref (a 0)]) [.int (nI n), .int (nI i)] [.ref (a 0)] (kX6_choiceOf g a z hi tx ai pa tu pt ke st le th re nu du h n (nI i) hn hF hF8) gX6_mixNozzle_X6_choiceOf rfl (by show _ ∧ _ ∧ _ ∧ _ = some (2 : Nat); decide +kernel) ⟨Nat.le_of_ble_eq_true rfl, Nat.le_of_ble_eq_true rfl⟩ (hc := (rfl : vwCl[6]? = some (RX6, TX6, 15))) 0 rfl [0, 1, 2, 3, 4, 5, 6, 7, 8] (by decide) rfl rfl (Nat.le_of_ble_eq_true rfl) ⟨Nat.le_of_ble_eq_true rfl, Nat.le_of_ble_eq_true rfl⟩ dX6_mixNozzle_65 MWf rfl rfl rfl rfl ?_
              refine V.i2l dX6_mixNozzle_68 ?_
              refine V.callVf (ws2 := MW g a z hi tx ai pa tu pt ke st le th re nu du (mx h (Int32.toInt64 (en (cho z n (nI i)))))) (st2 := []) [.long (Int32.toInt64 (en (cho z n (nI i))))] [] (kX6_mix g a z hi tx ai pa tu pt ke st le th re nu du h (Int32.toInt64 (en (cho z n (nI i)))) ) gX6_mixNozzle_X6_mix rfl (by show _ ∧ _ ∧ _ ∧ _ = some (1 : Nat); decide +kernel) ⟨Nat.le_of_ble_eq_true rfl, Nat.le_of_ble_eq_true rfl⟩ (hc := (rfl : vwCl[6]? = some (RX6, TX6, 15))) 0 rfl [0, 1, 2, 3, 4, 5, 6, 7, 8] (by decide) rfl rfl (Nat.le_of_ble_eq_true rfl) ⟨Nat.le_of_ble_eq_true rfl, Nat.le_of_ble_eq_true rfl⟩ dX6_mixNozzle_69 MWf rfl rfl rfl rfl ?_
              refine V.iinc (v := nI (i + 1)) (lv2 := [(2, .int (nI (i + 1))), (0, .ref (a 0)), (1, .int (nI n))]) 0 rfl dX6_mixNozzle_72 (nI_add i 1) (by decide) rfl ?_
              refine V.goto (tgt := 55) dX6_mixNozzle_75 (by decide) ?_
              refine V.eqlv (lv2 := [(2, .int (nI (i + 1))), (0, .ref (a 0)), (1, .int (nI n))]) [0, 1, 2] rfl ?_
              exact ih (i + 1) (mx h (en (cho z n (nI i))).toInt64) (by omega) hu3
          refine V.eqlv (lv2 := [(2, .int 0), (0, .ref (a 0)), (1, .int (nI n))]) [0, 1, 2] rfl ?_
          exact L55 6 0 (mnB z n (mnA z n ha)) (by omega) rfl
        | succ kL ih =>
          intro i h hrel hu2
          rw [fu_s] at hu2
          refine V.iload_n 0 rfl dX6_mixNozzle_26 rfl ?_
          refine V.aload_n 1 rfl dX6_mixNozzle_27 rfl ?_
          refine V.get (v := .ref (a 1)) (fun w H => List.mem_cons_of_mem _ (List.mem_append_right _ H)) (hc := (rfl : vwCl[6]? = some (RX6, TX6, 15))) 0 0 (by decide) (List.mem_of_getElem? (i := 1) rfl) rfl rfl dX6_mixNozzle_28 ?_
          refine V.iconst (v := 5) dX6_mixNozzle_31 (by decide) ?_
          refine V.iald (f := z) 1 5 rfl rfl (by decide) (by decide) dX6_mixNozzle_32 ?_
          refine V.icmp_ge_f (tgt := 53) (by rw [hF]; exact nI_ge (by omega) (by omega)) dX6_mixNozzle_33 (by decide) ?_
          refine V.aload_n 1 rfl dX6_mixNozzle_36 rfl ?_
          refine V.aload_n 1 rfl dX6_mixNozzle_37 rfl ?_
          refine V.iload_n 2 rfl dX6_mixNozzle_38 rfl ?_
          refine V.iload_n 0 rfl dX6_mixNozzle_39 rfl ?_
          refine V.callVf (ws2 := MW g a z hi tx ai pa tu pt ke st le th re nu du h) (st2 := [.int (z (216 + 8 * n + i)), .ref (a 0)]) [.int (nI n), .int (nI i)] [.ref (a 0)] (kX6_trustOf g a z hi tx ai pa tu pt ke st le th re nu du h n i (by first | omega | decide) (by first | omega | decide)) gX6_mixNozzle_X6_trustOf rfl (by show _ ∧ _ ∧ _ ∧ _ = some (2 : Nat); decide +kernel) ⟨Nat.le_of_ble_eq_true rfl, Nat.le_of_ble_eq_true rfl⟩ (hc := (rfl : vwCl[6]? = some (RX6, TX6, 15))) 0 rfl [0, 1, 2, 3, 4, 5, 6, 7, 8] (by decide) rfl rfl (Nat.le_of_ble_eq_true rfl) ⟨Nat.le_of_ble_eq_true rfl, Nat.le_of_ble_eq_true rfl⟩ dX6_mixNozzle_40 MWf rfl rfl rfl rfl ?_
          refine V.i2l dX6_mixNozzle_43 ?_
          refine V.callVf (ws2 := MW g a z hi tx ai pa tu pt ke st le th re nu du (mx h (Int32.toInt64 (z (216 + 8 * n + i))))) (st2 := []) [.long (Int32.toInt64 (z (216 + 8 * n + i)))] [] (kX6_mix g a z hi tx ai pa tu pt ke st le th re nu du h (Int32.toInt64 (z (216 + 8 * n + i))) ) gX6_mixNozzle_X6_mix rfl (by show _ ∧ _ ∧ _ ∧ _ = some (1 : Nat); decide +kernel) ⟨Nat.le_of_ble_eq_true rfl, Nat.le_of_ble_eq_true rfl⟩ (hc := (rfl : vwCl[6]? = some (RX6, TX6, 15))) 0 rfl [0, 1, 2, 3, 4, 5, 6, 7, 8] (by decide) rfl rfl (Nat.le_of_ble_eq_true rfl) ⟨Nat.le_of_ble_eq_true rfl, Nat.le_of_ble_eq_true rfl⟩ dX6_mixNozzle_44 MWf rfl rfl rfl rfl ?_
          refine V.iinc (v := nI (i + 1)) (lv2 := [(2, .int (nI (i + 1))), (0, .ref (a 0)), (1, .int (nI n))]) 0 rfl dX6_mixNozzle_47 (nI_add i 1) (by decide) rfl ?_
          refine V.goto (tgt := 26) dX6_mixNozzle_50 (by decide) ?_
          refine V.eqlv (lv2 := [(2, .int (nI (i + 1))), (0, .ref (a 0)), (1, .int (nI n))]) [0, 1, 2] rfl ?_
          exact ih (i + 1) (mx h (z (216 + 8 * n + i)).toInt64) (by omega) hu2
      refine V.eqlv (lv2 := [(2, .int 0), (0, .ref (a 0)), (1, .int (nI n))]) [0, 1, 2] rfl ?_
      exact L26 (nf z) 0 (mnA z n ha) (by omega) rfl
    | succ kL ih =>
      intro i h hrel hu1
      rw [fu_s] at hu1
      refine V.iload_n 0 rfl dX6_mixNozzle_2 rfl ?_
      refine V.iconst (v := 5) dX6_mixNozzle_3 (by decide) ?_
      refine V.icmp_ge_f (tgt := 24) (by exact nI_ge (a := i) (b := 5) (by omega) (by decide)) dX6_mixNozzle_4 (by decide) ?_
      refine V.aload_n 1 rfl dX6_mixNozzle_7 rfl ?_
      refine V.aload_n 1 rfl dX6_mixNozzle_8 rfl ?_
      refine V.iload_n 2 rfl dX6_mixNozzle_9 rfl ?_
      refine V.iload_n 0 rfl dX6_mixNozzle_10 rfl ?_
      refine V.callVf (ws2 := MW g a z hi tx ai pa tu pt ke st le th re nu du h) (st2 := [.int (z (196 + 5 * n + i)), .ref (a 0)]) [.int (nI n), .int (nI i)] [.ref (a 0)] (kX6_ofNozzle g a z hi tx ai pa tu pt ke st le th re nu du h n i (by first | omega | decide) (by first | omega | decide)) gX6_mixNozzle_X6_ofNozzle rfl (by show _ ∧ _ ∧ _ ∧ _ = some (2 : Nat); decide +kernel) ⟨Nat.le_of_ble_eq_true rfl, Nat.le_of_ble_eq_true rfl⟩ (hc := (rfl : vwCl[6]? = some (RX6, TX6, 15))) 0 rfl [0, 1, 2, 3, 4, 5, 6, 7, 8] (by decide) rfl rfl (Nat.le_of_ble_eq_true rfl) ⟨Nat.le_of_ble_eq_true rfl, Nat.le_of_ble_eq_true rfl⟩ dX6_mixNozzle_11 MWf rfl rfl rfl rfl ?_
      refine V.i2l dX6_mixNozzle_14 ?_
      refine V.callVf (ws2 := MW g a z hi tx ai pa tu pt ke st le th re nu du (mx h (Int32.toInt64 (z (196 + 5 * n + i))))) (st2 := []) [.long (Int32.toInt64 (z (196 + 5 * n + i)))] [] (kX6_mix g a z hi tx ai pa tu pt ke st le th re nu du h (Int32.toInt64 (z (196 + 5 * n + i))) ) gX6_mixNozzle_X6_mix rfl (by show _ ∧ _ ∧ _ ∧ _ = some (1 : Nat); decide +kernel) ⟨Nat.le_of_ble_eq_true rfl, Nat.le_of_ble_eq_true rfl⟩ (hc := (rfl : vwCl[6]? = some (RX6, TX6, 15))) 0 rfl [0, 1, 2, 3, 4, 5, 6, 7, 8] (by decide) rfl rfl (Nat.le_of_ble_eq_true rfl) ⟨Nat.le_of_ble_eq_true rfl, Nat.le_of_ble_eq_true rfl⟩ dX6_mixNozzle_15 MWf rfl rfl rfl rfl ?_
      refine V.iinc (v := nI (i + 1)) (lv2 := [(2, .int (nI (i + 1))), (0, .ref (a 0)), (1, .int (nI n))]) 0 rfl dX6_mixNozzle_18 (nI_add i 1) (by decide) rfl ?_
      refine V.goto (tgt := 2) dX6_mixNozzle_21 (by decide) ?_
      refine V.eqlv (lv2 := [(2, .int (nI (i + 1))), (0, .ref (a 0)), (1, .int (nI n))]) [0, 1, 2] rfl ?_
      exact ih (i + 1) (mx h (z (196 + 5 * n + i)).toInt64) (by omega) hu1
  refine V.eqlv (lv2 := [(2, .int 0), (0, .ref (a 0)), (1, .int (nI n))]) [0, 1, 2] rfl ?_
  exact L2 5 0 (ha) (by omega) rfl
