abbrev rmX4_init : Room := { frames := 1, cells := 3, slots := 12, locals := 12 }
set_option maxHeartbeats 4000000 in
set_option maxRecDepth 100000 in
theorem kX4_init (g : GT) (o : Nat) : UC g yX4_init wsX4_init rmX4_init [.ref o] ([(o, .inr (4, [.null, .null, .null]))]) (fun v w => v = none ∧ ∃ u : Nat → Nat, u 0 = o ∧ w = UW g u (fun _ => 0) (fun _ => 0) (fun _ => 0)) := by
  refine UC.ofV (cc := cX4_init) (maxL := 1) (ret := none) (lv0 := [(0, .ref o)]) (by decide) rfl (Nat.le_of_ble_eq_true rfl) rfl ?_
  generalize hQF : QFr g rmX4_init (fun v w => v = none ∧ ∃ u : Nat → Nat, u 0 = o ∧ w = UW g u (fun _ => 0) (fun _ => 0) (fun _ => 0)) = QF
  have hq : QFok g rmX4_init (fun v w => v = none ∧ ∃ u : Nat → Nat, u 0 = o ∧ w = UW g u (fun _ => 0) (fun _ => 0) (fun _ => 0)) QF := hQF ▸ QFr.q
  refine V.aload_n 0 rfl dX4_init_0 rfl ?_
  refine V.objInit (by decide +kernel) (by decide +kernel) (by decide +kernel) (Nat.le_of_ble_eq_true rfl) (Nat.le_of_ble_eq_true rfl) dX4_init_1 ?_
  refine V.aload_n 0 rfl dX4_init_4 rfl ?_
  refine V.iconst (v := 4) dX4_init_5 (by decide) ?_
  refine V.newa (ty := .int) (len := 4) (t := 0) (a0 := (4, .inl (fun _ => 0))) (by decide +kernel) rfl rfl (by decide) (fun _ => rfl) (by decide) (by decide) (by decide) (Nat.le_of_ble_eq_true rfl) (Nat.le_of_ble_eq_true rfl) dX4_init_6 (fun b1 => ?_)
  refine V.putF (v := .ref b1) (ws2 := [(o, .inr (4, [.ref b1, .null, .null])), (b1, .inl (g.2.2 0, 4, .inl (fun _ => 0)))]) (fun w H => List.mem_cons_of_mem _ (List.mem_append_right _ H)) tyX4 tyX4_ok nmX4 (hc := (rfl : vwCl[4]? = some (RX4, TX4, 3))) 0 0 (by decide) (List.mem_of_getElem? (i := 5) rfl) rfl rfl rfl XM.nm (tyX4_ok 0 (by decide)) rfl rfl (Nat.le_of_ble_eq_true rfl) rfl dX4_init_8 ?_
  refine V.aload_n 0 rfl dX4_init_11 rfl ?_
  refine V.iconst (v := 4) dX4_init_12 (by decide) ?_
  refine V.newa (ty := .int) (len := 4) (t := 0) (a0 := (4, .inl (fun _ => 0))) (by decide +kernel) rfl rfl (by decide) (fun _ => rfl) (by decide) (by decide) (by decide) (Nat.le_of_ble_eq_true rfl) (Nat.le_of_ble_eq_true rfl) dX4_init_13 (fun b2 => ?_)
  refine V.putF (v := .ref b2) (ws2 := [(o, .inr (4, [.ref b1, .ref b2, .null])), (b1, .inl (g.2.2 0, 4, .inl (fun _ => 0))), (b2, .inl (g.2.2 0, 4, .inl (fun _ => 0)))]) (fun w H => List.mem_cons_of_mem _ (List.mem_append_right _ H)) tyX4 tyX4_ok nmX4 (hc := (rfl : vwCl[4]? = some (RX4, TX4, 3))) 0 1 (by decide) (List.mem_of_getElem? (i := 6) rfl) rfl rfl rfl XM.nm (tyX4_ok 1 (by decide)) rfl rfl (Nat.le_of_ble_eq_true rfl) rfl dX4_init_15 ?_
  refine V.aload_n 0 rfl dX4_init_18 rfl ?_
  refine V.iconst (v := 4) dX4_init_19 (by decide) ?_
  refine V.newa (ty := .boolean) (len := 4) (t := 1) (a0 := (4, .inl (fun _ => 0))) (by decide +kernel) rfl rfl (by decide) (fun _ => rfl) (by decide) (by decide) (by decide) (Nat.le_of_ble_eq_true rfl) (Nat.le_of_ble_eq_true rfl) dX4_init_20 (fun b3 => ?_)
  refine V.putF (v := .ref b3) (ws2 := [(o, .inr (4, [.ref b1, .ref b2, .ref b3])), (b1, .inl (g.2.2 0, 4, .inl (fun _ => 0))), (b2, .inl (g.2.2 0, 4, .inl (fun _ => 0))), (b3, .inl (g.2.2 1, 4, .inl (fun _ => 0)))]) (fun w H => List.mem_cons_of_mem _ (List.mem_append_right _ H)) tyX4 tyX4_ok nmX4 (hc := (rfl : vwCl[4]? = some (RX4, TX4, 3))) 0 2 (by decide) (List.mem_of_getElem? (i := 8) rfl) rfl rfl rfl XM.nm (tyX4_ok 2 (by decide)) rfl rfl (Nat.le_of_ble_eq_true rfl) rfl dX4_init_22 ?_
  exact V.vret hq XM.r (Nat.le_of_ble_eq_true rfl) (Nat.le_of_ble_eq_true rfl) ⟨rfl, (fun k => match k with | 0 => o | 1 => b1 | 2 => b2 | _ => b3), rfl, rfl⟩ dX4_init_25
abbrev rmX4_placePart : Room := { frames := 2, cells := 0, slots := 0, locals := 48 }
set_option maxHeartbeats 4000000 in
set_option maxRecDepth 100000 in
theorem kX4_placePart (g : GT) (u : Nat → Nat) (ai : Nat → Int32) (pa : Nat → Int32) (tu : Nat → Int32) (b : Nat → Nat) (z : Nat → Int32) (n : Nat) (p : Nat) (f : Nat) (hn : n < 4) (hp : p < 24) (hf : f < 8) (hai : ai n = nI p) (hpa : pa n = nI f) (htu : tu n = 0 ∨ tu n = 1) (hX : IX z) : UC g yX4_placePart wsX4_placePart rmX4_placePart [.ref (u 0), .ref (b 0), .int (nI n)] ((UW g u ai pa tu) ++ (SW g b z)) (Qf (none) ((UW g u ai pa tu) ++ (SW g b (lyZ n p (some f) z (tu n))))) := by
  refine UC.ofV (cc := cX4_placePart) (maxL := 4) (ret := none) (lv0 := [(0, .ref (u 0)), (1, .ref (b 0)), (2, .int (nI n))]) (by decide) rfl (Nat.le_of_ble_eq_true rfl) rfl ?_
  generalize hQF : QFr g rmX4_placePart (Qf (none) ((UW g u ai pa tu) ++ (SW g b (lyZ n p (some f) z (tu n))))) = QF
  have hq : QFok g rmX4_placePart (Qf (none) ((UW g u ai pa tu) ++ (SW g b (lyZ n p (some f) z (tu n))))) QF := hQF ▸ QFr.q
  refine V.aload_n 0 rfl dX4_placePart_0 rfl ?_
  refine V.get (v := .ref (u 1)) (fun w H => List.mem_cons_of_mem _ (List.mem_append_left _ (List.mem_append_left _ (List.mem_append_right _ H)))) (hc := (rfl : vwCl[4]? = some (RX4, TX4, 3))) 0 0 (by decide) (List.mem_of_getElem? (i := 1) rfl) rfl rfl dX4_placePart_1 ?_
  refine V.iload_n 2 rfl dX4_placePart_4 rfl ?_
  refine V.iald (f := ai) 1 n rfl rfl (by omega) (by decide) dX4_placePart_5 ?_
  rw [hai]
  refine V.istore_n (lv2 := [(3, .int (nI p)), (0, .ref (u 0)), (1, .ref (b 0)), (2, .int (nI n))]) dX4_placePart_6 rfl (by decide) rfl ?_
  refine V.aload_n 2 rfl dX4_placePart_7 rfl ?_
  refine V.aload_n 2 rfl dX4_placePart_8 rfl ?_
  refine V.get (v := .ref (b 4)) (fun w H => List.mem_cons_of_mem _ (List.mem_append_left _ (List.mem_append_right _ H))) (hc := (rfl : vwCl[2]? = some (RX2, TX2, 12))) 4 9 (by decide) (List.mem_of_getElem? (i := 2) rfl) rfl rfl dX4_placePart_9 ?_
  refine V.iload_n 0 rfl dX4_placePart_12 rfl ?_
  refine V.iconst (v := 0) dX4_placePart_13 (by decide) ?_
  refine V.callVf (ws2 := (UW g u ai pa tu) ++ (SW g b z)) (st2 := [.int ((sg z 76 120) (p * 5 + 0)), .ref (b 0)]) [.int (nI p), .int 0] [.ref (b 0)] (kX3_at g (b 4) (b 5) 5 120 (sg z 76 120) p 0 (by first | omega | decide) (by first | omega | decide) (by first | omega | decide) (by first | omega | decide)) gX4_placePart_X3_at rfl (by show _ ∧ _ ∧ _ ∧ _ = some (2 : Nat); decide +kernel) ⟨Nat.le_of_ble_eq_true rfl, Nat.le_of_ble_eq_true rfl⟩ (hc := (rfl : vwCl[3]? = some (RX3, TX3, 2))) 8 rfl [8, 9] (by decide) rfl rfl (Nat.le_of_ble_eq_true rfl) ⟨Nat.le_of_ble_eq_true rfl, Nat.le_of_ble_eq_true rfl⟩ dX4_placePart_14 TWf rfl rfl rfl rfl ?_
  rw [sg_r (z := z) (o := 76) (n := 120) (r := p) (C := 5) (k := 0) (by omega)]
  refine V.iconst (v := 1) dX4_placePart_17 (by decide) ?_
  refine V.callVf (ws2 := (UW g u ai pa tu) ++ (SW g b (gz z (z (76 + 5 * p + 0)) (1 : Int32)))) (st2 := []) [.int (z (76 + 5 * p + 0)), .int 1] [] (kX2_goTo g b z (z (76 + 5 * p + 0)) (1 : Int32) ((ab_eq (hX.2.1 p hp) hX.2.2.1).trans ap_comm)) gX4_placePart_X2_goTo rfl (by show _ ∧ _ ∧ _ ∧ _ = some (2 : Nat); decide +kernel) ⟨Nat.le_of_ble_eq_true rfl, Nat.le_of_ble_eq_true rfl⟩ (hc := (rfl : vwCl[2]? = some (RX2, TX2, 12))) 4 rfl [4, 5, 6, 7, 8, 9, 10, 11, 12, 13] (by decide) rfl rfl (Nat.le_of_ble_eq_true rfl) ⟨Nat.le_of_ble_eq_true rfl, Nat.le_of_ble_eq_true rfl⟩ dX4_placePart_18 SWf rfl rfl rfl rfl ?_
  refine V.eqws (ws2 := (UW g u ai pa tu) ++ (SW g b (lya z p))) rfl ?_
  refine V.aload_n 2 rfl dX4_placePart_21 rfl ?_
  refine V.get (v := .ref (b 4)) (fun w H => List.mem_cons_of_mem _ (List.mem_append_left _ (List.mem_append_right _ H))) (hc := (rfl : vwCl[2]? = some (RX2, TX2, 12))) 4 9 (by decide) (List.mem_of_getElem? (i := 2) rfl) rfl rfl dX4_placePart_22 ?_
  refine V.iload_n 0 rfl dX4_placePart_25 rfl ?_
  refine V.iconst (v := 2) dX4_placePart_26 (by decide) ?_
  refine V.aload_n 1 rfl dX4_placePart_27 rfl ?_
  refine V.get (v := .ref (u 3)) (fun w H => List.mem_cons_of_mem _ (List.mem_append_left _ (List.mem_append_left _ (List.mem_append_right _ H)))) (hc := (rfl : vwCl[4]? = some (RX4, TX4, 3))) 0 2 (by decide) (List.mem_of_getElem? (i := 3) rfl) rfl rfl dX4_placePart_28 ?_
  refine V.iload_n 3 rfl dX4_placePart_31 rfl ?_
  refine V.zald (f := tu) 3 n rfl rfl (by omega) (by decide) dX4_placePart_32 ?_
  refine V.if_eq (tgt := 40) dX4_placePart_33 (by decide) (fun c33 => ?_) (fun c33 => ?_)
  · skip
    refine V.iconst (v := 1) dX4_placePart_40 (by decide) ?_
    refine V.callVf (ws2 := (UW g u ai pa tu) ++ (SW g b (upd (lya z p) (76 + 5 * p + 2) (1 : Int32)))) (st2 := []) [.int (nI p), .int 2, .int 1] [] (kX3_put g (b 4) (b 5) 5 120 (sg (lya z p) 76 120) p 2 (1 : Int32) (by first | omega | decide) (by first | omega | decide) (by first | omega | decide) (by first | omega | decide)) gX4_placePart_X3_put rfl (by show _ ∧ _ ∧ _ ∧ _ = some (3 : Nat); decide +kernel) ⟨Nat.le_of_ble_eq_true rfl, Nat.le_of_ble_eq_true rfl⟩ (hc := (rfl : vwCl[3]? = some (RX3, TX3, 2))) 8 rfl [8, 9] (by decide) rfl rfl (Nat.le_of_ble_eq_true rfl) ⟨Nat.le_of_ble_eq_true rfl, Nat.le_of_ble_eq_true rfl⟩ dX4_placePart_41 TWf (congrArg (fun _l : va_W => (UW g u ai pa tu) ++ _l) (SW_p (g := g) (b := b) (z := (lya z p)) (v := (1 : Int32)) (r := p) (k := 2) (by omega))) rfl rfl rfl ?_
    refine V.eqws (ws2 := (UW g u ai pa tu) ++ (SW g b (lyb z p (tu n)))) (by rw [lyb, if_neg (by rw [c33]; decide)]) ?_
    refine V.aload_n 2 rfl dX4_placePart_44 rfl ?_
    refine V.get (v := .ref (b 4)) (fun w H => List.mem_cons_of_mem _ (List.mem_append_left _ (List.mem_append_right _ H))) (hc := (rfl : vwCl[2]? = some (RX2, TX2, 12))) 4 9 (by decide) (List.mem_of_getElem? (i := 2) rfl) rfl rfl dX4_placePart_45 ?_
    refine V.iload_n 0 rfl dX4_placePart_48 rfl ?_
    refine V.iconst (v := 3) dX4_placePart_49 (by decide) ?_
    refine V.iload_n 3 rfl dX4_placePart_50 rfl ?_
    refine V.callVf (ws2 := (UW g u ai pa tu) ++ (SW g b (upd (lyb z p (tu n)) (76 + 5 * p + 3) (nI n)))) (st2 := []) [.int (nI p), .int 3, .int (nI n)] [] (kX3_put g (b 4) (b 5) 5 120 (sg (lyb z p (tu n)) 76 120) p 3 (nI n) (by first | omega | decide) (by first | omega | decide) (by first | omega | decide) (by first | omega | decide)) gX4_placePart_X3_put rfl (by show _ ∧ _ ∧ _ ∧ _ = some (3 : Nat); decide +kernel) ⟨Nat.le_of_ble_eq_true rfl, Nat.le_of_ble_eq_true rfl⟩ (hc := (rfl : vwCl[3]? = some (RX3, TX3, 2))) 8 rfl [8, 9] (by decide) rfl rfl (Nat.le_of_ble_eq_true rfl) ⟨Nat.le_of_ble_eq_true rfl, Nat.le_of_ble_eq_true rfl⟩ dX4_placePart_51 TWf (congrArg (fun _l : va_W => (UW g u ai pa tu) ++ _l) (SW_p (g := g) (b := b) (z := (lyb z p (tu n))) (v := (nI n)) (r := p) (k := 3) (by omega))) rfl rfl rfl ?_
    refine V.eqws (ws2 := (UW g u ai pa tu) ++ (SW g b (lyc z p (tu n) n))) rfl ?_
    refine V.aload_n 2 rfl dX4_placePart_54 rfl ?_
    refine V.get (v := .ref (b 4)) (fun w H => List.mem_cons_of_mem _ (List.mem_append_left _ (List.mem_append_right _ H))) (hc := (rfl : vwCl[2]? = some (RX2, TX2, 12))) 4 9 (by decide) (List.mem_of_getElem? (i := 2) rfl) rfl rfl dX4_placePart_55 ?_
    refine V.iload_n 0 rfl dX4_placePart_58 rfl ?_
    refine V.iconst (v := 4) dX4_placePart_59 (by decide) ?_
    refine V.aload_n 1 rfl dX4_placePart_60 rfl ?_
    refine V.get (v := .ref (u 2)) (fun w H => List.mem_cons_of_mem _ (List.mem_append_left _ (List.mem_append_left _ (List.mem_append_right _ H)))) (hc := (rfl : vwCl[4]? = some (RX4, TX4, 3))) 0 1 (by decide) (List.mem_of_getElem? (i := 4) rfl) rfl rfl dX4_placePart_61 ?_
    refine V.iload_n 3 rfl dX4_placePart_64 rfl ?_
    refine V.iald (f := pa) 2 n rfl rfl (by omega) (by decide) dX4_placePart_65 ?_
    rw [hpa]
    refine V.callVf (ws2 := (UW g u ai pa tu) ++ (SW g b (upd (lyc z p (tu n) n) (76 + 5 * p + 4) (nI f)))) (st2 := []) [.int (nI p), .int 4, .int (nI f)] [] (kX3_put g (b 4) (b 5) 5 120 (sg (lyc z p (tu n) n) 76 120) p 4 (nI f) (by first | omega | decide) (by first | omega | decide) (by first | omega | decide) (by first | omega | decide)) gX4_placePart_X3_put rfl (by show _ ∧ _ ∧ _ ∧ _ = some (3 : Nat); decide +kernel) ⟨Nat.le_of_ble_eq_true rfl, Nat.le_of_ble_eq_true rfl⟩ (hc := (rfl : vwCl[3]? = some (RX3, TX3, 2))) 8 rfl [8, 9] (by decide) rfl rfl (Nat.le_of_ble_eq_true rfl) ⟨Nat.le_of_ble_eq_true rfl, Nat.le_of_ble_eq_true rfl⟩ dX4_placePart_66 TWf (congrArg (fun _l : va_W => (UW g u ai pa tu) ++ _l) (SW_p (g := g) (b := b) (z := (lyc z p (tu n) n)) (v := (nI f)) (r := p) (k := 4) (by omega))) rfl rfl rfl ?_
    refine V.eqws (ws2 := (UW g u ai pa tu) ++ (SW g b (lyd z p (tu n) n f))) rfl ?_
    refine V.aload_n 2 rfl dX4_placePart_69 rfl ?_
    refine V.get (v := .ref (b 6)) (fun w H => List.mem_cons_of_mem _ (List.mem_append_left _ (List.mem_append_right _ H))) (hc := (rfl : vwCl[2]? = some (RX2, TX2, 12))) 4 10 (by decide) (List.mem_of_getElem? (i := 5) rfl) rfl rfl dX4_placePart_70 ?_
    refine V.iload_n 3 rfl dX4_placePart_73 rfl ?_
    refine V.iconst (v := 3) dX4_placePart_74 (by decide) ?_
    refine V.iconst (v := 1) dX4_placePart_75 (by decide) ?_
    refine V.callVf (ws2 := (UW g u ai pa tu) ++ (SW g b (upd (lyd z p (tu n) n f) (196 + 5 * n + 3) ((lyd z p (tu n) n f) (196 + 5 * n + 3) + (1 : Int32))))) (st2 := []) [.int (nI n), .int 3, .int 1] [] (kX3_add g (b 6) (b 7) 5 20 (sg (lyd z p (tu n) n f) 196 20) n 3 (1 : Int32) (by first | omega | decide) (by first | omega | decide) (by first | omega | decide) (by first | omega | decide)) gX4_placePart_X3_add rfl (by show _ ∧ _ ∧ _ ∧ _ = some (3 : Nat); decide +kernel) ⟨Nat.le_of_ble_eq_true rfl, Nat.le_of_ble_eq_true rfl⟩ (hc := (rfl : vwCl[3]? = some (RX3, TX3, 2))) 10 rfl [10, 11] (by decide) rfl rfl (Nat.le_of_ble_eq_true rfl) ⟨Nat.le_of_ble_eq_true rfl, Nat.le_of_ble_eq_true rfl⟩ dX4_placePart_76 TWf (congrArg (fun _l : va_W => (UW g u ai pa tu) ++ _l) ((SW_n (g := g) (b := b) (z := (lyd z p (tu n) n f)) (v := sg (lyd z p (tu n) n f) 196 20 (n * 5 + 3) + (1 : Int32)) (r := n) (k := 3) (by omega)).trans (by rw [sg_r (by omega)]))) rfl rfl rfl ?_
    exact V.vret hq XM.r (Nat.le_of_ble_eq_true rfl) (Nat.le_of_ble_eq_true rfl) ⟨rfl, rfl⟩ dX4_placePart_79
  · skip
    refine V.iconst (v := 2) dX4_placePart_36 (by decide) ?_
    refine V.goto (tgt := 41) dX4_placePart_37 (by decide) ?_
    refine V.callVf (ws2 := (UW g u ai pa tu) ++ (SW g b (upd (lya z p) (76 + 5 * p + 2) (2 : Int32)))) (st2 := []) [.int (nI p), .int 2, .int 2] [] (kX3_put g (b 4) (b 5) 5 120 (sg (lya z p) 76 120) p 2 (2 : Int32) (by first | omega | decide) (by first | omega | decide) (by first | omega | decide) (by first | omega | decide)) gX4_placePart_X3_put rfl (by show _ ∧ _ ∧ _ ∧ _ = some (3 : Nat); decide +kernel) ⟨Nat.le_of_ble_eq_true rfl, Nat.le_of_ble_eq_true rfl⟩ (hc := (rfl : vwCl[3]? = some (RX3, TX3, 2))) 8 rfl [8, 9] (by decide) rfl rfl (Nat.le_of_ble_eq_true rfl) ⟨Nat.le_of_ble_eq_true rfl, Nat.le_of_ble_eq_true rfl⟩ dX4_placePart_41 TWf (congrArg (fun _l : va_W => (UW g u ai pa tu) ++ _l) (SW_p (g := g) (b := b) (z := (lya z p)) (v := (2 : Int32)) (r := p) (k := 2) (by omega))) rfl rfl rfl ?_
    refine V.eqws (ws2 := (UW g u ai pa tu) ++ (SW g b (lyb z p (tu n)))) (by rw [lyb, if_pos (htu.resolve_left c33)]) ?_
    refine V.aload_n 2 rfl dX4_placePart_44 rfl ?_
    refine V.get (v := .ref (b 4)) (fun w H => List.mem_cons_of_mem _ (List.mem_append_left _ (List.mem_append_right _ H))) (hc := (rfl : vwCl[2]? = some (RX2, TX2, 12))) 4 9 (by decide) (List.mem_of_getElem? (i := 2) rfl) rfl rfl dX4_placePart_45 ?_
    refine V.iload_n 0 rfl dX4_placePart_48 rfl ?_
    refine V.iconst (v := 3) dX4_placePart_49 (by decide) ?_
    refine V.iload_n 3 rfl dX4_placePart_50 rfl ?_
    refine V.callVf (ws2 := (UW g u ai pa tu) ++ (SW g b (upd (lyb z p (tu n)) (76 + 5 * p + 3) (nI n)))) (st2 := []) [.int (nI p), .int 3, .int (nI n)] [] (kX3_put g (b 4) (b 5) 5 120 (sg (lyb z p (tu n)) 76 120) p 3 (nI n) (by first | omega | decide) (by first | omega | decide) (by first | omega | decide) (by first | omega | decide)) gX4_placePart_X3_put rfl (by show _ ∧ _ ∧ _ ∧ _ = some (3 : Nat); decide +kernel) ⟨Nat.le_of_ble_eq_true rfl, Nat.le_of_ble_eq_true rfl⟩ (hc := (rfl : vwCl[3]? = some (RX3, TX3, 2))) 8 rfl [8, 9] (by decide) rfl rfl (Nat.le_of_ble_eq_true rfl) ⟨Nat.le_of_ble_eq_true rfl, Nat.le_of_ble_eq_true rfl⟩ dX4_placePart_51 TWf (congrArg (fun _l : va_W => (UW g u ai pa tu) ++ _l) (SW_p (g := g) (b := b) (z := (lyb z p (tu n))) (v := (nI n)) (r := p) (k := 3) (by omega))) rfl rfl rfl ?_
    refine V.eqws (ws2 := (UW g u ai pa tu) ++ (SW g b (lyc z p (tu n) n))) rfl ?_
    refine V.aload_n 2 rfl dX4_placePart_54 rfl ?_
    refine V.get (v := .ref (b 4)) (fun w H => List.mem_cons_of_mem _ (List.mem_append_left _ (List.mem_append_right _ H))) (hc := (rfl : vwCl[2]? = some (RX2, TX2, 12))) 4 9 (by decide) (List.mem_of_getElem? (i := 2) rfl) rfl rfl dX4_placePart_55 ?_
    refine V.iload_n 0 rfl dX4_placePart_58 rfl ?_
    refine V.iconst (v := 4) dX4_placePart_59 (by decide) ?_
    refine V.aload_n 1 rfl dX4_placePart_60 rfl ?_
    refine V.get (v := .ref (u 2)) (fun w H => List.mem_cons_of_mem _ (List.mem_append_left _ (List.mem_append_left _ (List.mem_append_right _ H)))) (hc := (rfl : vwCl[4]? = some (RX4, TX4, 3))) 0 1 (by decide) (List.mem_of_getElem? (i := 4) rfl) rfl rfl dX4_placePart_61 ?_
    refine V.iload_n 3 rfl dX4_placePart_64 rfl ?_
    refine V.iald (f := pa) 2 n rfl rfl (by omega) (by decide) dX4_placePart_65 ?_
    rw [hpa]
    refine V.callVf (ws2 := (UW g u ai pa tu) ++ (SW g b (upd (lyc z p (tu n) n) (76 + 5 * p + 4) (nI f)))) (st2 := []) [.int (nI p), .int 4, .int (nI f)] [] (kX3_put g (b 4) (b 5) 5 120 (sg (lyc z p (tu n) n) 76 120) p 4 (nI f) (by first | omega | decide) (by first | omega | decide) (by first | omega | decide) (by first | omega | decide)) gX4_placePart_X3_put rfl (by show _ ∧ _ ∧ _ ∧ _ = some (3 : Nat); decide +kernel) ⟨Nat.le_of_ble_eq_true rfl, Nat.le_of_ble_eq_true rfl⟩ (hc := (rfl : vwCl[3]? = some (RX3, TX3, 2))) 8 rfl [8, 9] (by decide) rfl rfl (Nat.le_of_ble_eq_true rfl) ⟨Nat.le_of_ble_eq_true rfl, Nat.le_of_ble_eq_true rfl⟩ dX4_placePart_66 TWf (congrArg (fun _l : va_W => (UW g u ai pa tu) ++ _l) (SW_p (g := g) (b := b) (z := (lyc z p (tu n) n)) (v := (nI f)) (r := p) (k := 4) (by omega))) rfl rfl rfl ?_
    refine V.eqws (ws2 := (UW g u ai pa tu) ++ (SW g b (lyd z p (tu n) n f))) rfl ?_
    refine V.aload_n 2 rfl dX4_placePart_69 rfl ?_
    refine V.get (v := .ref (b 6)) (fun w H => List.mem_cons_of_mem _ (List.mem_append_left _ (List.mem_append_right _ H))) (hc := (rfl : vwCl[2]? = some (RX2, TX2, 12))) 4 10 (by decide) (List.mem_of_getElem? (i := 5) rfl) rfl rfl dX4_placePart_70 ?_
    refine V.iload_n 3 rfl dX4_placePart_73 rfl ?_
    refine V.iconst (v := 3) dX4_placePart_74 (by decide) ?_
    refine V.iconst (v := 1) dX4_placePart_75 (by decide) ?_
    refine V.callVf (ws2 := (UW g u ai pa tu) ++ (SW g b (upd (lyd z p (tu n) n f) (196 + 5 * n + 3) ((lyd z p (tu n) n f) (196 + 5 * n + 3) + (1 : Int32))))) (st2 := []) [.int (nI n), .int 3, .int 1] [] (kX3_add g (b 6) (b 7) 5 20 (sg (lyd z p (tu n) n f) 196 20) n 3 (1 : Int32) (by first | omega | decide) (by first | omega | decide) (by first | omega | decide) (by first | omega | decide)) gX4_placePart_X3_add rfl (by show _ ∧ _ ∧ _ ∧ _ = some (3 : Nat); decide +kernel) ⟨Nat.le_of_ble_eq_true rfl, Nat.le_of_ble_eq_true rfl⟩ (hc := (rfl : vwCl[3]? = some (RX3, TX3, 2))) 10 rfl [10, 11] (by decide) rfl rfl (Nat.le_of_ble_eq_true rfl) ⟨Nat.le_of_ble_eq_true rfl, Nat.le_of_ble_eq_true rfl⟩ dX4_placePart_76 TWf (congrArg (fun _l : va_W => (UW g u ai pa tu) ++ _l) ((SW_n (g := g) (b := b) (z := (lyd z p (tu n) n f)) (v := sg (lyd z p (tu n) n f) 196 20 (n * 5 + 3) + (1 : Int32)) (r := n) (k := 3) (by omega)).trans (by rw [sg_r (by omega)]))) rfl rfl rfl ?_
    exact V.vret hq XM.r (Nat.le_of_ble_eq_true rfl) (Nat.le_of_ble_eq_true rfl) ⟨rfl, rfl⟩ dX4_placePart_79
