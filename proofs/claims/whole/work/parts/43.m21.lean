theorem gs_eq {y : Nat → Int32} {n i : Nat} (hT : IN (y (216 + 8 * n + i)) 0 100) (hT' : IN (y (216 + 8 * (n + 1) + i)) 0 100) (hs : IN (y 4) 0 100) : upd (upd y (216 + 8 * n + i) (y (216 + 8 * n + i) + (y (216 + 8 * (n + 1) + i) - y (216 + 8 * n + i)) * y 4 / 200)) (216 + 8 * (n + 1) + i) (upd y (216 + 8 * n + i) (y (216 + 8 * n + i) + (y (216 + 8 * (n + 1) + i) - y (216 + 8 * n + i)) * y 4 / 200) (216 + 8 * (n + 1) + i) + -((y (216 + 8 * (n + 1) + i) - y (216 + 8 * n + i)) * y 4 / 200)) = gsF n i y := by
  have e1 := gs_1 hT hT' hs
  have e2 := gs_2 hT hT' hs
  rw [gsF, tM, tM, e1, upd_ne (by omega), e2]
abbrev rmX4_gossip : Room := { frames := 2, cells := 0, slots := 0, locals := 48 }
set_option maxHeartbeats 4000000 in
set_option maxRecDepth 100000 in
theorem kX4_gossip (g : GT) (b : Nat → Nat) (z : Nat → Int32) (n : Nat) (n2 : Nat) (h2 : n2 = n + 1) (hn : n < 3) (hK : KZ z) (hRT : RT z) (h4 : IN (z 4) 0 100) : UC g yX4_gossip wsX4_gossip rmX4_gossip [.ref (b 0), .int (nI n), .int (nI n2)] (SW g b z) (Qf (none) (SW g b (gsA n z))) := by
  refine UC.ofV (cc := cX4_gossip) (maxL := 6) (ret := none) (lv0 := [(0, .ref (b 0)), (1, .int (nI n)), (2, .int (nI n2))]) (by decide) rfl (Nat.le_of_ble_eq_true rfl) rfl ?_
  generalize hQF : QFr g rmX4_gossip (Qf (none) (SW g b (gsA n z))) = QF
  have hq : QFok g rmX4_gossip (Qf (none) (SW g b (gsA n z))) QF := hQF ▸ QFr.q
  obtain ⟨hF, hF8, hP, hP24, hR, hR5⟩ := id hK
  subst h2
  refine V.iconst (v := 0) dX4_gossip_0 (by decide) ?_
  refine V.istore_n (lv2 := [(3, .int 0), (0, .ref (b 0)), (1, .int (nI n)), (2, .int (nI (n + 1)))]) dX4_gossip_1 rfl (by decide) rfl ?_
  have L2 : ∀ (kL : Nat) (i : Nat) (y : Nat → Int32), i + kL = nf z → (lo7 y z) → (RT y) → (fu (gsF n) i kL y = gsA n z) → V g rmX4_gossip RX4 cX4_gossip wsX4_gossip 6 QF (XM none "gossip") 0 0 (SW g b y) 2 [(3, .int (nI i)), (0, .ref (b 0)), (1, .int (nI n)), (2, .int (nI (n + 1)))] [] := by
    intro kL
    induction kL with
    | zero =>
      intro i y hrel hs7 hRy hfu
      rw [fu_0] at hfu
      have hy5 : y 5 = nI (nf z) := (hs7 5 (by decide)).trans hF
      have hy4 : IN (y 4) 0 100 := by rw [hs7 4 (by decide)]; exact h4
      refine V.iload_n 0 rfl dX4_gossip_2 rfl ?_
      refine V.aload_n 1 rfl dX4_gossip_3 rfl ?_
      refine V.get (v := .int (y 5)) (fun w H => List.mem_cons_of_mem _ (List.mem_append_left _ (List.mem_append_right _ H))) (hc := (rfl : vwCl[2]? = some (RX2, TX2, 12))) 0 0 (by decide) (List.mem_of_getElem? (i := 1) rfl) rfl rfl dX4_gossip_4 ?_
      rw [hy5]
      refine V.icmp_ge_t (tgt := 75) (by exact nI_le (a := nf z) (b := i) (by omega) (by omega)) dX4_gossip_7 (by decide) ?_
      exact V.vret hq XM.r (Nat.le_of_ble_eq_true rfl) (Nat.le_of_ble_eq_true rfl) ⟨rfl, by rw [← hfu] <;> rfl⟩ dX4_gossip_75
    | succ kL ih =>
      intro i y hrel hs7 hRy hfu
      rw [fu_s] at hfu
      have hy5 : y 5 = nI (nf z) := (hs7 5 (by decide)).trans hF
      have hy4 : IN (y 4) 0 100 := by rw [hs7 4 (by decide)]; exact h4
      refine V.iload_n 0 rfl dX4_gossip_2 rfl ?_
      refine V.aload_n 1 rfl dX4_gossip_3 rfl ?_
      refine V.get (v := .int (y 5)) (fun w H => List.mem_cons_of_mem _ (List.mem_append_left _ (List.mem_append_right _ H))) (hc := (rfl : vwCl[2]? = some (RX2, TX2, 12))) 0 0 (by decide) (List.mem_of_getElem? (i := 1) rfl) rfl rfl dX4_gossip_4 ?_
      rw [hy5]
      refine V.icmp_ge_f (tgt := 75) (by exact nI_ge (a := i) (b := nf z) (by omega) (by omega)) dX4_gossip_7 (by decide) ?_
      refine V.aload_n 1 rfl dX4_gossip_10 rfl ?_
      refine V.get (v := .ref (b 8)) (fun w H => List.mem_cons_of_mem _ (List.mem_append_left _ (List.mem_append_right _ H))) (hc := (rfl : vwCl[2]? = some (RX2, TX2, 12))) 0 11 (by decide) (List.mem_of_getElem? (i := 2) rfl) rfl rfl dX4_gossip_11 ?_
      refine V.iload_n 3 rfl dX4_gossip_14 rfl ?_
      refine V.iload_n 0 rfl dX4_gossip_15 rfl ?_
      refine V.callVf (ws2 := SW g b y) (st2 := [.int ((sg y 216 32) ((n + 1) * 8 + i))]) [.int (nI (n + 1)), .int (nI i)] [] (kX3_at g (b 8) (b 9) 8 32 (sg y 216 32) (n + 1) i (by first | omega | decide) (by first | omega | decide) (by first | omega | decide) (by first | omega | decide)) gX4_gossip_X3_at rfl (by show _ ∧ _ ∧ _ ∧ _ = some (2 : Nat); decide +kernel) ⟨Nat.le_of_ble_eq_true rfl, Nat.le_of_ble_eq_true rfl⟩ (hc := (rfl : vwCl[3]? = some (RX3, TX3, 2))) 8 rfl [8, 9] (by decide) rfl rfl (Nat.le_of_ble_eq_true rfl) ⟨Nat.le_of_ble_eq_true rfl, Nat.le_of_ble_eq_true rfl⟩ dX4_gossip_16 TWf rfl rfl rfl rfl ?_
      rw [sg_r (z := y) (o := 216) (n := 32) (r := (n + 1)) (C := 8) (k := i) (by omega)]
      refine V.aload_n 1 rfl dX4_gossip_19 rfl ?_
      refine V.get (v := .ref (b 8)) (fun w H => List.mem_cons_of_mem _ (List.mem_append_left _ (List.mem_append_right _ H))) (hc := (rfl : vwCl[2]? = some (RX2, TX2, 12))) 0 11 (by decide) (List.mem_of_getElem? (i := 2) rfl) rfl rfl dX4_gossip_20 ?_
      refine V.iload_n 2 rfl dX4_gossip_23 rfl ?_
      refine V.iload_n 0 rfl dX4_gossip_24 rfl ?_
      refine V.callVf (ws2 := SW g b y) (st2 := [.int ((sg y 216 32) (n * 8 + i)), .int (y (216 + 8 * (n + 1) + i))]) [.int (nI n), .int (nI i)] [.int (y (216 + 8 * (n + 1) + i))] (kX3_at g (b 8) (b 9) 8 32 (sg y 216 32) n i (by first | omega | decide) (by first | omega | decide) (by first | omega | decide) (by first | omega | decide)) gX4_gossip_X3_at rfl (by show _ ∧ _ ∧ _ ∧ _ = some (2 : Nat); decide +kernel) ⟨Nat.le_of_ble_eq_true rfl, Nat.le_of_ble_eq_true rfl⟩ (hc := (rfl : vwCl[3]? = some (RX3, TX3, 2))) 8 rfl [8, 9] (by decide) rfl rfl (Nat.le_of_ble_eq_true rfl) ⟨Nat.le_of_ble_eq_true rfl, Nat.le_of_ble_eq_true rfl⟩ dX4_gossip_25 TWf rfl rfl rfl rfl ?_
      rw [sg_r (z := y) (o := 216) (n := 32) (r := n) (C := 8) (k := i) (by omega)]
      refine V.isub dX4_gossip_28 ?_
      refine V.istore (lv2 := [(4, .int ((y (216 + 8 * (n + 1) + i)) - (y (216 + 8 * n + i)))), (3, .int (nI i)), (0, .ref (b 0)), (1, .int (nI n)), (2, .int (nI (n + 1)))]) dX4_gossip_29 (by decide) rfl ?_
      refine V.iload 0 rfl dX4_gossip_31 ?_
      refine V.aload_n 2 rfl dX4_gossip_33 rfl ?_
      refine V.get (v := .ref (b 1)) (fun w H => List.mem_cons_of_mem _ (List.mem_append_left _ (List.mem_append_right _ H))) (hc := (rfl : vwCl[2]? = some (RX2, TX2, 12))) 0 7 (by decide) (List.mem_of_getElem? (i := 3) rfl) rfl rfl dX4_gossip_34 ?_
      refine V.iconst (v := 4) dX4_gossip_37 (by decide) ?_
      refine V.iald (f := sg y 0 5) 1 4 rfl rfl (by decide) (by decide) dX4_gossip_38 ?_
      rw [show (sg y 0 5) 4 = y 4 from sg_a (by omega)]
      refine V.imul dX4_gossip_39 ?_
      refine V.sipush (v := 200) dX4_gossip_40 (by decide) ?_
      refine V.idiv dX4_gossip_43 (by decide) ?_
      refine V.istore (lv2 := [(5, .int ((((y (216 + 8 * (n + 1) + i)) - (y (216 + 8 * n + i))) * (y 4)) / 200)), (4, .int ((y (216 + 8 * (n + 1) + i)) - (y (216 + 8 * n + i)))), (3, .int (nI i)), (0, .ref (b 0)), (1, .int (nI n)), (2, .int (nI (n + 1)))]) dX4_gossip_44 (by decide) rfl ?_
      refine V.aload_n 3 rfl dX4_gossip_46 rfl ?_
      refine V.get (v := .ref (b 8)) (fun w H => List.mem_cons_of_mem _ (List.mem_append_left _ (List.mem_append_right _ H))) (hc := (rfl : vwCl[2]? = some (RX2, TX2, 12))) 0 11 (by decide) (List.mem_of_getElem? (i := 2) rfl) rfl rfl dX4_gossip_47 ?_
      refine V.iload_n 4 rfl dX4_gossip_50 rfl ?_
      refine V.iload_n 2 rfl dX4_gossip_51 rfl ?_
      refine V.iload 0 rfl dX4_gossip_52 ?_
      refine V.callVf (ws2 := SW g b (upd y (216 + 8 * n + i) (y (216 + 8 * n + i) + ((((y (216 + 8 * (n + 1) + i)) - (y (216 + 8 * n + i))) * (y 4)) / 200)))) (st2 := []) [.int (nI n), .int (nI i), .int ((((y (216 + 8 * (n + 1) + i)) - (y (216 + 8 * n + i))) * (y 4)) / 200)] [] (kX3_add g (b 8) (b 9) 8 32 (sg y 216 32) n i ((((y (216 + 8 * (n + 1) + i)) - (y (216 + 8 * n + i))) * (y 4)) / 200) (by first | omega | decide) (by first | omega | decide) (by first | omega | decide) (by first | omega | decide)) gX4_gossip_X3_add rfl (by show _ ∧ _ ∧ _ ∧ _ = some (3 : Nat); decide +kernel) ⟨Nat.le_of_ble_eq_true rfl, Nat.le_of_ble_eq_true rfl⟩ (hc := (rfl : vwCl[3]? = some (RX3, TX3, 2))) 8 rfl [8, 9] (by decide) rfl rfl (Nat.le_of_ble_eq_true rfl) ⟨Nat.le_of_ble_eq_true rfl, Nat.le_of_ble_eq_true rfl⟩ dX4_gossip_54 TWf ((SW_t (g := g) (b := b) (z := y) (v := sg y 216 32 (n * 8 + i) + ((((y (216 + 8 * (n + 1) + i)) - (y (216 + 8 * n + i))) * (y 4)) / 200)) (r := n) (k := i) (by omega)).trans (by rw [sg_r (by omega)])) rfl rfl rfl ?_
      refine V.aload_n 3 rfl dX4_gossip_57 rfl ?_
      refine V.get (v := .ref (b 8)) (fun w H => List.mem_cons_of_mem _ (List.mem_append_left _ (List.mem_append_right _ H))) (hc := (rfl : vwCl[2]? = some (RX2, TX2, 12))) 0 11 (by decide) (List.mem_of_getElem? (i := 2) rfl) rfl rfl dX4_gossip_58 ?_
      refine V.iload_n 5 rfl dX4_gossip_61 rfl ?_
      refine V.iload_n 2 rfl dX4_gossip_62 rfl ?_
      refine V.iload 0 rfl dX4_gossip_63 ?_
      refine V.ineg dX4_gossip_65 ?_
      refine V.callVf (ws2 := SW g b (upd (upd y (216 + 8 * n + i) (y (216 + 8 * n + i) + ((((y (216 + 8 * (n + 1) + i)) - (y (216 + 8 * n + i))) * (y 4)) / 200))) (216 + 8 * (n + 1) + i) ((upd y (216 + 8 * n + i) (y (216 + 8 * n + i) + ((((y (216 + 8 * (n + 1) + i)) - (y (216 + 8 * n + i))) * (y 4)) / 200))) (216 + 8 * (n + 1) + i) + (-((((y (216 + 8 * (n + 1) + i)) - (y (216 + 8 * n + i))) * (y 4)) / 200))))) (st2 := []) [.int (nI (n + 1)), .int (nI i), .int (-((((y (216 + 8 * (n + 1) + i)) - (y (216 + 8 * n + i))) * (y 4)) / 200))] [] (kX3_add g (b 8) (b 9) 8 32 (sg (upd y (216 + 8 * n + i) (y (216 + 8 * n + i) + ((((y (216 + 8 * (n + 1) + i)) - (y (216 + 8 * n + i))) * (y 4)) / 200))) 216 32) (n + 1) i (-((((y (216 + 8 * (n + 1) + i)) - (y (216 + 8 * n + i))) * (y 4)) / 200)) (by first | omega | decide) (by first | omega | decide) (by first | omega | decide) (by first | omega | decide)) gX4_gossip_X3_add rfl (by show _ ∧ _ ∧ _ ∧ _ = some (3 : Nat); decide +kernel) ⟨Nat.le_of_ble_eq_true rfl, Nat.le_of_ble_eq_true rfl⟩ (hc := (rfl : vwCl[3]? = some (RX3, TX3, 2))) 8 rfl [8, 9] (by decide) rfl rfl (Nat.le_of_ble_eq_true rfl) ⟨Nat.le_of_ble_eq_true rfl, Nat.le_of_ble_eq_true rfl⟩ dX4_gossip_66 TWf ((SW_t (g := g) (b := b) (z := (upd y (216 + 8 * n + i) (y (216 + 8 * n + i) + ((((y (216 + 8 * (n + 1) + i)) - (y (216 + 8 * n + i))) * (y 4)) / 200)))) (v := sg (upd y (216 + 8 * n + i) (y (216 + 8 * n + i) + ((((y (216 + 8 * (n + 1) + i)) - (y (216 + 8 * n + i))) * (y 4)) / 200))) 216 32 ((n + 1) * 8 + i) + (-((((y (216 + 8 * (n + 1) + i)) - (y (216 + 8 * n + i))) * (y 4)) / 200))) (r := (n + 1)) (k := i) (by omega)).trans (by rw [sg_r (by omega)])) rfl rfl rfl ?_
      refine V.eqws (ws2 := SW g b (gsF n i y)) (congrArg (SW g b) (gs_eq (hRy.t (by omega) (by omega)) (hRy.t (by omega) (by omega)) hy4)) ?_
      refine V.iinc (v := nI (i + 1)) (lv2 := [(3, .int (nI (i + 1))), (5, .int ((((y (216 + 8 * (n + 1) + i)) - (y (216 + 8 * n + i))) * (y 4)) / 200)), (4, .int ((y (216 + 8 * (n + 1) + i)) - (y (216 + 8 * n + i)))), (0, .ref (b 0)), (1, .int (nI n)), (2, .int (nI (n + 1)))]) 2 rfl dX4_gossip_69 (nI_add i 1) (by decide) rfl ?_
      refine V.goto (tgt := 2) dX4_gossip_72 (by decide) ?_
      refine V.eqlv (lv2 := [(3, .int (nI (i + 1))), (0, .ref (b 0)), (1, .int (nI n)), (2, .int (nI (n + 1)))]) [0, 3, 4, 5] rfl ?_
      exact ih (i + 1) (gsF n i y) (by omega) (gsF_lo7.tr hs7) (by rw [gsF]; exact hRy.tm.tm) hfu
  refine V.eqlv (lv2 := [(3, .int 0), (0, .ref (b 0)), (1, .int (nI n)), (2, .int (nI (n + 1)))]) [0, 1, 2, 3] rfl ?_
  exact L2 (nf z) 0 z (by omega) lo7.rf hRT rfl
