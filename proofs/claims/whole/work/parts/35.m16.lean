/-! the class: a tour at work -/
def UW (g : GT) (u : Nat → Nat) (ai pa tu : Nat → Int32) : va_W := [(u 0, .inr (4, [.ref (u 1), .ref (u 2), .ref (u 3)])), (u 1, .inl (g.2.2 0, 4, .inl ai)), (u 2, .inl (g.2.2 0, 4, .inl pa)), (u 3, .inl (g.2.2 1, 4, .inl tu))]
theorem UWf {g : GT} {u : Nat → Nat} {ai pa tu ai' pa' tu' : Nat → Int32} : ((UW g u ai pa tu).take [0, 1, 2, 3].length).map Prod.fst = (UW g u ai' pa' tu').map Prod.fst := rfl
theorem USf {g : GT} {u b : Nat → Nat} {ai pa tu ai' pa' tu' z z' : Nat → Int32} {is : List Nat} (h : is.length = 14) : ((UW g u ai pa tu ++ SW g b z).take is.length).map Prod.fst = (UW g u ai' pa' tu' ++ SW g b z').map Prod.fst := by rw [h]; rfl
abbrev rmX4_tryOnce : Room := { frames := 2, cells := 0, slots := 0, locals := 48 }
set_option maxHeartbeats 4000000 in
set_option maxRecDepth 100000 in
theorem kX4_tryOnce (g : GT) (u : Nat → Nat) (ai : Nat → Int32) (pa : Nat → Int32) (tu : Nat → Int32) (b : Nat → Nat) (z : Nat → Int32) (n : Nat) (f : Nat) (hn : n < 4) (hf : f < 8) (hX : IX z) : UC g yX4_tryOnce wsX4_tryOnce rmX4_tryOnce [.ref (u 0), .ref (b 0), .int (nI n), .int (nI f)] ((UW g u ai pa tu) ++ (SW g b z)) (Qf (none) ((UW g u ai (trP z n f pa) (trT z n f tu)) ++ (SW g b (trZ z n f)))) := by
  refine UC.ofV (cc := cX4_tryOnce) (maxL := 4) (ret := none) (lv0 := [(0, .ref (u 0)), (1, .ref (b 0)), (2, .int (nI n)), (3, .int (nI f))]) (by decide) rfl (Nat.le_of_ble_eq_true rfl) rfl ?_
  generalize hQF : QFr g rmX4_tryOnce (Qf (none) ((UW g u ai (trP z n f pa) (trT z n f tu)) ++ (SW g b (trZ z n f)))) = QF
  have hq : QFok g rmX4_tryOnce (Qf (none) ((UW g u ai (trP z n f pa) (trT z n f tu)) ++ (SW g b (trZ z n f)))) QF := hQF ▸ QFr.q
  have hXa : IX (ta z f) := hX.gz (hX.1 f hf)
  have hXb : IX (tb z f) := hXa.up (by omega) (by omega) (by omega) (by omega) (fun _ _ => by omega) (fun _ _ => by omega) (by omega)
  have hXc : IX (tc z n f) := hXb.up (by omega) (by omega) (by omega) (by omega) (fun _ _ => by omega) (fun _ _ => by omega) (by omega)
  have hXd : IX (td z n f) := hXc.dz
  have hXi : IX (ti z n f) := hXd.up (by omega) (by omega) (by omega) (by omega) (fun _ _ => by omega) (fun _ _ => by omega) (by omega)
  have hXj : IX (tj z n f) := hXi.tm
  refine V.aload_n 1 rfl dX4_tryOnce_0 rfl ?_
  refine V.aload_n 1 rfl dX4_tryOnce_1 rfl ?_
  refine V.get (v := .ref (b 2)) (fun w H => List.mem_cons_of_mem _ (List.mem_append_left _ (List.mem_append_left _ (List.mem_append_right _ H)))) (hc := (rfl : vwCl[2]? = some (RX2, TX2, 12))) 4 8 (by decide) (List.mem_of_getElem? (i := 1) rfl) rfl rfl dX4_tryOnce_2 ?_
  refine V.iload_n 3 rfl dX4_tryOnce_5 rfl ?_
  refine V.iconst (v := 0) dX4_tryOnce_6 (by decide) ?_
  refine V.callVf (ws2 := (UW g u ai pa tu) ++ (SW g b z)) (st2 := [.int ((sg z 12 64) (f * 8 + 0)), .ref (b 0)]) [.int (nI f), .int 0] [.ref (b 0)] (kX3_at g (b 2) (b 3) 8 64 (sg z 12 64) f 0 (by first | omega | decide) (by first | omega | decide) (by first | omega | decide) (by first | omega | decide)) gX4_tryOnce_X3_at rfl (by show _ ∧ _ ∧ _ ∧ _ = some (2 : Nat); decide +kernel) ⟨Nat.le_of_ble_eq_true rfl, Nat.le_of_ble_eq_true rfl⟩ (hc := (rfl : vwCl[3]? = some (RX3, TX3, 2))) 6 rfl [6, 7] (by decide) rfl rfl (Nat.le_of_ble_eq_true rfl) ⟨Nat.le_of_ble_eq_true rfl, Nat.le_of_ble_eq_true rfl⟩ dX4_tryOnce_7 TWf rfl rfl rfl rfl ?_
  rw [sg_r (z := z) (o := 12) (n := 64) (r := f) (C := 8) (k := 0) (by omega)]
  refine V.iconst (v := 2) dX4_tryOnce_10 (by decide) ?_
  refine V.callVf (ws2 := (UW g u ai pa tu) ++ (SW g b (gz z (z (12 + 8 * f + 0)) (2 : Int32)))) (st2 := []) [.int (z (12 + 8 * f + 0)), .int 2] [] (kX2_goTo g b z (z (12 + 8 * f + 0)) (2 : Int32) ((ab_eq (hX.1 f hf) hX.2.2.1).trans ap_comm)) gX4_tryOnce_X2_goTo rfl (by show _ ∧ _ ∧ _ ∧ _ = some (2 : Nat); decide +kernel) ⟨Nat.le_of_ble_eq_true rfl, Nat.le_of_ble_eq_true rfl⟩ (hc := (rfl : vwCl[2]? = some (RX2, TX2, 12))) 4 rfl [4, 5, 6, 7, 8, 9, 10, 11, 12, 13] (by decide) rfl rfl (Nat.le_of_ble_eq_true rfl) ⟨Nat.le_of_ble_eq_true rfl, Nat.le_of_ble_eq_true rfl⟩ dX4_tryOnce_11 SWf rfl rfl rfl rfl ?_
  refine V.eqws (ws2 := (UW g u ai pa tu) ++ (SW g b (ta z f))) rfl ?_
  refine V.aload_n 1 rfl dX4_tryOnce_14 rfl ?_
  refine V.get (v := .ref (b 2)) (fun w H => List.mem_cons_of_mem _ (List.mem_append_left _ (List.mem_append_left _ (List.mem_append_right _ H)))) (hc := (rfl : vwCl[2]? = some (RX2, TX2, 12))) 4 8 (by decide) (List.mem_of_getElem? (i := 1) rfl) rfl rfl dX4_tryOnce_15 ?_
  refine V.iload_n 3 rfl dX4_tryOnce_18 rfl ?_
  refine V.iconst (v := 5) dX4_tryOnce_19 (by decide) ?_
  refine V.iconst (v := 1) dX4_tryOnce_20 (by decide) ?_
  refine V.callVf (ws2 := (UW g u ai pa tu) ++ (SW g b (upd (ta z f) (12 + 8 * f + 5) ((ta z f) (12 + 8 * f + 5) + (1 : Int32))))) (st2 := []) [.int (nI f), .int 5, .int 1] [] (kX3_add g (b 2) (b 3) 8 64 (sg (ta z f) 12 64) f 5 (1 : Int32) (by first | omega | decide) (by first | omega | decide) (by first | omega | decide) (by first | omega | decide)) gX4_tryOnce_X3_add rfl (by show _ ∧ _ ∧ _ ∧ _ = some (3 : Nat); decide +kernel) ⟨Nat.le_of_ble_eq_true rfl, Nat.le_of_ble_eq_true rfl⟩ (hc := (rfl : vwCl[3]? = some (RX3, TX3, 2))) 6 rfl [6, 7] (by decide) rfl rfl (Nat.le_of_ble_eq_true rfl) ⟨Nat.le_of_ble_eq_true rfl, Nat.le_of_ble_eq_true rfl⟩ dX4_tryOnce_21 TWf (congrArg (fun _l : va_W => (UW g u ai pa tu) ++ _l) ((SW_f (g := g) (b := b) (z := (ta z f)) (v := sg (ta z f) 12 64 (f * 8 + 5) + (1 : Int32)) (r := f) (k := 5) (by omega)).trans (by rw [sg_r (by omega)]))) rfl rfl rfl ?_
  refine V.eqws (ws2 := (UW g u ai pa tu) ++ (SW g b (tb z f))) rfl ?_
  refine V.aload_n 1 rfl dX4_tryOnce_24 rfl ?_
  refine V.get (v := .ref (b 6)) (fun w H => List.mem_cons_of_mem _ (List.mem_append_left _ (List.mem_append_left _ (List.mem_append_right _ H)))) (hc := (rfl : vwCl[2]? = some (RX2, TX2, 12))) 4 10 (by decide) (List.mem_of_getElem? (i := 2) rfl) rfl rfl dX4_tryOnce_25 ?_
  refine V.iload_n 2 rfl dX4_tryOnce_28 rfl ?_
  refine V.iconst (v := 1) dX4_tryOnce_29 (by decide) ?_
  refine V.iconst (v := 1) dX4_tryOnce_30 (by decide) ?_
  refine V.callVf (ws2 := (UW g u ai pa tu) ++ (SW g b (upd (tb z f) (196 + 5 * n + 1) ((tb z f) (196 + 5 * n + 1) + (1 : Int32))))) (st2 := []) [.int (nI n), .int 1, .int 1] [] (kX3_add g (b 6) (b 7) 5 20 (sg (tb z f) 196 20) n 1 (1 : Int32) (by first | omega | decide) (by first | omega | decide) (by first | omega | decide) (by first | omega | decide)) gX4_tryOnce_X3_add rfl (by show _ ∧ _ ∧ _ ∧ _ = some (3 : Nat); decide +kernel) ⟨Nat.le_of_ble_eq_true rfl, Nat.le_of_ble_eq_true rfl⟩ (hc := (rfl : vwCl[3]? = some (RX3, TX3, 2))) 10 rfl [10, 11] (by decide) rfl rfl (Nat.le_of_ble_eq_true rfl) ⟨Nat.le_of_ble_eq_true rfl, Nat.le_of_ble_eq_true rfl⟩ dX4_tryOnce_31 TWf (congrArg (fun _l : va_W => (UW g u ai pa tu) ++ _l) ((SW_n (g := g) (b := b) (z := (tb z f)) (v := sg (tb z f) 196 20 (n * 5 + 1) + (1 : Int32)) (r := n) (k := 1) (by omega)).trans (by rw [sg_r (by omega)]))) rfl rfl rfl ?_
  refine V.eqws (ws2 := (UW g u ai pa tu) ++ (SW g b (tc z n f))) rfl ?_
  refine V.aload_n 1 rfl dX4_tryOnce_34 rfl ?_
  refine V.callVf (ws2 := (UW g u ai pa tu) ++ (SW g b (dz (tc z n f)))) (st2 := [.int (dv (tc z n f) 100)]) [] [] (kX2_drawPercent g b (tc z n f) (nx_eq hXc.2.2.2.1)) gX4_tryOnce_X2_drawPercent rfl (by show _ ∧ _ ∧ _ ∧ _ = some (0 : Nat); decide +kernel) ⟨Nat.le_of_ble_eq_true rfl, Nat.le_of_ble_eq_true rfl⟩ (hc := (rfl : vwCl[2]? = some (RX2, TX2, 12))) 4 rfl [4, 5, 6, 7, 8, 9, 10, 11, 12, 13] (by decide) rfl rfl (Nat.le_of_ble_eq_true rfl) ⟨Nat.le_of_ble_eq_true rfl, Nat.le_of_ble_eq_true rfl⟩ dX4_tryOnce_35 SWf rfl rfl rfl rfl ?_
  refine V.eqws (ws2 := (UW g u ai pa tu) ++ (SW g b (td z n f))) rfl ?_
  refine V.aload_n 1 rfl dX4_tryOnce_38 rfl ?_
  refine V.get (v := .ref (b 2)) (fun w H => List.mem_cons_of_mem _ (List.mem_append_left _ (List.mem_append_left _ (List.mem_append_right _ H)))) (hc := (rfl : vwCl[2]? = some (RX2, TX2, 12))) 4 8 (by decide) (List.mem_of_getElem? (i := 1) rfl) rfl rfl dX4_tryOnce_39 ?_
  refine V.iload_n 3 rfl dX4_tryOnce_42 rfl ?_
  refine V.iconst (v := 3) dX4_tryOnce_43 (by decide) ?_
  refine V.callVf (ws2 := (UW g u ai pa tu) ++ (SW g b (td z n f))) (st2 := [.int ((sg (td z n f) 12 64) (f * 8 + 3)), .int (dv (tc z n f) 100)]) [.int (nI f), .int 3] [.int (dv (tc z n f) 100)] (kX3_at g (b 2) (b 3) 8 64 (sg (td z n f) 12 64) f 3 (by first | omega | decide) (by first | omega | decide) (by first | omega | decide) (by first | omega | decide)) gX4_tryOnce_X3_at rfl (by show _ ∧ _ ∧ _ ∧ _ = some (2 : Nat); decide +kernel) ⟨Nat.le_of_ble_eq_true rfl, Nat.le_of_ble_eq_true rfl⟩ (hc := (rfl : vwCl[3]? = some (RX3, TX3, 2))) 6 rfl [6, 7] (by decide) rfl rfl (Nat.le_of_ble_eq_true rfl) ⟨Nat.le_of_ble_eq_true rfl, Nat.le_of_ble_eq_true rfl⟩ dX4_tryOnce_44 TWf rfl rfl rfl rfl ?_
  rw [sg_r (z := (td z n f)) (o := 12) (n := 64) (r := f) (C := 8) (k := 3) (by omega)]
  refine V.icmp_ge (tgt := 78) dX4_tryOnce_47 (by decide) (fun c47 => ?_) (fun c47 => ?_)
  · skip
    have hm : tms z n f = false := by unfold tms; rw [decide_eq_true c47]; rfl
    refine V.aload_n 1 rfl dX4_tryOnce_78 rfl ?_
    refine V.get (v := .ref (b 2)) (fun w H => List.mem_cons_of_mem _ (List.mem_append_left _ (List.mem_append_left _ (List.mem_append_right _ H)))) (hc := (rfl : vwCl[2]? = some (RX2, TX2, 12))) 4 8 (by decide) (List.mem_of_getElem? (i := 1) rfl) rfl rfl dX4_tryOnce_79 ?_
    refine V.iload_n 3 rfl dX4_tryOnce_82 rfl ?_
    refine V.iconst (v := 2) dX4_tryOnce_83 (by decide) ?_
    refine V.iconst (v := -1) dX4_tryOnce_84 (by decide) ?_
    refine V.callVf (ws2 := (UW g u ai pa tu) ++ (SW g b (upd (td z n f) (12 + 8 * f + 2) ((td z n f) (12 + 8 * f + 2) + (-1 : Int32))))) (st2 := []) [.int (nI f), .int 2, .int (-1)] [] (kX3_add g (b 2) (b 3) 8 64 (sg (td z n f) 12 64) f 2 (-1 : Int32) (by first | omega | decide) (by first | omega | decide) (by first | omega | decide) (by first | omega | decide)) gX4_tryOnce_X3_add rfl (by show _ ∧ _ ∧ _ ∧ _ = some (3 : Nat); decide +kernel) ⟨Nat.le_of_ble_eq_true rfl, Nat.le_of_ble_eq_true rfl⟩ (hc := (rfl : vwCl[3]? = some (RX3, TX3, 2))) 6 rfl [6, 7] (by decide) rfl rfl (Nat.le_of_ble_eq_true rfl) ⟨Nat.le_of_ble_eq_true rfl, Nat.le_of_ble_eq_true rfl⟩ dX4_tryOnce_85 TWf (congrArg (fun _l : va_W => (UW g u ai pa tu) ++ _l) ((SW_f (g := g) (b := b) (z := (td z n f)) (v := sg (td z n f) 12 64 (f * 8 + 2) + (-1 : Int32)) (r := f) (k := 2) (by omega)).trans (by rw [sg_r (by omega)]))) rfl rfl rfl ?_
    refine V.eqws (ws2 := (UW g u ai pa tu) ++ (SW g b (ti z n f))) (by rw [ti, Int32.sub_eq_add_neg]) ?_
    refine V.aload_n 1 rfl dX4_tryOnce_88 rfl ?_
    refine V.iload_n 2 rfl dX4_tryOnce_89 rfl ?_
    refine V.iload_n 3 rfl dX4_tryOnce_90 rfl ?_
    refine V.callVf (ws2 := (UW g u ai pa tu) ++ (SW g b (tM (ti z n f) n f ((ti z n f) 2)))) (st2 := []) [.int (nI n), .int (nI f)] [] (kX2_praise g b (ti z n f) n f hn hf (pr_eq (hXi.2.2.2.2.t hn hf) hXi.2.2.2.2.2.2)) gX4_tryOnce_X2_praise rfl (by show _ ∧ _ ∧ _ ∧ _ = some (2 : Nat); decide +kernel) ⟨Nat.le_of_ble_eq_true rfl, Nat.le_of_ble_eq_true rfl⟩ (hc := (rfl : vwCl[2]? = some (RX2, TX2, 12))) 4 rfl [4, 5, 6, 7, 8, 9, 10, 11, 12, 13] (by decide) rfl rfl (Nat.le_of_ble_eq_true rfl) ⟨Nat.le_of_ble_eq_true rfl, Nat.le_of_ble_eq_true rfl⟩ dX4_tryOnce_91 SWf rfl rfl rfl rfl ?_
    refine V.eqws (ws2 := (UW g u ai pa tu) ++ (SW g b (tj z n f))) rfl ?_
    refine V.aload_n 0 rfl dX4_tryOnce_94 rfl ?_
    refine V.get (v := .ref (u 2)) (fun w H => List.mem_cons_of_mem _ (List.mem_append_left _ (List.mem_append_right _ H))) (hc := (rfl : vwCl[4]? = some (RX4, TX4, 3))) 0 1 (by decide) (List.mem_of_getElem? (i := 3) rfl) rfl rfl dX4_tryOnce_95 ?_
    refine V.iload_n 2 rfl dX4_tryOnce_98 rfl ?_
    refine V.iload_n 3 rfl dX4_tryOnce_99 rfl ?_
    refine V.iast (f := pa) (ws2 := (UW g u ai (upd pa n (nI f)) tu) ++ (SW g b (tj z n f))) 2 n rfl rfl (by omega) (by decide) rfl dX4_tryOnce_100 ?_
    refine V.aload_n 0 rfl dX4_tryOnce_101 rfl ?_
    refine V.get (v := .ref (u 3)) (fun w H => List.mem_cons_of_mem _ (List.mem_append_left _ (List.mem_append_right _ H))) (hc := (rfl : vwCl[4]? = some (RX4, TX4, 3))) 0 2 (by decide) (List.mem_of_getElem? (i := 4) rfl) rfl rfl dX4_tryOnce_102 ?_
    refine V.iload_n 2 rfl dX4_tryOnce_105 rfl ?_
    refine V.aload_n 1 rfl dX4_tryOnce_106 rfl ?_
    refine V.callVf (ws2 := (UW g u ai (upd pa n (nI f)) tu) ++ (SW g b (dz (tj z n f)))) (st2 := [.int (dv (tj z n f) 100), .int (nI n), .ref (u 3)]) [] [.int (nI n), .ref (u 3)] (kX2_drawPercent g b (tj z n f) (nx_eq hXj.2.2.2.1)) gX4_tryOnce_X2_drawPercent rfl (by show _ ∧ _ ∧ _ ∧ _ = some (0 : Nat); decide +kernel) ⟨Nat.le_of_ble_eq_true rfl, Nat.le_of_ble_eq_true rfl⟩ (hc := (rfl : vwCl[2]? = some (RX2, TX2, 12))) 4 rfl [4, 5, 6, 7, 8, 9, 10, 11, 12, 13] (by decide) rfl rfl (Nat.le_of_ble_eq_true rfl) ⟨Nat.le_of_ble_eq_true rfl, Nat.le_of_ble_eq_true rfl⟩ dX4_tryOnce_107 SWf rfl rfl rfl rfl ?_
    refine V.eqws (ws2 := (UW g u ai (upd pa n (nI f)) tu) ++ (SW g b (tk z n f))) rfl ?_
    refine V.aload_n 1 rfl dX4_tryOnce_110 rfl ?_
    refine V.get (v := .ref (b 2)) (fun w H => List.mem_cons_of_mem _ (List.mem_append_left _ (List.mem_append_left _ (List.mem_append_right _ H)))) (hc := (rfl : vwCl[2]? = some (RX2, TX2, 12))) 4 8 (by decide) (List.mem_of_getElem? (i := 1) rfl) rfl rfl dX4_tryOnce_111 ?_
    refine V.iload_n 3 rfl dX4_tryOnce_114 rfl ?_
    refine V.iconst (v := 4) dX4_tryOnce_115 (by decide) ?_
    refine V.callVf (ws2 := (UW g u ai (upd pa n (nI f)) tu) ++ (SW g b (tk z n f))) (st2 := [.int ((sg (tk z n f) 12 64) (f * 8 + 4)), .int (dv (tj z n f) 100), .int (nI n), .ref (u 3)]) [.int (nI f), .int 4] [.int (dv (tj z n f) 100), .int (nI n), .ref (u 3)] (kX3_at g (b 2) (b 3) 8 64 (sg (tk z n f) 12 64) f 4 (by first | omega | decide) (by first | omega | decide) (by first | omega | decide) (by first | omega | decide)) gX4_tryOnce_X3_at rfl (by show _ ∧ _ ∧ _ ∧ _ = some (2 : Nat); decide +kernel) ⟨Nat.le_of_ble_eq_true rfl, Nat.le_of_ble_eq_true rfl⟩ (hc := (rfl : vwCl[3]? = some (RX3, TX3, 2))) 6 rfl [6, 7] (by decide) rfl rfl (Nat.le_of_ble_eq_true rfl) ⟨Nat.le_of_ble_eq_true rfl, Nat.le_of_ble_eq_true rfl⟩ dX4_tryOnce_116 TWf rfl rfl rfl rfl ?_
    rw [sg_r (z := (tk z n f)) (o := 12) (n := 64) (r := f) (C := 8) (k := 4) (by omega)]
    refine V.icmp_ge (tgt := 126) dX4_tryOnce_119 (by decide) (fun c119 => ?_) (fun c119 => ?_)
    · skip
      refine V.iconst (v := 0) dX4_tryOnce_126 (by decide) ?_
      refine V.zast (f := tu) (ws2 := (UW g u ai (upd pa n (nI f)) (upd tu n (0))) ++ (SW g b (tk z n f))) 3 n rfl rfl (by omega) (by decide) rfl rfl dX4_tryOnce_127 ?_
      exact V.vret hq XM.r (Nat.le_of_ble_eq_true rfl) (Nat.le_of_ble_eq_true rfl) ⟨rfl, by rw [trZ, hm, trP, hm, trT, hm, tT, if_pos c119] <;> rfl⟩ dX4_tryOnce_128
    · skip
      refine V.iconst (v := 1) dX4_tryOnce_122 (by decide) ?_
      refine V.goto (tgt := 127) dX4_tryOnce_123 (by decide) ?_
      refine V.zast (f := tu) (ws2 := (UW g u ai (upd pa n (nI f)) (upd tu n (1))) ++ (SW g b (tk z n f))) 3 n rfl rfl (by omega) (by decide) rfl rfl dX4_tryOnce_127 ?_
      exact V.vret hq XM.r (Nat.le_of_ble_eq_true rfl) (Nat.le_of_ble_eq_true rfl) ⟨rfl, by rw [trZ, hm, trP, hm, trT, hm, tT, if_neg c119] <;> rfl⟩ dX4_tryOnce_128
  · skip
    have hm : tms z n f = true := by unfold tms; rw [decide_eq_false c47]; rfl
    refine V.aload_n 1 rfl dX4_tryOnce_50 rfl ?_
    refine V.get (v := .ref (b 2)) (fun w H => List.mem_cons_of_mem _ (List.mem_append_left _ (List.mem_append_left _ (List.mem_append_right _ H)))) (hc := (rfl : vwCl[2]? = some (RX2, TX2, 12))) 4 8 (by decide) (List.mem_of_getElem? (i := 1) rfl) rfl rfl dX4_tryOnce_51 ?_
    refine V.iload_n 3 rfl dX4_tryOnce_54 rfl ?_
    refine V.bipush (v := 6) dX4_tryOnce_55 (by decide) ?_
    refine V.iconst (v := 1) dX4_tryOnce_57 (by decide) ?_
    refine V.callVf (ws2 := (UW g u ai pa tu) ++ (SW g b (upd (td z n f) (12 + 8 * f + 6) ((td z n f) (12 + 8 * f + 6) + (1 : Int32))))) (st2 := []) [.int (nI f), .int 6, .int 1] [] (kX3_add g (b 2) (b 3) 8 64 (sg (td z n f) 12 64) f 6 (1 : Int32) (by first | omega | decide) (by first | omega | decide) (by first | omega | decide) (by first | omega | decide)) gX4_tryOnce_X3_add rfl (by show _ ∧ _ ∧ _ ∧ _ = some (3 : Nat); decide +kernel) ⟨Nat.le_of_ble_eq_true rfl, Nat.le_of_ble_eq_true rfl⟩ (hc := (rfl : vwCl[3]? = some (RX3, TX3, 2))) 6 rfl [6, 7] (by decide) rfl rfl (Nat.le_of_ble_eq_true rfl) ⟨Nat.le_of_ble_eq_true rfl, Nat.le_of_ble_eq_true rfl⟩ dX4_tryOnce_58 TWf (congrArg (fun _l : va_W => (UW g u ai pa tu) ++ _l) ((SW_f (g := g) (b := b) (z := (td z n f)) (v := sg (td z n f) 12 64 (f * 8 + 6) + (1 : Int32)) (r := f) (k := 6) (by omega)).trans (by rw [sg_r (by omega)]))) rfl rfl rfl ?_
    refine V.aload_n 1 rfl dX4_tryOnce_61 rfl ?_
    refine V.get (v := .ref (b 6)) (fun w H => List.mem_cons_of_mem _ (List.mem_append_left _ (List.mem_append_left _ (List.mem_append_right _ H)))) (hc := (rfl : vwCl[2]? = some (RX2, TX2, 12))) 4 10 (by decide) (List.mem_of_getElem? (i := 2) rfl) rfl rfl dX4_tryOnce_62 ?_
    refine V.iload_n 2 rfl dX4_tryOnce_65 rfl ?_
    refine V.iconst (v := 2) dX4_tryOnce_66 (by decide) ?_
    refine V.iconst (v := 1) dX4_tryOnce_67 (by decide) ?_
    refine V.callVf (ws2 := (UW g u ai pa tu) ++ (SW g b (upd (upd (td z n f) (12 + 8 * f + 6) ((td z n f) (12 + 8 * f + 6) + (1 : Int32))) (196 + 5 * n + 2) ((upd (td z n f) (12 + 8 * f + 6) ((td z n f) (12 + 8 * f + 6) + (1 : Int32))) (196 + 5 * n + 2) + (1 : Int32))))) (st2 := []) [.int (nI n), .int 2, .int 1] [] (kX3_add g (b 6) (b 7) 5 20 (sg (upd (td z n f) (12 + 8 * f + 6) ((td z n f) (12 + 8 * f + 6) + (1 : Int32))) 196 20) n 2 (1 : Int32) (by first | omega | decide) (by first | omega | decide) (by first | omega | decide) (by first | omega | decide)) gX4_tryOnce_X3_add rfl (by show _ ∧ _ ∧ _ ∧ _ = some (3 : Nat); decide +kernel) ⟨Nat.le_of_ble_eq_true rfl, Nat.le_of_ble_eq_true rfl⟩ (hc := (rfl : vwCl[3]? = some (RX3, TX3, 2))) 10 rfl [10, 11] (by decide) rfl rfl (Nat.le_of_ble_eq_true rfl) ⟨Nat.le_of_ble_eq_true rfl, Nat.le_of_ble_eq_true rfl⟩ dX4_tryOnce_68 TWf (congrArg (fun _l : va_W => (UW g u ai pa tu) ++ _l) ((SW_n (g := g) (b := b) (z := (upd (td z n f) (12 + 8 * f + 6) ((td z n f) (12 + 8 * f + 6) + (1 : Int32)))) (v := sg (upd (td z n f) (12 + 8 * f + 6) ((td z n f) (12 + 8 * f + 6) + (1 : Int32))) 196 20 (n * 5 + 2) + (1 : Int32)) (r := n) (k := 2) (by omega)).trans (by rw [sg_r (by omega)]))) rfl rfl rfl ?_
    have hXm : IX (upd (upd (td z n f) (12 + 8 * f + 6) (td z n f (12 + 8 * f + 6) + 1)) (196 + 5 * n + 2) (upd (td z n f) (12 + 8 * f + 6) (td z n f (12 + 8 * f + 6) + 1) (196 + 5 * n + 2) + 1)) := (hXd.up (by omega) (by omega) (by omega) (by omega) (fun _ _ => by omega) (fun _ _ => by omega) (by omega)).up (by omega) (by omega) (by omega) (by omega) (fun _ _ => by omega) (fun _ _ => by omega) (by omega)
    refine V.aload_n 1 rfl dX4_tryOnce_71 rfl ?_
    refine V.iload_n 2 rfl dX4_tryOnce_72 rfl ?_
    refine V.iload_n 3 rfl dX4_tryOnce_73 rfl ?_
    refine V.callVf (ws2 := (UW g u ai pa tu) ++ (SW g b (tM (upd (upd (td z n f) (12 + 8 * f + 6) ((td z n f) (12 + 8 * f + 6) + (1 : Int32))) (196 + 5 * n + 2) ((upd (td z n f) (12 + 8 * f + 6) ((td z n f) (12 + 8 * f + 6) + (1 : Int32))) (196 + 5 * n + 2) + (1 : Int32))) n f (-((upd (upd (td z n f) (12 + 8 * f + 6) ((td z n f) (12 + 8 * f + 6) + (1 : Int32))) (196 + 5 * n + 2) ((upd (td z n f) (12 + 8 * f + 6) ((td z n f) (12 + 8 * f + 6) + (1 : Int32))) (196 + 5 * n + 2) + (1 : Int32))) 1))))) (st2 := []) [.int (nI n), .int (nI f)] [] (kX2_blame g b (upd (upd (td z n f) (12 + 8 * f + 6) ((td z n f) (12 + 8 * f + 6) + (1 : Int32))) (196 + 5 * n + 2) ((upd (td z n f) (12 + 8 * f + 6) ((td z n f) (12 + 8 * f + 6) + (1 : Int32))) (196 + 5 * n + 2) + (1 : Int32))) n f hn hf (bl_eq (hXm.2.2.2.2.t hn hf) hXm.2.2.2.2.2.1)) gX4_tryOnce_X2_blame rfl (by show _ ∧ _ ∧ _ ∧ _ = some (2 : Nat); decide +kernel) ⟨Nat.le_of_ble_eq_true rfl, Nat.le_of_ble_eq_true rfl⟩ (hc := (rfl : vwCl[2]? = some (RX2, TX2, 12))) 4 rfl [4, 5, 6, 7, 8, 9, 10, 11, 12, 13] (by decide) rfl rfl (Nat.le_of_ble_eq_true rfl) ⟨Nat.le_of_ble_eq_true rfl, Nat.le_of_ble_eq_true rfl⟩ dX4_tryOnce_74 SWf rfl rfl rfl rfl ?_
    refine V.eqws (ws2 := (UW g u ai pa tu) ++ (SW g b (thZ z n f))) (congrArg (fun _z => UW g u ai pa tu ++ SW g b _z) (trm_eq hn hf)) ?_
    exact V.vret hq XM.r (Nat.le_of_ble_eq_true rfl) (Nat.le_of_ble_eq_true rfl) ⟨rfl, by rw [trZ, hm, trP, hm, trT, hm] <;> rfl⟩ dX4_tryOnce_77
