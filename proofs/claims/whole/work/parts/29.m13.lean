abbrev rmX2_trustSpread : Room := { frames := 1, cells := 0, slots := 0, locals := 24 }
set_option maxHeartbeats 4000000 in
set_option maxRecDepth 100000 in
theorem kX2_trustSpread (g : GT) (b : Nat → Nat) (z : Nat → Int32) (f : Nat) (hf : f < 8) : UC g yX2_trustSpread wsX2_trustSpread rmX2_trustSpread [.ref (b 0), .int (nI f)] (SW g b z) (Qf (some (.int (dc z f))) (SW g b z)) := by
  refine UC.ofV (cc := cX2_trustSpread) (maxL := 5) (ret := some .int) (lv0 := [(0, .ref (b 0)), (1, .int (nI f))]) (by decide) rfl (Nat.le_of_ble_eq_true rfl) rfl ?_
  generalize hQF : QFr g rmX2_trustSpread (Qf (some (.int (dc z f))) (SW g b z)) = QF
  have hq : QFok g rmX2_trustSpread (Qf (some (.int (dc z f))) (SW g b z)) QF := hQF ▸ QFr.q
  refine V.aload_n 0 rfl dX2_trustSpread_0 rfl ?_
  refine V.get (v := .ref (b 8)) (fun w H => List.mem_cons_of_mem _ (List.mem_append_left _ (List.mem_append_right _ H))) (hc := (rfl : vwCl[2]? = some (RX2, TX2, 12))) 0 11 (by decide) (List.mem_of_getElem? (i := 1) rfl) rfl rfl dX2_trustSpread_1 ?_
  refine V.iconst (v := 0) dX2_trustSpread_4 (by decide) ?_
  refine V.iload_n 1 rfl dX2_trustSpread_5 rfl ?_
  refine V.callVf (ws2 := SW g b z) (st2 := [.int ((sg z 216 32) (0 * 8 + f))]) [.int 0, .int (nI f)] [] (kX3_at g (b 8) (b 9) 8 32 (sg z 216 32) 0 f (by first | omega | decide) (by first | omega | decide) (by first | omega | decide) (by first | omega | decide)) gX2_trustSpread_X3_at rfl (by show _ ∧ _ ∧ _ ∧ _ = some (2 : Nat); decide +kernel) ⟨Nat.le_of_ble_eq_true rfl, Nat.le_of_ble_eq_true rfl⟩ (hc := (rfl : vwCl[3]? = some (RX3, TX3, 2))) 8 rfl [8, 9] (by decide) rfl rfl (Nat.le_of_ble_eq_true rfl) ⟨Nat.le_of_ble_eq_true rfl, Nat.le_of_ble_eq_true rfl⟩ dX2_trustSpread_6 TWf rfl rfl rfl rfl ?_
  rw [sg_r (z := z) (o := 216) (n := 32) (r := 0) (C := 8) (k := f) (by omega)]
  refine V.istore_n (lv2 := [(2, .int (z (216 + 8 * 0 + f))), (0, .ref (b 0)), (1, .int (nI f))]) dX2_trustSpread_9 rfl (by decide) rfl ?_
  refine V.iload_n 0 rfl dX2_trustSpread_10 rfl ?_
  refine V.istore_n (lv2 := [(3, .int (z (216 + 8 * 0 + f))), (2, .int (z (216 + 8 * 0 + f))), (0, .ref (b 0)), (1, .int (nI f))]) dX2_trustSpread_11 rfl (by decide) rfl ?_
  refine V.iconst (v := 1) dX2_trustSpread_12 (by decide) ?_
  refine V.istore (lv2 := [(4, .int 1), (3, .int (z (216 + 8 * 0 + f))), (2, .int (z (216 + 8 * 0 + f))), (0, .ref (b 0)), (1, .int (nI f))]) dX2_trustSpread_13 (by decide) rfl ?_
  have L15 : ∀ (kL : Nat) (i : Nat) (s : Int32 × Int32), i + kL = 4 → (fu (dcF z f) i kL s = dcS z f) → V g rmX2_trustSpread RX2 cX2_trustSpread wsX2_trustSpread 5 QF (XM (some .int) "trustSpread") 0 0 (SW g b z) 15 [(4, .int (nI i)), (3, .int s.1), (2, .int s.2), (0, .ref (b 0)), (1, .int (nI f))] [] := by
    intro kL
    induction kL with
    | zero =>
      intro i s hrel hfu
      rw [fu_0] at hfu
      refine V.iload 0 rfl dX2_trustSpread_15 ?_
      refine V.iconst (v := 4) dX2_trustSpread_17 (by decide) ?_
      refine V.icmp_ge_t (tgt := 57) (by rw [show i = 4 from by omega]; decide) dX2_trustSpread_18 (by decide) ?_
      refine V.iload_n 1 rfl dX2_trustSpread_57 rfl ?_
      refine V.iload_n 2 rfl dX2_trustSpread_58 rfl ?_
      refine V.isub dX2_trustSpread_59 ?_
      exact V.iret hq XM.r (Nat.le_of_ble_eq_true rfl) (Nat.le_of_ble_eq_true rfl) ⟨by rw [dc, ← hfu] <;> rfl, rfl⟩ dX2_trustSpread_60
    | succ kL ih =>
      intro i s hrel hfu
      rw [fu_s] at hfu
      refine V.iload 0 rfl dX2_trustSpread_15 ?_
      refine V.iconst (v := 4) dX2_trustSpread_17 (by decide) ?_
      refine V.icmp_ge_f (tgt := 57) (by exact nI_ge (a := i) (b := 4) (by omega) (by decide)) dX2_trustSpread_18 (by decide) ?_
      refine V.iload_n 2 rfl dX2_trustSpread_21 rfl ?_
      refine V.aload_n 3 rfl dX2_trustSpread_22 rfl ?_
      refine V.get (v := .ref (b 8)) (fun w H => List.mem_cons_of_mem _ (List.mem_append_left _ (List.mem_append_right _ H))) (hc := (rfl : vwCl[2]? = some (RX2, TX2, 12))) 0 11 (by decide) (List.mem_of_getElem? (i := 1) rfl) rfl rfl dX2_trustSpread_23 ?_
      refine V.iload 0 rfl dX2_trustSpread_26 ?_
      refine V.iload_n 4 rfl dX2_trustSpread_28 rfl ?_
      refine V.callVf (ws2 := SW g b z) (st2 := [.int ((sg z 216 32) (i * 8 + f)), .int s.2]) [.int (nI i), .int (nI f)] [.int s.2] (kX3_at g (b 8) (b 9) 8 32 (sg z 216 32) i f (by first | omega | decide) (by first | omega | decide) (by first | omega | decide) (by first | omega | decide)) gX2_trustSpread_X3_at rfl (by show _ ∧ _ ∧ _ ∧ _ = some (2 : Nat); decide +kernel) ⟨Nat.le_of_ble_eq_true rfl, Nat.le_of_ble_eq_true rfl⟩ (hc := (rfl : vwCl[3]? = some (RX3, TX3, 2))) 8 rfl [8, 9] (by decide) rfl rfl (Nat.le_of_ble_eq_true rfl) ⟨Nat.le_of_ble_eq_true rfl, Nat.le_of_ble_eq_true rfl⟩ dX2_trustSpread_29 TWf rfl rfl rfl rfl ?_
      rw [sg_r (z := z) (o := 216) (n := 32) (r := i) (C := 8) (k := f) (by omega)]
      refine V.mmin (by decide +kernel) (by decide +kernel) (by decide +kernel) (by decide +kernel) (Nat.le_of_ble_eq_true rfl) (Nat.le_of_ble_eq_true rfl) (Nat.le_of_ble_eq_true rfl) (Nat.le_of_ble_eq_true rfl) dX2_trustSpread_32 ?_
      rw [mn_eq (x := s.2)]
      refine V.istore_n (lv2 := [(2, .int (if s.2 ≤ z (216 + 8 * i + f) then s.2 else z (216 + 8 * i + f))), (4, .int (nI i)), (3, .int s.1), (0, .ref (b 0)), (1, .int (nI f))]) dX2_trustSpread_35 rfl (by decide) rfl ?_
      refine V.iload_n 2 rfl dX2_trustSpread_36 rfl ?_
      refine V.aload_n 3 rfl dX2_trustSpread_37 rfl ?_
      refine V.get (v := .ref (b 8)) (fun w H => List.mem_cons_of_mem _ (List.mem_append_left _ (List.mem_append_right _ H))) (hc := (rfl : vwCl[2]? = some (RX2, TX2, 12))) 0 11 (by decide) (List.mem_of_getElem? (i := 1) rfl) rfl rfl dX2_trustSpread_38 ?_
      refine V.iload 1 rfl dX2_trustSpread_41 ?_
      refine V.iload_n 4 rfl dX2_trustSpread_43 rfl ?_
      refine V.callVf (ws2 := SW g b z) (st2 := [.int ((sg z 216 32) (i * 8 + f)), .int s.1]) [.int (nI i), .int (nI f)] [.int s.1] (kX3_at g (b 8) (b 9) 8 32 (sg z 216 32) i f (by first | omega | decide) (by first | omega | decide) (by first | omega | decide) (by first | omega | decide)) gX2_trustSpread_X3_at rfl (by show _ ∧ _ ∧ _ ∧ _ = some (2 : Nat); decide +kernel) ⟨Nat.le_of_ble_eq_true rfl, Nat.le_of_ble_eq_true rfl⟩ (hc := (rfl : vwCl[3]? = some (RX3, TX3, 2))) 8 rfl [8, 9] (by decide) rfl rfl (Nat.le_of_ble_eq_true rfl) ⟨Nat.le_of_ble_eq_true rfl, Nat.le_of_ble_eq_true rfl⟩ dX2_trustSpread_44 TWf rfl rfl rfl rfl ?_
      rw [sg_r (z := z) (o := 216) (n := 32) (r := i) (C := 8) (k := f) (by omega)]
      refine V.mmax (by decide +kernel) (by decide +kernel) (by decide +kernel) (by decide +kernel) (Nat.le_of_ble_eq_true rfl) (Nat.le_of_ble_eq_true rfl) (Nat.le_of_ble_eq_true rfl) (Nat.le_of_ble_eq_true rfl) dX2_trustSpread_47 ?_
      rw [mx_eq (x := s.1)]
      refine V.istore_n (lv2 := [(3, .int (if z (216 + 8 * i + f) ≤ s.1 then s.1 else z (216 + 8 * i + f))), (2, .int (if s.2 ≤ z (216 + 8 * i + f) then s.2 else z (216 + 8 * i + f))), (4, .int (nI i)), (0, .ref (b 0)), (1, .int (nI f))]) dX2_trustSpread_50 rfl (by decide) rfl ?_
      refine V.iinc (v := nI (i + 1)) (lv2 := [(4, .int (nI (i + 1))), (3, .int (if z (216 + 8 * i + f) ≤ s.1 then s.1 else z (216 + 8 * i + f))), (2, .int (if s.2 ≤ z (216 + 8 * i + f) then s.2 else z (216 + 8 * i + f))), (0, .ref (b 0)), (1, .int (nI f))]) 2 rfl dX2_trustSpread_51 (nI_add i 1) (by decide) rfl ?_
      refine V.goto (tgt := 15) dX2_trustSpread_54 (by decide) ?_
      refine V.eqlv (lv2 := [(4, .int (nI (i + 1))), (3, .int (if z (216 + 8 * i + f) ≤ s.1 then s.1 else z (216 + 8 * i + f))), (2, .int (if s.2 ≤ z (216 + 8 * i + f) then s.2 else z (216 + 8 * i + f))), (0, .ref (b 0)), (1, .int (nI f))]) [0, 1, 2, 3, 4] rfl ?_
      exact ih (i + 1) (dcF z f i s) (by omega) hfu
  refine V.eqlv (lv2 := [(4, .int 1), (3, .int (z (216 + 8 * 0 + f))), (2, .int (z (216 + 8 * 0 + f))), (0, .ref (b 0)), (1, .int (nI f))]) [0, 1, 2, 3, 4] rfl ?_
  exact L15 3 1 (z (216 + 8 * 0 + f), z (216 + 8 * 0 + f)) (by omega) rfl
abbrev rmX2_stockedKinds : Room := { frames := 1, cells := 0, slots := 0, locals := 24 }
set_option maxHeartbeats 4000000 in
set_option maxRecDepth 100000 in
theorem kX2_stockedKinds (g : GT) (b : Nat → Nat) (z : Nat → Int32) (hF : z 5 = nI (nf z)) (hF8 : nf z ≤ 8) : UC g yX2_stockedKinds wsX2_stockedKinds rmX2_stockedKinds [.ref (b 0)] (SW g b z) (Qf (some (.int (skM z))) (SW g b z)) := by
  refine UC.ofV (cc := cX2_stockedKinds) (maxL := 3) (ret := some .int) (lv0 := [(0, .ref (b 0))]) (by decide) rfl (Nat.le_of_ble_eq_true rfl) rfl ?_
  generalize hQF : QFr g rmX2_stockedKinds (Qf (some (.int (skM z))) (SW g b z)) = QF
  have hq : QFok g rmX2_stockedKinds (Qf (some (.int (skM z))) (SW g b z)) QF := hQF ▸ QFr.q
  refine V.iconst (v := 0) dX2_stockedKinds_0 (by decide) ?_
  refine V.istore_n (lv2 := [(1, .int 0), (0, .ref (b 0))]) dX2_stockedKinds_1 rfl (by decide) rfl ?_
  refine V.iconst (v := 0) dX2_stockedKinds_2 (by decide) ?_
  refine V.istore_n (lv2 := [(2, .int 0), (1, .int 0), (0, .ref (b 0))]) dX2_stockedKinds_3 rfl (by decide) rfl ?_
  have L4 : ∀ (kL : Nat) (i : Nat) (m : Int32), i + kL = nf z → (fu (skF z) i kL m = skM z) → V g rmX2_stockedKinds RX2 cX2_stockedKinds wsX2_stockedKinds 3 QF (XM (some .int) "stockedKinds") 0 0 (SW g b z) 4 [(2, .int (nI i)), (1, .int m), (0, .ref (b 0))] [] := by
    intro kL
    induction kL with
    | zero =>
      intro i m hrel hfu
      rw [fu_0] at hfu
      refine V.iload_n 0 rfl dX2_stockedKinds_4 rfl ?_
      refine V.aload_n 2 rfl dX2_stockedKinds_5 rfl ?_
      refine V.get (v := .int (z 5)) (fun w H => List.mem_cons_of_mem _ (List.mem_append_left _ (List.mem_append_right _ H))) (hc := (rfl : vwCl[2]? = some (RX2, TX2, 12))) 0 0 (by decide) (List.mem_of_getElem? (i := 1) rfl) rfl rfl dX2_stockedKinds_6 ?_
      rw [hF]
      refine V.icmp_ge_t (tgt := 44) (by exact nI_le (a := nf z) (b := i) (by omega) (by omega)) dX2_stockedKinds_9 (by decide) ?_
      refine V.iload_n 1 rfl dX2_stockedKinds_44 rfl ?_
      exact V.iret hq XM.r (Nat.le_of_ble_eq_true rfl) (Nat.le_of_ble_eq_true rfl) ⟨by rw [← hfu] <;> rfl, rfl⟩ dX2_stockedKinds_45
    | succ kL ih =>
      intro i m hrel hfu
      rw [fu_s] at hfu
      refine V.iload_n 0 rfl dX2_stockedKinds_4 rfl ?_
      refine V.aload_n 2 rfl dX2_stockedKinds_5 rfl ?_
      refine V.get (v := .int (z 5)) (fun w H => List.mem_cons_of_mem _ (List.mem_append_left _ (List.mem_append_right _ H))) (hc := (rfl : vwCl[2]? = some (RX2, TX2, 12))) 0 0 (by decide) (List.mem_of_getElem? (i := 1) rfl) rfl rfl dX2_stockedKinds_6 ?_
      rw [hF]
      refine V.icmp_ge_f (tgt := 44) (by exact nI_ge (a := i) (b := nf z) (by omega) (by omega)) dX2_stockedKinds_9 (by decide) ?_
      refine V.aload_n 2 rfl dX2_stockedKinds_12 rfl ?_
      refine V.get (v := .ref (b 2)) (fun w H => List.mem_cons_of_mem _ (List.mem_append_left _ (List.mem_append_right _ H))) (hc := (rfl : vwCl[2]? = some (RX2, TX2, 12))) 0 8 (by decide) (List.mem_of_getElem? (i := 2) rfl) rfl rfl dX2_stockedKinds_13 ?_
      refine V.iload_n 0 rfl dX2_stockedKinds_16 rfl ?_
      refine V.iconst (v := 2) dX2_stockedKinds_17 (by decide) ?_
      refine V.callVf (ws2 := SW g b z) (st2 := [.int ((sg z 12 64) (i * 8 + 2))]) [.int (nI i), .int 2] [] (kX3_at g (b 2) (b 3) 8 64 (sg z 12 64) i 2 (by first | omega | decide) (by first | omega | decide) (by first | omega | decide) (by first | omega | decide)) gX2_stockedKinds_X3_at rfl (by show _ ∧ _ ∧ _ ∧ _ = some (2 : Nat); decide +kernel) ⟨Nat.le_of_ble_eq_true rfl, Nat.le_of_ble_eq_true rfl⟩ (hc := (rfl : vwCl[3]? = some (RX3, TX3, 2))) 2 rfl [2, 3] (by decide) rfl rfl (Nat.le_of_ble_eq_true rfl) ⟨Nat.le_of_ble_eq_true rfl, Nat.le_of_ble_eq_true rfl⟩ dX2_stockedKinds_18 TWf rfl rfl rfl rfl ?_
      rw [sg_r (z := z) (o := 12) (n := 64) (r := i) (C := 8) (k := 2) (by omega)]
      refine V.if_le (tgt := 38) dX2_stockedKinds_21 (by decide) (fun c21 => ?_) (fun c21 => ?_)
      · skip
        refine V.iinc (v := nI (i + 1)) (lv2 := [(2, .int (nI (i + 1))), (1, .int m), (0, .ref (b 0))]) 0 rfl dX2_stockedKinds_38 (nI_add i 1) (by decide) rfl ?_
        refine V.goto (tgt := 4) dX2_stockedKinds_41 (by decide) ?_
        refine V.eqlv (lv2 := [(2, .int (nI (i + 1))), (1, .int m), (0, .ref (b 0))]) [0, 1, 2] rfl ?_
        exact ih (i + 1) (m) (by omega) (by rw [← hfu, skF, if_pos c21])
      · skip
        refine V.iload_n 1 rfl dX2_stockedKinds_24 rfl ?_
        refine V.iconst (v := 1) dX2_stockedKinds_25 (by decide) ?_
        refine V.aload_n 2 rfl dX2_stockedKinds_26 rfl ?_
        refine V.get (v := .ref (b 2)) (fun w H => List.mem_cons_of_mem _ (List.mem_append_left _ (List.mem_append_right _ H))) (hc := (rfl : vwCl[2]? = some (RX2, TX2, 12))) 0 8 (by decide) (List.mem_of_getElem? (i := 2) rfl) rfl rfl dX2_stockedKinds_27 ?_
        refine V.iload_n 0 rfl dX2_stockedKinds_30 rfl ?_
        refine V.iconst (v := 1) dX2_stockedKinds_31 (by decide) ?_
        refine V.callVf (ws2 := SW g b z) (st2 := [.int ((sg z 12 64) (i * 8 + 1)), .int 1, .int m]) [.int (nI i), .int 1] [.int 1, .int m] (kX3_at g (b 2) (b 3) 8 64 (sg z 12 64) i 1 (by first | omega | decide) (by first | omega | decide) (by first | omega | decide) (by first | omega | decide)) gX2_stockedKinds_X3_at rfl (by show _ ∧ _ ∧ _ ∧ _ = some (2 : Nat); decide +kernel) ⟨Nat.le_of_ble_eq_true rfl, Nat.le_of_ble_eq_true rfl⟩ (hc := (rfl : vwCl[3]? = some (RX3, TX3, 2))) 2 rfl [2, 3] (by decide) rfl rfl (Nat.le_of_ble_eq_true rfl) ⟨Nat.le_of_ble_eq_true rfl, Nat.le_of_ble_eq_true rfl⟩ dX2_stockedKinds_32 TWf rfl rfl rfl rfl ?_
        rw [sg_r (z := z) (o := 12) (n := 64) (r := i) (C := 8) (k := 1) (by omega)]
        refine V.ishl dX2_stockedKinds_35 ?_
        refine V.ior dX2_stockedKinds_36 ?_
        refine V.istore_n (lv2 := [(1, .int (m ||| (1 <<< (z (12 + 8 * i + 1) &&& 31)))), (2, .int (nI i)), (0, .ref (b 0))]) dX2_stockedKinds_37 rfl (by decide) rfl ?_
        refine V.iinc (v := nI (i + 1)) (lv2 := [(2, .int (nI (i + 1))), (1, .int (m ||| (1 <<< (z (12 + 8 * i + 1) &&& 31)))), (0, .ref (b 0))]) 1 rfl dX2_stockedKinds_38 (nI_add i 1) (by decide) rfl ?_
        refine V.goto (tgt := 4) dX2_stockedKinds_41 (by decide) ?_
        refine V.eqlv (lv2 := [(2, .int (nI (i + 1))), (1, .int (m ||| (1 <<< (z (12 + 8 * i + 1) &&& 31)))), (0, .ref (b 0))]) [0, 1, 2] rfl ?_
        exact ih (i + 1) (m ||| (1 <<< (z (12 + 8 * i + 1) &&& 31))) (by omega) (by rw [← hfu, skF, if_neg c21])
  refine V.eqlv (lv2 := [(2, .int 0), (1, .int 0), (0, .ref (b 0))]) [0, 1, 2] rfl ?_
  exact L4 (nf z) 0 0 (by omega) rfl
abbrev rmX2_newFeeder : Room := { frames := 1, cells := 0, slots := 0, locals := 25 }
set_option maxHeartbeats 4000000 in
set_option maxRecDepth 100000 in
theorem kX2_newFeeder (g : GT) (b : Nat → Nat) (z : Nat → Int32) (x : Int32) (k : Int32) (p : Int32) (m : Int32) (t : Int32) (hF : z 5 = nI (nf z)) (hF8 : nf z < 8) : UC g yX2_newFeeder wsX2_newFeeder rmX2_newFeeder [.ref (b 0), .int x, .int k, .int p, .int m, .int t] (SW g b z) (Qf (some (.int (nI (nf z)))) (SW g b (nfI z x k p m t))) := by
  refine UC.ofV (cc := cX2_newFeeder) (maxL := 8) (ret := some .int) (lv0 := [(0, .ref (b 0)), (1, .int x), (2, .int k), (3, .int p), (4, .int m), (5, .int t)]) (by decide) rfl (Nat.le_of_ble_eq_true rfl) rfl ?_
  generalize hQF : QFr g rmX2_newFeeder (Qf (some (.int (nI (nf z)))) (SW g b (nfI z x k p m t))) = QF
  have hq : QFok g rmX2_newFeeder (Qf (some (.int (nI (nf z)))) (SW g b (nfI z x k p m t))) QF := hQF ▸ QFr.q
  refine V.aload_n 0 rfl dX2_newFeeder_0 rfl ?_
  refine V.get (v := .int (z 5)) (fun w H => List.mem_cons_of_mem _ (List.mem_append_left _ (List.mem_append_right _ H))) (hc := (rfl : vwCl[2]? = some (RX2, TX2, 12))) 0 0 (by decide) (List.mem_of_getElem? (i := 1) rfl) rfl rfl dX2_newFeeder_1 ?_
  rw [hF]
  refine V.istore (lv2 := [(6, .int (nI (nf z))), (0, .ref (b 0)), (1, .int x), (2, .int k), (3, .int p), (4, .int m), (5, .int t)]) dX2_newFeeder_4 (by decide) rfl ?_
  refine V.aload_n 1 rfl dX2_newFeeder_6 rfl ?_
  refine V.get (v := .ref (b 2)) (fun w H => List.mem_cons_of_mem _ (List.mem_append_left _ (List.mem_append_right _ H))) (hc := (rfl : vwCl[2]? = some (RX2, TX2, 12))) 0 8 (by decide) (List.mem_of_getElem? (i := 2) rfl) rfl rfl dX2_newFeeder_7 ?_
  refine V.iload 0 rfl dX2_newFeeder_10 ?_
  refine V.iconst (v := 0) dX2_newFeeder_12 (by decide) ?_
  refine V.iload_n 2 rfl dX2_newFeeder_13 rfl ?_
  refine V.callVf (ws2 := SW g b (upd z (12 + 8 * (nf z) + 0) x)) (st2 := []) [.int (nI (nf z)), .int 0, .int x] [] (kX3_put g (b 2) (b 3) 8 64 (sg z 12 64) (nf z) 0 x (by first | omega | decide) (by first | omega | decide) (by first | omega | decide) (by first | omega | decide)) gX2_newFeeder_X3_put rfl (by show _ ∧ _ ∧ _ ∧ _ = some (3 : Nat); decide +kernel) ⟨Nat.le_of_ble_eq_true rfl, Nat.le_of_ble_eq_true rfl⟩ (hc := (rfl : vwCl[3]? = some (RX3, TX3, 2))) 2 rfl [2, 3] (by decide) rfl rfl (Nat.le_of_ble_eq_true rfl) ⟨Nat.le_of_ble_eq_true rfl, Nat.le_of_ble_eq_true rfl⟩ dX2_newFeeder_14 TWf (SW_f (g := g) (b := b) (z := z) (v := x) (r := (nf z)) (k := 0) (by omega)) rfl rfl rfl ?_
  refine V.aload_n 1 rfl dX2_newFeeder_17 rfl ?_
  refine V.get (v := .ref (b 2)) (fun w H => List.mem_cons_of_mem _ (List.mem_append_left _ (List.mem_append_right _ H))) (hc := (rfl : vwCl[2]? = some (RX2, TX2, 12))) 0 8 (by decide) (List.mem_of_getElem? (i := 2) rfl) rfl rfl dX2_newFeeder_18 ?_
  refine V.iload 0 rfl dX2_newFeeder_21 ?_
  refine V.iconst (v := 1) dX2_newFeeder_23 (by decide) ?_
  refine V.iload_n 3 rfl dX2_newFeeder_24 rfl ?_
  refine V.callVf (ws2 := SW g b (upd (upd z (12 + 8 * (nf z) + 0) x) (12 + 8 * (nf z) + 1) k)) (st2 := []) [.int (nI (nf z)), .int 1, .int k] [] (kX3_put g (b 2) (b 3) 8 64 (sg (upd z (12 + 8 * (nf z) + 0) x) 12 64) (nf z) 1 k (by first | omega | decide) (by first | omega | decide) (by first | omega | decide) (by first | omega | decide)) gX2_newFeeder_X3_put rfl (by show _ ∧ _ ∧ _ ∧ _ = some (3 : Nat); decide +kernel) ⟨Nat.le_of_ble_eq_true rfl, Nat.le_of_ble_eq_true rfl⟩ (hc := (rfl : vwCl[3]? = some (RX3, TX3, 2))) 2 rfl [2, 3] (by decide) rfl rfl (Nat.le_of_ble_eq_true rfl) ⟨Nat.le_of_ble_eq_true rfl, Nat.le_of_ble_eq_true rfl⟩ dX2_newFeeder_25 TWf (SW_f (g := g) (b := b) (z := (upd z (12 + 8 * (nf z) + 0) x)) (v := k) (r := (nf z)) (k := 1) (by omega)) rfl rfl rfl ?_
  refine V.aload_n 1 rfl dX2_newFeeder_28 rfl ?_
  refine V.get (v := .ref (b 2)) (fun w H => List.mem_cons_of_mem _ (List.mem_append_left _ (List.mem_append_right _ H))) (hc := (rfl : vwCl[2]? = some (RX2, TX2, 12))) 0 8 (by decide) (List.mem_of_getElem? (i := 2) rfl) rfl rfl dX2_newFeeder_29 ?_
  refine V.iload 0 rfl dX2_newFeeder_32 ?_
  refine V.iconst (v := 2) dX2_newFeeder_34 (by decide) ?_
  refine V.iload_n 4 rfl dX2_newFeeder_35 rfl ?_
  refine V.callVf (ws2 := SW g b (upd (upd (upd z (12 + 8 * (nf z) + 0) x) (12 + 8 * (nf z) + 1) k) (12 + 8 * (nf z) + 2) p)) (st2 := []) [.int (nI (nf z)), .int 2, .int p] [] (kX3_put g (b 2) (b 3) 8 64 (sg (upd (upd z (12 + 8 * (nf z) + 0) x) (12 + 8 * (nf z) + 1) k) 12 64) (nf z) 2 p (by first | omega | decide) (by first | omega | decide) (by first | omega | decide) (by first | omega | decide)) gX2_newFeeder_X3_put rfl (by show _ ∧ _ ∧ _ ∧ _ = some (3 : Nat); decide +kernel) ⟨Nat.le_of_ble_eq_true rfl, Nat.le_of_ble_eq_true rfl⟩ (hc := (rfl : vwCl[3]? = some (RX3, TX3, 2))) 2 rfl [2, 3] (by decide) rfl rfl (Nat.le_of_ble_eq_true rfl) ⟨Nat.le_of_ble_eq_true rfl, Nat.le_of_ble_eq_true rfl⟩ dX2_newFeeder_36 TWf (SW_f (g := g) (b := b) (z := (upd (upd z (12 + 8 * (nf z) + 0) x) (12 + 8 * (nf z) + 1) k)) (v := p) (r := (nf z)) (k := 2) (by omega)) rfl rfl rfl ?_
  refine V.aload_n 1 rfl dX2_newFeeder_39 rfl ?_
  refine V.get (v := .ref (b 2)) (fun w H => List.mem_cons_of_mem _ (List.mem_append_left _ (List.mem_append_right _ H))) (hc := (rfl : vwCl[2]? = some (RX2, TX2, 12))) 0 8 (by decide) (List.mem_of_getElem? (i := 2) rfl) rfl rfl dX2_newFeeder_40 ?_
  refine V.iload 0 rfl dX2_newFeeder_43 ?_
  refine V.iconst (v := 3) dX2_newFeeder_45 (by decide) ?_
  refine V.iload 5 rfl dX2_newFeeder_46 ?_
  refine V.callVf (ws2 := SW g b (upd (upd (upd (upd z (12 + 8 * (nf z) + 0) x) (12 + 8 * (nf z) + 1) k) (12 + 8 * (nf z) + 2) p) (12 + 8 * (nf z) + 3) m)) (st2 := []) [.int (nI (nf z)), .int 3, .int m] [] (kX3_put g (b 2) (b 3) 8 64 (sg (upd (upd (upd z (12 + 8 * (nf z) + 0) x) (12 + 8 * (nf z) + 1) k) (12 + 8 * (nf z) + 2) p) 12 64) (nf z) 3 m (by first | omega | decide) (by first | omega | decide) (by first | omega | decide) (by first | omega | decide)) gX2_newFeeder_X3_put rfl (by show _ ∧ _ ∧ _ ∧ _ = some (3 : Nat); decide +kernel) ⟨Nat.le_of_ble_eq_true rfl, Nat.le_of_ble_eq_true rfl⟩ (hc := (rfl : vwCl[3]? = some (RX3, TX3, 2))) 2 rfl [2, 3] (by decide) rfl rfl (Nat.le_of_ble_eq_true rfl) ⟨Nat.le_of_ble_eq_true rfl, Nat.le_of_ble_eq_true rfl⟩ dX2_newFeeder_48 TWf (SW_f (g := g) (b := b) (z := (upd (upd (upd z (12 + 8 * (nf z) + 0) x) (12 + 8 * (nf z) + 1) k) (12 + 8 * (nf z) + 2) p)) (v := m) (r := (nf z)) (k := 3) (by omega)) rfl rfl rfl ?_
  refine V.aload_n 1 rfl dX2_newFeeder_51 rfl ?_
  refine V.get (v := .ref (b 2)) (fun w H => List.mem_cons_of_mem _ (List.mem_append_left _ (List.mem_append_right _ H))) (hc := (rfl : vwCl[2]? = some (RX2, TX2, 12))) 0 8 (by decide) (List.mem_of_getElem? (i := 2) rfl) rfl rfl dX2_newFeeder_52 ?_
  refine V.iload 0 rfl dX2_newFeeder_55 ?_
  refine V.iconst (v := 4) dX2_newFeeder_57 (by decide) ?_
  refine V.iload 6 rfl dX2_newFeeder_58 ?_
  refine V.callVf (ws2 := SW g b (upd (upd (upd (upd (upd z (12 + 8 * (nf z) + 0) x) (12 + 8 * (nf z) + 1) k) (12 + 8 * (nf z) + 2) p) (12 + 8 * (nf z) + 3) m) (12 + 8 * (nf z) + 4) t)) (st2 := []) [.int (nI (nf z)), .int 4, .int t] [] (kX3_put g (b 2) (b 3) 8 64 (sg (upd (upd (upd (upd z (12 + 8 * (nf z) + 0) x) (12 + 8 * (nf z) + 1) k) (12 + 8 * (nf z) + 2) p) (12 + 8 * (nf z) + 3) m) 12 64) (nf z) 4 t (by first | omega | decide) (by first | omega | decide) (by first | omega | decide) (by first | omega | decide)) gX2_newFeeder_X3_put rfl (by show _ ∧ _ ∧ _ ∧ _ = some (3 : Nat); decide +kernel) ⟨Nat.le_of_ble_eq_true rfl, Nat.le_of_ble_eq_true rfl⟩ (hc := (rfl : vwCl[3]? = some (RX3, TX3, 2))) 2 rfl [2, 3] (by decide) rfl rfl (Nat.le_of_ble_eq_true rfl) ⟨Nat.le_of_ble_eq_true rfl, Nat.le_of_ble_eq_true rfl⟩ dX2_newFeeder_60 TWf (SW_f (g := g) (b := b) (z := (upd (upd (upd (upd z (12 + 8 * (nf z) + 0) x) (12 + 8 * (nf z) + 1) k) (12 + 8 * (nf z) + 2) p) (12 + 8 * (nf z) + 3) m)) (v := t) (r := (nf z)) (k := 4) (by omega)) rfl rfl rfl ?_
  refine V.eqws (ws2 := SW g b (nfA z x k p m t)) rfl ?_
  refine V.iconst (v := 0) dX2_newFeeder_63 (by decide) ?_
  refine V.istore (lv2 := [(7, .int 0), (6, .int (nI (nf z))), (0, .ref (b 0)), (1, .int x), (2, .int k), (3, .int p), (4, .int m), (5, .int t)]) dX2_newFeeder_64 (by decide) rfl ?_
  have L66 : ∀ (kL : Nat) (i : Nat) (y : Nat → Int32), i + kL = 4 → (fu (afT (nf z)) i kL y = nfB z x k p m t) → V g rmX2_newFeeder RX2 cX2_newFeeder wsX2_newFeeder 8 QF (XM (some .int) "newFeeder") 0 0 (SW g b y) 66 [(7, .int (nI i)), (6, .int (nI (nf z))), (0, .ref (b 0)), (1, .int x), (2, .int k), (3, .int p), (4, .int m), (5, .int t)] [] := by
    intro kL
    induction kL with
    | zero =>
      intro i y hrel hfu
      rw [fu_0] at hfu
      refine V.iload 0 rfl dX2_newFeeder_66 ?_
      refine V.iconst (v := 4) dX2_newFeeder_68 (by decide) ?_
      refine V.icmp_ge_t (tgt := 91) (by rw [show i = 4 from by omega]; decide) dX2_newFeeder_69 (by decide) ?_
      refine V.aload_n 2 rfl dX2_newFeeder_91 rfl ?_
      refine V.dup dX2_newFeeder_92 rfl ?_
      refine V.get (v := .int (y 5)) (fun w H => List.mem_cons_of_mem _ (List.mem_append_left _ (List.mem_append_right _ H))) (hc := (rfl : vwCl[2]? = some (RX2, TX2, 12))) 0 0 (by decide) (List.mem_of_getElem? (i := 1) rfl) rfl rfl dX2_newFeeder_93 ?_
      refine V.iconst (v := 1) dX2_newFeeder_96 (by decide) ?_
      refine V.iadd dX2_newFeeder_97 ?_
      refine V.put (v := .int ((y 5) + 1)) (ws2 := SW g b (upd y 5 ((y 5) + 1))) (fun w H => List.mem_cons_of_mem _ (List.mem_append_left _ (List.mem_append_right _ H))) tyX2 tyX2_ok nmX2 (hc := (rfl : vwCl[2]? = some (RX2, TX2, 12))) 0 0 (by decide) (List.mem_of_getElem? (i := 1) rfl) rfl rfl (tyX2_ok 0 (by decide)) rfl rfl (Nat.le_of_ble_eq_true rfl) (SW_5 (g := g) (b := b) (z := y) (v := (y 5) + 1)) dX2_newFeeder_98 ?_
      refine V.iload 1 rfl dX2_newFeeder_101 ?_
      exact V.iret hq XM.r (Nat.le_of_ble_eq_true rfl) (Nat.le_of_ble_eq_true rfl) ⟨rfl, by rw [nfI, ← hfu] <;> rfl⟩ dX2_newFeeder_103
    | succ kL ih =>
      intro i y hrel hfu
      rw [fu_s] at hfu
      refine V.iload 0 rfl dX2_newFeeder_66 ?_
      refine V.iconst (v := 4) dX2_newFeeder_68 (by decide) ?_
      refine V.icmp_ge_f (tgt := 91) (by exact nI_ge (a := i) (b := 4) (by omega) (by decide)) dX2_newFeeder_69 (by decide) ?_
      refine V.aload_n 2 rfl dX2_newFeeder_72 rfl ?_
      refine V.get (v := .ref (b 8)) (fun w H => List.mem_cons_of_mem _ (List.mem_append_left _ (List.mem_append_right _ H))) (hc := (rfl : vwCl[2]? = some (RX2, TX2, 12))) 0 11 (by decide) (List.mem_of_getElem? (i := 3) rfl) rfl rfl dX2_newFeeder_73 ?_
      refine V.iload 0 rfl dX2_newFeeder_76 ?_
      refine V.iload 1 rfl dX2_newFeeder_78 ?_
      refine V.bipush (v := 50) dX2_newFeeder_80 (by decide) ?_
      refine V.callVf (ws2 := SW g b (upd y (216 + 8 * i + (nf z)) (50 : Int32))) (st2 := []) [.int (nI i), .int (nI (nf z)), .int 50] [] (kX3_put g (b 8) (b 9) 8 32 (sg y 216 32) i (nf z) (50 : Int32) (by first | omega | decide) (by first | omega | decide) (by first | omega | decide) (by first | omega | decide)) gX2_newFeeder_X3_put rfl (by show _ ∧ _ ∧ _ ∧ _ = some (3 : Nat); decide +kernel) ⟨Nat.le_of_ble_eq_true rfl, Nat.le_of_ble_eq_true rfl⟩ (hc := (rfl : vwCl[3]? = some (RX3, TX3, 2))) 8 rfl [8, 9] (by decide) rfl rfl (Nat.le_of_ble_eq_true rfl) ⟨Nat.le_of_ble_eq_true rfl, Nat.le_of_ble_eq_true rfl⟩ dX2_newFeeder_82 TWf (SW_t (g := g) (b := b) (z := y) (v := (50 : Int32)) (r := i) (k := (nf z)) (by omega)) rfl rfl rfl ?_
      refine V.iinc (v := nI (i + 1)) (lv2 := [(7, .int (nI (i + 1))), (6, .int (nI (nf z))), (0, .ref (b 0)), (1, .int x), (2, .int k), (3, .int p), (4, .int m), (5, .int t)]) 0 rfl dX2_newFeeder_85 (nI_add i 1) (by decide) rfl ?_
      refine V.goto (tgt := 66) dX2_newFeeder_88 (by decide) ?_
      refine V.eqlv (lv2 := [(7, .int (nI (i + 1))), (6, .int (nI (nf z))), (0, .ref (b 0)), (1, .int x), (2, .int k), (3, .int p), (4, .int m), (5, .int t)]) [0, 1, 2, 3, 4, 5, 6, 7] rfl ?_
      exact ih (i + 1) (afT (nf z) i y) (by omega) hfu
  refine V.eqlv (lv2 := [(7, .int 0), (6, .int (nI (nf z))), (0, .ref (b 0)), (1, .int x), (2, .int k), (3, .int p), (4, .int m), (5, .int t)]) [0, 1, 2, 3, 4, 5, 6, 7] rfl ?_
  exact L66 4 0 (nfA z x k p m t) (by omega) rfl
abbrev rmX3_copyFrom : Room := { frames := 1, cells := 0, slots := 0, locals := 60 }
set_option maxHeartbeats 4000000 in
set_option maxRecDepth 100000 in
theorem kX3_copyFrom (g : GT) (t : Nat) (c : Nat) (C : Nat) (L : Nat) (f : Nat → Int32) (t2 : Nat) (c2 : Nat) (C2 : Nat) (f2 : Nat → Int32) (hL : L < 2147483648) : UC g yX3_copyFrom wsX3_copyFrom rmX3_copyFrom [.ref t, .ref t2] ((TW g t c C L f) ++ (TW g t2 c2 C2 L f2)) (Qf (none) ((TW g t c C L (va_cpy f2 f 0 0 L)) ++ (TW g t2 c2 C2 L f2))) := by
  refine UC.ofV (cc := cX3_copyFrom) (maxL := 2) (ret := none) (lv0 := [(0, .ref t), (1, .ref t2)]) (by decide) rfl (Nat.le_of_ble_eq_true rfl) rfl ?_
  generalize hQF : QFr g rmX3_copyFrom (Qf (none) ((TW g t c C L (va_cpy f2 f 0 0 L)) ++ (TW g t2 c2 C2 L f2))) = QF
  have hq : QFok g rmX3_copyFrom (Qf (none) ((TW g t c C L (va_cpy f2 f 0 0 L)) ++ (TW g t2 c2 C2 L f2))) QF := hQF ▸ QFr.q
  refine V.aload_n 1 rfl dX3_copyFrom_0 rfl ?_
  refine V.get (v := .ref c2) (fun w H => List.mem_cons_of_mem _ (List.mem_append_right _ H)) (hc := (rfl : vwCl[3]? = some (RX3, TX3, 2))) 2 0 (by decide) (List.mem_of_getElem? (i := 1) rfl) rfl rfl dX3_copyFrom_1 ?_
  refine V.iconst (v := 0) dX3_copyFrom_4 (by decide) ?_
  refine V.aload_n 0 rfl dX3_copyFrom_5 rfl ?_
  refine V.get (v := .ref c) (fun w H => List.mem_cons_of_mem _ (List.mem_append_right _ H)) (hc := (rfl : vwCl[3]? = some (RX3, TX3, 2))) 0 0 (by decide) (List.mem_of_getElem? (i := 1) rfl) rfl rfl dX3_copyFrom_6 ?_
  refine V.iconst (v := 0) dX3_copyFrom_9 (by decide) ?_
  refine V.aload_n 1 rfl dX3_copyFrom_10 rfl ?_
  refine V.get (v := .ref c2) (fun w H => List.mem_cons_of_mem _ (List.mem_append_right _ H)) (hc := (rfl : vwCl[3]? = some (RX3, TX3, 2))) 2 0 (by decide) (List.mem_of_getElem? (i := 1) rfl) rfl rfl dX3_copyFrom_11 ?_
  refine V.alen (t := 0) (v := nI L) 3 rfl rfl rfl dX3_copyFrom_14 ?_
  refine V.aload_n 0 rfl dX3_copyFrom_15 rfl ?_
  refine V.get (v := .ref c) (fun w H => List.mem_cons_of_mem _ (List.mem_append_right _ H)) (hc := (rfl : vwCl[3]? = some (RX3, TX3, 2))) 0 0 (by decide) (List.mem_of_getElem? (i := 1) rfl) rfl rfl dX3_copyFrom_16 ?_
  refine V.alen (t := 0) (v := nI L) 1 rfl rfl rfl dX3_copyFrom_19 ?_
  refine V.mmin (by decide +kernel) (by decide +kernel) (by decide +kernel) (by decide +kernel) (Nat.le_of_ble_eq_true rfl) (Nat.le_of_ble_eq_true rfl) (Nat.le_of_ble_eq_true rfl) (Nat.le_of_ble_eq_true rfl) dX3_copyFrom_20 ?_
  rw [ite_self]
  refine V.copyi (f := f2) (h := f) (ws2 := (TW g t c C L (va_cpy f2 f 0 0 L)) ++ (TW g t2 c2 C2 L f2)) (j := L) (by decide +kernel) (by decide +kernel) (by decide +kernel) (by decide +kernel) 3 1 rfl rfl rfl (by omega) (by omega) (by omega) (Nat.le_of_ble_eq_true rfl) (by decide +kernel) rfl dX3_copyFrom_23 ?_
  exact V.vret hq XM.r (Nat.le_of_ble_eq_true rfl) (Nat.le_of_ble_eq_true rfl) ⟨rfl, rfl⟩ dX3_copyFrom_26
