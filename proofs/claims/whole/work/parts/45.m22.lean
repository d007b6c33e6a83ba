abbrev rmX4_firstAim : Room := { frames := 1, cells := 0, slots := 0, locals := 24 }
set_option maxHeartbeats 4000000 in
set_option maxRecDepth 100000 in
theorem kX4_firstAim (g : GT) (b : Nat → Nat) (z : Nat → Int32) (m : Int32) (t : Int32) (hP : z 6 = nI (np z)) (hP24 : np z ≤ 24) : UC g yX4_firstAim wsX4_firstAim rmX4_firstAim [.ref (b 0), .int m, .int t] (SW g b z) (Qf (some (.int (en (fa z m t)))) (SW g b z)) := by
  refine UC.ofV (cc := cX4_firstAim) (maxL := 5) (ret := some .int) (lv0 := [(0, .ref (b 0)), (1, .int m), (2, .int t)]) (by decide) rfl (Nat.le_of_ble_eq_true rfl) rfl ?_
  generalize hQF : QFr g rmX4_firstAim (Qf (some (.int (en (fa z m t)))) (SW g b z)) = QF
  have hq : QFok g rmX4_firstAim (Qf (some (.int (en (fa z m t)))) (SW g b z)) QF := hQF ▸ QFr.q
  refine V.iconst (v := 0) dX4_firstAim_0 (by decide) ?_
  refine V.istore_n (lv2 := [(3, .int 0), (0, .ref (b 0)), (1, .int m), (2, .int t)]) dX4_firstAim_1 rfl (by decide) rfl ?_
  have L2 : ∀ (kL : Nat) (i : Nat), i + kL = np z → (ff (faP z m t) i kL = fa z m t) → V g rmX4_firstAim RX4 cX4_firstAim wsX4_firstAim 5 QF (XM (some .int) "firstAim") 0 0 (SW g b z) 2 [(3, .int (nI i)), (0, .ref (b 0)), (1, .int m), (2, .int t)] [] := by
    intro kL
    induction kL with
    | zero =>
      intro i hrel hfu
      refine V.iload_n 0 rfl dX4_firstAim_2 rfl ?_
      refine V.aload_n 1 rfl dX4_firstAim_3 rfl ?_
      refine V.get (v := .int (z 6)) (fun w H => List.mem_cons_of_mem _ (List.mem_append_left _ (List.mem_append_right _ H))) (hc := (rfl : vwCl[2]? = some (RX2, TX2, 12))) 0 1 (by decide) (List.mem_of_getElem? (i := 1) rfl) rfl rfl dX4_firstAim_4 ?_
      rw [hP]
      refine V.icmp_ge_t (tgt := 67) (by exact nI_le (a := np z) (b := i) (by omega) (by omega)) dX4_firstAim_7 (by decide) ?_
      refine V.iconst (v := -1) dX4_firstAim_67 (by decide) ?_
      exact V.iret hq XM.r (Nat.le_of_ble_eq_true rfl) (Nat.le_of_ble_eq_true rfl) ⟨by rw [← hfu, ff_0] <;> rfl, rfl⟩ dX4_firstAim_68
    | succ kL ih =>
      intro i hrel hfu
      refine V.iload_n 0 rfl dX4_firstAim_2 rfl ?_
      refine V.aload_n 1 rfl dX4_firstAim_3 rfl ?_
      refine V.get (v := .int (z 6)) (fun w H => List.mem_cons_of_mem _ (List.mem_append_left _ (List.mem_append_right _ H))) (hc := (rfl : vwCl[2]? = some (RX2, TX2, 12))) 0 1 (by decide) (List.mem_of_getElem? (i := 1) rfl) rfl rfl dX4_firstAim_4 ?_
      rw [hP]
      refine V.icmp_ge_f (tgt := 67) (by exact nI_ge (a := i) (b := np z) (by omega) (by omega)) dX4_firstAim_7 (by decide) ?_
      refine V.aload_n 1 rfl dX4_firstAim_10 rfl ?_
      refine V.get (v := .ref (b 4)) (fun w H => List.mem_cons_of_mem _ (List.mem_append_left _ (List.mem_append_right _ H))) (hc := (rfl : vwCl[2]? = some (RX2, TX2, 12))) 0 9 (by decide) (List.mem_of_getElem? (i := 2) rfl) rfl rfl dX4_firstAim_11 ?_
      refine V.iload_n 0 rfl dX4_firstAim_14 rfl ?_
      refine V.iconst (v := 2) dX4_firstAim_15 (by decide) ?_
      refine V.callVf (ws2 := SW g b z) (st2 := [.int ((sg z 76 120) (i * 5 + 2))]) [.int (nI i), .int 2] [] (kX3_at g (b 4) (b 5) 5 120 (sg z 76 120) i 2 (by first | omega | decide) (by first | omega | decide) (by first | omega | decide) (by first | omega | decide)) gX4_firstAim_X3_at rfl (by show _ ∧ _ ∧ _ ∧ _ = some (2 : Nat); decide +kernel) ⟨Nat.le_of_ble_eq_true rfl, Nat.le_of_ble_eq_true rfl⟩ (hc := (rfl : vwCl[3]? = some (RX3, TX3, 2))) 4 rfl [4, 5] (by decide) rfl rfl (Nat.le_of_ble_eq_true rfl) ⟨Nat.le_of_ble_eq_true rfl, Nat.le_of_ble_eq_true rfl⟩ dX4_firstAim_16 TWf rfl rfl rfl rfl ?_
      rw [sg_r (z := z) (o := 76) (n := 120) (r := i) (C := 5) (k := 2) (by omega)]
      refine V.if_ne (tgt := 34) dX4_firstAim_19 (by decide) (fun c19 => ?_) (fun c19 => ?_)
      · skip
        refine V.iconst (v := 0) dX4_firstAim_34 (by decide) ?_
        refine V.istore (lv2 := [(4, .int 0), (3, .int (nI i)), (0, .ref (b 0)), (1, .int m), (2, .int t)]) dX4_firstAim_35 (by decide) rfl ?_
        refine V.iload 0 rfl dX4_firstAim_37 ?_
        refine V.if_eq_t (tgt := 61) (by decide) dX4_firstAim_39 (by decide) ?_
        refine V.iinc (v := nI (i + 1)) (lv2 := [(3, .int (nI (i + 1))), (4, .int 0), (0, .ref (b 0)), (1, .int m), (2, .int t)]) 1 rfl dX4_firstAim_61 (nI_add i 1) (by decide) rfl ?_
        refine V.goto (tgt := 2) dX4_firstAim_64 (by decide) ?_
        refine V.eqlv (lv2 := [(3, .int (nI (i + 1))), (0, .ref (b 0)), (1, .int m), (2, .int t)]) [0, 2, 3, 4] rfl ?_
        exact ih (i + 1) (by omega) (by rw [← hfu, ff_s, if_neg (by rw [show faP z m t i = false from by rw [faP, decide_eq_false c19, Bool.false_and]]; decide)])
      · skip
        refine V.iload_n 3 rfl dX4_firstAim_22 rfl ?_
        refine V.iload_n 0 rfl dX4_firstAim_23 rfl ?_
        refine V.ishr dX4_firstAim_24 ?_
        refine V.iconst (v := 1) dX4_firstAim_25 (by decide) ?_
        refine V.iand dX4_firstAim_26 ?_
        refine V.if_ne (tgt := 34) dX4_firstAim_27 (by decide) (fun c27 => ?_) (fun c27 => ?_)
        · skip
          refine V.iconst (v := 0) dX4_firstAim_34 (by decide) ?_
          refine V.istore (lv2 := [(4, .int 0), (3, .int (nI i)), (0, .ref (b 0)), (1, .int m), (2, .int t)]) dX4_firstAim_35 (by decide) rfl ?_
          refine V.iload 0 rfl dX4_firstAim_37 ?_
          refine V.if_eq_t (tgt := 61) (by decide) dX4_firstAim_39 (by decide) ?_
          refine V.iinc (v := nI (i + 1)) (lv2 := [(3, .int (nI (i + 1))), (4, .int 0), (0, .ref (b 0)), (1, .int m), (2, .int t)]) 1 rfl dX4_firstAim_61 (nI_add i 1) (by decide) rfl ?_
          refine V.goto (tgt := 2) dX4_firstAim_64 (by decide) ?_
          refine V.eqlv (lv2 := [(3, .int (nI (i + 1))), (0, .ref (b 0)), (1, .int m), (2, .int t)]) [0, 2, 3, 4] rfl ?_
          exact ih (i + 1) (by omega) (by rw [← hfu, ff_s, if_neg (by rw [show faP z m t i = false from by rw [faP, decide_eq_true c19, decide_eq_false c27] <;> rfl]; decide)])
        · skip
          refine V.iconst (v := 1) dX4_firstAim_30 (by decide) ?_
          refine V.goto (tgt := 35) dX4_firstAim_31 (by decide) ?_
          refine V.istore (lv2 := [(4, .int 1), (3, .int (nI i)), (0, .ref (b 0)), (1, .int m), (2, .int t)]) dX4_firstAim_35 (by decide) rfl ?_
          refine V.iload 0 rfl dX4_firstAim_37 ?_
          refine V.if_eq_f (tgt := 61) (by decide) dX4_firstAim_39 (by decide) ?_
          refine V.iload_n 3 rfl dX4_firstAim_42 rfl ?_
          refine V.aload_n 2 rfl dX4_firstAim_43 rfl ?_
          refine V.get (v := .ref (b 4)) (fun w H => List.mem_cons_of_mem _ (List.mem_append_left _ (List.mem_append_right _ H))) (hc := (rfl : vwCl[2]? = some (RX2, TX2, 12))) 0 9 (by decide) (List.mem_of_getElem? (i := 2) rfl) rfl rfl dX4_firstAim_44 ?_
          refine V.iload_n 1 rfl dX4_firstAim_47 rfl ?_
          refine V.iconst (v := 1) dX4_firstAim_48 (by decide) ?_
          refine V.callVf (ws2 := SW g b z) (st2 := [.int ((sg z 76 120) (i * 5 + 1)), .int m]) [.int (nI i), .int 1] [.int m] (kX3_at g (b 4) (b 5) 5 120 (sg z 76 120) i 1 (by first | omega | decide) (by first | omega | decide) (by first | omega | decide) (by first | omega | decide)) gX4_firstAim_X3_at rfl (by show _ ∧ _ ∧ _ ∧ _ = some (2 : Nat); decide +kernel) ⟨Nat.le_of_ble_eq_true rfl, Nat.le_of_ble_eq_true rfl⟩ (hc := (rfl : vwCl[3]? = some (RX3, TX3, 2))) 4 rfl [4, 5] (by decide) rfl rfl (Nat.le_of_ble_eq_true rfl) ⟨Nat.le_of_ble_eq_true rfl, Nat.le_of_ble_eq_true rfl⟩ dX4_firstAim_49 TWf rfl rfl rfl rfl ?_
          rw [sg_r (z := z) (o := 76) (n := 120) (r := i) (C := 5) (k := 1) (by omega)]
          refine V.ishr dX4_firstAim_52 ?_
          refine V.iconst (v := 1) dX4_firstAim_53 (by decide) ?_
          refine V.iand dX4_firstAim_54 ?_
          refine V.iconst (v := 1) dX4_firstAim_55 (by decide) ?_
          refine V.icmp_ne (tgt := 61) dX4_firstAim_56 (by decide) (fun c56 => ?_) (fun c56 => ?_)
          · skip
            refine V.iinc (v := nI (i + 1)) (lv2 := [(3, .int (nI (i + 1))), (4, .int 1), (0, .ref (b 0)), (1, .int m), (2, .int t)]) 1 rfl dX4_firstAim_61 (nI_add i 1) (by decide) rfl ?_
            refine V.goto (tgt := 2) dX4_firstAim_64 (by decide) ?_
            refine V.eqlv (lv2 := [(3, .int (nI (i + 1))), (0, .ref (b 0)), (1, .int m), (2, .int t)]) [0, 2, 3, 4] rfl ?_
            exact ih (i + 1) (by omega) (by rw [← hfu, ff_s, if_neg (by rw [show faP z m t i = false from by rw [faP, decide_eq_true c19, decide_eq_true c27, decide_eq_false c56] <;> rfl]; decide)])
          · skip
            refine V.iload_n 1 rfl dX4_firstAim_59 rfl ?_
            exact V.iret hq XM.r (Nat.le_of_ble_eq_true rfl) (Nat.le_of_ble_eq_true rfl) ⟨by rw [← hfu, ff_s, if_pos (by rw [faP, decide_eq_true c19, decide_eq_true c27, decide_eq_true c56] <;> rfl)] <;> rfl, rfl⟩ dX4_firstAim_60
  refine V.eqlv (lv2 := [(3, .int 0), (0, .ref (b 0)), (1, .int m), (2, .int t)]) [0, 1, 2, 3] rfl ?_
  exact L2 (np z) 0 (by omega) rfl
