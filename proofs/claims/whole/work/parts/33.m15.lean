abbrev rmX2_takeOffWrong : Room := { frames := 2, cells := 0, slots := 0, locals := 48 }
set_option maxHeartbeats 4000000 in
set_option maxRecDepth 100000 in
theorem kX2_takeOffWrong (g : GT) (b : Nat → Nat) (z : Nat → Int32) (hP : z 6 = nI (np z)) (hP24 : np z ≤ 24) (hI : PI z) (hR : RT z) : UC g yX2_takeOffWrong wsX2_takeOffWrong rmX2_takeOffWrong [.ref (b 0)] (SW g b z) (Qf (some (.int ((inL z).2))) (SW g b (inZ z))) := by
  refine UC.ofV (cc := cX2_takeOffWrong) (maxL := 3) (ret := some .int) (lv0 := [(0, .ref (b 0))]) (by decide) rfl (Nat.le_of_ble_eq_true rfl) rfl ?_
  generalize hQF : QFr g rmX2_takeOffWrong (Qf (some (.int ((inL z).2))) (SW g b (inZ z))) = QF
  have hq : QFok g rmX2_takeOffWrong (Qf (some (.int ((inL z).2))) (SW g b (inZ z))) QF := hQF ▸ QFr.q
  refine V.iconst (v := 0) dX2_takeOffWrong_0 (by decide) ?_
  refine V.istore_n (lv2 := [(1, .int 0), (0, .ref (b 0))]) dX2_takeOffWrong_1 rfl (by decide) rfl ?_
  refine V.iconst (v := 0) dX2_takeOffWrong_2 (by decide) ?_
  refine V.istore_n (lv2 := [(2, .int 0), (1, .int 0), (0, .ref (b 0))]) dX2_takeOffWrong_3 rfl (by decide) rfl ?_
  have L4 : ∀ (kL : Nat) (i : Nat) (s : (Nat → Int32) × Int32), i + kL = np z → (lo7 s.1 z) → (PI s.1) → (RT s.1) → (fu inF i kL s = inL z) → V g rmX2_takeOffWrong RX2 cX2_takeOffWrong wsX2_takeOffWrong 3 QF (XM (some .int) "takeOffWrong") 0 0 (SW g b s.1) 4 [(2, .int (nI i)), (1, .int s.2), (0, .ref (b 0))] [] := by
    intro kL
    induction kL with
    | zero =>
      intro i s hrel hs7 hI2 hRs hfu
      rw [fu_0] at hfu
      have hP1 : s.1 6 = nI (np z) := (hs7 6 (by decide)).trans hP
      refine V.iload_n 0 rfl dX2_takeOffWrong_4 rfl ?_
      refine V.aload_n 2 rfl dX2_takeOffWrong_5 rfl ?_
      refine V.get (v := .int (s.1 6)) (fun w H => List.mem_cons_of_mem _ (List.mem_append_left _ (List.mem_append_right _ H))) (hc := (rfl : vwCl[2]? = some (RX2, TX2, 12))) 0 1 (by decide) (List.mem_of_getElem? (i := 1) rfl) rfl rfl dX2_takeOffWrong_6 ?_
      rw [hP1]
      refine V.icmp_ge_t (tgt := 61) (by exact nI_le (a := np z) (b := i) (by omega) (by omega)) dX2_takeOffWrong_9 (by decide) ?_
      have hL : s = inL z := by rw [← hfu]
      subst hL
      refine V.aload_n 2 rfl dX2_takeOffWrong_61 rfl ?_
      refine V.dup dX2_takeOffWrong_62 rfl ?_
      refine V.get (v := .int (((inL z).1) 11)) (fun w H => List.mem_cons_of_mem _ (List.mem_append_left _ (List.mem_append_right _ H))) (hc := (rfl : vwCl[2]? = some (RX2, TX2, 12))) 0 6 (by decide) (List.mem_of_getElem? (i := 3) rfl) rfl rfl dX2_takeOffWrong_63 ?_
      refine V.iload_n 1 rfl dX2_takeOffWrong_66 rfl ?_
      refine V.iadd dX2_takeOffWrong_67 ?_
      refine V.put (v := .int ((((inL z).1) 11) + ((inL z).2))) (ws2 := SW g b (upd ((inL z).1) 11 ((((inL z).1) 11) + ((inL z).2)))) (fun w H => List.mem_cons_of_mem _ (List.mem_append_left _ (List.mem_append_right _ H))) tyX2 tyX2_ok nmX2 (hc := (rfl : vwCl[2]? = some (RX2, TX2, 12))) 0 6 (by decide) (List.mem_of_getElem? (i := 3) rfl) rfl rfl (tyX2_ok 6 (by decide)) rfl rfl (Nat.le_of_ble_eq_true rfl) (SW_11 (g := g) (b := b) (z := ((inL z).1)) (v := (((inL z).1) 11) + ((inL z).2))) dX2_takeOffWrong_68 ?_
      refine V.aload_n 2 rfl dX2_takeOffWrong_71 rfl ?_
      refine V.dup dX2_takeOffWrong_72 rfl ?_
      refine V.get (v := .int ((upd ((inL z).1) 11 ((((inL z).1) 11) + ((inL z).2))) 7)) (fun w H => List.mem_cons_of_mem _ (List.mem_append_left _ (List.mem_append_right _ H))) (hc := (rfl : vwCl[2]? = some (RX2, TX2, 12))) 0 2 (by decide) (List.mem_of_getElem? (i := 4) rfl) rfl rfl dX2_takeOffWrong_73 ?_
      refine V.bipush (v := 10) dX2_takeOffWrong_76 (by decide) ?_
      refine V.iadd dX2_takeOffWrong_78 ?_
      refine V.put (v := .int (((upd ((inL z).1) 11 ((((inL z).1) 11) + ((inL z).2))) 7) + 10)) (ws2 := SW g b (upd (upd ((inL z).1) 11 ((((inL z).1) 11) + ((inL z).2))) 7 (((upd ((inL z).1) 11 ((((inL z).1) 11) + ((inL z).2))) 7) + 10))) (fun w H => List.mem_cons_of_mem _ (List.mem_append_left _ (List.mem_append_right _ H))) tyX2 tyX2_ok nmX2 (hc := (rfl : vwCl[2]? = some (RX2, TX2, 12))) 0 2 (by decide) (List.mem_of_getElem? (i := 4) rfl) rfl rfl (tyX2_ok 2 (by decide)) rfl rfl (Nat.le_of_ble_eq_true rfl) (SW_7 (g := g) (b := b) (z := (upd ((inL z).1) 11 ((((inL z).1) 11) + ((inL z).2)))) (v := ((upd ((inL z).1) 11 ((((inL z).1) 11) + ((inL z).2))) 7) + 10)) dX2_takeOffWrong_79 ?_
      refine V.iload_n 1 rfl dX2_takeOffWrong_82 rfl ?_
      exact V.iret hq XM.r (Nat.le_of_ble_eq_true rfl) (Nat.le_of_ble_eq_true rfl) ⟨rfl, by rw [inZ_eq]⟩ dX2_takeOffWrong_83
    | succ kL ih =>
      intro i s hrel hs7 hI2 hRs hfu
      rw [fu_s] at hfu
      have hP1 : s.1 6 = nI (np z) := (hs7 6 (by decide)).trans hP
      refine V.iload_n 0 rfl dX2_takeOffWrong_4 rfl ?_
      refine V.aload_n 2 rfl dX2_takeOffWrong_5 rfl ?_
      refine V.get (v := .int (s.1 6)) (fun w H => List.mem_cons_of_mem _ (List.mem_append_left _ (List.mem_append_right _ H))) (hc := (rfl : vwCl[2]? = some (RX2, TX2, 12))) 0 1 (by decide) (List.mem_of_getElem? (i := 1) rfl) rfl rfl dX2_takeOffWrong_6 ?_
      rw [hP1]
      refine V.icmp_ge_f (tgt := 61) (by exact nI_ge (a := i) (b := np z) (by omega) (by omega)) dX2_takeOffWrong_9 (by decide) ?_
      refine V.aload_n 2 rfl dX2_takeOffWrong_12 rfl ?_
      refine V.get (v := .ref (b 4)) (fun w H => List.mem_cons_of_mem _ (List.mem_append_left _ (List.mem_append_right _ H))) (hc := (rfl : vwCl[2]? = some (RX2, TX2, 12))) 0 9 (by decide) (List.mem_of_getElem? (i := 2) rfl) rfl rfl dX2_takeOffWrong_13 ?_
      refine V.iload_n 0 rfl dX2_takeOffWrong_16 rfl ?_
      refine V.iconst (v := 2) dX2_takeOffWrong_17 (by decide) ?_
      refine V.callVf (ws2 := SW g b s.1) (st2 := [.int ((sg s.1 76 120) (i * 5 + 2))]) [.int (nI i), .int 2] [] (kX3_at g (b 4) (b 5) 5 120 (sg s.1 76 120) i 2 (by first | omega | decide) (by first | omega | decide) (by first | omega | decide) (by first | omega | decide)) gX2_takeOffWrong_X3_at rfl (by show _ ∧ _ ∧ _ ∧ _ = some (2 : Nat); decide +kernel) ⟨Nat.le_of_ble_eq_true rfl, Nat.le_of_ble_eq_true rfl⟩ (hc := (rfl : vwCl[3]? = some (RX3, TX3, 2))) 4 rfl [4, 5] (by decide) rfl rfl (Nat.le_of_ble_eq_true rfl) ⟨Nat.le_of_ble_eq_true rfl, Nat.le_of_ble_eq_true rfl⟩ dX2_takeOffWrong_18 TWf rfl rfl rfl rfl ?_
      rw [sg_r (z := s.1) (o := 76) (n := 120) (r := i) (C := 5) (k := 2) (by omega)]
      refine V.iconst (v := 2) dX2_takeOffWrong_21 (by decide) ?_
      refine V.icmp_ne (tgt := 55) dX2_takeOffWrong_22 (by decide) (fun c22 => ?_) (fun c22 => ?_)
      · skip
        refine V.iinc (v := nI (i + 1)) (lv2 := [(2, .int (nI (i + 1))), (1, .int s.2), (0, .ref (b 0))]) 0 rfl dX2_takeOffWrong_55 (nI_add i 1) (by decide) rfl ?_
        refine V.goto (tgt := 4) dX2_takeOffWrong_58 (by decide) ?_
        refine V.eqlv (lv2 := [(2, .int (nI (i + 1))), (1, .int s.2), (0, .ref (b 0))]) [0, 1, 2] rfl ?_
        exact ih (i + 1) s (by omega) hs7 hI2 hRs (by rw [← hfu, inF, if_neg c22])
      · skip
        obtain ⟨hn, hn4, hf, hf8⟩ := hI2 i (by omega) c22
        have hin : inF i s = (emz (tM s.1 (s.1 (76 + 5 * i + 3)).toNatClampNeg (s.1 (76 + 5 * i + 4)).toNatClampNeg (-(s.1 1))) i, s.2 + 1) := by rw [inF, if_pos c22]
        generalize (s.1 (76 + 5 * i + 3)).toNatClampNeg = n at hn hn4 hin
        generalize (s.1 (76 + 5 * i + 4)).toNatClampNeg = f at hf hf8 hin
        refine V.aload_n 2 rfl dX2_takeOffWrong_25 rfl ?_
        refine V.aload_n 2 rfl dX2_takeOffWrong_26 rfl ?_
        refine V.get (v := .ref (b 4)) (fun w H => List.mem_cons_of_mem _ (List.mem_append_left _ (List.mem_append_right _ H))) (hc := (rfl : vwCl[2]? = some (RX2, TX2, 12))) 0 9 (by decide) (List.mem_of_getElem? (i := 2) rfl) rfl rfl dX2_takeOffWrong_27 ?_
        refine V.iload_n 0 rfl dX2_takeOffWrong_30 rfl ?_
        refine V.iconst (v := 3) dX2_takeOffWrong_31 (by decide) ?_
        refine V.callVf (ws2 := SW g b s.1) (st2 := [.int ((sg s.1 76 120) (i * 5 + 3)), .ref (b 0)]) [.int (nI i), .int 3] [.ref (b 0)] (kX3_at g (b 4) (b 5) 5 120 (sg s.1 76 120) i 3 (by first | omega | decide) (by first | omega | decide) (by first | omega | decide) (by first | omega | decide)) gX2_takeOffWrong_X3_at rfl (by show _ ∧ _ ∧ _ ∧ _ = some (2 : Nat); decide +kernel) ⟨Nat.le_of_ble_eq_true rfl, Nat.le_of_ble_eq_true rfl⟩ (hc := (rfl : vwCl[3]? = some (RX3, TX3, 2))) 4 rfl [4, 5] (by decide) rfl rfl (Nat.le_of_ble_eq_true rfl) ⟨Nat.le_of_ble_eq_true rfl, Nat.le_of_ble_eq_true rfl⟩ dX2_takeOffWrong_32 TWf rfl rfl rfl rfl ?_
        rw [sg_r (z := s.1) (o := 76) (n := 120) (r := i) (C := 5) (k := 3) (by omega)]
        rw [hn]
        refine V.aload_n 2 rfl dX2_takeOffWrong_35 rfl ?_
        refine V.get (v := .ref (b 4)) (fun w H => List.mem_cons_of_mem _ (List.mem_append_left _ (List.mem_append_right _ H))) (hc := (rfl : vwCl[2]? = some (RX2, TX2, 12))) 0 9 (by decide) (List.mem_of_getElem? (i := 2) rfl) rfl rfl dX2_takeOffWrong_36 ?_
        refine V.iload_n 0 rfl dX2_takeOffWrong_39 rfl ?_
        refine V.iconst (v := 4) dX2_takeOffWrong_40 (by decide) ?_
        refine V.callVf (ws2 := SW g b s.1) (st2 := [.int ((sg s.1 76 120) (i * 5 + 4)), .int (nI n), .ref (b 0)]) [.int (nI i), .int 4] [.int (nI n), .ref (b 0)] (kX3_at g (b 4) (b 5) 5 120 (sg s.1 76 120) i 4 (by first | omega | decide) (by first | omega | decide) (by first | omega | decide) (by first | omega | decide)) gX2_takeOffWrong_X3_at rfl (by show _ ∧ _ ∧ _ ∧ _ = some (2 : Nat); decide +kernel) ⟨Nat.le_of_ble_eq_true rfl, Nat.le_of_ble_eq_true rfl⟩ (hc := (rfl : vwCl[3]? = some (RX3, TX3, 2))) 4 rfl [4, 5] (by decide) rfl rfl (Nat.le_of_ble_eq_true rfl) ⟨Nat.le_of_ble_eq_true rfl, Nat.le_of_ble_eq_true rfl⟩ dX2_takeOffWrong_41 TWf rfl rfl rfl rfl ?_
        rw [sg_r (z := s.1) (o := 76) (n := 120) (r := i) (C := 5) (k := 4) (by omega)]
        rw [hf]
        refine V.callVf (ws2 := SW g b (tM s.1 n f (-(s.1 1)))) (st2 := []) [.int (nI n), .int (nI f)] [] (kX2_blame g b s.1 n f hn4 hf8 (bl_eq (hRs.t hn4 hf8) hRs.2.1)) gX2_takeOffWrong_X2_blame rfl (by show _ ∧ _ ∧ _ ∧ _ = some (2 : Nat); decide +kernel) ⟨Nat.le_of_ble_eq_true rfl, Nat.le_of_ble_eq_true rfl⟩ (hc := (rfl : vwCl[2]? = some (RX2, TX2, 12))) 0 rfl [0, 1, 2, 3, 4, 5, 6, 7, 8, 9] (by decide) rfl rfl (Nat.le_of_ble_eq_true rfl) ⟨Nat.le_of_ble_eq_true rfl, Nat.le_of_ble_eq_true rfl⟩ dX2_takeOffWrong_44 rfl rfl rfl rfl rfl ?_
        refine V.aload_n 2 rfl dX2_takeOffWrong_47 rfl ?_
        refine V.iload_n 0 rfl dX2_takeOffWrong_48 rfl ?_
        refine V.callVf (ws2 := SW g b (emz (tM s.1 n f (-(s.1 1))) i)) (st2 := []) [.int (nI i)] [] (kX2_emptyPlace g b (tM s.1 n f (-(s.1 1))) i (by first | omega | decide)) gX2_takeOffWrong_X2_emptyPlace rfl (by show _ ∧ _ ∧ _ ∧ _ = some (1 : Nat); decide +kernel) ⟨Nat.le_of_ble_eq_true rfl, Nat.le_of_ble_eq_true rfl⟩ (hc := (rfl : vwCl[2]? = some (RX2, TX2, 12))) 0 rfl [0, 1, 2, 3, 4, 5, 6, 7, 8, 9] (by decide) rfl rfl (Nat.le_of_ble_eq_true rfl) ⟨Nat.le_of_ble_eq_true rfl, Nat.le_of_ble_eq_true rfl⟩ dX2_takeOffWrong_49 rfl rfl rfl rfl rfl ?_
        refine V.iinc (v := s.2 + 1) (lv2 := [(1, .int (s.2 + 1)), (2, .int (nI i)), (0, .ref (b 0))]) 1 rfl dX2_takeOffWrong_52 rfl (by decide) rfl ?_
        refine V.iinc (v := nI (i + 1)) (lv2 := [(2, .int (nI (i + 1))), (1, .int (s.2 + 1)), (0, .ref (b 0))]) 1 rfl dX2_takeOffWrong_55 (nI_add i 1) (by decide) rfl ?_
        refine V.goto (tgt := 4) dX2_takeOffWrong_58 (by decide) ?_
        refine V.eqlv (lv2 := [(2, .int (nI (i + 1))), (1, .int (s.2 + 1)), (0, .ref (b 0))]) [0, 1, 2] rfl ?_
        exact ih (i + 1) (emz (tM s.1 n f (-(s.1 1))) i, s.2 + 1) (by omega) (hin ▸ inF_lo7.tr hs7) (hin ▸ inF_PI hI2) (hin ▸ inF_RT hRs (by omega)) (by rw [← hfu, hin])
  refine V.eqlv (lv2 := [(2, .int 0), (1, .int 0), (0, .ref (b 0))]) [0, 1, 2] rfl ?_
  exact L4 (np z) 0 (z, 0) (by omega) lo7.rf hI hR rfl
