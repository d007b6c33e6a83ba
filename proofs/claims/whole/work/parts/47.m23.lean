abbrev rmX4_chooseAims : Room := { frames := 2, cells := 0, slots := 0, locals := 48 }
set_option maxHeartbeats 4000000 in
set_option maxRecDepth 100000 in
theorem kX4_chooseAims (g : GT) (u : Nat → Nat) (ai : Nat → Int32) (pa : Nat → Int32) (tu : Nat → Int32) (b : Nat → Nat) (z : Nat → Int32) (hK : KZ z) (hD : KD z) : UC g yX4_chooseAims wsX4_chooseAims rmX4_chooseAims [.ref (u 0), .ref (b 0)] ((UW g u ai pa tu) ++ (SW g b z)) (Qf (none) ((UW g u (lA z ai) pa tu) ++ (SW g b z))) := by
  refine UC.ofV (cc := cX4_chooseAims) (maxL := 6) (ret := none) (lv0 := [(0, .ref (u 0)), (1, .ref (b 0))]) (by decide) rfl (Nat.le_of_ble_eq_true rfl) rfl ?_
  generalize hQF : QFr g rmX4_chooseAims (Qf (none) ((UW g u (lA z ai) pa tu) ++ (SW g b z))) = QF
  have hq : QFok g rmX4_chooseAims (Qf (none) ((UW g u (lA z ai) pa tu) ++ (SW g b z))) QF := hQF ▸ QFr.q
  obtain ⟨hF, hF8, hP, hP24, hR, hR5⟩ := id hK
  refine V.aload_n 1 rfl dX4_chooseAims_0 rfl ?_
  refine V.callVf (ws2 := (UW g u ai pa tu) ++ (SW g b z)) (st2 := [.int (skM z)]) [] [] (kX2_stockedKinds g b z hF hF8) gX4_chooseAims_X2_stockedKinds rfl (by show _ ∧ _ ∧ _ ∧ _ = some (0 : Nat); decide +kernel) ⟨Nat.le_of_ble_eq_true rfl, Nat.le_of_ble_eq_true rfl⟩ (hc := (rfl : vwCl[2]? = some (RX2, TX2, 12))) 4 rfl [4, 5, 6, 7, 8, 9, 10, 11, 12, 13] (by decide) rfl rfl (Nat.le_of_ble_eq_true rfl) ⟨Nat.le_of_ble_eq_true rfl, Nat.le_of_ble_eq_true rfl⟩ dX4_chooseAims_1 SWf rfl rfl rfl rfl ?_
  refine V.istore_n (lv2 := [(2, .int (skM z)), (0, .ref (u 0)), (1, .ref (b 0))]) dX4_chooseAims_4 rfl (by decide) rfl ?_
  refine V.iconst (v := 0) dX4_chooseAims_5 (by decide) ?_
  refine V.istore_n (lv2 := [(3, .int 0), (2, .int (skM z)), (0, .ref (u 0)), (1, .ref (b 0))]) dX4_chooseAims_6 rfl (by decide) rfl ?_
  refine V.iconst (v := 0) dX4_chooseAims_7 (by decide) ?_
  refine V.istore (lv2 := [(4, .int 0), (3, .int 0), (2, .int (skM z)), (0, .ref (u 0)), (1, .ref (b 0))]) dX4_chooseAims_8 (by decide) rfl ?_
  have L10 : ∀ (kL : Nat) (i : Nat) (t : Int32) (y : Nat → Int32), i + kL = 4 → (TK y i t) → (fu (fun n ai => upd ai n (en (ao z n ai))) i kL y = lA z ai) → V g rmX4_chooseAims RX4 cX4_chooseAims wsX4_chooseAims 6 QF (XM none "chooseAims") 0 0 ((UW g u y pa tu) ++ (SW g b z)) 10 [(4, .int (nI i)), (3, .int t), (2, .int (skM z)), (0, .ref (u 0)), (1, .ref (b 0))] [] := by
    intro kL
    induction kL with
    | zero =>
      intro i t y hrel hT hfu
      rw [fu_0] at hfu
      refine V.iload 0 rfl dX4_chooseAims_10 ?_
      refine V.iconst (v := 4) dX4_chooseAims_12 (by decide) ?_
      refine V.icmp_ge_t (tgt := 63) (by rw [show i = 4 from by omega]; decide) dX4_chooseAims_13 (by decide) ?_
      exact V.vret hq XM.r (Nat.le_of_ble_eq_true rfl) (Nat.le_of_ble_eq_true rfl) ⟨rfl, by rw [← hfu] <;> rfl⟩ dX4_chooseAims_63
    | succ kL ih =>
      intro i t y hrel hT hfu
      rw [fu_s] at hfu
      refine V.iload 0 rfl dX4_chooseAims_10 ?_
      refine V.iconst (v := 4) dX4_chooseAims_12 (by decide) ?_
      refine V.icmp_ge_f (tgt := 63) (by exact nI_ge (a := i) (b := 4) (by omega) (by decide)) dX4_chooseAims_13 (by decide) ?_
      refine V.aload_n 4 rfl dX4_chooseAims_16 rfl ?_
      refine V.aload_n 4 rfl dX4_chooseAims_17 rfl ?_
      refine V.get (v := .ref (b 6)) (fun w H => List.mem_cons_of_mem _ (List.mem_append_left _ (List.mem_append_left _ (List.mem_append_right _ H)))) (hc := (rfl : vwCl[2]? = some (RX2, TX2, 12))) 4 10 (by decide) (List.mem_of_getElem? (i := 1) rfl) rfl rfl dX4_chooseAims_18 ?_
      refine V.iload 0 rfl dX4_chooseAims_21 ?_
      refine V.iconst (v := 0) dX4_chooseAims_23 (by decide) ?_
      refine V.callVf (ws2 := (UW g u y pa tu) ++ (SW g b z)) (st2 := [.int ((sg z 196 20) (i * 5 + 0)), .ref (b 0)]) [.int (nI i), .int 0] [.ref (b 0)] (kX3_at g (b 6) (b 7) 5 20 (sg z 196 20) i 0 (by first | omega | decide) (by first | omega | decide) (by first | omega | decide) (by first | omega | decide)) gX4_chooseAims_X3_at rfl (by show _ ∧ _ ∧ _ ∧ _ = some (2 : Nat); decide +kernel) ⟨Nat.le_of_ble_eq_true rfl, Nat.le_of_ble_eq_true rfl⟩ (hc := (rfl : vwCl[3]? = some (RX3, TX3, 2))) 10 rfl [10, 11] (by decide) rfl rfl (Nat.le_of_ble_eq_true rfl) ⟨Nat.le_of_ble_eq_true rfl, Nat.le_of_ble_eq_true rfl⟩ dX4_chooseAims_24 TWf rfl rfl rfl rfl ?_
      rw [sg_r (z := z) (o := 196) (n := 20) (r := i) (C := 5) (k := 0) (by omega)]
      refine V.iload_n 2 rfl dX4_chooseAims_27 rfl ?_
      refine V.iand dX4_chooseAims_28 ?_
      refine V.iload_n 1 rfl dX4_chooseAims_29 rfl ?_
      refine V.callSf (ws2 := (UW g u y pa tu) ++ (SW g b z)) (st2 := [.int (en (fa z ((z (196 + 5 * i + 0)) &&& (skM z)) t))]) [.ref (b 0), .int ((z (196 + 5 * i + 0)) &&& (skM z)), .int t] [] (kX4_firstAim g b z ((z (196 + 5 * i + 0)) &&& (skM z)) t hP hP24) gX4_chooseAims_X4_firstAim rfl (by show _ ∧ _ ∧ _ = some (3 : Nat); decide +kernel) ⟨Nat.le_of_ble_eq_true rfl, Nat.le_of_ble_eq_true rfl⟩ [4, 5, 6, 7, 8, 9, 10, 11, 12, 13] (by decide) rfl rfl (Nat.le_of_ble_eq_true rfl) ⟨Nat.le_of_ble_eq_true rfl, Nat.le_of_ble_eq_true rfl⟩ dX4_chooseAims_30 SWf rfl rfl rfl rfl ?_
      rw [fa_ao hD hF8 hP24 hT]
      generalize ho : ao z i y = o
      refine V.istore (lv2 := [(5, .int (en o)), (4, .int (nI i)), (3, .int t), (2, .int (skM z)), (0, .ref (u 0)), (1, .ref (b 0))]) dX4_chooseAims_33 (by decide) rfl ?_
      refine V.aload_n 4 rfl dX4_chooseAims_35 rfl ?_
      refine V.get (v := .ref (u 1)) (fun w H => List.mem_cons_of_mem _ (List.mem_append_left _ (List.mem_append_right _ H))) (hc := (rfl : vwCl[4]? = some (RX4, TX4, 3))) 0 0 (by decide) (List.mem_of_getElem? (i := 2) rfl) rfl rfl dX4_chooseAims_36 ?_
      refine V.iload 1 rfl dX4_chooseAims_39 ?_
      refine V.iload 0 rfl dX4_chooseAims_41 ?_
      refine V.iast (f := y) (ws2 := (UW g u (upd y i (en o)) pa tu) ++ (SW g b z)) 1 i rfl rfl (by omega) (by decide) rfl dX4_chooseAims_43 ?_
      cases o with
      | none =>
        refine V.iload 0 rfl dX4_chooseAims_44 ?_
        refine V.iconst (v := -1) dX4_chooseAims_46 (by decide) ?_
        refine V.icmp_eq_t (tgt := 57) (by decide) dX4_chooseAims_47 (by decide) ?_
        refine V.iinc (v := nI (i + 1)) (lv2 := [(4, .int (nI (i + 1))), (5, .int (-1)), (3, .int t), (2, .int (skM z)), (0, .ref (u 0)), (1, .ref (b 0))]) 1 rfl dX4_chooseAims_57 (nI_add i 1) (by decide) rfl ?_
        refine V.goto (tgt := 10) dX4_chooseAims_60 (by decide) ?_
        refine V.eqlv (lv2 := [(4, .int (nI (i + 1))), (3, .int t), (2, .int (skM z)), (0, .ref (u 0)), (1, .ref (b 0))]) [0, 2, 3, 4, 5] rfl ?_
        exact ih (i + 1) t (upd y i (en none)) (by omega) hT.no (by rw [ho] at hfu; exact hfu)
      | some p =>
        have hp : p < 24 := by have := ff_lt _ _ _ ho; omega
        refine V.iload 0 rfl dX4_chooseAims_44 ?_
        refine V.iconst (v := -1) dX4_chooseAims_46 (by decide) ?_
        refine V.icmp_eq_f (tgt := 57) (en_ne hp (by decide)) dX4_chooseAims_47 (by decide) ?_
        refine V.iload_n 2 rfl dX4_chooseAims_50 rfl ?_
        refine V.iconst (v := 1) dX4_chooseAims_51 (by decide) ?_
        refine V.iload 0 rfl dX4_chooseAims_52 ?_
        refine V.ishl dX4_chooseAims_54 ?_
        refine V.ior dX4_chooseAims_55 ?_
        refine V.istore_n (lv2 := [(3, .int (t ||| (1 <<< (nI p &&& 31)))), (5, .int (nI p)), (4, .int (nI i)), (2, .int (skM z)), (0, .ref (u 0)), (1, .ref (b 0))]) dX4_chooseAims_56 rfl (by decide) rfl ?_
        refine V.iinc (v := nI (i + 1)) (lv2 := [(4, .int (nI (i + 1))), (3, .int (t ||| (1 <<< (nI p &&& 31)))), (5, .int (nI p)), (2, .int (skM z)), (0, .ref (u 0)), (1, .ref (b 0))]) 2 rfl dX4_chooseAims_57 (nI_add i 1) (by decide) rfl ?_
        refine V.goto (tgt := 10) dX4_chooseAims_60 (by decide) ?_
        refine V.eqlv (lv2 := [(4, .int (nI (i + 1))), (3, .int (t ||| (1 <<< (nI p &&& 31)))), (2, .int (skM z)), (0, .ref (u 0)), (1, .ref (b 0))]) [0, 1, 3, 4, 5] rfl ?_
        exact ih (i + 1) (t ||| ((1 : Int32) <<< (nI p &&& 31))) (upd y i (en (some p))) (by omega) (hT.so hp) (by rw [ho] at hfu; exact hfu)
  refine V.eqlv (lv2 := [(4, .int 0), (3, .int 0), (2, .int (skM z)), (0, .ref (u 0)), (1, .ref (b 0))]) [0, 1, 2, 3, 4] rfl ?_
  exact L10 4 0 0 ai (by omega) TK.z rfl
