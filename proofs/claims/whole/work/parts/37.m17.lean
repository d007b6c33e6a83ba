abbrev rmX4_pickFor : Room := { frames := 3, cells := 0, slots := 0, locals := 73 }
set_option maxHeartbeats 4000000 in
set_option maxRecDepth 100000 in
theorem kX4_pickFor (g : GT) (u : Nat → Nat) (ai : Nat → Int32) (pa : Nat → Int32) (tu : Nat → Int32) (b : Nat → Nat) (z : Nat → Int32) (n : Nat) (o : Option Nat) (hn : n < 4) (hK : KZ z) (hX : IX z) (hao : ai n = en o) (ho : ∀ p : Nat, o = some p → p < 24) : UC g yX4_pickFor wsX4_pickFor rmX4_pickFor [.ref (u 0), .ref (b 0), .int (nI n)] ((UW g u ai pa tu) ++ (SW g b z)) (Qf (none) ((UW g u ai ((pkA n o (z, pa, upd tu n 0)).2.1) ((pkA n o (z, pa, upd tu n 0)).2.2)) ++ (SW g b ((pkA n o (z, pa, upd tu n 0)).1)))) := by
  refine UC.ofV (cc := cX4_pickFor) (maxL := 7) (ret := none) (lv0 := [(0, .ref (u 0)), (1, .ref (b 0)), (2, .int (nI n))]) (by decide) rfl (Nat.le_of_ble_eq_true rfl) rfl ?_
  generalize hQF : QFr g rmX4_pickFor (Qf (none) ((UW g u ai ((pkA n o (z, pa, upd tu n 0)).2.1) ((pkA n o (z, pa, upd tu n 0)).2.2)) ++ (SW g b ((pkA n o (z, pa, upd tu n 0)).1)))) = QF
  have hq : QFok g rmX4_pickFor (Qf (none) ((UW g u ai ((pkA n o (z, pa, upd tu n 0)).2.1) ((pkA n o (z, pa, upd tu n 0)).2.2)) ++ (SW g b ((pkA n o (z, pa, upd tu n 0)).1)))) QF := hQF ▸ QFr.q
  obtain ⟨hF, hF8, hP, hP24, hR, hR5⟩ := id hK
  refine V.aload_n 0 rfl dX4_pickFor_0 rfl ?_
  refine V.get (v := .ref (u 2)) (fun w H => List.mem_cons_of_mem _ (List.mem_append_left _ (List.mem_append_left _ (List.mem_append_right _ H)))) (hc := (rfl : vwCl[4]? = some (RX4, TX4, 3))) 0 1 (by decide) (List.mem_of_getElem? (i := 1) rfl) rfl rfl dX4_pickFor_1 ?_
  refine V.iload_n 2 rfl dX4_pickFor_4 rfl ?_
  refine V.iconst (v := -1) dX4_pickFor_5 (by decide) ?_
  refine V.iast (f := pa) (ws2 := (UW g u ai (upd pa n (-1)) tu) ++ (SW g b z)) 2 n rfl rfl (by omega) (by decide) rfl dX4_pickFor_6 ?_
  refine V.aload_n 0 rfl dX4_pickFor_7 rfl ?_
  refine V.get (v := .ref (u 3)) (fun w H => List.mem_cons_of_mem _ (List.mem_append_left _ (List.mem_append_left _ (List.mem_append_right _ H)))) (hc := (rfl : vwCl[4]? = some (RX4, TX4, 3))) 0 2 (by decide) (List.mem_of_getElem? (i := 2) rfl) rfl rfl dX4_pickFor_8 ?_
  refine V.iload_n 2 rfl dX4_pickFor_11 rfl ?_
  refine V.iconst (v := 0) dX4_pickFor_12 (by decide) ?_
  refine V.zast (f := tu) (ws2 := (UW g u ai (upd pa n (-1)) (upd tu n (0))) ++ (SW g b z)) 3 n rfl rfl (by omega) (by decide) rfl rfl dX4_pickFor_13 ?_
  refine V.aload_n 0 rfl dX4_pickFor_14 rfl ?_
  refine V.get (v := .ref (u 1)) (fun w H => List.mem_cons_of_mem _ (List.mem_append_left _ (List.mem_append_left _ (List.mem_append_right _ H)))) (hc := (rfl : vwCl[4]? = some (RX4, TX4, 3))) 0 0 (by decide) (List.mem_of_getElem? (i := 3) rfl) rfl rfl dX4_pickFor_15 ?_
  refine V.iload_n 2 rfl dX4_pickFor_18 rfl ?_
  refine V.iald (f := ai) 1 n rfl rfl (by omega) (by decide) dX4_pickFor_19 ?_
  rw [hao]
  refine V.iconst (v := -1) dX4_pickFor_20 (by decide) ?_
  cases o with
  | none =>
    refine V.icmp_ne_f (tgt := 25) rfl dX4_pickFor_21 (by decide) ?_
    exact V.vret hq XM.r (Nat.le_of_ble_eq_true rfl) (Nat.le_of_ble_eq_true rfl) ⟨rfl, rfl⟩ dX4_pickFor_24
  | some p =>
    have hp : p < 24 := ho p rfl
    refine V.icmp_ne_t (tgt := 25) (en_ne hp (by decide)) dX4_pickFor_21 (by decide) ?_
    refine V.aload_n 1 rfl dX4_pickFor_25 rfl ?_
    refine V.get (v := .ref (b 4)) (fun w H => List.mem_cons_of_mem _ (List.mem_append_left _ (List.mem_append_right _ H))) (hc := (rfl : vwCl[2]? = some (RX2, TX2, 12))) 4 9 (by decide) (List.mem_of_getElem? (i := 4) rfl) rfl rfl dX4_pickFor_26 ?_
    refine V.aload_n 0 rfl dX4_pickFor_29 rfl ?_
    refine V.get (v := .ref (u 1)) (fun w H => List.mem_cons_of_mem _ (List.mem_append_left _ (List.mem_append_left _ (List.mem_append_right _ H)))) (hc := (rfl : vwCl[4]? = some (RX4, TX4, 3))) 0 0 (by decide) (List.mem_of_getElem? (i := 3) rfl) rfl rfl dX4_pickFor_30 ?_
    refine V.iload_n 2 rfl dX4_pickFor_33 rfl ?_
    refine V.iald (f := ai) 1 n rfl rfl (by omega) (by decide) dX4_pickFor_34 ?_
    rw [show ai n = nI p from hao]
    refine V.iconst (v := 1) dX4_pickFor_35 (by decide) ?_
    refine V.callVf (ws2 := (UW g u ai (upd pa n (-1)) (upd tu n (0))) ++ (SW g b z)) (st2 := [.int ((sg z 76 120) (p * 5 + 1))]) [.int (nI p), .int 1] [] (kX3_at g (b 4) (b 5) 5 120 (sg z 76 120) p 1 (by first | omega | decide) (by first | omega | decide) (by first | omega | decide) (by first | omega | decide)) gX4_pickFor_X3_at rfl (by show _ ∧ _ ∧ _ ∧ _ = some (2 : Nat); decide +kernel) ⟨Nat.le_of_ble_eq_true rfl, Nat.le_of_ble_eq_true rfl⟩ (hc := (rfl : vwCl[3]? = some (RX3, TX3, 2))) 8 rfl [8, 9] (by decide) rfl rfl (Nat.le_of_ble_eq_true rfl) ⟨Nat.le_of_ble_eq_true rfl, Nat.le_of_ble_eq_true rfl⟩ dX4_pickFor_36 TWf rfl rfl rfl rfl ?_
    rw [sg_r (z := z) (o := 76) (n := 120) (r := p) (C := 5) (k := 1) (by omega)]
    refine V.istore_n (lv2 := [(3, .int (z (76 + 5 * p + 1))), (0, .ref (u 0)), (1, .ref (b 0)), (2, .int (nI n))]) dX4_pickFor_39 rfl (by decide) rfl ?_
    refine V.iconst (v := 1) dX4_pickFor_40 (by decide) ?_
    refine V.aload_n 2 rfl dX4_pickFor_41 rfl ?_
    refine V.get (v := .ref (b 1)) (fun w H => List.mem_cons_of_mem _ (List.mem_append_left _ (List.mem_append_right _ H))) (hc := (rfl : vwCl[2]? = some (RX2, TX2, 12))) 4 7 (by decide) (List.mem_of_getElem? (i := 5) rfl) rfl rfl dX4_pickFor_42 ?_
    refine V.iconst (v := 0) dX4_pickFor_45 (by decide) ?_
    refine V.iald (f := sg z 0 5) 5 0 rfl rfl (by decide) (by decide) dX4_pickFor_46 ?_
    rw [show (sg z 0 5) 0 = z 0 from sg_a (by omega)]
    rw [hR]
    refine V.iaddN (v := nI (1 + (z 0).toNatClampNeg)) dX4_pickFor_47 (nI_add 1 ((z 0).toNatClampNeg)) ?_
    refine V.istore (lv2 := [(4, .int (nI (1 + (z 0).toNatClampNeg))), (3, .int (z (76 + 5 * p + 1))), (0, .ref (u 0)), (1, .ref (b 0)), (2, .int (nI n))]) dX4_pickFor_48 (by decide) rfl ?_
    refine V.iconst (v := 0) dX4_pickFor_50 (by decide) ?_
    refine V.istore (lv2 := [(5, .int 0), (4, .int (nI (1 + (z 0).toNatClampNeg))), (3, .int (z (76 + 5 * p + 1))), (0, .ref (u 0)), (1, .ref (b 0)), (2, .int (nI n))]) dX4_pickFor_51 (by decide) rfl ?_
    have L53 : ∀ (kL : Nat) (i : Nat) (q : Bool) (s : RS), i + kL = 1 + (z 0).toNatClampNeg → (lo7 s.1 z) → (IX s.1) → (s.1 (76 + 5 * p + 1) = z (76 + 5 * p + 1)) → (q = true → s.2.1 n = -1) → (q = false → ¬ s.2.1 n = -1) → (pkL n p kL q s = pkA n (some p) (z, pa, upd tu n 0)) → V g rmX4_pickFor RX4 cX4_pickFor wsX4_pickFor 7 QF (XM none "pickFor") 0 0 ((UW g u ai s.2.1 s.2.2) ++ (SW g b s.1)) 53 [(5, .int (nI i)), (4, .int (nI (1 + (z 0).toNatClampNeg))), (3, .int (z (76 + 5 * p + 1))), (0, .ref (u 0)), (1, .ref (b 0)), (2, .int (nI n))] [] := by
      intro kL
      induction kL with
      | zero =>
        intro i q s hrel hs7 hXs hkd hb hb2 hfu
        have hK1 := hK.lo hs7
        obtain ⟨hF1, hF81, hP1, hP241, hR1, hR51⟩ := id hK1
        refine V.iload 0 rfl dX4_pickFor_53 ?_
        refine V.iload 1 rfl dX4_pickFor_55 ?_
        refine V.icmp_ge_t (tgt := 99) (by exact nI_le (a := 1 + (z 0).toNatClampNeg) (b := i) (by omega) (by omega)) dX4_pickFor_57 (by decide) ?_
        exact V.vret hq XM.r (Nat.le_of_ble_eq_true rfl) (Nat.le_of_ble_eq_true rfl) ⟨rfl, by rw [← hfu] <;> rfl⟩ dX4_pickFor_99
      | succ kL ih =>
        intro i q s hrel hs7 hXs hkd hb hb2 hfu
        have hK1 := hK.lo hs7
        obtain ⟨hF1, hF81, hP1, hP241, hR1, hR51⟩ := id hK1
        refine V.iload 0 rfl dX4_pickFor_53 ?_
        refine V.iload 1 rfl dX4_pickFor_55 ?_
        refine V.icmp_ge_f (tgt := 99) (by exact nI_ge (a := i) (b := 1 + (z 0).toNatClampNeg) (by omega) (by omega)) dX4_pickFor_57 (by decide) ?_
        cases q with
        | false =>
          refine V.aload_n 3 rfl dX4_pickFor_60 rfl ?_
          refine V.get (v := .ref (u 2)) (fun w H => List.mem_cons_of_mem _ (List.mem_append_left _ (List.mem_append_left _ (List.mem_append_right _ H)))) (hc := (rfl : vwCl[4]? = some (RX4, TX4, 3))) 0 1 (by decide) (List.mem_of_getElem? (i := 1) rfl) rfl rfl dX4_pickFor_61 ?_
          refine V.iload_n 5 rfl dX4_pickFor_64 rfl ?_
          refine V.iald (f := s.2.1) 2 n rfl rfl (by omega) (by decide) dX4_pickFor_65 ?_
          refine V.iconst (v := -1) dX4_pickFor_66 (by decide) ?_
          refine V.icmp_ne_t (tgt := 99) (hb2 rfl) dX4_pickFor_67 (by decide) ?_
          exact V.vret hq XM.r (Nat.le_of_ble_eq_true rfl) (Nat.le_of_ble_eq_true rfl) ⟨rfl, by rw [← hfu, pkL_f]⟩ dX4_pickFor_99
        | true =>
          refine V.aload_n 3 rfl dX4_pickFor_60 rfl ?_
          refine V.get (v := .ref (u 2)) (fun w H => List.mem_cons_of_mem _ (List.mem_append_left _ (List.mem_append_left _ (List.mem_append_right _ H)))) (hc := (rfl : vwCl[4]? = some (RX4, TX4, 3))) 0 1 (by decide) (List.mem_of_getElem? (i := 1) rfl) rfl rfl dX4_pickFor_61 ?_
          refine V.iload_n 5 rfl dX4_pickFor_64 rfl ?_
          refine V.iald (f := s.2.1) 2 n rfl rfl (by omega) (by decide) dX4_pickFor_65 ?_
          refine V.iconst (v := -1) dX4_pickFor_66 (by decide) ?_
          refine V.icmp_ne_f (tgt := 99) (hb rfl) dX4_pickFor_67 (by decide) ?_
          refine V.aload_n 4 rfl dX4_pickFor_70 rfl ?_
          refine V.iload_n 5 rfl dX4_pickFor_71 rfl ?_
          refine V.iload_n 2 rfl dX4_pickFor_72 rfl ?_
          refine V.callVf (ws2 := (UW g u ai s.2.1 s.2.2) ++ (SW g b s.1)) (st2 := [.int (en (cho s.1 n (z (76 + 5 * p + 1))))]) [.int (nI n), .int (z (76 + 5 * p + 1))] [] (kX2_favorite g b s.1 n (z (76 + 5 * p + 1)) hn hF1 hF81 (ABF.of hXs)) gX4_pickFor_X2_favorite rfl (by show _ ∧ _ ∧ _ ∧ _ = some (2 : Nat); decide +kernel) ⟨Nat.le_of_ble_eq_true rfl, Nat.le_of_ble_eq_true rfl⟩ (hc := (rfl : vwCl[2]? = some (RX2, TX2, 12))) 4 rfl [4, 5, 6, 7, 8, 9, 10, 11, 12, 13] (by decide) rfl rfl (Nat.le_of_ble_eq_true rfl) ⟨Nat.le_of_ble_eq_true rfl, Nat.le_of_ble_eq_true rfl⟩ dX4_pickFor_73 SWf rfl rfl rfl rfl ?_
          rw [← hkd]
          cases hch : cho s.1 n (s.1 (76 + 5 * p + 1)) with
          | none =>
            refine V.istore (lv2 := [(6, .int (-1)), (5, .int (nI i)), (4, .int (nI (1 + (z 0).toNatClampNeg))), (3, .int (s.1 (76 + 5 * p + 1))), (0, .ref (u 0)), (1, .ref (b 0)), (2, .int (nI n))]) dX4_pickFor_76 (by decide) rfl ?_
            refine V.iload 0 rfl dX4_pickFor_78 ?_
            refine V.iconst (v := -1) dX4_pickFor_80 (by decide) ?_
            refine V.icmp_ne_f (tgt := 85) (by decide) dX4_pickFor_81 (by decide) ?_
            exact V.vret hq XM.r (Nat.le_of_ble_eq_true rfl) (Nat.le_of_ble_eq_true rfl) ⟨rfl, by rw [← hfu]; simp [pkL, hch]⟩ dX4_pickFor_84
          | some f =>
            have hf8 : f < 8 := by have := cho_lt hch; omega
            refine V.istore (lv2 := [(6, .int (nI f)), (5, .int (nI i)), (4, .int (nI (1 + (z 0).toNatClampNeg))), (3, .int (s.1 (76 + 5 * p + 1))), (0, .ref (u 0)), (1, .ref (b 0)), (2, .int (nI n))]) dX4_pickFor_76 (by decide) rfl ?_
            refine V.iload 0 rfl dX4_pickFor_78 ?_
            refine V.iconst (v := -1) dX4_pickFor_80 (by decide) ?_
            refine V.icmp_ne_t (tgt := 85) (en_ne hf8 (by decide)) dX4_pickFor_81 (by decide) ?_
            refine V.aload_n 4 rfl dX4_pickFor_85 rfl ?_
            refine V.aload_n 5 rfl dX4_pickFor_86 rfl ?_
            refine V.iload_n 6 rfl dX4_pickFor_87 rfl ?_
            refine V.iload 0 rfl dX4_pickFor_88 ?_
            refine V.callVf (ws2 := (UW g u ai (trP s.1 n f s.2.1) (trT s.1 n f s.2.2)) ++ (SW g b (trZ s.1 n f))) (st2 := []) [.ref (b 0), .int (nI n), .int (nI f)] [] (kX4_tryOnce g u ai s.2.1 s.2.2 b s.1 n f hn hf8 hXs) gX4_pickFor_X4_tryOnce rfl (by show _ ∧ _ ∧ _ ∧ _ = some (3 : Nat); decide +kernel) ⟨Nat.le_of_ble_eq_true rfl, Nat.le_of_ble_eq_true rfl⟩ (hc := (rfl : vwCl[4]? = some (RX4, TX4, 3))) 0 rfl [0, 1, 2, 3, 4, 5, 6, 7, 8, 9, 10, 11, 12, 13] (by decide) rfl rfl (Nat.le_of_ble_eq_true rfl) ⟨Nat.le_of_ble_eq_true rfl, Nat.le_of_ble_eq_true rfl⟩ dX4_pickFor_90 (USf rfl) rfl rfl rfl rfl ?_
            rw [hkd]
            refine V.iinc (v := nI (i + 1)) (lv2 := [(5, .int (nI (i + 1))), (6, .int (nI f)), (4, .int (nI (1 + (z 0).toNatClampNeg))), (3, .int (z (76 + 5 * p + 1))), (0, .ref (u 0)), (1, .ref (b 0)), (2, .int (nI n))]) 1 rfl dX4_pickFor_93 (nI_add i 1) (by decide) rfl ?_
            refine V.goto (tgt := 53) dX4_pickFor_96 (by decide) ?_
            refine V.eqlv (lv2 := [(5, .int (nI (i + 1))), (4, .int (nI (1 + (z 0).toNatClampNeg))), (3, .int (z (76 + 5 * p + 1))), (0, .ref (u 0)), (1, .ref (b 0)), (2, .int (nI n))]) [0, 2, 3, 4, 5, 6] rfl ?_
            exact ih (i + 1) (tms s.1 n f) (trZ s.1 n f, trP s.1 n f s.2.1, trT s.1 n f s.2.2) (by omega) (trZ_lo7.tr hs7) (hXs.tr hf8 hn) ((trZ_pl hf8 (by omega) (by omega)).trans hkd) (fun h => by show trP s.1 n f s.2.1 n = -1; rw [trP, h]; exact hb rfl) (fun h => by show ¬ trP s.1 n f s.2.1 n = -1; rw [trP, h]; show ¬ upd s.2.1 n (nI f) n = -1; rw [upd_eq]; exact en_ne hf8 (by decide)) (by rw [← hfu]; simp [pkL, hch])
    refine V.eqlv (lv2 := [(5, .int 0), (4, .int (nI (1 + (z 0).toNatClampNeg))), (3, .int (z (76 + 5 * p + 1))), (0, .ref (u 0)), (1, .ref (b 0)), (2, .int (nI n))]) [0, 1, 2, 3, 4, 5] rfl ?_
    exact L53 (1 + (z 0).toNatClampNeg) 0 true (z, upd pa n (-1), upd tu n 0) (by omega) lo7.rf hX rfl (fun _ => upd_eq) (fun h => by cases h) (by rw [Nat.add_comm 1]; rfl)
