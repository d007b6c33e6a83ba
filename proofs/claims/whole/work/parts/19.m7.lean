abbrev rmX6_takesDigit : Room := { frames := 1, cells := 0, slots := 0, locals := 22 }
set_option maxHeartbeats 4000000 in
set_option maxRecDepth 100000 in
theorem kX6_takesDigit (g : GT) (a : Nat → Nat) (z hi tx ai pa tu pt ke : Nat → Int32) (st le th nu : Int32) (ha : Int64) (d : Int32) (rn : Nat) (dn : Nat) (hr : rn ≤ 13) (hd : dn ≤ 5) : UC g yX6_takesDigit wsX6_takesDigit rmX6_takesDigit [.ref (a 0), .int d] (MW g a z hi tx ai pa tu pt ke st le th (nI rn) nu (nI dn) ha) (Qf (some (.int (bi (pdB dn nu d)))) (MW g a z hi tx ai pa tu (pdP pt rn dn nu d) ke st le th (nI rn) (pdN dn nu d) (nI dn) ha)) := by
  refine UC.ofV (cc := cX6_takesDigit) (maxL := 4) (ret := some .boolean) (lv0 := [(0, .ref (a 0)), (1, .int d)]) (by decide) rfl (Nat.le_of_ble_eq_true rfl) rfl ?_
  generalize hQF : QFr g rmX6_takesDigit (Qf (some (.int (bi (pdB dn nu d)))) (MW g a z hi tx ai pa tu (pdP pt rn dn nu d) ke st le th (nI rn) (pdN dn nu d) (nI dn) ha)) = QF
  have hq : QFok g rmX6_takesDigit (Qf (some (.int (bi (pdB dn nu d)))) (MW g a z hi tx ai pa tu (pdP pt rn dn nu d) ke st le th (nI rn) (pdN dn nu d) (nI dn) ha)) QF := hQF ▸ QFr.q
  by_cases h1 : dn = 1
  · skip
    refine V.aload_n 0 rfl dX6_takesDigit_0 rfl ?_
    refine V.get (v := .int nu) (fun w H => List.mem_cons_of_mem _ (List.mem_append_right _ H)) (hc := (rfl : vwCl[6]? = some (RX6, TX6, 15))) 0 11 (by decide) (List.mem_of_getElem? (i := 1) rfl) rfl rfl dX6_takesDigit_1 ?_
    refine V.iconst (v := -1) dX6_takesDigit_4 (by decide) ?_
    refine V.icmp_ne (tgt := 12) dX6_takesDigit_5 (by decide) (fun c5 => ?_) (fun c5 => ?_)
    · skip
      refine V.bipush (v := 10) dX6_takesDigit_12 (by decide) ?_
      refine V.aload_n 0 rfl dX6_takesDigit_14 rfl ?_
      refine V.get (v := .int nu) (fun w H => List.mem_cons_of_mem _ (List.mem_append_right _ H)) (hc := (rfl : vwCl[6]? = some (RX6, TX6, 15))) 0 11 (by decide) (List.mem_of_getElem? (i := 1) rfl) rfl rfl dX6_takesDigit_15 ?_
      refine V.imul dX6_takesDigit_18 ?_
      refine V.iload_n 1 rfl dX6_takesDigit_19 rfl ?_
      refine V.iadd dX6_takesDigit_20 ?_
      have hV : pdV nu d = (10 * nu) + d := by rw [pdV, if_neg c5]
      refine V.istore_n (lv2 := [(2, .int ((10 * nu) + d)), (0, .ref (a 0)), (1, .int d)]) dX6_takesDigit_21 rfl (by decide) rfl ?_
      refine V.iload_n 2 rfl dX6_takesDigit_22 rfl ?_
      refine V.iconst (v := 0) dX6_takesDigit_23 (by decide) ?_
      refine V.bipush (v := 9) dX6_takesDigit_24 (by decide) ?_
      refine V.callSf (ws2 := MW g a z hi tx ai pa tu pt ke st le th (nI rn) nu (nI dn) ha) (st2 := [.int (bi (wi d (0 : Int32) (9 : Int32)))]) [.int d, .int 0, .int 9] [] (kX6_within g d (0 : Int32) (9 : Int32) ) gX6_takesDigit_X6_within rfl (by show _ ∧ _ ∧ _ = some (3 : Nat); decide +kernel) ⟨Nat.le_of_ble_eq_true rfl, Nat.le_of_ble_eq_true rfl⟩ [] (by decide) rfl rfl (Nat.le_of_ble_eq_true rfl) ⟨Nat.le_of_ble_eq_true rfl, Nat.le_of_ble_eq_true rfl⟩ dX6_takesDigit_26 rfl (List.append_nil _) rfl rfl rfl ?_
      refine V.if_eq (tgt := 63) dX6_takesDigit_29 (by decide) (fun c29 => ?_) (fun c29 => ?_)
      · skip
        have c29 := bi_0 c29
        refine V.iconst (v := 0) dX6_takesDigit_63 (by decide) ?_
        have hb : pdB dn nu d = false := by simp [pdB, pdM, hV, h1, c29]
        refine V.istore_n (lv2 := [(3, .int 0), (2, .int ((10 * nu) + d)), (0, .ref (a 0)), (1, .int d)]) dX6_takesDigit_64 rfl (by decide) rfl ?_
        refine V.aload_n 2 rfl dX6_takesDigit_65 rfl ?_
        refine V.iload_n 0 rfl dX6_takesDigit_66 rfl ?_
        refine V.if_eq_t (tgt := 74) (by decide) dX6_takesDigit_67 (by decide) ?_
        refine V.aload_n 2 rfl dX6_takesDigit_74 rfl ?_
        refine V.get (v := .int nu) (fun w H => List.mem_cons_of_mem _ (List.mem_append_right _ H)) (hc := (rfl : vwCl[6]? = some (RX6, TX6, 15))) 0 11 (by decide) (List.mem_of_getElem? (i := 1) rfl) rfl rfl dX6_takesDigit_75 ?_
        refine V.put (v := .int nu) (ws2 := MW g a z hi tx ai pa tu pt ke st le th (nI rn) nu (nI dn) ha) (fun w H => List.mem_cons_of_mem _ (List.mem_append_right _ H)) tyX6 tyX6_ok nmX6 (hc := (rfl : vwCl[6]? = some (RX6, TX6, 15))) 0 11 (by decide) (List.mem_of_getElem? (i := 1) rfl) rfl rfl (tyX6_ok 11 (by decide)) rfl rfl (Nat.le_of_ble_eq_true rfl) rfl dX6_takesDigit_78 ?_
        refine V.eqws (ws2 := MW g a z hi tx ai pa tu pt ke st le th (nI rn) (pdN dn nu d) (nI dn) ha) (by rw [pdN, hb, if_neg (by decide)]) ?_
        refine V.aload_n 2 rfl dX6_takesDigit_81 rfl ?_
        refine V.get (v := .ref (a 7)) (fun w H => List.mem_cons_of_mem _ (List.mem_append_right _ H)) (hc := (rfl : vwCl[6]? = some (RX6, TX6, 15))) 0 9 (by decide) (List.mem_of_getElem? (i := 3) rfl) rfl rfl dX6_takesDigit_82 ?_
        refine V.iconst (v := 4) dX6_takesDigit_85 (by decide) ?_
        refine V.aload_n 2 rfl dX6_takesDigit_86 rfl ?_
        refine V.get (v := .int (nI rn)) (fun w H => List.mem_cons_of_mem _ (List.mem_append_right _ H)) (hc := (rfl : vwCl[6]? = some (RX6, TX6, 15))) 0 10 (by decide) (List.mem_of_getElem? (i := 4) rfl) rfl rfl dX6_takesDigit_87 ?_
        refine V.imulN (v := nI (4 * rn)) dX6_takesDigit_90 (pk_mul 4 rn) ?_
        refine V.aload_n 2 rfl dX6_takesDigit_91 rfl ?_
        refine V.get (v := .int (nI dn)) (fun w H => List.mem_cons_of_mem _ (List.mem_append_right _ H)) (hc := (rfl : vwCl[6]? = some (RX6, TX6, 15))) 0 12 (by decide) (List.mem_of_getElem? (i := 2) rfl) rfl rfl dX6_takesDigit_92 ?_
        refine V.iconst (v := 1) dX6_takesDigit_95 (by decide) ?_
        refine V.icmp_ne_f (tgt := 103) (by rw [h1]; rfl) dX6_takesDigit_96 (by decide) ?_
        refine V.iconst (v := 1) dX6_takesDigit_99 (by decide) ?_
        refine V.goto (tgt := 104) dX6_takesDigit_100 (by decide) ?_
        refine V.iaddN (v := nI (4 * rn + 1)) dX6_takesDigit_104 (nI_add (4 * rn) 1) ?_
        refine V.aload_n 2 rfl dX6_takesDigit_105 rfl ?_
        refine V.get (v := .int (pdN dn nu d)) (fun w H => List.mem_cons_of_mem _ (List.mem_append_right _ H)) (hc := (rfl : vwCl[6]? = some (RX6, TX6, 15))) 0 11 (by decide) (List.mem_of_getElem? (i := 1) rfl) rfl rfl dX6_takesDigit_106 ?_
        refine V.iast (f := pt) (ws2 := MW g a z hi tx ai pa tu (upd pt (4 * rn + 1) (pdN dn nu d)) ke st le th (nI rn) (pdN dn nu d) (nI dn) ha) 7 (4 * rn + 1) rfl rfl (by omega) (by decide) rfl dX6_takesDigit_109 ?_
        refine V.iload_n 0 rfl dX6_takesDigit_110 rfl ?_
        exact V.zret hq XM.r rfl (Nat.le_of_ble_eq_true rfl) (Nat.le_of_ble_eq_true rfl) ⟨by rw [hb] <;> rfl, by rw [pdP, pdO, if_pos h1]⟩ dX6_takesDigit_111
      · skip
        have c29 := bi_1 c29
        refine V.aload_n 1 rfl dX6_takesDigit_32 rfl ?_
        refine V.get (v := .int nu) (fun w H => List.mem_cons_of_mem _ (List.mem_append_right _ H)) (hc := (rfl : vwCl[6]? = some (RX6, TX6, 15))) 0 11 (by decide) (List.mem_of_getElem? (i := 1) rfl) rfl rfl dX6_takesDigit_33 ?_
        refine V.if_eq (tgt := 63) dX6_takesDigit_36 (by decide) (fun c36 => ?_) (fun c36 => ?_)
        · skip
          refine V.iconst (v := 0) dX6_takesDigit_63 (by decide) ?_
          have hb : pdB dn nu d = false := by simp [pdB, pdM, hV, h1, c29, c36]
          refine V.istore_n (lv2 := [(3, .int 0), (2, .int ((10 * nu) + d)), (0, .ref (a 0)), (1, .int d)]) dX6_takesDigit_64 rfl (by decide) rfl ?_
          refine V.aload_n 2 rfl dX6_takesDigit_65 rfl ?_
          refine V.iload_n 0 rfl dX6_takesDigit_66 rfl ?_
          refine V.if_eq_t (tgt := 74) (by decide) dX6_takesDigit_67 (by decide) ?_
          refine V.aload_n 2 rfl dX6_takesDigit_74 rfl ?_
          refine V.get (v := .int nu) (fun w H => List.mem_cons_of_mem _ (List.mem_append_right _ H)) (hc := (rfl : vwCl[6]? = some (RX6, TX6, 15))) 0 11 (by decide) (List.mem_of_getElem? (i := 1) rfl) rfl rfl dX6_takesDigit_75 ?_
          refine V.put (v := .int nu) (ws2 := MW g a z hi tx ai pa tu pt ke st le th (nI rn) nu (nI dn) ha) (fun w H => List.mem_cons_of_mem _ (List.mem_append_right _ H)) tyX6 tyX6_ok nmX6 (hc := (rfl : vwCl[6]? = some (RX6, TX6, 15))) 0 11 (by decide) (List.mem_of_getElem? (i := 1) rfl) rfl rfl (tyX6_ok 11 (by decide)) rfl rfl (Nat.le_of_ble_eq_true rfl) rfl dX6_takesDigit_78 ?_
          refine V.eqws (ws2 := MW g a z hi tx ai pa tu pt ke st le th (nI rn) (pdN dn nu d) (nI dn) ha) (by rw [pdN, hb, if_neg (by decide)]) ?_
          refine V.aload_n 2 rfl dX6_takesDigit_81 rfl ?_
          refine V.get (v := .ref (a 7)) (fun w H => List.mem_cons_of_mem _ (List.mem_append_right _ H)) (hc := (rfl : vwCl[6]? = some (RX6, TX6, 15))) 0 9 (by decide) (List.mem_of_getElem? (i := 3) rfl) rfl rfl dX6_takesDigit_82 ?_
          refine V.iconst (v := 4) dX6_takesDigit_85 (by decide) ?_
          refine V.aload_n 2 rfl dX6_takesDigit_86 rfl ?_
          refine V.get (v := .int (nI rn)) (fun w H => List.mem_cons_of_mem _ (List.mem_append_right _ H)) (hc := (rfl : vwCl[6]? = some (RX6, TX6, 15))) 0 10 (by decide) (List.mem_of_getElem? (i := 4) rfl) rfl rfl dX6_takesDigit_87 ?_
          refine V.imulN (v := nI (4 * rn)) dX6_takesDigit_90 (pk_mul 4 rn) ?_
          refine V.aload_n 2 rfl dX6_takesDigit_91 rfl ?_
          refine V.get (v := .int (nI dn)) (fun w H => List.mem_cons_of_mem _ (List.mem_append_right _ H)) (hc := (rfl : vwCl[6]? = some (RX6, TX6, 15))) 0 12 (by decide) (List.mem_of_getElem? (i := 2) rfl) rfl rfl dX6_takesDigit_92 ?_
          refine V.iconst (v := 1) dX6_takesDigit_95 (by decide) ?_
          refine V.icmp_ne_f (tgt := 103) (by rw [h1]; rfl) dX6_takesDigit_96 (by decide) ?_
          refine V.iconst (v := 1) dX6_takesDigit_99 (by decide) ?_
          refine V.goto (tgt := 104) dX6_takesDigit_100 (by decide) ?_
          refine V.iaddN (v := nI (4 * rn + 1)) dX6_takesDigit_104 (nI_add (4 * rn) 1) ?_
          refine V.aload_n 2 rfl dX6_takesDigit_105 rfl ?_
          refine V.get (v := .int (pdN dn nu d)) (fun w H => List.mem_cons_of_mem _ (List.mem_append_right _ H)) (hc := (rfl : vwCl[6]? = some (RX6, TX6, 15))) 0 11 (by decide) (List.mem_of_getElem? (i := 1) rfl) rfl rfl dX6_takesDigit_106 ?_
          refine V.iast (f := pt) (ws2 := MW g a z hi tx ai pa tu (upd pt (4 * rn + 1) (pdN dn nu d)) ke st le th (nI rn) (pdN dn nu d) (nI dn) ha) 7 (4 * rn + 1) rfl rfl (by omega) (by decide) rfl dX6_takesDigit_109 ?_
          refine V.iload_n 0 rfl dX6_takesDigit_110 rfl ?_
          exact V.zret hq XM.r rfl (Nat.le_of_ble_eq_true rfl) (Nat.le_of_ble_eq_true rfl) ⟨by rw [hb] <;> rfl, by rw [pdP, pdO, if_pos h1]⟩ dX6_takesDigit_111
        · skip
          refine V.iload_n 0 rfl dX6_takesDigit_39 rfl ?_
          refine V.aload_n 1 rfl dX6_takesDigit_40 rfl ?_
          refine V.get (v := .int (nI dn)) (fun w H => List.mem_cons_of_mem _ (List.mem_append_right _ H)) (hc := (rfl : vwCl[6]? = some (RX6, TX6, 15))) 0 12 (by decide) (List.mem_of_getElem? (i := 2) rfl) rfl rfl dX6_takesDigit_41 ?_
          refine V.iconst (v := 1) dX6_takesDigit_44 (by decide) ?_
          refine V.icmp_ne_f (tgt := 53) (by rw [h1]; rfl) dX6_takesDigit_45 (by decide) ?_
          refine V.bipush (v := 99) dX6_takesDigit_48 (by decide) ?_
          refine V.goto (tgt := 56) dX6_takesDigit_50 (by decide) ?_
          refine V.icmp_gt (tgt := 63) dX6_takesDigit_56 (by decide) (fun c56 => ?_) (fun c56 => ?_)
          · skip
            refine V.iconst (v := 0) dX6_takesDigit_63 (by decide) ?_
            have hb : pdB dn nu d = false := by simp [pdB, pdM, hV, h1, c29, c36, c56]
            refine V.istore_n (lv2 := [(3, .int 0), (2, .int ((10 * nu) + d)), (0, .ref (a 0)), (1, .int d)]) dX6_takesDigit_64 rfl (by decide) rfl ?_
            refine V.aload_n 2 rfl dX6_takesDigit_65 rfl ?_
            refine V.iload_n 0 rfl dX6_takesDigit_66 rfl ?_
            refine V.if_eq_t (tgt := 74) (by decide) dX6_takesDigit_67 (by decide) ?_
            refine V.aload_n 2 rfl dX6_takesDigit_74 rfl ?_
            refine V.get (v := .int nu) (fun w H => List.mem_cons_of_mem _ (List.mem_append_right _ H)) (hc := (rfl : vwCl[6]? = some (RX6, TX6, 15))) 0 11 (by decide) (List.mem_of_getElem? (i := 1) rfl) rfl rfl dX6_takesDigit_75 ?_
            refine V.put (v := .int nu) (ws2 := MW g a z hi tx ai pa tu pt ke st le th (nI rn) nu (nI dn) ha) (fun w H => List.mem_cons_of_mem _ (List.mem_append_right _ H)) tyX6 tyX6_ok nmX6 (hc := (rfl : vwCl[6]? = some (RX6, TX6, 15))) 0 11 (by decide) (List.mem_of_getElem? (i := 1) rfl) rfl rfl (tyX6_ok 11 (by decide)) rfl rfl (Nat.le_of_ble_eq_true rfl) rfl dX6_takesDigit_78 ?_
            refine V.eqws (ws2 := MW g a z hi tx ai pa tu pt ke st le th (nI rn) (pdN dn nu d) (nI dn) ha) (by rw [pdN, hb, if_neg (by decide)]) ?_
            refine V.aload_n 2 rfl dX6_takesDigit_81 rfl ?_
            refine V.get (v := .ref (a 7)) (fun w H => List.mem_cons_of_mem _ (List.mem_append_right _ H)) (hc := (rfl : vwCl[6]? = some (RX6, TX6, 15))) 0 9 (by decide) (List.mem_of_getElem? (i := 3) rfl) rfl rfl dX6_takesDigit_82 ?_
            refine V.iconst (v := 4) dX6_takesDigit_85 (by decide) ?_
            refine V.aload_n 2 rfl dX6_takesDigit_86 rfl ?_
            refine V.get (v := .int (nI rn)) (fun w H => List.mem_cons_of_mem _ (List.mem_append_right _ H)) (hc := (rfl : vwCl[6]? = some (RX6, TX6, 15))) 0 10 (by decide) (List.mem_of_getElem? (i := 4) rfl) rfl rfl dX6_takesDigit_87 ?_
            refine V.imulN (v := nI (4 * rn)) dX6_takesDigit_90 (pk_mul 4 rn) ?_
            refine V.aload_n 2 rfl dX6_takesDigit_91 rfl ?_
            refine V.get (v := .int (nI dn)) (fun w H => List.mem_cons_of_mem _ (List.mem_append_right _ H)) (hc := (rfl : vwCl[6]? = some (RX6, TX6, 15))) 0 12 (by decide) (List.mem_of_getElem? (i := 2) rfl) rfl rfl dX6_takesDigit_92 ?_
            refine V.iconst (v := 1) dX6_takesDigit_95 (by decide) ?_
            refine V.icmp_ne_f (tgt := 103) (by rw [h1]; rfl) dX6_takesDigit_96 (by decide) ?_
            refine V.iconst (v := 1) dX6_takesDigit_99 (by decide) ?_
            refine V.goto (tgt := 104) dX6_takesDigit_100 (by decide) ?_
            refine V.iaddN (v := nI (4 * rn + 1)) dX6_takesDigit_104 (nI_add (4 * rn) 1) ?_
            refine V.aload_n 2 rfl dX6_takesDigit_105 rfl ?_
            refine V.get (v := .int (pdN dn nu d)) (fun w H => List.mem_cons_of_mem _ (List.mem_append_right _ H)) (hc := (rfl : vwCl[6]? = some (RX6, TX6, 15))) 0 11 (by decide) (List.mem_of_getElem? (i := 1) rfl) rfl rfl dX6_takesDigit_106 ?_
            refine V.iast (f := pt) (ws2 := MW g a z hi tx ai pa tu (upd pt (4 * rn + 1) (pdN dn nu d)) ke st le th (nI rn) (pdN dn nu d) (nI dn) ha) 7 (4 * rn + 1) rfl rfl (by omega) (by decide) rfl dX6_takesDigit_109 ?_
            refine V.iload_n 0 rfl dX6_takesDigit_110 rfl ?_
            exact V.zret hq XM.r rfl (Nat.le_of_ble_eq_true rfl) (Nat.le_of_ble_eq_true rfl) ⟨by rw [hb] <;> rfl, by rw [pdP, pdO, if_pos h1]⟩ dX6_takesDigit_111
          · skip
            refine V.iconst (v := 1) dX6_takesDigit_59 (by decide) ?_
            refine V.goto (tgt := 64) dX6_takesDigit_60 (by decide) ?_
            have hb : pdB dn nu d = true := by simp [pdB, pdM, hV, h1, c29, c36, c56]
            refine V.istore_n (lv2 := [(3, .int 1), (2, .int ((10 * nu) + d)), (0, .ref (a 0)), (1, .int d)]) dX6_takesDigit_64 rfl (by decide) rfl ?_
            refine V.aload_n 2 rfl dX6_takesDigit_65 rfl ?_
            refine V.iload_n 0 rfl dX6_takesDigit_66 rfl ?_
            refine V.if_eq_f (tgt := 74) (by decide) dX6_takesDigit_67 (by decide) ?_
            refine V.iload_n 1 rfl dX6_takesDigit_70 rfl ?_
            refine V.goto (tgt := 78) dX6_takesDigit_71 (by decide) ?_
            refine V.put (v := .int ((10 * nu) + d)) (ws2 := MW g a z hi tx ai pa tu pt ke st le th (nI rn) ((10 * nu) + d) (nI dn) ha) (fun w H => List.mem_cons_of_mem _ (List.mem_append_right _ H)) tyX6 tyX6_ok nmX6 (hc := (rfl : vwCl[6]? = some (RX6, TX6, 15))) 0 11 (by decide) (List.mem_of_getElem? (i := 1) rfl) rfl rfl (tyX6_ok 11 (by decide)) rfl rfl (Nat.le_of_ble_eq_true rfl) rfl dX6_takesDigit_78 ?_
            refine V.eqws (ws2 := MW g a z hi tx ai pa tu pt ke st le th (nI rn) (pdN dn nu d) (nI dn) ha) (by rw [pdN, hb, if_pos rfl, hV]) ?_
            refine V.aload_n 2 rfl dX6_takesDigit_81 rfl ?_
            refine V.get (v := .ref (a 7)) (fun w H => List.mem_cons_of_mem _ (List.mem_append_right _ H)) (hc := (rfl : vwCl[6]? = some (RX6, TX6, 15))) 0 9 (by decide) (List.mem_of_getElem? (i := 3) rfl) rfl rfl dX6_takesDigit_82 ?_
            refine V.iconst (v := 4) dX6_takesDigit_85 (by decide) ?_
            refine V.aload_n 2 rfl dX6_takesDigit_86 rfl ?_
            refine V.get (v := .int (nI rn)) (fun w H => List.mem_cons_of_mem _ (List.mem_append_right _ H)) (hc := (rfl : vwCl[6]? = some (RX6, TX6, 15))) 0 10 (by decide) (List.mem_of_getElem? (i := 4) rfl) rfl rfl dX6_takesDigit_87 ?_
            refine V.imulN (v := nI (4 * rn)) dX6_takesDigit_90 (pk_mul 4 rn) ?_
            refine V.aload_n 2 rfl dX6_takesDigit_91 rfl ?_
            refine V.get (v := .int (nI dn)) (fun w H => List.mem_cons_of_mem _ (List.mem_append_right _ H)) (hc := (rfl : vwCl[6]? = some (RX6, TX6, 15))) 0 12 (by decide) (List.mem_of_getElem? (i := 2) rfl) rfl rfl dX6_takesDigit_92 ?_
            refine V.iconst (v := 1) dX6_takesDigit_95 (by decide) ?_
            refine V.icmp_ne_f (tgt := 103) (by rw [h1]; rfl) dX6_takesDigit_96 (by decide) ?_
            refine V.iconst (v := 1) dX6_takesDigit_99 (by decide) ?_
            refine V.goto (tgt := 104) dX6_takesDigit_100 (by decide) ?_
            refine V.iaddN (v := nI (4 * rn + 1)) dX6_takesDigit_104 (nI_add (4 * rn) 1) ?_
            refine V.aload_n 2 rfl dX6_takesDigit_105 rfl ?_
            refine V.get (v := .int (pdN dn nu d)) (fun w H => List.mem_cons_of_mem _ (List.mem_append_right _ H)) (hc := (rfl : vwCl[6]? = some (RX6, TX6, 15))) 0 11 (by decide) (List.mem_of_getElem? (i := 1) rfl) rfl rfl dX6_takesDigit_106 ?_
            refine V.iast (f := pt) (ws2 := MW g a z hi tx ai pa tu (upd pt (4 * rn + 1) (pdN dn nu d)) ke st le th (nI rn) (pdN dn nu d) (nI dn) ha) 7 (4 * rn + 1) rfl rfl (by omega) (by decide) rfl dX6_takesDigit_109 ?_
            refine V.iload_n 0 rfl dX6_takesDigit_110 rfl ?_
            exact V.zret hq XM.r rfl (Nat.le_of_ble_eq_true rfl) (Nat.le_of_ble_eq_true rfl) ⟨by rw [hb] <;> rfl, by rw [pdP, pdO, if_pos h1]⟩ dX6_takesDigit_111
    · skip
      refine V.iload_n 1 rfl dX6_takesDigit_8 rfl ?_
      refine V.goto (tgt := 21) dX6_takesDigit_9 (by decide) ?_
      have hV : pdV nu d = d := by rw [pdV, if_pos c5]
      refine V.istore_n (lv2 := [(2, .int d), (0, .ref (a 0)), (1, .int d)]) dX6_takesDigit_21 rfl (by decide) rfl ?_
      refine V.iload_n 2 rfl dX6_takesDigit_22 rfl ?_
      refine V.iconst (v := 0) dX6_takesDigit_23 (by decide) ?_
      refine V.bipush (v := 9) dX6_takesDigit_24 (by decide) ?_
      refine V.callSf (ws2 := MW g a z hi tx ai pa tu pt ke st le th (nI rn) nu (nI dn) ha) (st2 := [.int (bi (wi d (0 : Int32) (9 : Int32)))]) [.int d, .int 0, .int 9] [] (kX6_within g d (0 : Int32) (9 : Int32) ) gX6_takesDigit_X6_within rfl (by show _ ∧ _ ∧ _ = some (3 : Nat); decide +kernel) ⟨Nat.le_of_ble_eq_true rfl, Nat.le_of_ble_eq_true rfl⟩ [] (by decide) rfl rfl (Nat.le_of_ble_eq_true rfl) ⟨Nat.le_of_ble_eq_true rfl, Nat.le_of_ble_eq_true rfl⟩ dX6_takesDigit_26 rfl (List.append_nil _) rfl rfl rfl ?_
      refine V.if_eq (tgt := 63) dX6_takesDigit_29 (by decide) (fun c29 => ?_) (fun c29 => ?_)
      · skip
        have c29 := bi_0 c29
        refine V.iconst (v := 0) dX6_takesDigit_63 (by decide) ?_
        have hb : pdB dn nu d = false := by simp [pdB, pdM, hV, h1, c29]
        refine V.istore_n (lv2 := [(3, .int 0), (2, .int d), (0, .ref (a 0)), (1, .int d)]) dX6_takesDigit_64 rfl (by decide) rfl ?_
        refine V.aload_n 2 rfl dX6_takesDigit_65 rfl ?_
        refine V.iload_n 0 rfl dX6_takesDigit_66 rfl ?_
        refine V.if_eq_t (tgt := 74) (by decide) dX6_takesDigit_67 (by decide) ?_
        refine V.aload_n 2 rfl dX6_takesDigit_74 rfl ?_
        refine V.get (v := .int nu) (fun w H => List.mem_cons_of_mem _ (List.mem_append_right _ H)) (hc := (rfl : vwCl[6]? = some (RX6, TX6, 15))) 0 11 (by decide) (List.mem_of_getElem? (i := 1) rfl) rfl rfl dX6_takesDigit_75 ?_
        refine V.put (v := .int nu) (ws2 := MW g a z hi tx ai pa tu pt ke st le th (nI rn) nu (nI dn) ha) (fun w H => List.mem_cons_of_mem _ (List.mem_append_right _ H)) tyX6 tyX6_ok nmX6 (hc := (rfl : vwCl[6]? = some (RX6, TX6, 15))) 0 11 (by decide) (List.mem_of_getElem? (i := 1) rfl) rfl rfl (tyX6_ok 11 (by decide)) rfl rfl (Nat.le_of_ble_eq_true rfl) rfl dX6_takesDigit_78 ?_
        refine V.eqws (ws2 := MW g a z hi tx ai pa tu pt ke st le th (nI rn) (pdN dn nu d) (nI dn) ha) (by rw [pdN, hb, if_neg (by decide)]) ?_
        refine V.aload_n 2 rfl dX6_takesDigit_81 rfl ?_
        refine V.get (v := .ref (a 7)) (fun w H => List.mem_cons_of_mem _ (List.mem_append_right _ H)) (hc := (rfl : vwCl[6]? = some (RX6, TX6, 15))) 0 9 (by decide) (List.mem_of_getElem? (i := 3) rfl) rfl rfl dX6_takesDigit_82 ?_
        refine V.iconst (v := 4) dX6_takesDigit_85 (by decide) ?_
        refine V.aload_n 2 rfl dX6_takesDigit_86 rfl ?_
        refine V.get (v := .int (nI rn)) (fun w H => List.mem_cons_of_mem _ (List.mem_append_right _ H)) (hc := (rfl : vwCl[6]? = some (RX6, TX6, 15))) 0 10 (by decide) (List.mem_of_getElem? (i := 4) rfl) rfl rfl dX6_takesDigit_87 ?_
        refine V.imulN (v := nI (4 * rn)) dX6_takesDigit_90 (pk_mul 4 rn) ?_
        refine V.aload_n 2 rfl dX6_takesDigit_91 rfl ?_
        refine V.get (v := .int (nI dn)) (fun w H => List.mem_cons_of_mem _ (List.mem_append_right _ H)) (hc := (rfl : vwCl[6]? = some (RX6, TX6, 15))) 0 12 (by decide) (List.mem_of_getElem? (i := 2) rfl) rfl rfl dX6_takesDigit_92 ?_
        refine V.iconst (v := 1) dX6_takesDigit_95 (by decide) ?_
        refine V.icmp_ne_f (tgt := 103) (by rw [h1]; rfl) dX6_takesDigit_96 (by decide) ?_
        refine V.iconst (v := 1) dX6_takesDigit_99 (by decide) ?_
        refine V.goto (tgt := 104) dX6_takesDigit_100 (by decide) ?_
        refine V.iaddN (v := nI (4 * rn + 1)) dX6_takesDigit_104 (nI_add (4 * rn) 1) ?_
        refine V.aload_n 2 rfl dX6_takesDigit_105 rfl ?_
        refine V.get (v := .int (pdN dn nu d)) (fun w H => List.mem_cons_of_mem _ (List.mem_append_right _ H)) (hc := (rfl : vwCl[6]? = some (RX6, TX6, 15))) 0 11 (by decide) (List.mem_of_getElem? (i := 1) rfl) rfl rfl dX6_takesDigit_106 ?_
        refine V.iast (f := pt) (ws2 := MW g a z hi tx ai pa tu (upd pt (4 * rn + 1) (pdN dn nu d)) ke st le th (nI rn) (pdN dn nu d) (nI dn) ha) 7 (4 * rn + 1) rfl rfl (by omega) (by decide) rfl dX6_takesDigit_109 ?_
        refine V.iload_n 0 rfl dX6_takesDigit_110 rfl ?_
        exact V.zret hq XM.r rfl (Nat.le_of_ble_eq_true rfl) (Nat.le_of_ble_eq_true rfl) ⟨by rw [hb] <;> rfl, by rw [pdP, pdO, if_pos h1]⟩ dX6_takesDigit_111
      · skip
        have c29 := bi_1 c29
        refine V.aload_n 1 rfl dX6_takesDigit_32 rfl ?_
        refine V.get (v := .int nu) (fun w H => List.mem_cons_of_mem _ (List.mem_append_right _ H)) (hc := (rfl : vwCl[6]? = some (RX6, TX6, 15))) 0 11 (by decide) (List.mem_of_getElem? (i := 1) rfl) rfl rfl dX6_takesDigit_33 ?_
        refine V.if_eq (tgt := 63) dX6_takesDigit_36 (by decide) (fun c36 => ?_) (fun c36 => ?_)
        · skip
          refine V.iconst (v := 0) dX6_takesDigit_63 (by decide) ?_
          have hb : pdB dn nu d = false := by simp [pdB, pdM, hV, h1, c29, c36]
          refine V.istore_n (lv2 := [(3, .int 0), (2, .int d), (0, .ref (a 0)), (1, .int d)]) dX6_takesDigit_64 rfl (by decide) rfl ?_
          refine V.aload_n 2 rfl dX6_takesDigit_65 rfl ?_
          refine V.iload_n 0 rfl dX6_takesDigit_66 rfl ?_
          refine V.if_eq_t (tgt := 74) (by decide) dX6_takesDigit_67 (by decide) ?_
          refine V.aload_n 2 rfl dX6_takesDigit_74 rfl ?_
          refine V.get (v := .int nu) (fun w H => List.mem_cons_of_mem _ (List.mem_append_right _ H)) (hc := (rfl : vwCl[6]? = some (RX6, TX6, 15))) 0 11 (by decide) (List.mem_of_getElem? (i := 1) rfl) rfl rfl dX6_takesDigit_75 ?_
          refine V.put (v := .int nu) (ws2 := MW g a z hi tx ai pa tu pt ke st le th (nI rn) nu (nI dn) ha) (fun w H => List.mem_cons_of_mem _ (List.mem_append_right _ H)) tyX6 tyX6_ok nmX6 (hc := (rfl : vwCl[6]? = some (RX6, TX6, 15))) 0 11 (by decide) (List.mem_of_getElem? (i := 1) rfl) rfl rfl (tyX6_ok 11 (by decide)) rfl rfl (Nat.le_of_ble_eq_true rfl) rfl dX6_takesDigit_78 ?_
          refine V.eqws (ws2 := MW g a z hi tx ai pa tu pt ke st le th (nI rn) (pdN dn nu d) (nI dn) ha) (by rw [pdN, hb, if_neg (by decide)]) ?_
          refine V.aload_n 2 rfl dX6_takesDigit_81 rfl ?_
          refine V.get (v := .ref (a 7)) (fun w H => List.mem_cons_of_mem _ (List.mem_append_right _ H)) (hc := (rfl : vwCl[6]? = some (RX6, TX6, 15))) 0 9 (by decide) (List.mem_of_getElem? (i := 3) rfl) rfl rfl dX6_takesDigit_82 ?_
          refine V.iconst (v := 4) dX6_takesDigit_85 (by decide) ?_
          refine V.aload_n 2 rfl dX6_takesDigit_86 rfl ?_
          refine V.get (v := .int (nI rn)) (fun w H => List.mem_cons_of_mem _ (List.mem_append_right _ H)) (hc := (rfl : vwCl[6]? = some (RX6, TX6, 15))) 0 10 (by decide) (List.mem_of_getElem? (i := 4) rfl) rfl rfl dX6_takesDigit_87 ?_
          refine V.imulN (v := nI (4 * rn)) dX6_takesDigit_90 (pk_mul 4 rn) ?_
          refine V.aload_n 2 rfl dX6_takesDigit_91 rfl ?_
          refine V.get (v := .int (nI dn)) (fun w H => List.mem_cons_of_mem _ (List.mem_append_right _ H)) (hc := (rfl : vwCl[6]? = some (RX6, TX6, 15))) 0 12 (by decide) (List.mem_of_getElem? (i := 2) rfl) rfl rfl dX6_takesDigit_92 ?_
          refine V.iconst (v := 1) dX6_takesDigit_95 (by decide) ?_
          refine V.icmp_ne_f (tgt := 103) (by rw [h1]; rfl) dX6_takesDigit_96 (by decide) ?_
          refine V.iconst (v := 1) dX6_takesDigit_99 (by decide) ?_
          refine V.goto (tgt := 104) dX6_takesDigit_100 (by decide) ?_
          refine V.iaddN (v := nI (4 * rn + 1)) dX6_takesDigit_104 (nI_add (4 * rn) 1) ?_
          refine V.aload_n 2 rfl dX6_takesDigit_105 rfl ?_
          refine V.get (v := .int (pdN dn nu d)) (fun w H => List.mem_cons_of_mem _ (List.mem_append_right _ H)) (hc := (rfl : vwCl[6]? = some (RX6, TX6, 15))) 0 11 (by decide) (List.mem_of_getElem? (i := 1) rfl) rfl rfl dX6_takesDigit_106 ?_
          refine V.iast (f := pt) (ws2 := MW g a z hi tx ai pa tu (upd pt (4 * rn + 1) (pdN dn nu d)) ke st le th (nI rn) (pdN dn nu d) (nI dn) ha) 7 (4 * rn + 1) rfl rfl (by omega) (by decide) rfl dX6_takesDigit_109 ?_
          refine V.iload_n 0 rfl dX6_takesDigit_110 rfl ?_
          exact V.zret hq XM.r rfl (Nat.le_of_ble_eq_true rfl) (Nat.le_of_ble_eq_true rfl) ⟨by rw [hb] <;> rfl, by rw [pdP, pdO, if_pos h1]⟩ dX6_takesDigit_111
        · skip
          refine V.iload_n 0 rfl dX6_takesDigit_39 rfl ?_
          refine V.aload_n 1 rfl dX6_takesDigit_40 rfl ?_
          refine V.get (v := .int (nI dn)) (fun w H => List.mem_cons_of_mem _ (List.mem_append_right _ H)) (hc := (rfl : vwCl[6]? = some (RX6, TX6, 15))) 0 12 (by decide) (List.mem_of_getElem? (i := 2) rfl) rfl rfl dX6_takesDigit_41 ?_
          refine V.iconst (v := 1) dX6_takesDigit_44 (by decide) ?_
          refine V.icmp_ne_f (tgt := 53) (by rw [h1]; rfl) dX6_takesDigit_45 (by decide) ?_
          refine V.bipush (v := 99) dX6_takesDigit_48 (by decide) ?_
          refine V.goto (tgt := 56) dX6_takesDigit_50 (by decide) ?_
          refine V.icmp_gt (tgt := 63) dX6_takesDigit_56 (by decide) (fun c56 => ?_) (fun c56 => ?_)
          · skip
            refine V.iconst (v := 0) dX6_takesDigit_63 (by decide) ?_
            have hb : pdB dn nu d = false := by simp [pdB, pdM, hV, h1, c29, c36, c56]
            refine V.istore_n (lv2 := [(3, .int 0), (2, .int d), (0, .ref (a 0)), (1, .int d)]) dX6_takesDigit_64 rfl (by decide) rfl ?_
            refine V.aload_n 2 rfl dX6_takesDigit_65 rfl ?_
            refine V.iload_n 0 rfl dX6_takesDigit_66 rfl ?_
            refine V.if_eq_t (tgt := 74) (by decide) dX6_takesDigit_67 (by decide) ?_
            refine V.aload_n 2 rfl dX6_takesDigit_74 rfl ?_
            refine V.get (v := .int nu) (fun w H => List.mem_cons_of_mem _ (List.mem_append_right _ H)) (hc := (rfl : vwCl[6]? = some (RX6, TX6, 15))) 0 11 (by decide) (List.mem_of_getElem? (i := 1) rfl) rfl rfl dX6_takesDigit_75 ?_
            refine V.put (v := .int nu) (ws2 := MW g a z hi tx ai pa tu pt ke st le th (nI rn) nu (nI dn) ha) (fun w H => List.mem_cons_of_mem _ (List.mem_append_right _ H)) tyX6 tyX6_ok nmX6 (hc := (rfl : vwCl[6]? = some (RX6, TX6, 15))) 0 11 (by decide) (List.mem_of_getElem? (i := 1) rfl) rfl rfl (tyX6_ok 11 (by decide)) rfl rfl (Nat.le_of_ble_eq_true rfl) rfl dX6_takesDigit_78 ?_
            refine V.eqws (ws2 := MW g a z hi tx ai pa tu pt ke st le th (nI rn) (pdN dn nu d) (nI dn) ha) (by rw [pdN, hb, if_neg (by decide)]) ?_
            refine V.aload_n 2 rfl dX6_takesDigit_81 rfl ?_
            refine V.get (v := .ref (a 7)) (fun w H => List.mem_cons_of_mem _ (List.mem_append_right _ H)) (hc := (rfl : vwCl[6]? = some (RX6, TX6, 15))) 0 9 (by decide) (List.mem_of_getElem? (i := 3) rfl) rfl rfl dX6_takesDigit_82 ?_
            refine V.iconst (v := 4) dX6_takesDigit_85 (by decide) ?_
            refine V.aload_n 2 rfl dX6_takesDigit_86 rfl ?_
            refine V.get (v := .int (nI rn)) (fun w H => List.mem_cons_of_mem _ (List.mem_append_right _ H)) (hc := (rfl : vwCl[6]? = some (RX6, TX6, 15))) 0 10 (by decide) (List.mem_of_getElem? (i := 4) rfl) rfl rfl dX6_takesDigit_87 ?_
            refine V.imulN (v := nI (4 * rn)) dX6_takesDigit_90 (pk_mul 4 rn) ?_
            refine V.aload_n 2 rfl dX6_takesDigit_91 rfl ?_
            refine V.get (v := .int (nI dn)) (fun w H => List.mem_cons_of_mem _ (List.mem_append_right _ H)) (hc := (rfl : vwCl[6]? = some (RX6, TX6, 15))) 0 12 (by decide) (List.mem_of_getElem? (i := 2) rfl) rfl rfl dX6_takesDigit_92 ?_
            refine V.iconst (v := 1) dX6_takesDigit_95 (by decide) ?_
            refine V.icmp_ne_f (tgt := 103) (by rw [h1]; rfl) dX6_takesDigit_96 (by decide) ?_
            refine V.iconst (v := 1) dX6_takesDigit_99 (by decide) ?_
            refine V.goto (tgt := 104) dX6_takesDigit_100 (by decide) ?_
            refine V.iaddN (v := nI (4 * rn + 1)) dX6_takesDigit_104 (nI_add (4 * rn) 1) ?_
            refine V.aload_n 2 rfl dX6_takesDigit_105 rfl ?_
            refine V.get (v := .int (pdN dn nu d)) (fun w H => List.mem_cons_of_mem _ (List.mem_append_right _ H)) (hc := (rfl : vwCl[6]? = some (RX6, TX6, 15))) 0 11 (by decide) (List.mem_of_getElem? (i := 1) rfl) rfl rfl dX6_takesDigit_106 ?_
            refine V.iast (f := pt) (ws2 := MW g a z hi tx ai pa tu (upd pt (4 * rn + 1) (pdN dn nu d)) ke st le th (nI rn) (pdN dn nu d) (nI dn) ha) 7 (4 * rn + 1) rfl rfl (by omega) (by decide) rfl dX6_takesDigit_109 ?_
            refine V.iload_n 0 rfl dX6_takesDigit_110 rfl ?_
            exact V.zret hq XM.r rfl (Nat.le_of_ble_eq_true rfl) (Nat.le_of_ble_eq_true rfl) ⟨by rw [hb] <;> rfl, by rw [pdP, pdO, if_pos h1]⟩ dX6_takesDigit_111
          · skip
            refine V.iconst (v := 1) dX6_takesDigit_59 (by decide) ?_
            refine V.goto (tgt := 64) dX6_takesDigit_60 (by decide) ?_
            have hb : pdB dn nu d = true := by simp [pdB, pdM, hV, h1, c29, c36, c56]
            refine V.istore_n (lv2 := [(3, .int 1), (2, .int d), (0, .ref (a 0)), (1, .int d)]) dX6_takesDigit_64 rfl (by decide) rfl ?_
            refine V.aload_n 2 rfl dX6_takesDigit_65 rfl ?_
            refine V.iload_n 0 rfl dX6_takesDigit_66 rfl ?_
            refine V.if_eq_f (tgt := 74) (by decide) dX6_takesDigit_67 (by decide) ?_
            refine V.iload_n 1 rfl dX6_takesDigit_70 rfl ?_
            refine V.goto (tgt := 78) dX6_takesDigit_71 (by decide) ?_
            refine V.put (v := .int d) (ws2 := MW g a z hi tx ai pa tu pt ke st le th (nI rn) d (nI dn) ha) (fun w H => List.mem_cons_of_mem _ (List.mem_append_right _ H)) tyX6 tyX6_ok nmX6 (hc := (rfl : vwCl[6]? = some (RX6, TX6, 15))) 0 11 (by decide) (List.mem_of_getElem? (i := 1) rfl) rfl rfl (tyX6_ok 11 (by decide)) rfl rfl (Nat.le_of_ble_eq_true rfl) rfl dX6_takesDigit_78 ?_
            refine V.eqws (ws2 := MW g a z hi tx ai pa tu pt ke st le th (nI rn) (pdN dn nu d) (nI dn) ha) (by rw [pdN, hb, if_pos rfl, hV]) ?_
            refine V.aload_n 2 rfl dX6_takesDigit_81 rfl ?_
            refine V.get (v := .ref (a 7)) (fun w H => List.mem_cons_of_mem _ (List.mem_append_right _ H)) (hc := (rfl : vwCl[6]? = some (RX6, TX6, 15))) 0 9 (by decide) (List.mem_of_getElem? (i := 3) rfl) rfl rfl dX6_takesDigit_82 ?_
            refine V.iconst (v := 4) dX6_takesDigit_85 (by decide) ?_
            refine V.aload_n 2 rfl dX6_takesDigit_86 rfl ?_
            refine V.get (v := .int (nI rn)) (fun w H => List.mem_cons_of_mem _ (List.mem_append_right _ H)) (hc := (rfl : vwCl[6]? = some (RX6, TX6, 15))) 0 10 (by decide) (List.mem_of_getElem? (i := 4) rfl) rfl rfl dX6_takesDigit_87 ?_
            refine V.imulN (v := nI (4 * rn)) dX6_takesDigit_90 (pk_mul 4 rn) ?_
            refine V.aload_n 2 rfl dX6_takesDigit_91 rfl ?_
            refine V.get (v := .int (nI dn)) (fun w H => List.mem_cons_of_mem _ (List.mem_append_right _ H)) (hc := (rfl : vwCl[6]? = some (RX6, TX6, 15))) 0 12 (by decide) (List.mem_of_getElem? (i := 2) rfl) rfl rfl dX6_takesDigit_92 ?_
            refine V.iconst (v := 1) dX6_takesDigit_95 (by decide) ?_
            refine V.icmp_ne_f (tgt := 103) (by rw [h1]; rfl) dX6_takesDigit_96 (by decide) ?_
            refine V.iconst (v := 1) dX6_takesDigit_99 (by decide) ?_
            refine V.goto (tgt := 104) dX6_takesDigit_100 (by decide) ?_
            refine V.iaddN (v := nI (4 * rn + 1)) dX6_takesDigit_104 (nI_add (4 * rn) 1) ?_
            refine V.aload_n 2 rfl dX6_takesDigit_105 rfl ?_
            refine V.get (v := .int (pdN dn nu d)) (fun w H => List.mem_cons_of_mem _ (List.mem_append_right _ H)) (hc := (rfl : vwCl[6]? = some (RX6, TX6, 15))) 0 11 (by decide) (List.mem_of_getElem? (i := 1) rfl) rfl rfl dX6_takesDigit_106 ?_
            refine V.iast (f := pt) (ws2 := MW g a z hi tx ai pa tu (upd pt (4 * rn + 1) (pdN dn nu d)) ke st le th (nI rn) (pdN dn nu d) (nI dn) ha) 7 (4 * rn + 1) rfl rfl (by omega) (by decide) rfl dX6_takesDigit_109 ?_
            refine V.iload_n 0 rfl dX6_takesDigit_110 rfl ?_
            exact V.zret hq XM.r rfl (Nat.le_of_ble_eq_true rfl) (Nat.le_of_ble_eq_true rfl) ⟨by rw [hb] <;> rfl, by rw [pdP, pdO, if_pos h1]⟩ dX6_takesDigit_111
  · skip
    refine V.aload_n 0 rfl dX6_takesDigit_0 rfl ?_
    refine V.get (v := .int nu) (fun w H => List.mem_cons_of_mem _ (List.mem_append_right _ H)) (hc := (rfl : vwCl[6]? = some (RX6, TX6, 15))) 0 11 (by decide) (List.mem_of_getElem? (i := 1) rfl) rfl rfl dX6_takesDigit_1 ?_
    refine V.iconst (v := -1) dX6_takesDigit_4 (by decide) ?_
    refine V.icmp_ne (tgt := 12) dX6_takesDigit_5 (by decide) (fun c5 => ?_) (fun c5 => ?_)
    · skip
      refine V.bipush (v := 10) dX6_takesDigit_12 (by decide) ?_
      refine V.aload_n 0 rfl dX6_takesDigit_14 rfl ?_
      refine V.get (v := .int nu) (fun w H => List.mem_cons_of_mem _ (List.mem_append_right _ H)) (hc := (rfl : vwCl[6]? = some (RX6, TX6, 15))) 0 11 (by decide) (List.mem_of_getElem? (i := 1) rfl) rfl rfl dX6_takesDigit_15 ?_
      refine V.imul dX6_takesDigit_18 ?_
      refine V.iload_n 1 rfl dX6_takesDigit_19 rfl ?_
      refine V.iadd dX6_takesDigit_20 ?_
      have hV : pdV nu d = (10 * nu) + d := by rw [pdV, if_neg c5]
      refine V.istore_n (lv2 := [(2, .int ((10 * nu) + d)), (0, .ref (a 0)), (1, .int d)]) dX6_takesDigit_21 rfl (by decide) rfl ?_
      refine V.iload_n 2 rfl dX6_takesDigit_22 rfl ?_
      refine V.iconst (v := 0) dX6_takesDigit_23 (by decide) ?_
      refine V.bipush (v := 9) dX6_takesDigit_24 (by decide) ?_
      refine V.callSf (ws2 := MW g a z hi tx ai pa tu pt ke st le th (nI rn) nu (nI dn) ha) (st2 := [.int (bi (wi d (0 : Int32) (9 : Int32)))]) [.int d, .int 0, .int 9] [] (kX6_within g d (0 : Int32) (9 : Int32) ) gX6_takesDigit_X6_within rfl (by show _ ∧ _ ∧ _ = some (3 : Nat); decide +kernel) ⟨Nat.le_of_ble_eq_true rfl, Nat.le_of_ble_eq_true rfl⟩ [] (by decide) rfl rfl (Nat.le_of_ble_eq_true rfl) ⟨Nat.le_of_ble_eq_true rfl, Nat.le_of_ble_eq_true rfl⟩ dX6_takesDigit_26 rfl (List.append_nil _) rfl rfl rfl ?_
      refine V.if_eq (tgt := 63) dX6_takesDigit_29 (by decide) (fun c29 => ?_) (fun c29 => ?_)
      · skip
        have c29 := bi_0 c29
        refine V.iconst (v := 0) dX6_takesDigit_63 (by decide) ?_
        have hb : pdB dn nu d = false := by simp [pdB, pdM, hV, h1, c29]
        refine V.istore_n (lv2 := [(3, .int 0), (2, .int ((10 * nu) + d)), (0, .ref (a 0)), (1, .int d)]) dX6_takesDigit_64 rfl (by decide) rfl ?_
        refine V.aload_n 2 rfl dX6_takesDigit_65 rfl ?_
        refine V.iload_n 0 rfl dX6_takesDigit_66 rfl ?_
        refine V.if_eq_t (tgt := 74) (by decide) dX6_takesDigit_67 (by decide) ?_
        refine V.aload_n 2 rfl dX6_takesDigit_74 rfl ?_
        refine V.get (v := .int nu) (fun w H => List.mem_cons_of_mem _ (List.mem_append_right _ H)) (hc := (rfl : vwCl[6]? = some (RX6, TX6, 15))) 0 11 (by decide) (List.mem_of_getElem? (i := 1) rfl) rfl rfl dX6_takesDigit_75 ?_
        refine V.put (v := .int nu) (ws2 := MW g a z hi tx ai pa tu pt ke st le th (nI rn) nu (nI dn) ha) (fun w H => List.mem_cons_of_mem _ (List.mem_append_right _ H)) tyX6 tyX6_ok nmX6 (hc := (rfl : vwCl[6]? = some (RX6, TX6, 15))) 0 11 (by decide) (List.mem_of_getElem? (i := 1) rfl) rfl rfl (tyX6_ok 11 (by decide)) rfl rfl (Nat.le_of_ble_eq_true rfl) rfl dX6_takesDigit_78 ?_
        refine V.eqws (ws2 := MW g a z hi tx ai pa tu pt ke st le th (nI rn) (pdN dn nu d) (nI dn) ha) (by rw [pdN, hb, if_neg (by decide)]) ?_
        refine V.aload_n 2 rfl dX6_takesDigit_81 rfl ?_
        refine V.get (v := .ref (a 7)) (fun w H => List.mem_cons_of_mem _ (List.mem_append_right _ H)) (hc := (rfl : vwCl[6]? = some (RX6, TX6, 15))) 0 9 (by decide) (List.mem_of_getElem? (i := 3) rfl) rfl rfl dX6_takesDigit_82 ?_
        refine V.iconst (v := 4) dX6_takesDigit_85 (by decide) ?_
        refine V.aload_n 2 rfl dX6_takesDigit_86 rfl ?_
        refine V.get (v := .int (nI rn)) (fun w H => List.mem_cons_of_mem _ (List.mem_append_right _ H)) (hc := (rfl : vwCl[6]? = some (RX6, TX6, 15))) 0 10 (by decide) (List.mem_of_getElem? (i := 4) rfl) rfl rfl dX6_takesDigit_87 ?_
        refine V.imulN (v := nI (4 * rn)) dX6_takesDigit_90 (pk_mul 4 rn) ?_
        refine V.aload_n 2 rfl dX6_takesDigit_91 rfl ?_
        refine V.get (v := .int (nI dn)) (fun w H => List.mem_cons_of_mem _ (List.mem_append_right _ H)) (hc := (rfl : vwCl[6]? = some (RX6, TX6, 15))) 0 12 (by decide) (List.mem_of_getElem? (i := 2) rfl) rfl rfl dX6_takesDigit_92 ?_
        refine V.iconst (v := 1) dX6_takesDigit_95 (by decide) ?_
        refine V.icmp_ne_t (tgt := 103) (fun e => h1 ((nI_eq (by omega) (by decide)).mp e)) dX6_takesDigit_96 (by decide) ?_
        refine V.iconst (v := 3) dX6_takesDigit_103 (by decide) ?_
        refine V.iaddN (v := nI (4 * rn + 3)) dX6_takesDigit_104 (nI_add (4 * rn) 3) ?_
        refine V.aload_n 2 rfl dX6_takesDigit_105 rfl ?_
        refine V.get (v := .int (pdN dn nu d)) (fun w H => List.mem_cons_of_mem _ (List.mem_append_right _ H)) (hc := (rfl : vwCl[6]? = some (RX6, TX6, 15))) 0 11 (by decide) (List.mem_of_getElem? (i := 1) rfl) rfl rfl dX6_takesDigit_106 ?_
        refine V.iast (f := pt) (ws2 := MW g a z hi tx ai pa tu (upd pt (4 * rn + 3) (pdN dn nu d)) ke st le th (nI rn) (pdN dn nu d) (nI dn) ha) 7 (4 * rn + 3) rfl rfl (by omega) (by decide) rfl dX6_takesDigit_109 ?_
        refine V.iload_n 0 rfl dX6_takesDigit_110 rfl ?_
        exact V.zret hq XM.r rfl (Nat.le_of_ble_eq_true rfl) (Nat.le_of_ble_eq_true rfl) ⟨by rw [hb] <;> rfl, by rw [pdP, pdO, if_neg h1]⟩ dX6_takesDigit_111
      · skip
        have c29 := bi_1 c29
        refine V.aload_n 1 rfl dX6_takesDigit_32 rfl ?_
        refine V.get (v := .int nu) (fun w H => List.mem_cons_of_mem _ (List.mem_append_right _ H)) (hc := (rfl : vwCl[6]? = some (RX6, TX6, 15))) 0 11 (by decide) (List.mem_of_getElem? (i := 1) rfl) rfl rfl dX6_takesDigit_33 ?_
        refine V.if_eq (tgt := 63) dX6_takesDigit_36 (by decide) (fun c36 => ?_) (fun c36 => ?_)
        · skip
          refine V.iconst (v := 0) dX6_takesDigit_63 (by decide) ?_
          have hb : pdB dn nu d = false := by simp [pdB, pdM, hV, h1, c29, c36]
          refine V.istore_n (lv2 := [(3, .int 0), (2, .int ((10 * nu) + d)), (0, .ref (a 0)), (1, .int d)]) dX6_takesDigit_64 rfl (by decide) rfl ?_
          refine V.aload_n 2 rfl dX6_takesDigit_65 rfl ?_
          refine V.iload_n 0 rfl dX6_takesDigit_66 rfl ?_
          refine V.if_eq_t (tgt := 74) (by decide) dX6_takesDigit_67 (by decide) ?_
          refine V.aload_n 2 rfl dX6_takesDigit_74 rfl ?_
          refine V.get (v := .int nu) (fun w H => List.mem_cons_of_mem _ (List.mem_append_right _ H)) (hc := (rfl : vwCl[6]? = some (RX6, TX6, 15))) 0 11 (by decide) (List.mem_of_getElem? (i := 1) rfl) rfl rfl dX6_takesDigit_75 ?_
          refine V.put (v := .int nu) (ws2 := MW g a z hi tx ai pa tu pt ke st le th (nI rn) nu (nI dn) ha) (fun w H => List.mem_cons_of_mem _ (List.mem_append_right _ H)) tyX6 tyX6_ok nmX6 (hc := (rfl : vwCl[6]? = some (RX6, TX6, 15))) 0 11 (by decide) (List.mem_of_getElem? (i := 1) rfl) rfl rfl (tyX6_ok 11 (by decide)) rfl rfl (Nat.le_of_ble_eq_true rfl) rfl dX6_takesDigit_78 ?_
          refine V.eqws (ws2 := MW g a z hi tx ai pa tu pt ke st le th (nI rn) (pdN dn nu d) (nI dn) ha) (by rw [pdN, hb, if_neg (by decide)]) ?_
          refine V.aload_n 2 rfl dX6_takesDigit_81 rfl ?_
          refine V.get (v := .ref (a 7)) (fun w H => List.mem_cons_of_mem _ (List.mem_append_right _ H)) (hc := (rfl : vwCl[6]? = some (RX6, TX6, 15))) 0 9 (by decide) (List.mem_of_getElem? (i := 3) rfl) rfl rfl dX6_takesDigit_82 ?_
          refine V.iconst (v := 4) dX6_takesDigit_85 (by decide) ?_
          refine V.aload_n 2 rfl dX6_takesDigit_86 rfl ?_
          refine V.get (v := .int (nI rn)) (fun w H => List.mem_cons_of_mem _ (List.mem_append_right _ H)) (hc := (rfl : vwCl[6]? = some (RX6, TX6, 15))) 0 10 (by decide) (List.mem_of_getElem? (i := 4) rfl) rfl rfl dX6_takesDigit_87 ?_
          refine V.imulN (v := nI (4 * rn)) dX6_takesDigit_90 (pk_mul 4 rn) ?_
          refine V.aload_n 2 rfl dX6_takesDigit_91 rfl ?_
          refine V.get (v := .int (nI dn)) (fun w H => List.mem_cons_of_mem _ (List.mem_append_right _ H)) (hc := (rfl : vwCl[6]? = some (RX6, TX6, 15))) 0 12 (by decide) (List.mem_of_getElem? (i := 2) rfl) rfl rfl dX6_takesDigit_92 ?_
          refine V.iconst (v := 1) dX6_takesDigit_95 (by decide) ?_
          refine V.icmp_ne_t (tgt := 103) (fun e => h1 ((nI_eq (by omega) (by decide)).mp e)) dX6_takesDigit_96 (by decide) ?_
          refine V.iconst (v := 3) dX6_takesDigit_103 (by decide) ?_
          refine V.iaddN (v := nI (4 * rn + 3)) dX6_takesDigit_104 (nI_add (4 * rn) 3) ?_
          refine V.aload_n 2 rfl dX6_takesDigit_105 rfl ?_
          refine V.get (v := .int (pdN dn nu d)) (fun w H => List.mem_cons_of_mem _ (List.mem_append_right _ H)) (hc := (rfl : vwCl[6]? = some (RX6, TX6, 15))) 0 11 (by decide) (List.mem_of_getElem? (i := 1) rfl) rfl rfl dX6_takesDigit_106 ?_
          refine V.iast (f := pt) (ws2 := MW g a z hi tx ai pa tu (upd pt (4 * rn + 3) (pdN dn nu d)) ke st le th (nI rn) (pdN dn nu d) (nI dn) ha) 7 (4 * rn + 3) rfl rfl (by omega) (by decide) rfl dX6_takesDigit_109 ?_
          refine V.iload_n 0 rfl dX6_takesDigit_110 rfl ?_
          exact V.zret hq XM.r rfl (Nat.le_of_ble_eq_true rfl) (Nat.le_of_ble_eq_true rfl) ⟨by rw [hb] <;> rfl, by rw [pdP, pdO, if_neg h1]⟩ dX6_takesDigit_111
        · skip
          refine V.iload_n 0 rfl dX6_takesDigit_39 rfl ?_
          refine V.aload_n 1 rfl dX6_takesDigit_40 rfl ?_
          refine V.get (v := .int (nI dn)) (fun w H => List.mem_cons_of_mem _ (List.mem_append_right _ H)) (hc := (rfl : vwCl[6]? = some (RX6, TX6, 15))) 0 12 (by decide) (List.mem_of_getElem? (i := 2) rfl) rfl rfl dX6_takesDigit_41 ?_
          refine V.iconst (v := 1) dX6_takesDigit_44 (by decide) ?_
          refine V.icmp_ne_t (tgt := 53) (fun e => h1 ((nI_eq (by omega) (by decide)).mp e)) dX6_takesDigit_45 (by decide) ?_
          refine V.sipush (v := 500) dX6_takesDigit_53 (by decide) ?_
          refine V.icmp_gt (tgt := 63) dX6_takesDigit_56 (by decide) (fun c56 => ?_) (fun c56 => ?_)
          · skip
            refine V.iconst (v := 0) dX6_takesDigit_63 (by decide) ?_
            have hb : pdB dn nu d = false := by simp [pdB, pdM, hV, h1, c29, c36, c56]
            refine V.istore_n (lv2 := [(3, .int 0), (2, .int ((10 * nu) + d)), (0, .ref (a 0)), (1, .int d)]) dX6_takesDigit_64 rfl (by decide) rfl ?_
            refine V.aload_n 2 rfl dX6_takesDigit_65 rfl ?_
            refine V.iload_n 0 rfl dX6_takesDigit_66 rfl ?_
            refine V.if_eq_t (tgt := 74) (by decide) dX6_takesDigit_67 (by decide) ?_
            refine V.aload_n 2 rfl dX6_takesDigit_74 rfl ?_
            refine V.get (v := .int nu) (fun w H => List.mem_cons_of_mem _ (List.mem_append_right _ H)) (hc := (rfl : vwCl[6]? = some (RX6, TX6, 15))) 0 11 (by decide) (List.mem_of_getElem? (i := 1) rfl) rfl rfl dX6_takesDigit_75 ?_
            refine V.put (v := .int nu) (ws2 := MW g a z hi tx ai pa tu pt ke st le th (nI rn) nu (nI dn) ha) (fun w H => List.mem_cons_of_mem _ (List.mem_append_right _ H)) tyX6 tyX6_ok nmX6 (hc := (rfl : vwCl[6]? = some (RX6, TX6, 15))) 0 11 (by decide) (List.mem_of_getElem? (i := 1) rfl) rfl rfl (tyX6_ok 11 (by decide)) rfl rfl (Nat.le_of_ble_eq_true rfl) rfl dX6_takesDigit_78 ?_
            refine V.eqws (ws2 := MW g a z hi tx ai pa tu pt ke st le th (nI rn) (pdN dn nu d) (nI dn) ha) (by rw [pdN, hb, if_neg (by decide)]) ?_
            refine V.aload_n 2 rfl dX6_takesDigit_81 rfl ?_
            refine V.get (v := .ref (a 7)) (fun w H => List.mem_cons_of_mem _ (List.mem_append_right _ H)) (hc := (rfl : vwCl[6]? = some (RX6, TX6, 15))) 0 9 (by decide) (List.mem_of_getElem? (i := 3) rfl) rfl rfl dX6_takesDigit_82 ?_
            refine V.iconst (v := 4) dX6_takesDigit_85 (by decide) ?_
            refine V.aload_n 2 rfl dX6_takesDigit_86 rfl ?_
            refine V.get (v := .int (nI rn)) (fun w H => List.mem_cons_of_mem _ (List.mem_append_right _ H)) (hc := (rfl : vwCl[6]? = some (RX6, TX6, 15))) 0 10 (by decide) (List.mem_of_getElem? (i := 4) rfl) rfl rfl dX6_takesDigit_87 ?_
            refine V.imulN (v := nI (4 * rn)) dX6_takesDigit_90 (pk_mul 4 rn) ?_
            refine V.aload_n 2 rfl dX6_takesDigit_91 rfl ?_
            refine V.get (v := .int (nI dn)) (fun w H => List.mem_cons_of_mem _ (List.mem_append_right _ H)) (hc := (rfl : vwCl[6]? = some (RX6, TX6, 15))) 0 12 (by decide) (List.mem_of_getElem? (i := 2) rfl) rfl rfl dX6_takesDigit_92 ?_
            refine V.iconst (v := 1) dX6_takesDigit_95 (by decide) ?_
            refine V.icmp_ne_t (tgt := 103) (fun e => h1 ((nI_eq (by omega) (by decide)).mp e)) dX6_takesDigit_96 (by decide) ?_
            refine V.iconst (v := 3) dX6_takesDigit_103 (by decide) ?_
            refine V.iaddN (v := nI (4 * rn + 3)) dX6_takesDigit_104 (nI_add (4 * rn) 3) ?_
            refine V.aload_n 2 rfl dX6_takesDigit_105 rfl ?_
            refine V.get (v := .int (pdN dn nu d)) (fun w H => List.mem_cons_of_mem _ (List.mem_append_right _ H)) (hc := (rfl : vwCl[6]? = some (RX6, TX6, 15))) 0 11 (by decide) (List.mem_of_getElem? (i := 1) rfl) rfl rfl dX6_takesDigit_106 ?_
            refine V.iast (f := pt) (ws2 := MW g a z hi tx ai pa tu (upd pt (4 * rn + 3) (pdN dn nu d)) ke st le th (nI rn) (pdN dn nu d) (nI dn) ha) 7 (4 * rn + 3) rfl rfl (by omega) (by decide) rfl dX6_takesDigit_109 ?_
            refine V.iload_n 0 rfl dX6_takesDigit_110 rfl ?_
            exact V.zret hq XM.r rfl (Nat.le_of_ble_eq_true rfl) (Nat.le_of_ble_eq_true rfl) ⟨by rw [hb] <;> rfl, by rw [pdP, pdO, if_neg h1]⟩ dX6_takesDigit_111
          · skip
            refine V.iconst (v := 1) dX6_takesDigit_59 (by decide) ?_
            refine V.goto (tgt := 64) dX6_takesDigit_60 (by decide) ?_
            have hb : pdB dn nu d = true := by simp [pdB, pdM, hV, h1, c29, c36, c56]
            refine V.istore_n (lv2 := [(3, .int 1), (2, .int ((10 * nu) + d)), (0, .ref (a 0)), (1, .int d)]) dX6_takesDigit_64 rfl (by decide) rfl ?_
            refine V.aload_n 2 rfl dX6_takesDigit_65 rfl ?_
            refine V.iload_n 0 rfl dX6_takesDigit_66 rfl ?_
            refine V.if_eq_f (tgt := 74) (by decide) dX6_takesDigit_67 (by decide) ?_
            refine V.iload_n 1 rfl dX6_takesDigit_70 rfl ?_
            refine V.goto (tgt := 78) dX6_takesDigit_71 (by decide) ?_
            refine V.put (v := .int ((10 * nu) + d)) (ws2 := MW g a z hi tx ai pa tu pt ke st le th (nI rn) ((10 * nu) + d) (nI dn) ha) (fun w H => List.mem_cons_of_mem _ (List.mem_append_right _ H)) tyX6 tyX6_ok nmX6 (hc := (rfl : vwCl[6]? = some (RX6, TX6, 15))) 0 11 (by decide) (List.mem_of_getElem? (i := 1) rfl) rfl rfl (tyX6_ok 11 (by decide)) rfl rfl (Nat.le_of_ble_eq_true rfl) rfl dX6_takesDigit_78 ?_
            refine V.eqws (ws2 := MW g a z hi tx ai pa tu pt ke st le th (nI rn) (pdN dn nu d) (nI dn) ha) (by rw [pdN, hb, if_pos rfl, hV]) ?_
            refine V.aload_n 2 rfl dX6_takesDigit_81 rfl ?_
            refine V.get (v := .ref (a 7)) (fun w H => List.mem_cons_of_mem _ (List.mem_append_right _ H)) (hc := (rfl : vwCl[6]? = some (RX6, TX6, 15))) 0 9 (by decide) (List.mem_of_getElem? (i := 3) rfl) rfl rfl dX6_takesDigit_82 ?_
            refine V.iconst (v := 4) dX6_takesDigit_85 (by decide) ?_
            refine V.aload_n 2 rfl dX6_takesDigit_86 rfl ?_
            refine V.get (v := .int (nI rn)) (fun w H => List.mem_cons_of_mem _ (List.mem_append_right _ H)) (hc := (rfl : vwCl[6]? = some (RX6, TX6, 15))) 0 10 (by decide) (List.mem_of_getElem? (i := 4) rfl) rfl rfl dX6_takesDigit_87 ?_
            refine V.imulN (v := nI (4 * rn)) dX6_takesDigit_90 (pk_mul 4 rn) ?_
            refine V.aload_n 2 rfl dX6_takesDigit_91 rfl ?_
            refine V.get (v := .int (nI dn)) (fun w H => List.mem_cons_of_mem _ (List.mem_append_right _ H)) (hc := (rfl : vwCl[6]? = some (RX6, TX6, 15))) 0 12 (by decide) (List.mem_of_getElem? (i := 2) rfl) rfl rfl dX6_takesDigit_92 ?_
            refine V.iconst (v := 1) dX6_takesDigit_95 (by decide) ?_
            refine V.icmp_ne_t (tgt := 103) (fun e => h1 ((nI_eq (by omega) (by decide)).mp e)) dX6_takesDigit_96 (by decide) ?_
            refine V.iconst (v := 3) dX6_takesDigit_103 (by decide) ?_
            refine V.iaddN (v := nI (4 * rn + 3)) dX6_takesDigit_104 (nI_add (4 * rn) 3) ?_
            refine V.aload_n 2 rfl dX6_takesDigit_105 rfl ?_
            refine V.get (v := .int (pdN dn nu d)) (fun w H => List.mem_cons_of_mem _ (List.mem_append_right _ H)) (hc := (rfl : vwCl[6]? = some (RX6, TX6, 15))) 0 11 (by decide) (List.mem_of_getElem? (i := 1) rfl) rfl rfl dX6_takesDigit_106 ?_
            refine V.iast (f := pt) (ws2 := MW g a z hi tx ai pa tu (upd pt (4 * rn + 3) (pdN dn nu d)) ke st le th (nI rn) (pdN dn nu d) (nI dn) ha) 7 (4 * rn + 3) rfl rfl (by omega) (by decide) rfl dX6_takesDigit_109 ?_
            refine V.iload_n 0 rfl dX6_takesDigit_110 rfl ?_
            exact V.zret hq XM.r rfl (Nat.le_of_ble_eq_true rfl) (Nat.le_of_ble_eq_true rfl) ⟨by rw [hb] <;> rfl, by rw [pdP, pdO, if_neg h1]⟩ dX6_takesDigit_111
    · skip
      refine V.iload_n 1 rfl dX6_takesDigit_8 rfl ?_
      refine V.goto (tgt := 21) dX6_takesDigit_9 (by decide) ?_
      have hV : pdV nu d = d := by rw [pdV, if_pos c5]
      refine V.istore_n (lv2 := [(2, .int d), (0, .ref (a 0)), (1, .int d)]) dX6_takesDigit_21 rfl (by decide) rfl ?_
      refine V.iload_n 2 rfl dX6_takesDigit_22 rfl ?_
      refine V.iconst (v := 0) dX6_takesDigit_23 (by decide) ?_
      refine V.bipush (v := 9) dX6_takesDigit_24 (by decide) ?_
      refine V.callSf (ws2 := MW g a z hi tx ai pa tu pt ke st le th (nI rn) nu (nI dn) ha) (st2 := [.int (bi (wi d (0 : Int32) (9 : Int32)))]) [.int d, .int 0, .int 9] [] (kX6_within g d (0 : Int32) (9 : Int32) ) gX6_takesDigit_X6_within rfl (by show _ ∧ _ ∧ _ = some (3 : Nat); decide +kernel) ⟨Nat.le_of_ble_eq_true rfl, Nat.le_of_ble_eq_true rfl⟩ [] (by decide) rfl rfl (Nat.le_of_ble_eq_true rfl) ⟨Nat.le_of_ble_eq_true rfl, Nat.le_of_ble_eq_true rfl⟩ dX6_takesDigit_26 rfl (List.append_nil _) rfl rfl rfl ?_
      refine V.if_eq (tgt := 63) dX6_takesDigit_29 (by decide) (fun c29 => ?_) (fun c29 => ?_)
      · skip
        have c29 := bi_0 c29
        refine V.iconst (v := 0) dX6_takesDigit_63 (by decide) ?_
        have hb : pdB dn nu d = false := by simp [pdB, pdM, hV, h1, c29]
        refine V.istore_n (lv2 := [(3, .int 0), (2, .int d), (0, .ref (a 0)), (1, .int d)]) dX6_takesDigit_64 rfl (by decide) rfl ?_
        refine V.aload_n 2 rfl dX6_takesDigit_65 rfl ?_
        refine V.iload_n 0 rfl dX6_takesDigit_66 rfl ?_
        refine V.if_eq_t (tgt := 74) (by decide) dX6_takesDigit_67 (by decide) ?_
        refine V.aload_n 2 rfl dX6_takesDigit_74 rfl ?_
        refine V.get (v := .int nu) (fun w H => List.mem_cons_of_mem _ (List.mem_append_right _ H)) (hc := (rfl : vwCl[6]? = some (RX6, TX6, 15))) 0 11 (by decide) (List.mem_of_getElem? (i := 1) rfl) rfl rfl dX6_takesDigit_75 ?_
        refine V.put (v := .int nu) (ws2 := MW g a z hi tx ai pa tu pt ke st le th (nI rn) nu (nI dn) ha) (fun w H => List.mem_cons_of_mem _ (List.mem_append_right _ H)) tyX6 tyX6_ok nmX6 (hc := (rfl : vwCl[6]? = some (RX6, TX6, 15))) 0 11 (by decide) (List.mem_of_getElem? (i := 1) rfl) rfl rfl (tyX6_ok 11 (by decide)) rfl rfl (Nat.le_of_ble_eq_true rfl) rfl dX6_takesDigit_78 ?_
        refine V.eqws (ws2 := MW g a z hi tx ai pa tu pt ke st le th (nI rn) (pdN dn nu d) (nI dn) ha) (by rw [pdN, hb, if_neg (by decide)]) ?_
        refine V.aload_n 2 rfl dX6_takesDigit_81 rfl ?_
        refine V.get (v := .ref (a 7)) (fun w H => List.mem_cons_of_mem _ (List.mem_append_right _ H)) (hc := (rfl : vwCl[6]? = some (RX6, TX6, 15))) 0 9 (by decide) (List.mem_of_getElem? (i := 3) rfl) rfl rfl dX6_takesDigit_82 ?_
        refine V.iconst (v := 4) dX6_takesDigit_85 (by decide) ?_
        refine V.aload_n 2 rfl dX6_takesDigit_86 rfl ?_
        refine V.get (v := .int (nI rn)) (fun w H => List.mem_cons_of_mem _ (List.mem_append_right _ H)) (hc := (rfl : vwCl[6]? = some (RX6, TX6, 15))) 0 10 (by decide) (List.mem_of_getElem? (i := 4) rfl) rfl rfl dX6_takesDigit_87 ?_
        refine V.imulN (v := nI (4 * rn)) dX6_takesDigit_90 (pk_mul 4 rn) ?_
        refine V.aload_n 2 rfl dX6_takesDigit_91 rfl ?_
        refine V.get (v := .int (nI dn)) (fun w H => List.mem_cons_of_mem _ (List.mem_append_right _ H)) (hc := (rfl : vwCl[6]? = some (RX6, TX6, 15))) 0 12 (by decide) (List.mem_of_getElem? (i := 2) rfl) rfl rfl dX6_takesDigit_92 ?_
        refine V.iconst (v := 1) dX6_takesDigit_95 (by decide) ?_
        refine V.icmp_ne_t (tgt := 103) (fun e => h1 ((nI_eq (by omega) (by decide)).mp e)) dX6_takesDigit_96 (by decide) ?_
        refine V.iconst (v := 3) dX6_takesDigit_103 (by decide) ?_
        refine V.iaddN (v := nI (4 * rn + 3)) dX6_takesDigit_104 (nI_add (4 * rn) 3) ?_
        refine V.aload_n 2 rfl dX6_takesDigit_105 rfl ?_
        refine V.get (v := .int (pdN dn nu d)) (fun w H => List.mem_cons_of_mem _ (List.mem_append_right _ H)) (hc := (rfl : vwCl[6]? = some (RX6, TX6, 15))) 0 11 (by decide) (List.mem_of_getElem? (i := 1) rfl) rfl rfl dX6_takesDigit_106 ?_
        refine V.iast (f := pt) (ws2 := MW g a z hi tx ai pa tu (upd pt (4 * rn + 3) (pdN dn nu d)) ke st le th (nI rn) (pdN dn nu d) (nI dn) ha) 7 (4 * rn + 3) rfl rfl (by omega) (by decide) rfl dX6_takesDigit_109 ?_
        refine V.iload_n 0 rfl dX6_takesDigit_110 rfl ?_
        exact V.zret hq XM.r rfl (Nat.le_of_ble_eq_true rfl) (Nat.le_of_ble_eq_true rfl) ⟨by rw [hb] <;> rfl, by rw [pdP, pdO, if_neg h1]⟩ dX6_takesDigit_111
      · skip
        have c29 := bi_1 c29
        refine V.aload_n 1 rfl dX6_takesDigit_32 rfl ?_
        refine V.get (v := .int nu) (fun w H => List.mem_cons_of_mem _ (List.mem_append_right _ H)) (hc := (rfl : vwCl[6]? = some (RX6, TX6, 15))) 0 11 (by decide) (List.mem_of_getElem? (i := 1) rfl) rfl rfl dX6_takesDigit_33 ?_
        refine V.if_eq (tgt := 63) dX6_takesDigit_36 (by decide) (fun c36 => ?_) (fun c36 => ?_)
        · skip
          refine V.iconst (v := 0) dX6_takesDigit_63 (by decide) ?_
          have hb : pdB dn nu d = false := by simp [pdB, pdM, hV, h1, c29, c36]
          refine V.istore_n (lv2 := [(3, .int 0), (2, .int d), (0, .ref (a 0)), (1, .int d)]) dX6_takesDigit_64 rfl (by decide) rfl ?_
          refine V.aload_n 2 rfl dX6_takesDigit_65 rfl ?_
          refine V.iload_n 0 rfl dX6_takesDigit_66 rfl ?_
          refine V.if_eq_t (tgt := 74) (by decide) dX6_takesDigit_67 (by decide) ?_
          refine V.aload_n 2 rfl dX6_takesDigit_74 rfl ?_
          refine V.get (v := .int nu) (fun w H => List.mem_cons_of_mem _ (List.mem_append_right _ H)) (hc := (rfl : vwCl[6]? = some (RX6, TX6, 15))) 0 11 (by decide) (List.mem_of_getElem? (i := 1) rfl) rfl rfl dX6_takesDigit_75 ?_
          refine V.put (v := .int nu) (ws2 := MW g a z hi tx ai pa tu pt ke st le th (nI rn) nu (nI dn) ha) (fun w H => List.mem_cons_of_mem _ (List.mem_append_right _ H)) tyX6 tyX6_ok nmX6 (hc := (rfl : vwCl[6]? = some (RX6, TX6, 15))) 0 11 (by decide) (List.mem_of_getElem? (i := 1) rfl) rfl rfl (tyX6_ok 11 (by decide)) rfl rfl (Nat.le_of_ble_eq_true rfl) rfl dX6_takesDigit_78 ?_
          refine V.eqws (ws2 := MW g a z hi tx ai pa tu pt ke st le th (nI rn) (pdN dn nu d) (nI dn) ha) (by rw [pdN, hb, if_neg (by decide)]) ?_
          refine V.aload_n 2 rfl dX6_takesDigit_81 rfl ?_
          refine V.get (v := .ref (a 7)) (fun w H => List.mem_cons_of_mem _ (List.mem_append_right _ H)) (hc := (rfl : vwCl[6]? = some (RX6, TX6, 15))) 0 9 (by decide) (List.mem_of_getElem? (i := 3) rfl) rfl rfl dX6_takesDigit_82 ?_
          refine V.iconst (v := 4) dX6_takesDigit_85 (by decide) ?_
          refine V.aload_n 2 rfl dX6_takesDigit_86 rfl ?_
          refine V.get (v := .int (nI rn)) (fun w H => List.mem_cons_of_mem _ (List.mem_append_right _ H)) (hc := (rfl : vwCl[6]? = some (RX6, TX6, 15))) 0 10 (by decide) (List.mem_of_getElem? (i := 4) rfl) rfl rfl dX6_takesDigit_87 ?_
          refine V.imulN (v := nI (4 * rn)) dX6_takesDigit_90 (pk_mul 4 rn) ?_
          refine V.aload_n 2 rfl dX6_takesDigit_91 rfl ?_
          refine V.get (v := .int (nI dn)) (fun w H => List.mem_cons_of_mem _ (List.mem_append_right _ H)) (hc := (rfl : vwCl[6]? = some (RX6, TX6, 15))) 0 12 (by decide) (List.mem_of_getElem? (i := 2) rfl) rfl rfl dX6_takesDigit_92 ?_
          refine V.iconst (v := 1) dX6_takesDigit_95 (by decide) ?_
          refine V.icmp_ne_t (tgt := 103) (fun e => h1 ((nI_eq (by omega) (by decide)).mp e)) dX6_takesDigit_96 (by decide) ?_
          refine V.iconst (v := 3) dX6_takesDigit_103 (by decide) ?_
          refine V.iaddN (v := nI (4 * rn + 3)) dX6_takesDigit_104 (nI_add (4 * rn) 3) ?_
          refine V.aload_n 2 rfl dX6_takesDigit_105 rfl ?_
          refine V.get (v := .int (pdN dn nu d)) (fun w H => List.mem_cons_of_mem _ (List.mem_append_right _ H)) (hc := (rfl : vwCl[6]? = some (RX6, TX6, 15))) 0 11 (by decide) (List.mem_of_getElem? (i := 1) rfl) rfl rfl dX6_takesDigit_106 ?_
          refine V.iast (f := pt) (ws2 := MW g a z hi tx ai pa tu (upd pt (4 * rn + 3) (pdN dn nu d)) ke st le th (nI rn) (pdN dn nu d) (nI dn) ha) 7 (4 * rn + 3) rfl rfl (by omega) (by decide) rfl dX6_takesDigit_109 ?_
          refine V.iload_n 0 rfl dX6_takesDigit_110 rfl ?_
          exact V.zret hq XM.r rfl (Nat.le_of_ble_eq_true rfl) (Nat.le_of_ble_eq_true rfl) ⟨by rw [hb] <;> rfl, by rw [pdP, pdO, if_neg h1]⟩ dX6_takesDigit_111
        · skip
          refine V.iload_n 0 rfl dX6_takesDigit_39 rfl ?_
          refine V.aload_n 1 rfl dX6_takesDigit_40 rfl ?_
          refine V.get (v := .int (nI dn)) (fun w H => List.mem_cons_of_mem _ (List.mem_append_right _ H)) (hc := (rfl : vwCl[6]? = some (RX6, TX6, 15))) 0 12 (by decide) (List.mem_of_getElem? (i := 2) rfl) rfl rfl dX6_takesDigit_41 ?_
          refine V.iconst (v := 1) dX6_takesDigit_44 (by decide) ?_
          refine V.icmp_ne_t (tgt := 53) (fun e => h1 ((nI_eq (by omega) (by decide)).mp e)) dX6_takesDigit_45 (by decide) ?_
          refine V.sipush (v := 500) dX6_takesDigit_53 (by decide) ?_
          refine V.icmp_gt (tgt := 63) dX6_takesDigit_56 (by decide) (fun c56 => ?_) (fun c56 => ?_)
          · skip
            refine V.iconst (v := 0) dX6_takesDigit_63 (by decide) ?_
            have hb : pdB dn nu d = false := by simp [pdB, pdM, hV, h1, c29, c36, c56]
            refine V.istore_n (lv2 := [(3, .int 0), (2, .int d), (0, .ref (a 0)), (1, .int d)]) dX6_takesDigit_64 rfl (by decide) rfl ?_
            refine V.aload_n 2 rfl dX6_takesDigit_65 rfl ?_
            refine V.iload_n 0 rfl dX6_takesDigit_66 rfl ?_
            refine V.if_eq_t (tgt := 74) (by decide) dX6_takesDigit_67 (by decide) ?_
            refine V.aload_n 2 rfl dX6_takesDigit_74 rfl ?_
            refine V.get (v := .int nu) (fun w H => List.mem_cons_of_mem _ (List.mem_append_right _ H)) (hc := (rfl : vwCl[6]? = some (RX6, TX6, 15))) 0 11 (by decide) (List.mem_of_getElem? (i := 1) rfl) rfl rfl dX6_takesDigit_75 ?_
            refine V.put (v := .int nu) (ws2 := MW g a z hi tx ai pa tu pt ke st le th (nI rn) nu (nI dn) ha) (fun w H => List.mem_cons_of_mem _ (List.mem_append_right _ H)) tyX6 tyX6_ok nmX6 (hc := (rfl : vwCl[6]? = some (RX6, TX6, 15))) 0 11 (by decide) (List.mem_of_getElem? (i := 1) rfl) rfl rfl (tyX6_ok 11 (by decide)) rfl rfl (Nat.le_of_ble_eq_true rfl) rfl dX6_takesDigit_78 ?_
            refine V.eqws (ws2 := MW g a z hi tx ai pa tu pt ke st le th (nI rn) (pdN dn nu d) (nI dn) ha) (by rw [pdN, hb, if_neg (by decide)]) ?_
            refine V.aload_n 2 rfl dX6_takesDigit_81 rfl ?_
            refine V.get (v := .ref (a 7)) (fun w H => List.mem_cons_of_mem _ (List.mem_append_right _ H)) (hc := (rfl : vwCl[6]? = some (RX6, TX6, 15))) 0 9 (by decide) (List.mem_of_getElem? (i := 3) rfl) rfl rfl dX6_takesDigit_82 ?_
            refine V.iconst (v := 4) dX6_takesDigit_85 (by decide) ?_
            refine V.aload_n 2 rfl dX6_takesDigit_86 rfl ?_
            refine V.get (v := .int (nI rn)) (fun w H => List.mem_cons_of_mem _ (List.mem_append_right _ H)) (hc := (rfl : vwCl[6]? = some (RX6, TX6, 15))) 0 10 (by decide) (List.mem_of_getElem? (i := 4) rfl) rfl rfl dX6_takesDigit_87 ?_
            refine V.imulN (v := nI (4 * rn)) dX6_takesDigit_90 (pk_mul 4 rn) ?_
            refine V.aload_n 2 rfl dX6_takesDigit_91 rfl ?_
            refine V.get (v := .int (nI dn)) (fun w H => List.mem_cons_of_mem _ (List.mem_append_right _ H)) (hc := (rfl : vwCl[6]? = some (RX6, TX6, 15))) 0 12 (by decide) (List.mem_of_getElem? (i := 2) rfl) rfl rfl dX6_takesDigit_92 ?_
            refine V.iconst (v := 1) dX6_takesDigit_95 (by decide) ?_
            refine V.icmp_ne_t (tgt := 103) (fun e => h1 ((nI_eq (by omega) (by decide)).mp e)) dX6_takesDigit_96 (by decide) ?_
            refine V.iconst (v := 3) dX6_takesDigit_103 (by decide) ?_
            refine V.iaddN (v := nI (4 * rn + 3)) dX6_takesDigit_104 (nI_add (4 * rn) 3) ?_
            refine V.aload_n 2 rfl dX6_takesDigit_105 rfl ?_
            refine V.get (v := .int (pdN dn nu d)) (fun w H => List.mem_cons_of_mem _ (List.mem_append_right _ H)) (hc := (rfl : vwCl[6]? = some (RX6, TX6, 15))) 0 11 (by decide) (List.mem_of_getElem? (i := 1) rfl) rfl rfl dX6_takesDigit_106 ?_
            refine V.iast (f := pt) (ws2 := MW g a z hi tx ai pa tu (upd pt (4 * rn + 3) (pdN dn nu d)) ke st le th (nI rn) (pdN dn nu d) (nI dn) ha) 7 (4 * rn + 3) rfl rfl (by omega) (by decide) rfl dX6_takesDigit_109 ?_
            refine V.iload_n 0 rfl dX6_takesDigit_110 rfl ?_
            exact V.zret hq XM.r rfl (Nat.le_of_ble_eq_true rfl) (Nat.le_of_ble_eq_true rfl) ⟨by rw [hb] <;> rfl, by rw [pdP, pdO, if_neg h1]⟩ dX6_takesDigit_111
          · skip
            refine V.iconst (v := 1) dX6_takesDigit_59 (by decide) ?_
            refine V.goto (tgt := 64) dX6_takesDigit_60 (by decide) ?_
            have hb : pdB dn nu d = true := by simp [pdB, pdM, hV, h1, c29, c36, c56]
            refine V.istore_n (lv2 := [(3, .int 1), (2, .int d), (0, .ref (a 0)), (1, .int d)]) dX6_takesDigit_64 rfl (by decide) rfl ?_
            refine V.aload_n 2 rfl dX6_takesDigit_65 rfl ?_
            refine V.iload_n 0 rfl dX6_takesDigit_66 rfl ?_
            refine V.if_eq_f (tgt := 74) (by decide) dX6_takesDigit_67 (by decide) ?_
            refine V.iload_n 1 rfl dX6_takesDigit_70 rfl ?_
            refine V.goto (tgt := 78) dX6_takesDigit_71 (by decide) ?_
            refine V.put (v := .int d) (ws2 := MW g a z hi tx ai pa tu pt ke st le th (nI rn) d (nI dn) ha) (fun w H => List.mem_cons_of_mem _ (List.mem_append_right _ H)) tyX6 tyX6_ok nmX6 (hc := (rfl : vwCl[6]? = some (RX6, TX6, 15))) 0 11 (by decide) (List.mem_of_getElem? (i := 1) rfl) rfl rfl (tyX6_ok 11 (by decide)) rfl rfl (Nat.le_of_ble_eq_true rfl) rfl dX6_takesDigit_78 ?_
            refine V.eqws (ws2 := MW g a z hi tx ai pa tu pt ke st le th (nI rn) (pdN dn nu d) (nI dn) ha) (by rw [pdN, hb, if_pos rfl, hV]) ?_
            refine V.aload_n 2 rfl dX6_takesDigit_81 rfl ?_
            refine V.get (v := .ref (a 7)) (fun w H => List.mem_cons_of_mem _ (List.mem_append_right _ H)) (hc := (rfl : vwCl[6]? = some (RX6, TX6, 15))) 0 9 (by decide) (List.mem_of_getElem? (i := 3) rfl) rfl rfl dX6_takesDigit_82 ?_
            refine V.iconst (v := 4) dX6_takesDigit_85 (by decide) ?_
            refine V.aload_n 2 rfl dX6_takesDigit_86 rfl ?_
            refine V.get (v := .int (nI rn)) (fun w H => List.mem_cons_of_mem _ (List.mem_append_right _ H)) (hc := (rfl : vwCl[6]? = some (RX6, TX6, 15))) 0 10 (by decide) (List.mem_of_getElem? (i := 4) rfl) rfl rfl dX6_takesDigit_87 ?_
            refine V.imulN (v := nI (4 * rn)) dX6_takesDigit_90 (pk_mul 4 rn) ?_
            refine V.aload_n 2 rfl dX6_takesDigit_91 rfl ?_
            refine V.get (v := .int (nI dn)) (fun w H => List.mem_cons_of_mem _ (List.mem_append_right _ H)) (hc := (rfl : vwCl[6]? = some (RX6, TX6, 15))) 0 12 (by decide) (List.mem_of_getElem? (i := 2) rfl) rfl rfl dX6_takesDigit_92 ?_
            refine V.iconst (v := 1) dX6_takesDigit_95 (by decide) ?_
            refine V.icmp_ne_t (tgt := 103) (fun e => h1 ((nI_eq (by omega) (by decide)).mp e)) dX6_takesDigit_96 (by decide) ?_
            refine V.iconst (v := 3) dX6_takesDigit_103 (by decide) ?_
            refine V.iaddN (v := nI (4 * rn + 3)) dX6_takesDigit_104 (nI_add (4 * rn) 3) ?_
            refine V.aload_n 2 rfl dX6_takesDigit_105 rfl ?_
            refine V.get (v := .int (pdN dn nu d)) (fun w H => List.mem_cons_of_mem _ (List.mem_append_right _ H)) (hc := (rfl : vwCl[6]? = some (RX6, TX6, 15))) 0 11 (by decide) (List.mem_of_getElem? (i := 1) rfl) rfl rfl dX6_takesDigit_106 ?_
            refine V.iast (f := pt) (ws2 := MW g a z hi tx ai pa tu (upd pt (4 * rn + 3) (pdN dn nu d)) ke st le th (nI rn) (pdN dn nu d) (nI dn) ha) 7 (4 * rn + 3) rfl rfl (by omega) (by decide) rfl dX6_takesDigit_109 ?_
            refine V.iload_n 0 rfl dX6_takesDigit_110 rfl ?_
            exact V.zret hq XM.r rfl (Nat.le_of_ble_eq_true rfl) (Nat.le_of_ble_eq_true rfl) ⟨by rw [hb] <;> rfl, by rw [pdP, pdO, if_neg h1]⟩ dX6_takesDigit_111
abbrev rmX6_takes : Room := { frames := 2, cells := 0, slots := 0, locals := 45 }
set_option maxHeartbeats 4000000 in
set_option maxRecDepth 100000 in
theorem kX6_takes (g : GT) (a : Nat → Nat) (z hi tx ai pa tu pt ke : Nat → Int32) (st le th nu : Int32) (ha : Int64) (c : Int32) (rn : Nat) (dn : Nat) (hr : rn ≤ 13) (hd : dn ≤ 5) : UC g yX6_takes wsX6_takes rmX6_takes [.ref (a 0), .int c] (MW g a z hi tx ai pa tu pt ke st le th (nI rn) nu (nI dn) ha) (Qf (some (.int (bi (tkB c (pt, rn, nu, dn))))) (MW g a z hi tx ai pa tu ((tkS c (pt, rn, nu, dn)).1) ke st le th (nI ((tkS c (pt, rn, nu, dn)).2.1)) ((tkS c (pt, rn, nu, dn)).2.2.1) (nI ((tkS c (pt, rn, nu, dn)).2.2.2)) ha)) := by
  refine UC.ofV (cc := cX6_takes) (maxL := 2) (ret := some .boolean) (lv0 := [(0, .ref (a 0)), (1, .int c)]) (by decide) rfl (Nat.le_of_ble_eq_true rfl) rfl ?_
  generalize hQF : QFr g rmX6_takes (Qf (some (.int (bi (tkB c (pt, rn, nu, dn))))) (MW g a z hi tx ai pa tu ((tkS c (pt, rn, nu, dn)).1) ke st le th (nI ((tkS c (pt, rn, nu, dn)).2.1)) ((tkS c (pt, rn, nu, dn)).2.2.1) (nI ((tkS c (pt, rn, nu, dn)).2.2.2)) ha)) = QF
  have hq : QFok g rmX6_takes (Qf (some (.int (bi (tkB c (pt, rn, nu, dn))))) (MW g a z hi tx ai pa tu ((tkS c (pt, rn, nu, dn)).1) ke st le th (nI ((tkS c (pt, rn, nu, dn)).2.1)) ((tkS c (pt, rn, nu, dn)).2.2.1) (nI ((tkS c (pt, rn, nu, dn)).2.2.2)) ha)) QF := hQF ▸ QFr.q
  rcases (show dn = 0 ∨ dn = 1 ∨ dn = 2 ∨ dn = 3 ∨ dn = 4 ∨ dn = 5 by omega) with rfl | rfl | rfl | rfl | rfl | rfl
  · skip
    refine V.iload_n 1 rfl dX6_takes_0 rfl ?_
    refine V.bipush (v := 59) dX6_takes_1 (by decide) ?_
    refine V.icmp_ne (tgt := 47) dX6_takes_3 (by decide) (fun c3 => ?_) (fun c3 => ?_)
    · skip
      refine V.aload_n 0 rfl dX6_takes_47 rfl ?_
      refine V.get (v := .int (nI 0)) (fun w H => List.mem_cons_of_mem _ (List.mem_append_right _ H)) (hc := (rfl : vwCl[6]? = some (RX6, TX6, 15))) 0 12 (by decide) (List.mem_of_getElem? (i := 1) rfl) rfl rfl dX6_takes_48 ?_
      refine V.tableIn (off := 37) (tgt := 88) (by decide) (by decide) (by decide) dX6_takes_51 (by decide) ?_
      refine V.aload_n 0 rfl dX6_takes_88 rfl ?_
      refine V.get (v := .ref (a 7)) (fun w H => List.mem_cons_of_mem _ (List.mem_append_right _ H)) (hc := (rfl : vwCl[6]? = some (RX6, TX6, 15))) 0 9 (by decide) (List.mem_of_getElem? (i := 4) rfl) rfl rfl dX6_takes_89 ?_
      refine V.iconst (v := 4) dX6_takes_92 (by decide) ?_
      refine V.aload_n 0 rfl dX6_takes_93 rfl ?_
      refine V.get (v := .int (nI rn)) (fun w H => List.mem_cons_of_mem _ (List.mem_append_right _ H)) (hc := (rfl : vwCl[6]? = some (RX6, TX6, 15))) 0 10 (by decide) (List.mem_of_getElem? (i := 3) rfl) rfl rfl dX6_takes_94 ?_
      refine V.imulN (v := nI (4 * rn)) dX6_takes_97 (pk_mul 4 rn) ?_
      refine V.iload_n 1 rfl dX6_takes_98 rfl ?_
      refine V.bipush (v := 102) dX6_takes_99 (by decide) ?_
      refine V.icmp_ne (tgt := 108) dX6_takes_101 (by decide) (fun c101 => ?_) (fun c101 => ?_)
      · skip
        refine V.iconst (v := 0) dX6_takes_108 (by decide) ?_
        refine V.iast (f := pt) (ws2 := MW g a z hi tx ai pa tu (upd pt (4 * rn) 0) ke st le th (nI rn) nu (nI 0) ha) 7 (4 * rn) rfl rfl (by omega) (by decide) rfl dX6_takes_109 ?_
        refine V.eqws (ws2 := MW g a z hi tx ai pa tu (upd pt (4 * rn) (if c = 102 then 1 else 0)) ke st le th (nI rn) nu (nI 0) ha) (by rw [if_neg c101]) ?_
        refine V.aload_n 0 rfl dX6_takes_110 rfl ?_
        refine V.iconst (v := -1) dX6_takes_111 (by decide) ?_
        refine V.put (v := .int (-1)) (ws2 := MW g a z hi tx ai pa tu (upd pt (4 * rn) (if c = 102 then 1 else 0)) ke st le th (nI rn) (-1) (nI 0) ha) (fun w H => List.mem_cons_of_mem _ (List.mem_append_right _ H)) tyX6 tyX6_ok nmX6 (hc := (rfl : vwCl[6]? = some (RX6, TX6, 15))) 0 11 (by decide) (List.mem_of_getElem? (i := 2) rfl) rfl rfl (tyX6_ok 11 (by decide)) rfl rfl (Nat.le_of_ble_eq_true rfl) rfl dX6_takes_112 ?_
        refine V.aload_n 0 rfl dX6_takes_115 rfl ?_
        refine V.iconst (v := 1) dX6_takes_116 (by decide) ?_
        refine V.put (v := .int 1) (ws2 := MW g a z hi tx ai pa tu (upd pt (4 * rn) (if c = 102 then 1 else 0)) ke st le th (nI rn) (-1) 1 ha) (fun w H => List.mem_cons_of_mem _ (List.mem_append_right _ H)) tyX6 tyX6_ok nmX6 (hc := (rfl : vwCl[6]? = some (RX6, TX6, 15))) 0 12 (by decide) (List.mem_of_getElem? (i := 1) rfl) rfl rfl (tyX6_ok 12 (by decide)) rfl rfl (Nat.le_of_ble_eq_true rfl) rfl dX6_takes_117 ?_
        refine V.iload_n 1 rfl dX6_takes_120 rfl ?_
        refine V.bipush (v := 112) dX6_takes_121 (by decide) ?_
        refine V.icmp_eq (tgt := 132) dX6_takes_123 (by decide) (fun c123 => ?_) (fun c123 => ?_)
        · skip
          refine V.iconst (v := 1) dX6_takes_132 (by decide) ?_
          refine V.goto (tgt := 137) dX6_takes_133 (by decide) ?_
          exact V.zret hq XM.r rfl (Nat.le_of_ble_eq_true rfl) (Nat.le_of_ble_eq_true rfl) ⟨by rw [tkB_0, decide_eq_true c123, Bool.true_or] <;> rfl, rfl⟩ dX6_takes_137
        · skip
          refine V.iload_n 1 rfl dX6_takes_126 rfl ?_
          refine V.bipush (v := 102) dX6_takes_127 (by decide) ?_
          refine V.icmp_ne (tgt := 136) dX6_takes_129 (by decide) (fun c129 => ?_) (fun c129 => ?_)
          · skip
            refine V.iconst (v := 0) dX6_takes_136 (by decide) ?_
            exact V.zret hq XM.r rfl (Nat.le_of_ble_eq_true rfl) (Nat.le_of_ble_eq_true rfl) ⟨by rw [tkB_0, decide_eq_false c123, decide_eq_false c129] <;> rfl, rfl⟩ dX6_takes_137
          · skip
            refine V.iconst (v := 1) dX6_takes_132 (by decide) ?_
            refine V.goto (tgt := 137) dX6_takes_133 (by decide) ?_
            exact V.zret hq XM.r rfl (Nat.le_of_ble_eq_true rfl) (Nat.le_of_ble_eq_true rfl) ⟨by rw [tkB_0, decide_eq_true c129, Bool.or_true] <;> rfl, rfl⟩ dX6_takes_137
      · skip
        refine V.iconst (v := 1) dX6_takes_104 (by decide) ?_
        refine V.goto (tgt := 109) dX6_takes_105 (by decide) ?_
        refine V.iast (f := pt) (ws2 := MW g a z hi tx ai pa tu (upd pt (4 * rn) 1) ke st le th (nI rn) nu (nI 0) ha) 7 (4 * rn) rfl rfl (by omega) (by decide) rfl dX6_takes_109 ?_
        refine V.eqws (ws2 := MW g a z hi tx ai pa tu (upd pt (4 * rn) (if c = 102 then 1 else 0)) ke st le th (nI rn) nu (nI 0) ha) (by rw [if_pos c101]) ?_
        refine V.aload_n 0 rfl dX6_takes_110 rfl ?_
        refine V.iconst (v := -1) dX6_takes_111 (by decide) ?_
        refine V.put (v := .int (-1)) (ws2 := MW g a z hi tx ai pa tu (upd pt (4 * rn) (if c = 102 then 1 else 0)) ke st le th (nI rn) (-1) (nI 0) ha) (fun w H => List.mem_cons_of_mem _ (List.mem_append_right _ H)) tyX6 tyX6_ok nmX6 (hc := (rfl : vwCl[6]? = some (RX6, TX6, 15))) 0 11 (by decide) (List.mem_of_getElem? (i := 2) rfl) rfl rfl (tyX6_ok 11 (by decide)) rfl rfl (Nat.le_of_ble_eq_true rfl) rfl dX6_takes_112 ?_
        refine V.aload_n 0 rfl dX6_takes_115 rfl ?_
        refine V.iconst (v := 1) dX6_takes_116 (by decide) ?_
        refine V.put (v := .int 1) (ws2 := MW g a z hi tx ai pa tu (upd pt (4 * rn) (if c = 102 then 1 else 0)) ke st le th (nI rn) (-1) 1 ha) (fun w H => List.mem_cons_of_mem _ (List.mem_append_right _ H)) tyX6 tyX6_ok nmX6 (hc := (rfl : vwCl[6]? = some (RX6, TX6, 15))) 0 12 (by decide) (List.mem_of_getElem? (i := 1) rfl) rfl rfl (tyX6_ok 12 (by decide)) rfl rfl (Nat.le_of_ble_eq_true rfl) rfl dX6_takes_117 ?_
        refine V.iload_n 1 rfl dX6_takes_120 rfl ?_
        refine V.bipush (v := 112) dX6_takes_121 (by decide) ?_
        refine V.icmp_eq (tgt := 132) dX6_takes_123 (by decide) (fun c123 => ?_) (fun c123 => ?_)
        · skip
          refine V.iconst (v := 1) dX6_takes_132 (by decide) ?_
          refine V.goto (tgt := 137) dX6_takes_133 (by decide) ?_
          exact V.zret hq XM.r rfl (Nat.le_of_ble_eq_true rfl) (Nat.le_of_ble_eq_true rfl) ⟨by rw [tkB_0, decide_eq_true c123, Bool.true_or] <;> rfl, rfl⟩ dX6_takes_137
        · skip
          refine V.iload_n 1 rfl dX6_takes_126 rfl ?_
          refine V.bipush (v := 102) dX6_takes_127 (by decide) ?_
          refine V.icmp_ne (tgt := 136) dX6_takes_129 (by decide) (fun c129 => ?_) (fun c129 => ?_)
          · skip
            refine V.iconst (v := 0) dX6_takes_136 (by decide) ?_
            exact V.zret hq XM.r rfl (Nat.le_of_ble_eq_true rfl) (Nat.le_of_ble_eq_true rfl) ⟨by rw [tkB_0, decide_eq_false c123, decide_eq_false c129] <;> rfl, rfl⟩ dX6_takes_137
          · skip
            refine V.iconst (v := 1) dX6_takes_132 (by decide) ?_
            refine V.goto (tgt := 137) dX6_takes_133 (by decide) ?_
            exact V.zret hq XM.r rfl (Nat.le_of_ble_eq_true rfl) (Nat.le_of_ble_eq_true rfl) ⟨by rw [tkB_0, decide_eq_true c129, Bool.or_true] <;> rfl, rfl⟩ dX6_takes_137
    · skip
      refine V.aload_n 0 rfl dX6_takes_6 rfl ?_
      refine V.get (v := .int (nI 0)) (fun w H => List.mem_cons_of_mem _ (List.mem_append_right _ H)) (hc := (rfl : vwCl[6]? = some (RX6, TX6, 15))) 0 12 (by decide) (List.mem_of_getElem? (i := 1) rfl) rfl rfl dX6_takes_7 ?_
      refine V.iconst (v := 5) dX6_takes_10 (by decide) ?_
      refine V.icmp_eq_f (tgt := 30) (by decide) dX6_takes_11 (by decide) ?_
      refine V.aload_n 0 rfl dX6_takes_14 rfl ?_
      refine V.get (v := .int (nI 0)) (fun w H => List.mem_cons_of_mem _ (List.mem_append_right _ H)) (hc := (rfl : vwCl[6]? = some (RX6, TX6, 15))) 0 12 (by decide) (List.mem_of_getElem? (i := 1) rfl) rfl rfl dX6_takes_15 ?_
      refine V.iconst (v := 4) dX6_takes_18 (by decide) ?_
      refine V.icmp_ne_t (tgt := 47) (by decide) dX6_takes_19 (by decide) ?_
      refine V.aload_n 0 rfl dX6_takes_47 rfl ?_
      refine V.get (v := .int (nI 0)) (fun w H => List.mem_cons_of_mem _ (List.mem_append_right _ H)) (hc := (rfl : vwCl[6]? = some (RX6, TX6, 15))) 0 12 (by decide) (List.mem_of_getElem? (i := 1) rfl) rfl rfl dX6_takes_48 ?_
      refine V.tableIn (off := 37) (tgt := 88) (by decide) (by decide) (by decide) dX6_takes_51 (by decide) ?_
      refine V.aload_n 0 rfl dX6_takes_88 rfl ?_
      refine V.get (v := .ref (a 7)) (fun w H => List.mem_cons_of_mem _ (List.mem_append_right _ H)) (hc := (rfl : vwCl[6]? = some (RX6, TX6, 15))) 0 9 (by decide) (List.mem_of_getElem? (i := 4) rfl) rfl rfl dX6_takes_89 ?_
      refine V.iconst (v := 4) dX6_takes_92 (by decide) ?_
      refine V.aload_n 0 rfl dX6_takes_93 rfl ?_
      refine V.get (v := .int (nI rn)) (fun w H => List.mem_cons_of_mem _ (List.mem_append_right _ H)) (hc := (rfl : vwCl[6]? = some (RX6, TX6, 15))) 0 10 (by decide) (List.mem_of_getElem? (i := 3) rfl) rfl rfl dX6_takes_94 ?_
      refine V.imulN (v := nI (4 * rn)) dX6_takes_97 (pk_mul 4 rn) ?_
      refine V.iload_n 1 rfl dX6_takes_98 rfl ?_
      refine V.bipush (v := 102) dX6_takes_99 (by decide) ?_
      refine V.icmp_ne (tgt := 108) dX6_takes_101 (by decide) (fun c101 => ?_) (fun c101 => ?_)
      · skip
        refine V.iconst (v := 0) dX6_takes_108 (by decide) ?_
        refine V.iast (f := pt) (ws2 := MW g a z hi tx ai pa tu (upd pt (4 * rn) 0) ke st le th (nI rn) nu (nI 0) ha) 7 (4 * rn) rfl rfl (by omega) (by decide) rfl dX6_takes_109 ?_
        refine V.eqws (ws2 := MW g a z hi tx ai pa tu (upd pt (4 * rn) (if c = 102 then 1 else 0)) ke st le th (nI rn) nu (nI 0) ha) (by rw [if_neg c101]) ?_
        refine V.aload_n 0 rfl dX6_takes_110 rfl ?_
        refine V.iconst (v := -1) dX6_takes_111 (by decide) ?_
        refine V.put (v := .int (-1)) (ws2 := MW g a z hi tx ai pa tu (upd pt (4 * rn) (if c = 102 then 1 else 0)) ke st le th (nI rn) (-1) (nI 0) ha) (fun w H => List.mem_cons_of_mem _ (List.mem_append_right _ H)) tyX6 tyX6_ok nmX6 (hc := (rfl : vwCl[6]? = some (RX6, TX6, 15))) 0 11 (by decide) (List.mem_of_getElem? (i := 2) rfl) rfl rfl (tyX6_ok 11 (by decide)) rfl rfl (Nat.le_of_ble_eq_true rfl) rfl dX6_takes_112 ?_
        refine V.aload_n 0 rfl dX6_takes_115 rfl ?_
        refine V.iconst (v := 1) dX6_takes_116 (by decide) ?_
        refine V.put (v := .int 1) (ws2 := MW g a z hi tx ai pa tu (upd pt (4 * rn) (if c = 102 then 1 else 0)) ke st le th (nI rn) (-1) 1 ha) (fun w H => List.mem_cons_of_mem _ (List.mem_append_right _ H)) tyX6 tyX6_ok nmX6 (hc := (rfl : vwCl[6]? = some (RX6, TX6, 15))) 0 12 (by decide) (List.mem_of_getElem? (i := 1) rfl) rfl rfl (tyX6_ok 12 (by decide)) rfl rfl (Nat.le_of_ble_eq_true rfl) rfl dX6_takes_117 ?_
        refine V.iload_n 1 rfl dX6_takes_120 rfl ?_
        refine V.bipush (v := 112) dX6_takes_121 (by decide) ?_
        refine V.icmp_eq (tgt := 132) dX6_takes_123 (by decide) (fun c123 => ?_) (fun c123 => ?_)
        · skip
          refine V.iconst (v := 1) dX6_takes_132 (by decide) ?_
          refine V.goto (tgt := 137) dX6_takes_133 (by decide) ?_
          exact V.zret hq XM.r rfl (Nat.le_of_ble_eq_true rfl) (Nat.le_of_ble_eq_true rfl) ⟨by rw [tkB_0, decide_eq_true c123, Bool.true_or] <;> rfl, rfl⟩ dX6_takes_137
        · skip
          refine V.iload_n 1 rfl dX6_takes_126 rfl ?_
          refine V.bipush (v := 102) dX6_takes_127 (by decide) ?_
          refine V.icmp_ne (tgt := 136) dX6_takes_129 (by decide) (fun c129 => ?_) (fun c129 => ?_)
          · skip
            refine V.iconst (v := 0) dX6_takes_136 (by decide) ?_
            exact V.zret hq XM.r rfl (Nat.le_of_ble_eq_true rfl) (Nat.le_of_ble_eq_true rfl) ⟨by rw [tkB_0, decide_eq_false c123, decide_eq_false c129] <;> rfl, rfl⟩ dX6_takes_137
          · skip
            refine V.iconst (v := 1) dX6_takes_132 (by decide) ?_
            refine V.goto (tgt := 137) dX6_takes_133 (by decide) ?_
            exact V.zret hq XM.r rfl (Nat.le_of_ble_eq_true rfl) (Nat.le_of_ble_eq_true rfl) ⟨by rw [tkB_0, decide_eq_true c129, Bool.or_true] <;> rfl, rfl⟩ dX6_takes_137
      · skip
        refine V.iconst (v := 1) dX6_takes_104 (by decide) ?_
        refine V.goto (tgt := 109) dX6_takes_105 (by decide) ?_
        refine V.iast (f := pt) (ws2 := MW g a z hi tx ai pa tu (upd pt (4 * rn) 1) ke st le th (nI rn) nu (nI 0) ha) 7 (4 * rn) rfl rfl (by omega) (by decide) rfl dX6_takes_109 ?_
        refine V.eqws (ws2 := MW g a z hi tx ai pa tu (upd pt (4 * rn) (if c = 102 then 1 else 0)) ke st le th (nI rn) nu (nI 0) ha) (by rw [if_pos c101]) ?_
        refine V.aload_n 0 rfl dX6_takes_110 rfl ?_
        refine V.iconst (v := -1) dX6_takes_111 (by decide) ?_
        refine V.put (v := .int (-1)) (ws2 := MW g a z hi tx ai pa tu (upd pt (4 * rn) (if c = 102 then 1 else 0)) ke st le th (nI rn) (-1) (nI 0) ha) (fun w H => List.mem_cons_of_mem _ (List.mem_append_right _ H)) tyX6 tyX6_ok nmX6 (hc := (rfl : vwCl[6]? = some (RX6, TX6, 15))) 0 11 (by decide) (List.mem_of_getElem? (i := 2) rfl) rfl rfl (tyX6_ok 11 (by decide)) rfl rfl (Nat.le_of_ble_eq_true rfl) rfl dX6_takes_112 ?_
        refine V.aload_n 0 rfl dX6_takes_115 rfl ?_
        refine V.iconst (v := 1) dX6_takes_116 (by decide) ?_
        refine V.put (v := .int 1) (ws2 := MW g a z hi tx ai pa tu (upd pt (4 * rn) (if c = 102 then 1 else 0)) ke st le th (nI rn) (-1) 1 ha) (fun w H => List.mem_cons_of_mem _ (List.mem_append_right _ H)) tyX6 tyX6_ok nmX6 (hc := (rfl : vwCl[6]? = some (RX6, TX6, 15))) 0 12 (by decide) (List.mem_of_getElem? (i := 1) rfl) rfl rfl (tyX6_ok 12 (by decide)) rfl rfl (Nat.le_of_ble_eq_true rfl) rfl dX6_takes_117 ?_
        refine V.iload_n 1 rfl dX6_takes_120 rfl ?_
        refine V.bipush (v := 112) dX6_takes_121 (by decide) ?_
        refine V.icmp_eq (tgt := 132) dX6_takes_123 (by decide) (fun c123 => ?_) (fun c123 => ?_)
        · skip
          refine V.iconst (v := 1) dX6_takes_132 (by decide) ?_
          refine V.goto (tgt := 137) dX6_takes_133 (by decide) ?_
          exact V.zret hq XM.r rfl (Nat.le_of_ble_eq_true rfl) (Nat.le_of_ble_eq_true rfl) ⟨by rw [tkB_0, decide_eq_true c123, Bool.true_or] <;> rfl, rfl⟩ dX6_takes_137
        · skip
          refine V.iload_n 1 rfl dX6_takes_126 rfl ?_
          refine V.bipush (v := 102) dX6_takes_127 (by decide) ?_
          refine V.icmp_ne (tgt := 136) dX6_takes_129 (by decide) (fun c129 => ?_) (fun c129 => ?_)
          · skip
            refine V.iconst (v := 0) dX6_takes_136 (by decide) ?_
            exact V.zret hq XM.r rfl (Nat.le_of_ble_eq_true rfl) (Nat.le_of_ble_eq_true rfl) ⟨by rw [tkB_0, decide_eq_false c123, decide_eq_false c129] <;> rfl, rfl⟩ dX6_takes_137
          · skip
            refine V.iconst (v := 1) dX6_takes_132 (by decide) ?_
            refine V.goto (tgt := 137) dX6_takes_133 (by decide) ?_
            exact V.zret hq XM.r rfl (Nat.le_of_ble_eq_true rfl) (Nat.le_of_ble_eq_true rfl) ⟨by rw [tkB_0, decide_eq_true c129, Bool.or_true] <;> rfl, rfl⟩ dX6_takes_137
  · skip
    refine V.iload_n 1 rfl dX6_takes_0 rfl ?_
    refine V.bipush (v := 59) dX6_takes_1 (by decide) ?_
    refine V.icmp_ne (tgt := 47) dX6_takes_3 (by decide) (fun c3 => ?_) (fun c3 => ?_)
    · skip
      refine V.aload_n 0 rfl dX6_takes_47 rfl ?_
      refine V.get (v := .int (nI 1)) (fun w H => List.mem_cons_of_mem _ (List.mem_append_right _ H)) (hc := (rfl : vwCl[6]? = some (RX6, TX6, 15))) 0 12 (by decide) (List.mem_of_getElem? (i := 1) rfl) rfl rfl dX6_takes_48 ?_
      refine V.tableIn (off := 160) (tgt := 211) (by decide) (by decide) (by decide) dX6_takes_51 (by decide) ?_
      refine V.aload_n 0 rfl dX6_takes_211 rfl ?_
      refine V.get (v := .int (nI 1)) (fun w H => List.mem_cons_of_mem _ (List.mem_append_right _ H)) (hc := (rfl : vwCl[6]? = some (RX6, TX6, 15))) 0 12 (by decide) (List.mem_of_getElem? (i := 1) rfl) rfl rfl dX6_takes_212 ?_
      refine V.iconst (v := 1) dX6_takes_215 (by decide) ?_
      refine V.icmp_ne_f (tgt := 240) (by decide) dX6_takes_216 (by decide) ?_
      refine V.iload_n 1 rfl dX6_takes_219 rfl ?_
      refine V.bipush (v := 58) dX6_takes_220 (by decide) ?_
      refine V.icmp_ne (tgt := 240) dX6_takes_222 (by decide) (fun c222 => ?_) (fun c222 => ?_)
      · skip
        refine V.aload_n 0 rfl dX6_takes_240 rfl ?_
        refine V.iload_n 1 rfl dX6_takes_241 rfl ?_
        refine V.bipush (v := 48) dX6_takes_242 (by decide) ?_
        refine V.isub dX6_takes_244 ?_
        refine V.callVf (ws2 := MW g a z hi tx ai pa tu (pdP pt rn 1 nu (c - 48)) ke st le th (nI rn) (pdN 1 nu (c - 48)) (nI 1) ha) (st2 := [.int (bi (pdB 1 nu (c - 48)))]) [.int (c - 48)] [] (kX6_takesDigit g a z hi tx ai pa tu pt ke st le th nu ha (c - 48) rn 1 (by first | omega | decide) (by first | omega | decide)) gX6_takes_X6_takesDigit rfl (by show _ ∧ _ ∧ _ ∧ _ = some (1 : Nat); decide +kernel) ⟨Nat.le_of_ble_eq_true rfl, Nat.le_of_ble_eq_true rfl⟩ (hc := (rfl : vwCl[6]? = some (RX6, TX6, 15))) 0 rfl [0, 1, 2, 3, 4, 5, 6, 7, 8] (by decide) rfl rfl (Nat.le_of_ble_eq_true rfl) ⟨Nat.le_of_ble_eq_true rfl, Nat.le_of_ble_eq_true rfl⟩ dX6_takes_245 MWf rfl rfl rfl rfl ?_
        exact V.zret hq XM.r (bi_nar _) (Nat.le_of_ble_eq_true rfl) (Nat.le_of_ble_eq_true rfl) ⟨by rw [tkB_1, if_neg (fun h => c222 h.1)] <;> rfl, by rw [tkS_1, if_neg (fun h => c222 h.1)] <;> rfl⟩ dX6_takes_248
      · skip
        refine V.aload_n 0 rfl dX6_takes_225 rfl ?_
        refine V.get (v := .int nu) (fun w H => List.mem_cons_of_mem _ (List.mem_append_right _ H)) (hc := (rfl : vwCl[6]? = some (RX6, TX6, 15))) 0 11 (by decide) (List.mem_of_getElem? (i := 2) rfl) rfl rfl dX6_takes_226 ?_
        refine V.iconst (v := -1) dX6_takes_229 (by decide) ?_
        refine V.icmp_eq (tgt := 240) dX6_takes_230 (by decide) (fun c230 => ?_) (fun c230 => ?_)
        · skip
          refine V.aload_n 0 rfl dX6_takes_240 rfl ?_
          refine V.iload_n 1 rfl dX6_takes_241 rfl ?_
          refine V.bipush (v := 48) dX6_takes_242 (by decide) ?_
          refine V.isub dX6_takes_244 ?_
          refine V.callVf (ws2 := MW g a z hi tx ai pa tu (pdP pt rn 1 nu (c - 48)) ke st le th (nI rn) (pdN 1 nu (c - 48)) (nI 1) ha) (st2 := [.int (bi (pdB 1 nu (c - 48)))]) [.int (c - 48)] [] (kX6_takesDigit g a z hi tx ai pa tu pt ke st le th nu ha (c - 48) rn 1 (by first | omega | decide) (by first | omega | decide)) gX6_takes_X6_takesDigit rfl (by show _ ∧ _ ∧ _ ∧ _ = some (1 : Nat); decide +kernel) ⟨Nat.le_of_ble_eq_true rfl, Nat.le_of_ble_eq_true rfl⟩ (hc := (rfl : vwCl[6]? = some (RX6, TX6, 15))) 0 rfl [0, 1, 2, 3, 4, 5, 6, 7, 8] (by decide) rfl rfl (Nat.le_of_ble_eq_true rfl) ⟨Nat.le_of_ble_eq_true rfl, Nat.le_of_ble_eq_true rfl⟩ dX6_takes_245 MWf rfl rfl rfl rfl ?_
          exact V.zret hq XM.r (bi_nar _) (Nat.le_of_ble_eq_true rfl) (Nat.le_of_ble_eq_true rfl) ⟨by rw [tkB_1, if_neg (fun h => h.2 c230)] <;> rfl, by rw [tkS_1, if_neg (fun h => h.2 c230)] <;> rfl⟩ dX6_takes_248
        · skip
          refine V.aload_n 0 rfl dX6_takes_233 rfl ?_
          refine V.iconst (v := 2) dX6_takes_234 (by decide) ?_
          refine V.put (v := .int 2) (ws2 := MW g a z hi tx ai pa tu pt ke st le th (nI rn) nu 2 ha) (fun w H => List.mem_cons_of_mem _ (List.mem_append_right _ H)) tyX6 tyX6_ok nmX6 (hc := (rfl : vwCl[6]? = some (RX6, TX6, 15))) 0 12 (by decide) (List.mem_of_getElem? (i := 1) rfl) rfl rfl (tyX6_ok 12 (by decide)) rfl rfl (Nat.le_of_ble_eq_true rfl) rfl dX6_takes_235 ?_
          refine V.iconst (v := 1) dX6_takes_238 (by decide) ?_
          exact V.zret hq XM.r rfl (Nat.le_of_ble_eq_true rfl) (Nat.le_of_ble_eq_true rfl) ⟨by rw [tkB_1, if_pos ⟨c222, c230⟩] <;> rfl, by rw [tkS_1, if_pos ⟨c222, c230⟩] <;> rfl⟩ dX6_takes_239
    · skip
      refine V.aload_n 0 rfl dX6_takes_6 rfl ?_
      refine V.get (v := .int (nI 1)) (fun w H => List.mem_cons_of_mem _ (List.mem_append_right _ H)) (hc := (rfl : vwCl[6]? = some (RX6, TX6, 15))) 0 12 (by decide) (List.mem_of_getElem? (i := 1) rfl) rfl rfl dX6_takes_7 ?_
      refine V.iconst (v := 5) dX6_takes_10 (by decide) ?_
      refine V.icmp_eq_f (tgt := 30) (by decide) dX6_takes_11 (by decide) ?_
      refine V.aload_n 0 rfl dX6_takes_14 rfl ?_
      refine V.get (v := .int (nI 1)) (fun w H => List.mem_cons_of_mem _ (List.mem_append_right _ H)) (hc := (rfl : vwCl[6]? = some (RX6, TX6, 15))) 0 12 (by decide) (List.mem_of_getElem? (i := 1) rfl) rfl rfl dX6_takes_15 ?_
      refine V.iconst (v := 4) dX6_takes_18 (by decide) ?_
      refine V.icmp_ne_t (tgt := 47) (by decide) dX6_takes_19 (by decide) ?_
      refine V.aload_n 0 rfl dX6_takes_47 rfl ?_
      refine V.get (v := .int (nI 1)) (fun w H => List.mem_cons_of_mem _ (List.mem_append_right _ H)) (hc := (rfl : vwCl[6]? = some (RX6, TX6, 15))) 0 12 (by decide) (List.mem_of_getElem? (i := 1) rfl) rfl rfl dX6_takes_48 ?_
      refine V.tableIn (off := 160) (tgt := 211) (by decide) (by decide) (by decide) dX6_takes_51 (by decide) ?_
      refine V.aload_n 0 rfl dX6_takes_211 rfl ?_
      refine V.get (v := .int (nI 1)) (fun w H => List.mem_cons_of_mem _ (List.mem_append_right _ H)) (hc := (rfl : vwCl[6]? = some (RX6, TX6, 15))) 0 12 (by decide) (List.mem_of_getElem? (i := 1) rfl) rfl rfl dX6_takes_212 ?_
      refine V.iconst (v := 1) dX6_takes_215 (by decide) ?_
      refine V.icmp_ne_f (tgt := 240) (by decide) dX6_takes_216 (by decide) ?_
      refine V.iload_n 1 rfl dX6_takes_219 rfl ?_
      refine V.bipush (v := 58) dX6_takes_220 (by decide) ?_
      refine V.icmp_ne (tgt := 240) dX6_takes_222 (by decide) (fun c222 => ?_) (fun c222 => ?_)
      · skip
        refine V.aload_n 0 rfl dX6_takes_240 rfl ?_
        refine V.iload_n 1 rfl dX6_takes_241 rfl ?_
        refine V.bipush (v := 48) dX6_takes_242 (by decide) ?_
        refine V.isub dX6_takes_244 ?_
        refine V.callVf (ws2 := MW g a z hi tx ai pa tu (pdP pt rn 1 nu (c - 48)) ke st le th (nI rn) (pdN 1 nu (c - 48)) (nI 1) ha) (st2 := [.int (bi (pdB 1 nu (c - 48)))]) [.int (c - 48)] [] (kX6_takesDigit g a z hi tx ai pa tu pt ke st le th nu ha (c - 48) rn 1 (by first | omega | decide) (by first | omega | decide)) gX6_takes_X6_takesDigit rfl (by show _ ∧ _ ∧ _ ∧ _ = some (1 : Nat); decide +kernel) ⟨Nat.le_of_ble_eq_true rfl, Nat.le_of_ble_eq_true rfl⟩ (hc := (rfl : vwCl[6]? = some (RX6, TX6, 15))) 0 rfl [0, 1, 2, 3, 4, 5, 6, 7, 8] (by decide) rfl rfl (Nat.le_of_ble_eq_true rfl) ⟨Nat.le_of_ble_eq_true rfl, Nat.le_of_ble_eq_true rfl⟩ dX6_takes_245 MWf rfl rfl rfl rfl ?_
        exact V.zret hq XM.r (bi_nar _) (Nat.le_of_ble_eq_true rfl) (Nat.le_of_ble_eq_true rfl) ⟨by rw [tkB_1, if_neg (fun h => c222 h.1)] <;> rfl, by rw [tkS_1, if_neg (fun h => c222 h.1)] <;> rfl⟩ dX6_takes_248
      · skip
        refine V.aload_n 0 rfl dX6_takes_225 rfl ?_
        refine V.get (v := .int nu) (fun w H => List.mem_cons_of_mem _ (List.mem_append_right _ H)) (hc := (rfl : vwCl[6]? = some (RX6, TX6, 15))) 0 11 (by decide) (List.mem_of_getElem? (i := 2) rfl) rfl rfl dX6_takes_226 ?_
        refine V.iconst (v := -1) dX6_takes_229 (by decide) ?_
        refine V.icmp_eq (tgt := 240) dX6_takes_230 (by decide) (fun c230 => ?_) (fun c230 => ?_)
        · skip
          refine V.aload_n 0 rfl dX6_takes_240 rfl ?_
          refine V.iload_n 1 rfl dX6_takes_241 rfl ?_
          refine V.bipush (v := 48) dX6_takes_242 (by decide) ?_
          refine V.isub dX6_takes_244 ?_
          refine V.callVf (ws2 := MW g a z hi tx ai pa tu (pdP pt rn 1 nu (c - 48)) ke st le th (nI rn) (pdN 1 nu (c - 48)) (nI 1) ha) (st2 := [.int (bi (pdB 1 nu (c - 48)))]) [.int (c - 48)] [] (kX6_takesDigit g a z hi tx ai pa tu pt ke st le th nu ha (c - 48) rn 1 (by first | omega | decide) (by first | omega | decide)) gX6_takes_X6_takesDigit rfl (by show _ ∧ _ ∧ _ ∧ _ = some (1 : Nat); decide +kernel) ⟨Nat.le_of_ble_eq_true rfl, Nat.le_of_ble_eq_true rfl⟩ (hc := (rfl : vwCl[6]? = some (RX6, TX6, 15))) 0 rfl [0, 1, 2, 3, 4, 5, 6, 7, 8] (by decide) rfl rfl (Nat.le_of_ble_eq_true rfl) ⟨Nat.le_of_ble_eq_true rfl, Nat.le_of_ble_eq_true rfl⟩ dX6_takes_245 MWf rfl rfl rfl rfl ?_
          exact V.zret hq XM.r (bi_nar _) (Nat.le_of_ble_eq_true rfl) (Nat.le_of_ble_eq_true rfl) ⟨by rw [tkB_1, if_neg (fun h => h.2 c230)] <;> rfl, by rw [tkS_1, if_neg (fun h => h.2 c230)] <;> rfl⟩ dX6_takes_248
        · skip
          refine V.aload_n 0 rfl dX6_takes_233 rfl ?_
          refine V.iconst (v := 2) dX6_takes_234 (by decide) ?_
          refine V.put (v := .int 2) (ws2 := MW g a z hi tx ai pa tu pt ke st le th (nI rn) nu 2 ha) (fun w H => List.mem_cons_of_mem _ (List.mem_append_right _ H)) tyX6 tyX6_ok nmX6 (hc := (rfl : vwCl[6]? = some (RX6, TX6, 15))) 0 12 (by decide) (List.mem_of_getElem? (i := 1) rfl) rfl rfl (tyX6_ok 12 (by decide)) rfl rfl (Nat.le_of_ble_eq_true rfl) rfl dX6_takes_235 ?_
          refine V.iconst (v := 1) dX6_takes_238 (by decide) ?_
          exact V.zret hq XM.r rfl (Nat.le_of_ble_eq_true rfl) (Nat.le_of_ble_eq_true rfl) ⟨by rw [tkB_1, if_pos ⟨c222, c230⟩] <;> rfl, by rw [tkS_1, if_pos ⟨c222, c230⟩] <;> rfl⟩ dX6_takes_239
  · skip
    refine V.iload_n 1 rfl dX6_takes_0 rfl ?_
    refine V.bipush (v := 59) dX6_takes_1 (by decide) ?_
    refine V.icmp_ne (tgt := 47) dX6_takes_3 (by decide) (fun c3 => ?_) (fun c3 => ?_)
    · skip
      refine V.aload_n 0 rfl dX6_takes_47 rfl ?_
      refine V.get (v := .int (nI 2)) (fun w H => List.mem_cons_of_mem _ (List.mem_append_right _ H)) (hc := (rfl : vwCl[6]? = some (RX6, TX6, 15))) 0 12 (by decide) (List.mem_of_getElem? (i := 1) rfl) rfl rfl dX6_takes_48 ?_
      refine V.tableIn (off := 87) (tgt := 138) (by decide) (by decide) (by decide) dX6_takes_51 (by decide) ?_
      refine V.aload_n 0 rfl dX6_takes_138 rfl ?_
      refine V.get (v := .ref (a 7)) (fun w H => List.mem_cons_of_mem _ (List.mem_append_right _ H)) (hc := (rfl : vwCl[6]? = some (RX6, TX6, 15))) 0 9 (by decide) (List.mem_of_getElem? (i := 4) rfl) rfl rfl dX6_takes_139 ?_
      refine V.iconst (v := 4) dX6_takes_142 (by decide) ?_
      refine V.aload_n 0 rfl dX6_takes_143 rfl ?_
      refine V.get (v := .int (nI rn)) (fun w H => List.mem_cons_of_mem _ (List.mem_append_right _ H)) (hc := (rfl : vwCl[6]? = some (RX6, TX6, 15))) 0 10 (by decide) (List.mem_of_getElem? (i := 3) rfl) rfl rfl dX6_takes_144 ?_
      refine V.imulN (v := nI (4 * rn)) dX6_takes_147 (pk_mul 4 rn) ?_
      refine V.iconst (v := 2) dX6_takes_148 (by decide) ?_
      refine V.iaddN (v := nI (4 * rn + 2)) dX6_takes_149 (nI_add (4 * rn) 2) ?_
      refine V.iload_n 1 rfl dX6_takes_150 rfl ?_
      refine V.bipush (v := 48) dX6_takes_151 (by decide) ?_
      refine V.isub dX6_takes_153 ?_
      refine V.iast (f := pt) (ws2 := MW g a z hi tx ai pa tu (upd pt (4 * rn + 2) (c - 48)) ke st le th (nI rn) nu (nI 2) ha) 7 (4 * rn + 2) rfl rfl (by omega) (by decide) rfl dX6_takes_154 ?_
      refine V.aload_n 0 rfl dX6_takes_155 rfl ?_
      refine V.iconst (v := -1) dX6_takes_156 (by decide) ?_
      refine V.put (v := .int (-1)) (ws2 := MW g a z hi tx ai pa tu (upd pt (4 * rn + 2) (c - 48)) ke st le th (nI rn) (-1) (nI 2) ha) (fun w H => List.mem_cons_of_mem _ (List.mem_append_right _ H)) tyX6 tyX6_ok nmX6 (hc := (rfl : vwCl[6]? = some (RX6, TX6, 15))) 0 11 (by decide) (List.mem_of_getElem? (i := 2) rfl) rfl rfl (tyX6_ok 11 (by decide)) rfl rfl (Nat.le_of_ble_eq_true rfl) rfl dX6_takes_157 ?_
      refine V.aload_n 0 rfl dX6_takes_160 rfl ?_
      refine V.aload_n 0 rfl dX6_takes_161 rfl ?_
      refine V.get (v := .ref (a 7)) (fun w H => List.mem_cons_of_mem _ (List.mem_append_right _ H)) (hc := (rfl : vwCl[6]? = some (RX6, TX6, 15))) 0 9 (by decide) (List.mem_of_getElem? (i := 4) rfl) rfl rfl dX6_takes_162 ?_
      refine V.iconst (v := 4) dX6_takes_165 (by decide) ?_
      refine V.aload_n 0 rfl dX6_takes_166 rfl ?_
      refine V.get (v := .int (nI rn)) (fun w H => List.mem_cons_of_mem _ (List.mem_append_right _ H)) (hc := (rfl : vwCl[6]? = some (RX6, TX6, 15))) 0 10 (by decide) (List.mem_of_getElem? (i := 3) rfl) rfl rfl dX6_takes_167 ?_
      refine V.imulN (v := nI (4 * rn)) dX6_takes_170 (pk_mul 4 rn) ?_
      refine V.iald (f := upd pt (4 * rn + 2) (c - 48)) 7 (4 * rn) rfl rfl (by omega) (by decide) dX6_takes_171 ?_
      refine V.iconst (v := 1) dX6_takes_172 (by decide) ?_
      refine V.icmp_ne (tgt := 180) dX6_takes_173 (by decide) (fun c173 => ?_) (fun c173 => ?_)
      · skip
        refine V.iconst (v := 5) dX6_takes_180 (by decide) ?_
        refine V.put (v := .int 5) (ws2 := MW g a z hi tx ai pa tu (upd pt (4 * rn + 2) (c - 48)) ke st le th (nI rn) (-1) 5 ha) (fun w H => List.mem_cons_of_mem _ (List.mem_append_right _ H)) tyX6 tyX6_ok nmX6 (hc := (rfl : vwCl[6]? = some (RX6, TX6, 15))) 0 12 (by decide) (List.mem_of_getElem? (i := 1) rfl) rfl rfl (tyX6_ok 12 (by decide)) rfl rfl (Nat.le_of_ble_eq_true rfl) rfl dX6_takes_181 ?_
        refine V.iload_n 1 rfl dX6_takes_184 rfl ?_
        refine V.bipush (v := 48) dX6_takes_185 (by decide) ?_
        refine V.isub dX6_takes_187 ?_
        refine V.callSf (ws2 := MW g a z hi tx ai pa tu (upd pt (4 * rn + 2) (c - 48)) ke st le th (nI rn) (-1) 5 ha) (st2 := [.int (bi (wi (c - 48) 0 5))]) [.int (c - 48)] [] (kX6_isKind g (c - 48) ) gX6_takes_X6_isKind rfl (by show _ ∧ _ ∧ _ = some (1 : Nat); decide +kernel) ⟨Nat.le_of_ble_eq_true rfl, Nat.le_of_ble_eq_true rfl⟩ [] (by decide) rfl rfl (Nat.le_of_ble_eq_true rfl) ⟨Nat.le_of_ble_eq_true rfl, Nat.le_of_ble_eq_true rfl⟩ dX6_takes_188 rfl (List.append_nil _) rfl rfl rfl ?_
        exact V.zret hq XM.r (bi_nar _) (Nat.le_of_ble_eq_true rfl) (Nat.le_of_ble_eq_true rfl) ⟨rfl, by rw [tkS_2, if_neg c173] <;> rfl⟩ dX6_takes_191
      · skip
        refine V.iconst (v := 3) dX6_takes_176 (by decide) ?_
        refine V.goto (tgt := 181) dX6_takes_177 (by decide) ?_
        refine V.put (v := .int 3) (ws2 := MW g a z hi tx ai pa tu (upd pt (4 * rn + 2) (c - 48)) ke st le th (nI rn) (-1) 3 ha) (fun w H => List.mem_cons_of_mem _ (List.mem_append_right _ H)) tyX6 tyX6_ok nmX6 (hc := (rfl : vwCl[6]? = some (RX6, TX6, 15))) 0 12 (by decide) (List.mem_of_getElem? (i := 1) rfl) rfl rfl (tyX6_ok 12 (by decide)) rfl rfl (Nat.le_of_ble_eq_true rfl) rfl dX6_takes_181 ?_
        refine V.iload_n 1 rfl dX6_takes_184 rfl ?_
        refine V.bipush (v := 48) dX6_takes_185 (by decide) ?_
        refine V.isub dX6_takes_187 ?_
        refine V.callSf (ws2 := MW g a z hi tx ai pa tu (upd pt (4 * rn + 2) (c - 48)) ke st le th (nI rn) (-1) 3 ha) (st2 := [.int (bi (wi (c - 48) 0 5))]) [.int (c - 48)] [] (kX6_isKind g (c - 48) ) gX6_takes_X6_isKind rfl (by show _ ∧ _ ∧ _ = some (1 : Nat); decide +kernel) ⟨Nat.le_of_ble_eq_true rfl, Nat.le_of_ble_eq_true rfl⟩ [] (by decide) rfl rfl (Nat.le_of_ble_eq_true rfl) ⟨Nat.le_of_ble_eq_true rfl, Nat.le_of_ble_eq_true rfl⟩ dX6_takes_188 rfl (List.append_nil _) rfl rfl rfl ?_
        exact V.zret hq XM.r (bi_nar _) (Nat.le_of_ble_eq_true rfl) (Nat.le_of_ble_eq_true rfl) ⟨rfl, by rw [tkS_2, if_pos c173] <;> rfl⟩ dX6_takes_191
    · skip
      refine V.aload_n 0 rfl dX6_takes_6 rfl ?_
      refine V.get (v := .int (nI 2)) (fun w H => List.mem_cons_of_mem _ (List.mem_append_right _ H)) (hc := (rfl : vwCl[6]? = some (RX6, TX6, 15))) 0 12 (by decide) (List.mem_of_getElem? (i := 1) rfl) rfl rfl dX6_takes_7 ?_
      refine V.iconst (v := 5) dX6_takes_10 (by decide) ?_
      refine V.icmp_eq_f (tgt := 30) (by decide) dX6_takes_11 (by decide) ?_
      refine V.aload_n 0 rfl dX6_takes_14 rfl ?_
      refine V.get (v := .int (nI 2)) (fun w H => List.mem_cons_of_mem _ (List.mem_append_right _ H)) (hc := (rfl : vwCl[6]? = some (RX6, TX6, 15))) 0 12 (by decide) (List.mem_of_getElem? (i := 1) rfl) rfl rfl dX6_takes_15 ?_
      refine V.iconst (v := 4) dX6_takes_18 (by decide) ?_
      refine V.icmp_ne_t (tgt := 47) (by decide) dX6_takes_19 (by decide) ?_
      refine V.aload_n 0 rfl dX6_takes_47 rfl ?_
      refine V.get (v := .int (nI 2)) (fun w H => List.mem_cons_of_mem _ (List.mem_append_right _ H)) (hc := (rfl : vwCl[6]? = some (RX6, TX6, 15))) 0 12 (by decide) (List.mem_of_getElem? (i := 1) rfl) rfl rfl dX6_takes_48 ?_
      refine V.tableIn (off := 87) (tgt := 138) (by decide) (by decide) (by decide) dX6_takes_51 (by decide) ?_
      refine V.aload_n 0 rfl dX6_takes_138 rfl ?_
      refine V.get (v := .ref (a 7)) (fun w H => List.mem_cons_of_mem _ (List.mem_append_right _ H)) (hc := (rfl : vwCl[6]? = some (RX6, TX6, 15))) 0 9 (by decide) (List.mem_of_getElem? (i := 4) rfl) rfl rfl dX6_takes_139 ?_
      refine V.iconst (v := 4) dX6_takes_142 (by decide) ?_
      refine V.aload_n 0 rfl dX6_takes_143 rfl ?_
      refine V.get (v := .int (nI rn)) (fun w H => List.mem_cons_of_mem _ (List.mem_append_right _ H)) (hc := (rfl : vwCl[6]? = some (RX6, TX6, 15))) 0 10 (by decide) (List.mem_of_getElem? (i := 3) rfl) rfl rfl dX6_takes_144 ?_
      refine V.imulN (v := nI (4 * rn)) dX6_takes_147 (pk_mul 4 rn) ?_
      refine V.iconst (v := 2) dX6_takes_148 (by decide) ?_
      refine V.iaddN (v := nI (4 * rn + 2)) dX6_takes_149 (nI_add (4 * rn) 2) ?_
      refine V.iload_n 1 rfl dX6_takes_150 rfl ?_
      refine V.bipush (v := 48) dX6_takes_151 (by decide) ?_
      refine V.isub dX6_takes_153 ?_
      refine V.iast (f := pt) (ws2 := MW g a z hi tx ai pa tu (upd pt (4 * rn + 2) (c - 48)) ke st le th (nI rn) nu (nI 2) ha) 7 (4 * rn + 2) rfl rfl (by omega) (by decide) rfl dX6_takes_154 ?_
      refine V.aload_n 0 rfl dX6_takes_155 rfl ?_
      refine V.iconst (v := -1) dX6_takes_156 (by decide) ?_
      refine V.put (v := .int (-1)) (ws2 := MW g a z hi tx ai pa tu (upd pt (4 * rn + 2) (c - 48)) ke st le th (nI rn) (-1) (nI 2) ha) (fun w H => List.mem_cons_of_mem _ (List.mem_append_right _ H)) tyX6 tyX6_ok nmX6 (hc := (rfl : vwCl[6]? = some (RX6, TX6, 15))) 0 11 (by decide) (List.mem_of_getElem? (i := 2) rfl) rfl rfl (tyX6_ok 11 (by decide)) rfl rfl (Nat.le_of_ble_eq_true rfl) rfl dX6_takes_157 ?_
      refine V.aload_n 0 rfl dX6_takes_160 rfl ?_
      refine V.aload_n 0 rfl dX6_takes_161 rfl ?_
      refine V.get (v := .ref (a 7)) (fun w H => List.mem_cons_of_mem _ (List.mem_append_right _ H)) (hc := (rfl : vwCl[6]? = some (RX6, TX6, 15))) 0 9 (by decide) (List.mem_of_getElem? (i := 4) rfl) rfl rfl dX6_takes_162 ?_
      refine V.iconst (v := 4) dX6_takes_165 (by decide) ?_
      refine V.aload_n 0 rfl dX6_takes_166 rfl ?_
      refine V.get (v := .int (nI rn)) (fun w H => List.mem_cons_of_mem _ (List.mem_append_right _ H)) (hc := (rfl : vwCl[6]? = some (RX6, TX6, 15))) 0 10 (by decide) (List.mem_of_getElem? (i := 3) rfl) rfl rfl dX6_takes_167 ?_
      refine V.imulN (v := nI (4 * rn)) dX6_takes_170 (pk_mul 4 rn) ?_
      refine V.iald (f := upd pt (4 * rn + 2) (c - 48)) 7 (4 * rn) rfl rfl (by omega) (by decide) dX6_takes_171 ?_
      refine V.iconst (v := 1) dX6_takes_172 (by decide) ?_
      refine V.icmp_ne (tgt := 180) dX6_takes_173 (by decide) (fun c173 => ?_) (fun c173 => ?_)
      · skip
        refine V.iconst (v := 5) dX6_takes_180 (by decide) ?_
        refine V.put (v := .int 5) (ws2 := MW g a z hi tx ai pa tu (upd pt (4 * rn + 2) (c - 48)) ke st le th (nI rn) (-1) 5 ha) (fun w H => List.mem_cons_of_mem _ (List.mem_append_right _ H)) tyX6 tyX6_ok nmX6 (hc := (rfl : vwCl[6]? = some (RX6, TX6, 15))) 0 12 (by decide) (List.mem_of_getElem? (i := 1) rfl) rfl rfl (tyX6_ok 12 (by decide)) rfl rfl (Nat.le_of_ble_eq_true rfl) rfl dX6_takes_181 ?_
        refine V.iload_n 1 rfl dX6_takes_184 rfl ?_
        refine V.bipush (v := 48) dX6_takes_185 (by decide) ?_
        refine V.isub dX6_takes_187 ?_
        refine V.callSf (ws2 := MW g a z hi tx ai pa tu (upd pt (4 * rn + 2) (c - 48)) ke st le th (nI rn) (-1) 5 ha) (st2 := [.int (bi (wi (c - 48) 0 5))]) [.int (c - 48)] [] (kX6_isKind g (c - 48) ) gX6_takes_X6_isKind rfl (by show _ ∧ _ ∧ _ = some (1 : Nat); decide +kernel) ⟨Nat.le_of_ble_eq_true rfl, Nat.le_of_ble_eq_true rfl⟩ [] (by decide) rfl rfl (Nat.le_of_ble_eq_true rfl) ⟨Nat.le_of_ble_eq_true rfl, Nat.le_of_ble_eq_true rfl⟩ dX6_takes_188 rfl (List.append_nil _) rfl rfl rfl ?_
        exact V.zret hq XM.r (bi_nar _) (Nat.le_of_ble_eq_true rfl) (Nat.le_of_ble_eq_true rfl) ⟨rfl, by rw [tkS_2, if_neg c173] <;> rfl⟩ dX6_takes_191
      · skip
        refine V.iconst (v := 3) dX6_takes_176 (by decide) ?_
        refine V.goto (tgt := 181) dX6_takes_177 (by decide) ?_
        refine V.put (v := .int 3) (ws2 := MW g a z hi tx ai pa tu (upd pt (4 * rn + 2) (c - 48)) ke st le th (nI rn) (-1) 3 ha) (fun w H => List.mem_cons_of_mem _ (List.mem_append_right _ H)) tyX6 tyX6_ok nmX6 (hc := (rfl : vwCl[6]? = some (RX6, TX6, 15))) 0 12 (by decide) (List.mem_of_getElem? (i := 1) rfl) rfl rfl (tyX6_ok 12 (by decide)) rfl rfl (Nat.le_of_ble_eq_true rfl) rfl dX6_takes_181 ?_
        refine V.iload_n 1 rfl dX6_takes_184 rfl ?_
        refine V.bipush (v := 48) dX6_takes_185 (by decide) ?_
        refine V.isub dX6_takes_187 ?_
        refine V.callSf (ws2 := MW g a z hi tx ai pa tu (upd pt (4 * rn + 2) (c - 48)) ke st le th (nI rn) (-1) 3 ha) (st2 := [.int (bi (wi (c - 48) 0 5))]) [.int (c - 48)] [] (kX6_isKind g (c - 48) ) gX6_takes_X6_isKind rfl (by show _ ∧ _ ∧ _ = some (1 : Nat); decide +kernel) ⟨Nat.le_of_ble_eq_true rfl, Nat.le_of_ble_eq_true rfl⟩ [] (by decide) rfl rfl (Nat.le_of_ble_eq_true rfl) ⟨Nat.le_of_ble_eq_true rfl, Nat.le_of_ble_eq_true rfl⟩ dX6_takes_188 rfl (List.append_nil _) rfl rfl rfl ?_
        exact V.zret hq XM.r (bi_nar _) (Nat.le_of_ble_eq_true rfl) (Nat.le_of_ble_eq_true rfl) ⟨rfl, by rw [tkS_2, if_pos c173] <;> rfl⟩ dX6_takes_191
  · skip
    refine V.iload_n 1 rfl dX6_takes_0 rfl ?_
    refine V.bipush (v := 59) dX6_takes_1 (by decide) ?_
    refine V.icmp_ne (tgt := 47) dX6_takes_3 (by decide) (fun c3 => ?_) (fun c3 => ?_)
    · skip
      refine V.aload_n 0 rfl dX6_takes_47 rfl ?_
      refine V.get (v := .int (nI 3)) (fun w H => List.mem_cons_of_mem _ (List.mem_append_right _ H)) (hc := (rfl : vwCl[6]? = some (RX6, TX6, 15))) 0 12 (by decide) (List.mem_of_getElem? (i := 1) rfl) rfl rfl dX6_takes_48 ?_
      refine V.tableIn (off := 141) (tgt := 192) (by decide) (by decide) (by decide) dX6_takes_51 (by decide) ?_
      refine V.aload_n 0 rfl dX6_takes_192 rfl ?_
      refine V.iconst (v := 4) dX6_takes_193 (by decide) ?_
      refine V.put (v := .int 4) (ws2 := MW g a z hi tx ai pa tu pt ke st le th (nI rn) nu 4 ha) (fun w H => List.mem_cons_of_mem _ (List.mem_append_right _ H)) tyX6 tyX6_ok nmX6 (hc := (rfl : vwCl[6]? = some (RX6, TX6, 15))) 0 12 (by decide) (List.mem_of_getElem? (i := 1) rfl) rfl rfl (tyX6_ok 12 (by decide)) rfl rfl (Nat.le_of_ble_eq_true rfl) rfl dX6_takes_194 ?_
      refine V.iload_n 1 rfl dX6_takes_197 rfl ?_
      refine V.bipush (v := 42) dX6_takes_198 (by decide) ?_
      refine V.icmp_ne (tgt := 207) dX6_takes_200 (by decide) (fun c200 => ?_) (fun c200 => ?_)
      · skip
        refine V.iconst (v := 0) dX6_takes_207 (by decide) ?_
        exact V.zret hq XM.r rfl (Nat.le_of_ble_eq_true rfl) (Nat.le_of_ble_eq_true rfl) ⟨by rw [tkB_3, decide_eq_false c200] <;> rfl, rfl⟩ dX6_takes_208
      · skip
        refine V.iconst (v := 1) dX6_takes_203 (by decide) ?_
        refine V.goto (tgt := 208) dX6_takes_204 (by decide) ?_
        exact V.zret hq XM.r rfl (Nat.le_of_ble_eq_true rfl) (Nat.le_of_ble_eq_true rfl) ⟨by rw [tkB_3, decide_eq_true c200] <;> rfl, rfl⟩ dX6_takes_208
    · skip
      refine V.aload_n 0 rfl dX6_takes_6 rfl ?_
      refine V.get (v := .int (nI 3)) (fun w H => List.mem_cons_of_mem _ (List.mem_append_right _ H)) (hc := (rfl : vwCl[6]? = some (RX6, TX6, 15))) 0 12 (by decide) (List.mem_of_getElem? (i := 1) rfl) rfl rfl dX6_takes_7 ?_
      refine V.iconst (v := 5) dX6_takes_10 (by decide) ?_
      refine V.icmp_eq_f (tgt := 30) (by decide) dX6_takes_11 (by decide) ?_
      refine V.aload_n 0 rfl dX6_takes_14 rfl ?_
      refine V.get (v := .int (nI 3)) (fun w H => List.mem_cons_of_mem _ (List.mem_append_right _ H)) (hc := (rfl : vwCl[6]? = some (RX6, TX6, 15))) 0 12 (by decide) (List.mem_of_getElem? (i := 1) rfl) rfl rfl dX6_takes_15 ?_
      refine V.iconst (v := 4) dX6_takes_18 (by decide) ?_
      refine V.icmp_ne_t (tgt := 47) (by decide) dX6_takes_19 (by decide) ?_
      refine V.aload_n 0 rfl dX6_takes_47 rfl ?_
      refine V.get (v := .int (nI 3)) (fun w H => List.mem_cons_of_mem _ (List.mem_append_right _ H)) (hc := (rfl : vwCl[6]? = some (RX6, TX6, 15))) 0 12 (by decide) (List.mem_of_getElem? (i := 1) rfl) rfl rfl dX6_takes_48 ?_
      refine V.tableIn (off := 141) (tgt := 192) (by decide) (by decide) (by decide) dX6_takes_51 (by decide) ?_
      refine V.aload_n 0 rfl dX6_takes_192 rfl ?_
      refine V.iconst (v := 4) dX6_takes_193 (by decide) ?_
      refine V.put (v := .int 4) (ws2 := MW g a z hi tx ai pa tu pt ke st le th (nI rn) nu 4 ha) (fun w H => List.mem_cons_of_mem _ (List.mem_append_right _ H)) tyX6 tyX6_ok nmX6 (hc := (rfl : vwCl[6]? = some (RX6, TX6, 15))) 0 12 (by decide) (List.mem_of_getElem? (i := 1) rfl) rfl rfl (tyX6_ok 12 (by decide)) rfl rfl (Nat.le_of_ble_eq_true rfl) rfl dX6_takes_194 ?_
      refine V.iload_n 1 rfl dX6_takes_197 rfl ?_
      refine V.bipush (v := 42) dX6_takes_198 (by decide) ?_
      refine V.icmp_ne (tgt := 207) dX6_takes_200 (by decide) (fun c200 => ?_) (fun c200 => ?_)
      · skip
        refine V.iconst (v := 0) dX6_takes_207 (by decide) ?_
        exact V.zret hq XM.r rfl (Nat.le_of_ble_eq_true rfl) (Nat.le_of_ble_eq_true rfl) ⟨by rw [tkB_3, decide_eq_false c200] <;> rfl, rfl⟩ dX6_takes_208
      · skip
        refine V.iconst (v := 1) dX6_takes_203 (by decide) ?_
        refine V.goto (tgt := 208) dX6_takes_204 (by decide) ?_
        exact V.zret hq XM.r rfl (Nat.le_of_ble_eq_true rfl) (Nat.le_of_ble_eq_true rfl) ⟨by rw [tkB_3, decide_eq_true c200] <;> rfl, rfl⟩ dX6_takes_208
  · skip
    refine V.iload_n 1 rfl dX6_takes_0 rfl ?_
    refine V.bipush (v := 59) dX6_takes_1 (by decide) ?_
    refine V.icmp_ne (tgt := 47) dX6_takes_3 (by decide) (fun c3 => ?_) (fun c3 => ?_)
    · skip
      refine V.aload_n 0 rfl dX6_takes_47 rfl ?_
      refine V.get (v := .int (nI 4)) (fun w H => List.mem_cons_of_mem _ (List.mem_append_right _ H)) (hc := (rfl : vwCl[6]? = some (RX6, TX6, 15))) 0 12 (by decide) (List.mem_of_getElem? (i := 1) rfl) rfl rfl dX6_takes_48 ?_
      refine V.tableIn (off := 160) (tgt := 211) (by decide) (by decide) (by decide) dX6_takes_51 (by decide) ?_
      refine V.aload_n 0 rfl dX6_takes_211 rfl ?_
      refine V.get (v := .int (nI 4)) (fun w H => List.mem_cons_of_mem _ (List.mem_append_right _ H)) (hc := (rfl : vwCl[6]? = some (RX6, TX6, 15))) 0 12 (by decide) (List.mem_of_getElem? (i := 1) rfl) rfl rfl dX6_takes_212 ?_
      refine V.iconst (v := 1) dX6_takes_215 (by decide) ?_
      refine V.icmp_ne_t (tgt := 240) (by decide) dX6_takes_216 (by decide) ?_
      refine V.aload_n 0 rfl dX6_takes_240 rfl ?_
      refine V.iload_n 1 rfl dX6_takes_241 rfl ?_
      refine V.bipush (v := 48) dX6_takes_242 (by decide) ?_
      refine V.isub dX6_takes_244 ?_
      refine V.callVf (ws2 := MW g a z hi tx ai pa tu (pdP pt rn 4 nu (c - 48)) ke st le th (nI rn) (pdN 4 nu (c - 48)) (nI 4) ha) (st2 := [.int (bi (pdB 4 nu (c - 48)))]) [.int (c - 48)] [] (kX6_takesDigit g a z hi tx ai pa tu pt ke st le th nu ha (c - 48) rn 4 (by first | omega | decide) (by first | omega | decide)) gX6_takes_X6_takesDigit rfl (by show _ ∧ _ ∧ _ ∧ _ = some (1 : Nat); decide +kernel) ⟨Nat.le_of_ble_eq_true rfl, Nat.le_of_ble_eq_true rfl⟩ (hc := (rfl : vwCl[6]? = some (RX6, TX6, 15))) 0 rfl [0, 1, 2, 3, 4, 5, 6, 7, 8] (by decide) rfl rfl (Nat.le_of_ble_eq_true rfl) ⟨Nat.le_of_ble_eq_true rfl, Nat.le_of_ble_eq_true rfl⟩ dX6_takes_245 MWf rfl rfl rfl rfl ?_
      exact V.zret hq XM.r (bi_nar _) (Nat.le_of_ble_eq_true rfl) (Nat.le_of_ble_eq_true rfl) ⟨by rw [tkB_4, if_neg (fun h => c3 h.1)] <;> rfl, by rw [tkS_4, if_neg (fun h => c3 h.1)] <;> rfl⟩ dX6_takes_248
    · skip
      refine V.aload_n 0 rfl dX6_takes_6 rfl ?_
      refine V.get (v := .int (nI 4)) (fun w H => List.mem_cons_of_mem _ (List.mem_append_right _ H)) (hc := (rfl : vwCl[6]? = some (RX6, TX6, 15))) 0 12 (by decide) (List.mem_of_getElem? (i := 1) rfl) rfl rfl dX6_takes_7 ?_
      refine V.iconst (v := 5) dX6_takes_10 (by decide) ?_
      refine V.icmp_eq_f (tgt := 30) (by decide) dX6_takes_11 (by decide) ?_
      refine V.aload_n 0 rfl dX6_takes_14 rfl ?_
      refine V.get (v := .int (nI 4)) (fun w H => List.mem_cons_of_mem _ (List.mem_append_right _ H)) (hc := (rfl : vwCl[6]? = some (RX6, TX6, 15))) 0 12 (by decide) (List.mem_of_getElem? (i := 1) rfl) rfl rfl dX6_takes_15 ?_
      refine V.iconst (v := 4) dX6_takes_18 (by decide) ?_
      refine V.icmp_ne_f (tgt := 47) (by decide) dX6_takes_19 (by decide) ?_
      refine V.aload_n 0 rfl dX6_takes_22 rfl ?_
      refine V.get (v := .int nu) (fun w H => List.mem_cons_of_mem _ (List.mem_append_right _ H)) (hc := (rfl : vwCl[6]? = some (RX6, TX6, 15))) 0 11 (by decide) (List.mem_of_getElem? (i := 2) rfl) rfl rfl dX6_takes_23 ?_
      refine V.iconst (v := -1) dX6_takes_26 (by decide) ?_
      refine V.icmp_eq (tgt := 47) dX6_takes_27 (by decide) (fun c27 => ?_) (fun c27 => ?_)
      · skip
        refine V.aload_n 0 rfl dX6_takes_47 rfl ?_
        refine V.get (v := .int (nI 4)) (fun w H => List.mem_cons_of_mem _ (List.mem_append_right _ H)) (hc := (rfl : vwCl[6]? = some (RX6, TX6, 15))) 0 12 (by decide) (List.mem_of_getElem? (i := 1) rfl) rfl rfl dX6_takes_48 ?_
        refine V.tableIn (off := 160) (tgt := 211) (by decide) (by decide) (by decide) dX6_takes_51 (by decide) ?_
        refine V.aload_n 0 rfl dX6_takes_211 rfl ?_
        refine V.get (v := .int (nI 4)) (fun w H => List.mem_cons_of_mem _ (List.mem_append_right _ H)) (hc := (rfl : vwCl[6]? = some (RX6, TX6, 15))) 0 12 (by decide) (List.mem_of_getElem? (i := 1) rfl) rfl rfl dX6_takes_212 ?_
        refine V.iconst (v := 1) dX6_takes_215 (by decide) ?_
        refine V.icmp_ne_t (tgt := 240) (by decide) dX6_takes_216 (by decide) ?_
        refine V.aload_n 0 rfl dX6_takes_240 rfl ?_
        refine V.iload_n 1 rfl dX6_takes_241 rfl ?_
        refine V.bipush (v := 48) dX6_takes_242 (by decide) ?_
        refine V.isub dX6_takes_244 ?_
        refine V.callVf (ws2 := MW g a z hi tx ai pa tu (pdP pt rn 4 nu (c - 48)) ke st le th (nI rn) (pdN 4 nu (c - 48)) (nI 4) ha) (st2 := [.int (bi (pdB 4 nu (c - 48)))]) [.int (c - 48)] [] (kX6_takesDigit g a z hi tx ai pa tu pt ke st le th nu ha (c - 48) rn 4 (by first | omega | decide) (by first | omega | decide)) gX6_takes_X6_takesDigit rfl (by show _ ∧ _ ∧ _ ∧ _ = some (1 : Nat); decide +kernel) ⟨Nat.le_of_ble_eq_true rfl, Nat.le_of_ble_eq_true rfl⟩ (hc := (rfl : vwCl[6]? = some (RX6, TX6, 15))) 0 rfl [0, 1, 2, 3, 4, 5, 6, 7, 8] (by decide) rfl rfl (Nat.le_of_ble_eq_true rfl) ⟨Nat.le_of_ble_eq_true rfl, Nat.le_of_ble_eq_true rfl⟩ dX6_takes_245 MWf rfl rfl rfl rfl ?_
        exact V.zret hq XM.r (bi_nar _) (Nat.le_of_ble_eq_true rfl) (Nat.le_of_ble_eq_true rfl) ⟨by rw [tkB_4, if_neg (fun h => h.2 c27)] <;> rfl, by rw [tkS_4, if_neg (fun h => h.2 c27)] <;> rfl⟩ dX6_takes_248
      · skip
        refine V.aload_n 0 rfl dX6_takes_30 rfl ?_
        refine V.dup dX6_takes_31 rfl ?_
        refine V.get (v := .int (nI rn)) (fun w H => List.mem_cons_of_mem _ (List.mem_append_right _ H)) (hc := (rfl : vwCl[6]? = some (RX6, TX6, 15))) 0 10 (by decide) (List.mem_of_getElem? (i := 3) rfl) rfl rfl dX6_takes_32 ?_
        refine V.iconst (v := 1) dX6_takes_35 (by decide) ?_
        refine V.iaddN (v := nI (rn + 1)) dX6_takes_36 (nI_add rn 1) ?_
        refine V.put (v := .int (nI (rn + 1))) (ws2 := MW g a z hi tx ai pa tu pt ke st le th (nI (rn + 1)) nu (nI 4) ha) (fun w H => List.mem_cons_of_mem _ (List.mem_append_right _ H)) tyX6 tyX6_ok nmX6 (hc := (rfl : vwCl[6]? = some (RX6, TX6, 15))) 0 10 (by decide) (List.mem_of_getElem? (i := 3) rfl) rfl rfl (tyX6_ok 10 (by decide)) rfl rfl (Nat.le_of_ble_eq_true rfl) rfl dX6_takes_37 ?_
        refine V.aload_n 0 rfl dX6_takes_40 rfl ?_
        refine V.iconst (v := 0) dX6_takes_41 (by decide) ?_
        refine V.put (v := .int 0) (ws2 := MW g a z hi tx ai pa tu pt ke st le th (nI (rn + 1)) nu 0 ha) (fun w H => List.mem_cons_of_mem _ (List.mem_append_right _ H)) tyX6 tyX6_ok nmX6 (hc := (rfl : vwCl[6]? = some (RX6, TX6, 15))) 0 12 (by decide) (List.mem_of_getElem? (i := 1) rfl) rfl rfl (tyX6_ok 12 (by decide)) rfl rfl (Nat.le_of_ble_eq_true rfl) rfl dX6_takes_42 ?_
        refine V.iconst (v := 1) dX6_takes_45 (by decide) ?_
        exact V.zret hq XM.r rfl (Nat.le_of_ble_eq_true rfl) (Nat.le_of_ble_eq_true rfl) ⟨by rw [tkB_4, if_pos ⟨c3, c27⟩] <;> rfl, by rw [tkS_4, if_pos ⟨c3, c27⟩] <;> rfl⟩ dX6_takes_46
  · skip
    refine V.iload_n 1 rfl dX6_takes_0 rfl ?_
    refine V.bipush (v := 59) dX6_takes_1 (by decide) ?_
    refine V.icmp_ne (tgt := 47) dX6_takes_3 (by decide) (fun c3 => ?_) (fun c3 => ?_)
    · skip
      refine V.aload_n 0 rfl dX6_takes_47 rfl ?_
      refine V.get (v := .int (nI 5)) (fun w H => List.mem_cons_of_mem _ (List.mem_append_right _ H)) (hc := (rfl : vwCl[6]? = some (RX6, TX6, 15))) 0 12 (by decide) (List.mem_of_getElem? (i := 1) rfl) rfl rfl dX6_takes_48 ?_
      refine V.tableIn (off := 158) (tgt := 209) (by decide) (by decide) (by decide) dX6_takes_51 (by decide) ?_
      refine V.iconst (v := 0) dX6_takes_209 (by decide) ?_
      exact V.zret hq XM.r rfl (Nat.le_of_ble_eq_true rfl) (Nat.le_of_ble_eq_true rfl) ⟨by rw [tkB_5, decide_eq_false c3] <;> rfl, by rw [tkS_5, if_neg c3] <;> rfl⟩ dX6_takes_210
    · skip
      refine V.aload_n 0 rfl dX6_takes_6 rfl ?_
      refine V.get (v := .int (nI 5)) (fun w H => List.mem_cons_of_mem _ (List.mem_append_right _ H)) (hc := (rfl : vwCl[6]? = some (RX6, TX6, 15))) 0 12 (by decide) (List.mem_of_getElem? (i := 1) rfl) rfl rfl dX6_takes_7 ?_
      refine V.iconst (v := 5) dX6_takes_10 (by decide) ?_
      refine V.icmp_eq_t (tgt := 30) (by decide) dX6_takes_11 (by decide) ?_
      refine V.aload_n 0 rfl dX6_takes_30 rfl ?_
      refine V.dup dX6_takes_31 rfl ?_
      refine V.get (v := .int (nI rn)) (fun w H => List.mem_cons_of_mem _ (List.mem_append_right _ H)) (hc := (rfl : vwCl[6]? = some (RX6, TX6, 15))) 0 10 (by decide) (List.mem_of_getElem? (i := 3) rfl) rfl rfl dX6_takes_32 ?_
      refine V.iconst (v := 1) dX6_takes_35 (by decide) ?_
      refine V.iaddN (v := nI (rn + 1)) dX6_takes_36 (nI_add rn 1) ?_
      refine V.put (v := .int (nI (rn + 1))) (ws2 := MW g a z hi tx ai pa tu pt ke st le th (nI (rn + 1)) nu (nI 5) ha) (fun w H => List.mem_cons_of_mem _ (List.mem_append_right _ H)) tyX6 tyX6_ok nmX6 (hc := (rfl : vwCl[6]? = some (RX6, TX6, 15))) 0 10 (by decide) (List.mem_of_getElem? (i := 3) rfl) rfl rfl (tyX6_ok 10 (by decide)) rfl rfl (Nat.le_of_ble_eq_true rfl) rfl dX6_takes_37 ?_
      refine V.aload_n 0 rfl dX6_takes_40 rfl ?_
      refine V.iconst (v := 0) dX6_takes_41 (by decide) ?_
      refine V.put (v := .int 0) (ws2 := MW g a z hi tx ai pa tu pt ke st le th (nI (rn + 1)) nu 0 ha) (fun w H => List.mem_cons_of_mem _ (List.mem_append_right _ H)) tyX6 tyX6_ok nmX6 (hc := (rfl : vwCl[6]? = some (RX6, TX6, 15))) 0 12 (by decide) (List.mem_of_getElem? (i := 1) rfl) rfl rfl (tyX6_ok 12 (by decide)) rfl rfl (Nat.le_of_ble_eq_true rfl) rfl dX6_takes_42 ?_
      refine V.iconst (v := 1) dX6_takes_45 (by decide) ?_
      exact V.zret hq XM.r rfl (Nat.le_of_ble_eq_true rfl) (Nat.le_of_ble_eq_true rfl) ⟨by rw [tkB_5, decide_eq_true c3] <;> rfl, by rw [tkS_5, if_pos c3] <;> rfl⟩ dX6_takes_46
abbrev rmX6_rightUpTo : Room := { frames := 3, cells := 0, slots := 0, locals := 66 }
set_option maxHeartbeats 4000000 in
set_option maxRecDepth 100000 in
theorem kX6_rightUpTo (g : GT) (a : Nat → Nat) (z hi tx ai pa tu pt ke : Nat → Int32) (st th re nu du : Int32) (ha : Int64) (len : Nat) (hl : len ≤ 60) : UC g yX6_rightUpTo wsX6_rightUpTo rmX6_rightUpTo [.ref (a 0)] (MW g a z hi tx ai pa tu pt ke st (nI len) th re nu du ha) (Qf (some (.int (nI ((ruA tx len pt nu).1)))) (MW g a z hi tx ai pa tu ((ruA tx len pt nu).2.1) ke st (nI len) th (nI ((ruA tx len pt nu).2.2.1)) ((ruA tx len pt nu).2.2.2.1) (nI ((ruA tx len pt nu).2.2.2.2)) ha)) := by
  refine UC.ofV (cc := cX6_rightUpTo) (maxL := 2) (ret := some .int) (lv0 := [(0, .ref (a 0))]) (by decide) rfl (Nat.le_of_ble_eq_true rfl) rfl ?_
  generalize hQF : QFr g rmX6_rightUpTo (Qf (some (.int (nI ((ruA tx len pt nu).1)))) (MW g a z hi tx ai pa tu ((ruA tx len pt nu).2.1) ke st (nI len) th (nI ((ruA tx len pt nu).2.2.1)) ((ruA tx len pt nu).2.2.2.1) (nI ((ruA tx len pt nu).2.2.2.2)) ha)) = QF
  have hq : QFok g rmX6_rightUpTo (Qf (some (.int (nI ((ruA tx len pt nu).1)))) (MW g a z hi tx ai pa tu ((ruA tx len pt nu).2.1) ke st (nI len) th (nI ((ruA tx len pt nu).2.2.1)) ((ruA tx len pt nu).2.2.2.1) (nI ((ruA tx len pt nu).2.2.2.2)) ha)) QF := hQF ▸ QFr.q
  refine V.aload_n 0 rfl dX6_rightUpTo_0 rfl ?_
  refine V.iconst (v := 0) dX6_rightUpTo_1 (by decide) ?_
  refine V.put (v := .int 0) (ws2 := MW g a z hi tx ai pa tu pt ke st (nI len) th 0 nu du ha) (fun w H => List.mem_cons_of_mem _ (List.mem_append_right _ H)) tyX6 tyX6_ok nmX6 (hc := (rfl : vwCl[6]? = some (RX6, TX6, 15))) 0 10 (by decide) (List.mem_of_getElem? (i := 1) rfl) rfl rfl (tyX6_ok 10 (by decide)) rfl rfl (Nat.le_of_ble_eq_true rfl) rfl dX6_rightUpTo_2 ?_
  refine V.aload_n 0 rfl dX6_rightUpTo_5 rfl ?_
  refine V.iconst (v := 0) dX6_rightUpTo_6 (by decide) ?_
  refine V.put (v := .int 0) (ws2 := MW g a z hi tx ai pa tu pt ke st (nI len) th 0 nu 0 ha) (fun w H => List.mem_cons_of_mem _ (List.mem_append_right _ H)) tyX6 tyX6_ok nmX6 (hc := (rfl : vwCl[6]? = some (RX6, TX6, 15))) 0 12 (by decide) (List.mem_of_getElem? (i := 2) rfl) rfl rfl (tyX6_ok 12 (by decide)) rfl rfl (Nat.le_of_ble_eq_true rfl) rfl dX6_rightUpTo_7 ?_
  refine V.iconst (v := 0) dX6_rightUpTo_10 (by decide) ?_
  refine V.istore_n (lv2 := [(1, .int 0), (0, .ref (a 0))]) dX6_rightUpTo_11 rfl (by decide) rfl ?_
  have L12 : ∀ (kL : Nat) (i : Nat) (s : TS), i + kL = len → (TI s i) → (ruL tx kL i s = ruA tx len pt nu) → V g rmX6_rightUpTo RX6 cX6_rightUpTo wsX6_rightUpTo 2 QF (XM (some .int) "rightUpTo") 0 0 (MW g a z hi tx ai pa tu s.1 ke st (nI len) th (nI s.2.1) s.2.2.1 (nI s.2.2.2) ha) 12 [(1, .int (nI i)), (0, .ref (a 0))] [] := by
    intro kL
    induction kL with
    | zero =>
      intro i s hrel hTI hru
      have hs1 := hTI.1
      have hs2 := hTI.2
      refine V.iload_n 0 rfl dX6_rightUpTo_12 rfl ?_
      refine V.aload_n 1 rfl dX6_rightUpTo_13 rfl ?_
      refine V.get (v := .int (nI len)) (fun w H => List.mem_cons_of_mem _ (List.mem_append_right _ H)) (hc := (rfl : vwCl[6]? = some (RX6, TX6, 15))) 0 3 (by decide) (List.mem_of_getElem? (i := 3) rfl) rfl rfl dX6_rightUpTo_14 ?_
      refine V.icmp_ge_t (tgt := 39) (by exact nI_le (a := len) (b := i) (by omega) (by omega)) dX6_rightUpTo_17 (by decide) ?_
      refine V.iload_n 0 rfl dX6_rightUpTo_39 rfl ?_
      exact V.iret hq XM.r (Nat.le_of_ble_eq_true rfl) (Nat.le_of_ble_eq_true rfl) ⟨by rw [← hru, ruL_0] <;> rfl, by rw [← hru, ruL_0] <;> rfl⟩ dX6_rightUpTo_40
    | succ kL ih =>
      intro i s hrel hTI hru
      have hs1 := hTI.1
      have hs2 := hTI.2
      refine V.iload_n 0 rfl dX6_rightUpTo_12 rfl ?_
      refine V.aload_n 1 rfl dX6_rightUpTo_13 rfl ?_
      refine V.get (v := .int (nI len)) (fun w H => List.mem_cons_of_mem _ (List.mem_append_right _ H)) (hc := (rfl : vwCl[6]? = some (RX6, TX6, 15))) 0 3 (by decide) (List.mem_of_getElem? (i := 3) rfl) rfl rfl dX6_rightUpTo_14 ?_
      refine V.icmp_ge_f (tgt := 39) (by exact nI_ge (a := i) (b := len) (by omega) (by omega)) dX6_rightUpTo_17 (by decide) ?_
      refine V.aload_n 1 rfl dX6_rightUpTo_20 rfl ?_
      refine V.aload_n 1 rfl dX6_rightUpTo_21 rfl ?_
      refine V.get (v := .ref (a 3)) (fun w H => List.mem_cons_of_mem _ (List.mem_append_right _ H)) (hc := (rfl : vwCl[6]? = some (RX6, TX6, 15))) 0 4 (by decide) (List.mem_of_getElem? (i := 4) rfl) rfl rfl dX6_rightUpTo_22 ?_
      refine V.iload_n 0 rfl dX6_rightUpTo_25 rfl ?_
      refine V.iald (f := tx) 3 i rfl rfl (by omega) (by decide) dX6_rightUpTo_26 ?_
      refine V.callVf (ws2 := MW g a z hi tx ai pa tu ((tkS (tx i) (s.1, s.2.1, s.2.2.1, s.2.2.2)).1) ke st (nI len) th (nI ((tkS (tx i) (s.1, s.2.1, s.2.2.1, s.2.2.2)).2.1)) ((tkS (tx i) (s.1, s.2.1, s.2.2.1, s.2.2.2)).2.2.1) (nI ((tkS (tx i) (s.1, s.2.1, s.2.2.1, s.2.2.2)).2.2.2)) ha) (st2 := [.int (bi (tkB (tx i) (s.1, s.2.1, s.2.2.1, s.2.2.2)))]) [.int (tx i)] [] (kX6_takes g a z hi tx ai pa tu s.1 ke st (nI len) th s.2.2.1 ha (tx i) s.2.1 s.2.2.2 (by first | omega | decide) (by first | omega | decide)) gX6_rightUpTo_X6_takes rfl (by show _ ∧ _ ∧ _ ∧ _ = some (1 : Nat); decide +kernel) ⟨Nat.le_of_ble_eq_true rfl, Nat.le_of_ble_eq_true rfl⟩ (hc := (rfl : vwCl[6]? = some (RX6, TX6, 15))) 0 rfl [0, 1, 2, 3, 4, 5, 6, 7, 8] (by decide) rfl rfl (Nat.le_of_ble_eq_true rfl) ⟨Nat.le_of_ble_eq_true rfl, Nat.le_of_ble_eq_true rfl⟩ dX6_rightUpTo_27 MWf rfl rfl rfl rfl ?_
      refine V.if_eq (tgt := 39) dX6_rightUpTo_30 (by decide) (fun c30 => ?_) (fun c30 => ?_)
      · skip
        have c30 : tkB (tx i) s = false := bi_0 c30
        refine V.iload_n 0 rfl dX6_rightUpTo_39 rfl ?_
        exact V.iret hq XM.r (Nat.le_of_ble_eq_true rfl) (Nat.le_of_ble_eq_true rfl) ⟨by rw [← hru, ruL_s, if_neg (by rw [c30]; decide)] <;> rfl, by rw [← hru, ruL_s, if_neg (by rw [c30]; decide)] <;> rfl⟩ dX6_rightUpTo_40
      · skip
        have c30 : tkB (tx i) s = true := bi_1 c30
        refine V.iinc (v := nI (i + 1)) (lv2 := [(1, .int (nI (i + 1))), (0, .ref (a 0))]) 0 rfl dX6_rightUpTo_33 (nI_add i 1) (by decide) rfl ?_
        refine V.goto (tgt := 12) dX6_rightUpTo_36 (by decide) ?_
        refine V.eqlv (lv2 := [(1, .int (nI (i + 1))), (0, .ref (a 0))]) [0, 1] rfl ?_
        exact ih (i + 1) (tkS (tx i) s) (by omega) (hTI.step c30) (by rw [ruL_s, if_pos c30] at hru; exact hru)
  refine V.eqlv (lv2 := [(1, .int 0), (0, .ref (a 0))]) [0, 1] rfl ?_
  exact L12 len 0 (pt, 0, nu, 0) (by omega) ⟨Nat.zero_le _, Nat.le_refl _⟩ rfl
abbrev rmX6_firstError : Room := { frames := 4, cells := 0, slots := 0, locals := 87 }
set_option maxHeartbeats 4000000 in
set_option maxRecDepth 100000 in
theorem kX6_firstError (g : GT) (a : Nat → Nat) (z hi tx ai pa tu pt ke : Nat → Int32) (st th re nu du : Int32) (ha : Int64) (len : Nat) (hl : len ≤ 60) : UC g yX6_firstError wsX6_firstError rmX6_firstError [.ref (a 0)] (MW g a z hi tx ai pa tu pt ke st (nI len) th re nu du ha) (Qf (some (.int (nI ((ruA tx len pt nu).1)))) (MW g a z hi tx ai pa tu ((ruA tx len pt nu).2.1) ke st (nI len) 0 (nI ((ruA tx len pt nu).2.2.1)) ((ruA tx len pt nu).2.2.2.1) (nI ((ruA tx len pt nu).2.2.2.2)) ha)) := by
  refine UC.ofV (cc := cX6_firstError) (maxL := 1) (ret := some .int) (lv0 := [(0, .ref (a 0))]) (by decide) rfl (Nat.le_of_ble_eq_true rfl) rfl ?_
  generalize hQF : QFr g rmX6_firstError (Qf (some (.int (nI ((ruA tx len pt nu).1)))) (MW g a z hi tx ai pa tu ((ruA tx len pt nu).2.1) ke st (nI len) 0 (nI ((ruA tx len pt nu).2.2.1)) ((ruA tx len pt nu).2.2.2.1) (nI ((ruA tx len pt nu).2.2.2.2)) ha)) = QF
  have hq : QFok g rmX6_firstError (Qf (some (.int (nI ((ruA tx len pt nu).1)))) (MW g a z hi tx ai pa tu ((ruA tx len pt nu).2.1) ke st (nI len) 0 (nI ((ruA tx len pt nu).2.2.1)) ((ruA tx len pt nu).2.2.2.1) (nI ((ruA tx len pt nu).2.2.2.2)) ha)) QF := hQF ▸ QFr.q
  refine V.aload_n 0 rfl dX6_firstError_0 rfl ?_
  refine V.iconst (v := 0) dX6_firstError_1 (by decide) ?_
  refine V.put (v := .int 0) (ws2 := MW g a z hi tx ai pa tu pt ke st (nI len) 0 re nu du ha) (fun w H => List.mem_cons_of_mem _ (List.mem_append_right _ H)) tyX6 tyX6_ok nmX6 (hc := (rfl : vwCl[6]? = some (RX6, TX6, 15))) 0 5 (by decide) (List.mem_of_getElem? (i := 1) rfl) rfl rfl (tyX6_ok 5 (by decide)) rfl rfl (Nat.le_of_ble_eq_true rfl) rfl dX6_firstError_2 ?_
  refine V.aload_n 0 rfl dX6_firstError_5 rfl ?_
  refine V.callVf (ws2 := MW g a z hi tx ai pa tu ((ruA tx len pt nu).2.1) ke st (nI len) 0 (nI ((ruA tx len pt nu).2.2.1)) ((ruA tx len pt nu).2.2.2.1) (nI ((ruA tx len pt nu).2.2.2.2)) ha) (st2 := [.int (nI ((ruA tx len pt nu).1))]) [] [] (kX6_rightUpTo g a z hi tx ai pa tu pt ke st 0 re nu du ha len (by first | omega | decide)) gX6_firstError_X6_rightUpTo rfl (by show _ ∧ _ ∧ _ ∧ _ = some (0 : Nat); decide +kernel) ⟨Nat.le_of_ble_eq_true rfl, Nat.le_of_ble_eq_true rfl⟩ (hc := (rfl : vwCl[6]? = some (RX6, TX6, 15))) 0 rfl [0, 1, 2, 3, 4, 5, 6, 7, 8] (by decide) rfl rfl (Nat.le_of_ble_eq_true rfl) ⟨Nat.le_of_ble_eq_true rfl, Nat.le_of_ble_eq_true rfl⟩ dX6_firstError_6 MWf rfl rfl rfl rfl ?_
  exact V.iret hq XM.r (Nat.le_of_ble_eq_true rfl) (Nat.le_of_ble_eq_true rfl) ⟨rfl, rfl⟩ dX6_firstError_9
abbrev rmX6_adds : Room := { frames := 1, cells := 0, slots := 0, locals := 28 }
set_option maxHeartbeats 4000000 in
set_option maxRecDepth 100000 in
theorem kX6_adds (g : GT) (a : Nat → Nat) (z hi tx ai pa tu pt ke : Nat → Int32) (st le th re nu du : Int32) (ha : Int64) (q : Nat) (hq : q ≤ 13) (hC : CN z) : UC g yX6_adds wsX6_adds rmX6_adds [.ref (a 0), .int (nI q)] (MW g a z hi tx ai pa tu pt ke st le th re nu du ha) (Qf (some (.int (bi (adB pt z q)))) (MW g a (adZ pt z q) hi tx ai pa tu pt ke st le th re nu du ha)) := by
  refine UC.ofV (cc := cX6_adds) (maxL := 6) (ret := some .boolean) (lv0 := [(0, .ref (a 0)), (1, .int (nI q))]) (by decide) rfl (Nat.le_of_ble_eq_true rfl) rfl ?_
  generalize hQF : QFr g rmX6_adds (Qf (some (.int (bi (adB pt z q)))) (MW g a (adZ pt z q) hi tx ai pa tu pt ke st le th re nu du ha)) = QF
  have hq : QFok g rmX6_adds (Qf (some (.int (bi (adB pt z q)))) (MW g a (adZ pt z q) hi tx ai pa tu pt ke st le th re nu du ha)) QF := hQF ▸ QFr.q
  obtain ⟨hF, hF8, hP, hP24⟩ := hC
  refine V.iconst (v := 4) dX6_adds_0 (by decide) ?_
  refine V.iload_n 1 rfl dX6_adds_1 rfl ?_
  refine V.imulN (v := nI (4 * q)) dX6_adds_2 (pk_mul 4 q) ?_
  refine V.istore_n (lv2 := [(2, .int (nI (4 * q))), (0, .ref (a 0)), (1, .int (nI q))]) dX6_adds_3 rfl (by decide) rfl ?_
  refine V.aload_n 1 rfl dX6_adds_4 rfl ?_
  refine V.get (v := .ref (a 7)) (fun w H => List.mem_cons_of_mem _ (List.mem_append_right _ H)) (hc := (rfl : vwCl[6]? = some (RX6, TX6, 15))) 0 9 (by decide) (List.mem_of_getElem? (i := 1) rfl) rfl rfl dX6_adds_5 ?_
  refine V.iload_n 0 rfl dX6_adds_8 rfl ?_
  refine V.iald (f := pt) 7 (4 * q) rfl rfl (by omega) (by decide) dX6_adds_9 ?_
  refine V.iconst (v := 1) dX6_adds_10 (by decide) ?_
  refine V.icmp_ne (tgt := 18) dX6_adds_11 (by decide) (fun c11 => ?_) (fun c11 => ?_)
  · skip
    refine V.iconst (v := 0) dX6_adds_18 (by decide) ?_
    refine V.istore_n (lv2 := [(3, .int 0), (2, .int (nI (4 * q))), (0, .ref (a 0)), (1, .int (nI q))]) dX6_adds_19 rfl (by decide) rfl ?_
    refine V.iload_n 0 rfl dX6_adds_20 rfl ?_
    refine V.if_eq_t (tgt := 43) (by decide) dX6_adds_21 (by decide) ?_
    refine V.aload_n 2 rfl dX6_adds_43 rfl ?_
    refine V.get (v := .ref (a 1)) (fun w H => List.mem_cons_of_mem _ (List.mem_append_right _ H)) (hc := (rfl : vwCl[6]? = some (RX6, TX6, 15))) 0 0 (by decide) (List.mem_of_getElem? (i := 2) rfl) rfl rfl dX6_adds_44 ?_
    refine V.bipush (v := 6) dX6_adds_47 (by decide) ?_
    refine V.iald (f := z) 1 6 rfl rfl (by decide) (by decide) dX6_adds_49 ?_
    rw [hP]
    refine V.bipush (v := 24) dX6_adds_50 (by decide) ?_
    refine V.icmp_ge (tgt := 59) dX6_adds_52 (by decide) (fun c52 => ?_) (fun c52 => ?_)
    · skip
      have c52 : ¬ np z < 24 := fun h => absurd c52 (nI_ge (a := np z) (b := 24) h (by decide))
      refine V.iconst (v := 0) dX6_adds_59 (by decide) ?_
      have hb : adB pt z q = false := by rw [adB, if_neg c11, decide_eq_false c52]
      refine V.istore (lv2 := [(4, .int 0), (3, .int 0), (2, .int (nI (4 * q))), (0, .ref (a 0)), (1, .int (nI q))]) dX6_adds_60 (by decide) rfl ?_
      refine V.iload 0 rfl dX6_adds_62 ?_
      refine V.if_ne_f (tgt := 71) (by decide) dX6_adds_64 (by decide) ?_
      refine V.iconst (v := 0) dX6_adds_67 (by decide) ?_
      refine V.goto (tgt := 128) dX6_adds_68 (by decide) ?_
      refine V.istore (lv2 := [(5, .int 0), (4, .int 0), (3, .int 0), (2, .int (nI (4 * q))), (0, .ref (a 0)), (1, .int (nI q))]) dX6_adds_128 (by decide) rfl ?_
      refine V.iload 1 rfl dX6_adds_130 ?_
      exact V.zret hq XM.r rfl (Nat.le_of_ble_eq_true rfl) (Nat.le_of_ble_eq_true rfl) ⟨by rw [hb] <;> rfl, by rw [adZ, hb, if_neg (by decide)]⟩ dX6_adds_132
    · skip
      have c52 : np z < 24 := Nat.lt_of_not_le (fun h => c52 (nI_le (a := 24) (b := np z) h (by omega)))
      refine V.iconst (v := 1) dX6_adds_55 (by decide) ?_
      refine V.goto (tgt := 60) dX6_adds_56 (by decide) ?_
      have hb : adB pt z q = true := by rw [adB, if_neg c11, decide_eq_true c52]
      refine V.istore (lv2 := [(4, .int 1), (3, .int 0), (2, .int (nI (4 * q))), (0, .ref (a 0)), (1, .int (nI q))]) dX6_adds_60 (by decide) rfl ?_
      refine V.iload 0 rfl dX6_adds_62 ?_
      refine V.if_ne_t (tgt := 71) (by decide) dX6_adds_64 (by decide) ?_
      refine V.iload_n 1 rfl dX6_adds_71 rfl ?_
      refine V.if_eq_t (tgt := 108) (by decide) dX6_adds_72 (by decide) ?_
      refine V.aload_n 3 rfl dX6_adds_108 rfl ?_
      refine V.aload_n 3 rfl dX6_adds_109 rfl ?_
      refine V.get (v := .ref (a 7)) (fun w H => List.mem_cons_of_mem _ (List.mem_append_right _ H)) (hc := (rfl : vwCl[6]? = some (RX6, TX6, 15))) 0 9 (by decide) (List.mem_of_getElem? (i := 1) rfl) rfl rfl dX6_adds_110 ?_
      refine V.iload_n 2 rfl dX6_adds_113 rfl ?_
      refine V.iconst (v := 1) dX6_adds_114 (by decide) ?_
      refine V.iaddN (v := nI (4 * q + 1)) dX6_adds_115 (nI_add (4 * q) 1) ?_
      refine V.iald (f := pt) 7 (4 * q + 1) rfl rfl (by omega) (by decide) dX6_adds_116 ?_
      refine V.aload_n 3 rfl dX6_adds_117 rfl ?_
      refine V.get (v := .ref (a 7)) (fun w H => List.mem_cons_of_mem _ (List.mem_append_right _ H)) (hc := (rfl : vwCl[6]? = some (RX6, TX6, 15))) 0 9 (by decide) (List.mem_of_getElem? (i := 1) rfl) rfl rfl dX6_adds_118 ?_
      refine V.iload_n 2 rfl dX6_adds_121 rfl ?_
      refine V.iconst (v := 2) dX6_adds_122 (by decide) ?_
      refine V.iaddN (v := nI (4 * q + 2)) dX6_adds_123 (nI_add (4 * q) 2) ?_
      refine V.iald (f := pt) 7 (4 * q + 2) rfl rfl (by omega) (by decide) dX6_adds_124 ?_
      refine V.callVf (ws2 := MW g a (apA z (pt (4 * q + 1)) (pt (4 * q + 2))) hi tx ai pa tu pt ke st le th re nu du ha) (st2 := [.int (nI (np z))]) [.int (pt (4 * q + 1)), .int (pt (4 * q + 2))] [] (kX6_addsPlace g a z hi tx ai pa tu pt ke st le th re nu du ha (pt (4 * q + 1)) (pt (4 * q + 2)) hP c52) gX6_adds_X6_addsPlace rfl (by show _ ∧ _ ∧ _ ∧ _ = some (2 : Nat); decide +kernel) ⟨Nat.le_of_ble_eq_true rfl, Nat.le_of_ble_eq_true rfl⟩ (hc := (rfl : vwCl[6]? = some (RX6, TX6, 15))) 0 rfl [0, 1, 2, 3, 4, 5, 6, 7, 8] (by decide) rfl rfl (Nat.le_of_ble_eq_true rfl) ⟨Nat.le_of_ble_eq_true rfl, Nat.le_of_ble_eq_true rfl⟩ dX6_adds_125 MWf rfl rfl rfl rfl ?_
      refine V.istore (lv2 := [(5, .int (nI (np z))), (4, .int 1), (3, .int 0), (2, .int (nI (4 * q))), (0, .ref (a 0)), (1, .int (nI q))]) dX6_adds_128 (by decide) rfl ?_
      refine V.iload 1 rfl dX6_adds_130 ?_
      exact V.zret hq XM.r rfl (Nat.le_of_ble_eq_true rfl) (Nat.le_of_ble_eq_true rfl) ⟨by rw [hb] <;> rfl, by rw [adZ, hb, if_pos rfl, if_neg c11] <;> rfl⟩ dX6_adds_132
  · skip
    refine V.iconst (v := 1) dX6_adds_14 (by decide) ?_
    refine V.goto (tgt := 19) dX6_adds_15 (by decide) ?_
    refine V.istore_n (lv2 := [(3, .int 1), (2, .int (nI (4 * q))), (0, .ref (a 0)), (1, .int (nI q))]) dX6_adds_19 rfl (by decide) rfl ?_
    refine V.iload_n 0 rfl dX6_adds_20 rfl ?_
    refine V.if_eq_f (tgt := 43) (by decide) dX6_adds_21 (by decide) ?_
    refine V.aload_n 2 rfl dX6_adds_24 rfl ?_
    refine V.get (v := .ref (a 1)) (fun w H => List.mem_cons_of_mem _ (List.mem_append_right _ H)) (hc := (rfl : vwCl[6]? = some (RX6, TX6, 15))) 0 0 (by decide) (List.mem_of_getElem? (i := 2) rfl) rfl rfl dX6_adds_25 ?_
    refine V.iconst (v := 5) dX6_adds_28 (by decide) ?_
    refine V.iald (f := z) 1 5 rfl rfl (by decide) (by decide) dX6_adds_29 ?_
    rw [hF]
    refine V.bipush (v := 8) dX6_adds_30 (by decide) ?_
    refine V.icmp_ge (tgt := 39) dX6_adds_32 (by decide) (fun c32 => ?_) (fun c32 => ?_)
    · skip
      have c32 : ¬ nf z < 8 := fun h => absurd c32 (nI_ge (a := nf z) (b := 8) h (by decide))
      refine V.iconst (v := 0) dX6_adds_39 (by decide) ?_
      refine V.goto (tgt := 60) dX6_adds_40 (by decide) ?_
      have hb : adB pt z q = false := by rw [adB, if_pos c11, decide_eq_false c32]
      refine V.istore (lv2 := [(4, .int 0), (3, .int 1), (2, .int (nI (4 * q))), (0, .ref (a 0)), (1, .int (nI q))]) dX6_adds_60 (by decide) rfl ?_
      refine V.iload 0 rfl dX6_adds_62 ?_
      refine V.if_ne_f (tgt := 71) (by decide) dX6_adds_64 (by decide) ?_
      refine V.iconst (v := 0) dX6_adds_67 (by decide) ?_
      refine V.goto (tgt := 128) dX6_adds_68 (by decide) ?_
      refine V.istore (lv2 := [(5, .int 0), (4, .int 0), (3, .int 1), (2, .int (nI (4 * q))), (0, .ref (a 0)), (1, .int (nI q))]) dX6_adds_128 (by decide) rfl ?_
      refine V.iload 1 rfl dX6_adds_130 ?_
      exact V.zret hq XM.r rfl (Nat.le_of_ble_eq_true rfl) (Nat.le_of_ble_eq_true rfl) ⟨by rw [hb] <;> rfl, by rw [adZ, hb, if_neg (by decide)]⟩ dX6_adds_132
    · skip
      have c32 : nf z < 8 := Nat.lt_of_not_le (fun h => c32 (nI_le (a := 8) (b := nf z) h (by omega)))
      refine V.iconst (v := 1) dX6_adds_35 (by decide) ?_
      refine V.goto (tgt := 60) dX6_adds_36 (by decide) ?_
      have hb : adB pt z q = true := by rw [adB, if_pos c11, decide_eq_true c32]
      refine V.istore (lv2 := [(4, .int 1), (3, .int 1), (2, .int (nI (4 * q))), (0, .ref (a 0)), (1, .int (nI q))]) dX6_adds_60 (by decide) rfl ?_
      refine V.iload 0 rfl dX6_adds_62 ?_
      refine V.if_ne_t (tgt := 71) (by decide) dX6_adds_64 (by decide) ?_
      refine V.iload_n 1 rfl dX6_adds_71 rfl ?_
      refine V.if_eq_f (tgt := 108) (by decide) dX6_adds_72 (by decide) ?_
      refine V.aload_n 3 rfl dX6_adds_75 rfl ?_
      refine V.aload_n 3 rfl dX6_adds_76 rfl ?_
      refine V.get (v := .ref (a 7)) (fun w H => List.mem_cons_of_mem _ (List.mem_append_right _ H)) (hc := (rfl : vwCl[6]? = some (RX6, TX6, 15))) 0 9 (by decide) (List.mem_of_getElem? (i := 1) rfl) rfl rfl dX6_adds_77 ?_
      refine V.iload_n 2 rfl dX6_adds_80 rfl ?_
      refine V.iconst (v := 1) dX6_adds_81 (by decide) ?_
      refine V.iaddN (v := nI (4 * q + 1)) dX6_adds_82 (nI_add (4 * q) 1) ?_
      refine V.iald (f := pt) 7 (4 * q + 1) rfl rfl (by omega) (by decide) dX6_adds_83 ?_
      refine V.aload_n 3 rfl dX6_adds_84 rfl ?_
      refine V.get (v := .ref (a 7)) (fun w H => List.mem_cons_of_mem _ (List.mem_append_right _ H)) (hc := (rfl : vwCl[6]? = some (RX6, TX6, 15))) 0 9 (by decide) (List.mem_of_getElem? (i := 1) rfl) rfl rfl dX6_adds_85 ?_
      refine V.iload_n 2 rfl dX6_adds_88 rfl ?_
      refine V.iconst (v := 2) dX6_adds_89 (by decide) ?_
      refine V.iaddN (v := nI (4 * q + 2)) dX6_adds_90 (nI_add (4 * q) 2) ?_
      refine V.iald (f := pt) 7 (4 * q + 2) rfl rfl (by omega) (by decide) dX6_adds_91 ?_
      refine V.aload_n 3 rfl dX6_adds_92 rfl ?_
      refine V.get (v := .ref (a 7)) (fun w H => List.mem_cons_of_mem _ (List.mem_append_right _ H)) (hc := (rfl : vwCl[6]? = some (RX6, TX6, 15))) 0 9 (by decide) (List.mem_of_getElem? (i := 1) rfl) rfl rfl dX6_adds_93 ?_
      refine V.iload_n 2 rfl dX6_adds_96 rfl ?_
      refine V.iconst (v := 3) dX6_adds_97 (by decide) ?_
      refine V.iaddN (v := nI (4 * q + 3)) dX6_adds_98 (nI_add (4 * q) 3) ?_
      refine V.iald (f := pt) 7 (4 * q + 3) rfl rfl (by omega) (by decide) dX6_adds_99 ?_
      refine V.iconst (v := 0) dX6_adds_100 (by decide) ?_
      refine V.iconst (v := 0) dX6_adds_101 (by decide) ?_
      refine V.callVf (ws2 := MW g a (afC z (pt (4 * q + 1)) (pt (4 * q + 2)) (pt (4 * q + 3)) (0 : Int32) (0 : Int32)) hi tx ai pa tu pt ke st le th re nu du ha) (st2 := [.int (nI (nf z))]) [.int (pt (4 * q + 1)), .int (pt (4 * q + 2)), .int (pt (4 * q + 3)), .int 0, .int 0] [] (kX6_addsFeeder g a z hi tx ai pa tu pt ke st le th re nu du ha (pt (4 * q + 1)) (pt (4 * q + 2)) (pt (4 * q + 3)) (0 : Int32) (0 : Int32) hF c32) gX6_adds_X6_addsFeeder rfl (by show _ ∧ _ ∧ _ ∧ _ = some (5 : Nat); decide +kernel) ⟨Nat.le_of_ble_eq_true rfl, Nat.le_of_ble_eq_true rfl⟩ (hc := (rfl : vwCl[6]? = some (RX6, TX6, 15))) 0 rfl [0, 1, 2, 3, 4, 5, 6, 7, 8] (by decide) rfl rfl (Nat.le_of_ble_eq_true rfl) ⟨Nat.le_of_ble_eq_true rfl, Nat.le_of_ble_eq_true rfl⟩ dX6_adds_102 MWf rfl rfl rfl rfl ?_
      refine V.goto (tgt := 128) dX6_adds_105 (by decide) ?_
      refine V.istore (lv2 := [(5, .int (nI (nf z))), (4, .int 1), (3, .int 1), (2, .int (nI (4 * q))), (0, .ref (a 0)), (1, .int (nI q))]) dX6_adds_128 (by decide) rfl ?_
      refine V.iload 1 rfl dX6_adds_130 ?_
      exact V.zret hq XM.r rfl (Nat.le_of_ble_eq_true rfl) (Nat.le_of_ble_eq_true rfl) ⟨by rw [hb] <;> rfl, by rw [adZ, hb, if_pos rfl, if_pos c11] <;> rfl⟩ dX6_adds_132
abbrev rmX6_read_b1 : Room := { frames := 4, cells := 0, slots := 0, locals := 87 }
set_option maxHeartbeats 4000000 in
set_option maxRecDepth 100000 in
theorem kX6_read_b1 (g : GT) (a : Nat → Nat) (z hi tx ai pa tu pt ke : Nat → Int32) (st th re nu du : Int32) (ha : Int64) (len : Nat) (hl : len ≤ 60) (hb : rbd len (ruA tx len pt nu) = false) : UC g yX6_read wsX6_read rmX6_read_b1 [.ref (a 0)] (MW g a z hi tx ai pa tu pt ke st (nI len) th re nu du ha) (Qf (some (.int 0)) (MW g a z hi tx ai pa tu ((ruA tx len pt nu).2.1) ke st (nI len) 1 (nI ((ruA tx len pt nu).2.2.1)) ((ruA tx len pt nu).2.2.2.1) (nI ((ruA tx len pt nu).2.2.2.2)) ha)) := by
  refine UC.ofV (cc := cX6_read) (maxL := 3) (ret := some .int) (lv0 := [(0, .ref (a 0))]) (by decide) rfl (Nat.le_of_ble_eq_true rfl) rfl ?_
  generalize hQF : QFr g rmX6_read_b1 (Qf (some (.int 0)) (MW g a z hi tx ai pa tu ((ruA tx len pt nu).2.1) ke st (nI len) 1 (nI ((ruA tx len pt nu).2.2.1)) ((ruA tx len pt nu).2.2.2.1) (nI ((ruA tx len pt nu).2.2.2.2)) ha)) = QF
  have hq : QFok g rmX6_read_b1 (Qf (some (.int 0)) (MW g a z hi tx ai pa tu ((ruA tx len pt nu).2.1) ke st (nI len) 1 (nI ((ruA tx len pt nu).2.2.1)) ((ruA tx len pt nu).2.2.2.1) (nI ((ruA tx len pt nu).2.2.2.2)) ha)) QF := hQF ▸ QFr.q
  refine V.aload_n 0 rfl dX6_read_0 rfl ?_
  refine V.callVf (ws2 := MW g a z hi tx ai pa tu ((ruA tx len pt nu).2.1) ke st (nI len) th (nI ((ruA tx len pt nu).2.2.1)) ((ruA tx len pt nu).2.2.2.1) (nI ((ruA tx len pt nu).2.2.2.2)) ha) (st2 := [.int (nI ((ruA tx len pt nu).1))]) [] [] (kX6_rightUpTo g a z hi tx ai pa tu pt ke st th re nu du ha len (by first | omega | decide)) gX6_read_X6_rightUpTo rfl (by show _ ∧ _ ∧ _ ∧ _ = some (0 : Nat); decide +kernel) ⟨Nat.le_of_ble_eq_true rfl, Nat.le_of_ble_eq_true rfl⟩ (hc := (rfl : vwCl[6]? = some (RX6, TX6, 15))) 0 rfl [0, 1, 2, 3, 4, 5, 6, 7, 8] (by decide) rfl rfl (Nat.le_of_ble_eq_true rfl) ⟨Nat.le_of_ble_eq_true rfl, Nat.le_of_ble_eq_true rfl⟩ dX6_read_1 MWf rfl rfl rfl rfl ?_
  have hq1 : (ruA tx len pt nu).1 ≤ 60 := Nat.le_trans (ruL_le tx len 0 (pt, 0, nu, 0)) (by omega)
  have hq2 : (ruA tx len pt nu).1 = len → TI (ruA tx len pt nu).2 len := fun e => by have := ruL_TI tx len 0 (pt, 0, nu, 0) ⟨Nat.zero_le _, Nat.le_refl _⟩ (by rw [Nat.zero_add]; exact e); rw [Nat.zero_add] at this; exact this
  refine V.aload_n 0 rfl dX6_read_4 rfl ?_
  refine V.get (v := .int (nI len)) (fun w H => List.mem_cons_of_mem _ (List.mem_append_right _ H)) (hc := (rfl : vwCl[6]? = some (RX6, TX6, 15))) 0 3 (by decide) (List.mem_of_getElem? (i := 1) rfl) rfl rfl dX6_read_5 ?_
  refine V.icmp_ne (tgt := 39) dX6_read_8 (by decide) (fun c8 => ?_) (fun c8 => ?_)
  · skip
    have c8 : ¬ (ruA tx len pt nu).1 = len := fun e => c8 (by rw [e])
    refine V.iconst (v := 0) dX6_read_39 (by decide) ?_
    have hb2 : rbd len (ruA tx len pt nu) = false := by simp [rbd, c8]
    refine V.istore_n (lv2 := [(1, .int 0), (0, .ref (a 0))]) dX6_read_40 rfl (by decide) rfl ?_
    refine V.aload_n 1 rfl dX6_read_41 rfl ?_
    refine V.iload_n 0 rfl dX6_read_42 rfl ?_
    refine V.if_eq_t (tgt := 50) (by decide) dX6_read_43 (by decide) ?_
    refine V.iconst (v := 1) dX6_read_50 (by decide) ?_
    refine V.put (v := .int 1) (ws2 := MW g a z hi tx ai pa tu ((ruA tx len pt nu).2.1) ke st (nI len) 1 (nI ((ruA tx len pt nu).2.2.1)) ((ruA tx len pt nu).2.2.2.1) (nI ((ruA tx len pt nu).2.2.2.2)) ha) (fun w H => List.mem_cons_of_mem _ (List.mem_append_right _ H)) tyX6 tyX6_ok nmX6 (hc := (rfl : vwCl[6]? = some (RX6, TX6, 15))) 0 5 (by decide) (List.mem_of_getElem? (i := 4) rfl) rfl rfl (tyX6_ok 5 (by decide)) rfl rfl (Nat.le_of_ble_eq_true rfl) rfl dX6_read_51 ?_
    refine V.aload_n 1 rfl dX6_read_54 rfl ?_
    refine V.get (v := .int 1) (fun w H => List.mem_cons_of_mem _ (List.mem_append_right _ H)) (hc := (rfl : vwCl[6]? = some (RX6, TX6, 15))) 0 5 (by decide) (List.mem_of_getElem? (i := 4) rfl) rfl rfl dX6_read_55 ?_
    refine V.if_le_f (tgt := 63) (by decide) dX6_read_58 (by decide) ?_
    refine V.iconst (v := 0) dX6_read_61 (by decide) ?_
    exact V.iret hq XM.r (Nat.le_of_ble_eq_true rfl) (Nat.le_of_ble_eq_true rfl) ⟨rfl, rfl⟩ dX6_read_62
  · skip
    have c8 : (ruA tx len pt nu).1 = len := (nI_eq (by omega) (by omega)).mp c8
    have hq3 := (hq2 c8).1
    have hq4 := (hq2 c8).2
    refine V.aload_n 0 rfl dX6_read_11 rfl ?_
    refine V.get (v := .int (nI ((ruA tx len pt nu).2.2.2.2))) (fun w H => List.mem_cons_of_mem _ (List.mem_append_right _ H)) (hc := (rfl : vwCl[6]? = some (RX6, TX6, 15))) 0 12 (by decide) (List.mem_of_getElem? (i := 2) rfl) rfl rfl dX6_read_12 ?_
    refine V.iconst (v := 5) dX6_read_15 (by decide) ?_
    refine V.icmp_eq (tgt := 35) dX6_read_16 (by decide) (fun c16 => ?_) (fun c16 => ?_)
    · skip
      have c16 : (ruA tx len pt nu).2.2.2.2 = 5 := (nI_eq (by omega) (by decide)).mp c16
      refine V.iconst (v := 1) dX6_read_35 (by decide) ?_
      refine V.goto (tgt := 40) dX6_read_36 (by decide) ?_
      have hb2 : rbd len (ruA tx len pt nu) = true := by simp [rbd, c8, c16]
      exact absurd (hb2.symm.trans hb) (by decide)
    · skip
      have c16 : ¬ (ruA tx len pt nu).2.2.2.2 = 5 := fun e => c16 (by rw [e]; rfl)
      refine V.aload_n 0 rfl dX6_read_19 rfl ?_
      refine V.get (v := .int (nI ((ruA tx len pt nu).2.2.2.2))) (fun w H => List.mem_cons_of_mem _ (List.mem_append_right _ H)) (hc := (rfl : vwCl[6]? = some (RX6, TX6, 15))) 0 12 (by decide) (List.mem_of_getElem? (i := 2) rfl) rfl rfl dX6_read_20 ?_
      refine V.iconst (v := 4) dX6_read_23 (by decide) ?_
      refine V.icmp_ne (tgt := 39) dX6_read_24 (by decide) (fun c24 => ?_) (fun c24 => ?_)
      · skip
        have c24 : ¬ (ruA tx len pt nu).2.2.2.2 = 4 := fun e => c24 (by rw [e]; rfl)
        refine V.iconst (v := 0) dX6_read_39 (by decide) ?_
        have hb2 : rbd len (ruA tx len pt nu) = false := by simp [rbd, c8, c16, c24]
        refine V.istore_n (lv2 := [(1, .int 0), (0, .ref (a 0))]) dX6_read_40 rfl (by decide) rfl ?_
        refine V.aload_n 1 rfl dX6_read_41 rfl ?_
        refine V.iload_n 0 rfl dX6_read_42 rfl ?_
        refine V.if_eq_t (tgt := 50) (by decide) dX6_read_43 (by decide) ?_
        refine V.iconst (v := 1) dX6_read_50 (by decide) ?_
        refine V.put (v := .int 1) (ws2 := MW g a z hi tx ai pa tu ((ruA tx len pt nu).2.1) ke st (nI len) 1 (nI ((ruA tx len pt nu).2.2.1)) ((ruA tx len pt nu).2.2.2.1) (nI ((ruA tx len pt nu).2.2.2.2)) ha) (fun w H => List.mem_cons_of_mem _ (List.mem_append_right _ H)) tyX6 tyX6_ok nmX6 (hc := (rfl : vwCl[6]? = some (RX6, TX6, 15))) 0 5 (by decide) (List.mem_of_getElem? (i := 4) rfl) rfl rfl (tyX6_ok 5 (by decide)) rfl rfl (Nat.le_of_ble_eq_true rfl) rfl dX6_read_51 ?_
        refine V.aload_n 1 rfl dX6_read_54 rfl ?_
        refine V.get (v := .int 1) (fun w H => List.mem_cons_of_mem _ (List.mem_append_right _ H)) (hc := (rfl : vwCl[6]? = some (RX6, TX6, 15))) 0 5 (by decide) (List.mem_of_getElem? (i := 4) rfl) rfl rfl dX6_read_55 ?_
        refine V.if_le_f (tgt := 63) (by decide) dX6_read_58 (by decide) ?_
        refine V.iconst (v := 0) dX6_read_61 (by decide) ?_
        exact V.iret hq XM.r (Nat.le_of_ble_eq_true rfl) (Nat.le_of_ble_eq_true rfl) ⟨rfl, rfl⟩ dX6_read_62
      · skip
        have c24 : (ruA tx len pt nu).2.2.2.2 = 4 := (nI_eq (by omega) (by decide)).mp c24
        refine V.aload_n 0 rfl dX6_read_27 rfl ?_
        refine V.get (v := .int ((ruA tx len pt nu).2.2.2.1)) (fun w H => List.mem_cons_of_mem _ (List.mem_append_right _ H)) (hc := (rfl : vwCl[6]? = some (RX6, TX6, 15))) 0 11 (by decide) (List.mem_of_getElem? (i := 3) rfl) rfl rfl dX6_read_28 ?_
        refine V.iconst (v := -1) dX6_read_31 (by decide) ?_
        refine V.icmp_eq (tgt := 39) dX6_read_32 (by decide) (fun c32 => ?_) (fun c32 => ?_)
        · skip
          refine V.iconst (v := 0) dX6_read_39 (by decide) ?_
          have hb2 : rbd len (ruA tx len pt nu) = false := by simp [rbd, c8, c16, c24, c32]
          refine V.istore_n (lv2 := [(1, .int 0), (0, .ref (a 0))]) dX6_read_40 rfl (by decide) rfl ?_
          refine V.aload_n 1 rfl dX6_read_41 rfl ?_
          refine V.iload_n 0 rfl dX6_read_42 rfl ?_
          refine V.if_eq_t (tgt := 50) (by decide) dX6_read_43 (by decide) ?_
          refine V.iconst (v := 1) dX6_read_50 (by decide) ?_
          refine V.put (v := .int 1) (ws2 := MW g a z hi tx ai pa tu ((ruA tx len pt nu).2.1) ke st (nI len) 1 (nI ((ruA tx len pt nu).2.2.1)) ((ruA tx len pt nu).2.2.2.1) (nI ((ruA tx len pt nu).2.2.2.2)) ha) (fun w H => List.mem_cons_of_mem _ (List.mem_append_right _ H)) tyX6 tyX6_ok nmX6 (hc := (rfl : vwCl[6]? = some (RX6, TX6, 15))) 0 5 (by decide) (List.mem_of_getElem? (i := 4) rfl) rfl rfl (tyX6_ok 5 (by decide)) rfl rfl (Nat.le_of_ble_eq_true rfl) rfl dX6_read_51 ?_
          refine V.aload_n 1 rfl dX6_read_54 rfl ?_
          refine V.get (v := .int 1) (fun w H => List.mem_cons_of_mem _ (List.mem_append_right _ H)) (hc := (rfl : vwCl[6]? = some (RX6, TX6, 15))) 0 5 (by decide) (List.mem_of_getElem? (i := 4) rfl) rfl rfl dX6_read_55 ?_
          refine V.if_le_f (tgt := 63) (by decide) dX6_read_58 (by decide) ?_
          refine V.iconst (v := 0) dX6_read_61 (by decide) ?_
          exact V.iret hq XM.r (Nat.le_of_ble_eq_true rfl) (Nat.le_of_ble_eq_true rfl) ⟨rfl, rfl⟩ dX6_read_62
        · skip
          refine V.iconst (v := 1) dX6_read_35 (by decide) ?_
          refine V.goto (tgt := 40) dX6_read_36 (by decide) ?_
          have hb2 : rbd len (ruA tx len pt nu) = true := by simp [rbd, c8, c16, c24, c32]
          exact absurd (hb2.symm.trans hb) (by decide)
abbrev rmX6_read_ok : Room := { frames := 4, cells := 0, slots := 0, locals := 87 }
set_option maxHeartbeats 4000000 in
set_option maxRecDepth 100000 in
theorem kX6_read_ok (g : GT) (a : Nat → Nat) (z hi tx ai pa tu pt ke : Nat → Int32) (th re nu du : Int32) (ha : Int64) (len : Nat) (sn : Nat) (hl : len ≤ 60) (hb : rbd len (ruA tx len pt nu) = true) (hs : sn ≤ 6) (hC : CN z) : UC g yX6_read wsX6_read rmX6_read_ok [.ref (a 0)] (MW g a z hi tx ai pa tu pt ke (nI sn) (nI len) th re nu du ha) (Qf (some (.int (nI ((rdL (ruA tx len pt nu).2.1 ((ruA tx len pt nu).2.2.1 + 1) 0 z).1)))) (MW g a ((rdL (ruA tx len pt nu).2.1 ((ruA tx len pt nu).2.2.1 + 1) 0 z).2) (svA sn z hi) tx ai pa tu ((ruA tx len pt nu).2.1) ke (nI (svM sn + 1)) 0 0 (nI ((ruA tx len pt nu).2.2.1)) ((ruA tx len pt nu).2.2.2.1) (nI ((ruA tx len pt nu).2.2.2.2)) ha)) := by
  refine UC.ofV (cc := cX6_read) (maxL := 3) (ret := some .int) (lv0 := [(0, .ref (a 0))]) (by decide) rfl (Nat.le_of_ble_eq_true rfl) rfl ?_
  generalize hQF : QFr g rmX6_read_ok (Qf (some (.int (nI ((rdL (ruA tx len pt nu).2.1 ((ruA tx len pt nu).2.2.1 + 1) 0 z).1)))) (MW g a ((rdL (ruA tx len pt nu).2.1 ((ruA tx len pt nu).2.2.1 + 1) 0 z).2) (svA sn z hi) tx ai pa tu ((ruA tx len pt nu).2.1) ke (nI (svM sn + 1)) 0 0 (nI ((ruA tx len pt nu).2.2.1)) ((ruA tx len pt nu).2.2.2.1) (nI ((ruA tx len pt nu).2.2.2.2)) ha)) = QF
  have hq : QFok g rmX6_read_ok (Qf (some (.int (nI ((rdL (ruA tx len pt nu).2.1 ((ruA tx len pt nu).2.2.1 + 1) 0 z).1)))) (MW g a ((rdL (ruA tx len pt nu).2.1 ((ruA tx len pt nu).2.2.1 + 1) 0 z).2) (svA sn z hi) tx ai pa tu ((ruA tx len pt nu).2.1) ke (nI (svM sn + 1)) 0 0 (nI ((ruA tx len pt nu).2.2.1)) ((ruA tx len pt nu).2.2.2.1) (nI ((ruA tx len pt nu).2.2.2.2)) ha)) QF := hQF ▸ QFr.q
  refine V.aload_n 0 rfl dX6_read_0 rfl ?_
  refine V.callVf (ws2 := MW g a z hi tx ai pa tu ((ruA tx len pt nu).2.1) ke (nI sn) (nI len) th (nI ((ruA tx len pt nu).2.2.1)) ((ruA tx len pt nu).2.2.2.1) (nI ((ruA tx len pt nu).2.2.2.2)) ha) (st2 := [.int (nI ((ruA tx len pt nu).1))]) [] [] (kX6_rightUpTo g a z hi tx ai pa tu pt ke (nI sn) th re nu du ha len (by first | omega | decide)) gX6_read_X6_rightUpTo rfl (by show _ ∧ _ ∧ _ ∧ _ = some (0 : Nat); decide +kernel) ⟨Nat.le_of_ble_eq_true rfl, Nat.le_of_ble_eq_true rfl⟩ (hc := (rfl : vwCl[6]? = some (RX6, TX6, 15))) 0 rfl [0, 1, 2, 3, 4, 5, 6, 7, 8] (by decide) rfl rfl (Nat.le_of_ble_eq_true rfl) ⟨Nat.le_of_ble_eq_true rfl, Nat.le_of_ble_eq_true rfl⟩ dX6_read_1 MWf rfl rfl rfl rfl ?_
  have hq1 : (ruA tx len pt nu).1 ≤ 60 := Nat.le_trans (ruL_le tx len 0 (pt, 0, nu, 0)) (by omega)
  have hq2 : (ruA tx len pt nu).1 = len → TI (ruA tx len pt nu).2 len := fun e => by have := ruL_TI tx len 0 (pt, 0, nu, 0) ⟨Nat.zero_le _, Nat.le_refl _⟩ (by rw [Nat.zero_add]; exact e); rw [Nat.zero_add] at this; exact this
  refine V.aload_n 0 rfl dX6_read_4 rfl ?_
  refine V.get (v := .int (nI len)) (fun w H => List.mem_cons_of_mem _ (List.mem_append_right _ H)) (hc := (rfl : vwCl[6]? = some (RX6, TX6, 15))) 0 3 (by decide) (List.mem_of_getElem? (i := 1) rfl) rfl rfl dX6_read_5 ?_
  refine V.icmp_ne (tgt := 39) dX6_read_8 (by decide) (fun c8 => ?_) (fun c8 => ?_)
  · skip
    have c8 : ¬ (ruA tx len pt nu).1 = len := fun e => c8 (by rw [e])
    refine V.iconst (v := 0) dX6_read_39 (by decide) ?_
    have hb2 : rbd len (ruA tx len pt nu) = false := by simp [rbd, c8]
    exact absurd (hb2.symm.trans hb) (by decide)
  · skip
    have c8 : (ruA tx len pt nu).1 = len := (nI_eq (by omega) (by omega)).mp c8
    have hq3 := (hq2 c8).1
    have hq4 := (hq2 c8).2
    refine V.aload_n 0 rfl dX6_read_11 rfl ?_
    refine V.get (v := .int (nI ((ruA tx len pt nu).2.2.2.2))) (fun w H => List.mem_cons_of_mem _ (List.mem_append_right _ H)) (hc := (rfl : vwCl[6]? = some (RX6, TX6, 15))) 0 12 (by decide) (List.mem_of_getElem? (i := 2) rfl) rfl rfl dX6_read_12 ?_
    refine V.iconst (v := 5) dX6_read_15 (by decide) ?_
    refine V.icmp_eq (tgt := 35) dX6_read_16 (by decide) (fun c16 => ?_) (fun c16 => ?_)
    · skip
      have c16 : (ruA tx len pt nu).2.2.2.2 = 5 := (nI_eq (by omega) (by decide)).mp c16
      refine V.iconst (v := 1) dX6_read_35 (by decide) ?_
      refine V.goto (tgt := 40) dX6_read_36 (by decide) ?_
      have hb2 : rbd len (ruA tx len pt nu) = true := by simp [rbd, c8, c16]
      refine V.istore_n (lv2 := [(1, .int 1), (0, .ref (a 0))]) dX6_read_40 rfl (by decide) rfl ?_
      refine V.aload_n 1 rfl dX6_read_41 rfl ?_
      refine V.iload_n 0 rfl dX6_read_42 rfl ?_
      refine V.if_eq_f (tgt := 50) (by decide) dX6_read_43 (by decide) ?_
      refine V.iconst (v := 0) dX6_read_46 (by decide) ?_
      refine V.goto (tgt := 51) dX6_read_47 (by decide) ?_
      refine V.put (v := .int 0) (ws2 := MW g a z hi tx ai pa tu ((ruA tx len pt nu).2.1) ke (nI sn) (nI len) 0 (nI ((ruA tx len pt nu).2.2.1)) ((ruA tx len pt nu).2.2.2.1) (nI ((ruA tx len pt nu).2.2.2.2)) ha) (fun w H => List.mem_cons_of_mem _ (List.mem_append_right _ H)) tyX6 tyX6_ok nmX6 (hc := (rfl : vwCl[6]? = some (RX6, TX6, 15))) 0 5 (by decide) (List.mem_of_getElem? (i := 4) rfl) rfl rfl (tyX6_ok 5 (by decide)) rfl rfl (Nat.le_of_ble_eq_true rfl) rfl dX6_read_51 ?_
      refine V.aload_n 1 rfl dX6_read_54 rfl ?_
      refine V.get (v := .int 0) (fun w H => List.mem_cons_of_mem _ (List.mem_append_right _ H)) (hc := (rfl : vwCl[6]? = some (RX6, TX6, 15))) 0 5 (by decide) (List.mem_of_getElem? (i := 4) rfl) rfl rfl dX6_read_55 ?_
      refine V.if_le_t (tgt := 63) (by decide) dX6_read_58 (by decide) ?_
      refine V.aload_n 1 rfl dX6_read_63 rfl ?_
      refine V.callVf (ws2 := MW g a z (svA sn z hi) tx ai pa tu ((ruA tx len pt nu).2.1) ke (nI (svM sn + 1)) (nI len) 0 (nI ((ruA tx len pt nu).2.2.1)) ((ruA tx len pt nu).2.2.2.1) (nI ((ruA tx len pt nu).2.2.2.2)) ha) (st2 := []) [] [] (kX6_save g a z hi tx ai pa tu ((ruA tx len pt nu).2.1) ke (nI len) 0 (nI ((ruA tx len pt nu).2.2.1)) ((ruA tx len pt nu).2.2.2.1) (nI ((ruA tx len pt nu).2.2.2.2)) ha sn hs) gX6_read_X6_save rfl (by show _ ∧ _ ∧ _ ∧ _ = some (0 : Nat); decide +kernel) ⟨Nat.le_of_ble_eq_true rfl, Nat.le_of_ble_eq_true rfl⟩ (hc := (rfl : vwCl[6]? = some (RX6, TX6, 15))) 0 rfl [0, 1, 2, 3, 4, 5, 6, 7, 8] (by decide) rfl rfl (Nat.le_of_ble_eq_true rfl) ⟨Nat.le_of_ble_eq_true rfl, Nat.le_of_ble_eq_true rfl⟩ dX6_read_64 MWf rfl rfl rfl rfl ?_
      refine V.aload_n 1 rfl dX6_read_67 rfl ?_
      refine V.iconst (v := 0) dX6_read_68 (by decide) ?_
      refine V.put (v := .int 0) (ws2 := MW g a z (svA sn z hi) tx ai pa tu ((ruA tx len pt nu).2.1) ke (nI (svM sn + 1)) 0 0 (nI ((ruA tx len pt nu).2.2.1)) ((ruA tx len pt nu).2.2.2.1) (nI ((ruA tx len pt nu).2.2.2.2)) ha) (fun w H => List.mem_cons_of_mem _ (List.mem_append_right _ H)) tyX6 tyX6_ok nmX6 (hc := (rfl : vwCl[6]? = some (RX6, TX6, 15))) 0 3 (by decide) (List.mem_of_getElem? (i := 1) rfl) rfl rfl (tyX6_ok 3 (by decide)) rfl rfl (Nat.le_of_ble_eq_true rfl) rfl dX6_read_69 ?_
      refine V.iconst (v := 0) dX6_read_72 (by decide) ?_
      refine V.istore_n (lv2 := [(2, .int 0), (1, .int 1), (0, .ref (a 0))]) dX6_read_73 rfl (by decide) rfl ?_
      have L74 : ∀ (kL : Nat) (i : Nat) (y : Nat → Int32), i + kL = (ruA tx len pt nu).2.2.1 + 1 → (CN y) → (rdL (ruA tx len pt nu).2.1 kL i y = rdL (ruA tx len pt nu).2.1 ((ruA tx len pt nu).2.2.1 + 1) 0 z) → V g rmX6_read_ok RX6 cX6_read wsX6_read 3 QF (XM (some .int) "read") 0 0 (MW g a y (svA sn z hi) tx ai pa tu ((ruA tx len pt nu).2.1) ke (nI (svM sn + 1)) 0 0 (nI ((ruA tx len pt nu).2.2.1)) ((ruA tx len pt nu).2.2.2.1) (nI ((ruA tx len pt nu).2.2.2.2)) ha) 74 [(2, .int (nI i)), (1, .int 1), (0, .ref (a 0))] [] := by
        intro kL
        induction kL with
        | zero =>
          intro i y hrel hCy hrd
          refine V.iload_n 0 rfl dX6_read_74 rfl ?_
          refine V.aload_n 2 rfl dX6_read_75 rfl ?_
          refine V.get (v := .int (nI ((ruA tx len pt nu).2.2.1))) (fun w H => List.mem_cons_of_mem _ (List.mem_append_right _ H)) (hc := (rfl : vwCl[6]? = some (RX6, TX6, 15))) 0 10 (by decide) (List.mem_of_getElem? (i := 5) rfl) rfl rfl dX6_read_76 ?_
          refine V.icmp_gt_t (tgt := 96) (by exact nI_lt (a := (ruA tx len pt nu).2.2.1) (b := i) (by omega) (by omega)) dX6_read_79 (by decide) ?_
          refine V.iload_n 0 rfl dX6_read_96 rfl ?_
          exact V.iret hq XM.r (Nat.le_of_ble_eq_true rfl) (Nat.le_of_ble_eq_true rfl) ⟨by rw [← hrd, rdL_0] <;> rfl, by rw [← hrd, rdL_0] <;> rfl⟩ dX6_read_97
        | succ kL ih =>
          intro i y hrel hCy hrd
          refine V.iload_n 0 rfl dX6_read_74 rfl ?_
          refine V.aload_n 2 rfl dX6_read_75 rfl ?_
          refine V.get (v := .int (nI ((ruA tx len pt nu).2.2.1))) (fun w H => List.mem_cons_of_mem _ (List.mem_append_right _ H)) (hc := (rfl : vwCl[6]? = some (RX6, TX6, 15))) 0 10 (by decide) (List.mem_of_getElem? (i := 5) rfl) rfl rfl dX6_read_76 ?_
          refine V.icmp_gt_f (tgt := 96) (by exact nI_nlt (a := (ruA tx len pt nu).2.2.1) (b := i) (by omega) (by omega)) dX6_read_79 (by decide) ?_
          refine V.aload_n 2 rfl dX6_read_82 rfl ?_
          refine V.iload_n 0 rfl dX6_read_83 rfl ?_
          refine V.callVf (ws2 := MW g a (adZ ((ruA tx len pt nu).2.1) y i) (svA sn z hi) tx ai pa tu ((ruA tx len pt nu).2.1) ke (nI (svM sn + 1)) 0 0 (nI ((ruA tx len pt nu).2.2.1)) ((ruA tx len pt nu).2.2.2.1) (nI ((ruA tx len pt nu).2.2.2.2)) ha) (st2 := [.int (bi (adB ((ruA tx len pt nu).2.1) y i))]) [.int (nI i)] [] (kX6_adds g a y (svA sn z hi) tx ai pa tu ((ruA tx len pt nu).2.1) ke (nI (svM sn + 1)) 0 0 (nI ((ruA tx len pt nu).2.2.1)) ((ruA tx len pt nu).2.2.2.1) (nI ((ruA tx len pt nu).2.2.2.2)) ha i (by omega) hCy) gX6_read_X6_adds rfl (by show _ ∧ _ ∧ _ ∧ _ = some (1 : Nat); decide +kernel) ⟨Nat.le_of_ble_eq_true rfl, Nat.le_of_ble_eq_true rfl⟩ (hc := (rfl : vwCl[6]? = some (RX6, TX6, 15))) 0 rfl [0, 1, 2, 3, 4, 5, 6, 7, 8] (by decide) rfl rfl (Nat.le_of_ble_eq_true rfl) ⟨Nat.le_of_ble_eq_true rfl, Nat.le_of_ble_eq_true rfl⟩ dX6_read_84 MWf rfl rfl rfl rfl ?_
          refine V.if_eq (tgt := 96) dX6_read_87 (by decide) (fun c87 => ?_) (fun c87 => ?_)
          · skip
            have c87 := bi_0 c87
            refine V.iload_n 0 rfl dX6_read_96 rfl ?_
            exact V.iret hq XM.r (Nat.le_of_ble_eq_true rfl) (Nat.le_of_ble_eq_true rfl) ⟨by rw [← hrd, rdL_s, if_neg (by rw [c87]; decide)] <;> rfl, by rw [← hrd, rdL_s, if_neg (by rw [c87]; decide), adZ, c87, if_neg (by decide)] <;> rfl⟩ dX6_read_97
          · skip
            have c87 := bi_1 c87
            refine V.iinc (v := nI (i + 1)) (lv2 := [(2, .int (nI (i + 1))), (1, .int 1), (0, .ref (a 0))]) 0 rfl dX6_read_90 (nI_add i 1) (by decide) rfl ?_
            refine V.goto (tgt := 74) dX6_read_93 (by decide) ?_
            refine V.eqlv (lv2 := [(2, .int (nI (i + 1))), (1, .int 1), (0, .ref (a 0))]) [0, 1, 2] rfl ?_
            exact ih (i + 1) (adZ (ruA tx len pt nu).2.1 y i) (by omega) hCy.ad (by rw [rdL_s, if_pos c87] at hrd; exact hrd)
      refine V.eqlv (lv2 := [(2, .int 0), (1, .int 1), (0, .ref (a 0))]) [0, 1, 2] rfl ?_
      exact L74 ((ruA tx len pt nu).2.2.1 + 1) 0 z (by omega) hC rfl
    · skip
      have c16 : ¬ (ruA tx len pt nu).2.2.2.2 = 5 := fun e => c16 (by rw [e]; rfl)
      refine V.aload_n 0 rfl dX6_read_19 rfl ?_
      refine V.get (v := .int (nI ((ruA tx len pt nu).2.2.2.2))) (fun w H => List.mem_cons_of_mem _ (List.mem_append_right _ H)) (hc := (rfl : vwCl[6]? = some (RX6, TX6, 15))) 0 12 (by decide) (List.mem_of_getElem? (i := 2) rfl) rfl rfl dX6_read_20 ?_
      refine V.iconst (v := 4) dX6_read_23 (by decide) ?_
      refine V.icmp_ne (tgt := 39) dX6_read_24 (by decide) (fun c24 => ?_) (fun c24 => ?_)
      · skip
        have c24 : ¬ (ruA tx len pt nu).2.2.2.2 = 4 := fun e => c24 (by rw [e]; rfl)
        refine V.iconst (v := 0) dX6_read_39 (by decide) ?_
        have hb2 : rbd len (ruA tx len pt nu) = false := by simp [rbd, c8, c16, c24]
        exact absurd (hb2.symm.trans hb) (by decide)
      · skip
        have c24 : (ruA tx len pt nu).2.2.2.2 = 4 := (nI_eq (by omega) (by decide)).mp c24
        refine V.aload_n 0 rfl dX6_read_27 rfl ?_
        refine V.get (v := .int ((ruA tx len pt nu).2.2.2.1)) (fun w H => List.mem_cons_of_mem _ (List.mem_append_right _ H)) (hc := (rfl : vwCl[6]? = some (RX6, TX6, 15))) 0 11 (by decide) (List.mem_of_getElem? (i := 3) rfl) rfl rfl dX6_read_28 ?_
        refine V.iconst (v := -1) dX6_read_31 (by decide) ?_
        refine V.icmp_eq (tgt := 39) dX6_read_32 (by decide) (fun c32 => ?_) (fun c32 => ?_)
        · skip
          refine V.iconst (v := 0) dX6_read_39 (by decide) ?_
          have hb2 : rbd len (ruA tx len pt nu) = false := by simp [rbd, c8, c16, c24, c32]
          exact absurd (hb2.symm.trans hb) (by decide)
        · skip
          refine V.iconst (v := 1) dX6_read_35 (by decide) ?_
          refine V.goto (tgt := 40) dX6_read_36 (by decide) ?_
          have hb2 : rbd len (ruA tx len pt nu) = true := by simp [rbd, c8, c16, c24, c32]
          refine V.istore_n (lv2 := [(1, .int 1), (0, .ref (a 0))]) dX6_read_40 rfl (by decide) rfl ?_
          refine V.aload_n 1 rfl dX6_read_41 rfl ?_
          refine V.iload_n 0 rfl dX6_read_42 rfl ?_
          refine V.if_eq_f (tgt := 50) (by decide) dX6_read_43 (by decide) ?_
          refine V.iconst (v := 0) dX6_read_46 (by decide) ?_
          refine V.goto (tgt := 51) dX6_read_47 (by decide) ?_
          refine V.put (v := .int 0) (ws2 := MW g a z hi tx ai pa tu ((ruA tx len pt nu).2.1) ke (nI sn) (nI len) 0 (nI ((ruA tx len pt nu).2.2.1)) ((ruA tx len pt nu).2.2.2.1) (nI ((ruA tx len pt nu).2.2.2.2)) ha) (fun w H => List.mem_cons_of_mem _ (List.mem_append_right _ H)) tyX6 tyX6_ok nmX6 (hc := (rfl : vwCl[6]? = some (RX6, TX6, 15))) 0 5 (by decide) (List.mem_of_getElem? (i := 4) rfl) rfl rfl (tyX6_ok 5 (by decide)) rfl rfl (Nat.le_of_ble_eq_true rfl) rfl dX6_read_51 ?_
          refine V.aload_n 1 rfl dX6_read_54 rfl ?_
          refine V.get (v := .int 0) (fun w H => List.mem_cons_of_mem _ (List.mem_append_right _ H)) (hc := (rfl : vwCl[6]? = some (RX6, TX6, 15))) 0 5 (by decide) (List.mem_of_getElem? (i := 4) rfl) rfl rfl dX6_read_55 ?_
          refine V.if_le_t (tgt := 63) (by decide) dX6_read_58 (by decide) ?_
          refine V.aload_n 1 rfl dX6_read_63 rfl ?_
          refine V.callVf (ws2 := MW g a z (svA sn z hi) tx ai pa tu ((ruA tx len pt nu).2.1) ke (nI (svM sn + 1)) (nI len) 0 (nI ((ruA tx len pt nu).2.2.1)) ((ruA tx len pt nu).2.2.2.1) (nI ((ruA tx len pt nu).2.2.2.2)) ha) (st2 := []) [] [] (kX6_save g a z hi tx ai pa tu ((ruA tx len pt nu).2.1) ke (nI len) 0 (nI ((ruA tx len pt nu).2.2.1)) ((ruA tx len pt nu).2.2.2.1) (nI ((ruA tx len pt nu).2.2.2.2)) ha sn hs) gX6_read_X6_save rfl (by show _ ∧ _ ∧ _ ∧ _ = some (0 : Nat); decide +kernel) ⟨Nat.le_of_ble_eq_true rfl, Nat.le_of_ble_eq_true rfl⟩ (hc := (rfl : vwCl[6]? = some (RX6, TX6, 15))) 0 rfl [0, 1, 2, 3, 4, 5, 6, 7, 8] (by decide) rfl rfl (Nat.le_of_ble_eq_true rfl) ⟨Nat.le_of_ble_eq_true rfl, Nat.le_of_ble_eq_true rfl⟩ dX6_read_64 MWf rfl rfl rfl rfl ?_
          refine V.aload_n 1 rfl dX6_read_67 rfl ?_
          refine V.iconst (v := 0) dX6_read_68 (by decide) ?_
          refine V.put (v := .int 0) (ws2 := MW g a z (svA sn z hi) tx ai pa tu ((ruA tx len pt nu).2.1) ke (nI (svM sn + 1)) 0 0 (nI ((ruA tx len pt nu).2.2.1)) ((ruA tx len pt nu).2.2.2.1) (nI ((ruA tx len pt nu).2.2.2.2)) ha) (fun w H => List.mem_cons_of_mem _ (List.mem_append_right _ H)) tyX6 tyX6_ok nmX6 (hc := (rfl : vwCl[6]? = some (RX6, TX6, 15))) 0 3 (by decide) (List.mem_of_getElem? (i := 1) rfl) rfl rfl (tyX6_ok 3 (by decide)) rfl rfl (Nat.le_of_ble_eq_true rfl) rfl dX6_read_69 ?_
          refine V.iconst (v := 0) dX6_read_72 (by decide) ?_
          refine V.istore_n (lv2 := [(2, .int 0), (1, .int 1), (0, .ref (a 0))]) dX6_read_73 rfl (by decide) rfl ?_
          have L74 : ∀ (kL : Nat) (i : Nat) (y : Nat → Int32), i + kL = (ruA tx len pt nu).2.2.1 + 1 → (CN y) → (rdL (ruA tx len pt nu).2.1 kL i y = rdL (ruA tx len pt nu).2.1 ((ruA tx len pt nu).2.2.1 + 1) 0 z) → V g rmX6_read_ok RX6 cX6_read wsX6_read 3 QF (XM (some .int) "read") 0 0 (MW g a y (svA sn z hi) tx ai pa tu ((ruA tx len pt nu).2.1) ke (nI (svM sn + 1)) 0 0 (nI ((ruA tx len pt nu).2.2.1)) ((ruA tx len pt nu).2.2.2.1) (nI ((ruA tx len pt nu).2.2.2.2)) ha) 74 [(2, .int (nI i)), (1, .int 1), (0, .ref (a 0))] [] := by
            intro kL
            induction kL with
            | zero =>
              intro i y hrel hCy hrd
              refine V.iload_n 0 rfl dX6_read_74 rfl ?_
              refine V.aload_n 2 rfl dX6_read_75 rfl ?_
              refine V.get (v := .int (nI ((ruA tx len pt nu).2.2.1))) (fun w H => List.mem_cons_of_mem _ (List.mem_append_right _ H)) (hc := (rfl : vwCl[6]? = some (RX6, TX6, 15))) 0 10 (by decide) (List.mem_of_getElem? (i := 5) rfl) rfl rfl dX6_read_76 ?_
              refine V.icmp_gt_t (tgt := 96) (by exact nI_lt (a := (ruA tx len pt nu).2.2.1) (b := i) (by omega) (by omega)) dX6_read_79 (by decide) ?_
              refine V.iload_n 0 rfl dX6_read_96 rfl ?_
              exact V.iret hq XM.r (Nat.le_of_ble_eq_true rfl) (Nat.le_of_ble_eq_true rfl) ⟨by rw [← hrd, rdL_0] <;> rfl, by rw [← hrd, rdL_0] <;> rfl⟩ dX6_read_97
            | succ kL ih =>
              intro i y hrel hCy hrd
              refine V.iload_n 0 rfl dX6_read_74 rfl ?_
              refine V.aload_n 2 rfl dX6_read_75 rfl ?_
              refine V.get (v := .int (nI ((ruA tx len pt nu).2.2.1))) (fun w H => List.mem_cons_of_mem _ (List.mem_append_right _ H)) (hc := (rfl : vwCl[6]? = some (RX6, TX6, 15))) 0 10 (by decide) (List.mem_of_getElem? (i := 5) rfl) rfl rfl dX6_read_76 ?_
              refine V.icmp_gt_f (tgt := 96) (by exact nI_nlt (a := (ruA tx len pt nu).2.2.1) (b := i) (by omega) (by omega)) dX6_read_79 (by decide) ?_
              refine V.aload_n 2 rfl dX6_read_82 rfl ?_
              refine V.iload_n 0 rfl dX6_read_83 rfl ?_
              refine V.callVf (ws2 := MW g a (adZ ((ruA tx len pt nu).2.1) y i) (svA sn z hi) tx ai pa tu ((ruA tx len pt nu).2.1) ke (nI (svM sn + 1)) 0 0 (nI ((ruA tx len pt nu).2.2.1)) ((ruA tx len pt nu).2.2.2.1) (nI ((ruA tx len pt nu).2.2.2.2)) ha) (st2 := [.int (bi (adB ((ruA tx len pt nu).2.1) y i))]) [.int (nI i)] [] (kX6_adds g a y (svA sn z hi) tx ai pa tu ((ruA tx len pt nu).2.1) ke (nI (svM sn + 1)) 0 0 (nI ((ruA tx len pt nu).2.2.1)) ((ruA tx len pt nu).2.2.2.1) (nI ((ruA tx len pt nu).2.2.2.2)) ha i (by omega) hCy) gX6_read_X6_adds rfl (by show _ ∧ _ ∧ _ ∧ _ = some (1 : Nat); decide +kernel) ⟨Nat.le_of_ble_eq_true rfl, Nat.le_of_ble_eq_true rfl⟩ (hc := (rfl : vwCl[6]? = some (RX6, TX6, 15))) 0 rfl [0, 1, 2, 3, 4, 5, 6, 7, 8] (by decide) rfl rfl (Nat.le_of_ble_eq_true rfl) ⟨Nat.le_of_ble_eq_true rfl, Nat.le_of_ble_eq_true rfl⟩ dX6_read_84 MWf rfl rfl rfl rfl ?_
              refine V.if_eq (tgt := 96) dX6_read_87 (by decide) (fun c87 => ?_) (fun c87 => ?_)
              · skip
                have c87 := bi_0 c87
                refine V.iload_n 0 rfl dX6_read_96 rfl ?_
                exact V.iret hq XM.r (Nat.le_of_ble_eq_true rfl) (Nat.le_of_ble_eq_true rfl) ⟨by rw [← hrd, rdL_s, if_neg (by rw [c87]; decide)] <;> rfl, by rw [← hrd, rdL_s, if_neg (by rw [c87]; decide), adZ, c87, if_neg (by decide)] <;> rfl⟩ dX6_read_97
              · skip
                have c87 := bi_1 c87
                refine V.iinc (v := nI (i + 1)) (lv2 := [(2, .int (nI (i + 1))), (1, .int 1), (0, .ref (a 0))]) 0 rfl dX6_read_90 (nI_add i 1) (by decide) rfl ?_
                refine V.goto (tgt := 74) dX6_read_93 (by decide) ?_
                refine V.eqlv (lv2 := [(2, .int (nI (i + 1))), (1, .int 1), (0, .ref (a 0))]) [0, 1, 2] rfl ?_
                exact ih (i + 1) (adZ (ruA tx len pt nu).2.1 y i) (by omega) hCy.ad (by rw [rdL_s, if_pos c87] at hrd; exact hrd)
          refine V.eqlv (lv2 := [(2, .int 0), (1, .int 1), (0, .ref (a 0))]) [0, 1, 2] rfl ?_
          exact L74 ((ruA tx len pt nu).2.2.1 + 1) 0 z (by omega) hC rfl
