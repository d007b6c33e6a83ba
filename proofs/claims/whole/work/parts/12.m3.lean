abbrev rmX6_tries : Room := { frames := 2, cells := 0, slots := 0, locals := 46 }
set_option maxHeartbeats 4000000 in
set_option maxRecDepth 100000 in
theorem kX6_tries (g : GT) (a : Nat → Nat) (z hi tx ai pa tu pt ke : Nat → Int32) (st le th re nu du : Int32) (ha : Int64) (n : Nat) (f : Nat) (hn : n < 4) (hf : f < 8) : UC g yX6_tries wsX6_tries rmX6_tries [.ref (a 0), .int (nI n), .int (nI f)] (MW g a z hi tx ai pa tu pt ke st le th re nu du ha) (Qf (some (.int (bi (!(tms z n f))))) (MW g a (trZ z n f) hi tx ai (trP z n f pa) (trT z n f tu) pt ke st le th re nu du ha)) := by
  refine UC.ofV (cc := cX6_tries) (maxL := 4) (ret := some .boolean) (lv0 := [(0, .ref (a 0)), (1, .int (nI n)), (2, .int (nI f))]) (by decide) rfl (Nat.le_of_ble_eq_true rfl) rfl ?_
  generalize hQF : QFr g rmX6_tries (Qf (some (.int (bi (!(tms z n f))))) (MW g a (trZ z n f) hi tx ai (trP z n f pa) (trT z n f tu) pt ke st le th re nu du ha)) = QF
  have hq : QFok g rmX6_tries (Qf (some (.int (bi (!(tms z n f))))) (MW g a (trZ z n f) hi tx ai (trP z n f pa) (trT z n f tu) pt ke st le th re nu du ha)) QF := hQF ▸ QFr.q
  refine V.bipush (v := 12) dX6_tries_0 (by decide) ?_
  refine V.bipush (v := 8) dX6_tries_2 (by decide) ?_
  refine V.iload_n 2 rfl dX6_tries_4 rfl ?_
  refine V.imulN (v := nI (8 * f)) dX6_tries_5 (pk_mul 8 f) ?_
  refine V.iaddN (v := nI (12 + 8 * f)) dX6_tries_6 (nI_add 12 (8 * f)) ?_
  refine V.istore_n (lv2 := [(3, .int (nI (12 + 8 * f))), (0, .ref (a 0)), (1, .int (nI n)), (2, .int (nI f))]) dX6_tries_7 rfl (by decide) rfl ?_
  refine V.aload_n 1 rfl dX6_tries_8 rfl ?_
  refine V.aload_n 1 rfl dX6_tries_9 rfl ?_
  refine V.get (v := .ref (a 1)) (fun w H => List.mem_cons_of_mem _ (List.mem_append_right _ H)) (hc := (rfl : vwCl[6]? = some (RX6, TX6, 15))) 0 0 (by decide) (List.mem_of_getElem? (i := 1) rfl) rfl rfl dX6_tries_10 ?_
  refine V.iload_n 0 rfl dX6_tries_13 rfl ?_
  refine V.iconst (v := 0) dX6_tries_14 (by decide) ?_
  refine V.iaddN (v := nI (12 + 8 * f + 0)) dX6_tries_15 (nI_add (12 + 8 * f) 0) ?_
  refine V.iald (f := z) 1 (12 + 8 * f + 0) rfl rfl (by omega) (by decide) dX6_tries_16 ?_
  refine V.iconst (v := 2) dX6_tries_17 (by decide) ?_
  refine V.callVf (ws2 := MW g a (gz z (z (12 + 8 * f + 0)) (2 : Int32)) hi tx ai pa tu pt ke st le th re nu du ha) (st2 := []) [.int (z (12 + 8 * f + 0)), .int 2] [] (kX6_go g a z hi tx ai pa tu pt ke st le th re nu du ha (z (12 + 8 * f + 0)) (2 : Int32) ) gX6_tries_X6_go rfl (by show _ ∧ _ ∧ _ ∧ _ = some (2 : Nat); decide +kernel) ⟨Nat.le_of_ble_eq_true rfl, Nat.le_of_ble_eq_true rfl⟩ (hc := (rfl : vwCl[6]? = some (RX6, TX6, 15))) 0 rfl [0, 1, 2, 3, 4, 5, 6, 7, 8] (by decide) rfl rfl (Nat.le_of_ble_eq_true rfl) ⟨Nat.le_of_ble_eq_true rfl, Nat.le_of_ble_eq_true rfl⟩ dX6_tries_18 MWf rfl rfl rfl rfl ?_
  refine V.eqws (ws2 := MW g a (ta z f) hi tx ai pa tu pt ke st le th re nu du ha) rfl ?_
  refine V.aload_n 1 rfl dX6_tries_21 rfl ?_
  refine V.get (v := .ref (a 1)) (fun w H => List.mem_cons_of_mem _ (List.mem_append_right _ H)) (hc := (rfl : vwCl[6]? = some (RX6, TX6, 15))) 0 0 (by decide) (List.mem_of_getElem? (i := 1) rfl) rfl rfl dX6_tries_22 ?_
  refine V.iload_n 0 rfl dX6_tries_25 rfl ?_
  refine V.iconst (v := 5) dX6_tries_26 (by decide) ?_
  refine V.iaddN (v := nI (12 + 8 * f + 5)) dX6_tries_27 (nI_add (12 + 8 * f) 5) ?_
  refine V.dup2 dX6_tries_28 rfl rfl ?_
  refine V.iald (f := ta z f) 1 (12 + 8 * f + 5) rfl rfl (by omega) (by decide) dX6_tries_29 ?_
  refine V.iconst (v := 1) dX6_tries_30 (by decide) ?_
  refine V.iadd dX6_tries_31 ?_
  refine V.iast (f := ta z f) (ws2 := MW g a (upd (ta z f) (12 + 8 * f + 5) (((ta z f) (12 + 8 * f + 5)) + 1)) hi tx ai pa tu pt ke st le th re nu du ha) 1 (12 + 8 * f + 5) rfl rfl (by omega) (by decide) rfl dX6_tries_32 ?_
  refine V.eqws (ws2 := MW g a (tb z f) hi tx ai pa tu pt ke st le th re nu du ha) rfl ?_
  refine V.aload_n 1 rfl dX6_tries_33 rfl ?_
  refine V.get (v := .ref (a 1)) (fun w H => List.mem_cons_of_mem _ (List.mem_append_right _ H)) (hc := (rfl : vwCl[6]? = some (RX6, TX6, 15))) 0 0 (by decide) (List.mem_of_getElem? (i := 1) rfl) rfl rfl dX6_tries_34 ?_
  refine V.sipush (v := 196) dX6_tries_37 (by decide) ?_
  refine V.iconst (v := 5) dX6_tries_40 (by decide) ?_
  refine V.iload_n 2 rfl dX6_tries_41 rfl ?_
  refine V.imulN (v := nI (5 * n)) dX6_tries_42 (pk_mul 5 n) ?_
  refine V.iaddN (v := nI (196 + 5 * n)) dX6_tries_43 (nI_add 196 (5 * n)) ?_
  refine V.iconst (v := 1) dX6_tries_44 (by decide) ?_
  refine V.iaddN (v := nI (196 + 5 * n + 1)) dX6_tries_45 (nI_add (196 + 5 * n) 1) ?_
  refine V.dup2 dX6_tries_46 rfl rfl ?_
  refine V.iald (f := tb z f) 1 (196 + 5 * n + 1) rfl rfl (by omega) (by decide) dX6_tries_47 ?_
  refine V.iconst (v := 1) dX6_tries_48 (by decide) ?_
  refine V.iadd dX6_tries_49 ?_
  refine V.iast (f := tb z f) (ws2 := MW g a (upd (tb z f) (196 + 5 * n + 1) (((tb z f) (196 + 5 * n + 1)) + 1)) hi tx ai pa tu pt ke st le th re nu du ha) 1 (196 + 5 * n + 1) rfl rfl (by omega) (by decide) rfl dX6_tries_50 ?_
  refine V.eqws (ws2 := MW g a (tc z n f) hi tx ai pa tu pt ke st le th re nu du ha) rfl ?_
  refine V.aload_n 1 rfl dX6_tries_51 rfl ?_
  refine V.bipush (v := 100) dX6_tries_52 (by decide) ?_
  refine V.callVf (ws2 := MW g a (dz (tc z n f)) hi tx ai pa tu pt ke st le th re nu du ha) (st2 := [.int (dv (tc z n f) (100 : Int32))]) [.int 100] [] (kX6_draw g a (tc z n f) hi tx ai pa tu pt ke st le th re nu du ha (100 : Int32) (by first | omega | decide)) gX6_tries_X6_draw rfl (by show _ ∧ _ ∧ _ ∧ _ = some (1 : Nat); decide +kernel) ⟨Nat.le_of_ble_eq_true rfl, Nat.le_of_ble_eq_true rfl⟩ (hc := (rfl : vwCl[6]? = some (RX6, TX6, 15))) 0 rfl [0, 1, 2, 3, 4, 5, 6, 7, 8] (by decide) rfl rfl (Nat.le_of_ble_eq_true rfl) ⟨Nat.le_of_ble_eq_true rfl, Nat.le_of_ble_eq_true rfl⟩ dX6_tries_54 MWf rfl rfl rfl rfl ?_
  refine V.eqws (ws2 := MW g a (td z n f) hi tx ai pa tu pt ke st le th re nu du ha) rfl ?_
  refine V.aload_n 1 rfl dX6_tries_57 rfl ?_
  refine V.get (v := .ref (a 1)) (fun w H => List.mem_cons_of_mem _ (List.mem_append_right _ H)) (hc := (rfl : vwCl[6]? = some (RX6, TX6, 15))) 0 0 (by decide) (List.mem_of_getElem? (i := 1) rfl) rfl rfl dX6_tries_58 ?_
  refine V.iload_n 0 rfl dX6_tries_61 rfl ?_
  refine V.iconst (v := 3) dX6_tries_62 (by decide) ?_
  refine V.iaddN (v := nI (12 + 8 * f + 3)) dX6_tries_63 (nI_add (12 + 8 * f) 3) ?_
  refine V.iald (f := td z n f) 1 (12 + 8 * f + 3) rfl rfl (by omega) (by decide) dX6_tries_64 ?_
  refine V.icmp_ge (tgt := 114) dX6_tries_65 (by decide) (fun c65 => ?_) (fun c65 => ?_)
  · skip
    have hm : tms z n f = false := by unfold tms; rw [decide_eq_true c65]; rfl
    refine V.aload_n 1 rfl dX6_tries_114 rfl ?_
    refine V.get (v := .ref (a 1)) (fun w H => List.mem_cons_of_mem _ (List.mem_append_right _ H)) (hc := (rfl : vwCl[6]? = some (RX6, TX6, 15))) 0 0 (by decide) (List.mem_of_getElem? (i := 1) rfl) rfl rfl dX6_tries_115 ?_
    refine V.iload_n 0 rfl dX6_tries_118 rfl ?_
    refine V.iconst (v := 2) dX6_tries_119 (by decide) ?_
    refine V.iaddN (v := nI (12 + 8 * f + 2)) dX6_tries_120 (nI_add (12 + 8 * f) 2) ?_
    refine V.dup2 dX6_tries_121 rfl rfl ?_
    refine V.iald (f := td z n f) 1 (12 + 8 * f + 2) rfl rfl (by omega) (by decide) dX6_tries_122 ?_
    refine V.iconst (v := 1) dX6_tries_123 (by decide) ?_
    refine V.isub dX6_tries_124 ?_
    refine V.iast (f := td z n f) (ws2 := MW g a (upd (td z n f) (12 + 8 * f + 2) (((td z n f) (12 + 8 * f + 2)) - 1)) hi tx ai pa tu pt ke st le th re nu du ha) 1 (12 + 8 * f + 2) rfl rfl (by omega) (by decide) rfl dX6_tries_125 ?_
    refine V.eqws (ws2 := MW g a (ti z n f) hi tx ai pa tu pt ke st le th re nu du ha) rfl ?_
    refine V.aload_n 1 rfl dX6_tries_126 rfl ?_
    refine V.iload_n 2 rfl dX6_tries_127 rfl ?_
    refine V.iload_n 3 rfl dX6_tries_128 rfl ?_
    refine V.aload_n 1 rfl dX6_tries_129 rfl ?_
    refine V.get (v := .ref (a 1)) (fun w H => List.mem_cons_of_mem _ (List.mem_append_right _ H)) (hc := (rfl : vwCl[6]? = some (RX6, TX6, 15))) 0 0 (by decide) (List.mem_of_getElem? (i := 1) rfl) rfl rfl dX6_tries_130 ?_
    refine V.iconst (v := 2) dX6_tries_133 (by decide) ?_
    refine V.iald (f := ti z n f) 1 2 rfl rfl (by decide) (by decide) dX6_tries_134 ?_
    refine V.callVf (ws2 := MW g a (tM (ti z n f) n f ((ti z n f) 2)) hi tx ai pa tu pt ke st le th re nu du ha) (st2 := []) [.int (nI n), .int (nI f), .int ((ti z n f) 2)] [] (kX6_trustMore g a (ti z n f) hi tx ai pa tu pt ke st le th re nu du ha n f ((ti z n f) 2) (by first | omega | decide) (by first | omega | decide)) gX6_tries_X6_trustMore rfl (by show _ ∧ _ ∧ _ ∧ _ = some (3 : Nat); decide +kernel) ⟨Nat.le_of_ble_eq_true rfl, Nat.le_of_ble_eq_true rfl⟩ (hc := (rfl : vwCl[6]? = some (RX6, TX6, 15))) 0 rfl [0, 1, 2, 3, 4, 5, 6, 7, 8] (by decide) rfl rfl (Nat.le_of_ble_eq_true rfl) ⟨Nat.le_of_ble_eq_true rfl, Nat.le_of_ble_eq_true rfl⟩ dX6_tries_135 MWf rfl rfl rfl rfl ?_
    refine V.eqws (ws2 := MW g a (tj z n f) hi tx ai pa tu pt ke st le th re nu du ha) rfl ?_
    refine V.aload_n 1 rfl dX6_tries_138 rfl ?_
    refine V.get (v := .ref (a 5)) (fun w H => List.mem_cons_of_mem _ (List.mem_append_right _ H)) (hc := (rfl : vwCl[6]? = some (RX6, TX6, 15))) 0 7 (by decide) (List.mem_of_getElem? (i := 2) rfl) rfl rfl dX6_tries_139 ?_
    refine V.iload_n 2 rfl dX6_tries_142 rfl ?_
    refine V.iload_n 3 rfl dX6_tries_143 rfl ?_
    refine V.iast (f := pa) (ws2 := MW g a (tj z n f) hi tx ai (upd pa n (nI f)) tu pt ke st le th re nu du ha) 5 n rfl rfl (by omega) (by decide) rfl dX6_tries_144 ?_
    refine V.aload_n 1 rfl dX6_tries_145 rfl ?_
    refine V.get (v := .ref (a 6)) (fun w H => List.mem_cons_of_mem _ (List.mem_append_right _ H)) (hc := (rfl : vwCl[6]? = some (RX6, TX6, 15))) 0 8 (by decide) (List.mem_of_getElem? (i := 3) rfl) rfl rfl dX6_tries_146 ?_
    refine V.iload_n 2 rfl dX6_tries_149 rfl ?_
    refine V.aload_n 1 rfl dX6_tries_150 rfl ?_
    refine V.bipush (v := 100) dX6_tries_151 (by decide) ?_
    refine V.callVf (ws2 := MW g a (dz (tj z n f)) hi tx ai (upd pa n (nI f)) tu pt ke st le th re nu du ha) (st2 := [.int (dv (tj z n f) (100 : Int32)), .int (nI n), .ref (a 6)]) [.int 100] [.int (nI n), .ref (a 6)] (kX6_draw g a (tj z n f) hi tx ai (upd pa n (nI f)) tu pt ke st le th re nu du ha (100 : Int32) (by first | omega | decide)) gX6_tries_X6_draw rfl (by show _ ∧ _ ∧ _ ∧ _ = some (1 : Nat); decide +kernel) ⟨Nat.le_of_ble_eq_true rfl, Nat.le_of_ble_eq_true rfl⟩ (hc := (rfl : vwCl[6]? = some (RX6, TX6, 15))) 0 rfl [0, 1, 2, 3, 4, 5, 6, 7, 8] (by decide) rfl rfl (Nat.le_of_ble_eq_true rfl) ⟨Nat.le_of_ble_eq_true rfl, Nat.le_of_ble_eq_true rfl⟩ dX6_tries_153 MWf rfl rfl rfl rfl ?_
    refine V.eqws (ws2 := MW g a (tk z n f) hi tx ai (upd pa n (nI f)) tu pt ke st le th re nu du ha) rfl ?_
    refine V.aload_n 1 rfl dX6_tries_156 rfl ?_
    refine V.get (v := .ref (a 1)) (fun w H => List.mem_cons_of_mem _ (List.mem_append_right _ H)) (hc := (rfl : vwCl[6]? = some (RX6, TX6, 15))) 0 0 (by decide) (List.mem_of_getElem? (i := 1) rfl) rfl rfl dX6_tries_157 ?_
    refine V.iload_n 0 rfl dX6_tries_160 rfl ?_
    refine V.iconst (v := 4) dX6_tries_161 (by decide) ?_
    refine V.iaddN (v := nI (12 + 8 * f + 4)) dX6_tries_162 (nI_add (12 + 8 * f) 4) ?_
    refine V.iald (f := tk z n f) 1 (12 + 8 * f + 4) rfl rfl (by omega) (by decide) dX6_tries_163 ?_
    refine V.icmp_ge (tgt := 171) dX6_tries_164 (by decide) (fun c164 => ?_) (fun c164 => ?_)
    · skip
      refine V.iconst (v := 0) dX6_tries_171 (by decide) ?_
      refine V.iast (f := tu) (ws2 := MW g a (tk z n f) hi tx ai (upd pa n (nI f)) (upd tu n 0) pt ke st le th re nu du ha) 6 n rfl rfl (by omega) (by decide) rfl dX6_tries_172 ?_
      refine V.iconst (v := 1) dX6_tries_173 (by decide) ?_
      exact V.zret hq XM.r rfl (Nat.le_of_ble_eq_true rfl) (Nat.le_of_ble_eq_true rfl) ⟨by rw [hm]; rfl, by rw [trZ, hm, trP, hm, trT, hm, tT, if_pos c164]; rfl⟩ dX6_tries_174
    · skip
      refine V.iconst (v := 1) dX6_tries_167 (by decide) ?_
      refine V.goto (tgt := 172) dX6_tries_168 (by decide) ?_
      refine V.iast (f := tu) (ws2 := MW g a (tk z n f) hi tx ai (upd pa n (nI f)) (upd tu n 1) pt ke st le th re nu du ha) 6 n rfl rfl (by omega) (by decide) rfl dX6_tries_172 ?_
      refine V.iconst (v := 1) dX6_tries_173 (by decide) ?_
      exact V.zret hq XM.r rfl (Nat.le_of_ble_eq_true rfl) (Nat.le_of_ble_eq_true rfl) ⟨by rw [hm]; rfl, by rw [trZ, hm, trP, hm, trT, hm, tT, if_neg c164]; rfl⟩ dX6_tries_174
  · skip
    have hm : tms z n f = true := by unfold tms; rw [decide_eq_false c65]; rfl
    refine V.aload_n 1 rfl dX6_tries_68 rfl ?_
    refine V.iload_n 2 rfl dX6_tries_69 rfl ?_
    refine V.iload_n 3 rfl dX6_tries_70 rfl ?_
    refine V.aload_n 1 rfl dX6_tries_71 rfl ?_
    refine V.get (v := .ref (a 1)) (fun w H => List.mem_cons_of_mem _ (List.mem_append_right _ H)) (hc := (rfl : vwCl[6]? = some (RX6, TX6, 15))) 0 0 (by decide) (List.mem_of_getElem? (i := 1) rfl) rfl rfl dX6_tries_72 ?_
    refine V.iconst (v := 1) dX6_tries_75 (by decide) ?_
    refine V.iald (f := td z n f) 1 1 rfl rfl (by decide) (by decide) dX6_tries_76 ?_
    refine V.ineg dX6_tries_77 ?_
    refine V.callVf (ws2 := MW g a (tM (td z n f) n f (-((td z n f) 1))) hi tx ai pa tu pt ke st le th re nu du ha) (st2 := []) [.int (nI n), .int (nI f), .int (-((td z n f) 1))] [] (kX6_trustMore g a (td z n f) hi tx ai pa tu pt ke st le th re nu du ha n f (-((td z n f) 1)) (by first | omega | decide) (by first | omega | decide)) gX6_tries_X6_trustMore rfl (by show _ ∧ _ ∧ _ ∧ _ = some (3 : Nat); decide +kernel) ⟨Nat.le_of_ble_eq_true rfl, Nat.le_of_ble_eq_true rfl⟩ (hc := (rfl : vwCl[6]? = some (RX6, TX6, 15))) 0 rfl [0, 1, 2, 3, 4, 5, 6, 7, 8] (by decide) rfl rfl (Nat.le_of_ble_eq_true rfl) ⟨Nat.le_of_ble_eq_true rfl, Nat.le_of_ble_eq_true rfl⟩ dX6_tries_78 MWf rfl rfl rfl rfl ?_
    refine V.eqws (ws2 := MW g a (te z n f) hi tx ai pa tu pt ke st le th re nu du ha) rfl ?_
    refine V.aload_n 1 rfl dX6_tries_81 rfl ?_
    refine V.get (v := .ref (a 1)) (fun w H => List.mem_cons_of_mem _ (List.mem_append_right _ H)) (hc := (rfl : vwCl[6]? = some (RX6, TX6, 15))) 0 0 (by decide) (List.mem_of_getElem? (i := 1) rfl) rfl rfl dX6_tries_82 ?_
    refine V.iload_n 0 rfl dX6_tries_85 rfl ?_
    refine V.bipush (v := 6) dX6_tries_86 (by decide) ?_
    refine V.iaddN (v := nI (12 + 8 * f + 6)) dX6_tries_88 (nI_add (12 + 8 * f) 6) ?_
    refine V.dup2 dX6_tries_89 rfl rfl ?_
    refine V.iald (f := te z n f) 1 (12 + 8 * f + 6) rfl rfl (by omega) (by decide) dX6_tries_90 ?_
    refine V.iconst (v := 1) dX6_tries_91 (by decide) ?_
    refine V.iadd dX6_tries_92 ?_
    refine V.iast (f := te z n f) (ws2 := MW g a (upd (te z n f) (12 + 8 * f + 6) (((te z n f) (12 + 8 * f + 6)) + 1)) hi tx ai pa tu pt ke st le th re nu du ha) 1 (12 + 8 * f + 6) rfl rfl (by omega) (by decide) rfl dX6_tries_93 ?_
    refine V.eqws (ws2 := MW g a (tg z n f) hi tx ai pa tu pt ke st le th re nu du ha) rfl ?_
    refine V.aload_n 1 rfl dX6_tries_94 rfl ?_
    refine V.get (v := .ref (a 1)) (fun w H => List.mem_cons_of_mem _ (List.mem_append_right _ H)) (hc := (rfl : vwCl[6]? = some (RX6, TX6, 15))) 0 0 (by decide) (List.mem_of_getElem? (i := 1) rfl) rfl rfl dX6_tries_95 ?_
    refine V.sipush (v := 196) dX6_tries_98 (by decide) ?_
    refine V.iconst (v := 5) dX6_tries_101 (by decide) ?_
    refine V.iload_n 2 rfl dX6_tries_102 rfl ?_
    refine V.imulN (v := nI (5 * n)) dX6_tries_103 (pk_mul 5 n) ?_
    refine V.iaddN (v := nI (196 + 5 * n)) dX6_tries_104 (nI_add 196 (5 * n)) ?_
    refine V.iconst (v := 2) dX6_tries_105 (by decide) ?_
    refine V.iaddN (v := nI (196 + 5 * n + 2)) dX6_tries_106 (nI_add (196 + 5 * n) 2) ?_
    refine V.dup2 dX6_tries_107 rfl rfl ?_
    refine V.iald (f := tg z n f) 1 (196 + 5 * n + 2) rfl rfl (by omega) (by decide) dX6_tries_108 ?_
    refine V.iconst (v := 1) dX6_tries_109 (by decide) ?_
    refine V.iadd dX6_tries_110 ?_
    refine V.iast (f := tg z n f) (ws2 := MW g a (upd (tg z n f) (196 + 5 * n + 2) (((tg z n f) (196 + 5 * n + 2)) + 1)) hi tx ai pa tu pt ke st le th re nu du ha) 1 (196 + 5 * n + 2) rfl rfl (by omega) (by decide) rfl dX6_tries_111 ?_
    refine V.eqws (ws2 := MW g a (thZ z n f) hi tx ai pa tu pt ke st le th re nu du ha) rfl ?_
    refine V.iconst (v := 0) dX6_tries_112 (by decide) ?_
    exact V.zret hq XM.r rfl (Nat.le_of_ble_eq_true rfl) (Nat.le_of_ble_eq_true rfl) ⟨by rw [hm]; rfl, by rw [trZ, hm, trP, hm, trT, hm]; rfl⟩ dX6_tries_113
abbrev rmX6_pick : Room := { frames := 3, cells := 0, slots := 0, locals := 70 }
set_option maxHeartbeats 4000000 in
set_option maxRecDepth 100000 in
theorem kX6_pick (g : GT) (a : Nat → Nat) (z hi tx ai pa tu pt ke : Nat → Int32) (st le th re nu du : Int32) (ha : Int64) (n : Nat) (o : Option Nat) (hn : n < 4) (hK : KZ z) (hao : ai n = en o) (ho : ∀ p : Nat, o = some p → p < 24) : UC g yX6_pick wsX6_pick rmX6_pick [.ref (a 0), .int (nI n)] (MW g a z hi tx ai pa tu pt ke st le th re nu du ha) (Qf (none) (MW g a ((pkA n o (z, pa, tu)).1) hi tx ai ((pkA n o (z, pa, tu)).2.1) ((pkA n o (z, pa, tu)).2.2) pt ke st le th re nu du ha)) := by
  refine UC.ofV (cc := cX6_pick) (maxL := 5) (ret := none) (lv0 := [(0, .ref (a 0)), (1, .int (nI n))]) (by decide) rfl (Nat.le_of_ble_eq_true rfl) rfl ?_
  generalize hQF : QFr g rmX6_pick (Qf (none) (MW g a ((pkA n o (z, pa, tu)).1) hi tx ai ((pkA n o (z, pa, tu)).2.1) ((pkA n o (z, pa, tu)).2.2) pt ke st le th re nu du ha)) = QF
  have hq : QFok g rmX6_pick (Qf (none) (MW g a ((pkA n o (z, pa, tu)).1) hi tx ai ((pkA n o (z, pa, tu)).2.1) ((pkA n o (z, pa, tu)).2.2) pt ke st le th re nu du ha)) QF := hQF ▸ QFr.q
  obtain ⟨hF, hF8, hP, hP24, hR, hR5⟩ := id hK
  refine V.aload_n 0 rfl dX6_pick_0 rfl ?_
  refine V.get (v := .ref (a 5)) (fun w H => List.mem_cons_of_mem _ (List.mem_append_right _ H)) (hc := (rfl : vwCl[6]? = some (RX6, TX6, 15))) 0 7 (by decide) (List.mem_of_getElem? (i := 1) rfl) rfl rfl dX6_pick_1 ?_
  refine V.iload_n 1 rfl dX6_pick_4 rfl ?_
  refine V.iconst (v := -1) dX6_pick_5 (by decide) ?_
  refine V.iast (f := pa) (ws2 := MW g a z hi tx ai (upd pa n (-1)) tu pt ke st le th re nu du ha) 5 n rfl rfl (by omega) (by decide) rfl dX6_pick_6 ?_
  refine V.aload_n 0 rfl dX6_pick_7 rfl ?_
  refine V.get (v := .ref (a 4)) (fun w H => List.mem_cons_of_mem _ (List.mem_append_right _ H)) (hc := (rfl : vwCl[6]? = some (RX6, TX6, 15))) 0 6 (by decide) (List.mem_of_getElem? (i := 2) rfl) rfl rfl dX6_pick_8 ?_
  refine V.iload_n 1 rfl dX6_pick_11 rfl ?_
  refine V.iald (f := ai) 4 n rfl rfl (by omega) (by decide) dX6_pick_12 ?_
  rw [hao]
  refine V.iconst (v := -1) dX6_pick_13 (by decide) ?_
  cases o with
  | none =>
    refine V.icmp_eq_t (tgt := 21) (by decide) dX6_pick_14 (by decide) ?_
    refine V.iconst (v := 0) dX6_pick_21 (by decide) ?_
    refine V.istore_n (lv2 := [(2, .int 0), (0, .ref (a 0)), (1, .int (nI n))]) dX6_pick_22 rfl (by decide) rfl ?_
    refine V.iconst (v := 0) dX6_pick_23 (by decide) ?_
    refine V.istore_n (lv2 := [(3, .int 0), (2, .int 0), (0, .ref (a 0)), (1, .int (nI n))]) dX6_pick_24 rfl (by decide) rfl ?_
    refine V.iload_n 0 rfl dX6_pick_25 rfl ?_
    refine V.aload_n 2 rfl dX6_pick_26 rfl ?_
    refine V.get (v := .ref (a 1)) (fun w H => List.mem_cons_of_mem _ (List.mem_append_right _ H)) (hc := (rfl : vwCl[6]? = some (RX6, TX6, 15))) 0 0 (by decide) (List.mem_of_getElem? (i := 3) rfl) rfl rfl dX6_pick_27 ?_
    refine V.iconst (v := 0) dX6_pick_30 (by decide) ?_
    refine V.iald (f := z) 1 0 rfl rfl (by decide) (by decide) dX6_pick_31 ?_
    refine V.icmp_gt_f (tgt := 85) (by rw [hR]; exact nI_nlt (a := (z 0).toNatClampNeg) (b := 0) (by omega) (by omega)) dX6_pick_32 (by decide) ?_
    refine V.iload_n 1 rfl dX6_pick_35 rfl ?_
    refine V.if_eq_t (tgt := 85) (by decide) dX6_pick_36 (by decide) ?_
    exact V.vret hq XM.r (Nat.le_of_ble_eq_true rfl) (Nat.le_of_ble_eq_true rfl) ⟨rfl, rfl⟩ dX6_pick_85
  | some p =>
    have hp : p < 24 := ho p rfl
    refine V.icmp_eq_f (tgt := 21) (en_ne (show _ < 24 by omega) (by decide)) dX6_pick_14 (by decide) ?_
    refine V.iconst (v := 1) dX6_pick_17 (by decide) ?_
    refine V.goto (tgt := 22) dX6_pick_18 (by decide) ?_
    refine V.istore_n (lv2 := [(2, .int 1), (0, .ref (a 0)), (1, .int (nI n))]) dX6_pick_22 rfl (by decide) rfl ?_
    refine V.iconst (v := 0) dX6_pick_23 (by decide) ?_
    refine V.istore_n (lv2 := [(3, .int 0), (2, .int 1), (0, .ref (a 0)), (1, .int (nI n))]) dX6_pick_24 rfl (by decide) rfl ?_
    have L25 : ∀ (kL : Nat) (i : Nat) (b : Bool) (s : RS), i + kL = (z 0).toNatClampNeg + 1 → (lo7 s.1 z) → (pkL n p kL b s = pkA n (some p) (z, pa, tu)) → V g rmX6_pick RX6 cX6_pick wsX6_pick 5 QF (XM none "pick") 0 0 (MW g a s.1 hi tx ai s.2.1 s.2.2 pt ke st le th re nu du ha) 25 [(3, .int (nI i)), (2, .int (bi b)), (0, .ref (a 0)), (1, .int (nI n))] [] := by
      intro kL
      induction kL with
      | zero =>
        intro i b s hrel hs7 hfu
        have hK1 := hK.lo hs7
        obtain ⟨hF1, hF81, hP1, hP241, hR1, hR51⟩ := id hK1
        refine V.iload_n 0 rfl dX6_pick_25 rfl ?_
        refine V.aload_n 2 rfl dX6_pick_26 rfl ?_
        refine V.get (v := .ref (a 1)) (fun w H => List.mem_cons_of_mem _ (List.mem_append_right _ H)) (hc := (rfl : vwCl[6]? = some (RX6, TX6, 15))) 0 0 (by decide) (List.mem_of_getElem? (i := 3) rfl) rfl rfl dX6_pick_27 ?_
        refine V.iconst (v := 0) dX6_pick_30 (by decide) ?_
        refine V.iald (f := s.1) 1 0 rfl rfl (by decide) (by decide) dX6_pick_31 ?_
        refine V.icmp_gt_t (tgt := 85) (by rw [hs7 0 (by decide), hR]; exact nI_lt (by omega) (by omega)) dX6_pick_32 (by decide) ?_
        exact V.vret hq XM.r (Nat.le_of_ble_eq_true rfl) (Nat.le_of_ble_eq_true rfl) ⟨rfl, by rw [← hfu] <;> rfl⟩ dX6_pick_85
      | succ kL ih =>
        intro i b s hrel hs7 hfu
        have hK1 := hK.lo hs7
        obtain ⟨hF1, hF81, hP1, hP241, hR1, hR51⟩ := id hK1
        refine V.iload_n 0 rfl dX6_pick_25 rfl ?_
        refine V.aload_n 2 rfl dX6_pick_26 rfl ?_
        refine V.get (v := .ref (a 1)) (fun w H => List.mem_cons_of_mem _ (List.mem_append_right _ H)) (hc := (rfl : vwCl[6]? = some (RX6, TX6, 15))) 0 0 (by decide) (List.mem_of_getElem? (i := 3) rfl) rfl rfl dX6_pick_27 ?_
        refine V.iconst (v := 0) dX6_pick_30 (by decide) ?_
        refine V.iald (f := s.1) 1 0 rfl rfl (by decide) (by decide) dX6_pick_31 ?_
        refine V.icmp_gt_f (tgt := 85) (by rw [hs7 0 (by decide), hR]; exact nI_nlt (by omega) (by omega)) dX6_pick_32 (by decide) ?_
        refine V.iload_n 1 rfl dX6_pick_35 rfl ?_
        cases b with
        | false =>
          refine V.if_eq_t (tgt := 85) (by decide) dX6_pick_36 (by decide) ?_
          exact V.vret hq XM.r (Nat.le_of_ble_eq_true rfl) (Nat.le_of_ble_eq_true rfl) ⟨rfl, by rw [← hfu] <;> rfl⟩ dX6_pick_85
        | true =>
          refine V.if_eq_f (tgt := 85) (by decide) dX6_pick_36 (by decide) ?_
          refine V.aload_n 2 rfl dX6_pick_39 rfl ?_
          refine V.iload_n 3 rfl dX6_pick_40 rfl ?_
          refine V.aload_n 2 rfl dX6_pick_41 rfl ?_
          refine V.aload_n 2 rfl dX6_pick_42 rfl ?_
          refine V.get (v := .ref (a 4)) (fun w H => List.mem_cons_of_mem _ (List.mem_append_right _ H)) (hc := (rfl : vwCl[6]? = some (RX6, TX6, 15))) 0 6 (by decide) (List.mem_of_getElem? (i := 2) rfl) rfl rfl dX6_pick_43 ?_
          refine V.iload_n 3 rfl dX6_pick_46 rfl ?_
          refine V.iald (f := ai) 4 n rfl rfl (by omega) (by decide) dX6_pick_47 ?_
          rw [show ai n = nI p from hao]
          refine V.iconst (v := 1) dX6_pick_48 (by decide) ?_
          refine V.callVf (ws2 := MW g a s.1 hi tx ai s.2.1 s.2.2 pt ke st le th re nu du ha) (st2 := [.int (s.1 (76 + 5 * p + 1)), .int (nI n), .ref (a 0)]) [.int (nI p), .int 1] [.int (nI n), .ref (a 0)] (kX6_ofPlace g a s.1 hi tx ai s.2.1 s.2.2 pt ke st le th re nu du ha p 1 (by omega) (by omega)) gX6_pick_X6_ofPlace rfl (by show _ ∧ _ ∧ _ ∧ _ = some (2 : Nat); decide +kernel) ⟨Nat.le_of_ble_eq_true rfl, Nat.le_of_ble_eq_true rfl⟩ (hc := (rfl : vwCl[6]? = some (RX6, TX6, 15))) 0 rfl [0, 1, 2, 3, 4, 5, 6, 7, 8] (by decide) rfl rfl (Nat.le_of_ble_eq_true rfl) ⟨Nat.le_of_ble_eq_true rfl, Nat.le_of_ble_eq_true rfl⟩ dX6_pick_49 MWf rfl rfl rfl rfl ?_
          refine V.callVf (ws2 := MW g a s.1 hi tx ai s.2.1 s.2.2 pt ke st le th re nu du ha) (st2 := [.int (en (cho s.1 n (s.1 (76 + 5 * p + 1))))]) [.int (nI n), .int (s.1 (76 + 5 * p + 1))] [] (kX6_choiceOf g a s.1 hi tx ai s.2.1 s.2.2 pt ke st le th re nu du ha n (s.1 (76 + 5 * p + 1)) (by omega) hF1 hF81) gX6_pick_X6_choiceOf rfl (by show _ ∧ _ ∧ _ ∧ _ = some (2 : Nat); decide +kernel) ⟨Nat.le_of_ble_eq_true rfl, Nat.le_of_ble_eq_true rfl⟩ (hc := (rfl : vwCl[6]? = some (RX6, TX6, 15))) 0 rfl [0, 1, 2, 3, 4, 5, 6, 7, 8] (by decide) rfl rfl (Nat.le_of_ble_eq_true rfl) ⟨Nat.le_of_ble_eq_true rfl, Nat.le_of_ble_eq_true rfl⟩ dX6_pick_52 MWf rfl rfl rfl rfl ?_
          refine V.istore (lv2 := [(4, .int (en (cho s.1 n (s.1 (76 + 5 * p + 1))))), (3, .int (nI i)), (2, .int 1), (0, .ref (a 0)), (1, .int (nI n))]) dX6_pick_55 (by decide) rfl ?_
          cases hch : cho s.1 n (s.1 (76 + 5 * p + 1)) with
          | none =>
            refine V.iload 0 rfl dX6_pick_57 ?_
            refine V.iconst (v := -1) dX6_pick_59 (by decide) ?_
            refine V.icmp_eq_t (tgt := 77) (by decide) dX6_pick_60 (by decide) ?_
            refine V.iconst (v := 0) dX6_pick_77 (by decide) ?_
            refine V.istore_n (lv2 := [(2, .int 0), (4, .int (-1)), (3, .int (nI i)), (0, .ref (a 0)), (1, .int (nI n))]) dX6_pick_78 rfl (by decide) rfl ?_
            refine V.iinc (v := nI (i + 1)) (lv2 := [(3, .int (nI (i + 1))), (2, .int 0), (4, .int (-1)), (0, .ref (a 0)), (1, .int (nI n))]) 2 rfl dX6_pick_79 (nI_add i 1) (by decide) rfl ?_
            refine V.goto (tgt := 25) dX6_pick_82 (by decide) ?_
            refine V.eqlv (lv2 := [(3, .int (nI (i + 1))), (2, .int 0), (0, .ref (a 0)), (1, .int (nI n))]) [0, 1, 3, 4] rfl ?_
            exact ih (i + 1) false s (by omega) hs7 (by rw [pkL_f, ← hfu]; simp [pkL, hch])
          | some f =>
            have hf8 : f < 8 := by have := cho_lt hch; omega
            refine V.iload 0 rfl dX6_pick_57 ?_
            refine V.iconst (v := -1) dX6_pick_59 (by decide) ?_
            refine V.icmp_eq_f (tgt := 77) (en_ne (show _ < 24 by omega) (by decide)) dX6_pick_60 (by decide) ?_
            refine V.aload_n 3 rfl dX6_pick_63 rfl ?_
            refine V.iload_n 4 rfl dX6_pick_64 rfl ?_
            refine V.iload 0 rfl dX6_pick_65 ?_
            refine V.callVf (ws2 := MW g a (trZ s.1 n f) hi tx ai (trP s.1 n f s.2.1) (trT s.1 n f s.2.2) pt ke st le th re nu du ha) (st2 := [.int (bi (!(tms s.1 n f)))]) [.int (nI n), .int (nI f)] [] (kX6_tries g a s.1 hi tx ai s.2.1 s.2.2 pt ke st le th re nu du ha n f (by first | omega | decide) (by first | omega | decide)) gX6_pick_X6_tries rfl (by show _ ∧ _ ∧ _ ∧ _ = some (2 : Nat); decide +kernel) ⟨Nat.le_of_ble_eq_true rfl, Nat.le_of_ble_eq_true rfl⟩ (hc := (rfl : vwCl[6]? = some (RX6, TX6, 15))) 0 rfl [0, 1, 2, 3, 4, 5, 6, 7, 8] (by decide) rfl rfl (Nat.le_of_ble_eq_true rfl) ⟨Nat.le_of_ble_eq_true rfl, Nat.le_of_ble_eq_true rfl⟩ dX6_pick_67 MWf rfl rfl rfl rfl ?_
            refine V.if_ne (tgt := 77) dX6_pick_70 (by decide) (fun c70 => ?_) (fun c70 => ?_)
            · skip
              have hm := bi_1 c70
              have hm : tms s.1 n f = false := by simpa using hm
              refine V.iconst (v := 0) dX6_pick_77 (by decide) ?_
              refine V.istore_n (lv2 := [(2, .int 0), (4, .int (nI f)), (3, .int (nI i)), (0, .ref (a 0)), (1, .int (nI n))]) dX6_pick_78 rfl (by decide) rfl ?_
              refine V.iinc (v := nI (i + 1)) (lv2 := [(3, .int (nI (i + 1))), (2, .int 0), (4, .int (nI f)), (0, .ref (a 0)), (1, .int (nI n))]) 2 rfl dX6_pick_79 (nI_add i 1) (by decide) rfl ?_
              refine V.goto (tgt := 25) dX6_pick_82 (by decide) ?_
              refine V.eqlv (lv2 := [(3, .int (nI (i + 1))), (2, .int 0), (0, .ref (a 0)), (1, .int (nI n))]) [0, 1, 3, 4] rfl ?_
              exact ih (i + 1) false (trZ s.1 n f, trP s.1 n f s.2.1, trT s.1 n f s.2.2) (by omega) (trZ_lo7.tr hs7) (by rw [← hfu]; simp [pkL, hch, hm])
            · skip
              have hm := bi_0 c70
              have hm : tms s.1 n f = true := by simpa using hm
              refine V.iconst (v := 1) dX6_pick_73 (by decide) ?_
              refine V.goto (tgt := 78) dX6_pick_74 (by decide) ?_
              refine V.istore_n (lv2 := [(2, .int 1), (4, .int (nI f)), (3, .int (nI i)), (0, .ref (a 0)), (1, .int (nI n))]) dX6_pick_78 rfl (by decide) rfl ?_
              refine V.iinc (v := nI (i + 1)) (lv2 := [(3, .int (nI (i + 1))), (2, .int 1), (4, .int (nI f)), (0, .ref (a 0)), (1, .int (nI n))]) 2 rfl dX6_pick_79 (nI_add i 1) (by decide) rfl ?_
              refine V.goto (tgt := 25) dX6_pick_82 (by decide) ?_
              refine V.eqlv (lv2 := [(3, .int (nI (i + 1))), (2, .int 1), (0, .ref (a 0)), (1, .int (nI n))]) [0, 1, 3, 4] rfl ?_
              exact ih (i + 1) true (trZ s.1 n f, trP s.1 n f s.2.1, trT s.1 n f s.2.2) (by omega) (trZ_lo7.tr hs7) (by rw [← hfu]; simp [pkL, hch, hm])
    refine V.eqlv (lv2 := [(3, .int 0), (2, .int 1), (0, .ref (a 0)), (1, .int (nI n))]) [0, 1, 2, 3] rfl ?_
    exact L25 ((z 0).toNatClampNeg + 1) 0 true (z, upd pa n (-1), tu) (by omega) lo7.rf rfl
abbrev rmX6_look : Room := { frames := 2, cells := 0, slots := 0, locals := 46 }
set_option maxHeartbeats 4000000 in
set_option maxRecDepth 100000 in
theorem kX6_look (g : GT) (a : Nat → Nat) (z hi tx ai pa tu pt ke : Nat → Int32) (st le th re nu du : Int32) (ha : Int64) (n : Nat) (o : Option Nat) (hn : n < 4) (hpo : pa n = en o) (ho : ∀ f : Nat, o = some f → f < 8) : UC g yX6_look wsX6_look rmX6_look [.ref (a 0), .int (nI n)] (MW g a z hi tx ai pa tu pt ke st le th re nu du ha) (Qf (none) (MW g a (lkZ n o z (tu n)) hi tx ai (lkP n o z (tu n) pa) tu pt ke st le th re nu du ha)) := by
  refine UC.ofV (cc := cX6_look) (maxL := 4) (ret := none) (lv0 := [(0, .ref (a 0)), (1, .int (nI n))]) (by decide) rfl (Nat.le_of_ble_eq_true rfl) rfl ?_
  generalize hQF : QFr g rmX6_look (Qf (none) (MW g a (lkZ n o z (tu n)) hi tx ai (lkP n o z (tu n) pa) tu pt ke st le th re nu du ha)) = QF
  have hq : QFok g rmX6_look (Qf (none) (MW g a (lkZ n o z (tu n)) hi tx ai (lkP n o z (tu n) pa) tu pt ke st le th re nu du ha)) QF := hQF ▸ QFr.q
  refine V.aload_n 0 rfl dX6_look_0 rfl ?_
  refine V.get (v := .ref (a 5)) (fun w H => List.mem_cons_of_mem _ (List.mem_append_right _ H)) (hc := (rfl : vwCl[6]? = some (RX6, TX6, 15))) 0 7 (by decide) (List.mem_of_getElem? (i := 1) rfl) rfl rfl dX6_look_1 ?_
  refine V.iload_n 1 rfl dX6_look_4 rfl ?_
  refine V.iald (f := pa) 5 n rfl rfl (by omega) (by decide) dX6_look_5 ?_
  rw [hpo]
  refine V.istore_n (lv2 := [(2, .int (en o)), (0, .ref (a 0)), (1, .int (nI n))]) dX6_look_6 rfl (by decide) rfl ?_
  refine V.iload_n 0 rfl dX6_look_7 rfl ?_
  refine V.iconst (v := -1) dX6_look_8 (by decide) ?_
  cases o with
  | none =>
    refine V.icmp_ne_f (tgt := 13) rfl dX6_look_9 (by decide) ?_
    exact V.vret hq XM.r (Nat.le_of_ble_eq_true rfl) (Nat.le_of_ble_eq_true rfl) ⟨rfl, rfl⟩ dX6_look_12
  | some f =>
    have hf : f < 8 := ho f rfl
    refine V.icmp_ne_t (tgt := 13) (en_ne hf (by decide)) dX6_look_9 (by decide) ?_
    refine V.aload_n 1 rfl dX6_look_13 rfl ?_
    refine V.bipush (v := 100) dX6_look_14 (by decide) ?_
    refine V.callVf (ws2 := MW g a (dz z) hi tx ai pa tu pt ke st le th re nu du ha) (st2 := [.int (dv z (100 : Int32))]) [.int 100] [] (kX6_draw g a z hi tx ai pa tu pt ke st le th re nu du ha (100 : Int32) (by decide)) gX6_look_X6_draw rfl (by show _ ∧ _ ∧ _ ∧ _ = some (1 : Nat); decide +kernel) ⟨Nat.le_of_ble_eq_true rfl, Nat.le_of_ble_eq_true rfl⟩ (hc := (rfl : vwCl[6]? = some (RX6, TX6, 15))) 0 rfl [0, 1, 2, 3, 4, 5, 6, 7, 8] (by decide) rfl rfl (Nat.le_of_ble_eq_true rfl) ⟨Nat.le_of_ble_eq_true rfl, Nat.le_of_ble_eq_true rfl⟩ dX6_look_16 MWf rfl rfl rfl rfl ?_
    refine V.eqws (ws2 := MW g a (dz z) hi tx ai pa tu pt ke st le th re nu du ha) rfl ?_
    refine V.aload_n 1 rfl dX6_look_19 rfl ?_
    refine V.get (v := .ref (a 1)) (fun w H => List.mem_cons_of_mem _ (List.mem_append_right _ H)) (hc := (rfl : vwCl[6]? = some (RX6, TX6, 15))) 0 0 (by decide) (List.mem_of_getElem? (i := 2) rfl) rfl rfl dX6_look_20 ?_
    refine V.iconst (v := 3) dX6_look_23 (by decide) ?_
    refine V.iald (f := dz z) 1 3 rfl rfl (by decide) (by decide) dX6_look_24 ?_
    refine V.icmp_ge (tgt := 32) dX6_look_25 (by decide) (fun c25 => ?_) (fun c25 => ?_)
    · skip
      have hm : lkS z (tu n) = false := by simp [lkS, c25]
      refine V.iconst (v := 0) dX6_look_32 (by decide) ?_
      refine V.istore_n (lv2 := [(3, .int 0), (2, .int (nI f)), (0, .ref (a 0)), (1, .int (nI n))]) dX6_look_33 rfl (by decide) rfl ?_
      refine V.iload_n 0 rfl dX6_look_34 rfl ?_
      refine V.if_eq_t (tgt := 105) (by decide) dX6_look_35 (by decide) ?_
      exact V.vret hq XM.r (Nat.le_of_ble_eq_true rfl) (Nat.le_of_ble_eq_true rfl) ⟨rfl, by simp [lkZ, lkP, hm]⟩ dX6_look_105
    · skip
      refine V.iconst (v := 1) dX6_look_28 (by decide) ?_
      refine V.goto (tgt := 33) dX6_look_29 (by decide) ?_
      refine V.istore_n (lv2 := [(3, .int 1), (2, .int (nI f)), (0, .ref (a 0)), (1, .int (nI n))]) dX6_look_33 rfl (by decide) rfl ?_
      refine V.iload_n 0 rfl dX6_look_34 rfl ?_
      refine V.if_eq_f (tgt := 105) (by decide) dX6_look_35 (by decide) ?_
      refine V.aload_n 2 rfl dX6_look_38 rfl ?_
      refine V.get (v := .ref (a 6)) (fun w H => List.mem_cons_of_mem _ (List.mem_append_right _ H)) (hc := (rfl : vwCl[6]? = some (RX6, TX6, 15))) 0 8 (by decide) (List.mem_of_getElem? (i := 3) rfl) rfl rfl dX6_look_39 ?_
      refine V.iload_n 3 rfl dX6_look_42 rfl ?_
      refine V.iald (f := tu) 6 n rfl rfl (by omega) (by decide) dX6_look_43 ?_
      refine V.iconst (v := 1) dX6_look_44 (by decide) ?_
      refine V.icmp_ne (tgt := 105) dX6_look_45 (by decide) (fun c45 => ?_) (fun c45 => ?_)
      · skip
        have hm : lkS z (tu n) = false := by simp [lkS, c45]
        exact V.vret hq XM.r (Nat.le_of_ble_eq_true rfl) (Nat.le_of_ble_eq_true rfl) ⟨rfl, by simp [lkZ, lkP, hm]⟩ dX6_look_105
      · skip
        have hm : lkS z (tu n) = true := by simp [lkS, c45, c25]
        refine V.aload_n 2 rfl dX6_look_48 rfl ?_
        refine V.iload_n 3 rfl dX6_look_49 rfl ?_
        refine V.iload_n 1 rfl dX6_look_50 rfl ?_
        refine V.aload_n 2 rfl dX6_look_51 rfl ?_
        refine V.get (v := .ref (a 1)) (fun w H => List.mem_cons_of_mem _ (List.mem_append_right _ H)) (hc := (rfl : vwCl[6]? = some (RX6, TX6, 15))) 0 0 (by decide) (List.mem_of_getElem? (i := 2) rfl) rfl rfl dX6_look_52 ?_
        refine V.iconst (v := 1) dX6_look_55 (by decide) ?_
        refine V.iald (f := dz z) 1 1 rfl rfl (by decide) (by decide) dX6_look_56 ?_
        refine V.ineg dX6_look_57 ?_
        refine V.callVf (ws2 := MW g a (tM (dz z) n f (-((dz z) 1))) hi tx ai pa tu pt ke st le th re nu du ha) (st2 := []) [.int (nI n), .int (nI f), .int (-((dz z) 1))] [] (kX6_trustMore g a (dz z) hi tx ai pa tu pt ke st le th re nu du ha n f (-((dz z) 1)) (by first | omega | decide) (by first | omega | decide)) gX6_look_X6_trustMore rfl (by show _ ∧ _ ∧ _ ∧ _ = some (3 : Nat); decide +kernel) ⟨Nat.le_of_ble_eq_true rfl, Nat.le_of_ble_eq_true rfl⟩ (hc := (rfl : vwCl[6]? = some (RX6, TX6, 15))) 0 rfl [0, 1, 2, 3, 4, 5, 6, 7, 8] (by decide) rfl rfl (Nat.le_of_ble_eq_true rfl) ⟨Nat.le_of_ble_eq_true rfl, Nat.le_of_ble_eq_true rfl⟩ dX6_look_58 MWf rfl rfl rfl rfl ?_
        refine V.eqws (ws2 := MW g a (lka z n f) hi tx ai pa tu pt ke st le th re nu du ha) rfl ?_
        refine V.aload_n 2 rfl dX6_look_61 rfl ?_
        refine V.get (v := .ref (a 1)) (fun w H => List.mem_cons_of_mem _ (List.mem_append_right _ H)) (hc := (rfl : vwCl[6]? = some (RX6, TX6, 15))) 0 0 (by decide) (List.mem_of_getElem? (i := 2) rfl) rfl rfl dX6_look_62 ?_
        refine V.bipush (v := 12) dX6_look_65 (by decide) ?_
        refine V.bipush (v := 8) dX6_look_67 (by decide) ?_
        refine V.iload_n 1 rfl dX6_look_69 rfl ?_
        refine V.imulN (v := nI (8 * f)) dX6_look_70 (pk_mul 8 f) ?_
        refine V.iaddN (v := nI (12 + 8 * f)) dX6_look_71 (nI_add 12 (8 * f)) ?_
        refine V.bipush (v := 7) dX6_look_72 (by decide) ?_
        refine V.iaddN (v := nI (12 + 8 * f + 7)) dX6_look_74 (nI_add (12 + 8 * f) 7) ?_
        refine V.dup2 dX6_look_75 rfl rfl ?_
        refine V.iald (f := lka z n f) 1 (12 + 8 * f + 7) rfl rfl (by omega) (by decide) dX6_look_76 ?_
        refine V.iconst (v := 1) dX6_look_77 (by decide) ?_
        refine V.iadd dX6_look_78 ?_
        refine V.iast (f := lka z n f) (ws2 := MW g a (upd (lka z n f) (12 + 8 * f + 7) (((lka z n f) (12 + 8 * f + 7)) + 1)) hi tx ai pa tu pt ke st le th re nu du ha) 1 (12 + 8 * f + 7) rfl rfl (by omega) (by decide) rfl dX6_look_79 ?_
        refine V.eqws (ws2 := MW g a (lkb z n f) hi tx ai pa tu pt ke st le th re nu du ha) rfl ?_
        refine V.aload_n 2 rfl dX6_look_80 rfl ?_
        refine V.get (v := .ref (a 1)) (fun w H => List.mem_cons_of_mem _ (List.mem_append_right _ H)) (hc := (rfl : vwCl[6]? = some (RX6, TX6, 15))) 0 0 (by decide) (List.mem_of_getElem? (i := 2) rfl) rfl rfl dX6_look_81 ?_
        refine V.sipush (v := 196) dX6_look_84 (by decide) ?_
        refine V.iconst (v := 5) dX6_look_87 (by decide) ?_
        refine V.iload_n 3 rfl dX6_look_88 rfl ?_
        refine V.imulN (v := nI (5 * n)) dX6_look_89 (pk_mul 5 n) ?_
        refine V.iaddN (v := nI (196 + 5 * n)) dX6_look_90 (nI_add 196 (5 * n)) ?_
        refine V.iconst (v := 4) dX6_look_91 (by decide) ?_
        refine V.iaddN (v := nI (196 + 5 * n + 4)) dX6_look_92 (nI_add (196 + 5 * n) 4) ?_
        refine V.dup2 dX6_look_93 rfl rfl ?_
        refine V.iald (f := lkb z n f) 1 (196 + 5 * n + 4) rfl rfl (by omega) (by decide) dX6_look_94 ?_
        refine V.iconst (v := 1) dX6_look_95 (by decide) ?_
        refine V.iadd dX6_look_96 ?_
        refine V.iast (f := lkb z n f) (ws2 := MW g a (upd (lkb z n f) (196 + 5 * n + 4) (((lkb z n f) (196 + 5 * n + 4)) + 1)) hi tx ai pa tu pt ke st le th re nu du ha) 1 (196 + 5 * n + 4) rfl rfl (by omega) (by decide) rfl dX6_look_97 ?_
        refine V.eqws (ws2 := MW g a (lkc z n f) hi tx ai pa tu pt ke st le th re nu du ha) rfl ?_
        refine V.aload_n 2 rfl dX6_look_98 rfl ?_
        refine V.get (v := .ref (a 5)) (fun w H => List.mem_cons_of_mem _ (List.mem_append_right _ H)) (hc := (rfl : vwCl[6]? = some (RX6, TX6, 15))) 0 7 (by decide) (List.mem_of_getElem? (i := 1) rfl) rfl rfl dX6_look_99 ?_
        refine V.iload_n 3 rfl dX6_look_102 rfl ?_
        refine V.iconst (v := -1) dX6_look_103 (by decide) ?_
        refine V.iast (f := pa) (ws2 := MW g a (lkc z n f) hi tx ai (upd pa n (-1)) tu pt ke st le th re nu du ha) 5 n rfl rfl (by omega) (by decide) rfl dX6_look_104 ?_
        exact V.vret hq XM.r (Nat.le_of_ble_eq_true rfl) (Nat.le_of_ble_eq_true rfl) ⟨rfl, by simp [lkZ, lkP, hm]⟩ dX6_look_105
abbrev rmX6_lay : Room := { frames := 2, cells := 0, slots := 0, locals := 43 }
set_option maxHeartbeats 4000000 in
set_option maxRecDepth 100000 in
theorem kX6_lay (g : GT) (a : Nat → Nat) (z hi tx ai pa tu pt ke : Nat → Int32) (st le th re nu du : Int32) (ha : Int64) (n : Nat) (o : Option Nat) (p : Nat) (hn : n < 4) (hpo : pa n = en o) (ho : ∀ f : Nat, o = some f → f < 8) (hap : ∀ f : Nat, o = some f → ai n = nI p ∧ p < 24) : UC g yX6_lay wsX6_lay rmX6_lay [.ref (a 0), .int (nI n)] (MW g a z hi tx ai pa tu pt ke st le th re nu du ha) (Qf (some (.int (lyR o))) (MW g a (lyZ n p o z (tu n)) hi tx ai pa tu pt ke st le th re nu du ha)) := by
  refine UC.ofV (cc := cX6_lay) (maxL := 3) (ret := some .int) (lv0 := [(0, .ref (a 0)), (1, .int (nI n))]) (by decide) rfl (Nat.le_of_ble_eq_true rfl) rfl ?_
  generalize hQF : QFr g rmX6_lay (Qf (some (.int (lyR o))) (MW g a (lyZ n p o z (tu n)) hi tx ai pa tu pt ke st le th re nu du ha)) = QF
  have hq : QFok g rmX6_lay (Qf (some (.int (lyR o))) (MW g a (lyZ n p o z (tu n)) hi tx ai pa tu pt ke st le th re nu du ha)) QF := hQF ▸ QFr.q
  refine V.aload_n 0 rfl dX6_lay_0 rfl ?_
  refine V.get (v := .ref (a 5)) (fun w H => List.mem_cons_of_mem _ (List.mem_append_right _ H)) (hc := (rfl : vwCl[6]? = some (RX6, TX6, 15))) 0 7 (by decide) (List.mem_of_getElem? (i := 1) rfl) rfl rfl dX6_lay_1 ?_
  refine V.iload_n 1 rfl dX6_lay_4 rfl ?_
  refine V.iald (f := pa) 5 n rfl rfl (by omega) (by decide) dX6_lay_5 ?_
  rw [hpo]
  refine V.iconst (v := -1) dX6_lay_6 (by decide) ?_
  cases o with
  | none =>
    refine V.icmp_ne_f (tgt := 12) rfl dX6_lay_7 (by decide) ?_
    refine V.iconst (v := 0) dX6_lay_10 (by decide) ?_
    exact V.iret hq XM.r (Nat.le_of_ble_eq_true rfl) (Nat.le_of_ble_eq_true rfl) ⟨rfl, rfl⟩ dX6_lay_11
  | some f =>
    obtain ⟨hai, hp⟩ := hap f rfl
    have hf : f < 8 := ho f rfl
    refine V.icmp_ne_t (tgt := 12) (en_ne hf (by decide)) dX6_lay_7 (by decide) ?_
    refine V.bipush (v := 76) dX6_lay_12 (by decide) ?_
    refine V.iconst (v := 5) dX6_lay_14 (by decide) ?_
    refine V.aload_n 0 rfl dX6_lay_15 rfl ?_
    refine V.get (v := .ref (a 4)) (fun w H => List.mem_cons_of_mem _ (List.mem_append_right _ H)) (hc := (rfl : vwCl[6]? = some (RX6, TX6, 15))) 0 6 (by decide) (List.mem_of_getElem? (i := 2) rfl) rfl rfl dX6_lay_16 ?_
    refine V.iload_n 1 rfl dX6_lay_19 rfl ?_
    refine V.iald (f := ai) 4 n rfl rfl (by omega) (by decide) dX6_lay_20 ?_
    rw [hai]
    refine V.imulN (v := nI (5 * p)) dX6_lay_21 (pk_mul 5 p) ?_
    refine V.iaddN (v := nI (76 + 5 * p)) dX6_lay_22 (nI_add 76 (5 * p)) ?_
    refine V.istore_n (lv2 := [(2, .int (nI (76 + 5 * p))), (0, .ref (a 0)), (1, .int (nI n))]) dX6_lay_23 rfl (by decide) rfl ?_
    refine V.aload_n 1 rfl dX6_lay_24 rfl ?_
    refine V.aload_n 1 rfl dX6_lay_25 rfl ?_
    refine V.get (v := .ref (a 1)) (fun w H => List.mem_cons_of_mem _ (List.mem_append_right _ H)) (hc := (rfl : vwCl[6]? = some (RX6, TX6, 15))) 0 0 (by decide) (List.mem_of_getElem? (i := 3) rfl) rfl rfl dX6_lay_26 ?_
    refine V.iload_n 0 rfl dX6_lay_29 rfl ?_
    refine V.iconst (v := 0) dX6_lay_30 (by decide) ?_
    refine V.iaddN (v := nI (76 + 5 * p + 0)) dX6_lay_31 (nI_add (76 + 5 * p) 0) ?_
    refine V.iald (f := z) 1 (76 + 5 * p + 0) rfl rfl (by omega) (by decide) dX6_lay_32 ?_
    refine V.iconst (v := 1) dX6_lay_33 (by decide) ?_
    refine V.callVf (ws2 := MW g a (gz z (z (76 + 5 * p + 0)) (1 : Int32)) hi tx ai pa tu pt ke st le th re nu du ha) (st2 := []) [.int (z (76 + 5 * p + 0)), .int 1] [] (kX6_go g a z hi tx ai pa tu pt ke st le th re nu du ha (z (76 + 5 * p + 0)) (1 : Int32) ) gX6_lay_X6_go rfl (by show _ ∧ _ ∧ _ ∧ _ = some (2 : Nat); decide +kernel) ⟨Nat.le_of_ble_eq_true rfl, Nat.le_of_ble_eq_true rfl⟩ (hc := (rfl : vwCl[6]? = some (RX6, TX6, 15))) 0 rfl [0, 1, 2, 3, 4, 5, 6, 7, 8] (by decide) rfl rfl (Nat.le_of_ble_eq_true rfl) ⟨Nat.le_of_ble_eq_true rfl, Nat.le_of_ble_eq_true rfl⟩ dX6_lay_34 MWf rfl rfl rfl rfl ?_
    refine V.eqws (ws2 := MW g a (lya z p) hi tx ai pa tu pt ke st le th re nu du ha) rfl ?_
    refine V.aload_n 1 rfl dX6_lay_37 rfl ?_
    refine V.get (v := .ref (a 1)) (fun w H => List.mem_cons_of_mem _ (List.mem_append_right _ H)) (hc := (rfl : vwCl[6]? = some (RX6, TX6, 15))) 0 0 (by decide) (List.mem_of_getElem? (i := 3) rfl) rfl rfl dX6_lay_38 ?_
    refine V.iload_n 0 rfl dX6_lay_41 rfl ?_
    refine V.iconst (v := 2) dX6_lay_42 (by decide) ?_
    refine V.iaddN (v := nI (76 + 5 * p + 2)) dX6_lay_43 (nI_add (76 + 5 * p) 2) ?_
    refine V.aload_n 1 rfl dX6_lay_44 rfl ?_
    refine V.get (v := .ref (a 6)) (fun w H => List.mem_cons_of_mem _ (List.mem_append_right _ H)) (hc := (rfl : vwCl[6]? = some (RX6, TX6, 15))) 0 8 (by decide) (List.mem_of_getElem? (i := 4) rfl) rfl rfl dX6_lay_45 ?_
    refine V.iload_n 2 rfl dX6_lay_48 rfl ?_
    refine V.iald (f := tu) 6 n rfl rfl (by omega) (by decide) dX6_lay_49 ?_
    refine V.iconst (v := 1) dX6_lay_50 (by decide) ?_
    refine V.icmp_ne (tgt := 58) dX6_lay_51 (by decide) (fun c51 => ?_) (fun c51 => ?_)
    · skip
      refine V.iconst (v := 1) dX6_lay_58 (by decide) ?_
      refine V.iast (f := lya z p) (ws2 := MW g a (upd (lya z p) (76 + 5 * p + 2) 1) hi tx ai pa tu pt ke st le th re nu du ha) 1 (76 + 5 * p + 2) rfl rfl (by omega) (by decide) rfl dX6_lay_59 ?_
      refine V.eqws (ws2 := MW g a (lyb z p (tu n)) hi tx ai pa tu pt ke st le th re nu du ha) (by rw [lyb, if_neg c51]) ?_
      refine V.aload_n 1 rfl dX6_lay_60 rfl ?_
      refine V.get (v := .ref (a 1)) (fun w H => List.mem_cons_of_mem _ (List.mem_append_right _ H)) (hc := (rfl : vwCl[6]? = some (RX6, TX6, 15))) 0 0 (by decide) (List.mem_of_getElem? (i := 3) rfl) rfl rfl dX6_lay_61 ?_
      refine V.iload_n 0 rfl dX6_lay_64 rfl ?_
      refine V.iconst (v := 3) dX6_lay_65 (by decide) ?_
      refine V.iaddN (v := nI (76 + 5 * p + 3)) dX6_lay_66 (nI_add (76 + 5 * p) 3) ?_
      refine V.iload_n 2 rfl dX6_lay_67 rfl ?_
      refine V.iast (f := lyb z p (tu n)) (ws2 := MW g a (upd (lyb z p (tu n)) (76 + 5 * p + 3) (nI n)) hi tx ai pa tu pt ke st le th re nu du ha) 1 (76 + 5 * p + 3) rfl rfl (by omega) (by decide) rfl dX6_lay_68 ?_
      refine V.eqws (ws2 := MW g a (lyc z p (tu n) n) hi tx ai pa tu pt ke st le th re nu du ha) rfl ?_
      refine V.aload_n 1 rfl dX6_lay_69 rfl ?_
      refine V.get (v := .ref (a 1)) (fun w H => List.mem_cons_of_mem _ (List.mem_append_right _ H)) (hc := (rfl : vwCl[6]? = some (RX6, TX6, 15))) 0 0 (by decide) (List.mem_of_getElem? (i := 3) rfl) rfl rfl dX6_lay_70 ?_
      refine V.iload_n 0 rfl dX6_lay_73 rfl ?_
      refine V.iconst (v := 4) dX6_lay_74 (by decide) ?_
      refine V.iaddN (v := nI (76 + 5 * p + 4)) dX6_lay_75 (nI_add (76 + 5 * p) 4) ?_
      refine V.aload_n 1 rfl dX6_lay_76 rfl ?_
      refine V.get (v := .ref (a 5)) (fun w H => List.mem_cons_of_mem _ (List.mem_append_right _ H)) (hc := (rfl : vwCl[6]? = some (RX6, TX6, 15))) 0 7 (by decide) (List.mem_of_getElem? (i := 1) rfl) rfl rfl dX6_lay_77 ?_
      refine V.iload_n 2 rfl dX6_lay_80 rfl ?_
      refine V.iald (f := pa) 5 n rfl rfl (by omega) (by decide) dX6_lay_81 ?_
      rw [show pa n = nI f from hpo]
      refine V.iast (f := lyc z p (tu n) n) (ws2 := MW g a (upd (lyc z p (tu n) n) (76 + 5 * p + 4) (nI f)) hi tx ai pa tu pt ke st le th re nu du ha) 1 (76 + 5 * p + 4) rfl rfl (by omega) (by decide) rfl dX6_lay_82 ?_
      refine V.eqws (ws2 := MW g a (lyd z p (tu n) n f) hi tx ai pa tu pt ke st le th re nu du ha) rfl ?_
      refine V.aload_n 1 rfl dX6_lay_83 rfl ?_
      refine V.get (v := .ref (a 1)) (fun w H => List.mem_cons_of_mem _ (List.mem_append_right _ H)) (hc := (rfl : vwCl[6]? = some (RX6, TX6, 15))) 0 0 (by decide) (List.mem_of_getElem? (i := 3) rfl) rfl rfl dX6_lay_84 ?_
      refine V.sipush (v := 196) dX6_lay_87 (by decide) ?_
      refine V.iconst (v := 5) dX6_lay_90 (by decide) ?_
      refine V.iload_n 2 rfl dX6_lay_91 rfl ?_
      refine V.imulN (v := nI (5 * n)) dX6_lay_92 (pk_mul 5 n) ?_
      refine V.iaddN (v := nI (196 + 5 * n)) dX6_lay_93 (nI_add 196 (5 * n)) ?_
      refine V.iconst (v := 3) dX6_lay_94 (by decide) ?_
      refine V.iaddN (v := nI (196 + 5 * n + 3)) dX6_lay_95 (nI_add (196 + 5 * n) 3) ?_
      refine V.dup2 dX6_lay_96 rfl rfl ?_
      refine V.iald (f := lyd z p (tu n) n f) 1 (196 + 5 * n + 3) rfl rfl (by omega) (by decide) dX6_lay_97 ?_
      refine V.iconst (v := 1) dX6_lay_98 (by decide) ?_
      refine V.iadd dX6_lay_99 ?_
      refine V.iast (f := lyd z p (tu n) n f) (ws2 := MW g a (upd (lyd z p (tu n) n f) (196 + 5 * n + 3) (((lyd z p (tu n) n f) (196 + 5 * n + 3)) + 1)) hi tx ai pa tu pt ke st le th re nu du ha) 1 (196 + 5 * n + 3) rfl rfl (by omega) (by decide) rfl dX6_lay_100 ?_
      refine V.eqws (ws2 := MW g a (lye z p (tu n) n f) hi tx ai pa tu pt ke st le th re nu du ha) rfl ?_
      refine V.iconst (v := 1) dX6_lay_101 (by decide) ?_
      exact V.iret hq XM.r (Nat.le_of_ble_eq_true rfl) (Nat.le_of_ble_eq_true rfl) ⟨rfl, rfl⟩ dX6_lay_102
    · skip
      refine V.iconst (v := 2) dX6_lay_54 (by decide) ?_
      refine V.goto (tgt := 59) dX6_lay_55 (by decide) ?_
      refine V.iast (f := lya z p) (ws2 := MW g a (upd (lya z p) (76 + 5 * p + 2) 2) hi tx ai pa tu pt ke st le th re nu du ha) 1 (76 + 5 * p + 2) rfl rfl (by omega) (by decide) rfl dX6_lay_59 ?_
      refine V.eqws (ws2 := MW g a (lyb z p (tu n)) hi tx ai pa tu pt ke st le th re nu du ha) (by rw [lyb, if_pos c51]) ?_
      refine V.aload_n 1 rfl dX6_lay_60 rfl ?_
      refine V.get (v := .ref (a 1)) (fun w H => List.mem_cons_of_mem _ (List.mem_append_right _ H)) (hc := (rfl : vwCl[6]? = some (RX6, TX6, 15))) 0 0 (by decide) (List.mem_of_getElem? (i := 3) rfl) rfl rfl dX6_lay_61 ?_
      refine V.iload_n 0 rfl dX6_lay_64 rfl ?_
      refine V.iconst (v := 3) dX6_lay_65 (by decide) ?_
      refine V.iaddN (v := nI (76 + 5 * p + 3)) dX6_lay_66 (nI_add (76 + 5 * p) 3) ?_
      refine V.iload_n 2 rfl dX6_lay_67 rfl ?_
      refine V.iast (f := lyb z p (tu n)) (ws2 := MW g a (upd (lyb z p (tu n)) (76 + 5 * p + 3) (nI n)) hi tx ai pa tu pt ke st le th re nu du ha) 1 (76 + 5 * p + 3) rfl rfl (by omega) (by decide) rfl dX6_lay_68 ?_
      refine V.eqws (ws2 := MW g a (lyc z p (tu n) n) hi tx ai pa tu pt ke st le th re nu du ha) rfl ?_
      refine V.aload_n 1 rfl dX6_lay_69 rfl ?_
      refine V.get (v := .ref (a 1)) (fun w H => List.mem_cons_of_mem _ (List.mem_append_right _ H)) (hc := (rfl : vwCl[6]? = some (RX6, TX6, 15))) 0 0 (by decide) (List.mem_of_getElem? (i := 3) rfl) rfl rfl dX6_lay_70 ?_
      refine V.iload_n 0 rfl dX6_lay_73 rfl ?_
      refine V.iconst (v := 4) dX6_lay_74 (by decide) ?_
      refine V.iaddN (v := nI (76 + 5 * p + 4)) dX6_lay_75 (nI_add (76 + 5 * p) 4) ?_
      refine V.aload_n 1 rfl dX6_lay_76 rfl ?_
      refine V.get (v := .ref (a 5)) (fun w H => List.mem_cons_of_mem _ (List.mem_append_right _ H)) (hc := (rfl : vwCl[6]? = some (RX6, TX6, 15))) 0 7 (by decide) (List.mem_of_getElem? (i := 1) rfl) rfl rfl dX6_lay_77 ?_
      refine V.iload_n 2 rfl dX6_lay_80 rfl ?_
      refine V.iald (f := pa) 5 n rfl rfl (by omega) (by decide) dX6_lay_81 ?_
      rw [show pa n = nI f from hpo]
      refine V.iast (f := lyc z p (tu n) n) (ws2 := MW g a (upd (lyc z p (tu n) n) (76 + 5 * p + 4) (nI f)) hi tx ai pa tu pt ke st le th re nu du ha) 1 (76 + 5 * p + 4) rfl rfl (by omega) (by decide) rfl dX6_lay_82 ?_
      refine V.eqws (ws2 := MW g a (lyd z p (tu n) n f) hi tx ai pa tu pt ke st le th re nu du ha) rfl ?_
      refine V.aload_n 1 rfl dX6_lay_83 rfl ?_
      refine V.get (v := .ref (a 1)) (fun w H => List.mem_cons_of_mem _ (List.mem_append_right _ H)) (hc := (rfl : vwCl[6]? = some (RX6, TX6, 15))) 0 0 (by decide) (List.mem_of_getElem? (i := 3) rfl) rfl rfl dX6_lay_84 ?_
      refine V.sipush (v := 196) dX6_lay_87 (by decide) ?_
      refine V.iconst (v := 5) dX6_lay_90 (by decide) ?_
      refine V.iload_n 2 rfl dX6_lay_91 rfl ?_
      refine V.imulN (v := nI (5 * n)) dX6_lay_92 (pk_mul 5 n) ?_
      refine V.iaddN (v := nI (196 + 5 * n)) dX6_lay_93 (nI_add 196 (5 * n)) ?_
      refine V.iconst (v := 3) dX6_lay_94 (by decide) ?_
      refine V.iaddN (v := nI (196 + 5 * n + 3)) dX6_lay_95 (nI_add (196 + 5 * n) 3) ?_
      refine V.dup2 dX6_lay_96 rfl rfl ?_
      refine V.iald (f := lyd z p (tu n) n f) 1 (196 + 5 * n + 3) rfl rfl (by omega) (by decide) dX6_lay_97 ?_
      refine V.iconst (v := 1) dX6_lay_98 (by decide) ?_
      refine V.iadd dX6_lay_99 ?_
      refine V.iast (f := lyd z p (tu n) n f) (ws2 := MW g a (upd (lyd z p (tu n) n f) (196 + 5 * n + 3) (((lyd z p (tu n) n f) (196 + 5 * n + 3)) + 1)) hi tx ai pa tu pt ke st le th re nu du ha) 1 (196 + 5 * n + 3) rfl rfl (by omega) (by decide) rfl dX6_lay_100 ?_
      refine V.eqws (ws2 := MW g a (lye z p (tu n) n f) hi tx ai pa tu pt ke st le th re nu du ha) rfl ?_
      refine V.iconst (v := 1) dX6_lay_101 (by decide) ?_
      exact V.iret hq XM.r (Nat.le_of_ble_eq_true rfl) (Nat.le_of_ble_eq_true rfl) ⟨rfl, rfl⟩ dX6_lay_102
abbrev rmX6_gossip : Room := { frames := 2, cells := 0, slots := 0, locals := 46 }
set_option maxHeartbeats 4000000 in
set_option maxRecDepth 100000 in
theorem kX6_gossip (g : GT) (a : Nat → Nat) (z hi tx ai pa tu pt ke : Nat → Int32) (st le th re nu du : Int32) (ha : Int64) (n : Nat) (hn : n < 3) (hK : KZ z) : UC g yX6_gossip wsX6_gossip rmX6_gossip [.ref (a 0), .int (nI n)] (MW g a z hi tx ai pa tu pt ke st le th re nu du ha) (Qf (none) (MW g a (gsA n z) hi tx ai pa tu pt ke st le th re nu du ha)) := by
  refine UC.ofV (cc := cX6_gossip) (maxL := 4) (ret := none) (lv0 := [(0, .ref (a 0)), (1, .int (nI n))]) (by decide) rfl (Nat.le_of_ble_eq_true rfl) rfl ?_
  generalize hQF : QFr g rmX6_gossip (Qf (none) (MW g a (gsA n z) hi tx ai pa tu pt ke st le th re nu du ha)) = QF
  have hq : QFok g rmX6_gossip (Qf (none) (MW g a (gsA n z) hi tx ai pa tu pt ke st le th re nu du ha)) QF := hQF ▸ QFr.q
  obtain ⟨hF, hF8, hP, hP24, hR, hR5⟩ := id hK
  refine V.iconst (v := 0) dX6_gossip_0 (by decide) ?_
  refine V.istore_n (lv2 := [(2, .int 0), (0, .ref (a 0)), (1, .int (nI n))]) dX6_gossip_1 rfl (by decide) rfl ?_
  have L2 : ∀ (kL : Nat) (i : Nat) (y : Nat → Int32), i + kL = nf z → (lo7 y z) → (fu (gsF n) i kL y = gsA n z) → V g rmX6_gossip RX6 cX6_gossip wsX6_gossip 4 QF (XM none "gossip") 0 0 (MW g a y hi tx ai pa tu pt ke st le th re nu du ha) 2 [(2, .int (nI i)), (0, .ref (a 0)), (1, .int (nI n))] [] := by
    intro kL
    induction kL with
    | zero =>
      intro i y hrel hs7 hfu
      rw [fu_0] at hfu
      have hy5 : y 5 = nI (nf z) := (hs7 5 (by decide)).trans hF
      refine V.iload_n 0 rfl dX6_gossip_2 rfl ?_
      refine V.aload_n 1 rfl dX6_gossip_3 rfl ?_
      refine V.get (v := .ref (a 1)) (fun w H => List.mem_cons_of_mem _ (List.mem_append_right _ H)) (hc := (rfl : vwCl[6]? = some (RX6, TX6, 15))) 0 0 (by decide) (List.mem_of_getElem? (i := 1) rfl) rfl rfl dX6_gossip_4 ?_
      refine V.iconst (v := 5) dX6_gossip_7 (by decide) ?_
      refine V.iald (f := y) 1 5 rfl rfl (by decide) (by decide) dX6_gossip_8 ?_
      refine V.icmp_ge_t (tgt := 62) (by rw [hy5, show i = nf z from by omega]; exact nI_le (Nat.le_refl _) (by omega)) dX6_gossip_9 (by decide) ?_
      exact V.vret hq XM.r (Nat.le_of_ble_eq_true rfl) (Nat.le_of_ble_eq_true rfl) ⟨rfl, by rw [← hfu] <;> rfl⟩ dX6_gossip_62
    | succ kL ih =>
      intro i y hrel hs7 hfu
      rw [fu_s] at hfu
      have hy5 : y 5 = nI (nf z) := (hs7 5 (by decide)).trans hF
      refine V.iload_n 0 rfl dX6_gossip_2 rfl ?_
      refine V.aload_n 1 rfl dX6_gossip_3 rfl ?_
      refine V.get (v := .ref (a 1)) (fun w H => List.mem_cons_of_mem _ (List.mem_append_right _ H)) (hc := (rfl : vwCl[6]? = some (RX6, TX6, 15))) 0 0 (by decide) (List.mem_of_getElem? (i := 1) rfl) rfl rfl dX6_gossip_4 ?_
      refine V.iconst (v := 5) dX6_gossip_7 (by decide) ?_
      refine V.iald (f := y) 1 5 rfl rfl (by decide) (by decide) dX6_gossip_8 ?_
      refine V.icmp_ge_f (tgt := 62) (by rw [hy5]; exact nI_ge (by omega) (by omega)) dX6_gossip_9 (by decide) ?_
      refine V.aload_n 1 rfl dX6_gossip_12 rfl ?_
      refine V.iload_n 2 rfl dX6_gossip_13 rfl ?_
      refine V.iconst (v := 1) dX6_gossip_14 (by decide) ?_
      refine V.iaddN (v := nI (n + 1)) dX6_gossip_15 (nI_add n 1) ?_
      refine V.iload_n 0 rfl dX6_gossip_16 rfl ?_
      refine V.callVf (ws2 := MW g a y hi tx ai pa tu pt ke st le th re nu du ha) (st2 := [.int (y (216 + 8 * (n + 1) + i))]) [.int (nI (n + 1)), .int (nI i)] [] (kX6_trustOf g a y hi tx ai pa tu pt ke st le th re nu du ha (n + 1) i (by first | omega | decide) (by first | omega | decide)) gX6_gossip_X6_trustOf rfl (by show _ ∧ _ ∧ _ ∧ _ = some (2 : Nat); decide +kernel) ⟨Nat.le_of_ble_eq_true rfl, Nat.le_of_ble_eq_true rfl⟩ (hc := (rfl : vwCl[6]? = some (RX6, TX6, 15))) 0 rfl [0, 1, 2, 3, 4, 5, 6, 7, 8] (by decide) rfl rfl (Nat.le_of_ble_eq_true rfl) ⟨Nat.le_of_ble_eq_true rfl, Nat.le_of_ble_eq_true rfl⟩ dX6_gossip_17 MWf rfl rfl rfl rfl ?_
      refine V.aload_n 1 rfl dX6_gossip_20 rfl ?_
      refine V.iload_n 2 rfl dX6_gossip_21 rfl ?_
      refine V.iload_n 0 rfl dX6_gossip_22 rfl ?_
      refine V.callVf (ws2 := MW g a y hi tx ai pa tu pt ke st le th re nu du ha) (st2 := [.int (y (216 + 8 * n + i)), .int (y (216 + 8 * (n + 1) + i))]) [.int (nI n), .int (nI i)] [.int (y (216 + 8 * (n + 1) + i))] (kX6_trustOf g a y hi tx ai pa tu pt ke st le th re nu du ha n i (by first | omega | decide) (by first | omega | decide)) gX6_gossip_X6_trustOf rfl (by show _ ∧ _ ∧ _ ∧ _ = some (2 : Nat); decide +kernel) ⟨Nat.le_of_ble_eq_true rfl, Nat.le_of_ble_eq_true rfl⟩ (hc := (rfl : vwCl[6]? = some (RX6, TX6, 15))) 0 rfl [0, 1, 2, 3, 4, 5, 6, 7, 8] (by decide) rfl rfl (Nat.le_of_ble_eq_true rfl) ⟨Nat.le_of_ble_eq_true rfl, Nat.le_of_ble_eq_true rfl⟩ dX6_gossip_23 MWf rfl rfl rfl rfl ?_
      refine V.isub dX6_gossip_26 ?_
      refine V.aload_n 1 rfl dX6_gossip_27 rfl ?_
      refine V.get (v := .ref (a 1)) (fun w H => List.mem_cons_of_mem _ (List.mem_append_right _ H)) (hc := (rfl : vwCl[6]? = some (RX6, TX6, 15))) 0 0 (by decide) (List.mem_of_getElem? (i := 1) rfl) rfl rfl dX6_gossip_28 ?_
      refine V.iconst (v := 4) dX6_gossip_31 (by decide) ?_
      refine V.iald (f := y) 1 4 rfl rfl (by decide) (by decide) dX6_gossip_32 ?_
      refine V.imul dX6_gossip_33 ?_
      refine V.sipush (v := 200) dX6_gossip_34 (by decide) ?_
      refine V.idiv dX6_gossip_37 (by decide) ?_
      generalize hdd : (((y (216 + 8 * (n + 1) + i)) - (y (216 + 8 * n + i))) * (y 4)) / 200 = dd
      refine V.istore_n (lv2 := [(3, .int dd), (2, .int (nI i)), (0, .ref (a 0)), (1, .int (nI n))]) dX6_gossip_38 rfl (by decide) rfl ?_
      refine V.aload_n 2 rfl dX6_gossip_39 rfl ?_
      refine V.iload_n 3 rfl dX6_gossip_40 rfl ?_
      refine V.iload_n 1 rfl dX6_gossip_41 rfl ?_
      refine V.iload_n 0 rfl dX6_gossip_42 rfl ?_
      refine V.callVf (ws2 := MW g a (tM y n i dd) hi tx ai pa tu pt ke st le th re nu du ha) (st2 := []) [.int (nI n), .int (nI i), .int dd] [] (kX6_trustMore g a y hi tx ai pa tu pt ke st le th re nu du ha n i dd (by first | omega | decide) (by first | omega | decide)) gX6_gossip_X6_trustMore rfl (by show _ ∧ _ ∧ _ ∧ _ = some (3 : Nat); decide +kernel) ⟨Nat.le_of_ble_eq_true rfl, Nat.le_of_ble_eq_true rfl⟩ (hc := (rfl : vwCl[6]? = some (RX6, TX6, 15))) 0 rfl [0, 1, 2, 3, 4, 5, 6, 7, 8] (by decide) rfl rfl (Nat.le_of_ble_eq_true rfl) ⟨Nat.le_of_ble_eq_true rfl, Nat.le_of_ble_eq_true rfl⟩ dX6_gossip_43 MWf rfl rfl rfl rfl ?_
      refine V.aload_n 2 rfl dX6_gossip_46 rfl ?_
      refine V.iload_n 3 rfl dX6_gossip_47 rfl ?_
      refine V.iconst (v := 1) dX6_gossip_48 (by decide) ?_
      refine V.iaddN (v := nI (n + 1)) dX6_gossip_49 (nI_add n 1) ?_
      refine V.iload_n 1 rfl dX6_gossip_50 rfl ?_
      refine V.iload_n 0 rfl dX6_gossip_51 rfl ?_
      refine V.ineg dX6_gossip_52 ?_
      refine V.callVf (ws2 := MW g a (tM (tM y n i dd) (n + 1) i (-dd)) hi tx ai pa tu pt ke st le th re nu du ha) (st2 := []) [.int (nI (n + 1)), .int (nI i), .int (-dd)] [] (kX6_trustMore g a (tM y n i dd) hi tx ai pa tu pt ke st le th re nu du ha (n + 1) i (-dd) (by first | omega | decide) (by first | omega | decide)) gX6_gossip_X6_trustMore rfl (by show _ ∧ _ ∧ _ ∧ _ = some (3 : Nat); decide +kernel) ⟨Nat.le_of_ble_eq_true rfl, Nat.le_of_ble_eq_true rfl⟩ (hc := (rfl : vwCl[6]? = some (RX6, TX6, 15))) 0 rfl [0, 1, 2, 3, 4, 5, 6, 7, 8] (by decide) rfl rfl (Nat.le_of_ble_eq_true rfl) ⟨Nat.le_of_ble_eq_true rfl, Nat.le_of_ble_eq_true rfl⟩ dX6_gossip_53 MWf rfl rfl rfl rfl ?_
      refine V.eqws (ws2 := MW g a (gsF n i y) hi tx ai pa tu pt ke st le th re nu du ha) (by rw [gsF, hdd]) ?_
      refine V.iinc (v := nI (i + 1)) (lv2 := [(2, .int (nI (i + 1))), (3, .int dd), (0, .ref (a 0)), (1, .int (nI n))]) 1 rfl dX6_gossip_56 (nI_add i 1) (by decide) rfl ?_
      refine V.goto (tgt := 2) dX6_gossip_59 (by decide) ?_
      refine V.eqlv (lv2 := [(2, .int (nI (i + 1))), (0, .ref (a 0)), (1, .int (nI n))]) [0, 2, 3] rfl ?_
      exact ih (i + 1) (gsF n i y) (by omega) (gsF_lo7.tr hs7) hfu
  refine V.eqlv (lv2 := [(2, .int 0), (0, .ref (a 0)), (1, .int (nI n))]) [0, 1, 2] rfl ?_
  exact L2 (nf z) 0 z (by omega) lo7.rf rfl
