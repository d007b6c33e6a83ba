abbrev rmX4_make : Room := { frames := 4, cells := 0, slots := 0, locals := 99 }
set_option maxHeartbeats 4000000 in
set_option maxRecDepth 100000 in
theorem kX4_make (g : GT) (u : Nat → Nat) (ai : Nat → Int32) (pa : Nat → Int32) (tu : Nat → Int32) (b : Nat → Nat) (z : Nat → Int32) (t : Nat) (ht : t < 1000) (hV : TV z) : UC g yX4_make wsX4_make rmX4_make [.ref (u 0), .ref (b 0), .int (nI t)] ((UW g u ai pa tu) ++ (SW g b z)) (Qf (some (.int ((cTs t ((z, ai, pa, tu), 0)).2))) ((UW g u ((cTs t ((z, ai, pa, tu), 0)).1.2.1) ((cTs t ((z, ai, pa, tu), 0)).1.2.2.1) ((cTs t ((z, ai, pa, tu), 0)).1.2.2.2)) ++ (SW g b ((cTs t ((z, ai, pa, tu), 0)).1.1)))) := by
  refine UC.ofV (cc := cX4_make) (maxL := 6) (ret := some .int) (lv0 := [(0, .ref (u 0)), (1, .ref (b 0)), (2, .int (nI t))]) (by decide) rfl (Nat.le_of_ble_eq_true rfl) rfl ?_
  generalize hQF : QFr g rmX4_make (Qf (some (.int ((cTs t ((z, ai, pa, tu), 0)).2))) ((UW g u ((cTs t ((z, ai, pa, tu), 0)).1.2.1) ((cTs t ((z, ai, pa, tu), 0)).1.2.2.1) ((cTs t ((z, ai, pa, tu), 0)).1.2.2.2)) ++ (SW g b ((cTs t ((z, ai, pa, tu), 0)).1.1)))) = QF
  have hq : QFok g rmX4_make (Qf (some (.int ((cTs t ((z, ai, pa, tu), 0)).2))) ((UW g u ((cTs t ((z, ai, pa, tu), 0)).1.2.1) ((cTs t ((z, ai, pa, tu), 0)).1.2.2.1) ((cTs t ((z, ai, pa, tu), 0)).1.2.2.2)) ++ (SW g b ((cTs t ((z, ai, pa, tu), 0)).1.1)))) QF := hQF ▸ QFr.q
  refine V.iconst (v := 0) dX4_make_0 (by decide) ?_
  refine V.istore_n (lv2 := [(3, .int 0), (0, .ref (u 0)), (1, .ref (b 0)), (2, .int (nI t))]) dX4_make_1 rfl (by decide) rfl ?_
  refine V.iconst (v := 0) dX4_make_2 (by decide) ?_
  refine V.istore (lv2 := [(4, .int 0), (3, .int 0), (0, .ref (u 0)), (1, .ref (b 0)), (2, .int (nI t))]) dX4_make_3 (by decide) rfl ?_
  have L5 : ∀ (kL : Nat) (i : Nat) (q : R5) (c : Int32), i + kL = t → (TV q.1) → (fu (fun _ s => (cT s.1, s.2 + (cD s.1).2)) i kL (q, c) = cTs t ((z, ai, pa, tu), 0)) → V g rmX4_make RX4 cX4_make wsX4_make 6 QF (XM (some .int) "make") 0 0 ((UW g u q.2.1 q.2.2.1 q.2.2.2) ++ (SW g b q.1)) 5 [(4, .int (nI i)), (3, .int c), (0, .ref (u 0)), (1, .ref (b 0)), (2, .int (nI t))] [] := by
    intro kL
    induction kL with
    | zero =>
      intro i q c hrel hq1 hfu
      rw [fu_0] at hfu
      refine V.iload 0 rfl dX4_make_5 ?_
      refine V.iload_n 4 rfl dX4_make_7 rfl ?_
      refine V.icmp_ge_t (tgt := 94) (by exact nI_le (a := t) (b := i) (by omega) (by omega)) dX4_make_8 (by decide) ?_
      refine V.iload_n 1 rfl dX4_make_94 rfl ?_
      exact V.iret hq XM.r (Nat.le_of_ble_eq_true rfl) (Nat.le_of_ble_eq_true rfl) ⟨by rw [← hfu] <;> rfl, by rw [← hfu] <;> rfl⟩ dX4_make_95
    | succ kL ih =>
      intro i q c hrel hq1 hfu
      rw [fu_s] at hfu
      have hKq := hq1.1
      have hP24 := hq1.np
      have hlA : ∀ k, k < 4 → okN 24 (lA q.1 q.2.1 k) := fun k hk => lA_ok hP24 hk
      refine V.iload 0 rfl dX4_make_5 ?_
      refine V.iload_n 4 rfl dX4_make_7 rfl ?_
      refine V.icmp_ge_f (tgt := 94) (by exact nI_ge (a := i) (b := t) (by omega) (by omega)) dX4_make_8 (by decide) ?_
      refine V.aload_n 2 rfl dX4_make_11 rfl ?_
      refine V.aload_n 3 rfl dX4_make_12 rfl ?_
      refine V.callVf (ws2 := (UW g u (lA q.1 q.2.1) q.2.2.1 q.2.2.2) ++ (SW g b q.1)) (st2 := []) [.ref (b 0)] [] (kX4_chooseAims g u q.2.1 q.2.2.1 q.2.2.2 b q.1 hq1.1 hq1.2.2.1) gX4_make_X4_chooseAims rfl (by show _ ∧ _ ∧ _ ∧ _ = some (1 : Nat); decide +kernel) ⟨Nat.le_of_ble_eq_true rfl, Nat.le_of_ble_eq_true rfl⟩ (hc := (rfl : vwCl[4]? = some (RX4, TX4, 3))) 0 rfl [0, 1, 2, 3, 4, 5, 6, 7, 8, 9, 10, 11, 12, 13] (by decide) rfl rfl (Nat.le_of_ble_eq_true rfl) ⟨Nat.le_of_ble_eq_true rfl, Nat.le_of_ble_eq_true rfl⟩ dX4_make_13 (USf rfl) rfl rfl rfl rfl ?_
      refine V.iconst (v := 0) dX4_make_16 (by decide) ?_
      refine V.istore (lv2 := [(5, .int 0), (4, .int (nI i)), (3, .int c), (0, .ref (u 0)), (1, .ref (b 0)), (2, .int (nI t))]) dX4_make_17 (by decide) rfl ?_
      have L19 : ∀ (kL : Nat) (j : Nat) (s : RS), j + kL = 4 → (TV s.1) → (fu (cPF (lA q.1 q.2.1)) j kL s = cB q) → V g rmX4_make RX4 cX4_make wsX4_make 6 QF (XM (some .int) "make") 0 0 ((UW g u (lA q.1 q.2.1) s.2.1 s.2.2) ++ (SW g b s.1)) 19 [(5, .int (nI j)), (4, .int (nI i)), (3, .int c), (0, .ref (u 0)), (1, .ref (b 0)), (2, .int (nI t))] [] := by
        intro kL
        induction kL with
        | zero =>
          intro j s hrel hs1 hfp
          rw [fu_0] at hfp
          subst hfp
          refine V.iload 0 rfl dX4_make_19 ?_
          refine V.iconst (v := 4) dX4_make_21 (by decide) ?_
          refine V.icmp_ge_t (tgt := 38) (by rw [show j = 4 from by omega]; decide) dX4_make_22 (by decide) ?_
          have hB1 := hq1.cB
          have hBg := cB_good hKq hP24
          have hCg := cC_good hKq hP24
          have hC1 := hq1.cC
          have hD1 := hq1.cD
          refine V.aload_n 3 rfl dX4_make_38 rfl ?_
          refine V.aload_n 4 rfl dX4_make_39 rfl ?_
          refine V.callVf (ws2 := (UW g u (lA q.1 q.2.1) ((fu (rLF ((cB q).2.2)) 0 4 ((cB q).1, (cB q).2.1)).2) ((cB q).2.2)) ++ (SW g b ((fu (rLF ((cB q).2.2)) 0 4 ((cB q).1, (cB q).2.1)).1))) (st2 := []) [.ref (b 0)] [] (kX4_lookAtParts g u (lA q.1 q.2.1) ((cB q).2.1) ((cB q).2.2) b ((cB q).1) hB1.2.1 (fun k hk => (hBg k hk).1) cB_tu) gX4_make_X4_lookAtParts rfl (by show _ ∧ _ ∧ _ ∧ _ = some (1 : Nat); decide +kernel) ⟨Nat.le_of_ble_eq_true rfl, Nat.le_of_ble_eq_true rfl⟩ (hc := (rfl : vwCl[4]? = some (RX4, TX4, 3))) 0 rfl [0, 1, 2, 3, 4, 5, 6, 7, 8, 9, 10, 11, 12, 13] (by decide) rfl rfl (Nat.le_of_ble_eq_true rfl) ⟨Nat.le_of_ble_eq_true rfl, Nat.le_of_ble_eq_true rfl⟩ dX4_make_40 (USf rfl) rfl rfl rfl rfl ?_
          refine V.eqws (ws2 := (UW g u (lA q.1 q.2.1) ((cC q).2) ((cB q).2.2)) ++ (SW g b ((cC q).1))) rfl ?_
          refine V.iload_n 2 rfl dX4_make_43 rfl ?_
          refine V.aload_n 3 rfl dX4_make_44 rfl ?_
          refine V.aload_n 4 rfl dX4_make_45 rfl ?_
          refine V.callVf (ws2 := (UW g u (lA q.1 q.2.1) ((cC q).2) ((cB q).2.2)) ++ (SW g b ((fu (rYF (lA q.1 q.2.1) ((cC q).2) ((cB q).2.2)) 0 4 ((cC q).1, 0)).1))) (st2 := [.int ((fu (rYF (lA q.1 q.2.1) ((cC q).2) ((cB q).2.2)) 0 4 ((cC q).1, 0)).2), .int c]) [.ref (b 0)] [.int c] (kX4_placeParts g u (lA q.1 q.2.1) ((cC q).2) ((cB q).2.2) b ((cC q).1) hC1.2.1 (fun k hk => (hCg k hk).1) (fun k hk f hf => (hCg k hk).2 f hf) cB_tu) gX4_make_X4_placeParts rfl (by show _ ∧ _ ∧ _ ∧ _ = some (1 : Nat); decide +kernel) ⟨Nat.le_of_ble_eq_true rfl, Nat.le_of_ble_eq_true rfl⟩ (hc := (rfl : vwCl[4]? = some (RX4, TX4, 3))) 0 rfl [0, 1, 2, 3, 4, 5, 6, 7, 8, 9, 10, 11, 12, 13] (by decide) rfl rfl (Nat.le_of_ble_eq_true rfl) ⟨Nat.le_of_ble_eq_true rfl, Nat.le_of_ble_eq_true rfl⟩ dX4_make_46 (USf rfl) rfl rfl rfl rfl ?_
          refine V.eqws (ws2 := (UW g u (lA q.1 q.2.1) ((cC q).2) ((cB q).2.2)) ++ (SW g b ((cD q).1))) rfl ?_
          rw [show ((fu (rYF (lA q.1 q.2.1) ((cC q).2) ((cB q).2.2)) 0 4 ((cC q).1, 0)).2) = (cD q).2 from rfl]
          refine V.iadd dX4_make_49 ?_
          refine V.istore_n (lv2 := [(3, .int (c + ((cD q).2))), (5, .int (nI j)), (4, .int (nI i)), (0, .ref (u 0)), (1, .ref (b 0)), (2, .int (nI t))]) dX4_make_50 rfl (by decide) rfl ?_
          refine V.iconst (v := 0) dX4_make_51 (by decide) ?_
          refine V.istore (lv2 := [(5, .int 0), (3, .int (c + ((cD q).2))), (4, .int (nI i)), (0, .ref (u 0)), (1, .ref (b 0)), (2, .int (nI t))]) dX4_make_52 (by decide) rfl ?_
          have L54 : ∀ (kL : Nat) (j : Nat) (y : Nat → Int32), j + kL = 3 → (TV y) → (fu gsA j kL y = cE q) → V g rmX4_make RX4 cX4_make wsX4_make 6 QF (XM (some .int) "make") 0 0 ((UW g u (lA q.1 q.2.1) ((cC q).2) ((cB q).2.2)) ++ (SW g b y)) 54 [(5, .int (nI j)), (4, .int (nI i)), (3, .int (c + (cD q).2)), (0, .ref (u 0)), (1, .ref (b 0)), (2, .int (nI t))] [] := by
            intro kL
            induction kL with
            | zero =>
              intro j y hrel hy1 hfg
              rw [fu_0] at hfg
              subst hfg
              refine V.iload 0 rfl dX4_make_54 ?_
              refine V.iconst (v := 1) dX4_make_56 (by decide) ?_
              refine V.iaddN (v := nI (j + 1)) dX4_make_57 (nI_add j 1) ?_
              refine V.iconst (v := 4) dX4_make_58 (by decide) ?_
              refine V.icmp_ge_t (tgt := 78) (by rw [show j + 1 = 4 from by omega]; decide) dX4_make_59 (by decide) ?_
              refine V.aload_n 4 rfl dX4_make_78 rfl ?_
              refine V.dup dX4_make_79 rfl ?_
              refine V.get (v := .int ((cE q) 10)) (fun w H => List.mem_cons_of_mem _ (List.mem_append_left _ (List.mem_append_left _ (List.mem_append_right _ H)))) (hc := (rfl : vwCl[2]? = some (RX2, TX2, 12))) 4 5 (by decide) (List.mem_of_getElem? (i := 1) rfl) rfl rfl dX4_make_80 ?_
              refine V.iconst (v := 1) dX4_make_83 (by decide) ?_
              refine V.iadd dX4_make_84 ?_
              refine V.put (v := .int (((cE q) 10) + 1)) (ws2 := (UW g u (lA q.1 q.2.1) ((cC q).2) ((cB q).2.2)) ++ (SW g b (upd (cE q) 10 (((cE q) 10) + 1)))) (fun w H => List.mem_cons_of_mem _ (List.mem_append_left _ (List.mem_append_left _ (List.mem_append_right _ H)))) tyX2 tyX2_ok nmX2 (hc := (rfl : vwCl[2]? = some (RX2, TX2, 12))) 4 5 (by decide) (List.mem_of_getElem? (i := 1) rfl) rfl rfl (tyX2_ok 5 (by decide)) rfl rfl (Nat.le_of_ble_eq_true rfl) (congrArg (fun _l : va_W => (UW g u (lA q.1 q.2.1) ((cC q).2) ((cB q).2.2)) ++ _l) (SW_10 (g := g) (b := b) (z := (cE q)) (v := ((cE q) 10) + 1))) dX4_make_85 ?_
              refine V.eqws (ws2 := (UW g u ((cT q).2.1) ((cT q).2.2.1) ((cT q).2.2.2)) ++ (SW g b ((cT q).1))) rfl ?_
              refine V.iinc (v := nI (i + 1)) (lv2 := [(4, .int (nI (i + 1))), (5, .int (nI j)), (3, .int (c + (cD q).2)), (0, .ref (u 0)), (1, .ref (b 0)), (2, .int (nI t))]) 1 rfl dX4_make_88 (nI_add i 1) (by decide) rfl ?_
              refine V.goto (tgt := 5) dX4_make_91 (by decide) ?_
              refine V.eqlv (lv2 := [(4, .int (nI (i + 1))), (3, .int (c + (cD q).2)), (0, .ref (u 0)), (1, .ref (b 0)), (2, .int (nI t))]) [0, 2, 3, 4, 5] rfl ?_
              exact ih (i + 1) (cT q) (c + (cD q).2) (by omega) hq1.cT hfu
            | succ kL ih =>
              intro j y hrel hy1 hfg
              rw [fu_s] at hfg
              refine V.iload 0 rfl dX4_make_54 ?_
              refine V.iconst (v := 1) dX4_make_56 (by decide) ?_
              refine V.iaddN (v := nI (j + 1)) dX4_make_57 (nI_add j 1) ?_
              refine V.iconst (v := 4) dX4_make_58 (by decide) ?_
              refine V.icmp_ge_f (tgt := 78) (by exact nI_ge (a := j + 1) (b := 4) (by omega) (by decide)) dX4_make_59 (by decide) ?_
              refine V.aload_n 4 rfl dX4_make_62 rfl ?_
              refine V.iload 0 rfl dX4_make_63 ?_
              refine V.iload 0 rfl dX4_make_65 ?_
              refine V.iconst (v := 1) dX4_make_67 (by decide) ?_
              refine V.iaddN (v := nI (j + 1)) dX4_make_68 (nI_add j 1) ?_
              refine V.callSf (ws2 := (UW g u (lA q.1 q.2.1) ((cC q).2) ((cB q).2.2)) ++ (SW g b (gsA j y))) (st2 := []) [.ref (b 0), .int (nI j), .int (nI (j + 1))] [] (kX4_gossip g b y j (j + 1) rfl (by omega) hy1.1 hy1.2.1.2.2.2.2 hy1.2.2.2.1) gX4_make_X4_gossip rfl (by show _ ∧ _ ∧ _ = some (3 : Nat); decide +kernel) ⟨Nat.le_of_ble_eq_true rfl, Nat.le_of_ble_eq_true rfl⟩ [4, 5, 6, 7, 8, 9, 10, 11, 12, 13] (by decide) rfl rfl (Nat.le_of_ble_eq_true rfl) ⟨Nat.le_of_ble_eq_true rfl, Nat.le_of_ble_eq_true rfl⟩ dX4_make_69 SWf rfl rfl rfl rfl ?_
              refine V.iinc (v := nI (j + 1)) (lv2 := [(5, .int (nI (j + 1))), (4, .int (nI i)), (3, .int (c + (cD q).2)), (0, .ref (u 0)), (1, .ref (b 0)), (2, .int (nI t))]) 0 rfl dX4_make_72 (nI_add j 1) (by decide) rfl ?_
              refine V.goto (tgt := 54) dX4_make_75 (by decide) ?_
              refine V.eqlv (lv2 := [(5, .int (nI (j + 1))), (4, .int (nI i)), (3, .int (c + (cD q).2)), (0, .ref (u 0)), (1, .ref (b 0)), (2, .int (nI t))]) [0, 1, 2, 3, 4, 5] rfl ?_
              exact ih (j + 1) (gsA j y) (by omega) hy1.gsA hfg
          refine V.eqlv (lv2 := [(5, .int 0), (4, .int (nI i)), (3, .int (c + ((cD q).2))), (0, .ref (u 0)), (1, .ref (b 0)), (2, .int (nI t))]) [0, 2, 1, 3, 4, 5] rfl ?_
          exact L54 3 0 (cD q).1 (by omega) hD1 rfl
        | succ kL ih =>
          intro j s hrel hs1 hfp
          rw [fu_s] at hfp
          refine V.iload 0 rfl dX4_make_19 ?_
          refine V.iconst (v := 4) dX4_make_21 (by decide) ?_
          refine V.icmp_ge_f (tgt := 38) (by exact nI_ge (a := j) (b := 4) (by omega) (by decide)) dX4_make_22 (by decide) ?_
          refine V.aload_n 3 rfl dX4_make_25 rfl ?_
          refine V.aload_n 4 rfl dX4_make_26 rfl ?_
          refine V.iload 0 rfl dX4_make_27 ?_
          refine V.callVf (ws2 := (UW g u (lA q.1 q.2.1) ((pkA j (de (lA q.1 q.2.1 j)) (s.1, s.2.1, upd s.2.2 j 0)).2.1) ((pkA j (de (lA q.1 q.2.1 j)) (s.1, s.2.1, upd s.2.2 j 0)).2.2)) ++ (SW g b ((pkA j (de (lA q.1 q.2.1 j)) (s.1, s.2.1, upd s.2.2 j 0)).1))) (st2 := []) [.ref (b 0), .int (nI j)] [] (kX4_pickFor g u (lA q.1 q.2.1) s.2.1 s.2.2 b s.1 j (de (lA q.1 q.2.1 j)) (by omega) hs1.1 hs1.2.1 (hlA j (by omega)).1 (fun p hp => (hlA j (by omega)).2 p hp)) gX4_make_X4_pickFor rfl (by show _ ∧ _ ∧ _ ∧ _ = some (2 : Nat); decide +kernel) ⟨Nat.le_of_ble_eq_true rfl, Nat.le_of_ble_eq_true rfl⟩ (hc := (rfl : vwCl[4]? = some (RX4, TX4, 3))) 0 rfl [0, 1, 2, 3, 4, 5, 6, 7, 8, 9, 10, 11, 12, 13] (by decide) rfl rfl (Nat.le_of_ble_eq_true rfl) ⟨Nat.le_of_ble_eq_true rfl, Nat.le_of_ble_eq_true rfl⟩ dX4_make_29 (USf rfl) rfl rfl rfl rfl ?_
          refine V.iinc (v := nI (j + 1)) (lv2 := [(5, .int (nI (j + 1))), (4, .int (nI i)), (3, .int c), (0, .ref (u 0)), (1, .ref (b 0)), (2, .int (nI t))]) 0 rfl dX4_make_32 (nI_add j 1) (by decide) rfl ?_
          refine V.goto (tgt := 19) dX4_make_35 (by decide) ?_
          refine V.eqlv (lv2 := [(5, .int (nI (j + 1))), (4, .int (nI i)), (3, .int c), (0, .ref (u 0)), (1, .ref (b 0)), (2, .int (nI t))]) [0, 1, 2, 3, 4, 5] rfl ?_
          exact ih (j + 1) (cPF (lA q.1 q.2.1) j s) (by omega) (hs1.cPF (by omega)) hfp
      refine V.eqlv (lv2 := [(5, .int 0), (4, .int (nI i)), (3, .int c), (0, .ref (u 0)), (1, .ref (b 0)), (2, .int (nI t))]) [0, 1, 2, 3, 4, 5] rfl ?_
      exact L19 4 0 (q.1, q.2.2.1, q.2.2.2) (by omega) hq1 rfl
  refine V.eqlv (lv2 := [(4, .int 0), (3, .int 0), (0, .ref (u 0)), (1, .ref (b 0)), (2, .int (nI t))]) [0, 1, 2, 3, 4] rfl ?_
  exact L5 t 0 (z, ai, pa, tu) 0 (by omega) hV rfl
