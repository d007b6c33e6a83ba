abbrev rmX6_tourOnce : Room := { frames := 5, cells := 0, slots := 0, locals := 115 }
set_option maxHeartbeats 4000000 in
set_option maxRecDepth 100000 in
theorem kX6_tourOnce (g : GT) (a : Nat → Nat) (z hi tx ai pa tu pt ke : Nat → Int32) (st le th re nu du : Int32) (ha : Int64) (hK : KZ z) : UC g yX6_tourOnce wsX6_tourOnce rmX6_tourOnce [.ref (a 0)] (MW g a z hi tx ai pa tu pt ke st le th re nu du ha) (Qf (some (.int ((rD (z, ai, pa, tu)).2))) (MW g a ((rT (z, ai, pa, tu)).1) hi tx ((rT (z, ai, pa, tu)).2.1) ((rT (z, ai, pa, tu)).2.2.1) ((rT (z, ai, pa, tu)).2.2.2) pt ke st le th re nu du ha)) := by
  refine UC.ofV (cc := cX6_tourOnce) (maxL := 4) (ret := some .int) (lv0 := [(0, .ref (a 0))]) (by decide) rfl (Nat.le_of_ble_eq_true rfl) rfl ?_
  generalize hQF : QFr g rmX6_tourOnce (Qf (some (.int ((rD (z, ai, pa, tu)).2))) (MW g a ((rT (z, ai, pa, tu)).1) hi tx ((rT (z, ai, pa, tu)).2.1) ((rT (z, ai, pa, tu)).2.2.1) ((rT (z, ai, pa, tu)).2.2.2) pt ke st le th re nu du ha)) = QF
  have hq : QFok g rmX6_tourOnce (Qf (some (.int ((rD (z, ai, pa, tu)).2))) (MW g a ((rT (z, ai, pa, tu)).1) hi tx ((rT (z, ai, pa, tu)).2.1) ((rT (z, ai, pa, tu)).2.2.1) ((rT (z, ai, pa, tu)).2.2.2) pt ke st le th re nu du ha)) QF := hQF ▸ QFr.q
  obtain ⟨hF, hF8, hP, hP24, hR, hR5⟩ := id hK
  refine V.aload_n 0 rfl dX6_tourOnce_0 rfl ?_
  refine V.callVf (ws2 := MW g a z hi tx (lA z ai) pa tu pt ke st le th re nu du ha) (st2 := []) [] [] (kX6_layAims g a z hi tx ai pa tu pt ke st le th re nu du ha  hF hF8 hP hP24) gX6_tourOnce_X6_layAims rfl (by show _ ∧ _ ∧ _ ∧ _ = some (0 : Nat); decide +kernel) ⟨Nat.le_of_ble_eq_true rfl, Nat.le_of_ble_eq_true rfl⟩ (hc := (rfl : vwCl[6]? = some (RX6, TX6, 15))) 0 rfl [0, 1, 2, 3, 4, 5, 6, 7, 8] (by decide) rfl rfl (Nat.le_of_ble_eq_true rfl) ⟨Nat.le_of_ble_eq_true rfl, Nat.le_of_ble_eq_true rfl⟩ dX6_tourOnce_1 MWf rfl rfl rfl rfl ?_
  refine V.iconst (v := 0) dX6_tourOnce_4 (by decide) ?_
  refine V.istore_n (lv2 := [(1, .int 0), (0, .ref (a 0))]) dX6_tourOnce_5 rfl (by decide) rfl ?_
  have L6 : ∀ (kL : Nat) (i : Nat) (s : RS), i + kL = 4 → (lo7 s.1 z) → (fu (rPF (lA z ai)) i kL s = rB (z, ai, pa, tu)) → V g rmX6_tourOnce RX6 cX6_tourOnce wsX6_tourOnce 4 QF (XM (some .int) "tourOnce") 0 0 (MW g a s.1 hi tx (lA z ai) s.2.1 s.2.2 pt ke st le th re nu du ha) 6 [(1, .int (nI i)), (0, .ref (a 0))] [] := by
    intro kL
    induction kL with
    | zero =>
      intro i s hrel hs7 hfu
      rw [fu_0] at hfu
      refine V.iload_n 0 rfl dX6_tourOnce_6 rfl ?_
      refine V.iconst (v := 4) dX6_tourOnce_7 (by decide) ?_
      refine V.icmp_ge_t (tgt := 22) (by rw [show i = 4 from by omega]; decide) dX6_tourOnce_8 (by decide) ?_
      have hB : s = rB (z, ai, pa, tu) := hfu
      subst hB
      have hBok := rB_ok (s := (z, ai, pa, tu)) hK hP24
      refine V.iconst (v := 0) dX6_tourOnce_22 (by decide) ?_
      refine V.istore_n (lv2 := [(1, .int 0), (0, .ref (a 0))]) dX6_tourOnce_23 rfl (by decide) rfl ?_
      have L24 : ∀ (kL : Nat) (i : Nat) (q : R2), i + kL = 4 → (lo7 q.1 z) → (∀ k, k < 4 → okN 8 (q.2 k)) → (fu (rLF (rB (z, ai, pa, tu)).2.2) i kL q = rC (z, ai, pa, tu)) → V g rmX6_tourOnce RX6 cX6_tourOnce wsX6_tourOnce 4 QF (XM (some .int) "tourOnce") 0 0 (MW g a q.1 hi tx (lA z ai) q.2 ((rB (z, ai, pa, tu)).2.2) pt ke st le th re nu du ha) 24 [(1, .int (nI i)), (0, .ref (a 0))] [] := by
        intro kL
        induction kL with
        | zero =>
          intro i q hrel hq7 hqo hfu2
          rw [fu_0] at hfu2
          refine V.iload_n 0 rfl dX6_tourOnce_24 rfl ?_
          refine V.iconst (v := 4) dX6_tourOnce_25 (by decide) ?_
          refine V.icmp_ge_t (tgt := 40) (by rw [show i = 4 from by omega]; decide) dX6_tourOnce_26 (by decide) ?_
          have hC : q = rC (z, ai, pa, tu) := hfu2
          subst hC
          have hCok := rC_ok (s := (z, ai, pa, tu)) hK hP24
          refine V.iconst (v := 0) dX6_tourOnce_40 (by decide) ?_
          refine V.istore_n (lv2 := [(1, .int 0), (0, .ref (a 0))]) dX6_tourOnce_41 rfl (by decide) rfl ?_
          refine V.iconst (v := 0) dX6_tourOnce_42 (by decide) ?_
          refine V.istore_n (lv2 := [(2, .int 0), (1, .int 0), (0, .ref (a 0))]) dX6_tourOnce_43 rfl (by decide) rfl ?_
          have L44 : ∀ (kL : Nat) (i : Nat) (y : (Nat → Int32) × Int32), i + kL = 4 → (lo7 y.1 z) → (fu (rYF (lA z ai) (rC (z, ai, pa, tu)).2 (rB (z, ai, pa, tu)).2.2) i kL y = rD (z, ai, pa, tu)) → V g rmX6_tourOnce RX6 cX6_tourOnce wsX6_tourOnce 4 QF (XM (some .int) "tourOnce") 0 0 (MW g a y.1 hi tx (lA z ai) ((rC (z, ai, pa, tu)).2) ((rB (z, ai, pa, tu)).2.2) pt ke st le th re nu du ha) 44 [(2, .int (nI i)), (1, .int y.2), (0, .ref (a 0))] [] := by
            intro kL
            induction kL with
            | zero =>
              intro i y hrel hy7 hfu3
              rw [fu_0] at hfu3
              refine V.iload_n 0 rfl dX6_tourOnce_44 rfl ?_
              refine V.iconst (v := 4) dX6_tourOnce_45 (by decide) ?_
              refine V.icmp_ge_t (tgt := 65) (by rw [show i = 4 from by omega]; decide) dX6_tourOnce_46 (by decide) ?_
              have hDd : y = rD (z, ai, pa, tu) := hfu3
              subst hDd
              refine V.iconst (v := 0) dX6_tourOnce_65 (by decide) ?_
              refine V.istore_n (lv2 := [(2, .int 0), (1, .int ((rD (z, ai, pa, tu)).2)), (0, .ref (a 0))]) dX6_tourOnce_66 rfl (by decide) rfl ?_
              have L67 : ∀ (kL : Nat) (i : Nat) (x : Nat → Int32), i + kL = 3 → (lo7 x z) → (fu gsA i kL x = rE (z, ai, pa, tu)) → V g rmX6_tourOnce RX6 cX6_tourOnce wsX6_tourOnce 4 QF (XM (some .int) "tourOnce") 0 0 (MW g a x hi tx (lA z ai) ((rC (z, ai, pa, tu)).2) ((rB (z, ai, pa, tu)).2.2) pt ke st le th re nu du ha) 67 [(2, .int (nI i)), (1, .int ((rD (z, ai, pa, tu)).2)), (0, .ref (a 0))] [] := by
                intro kL
                induction kL with
                | zero =>
                  intro i x hrel hx7 hfu4
                  rw [fu_0] at hfu4
                  refine V.iload_n 0 rfl dX6_tourOnce_67 rfl ?_
                  refine V.iconst (v := 3) dX6_tourOnce_68 (by decide) ?_
                  refine V.icmp_ge_t (tgt := 83) (by rw [show i = 3 from by omega]; decide) dX6_tourOnce_69 (by decide) ?_
                  have hEe : x = rE (z, ai, pa, tu) := hfu4
                  subst hEe
                  refine V.aload_n 2 rfl dX6_tourOnce_83 rfl ?_
                  refine V.get (v := .ref (a 1)) (fun w H => List.mem_cons_of_mem _ (List.mem_append_right _ H)) (hc := (rfl : vwCl[6]? = some (RX6, TX6, 15))) 0 0 (by decide) (List.mem_of_getElem? (i := 1) rfl) rfl rfl dX6_tourOnce_84 ?_
                  refine V.bipush (v := 10) dX6_tourOnce_87 (by decide) ?_
                  refine V.dup2 dX6_tourOnce_89 rfl rfl ?_
                  refine V.iald (f := rE (z, ai, pa, tu)) 1 10 rfl rfl (by decide) (by decide) dX6_tourOnce_90 ?_
                  refine V.iconst (v := 1) dX6_tourOnce_91 (by decide) ?_
                  refine V.iadd dX6_tourOnce_92 ?_
                  refine V.iast (f := rE (z, ai, pa, tu)) (ws2 := MW g a (upd (rE (z, ai, pa, tu)) 10 (((rE (z, ai, pa, tu)) 10) + 1)) hi tx (lA z ai) ((rC (z, ai, pa, tu)).2) ((rB (z, ai, pa, tu)).2.2) pt ke st le th re nu du ha) 1 10 rfl rfl (by decide) (by decide) rfl dX6_tourOnce_93 ?_
                  refine V.iload_n 1 rfl dX6_tourOnce_94 rfl ?_
                  exact V.iret hq XM.r (Nat.le_of_ble_eq_true rfl) (Nat.le_of_ble_eq_true rfl) ⟨rfl, rfl⟩ dX6_tourOnce_95
                | succ kL ih =>
                  intro i x hrel hx7 hfu4
                  rw [fu_s] at hfu4
                  refine V.iload_n 0 rfl dX6_tourOnce_67 rfl ?_
                  refine V.iconst (v := 3) dX6_tourOnce_68 (by decide) ?_
                  refine V.icmp_ge_f (tgt := 83) (by exact nI_ge (a := i) (b := 3) (by omega) (by decide)) dX6_tourOnce_69 (by decide) ?_
                  refine V.aload_n 2 rfl dX6_tourOnce_72 rfl ?_
                  refine V.iload_n 0 rfl dX6_tourOnce_73 rfl ?_
                  refine V.callVf (ws2 := MW g a (gsA i x) hi tx (lA z ai) ((rC (z, ai, pa, tu)).2) ((rB (z, ai, pa, tu)).2.2) pt ke st le th re nu du ha) (st2 := []) [.int (nI i)] [] (kX6_gossip g a x hi tx (lA z ai) ((rC (z, ai, pa, tu)).2) ((rB (z, ai, pa, tu)).2.2) pt ke st le th re nu du ha i (by omega) (hK.lo hx7)) gX6_tourOnce_X6_gossip rfl (by show _ ∧ _ ∧ _ ∧ _ = some (1 : Nat); decide +kernel) ⟨Nat.le_of_ble_eq_true rfl, Nat.le_of_ble_eq_true rfl⟩ (hc := (rfl : vwCl[6]? = some (RX6, TX6, 15))) 0 rfl [0, 1, 2, 3, 4, 5, 6, 7, 8] (by decide) rfl rfl (Nat.le_of_ble_eq_true rfl) ⟨Nat.le_of_ble_eq_true rfl, Nat.le_of_ble_eq_true rfl⟩ dX6_tourOnce_74 MWf rfl rfl rfl rfl ?_
                  refine V.iinc (v := nI (i + 1)) (lv2 := [(2, .int (nI (i + 1))), (1, .int ((rD (z, ai, pa, tu)).2)), (0, .ref (a 0))]) 0 rfl dX6_tourOnce_77 (nI_add i 1) (by decide) rfl ?_
                  refine V.goto (tgt := 67) dX6_tourOnce_80 (by decide) ?_
                  refine V.eqlv (lv2 := [(2, .int (nI (i + 1))), (1, .int ((rD (z, ai, pa, tu)).2)), (0, .ref (a 0))]) [0, 1, 2] rfl ?_
                  exact ih (i + 1) (gsA i x) (by omega) (gsA_lo7.tr hx7) hfu4
              refine V.eqlv (lv2 := [(2, .int 0), (1, .int ((rD (z, ai, pa, tu)).2)), (0, .ref (a 0))]) [0, 1, 2] rfl ?_
              exact L67 3 0 (rD (z, ai, pa, tu)).1 (by omega) hy7 rfl
            | succ kL ih =>
              intro i y hrel hy7 hfu3
              rw [fu_s] at hfu3
              refine V.iload_n 0 rfl dX6_tourOnce_44 rfl ?_
              refine V.iconst (v := 4) dX6_tourOnce_45 (by decide) ?_
              refine V.icmp_ge_f (tgt := 65) (by exact nI_ge (a := i) (b := 4) (by omega) (by decide)) dX6_tourOnce_46 (by decide) ?_
              refine V.aload_n 2 rfl dX6_tourOnce_49 rfl ?_
              refine V.iload_n 0 rfl dX6_tourOnce_50 rfl ?_
              refine V.callVf (ws2 := MW g a (lyZ i ((lA z ai i).toNatClampNeg) (de ((rC (z, ai, pa, tu)).2 i)) y.1 (((rB (z, ai, pa, tu)).2.2) i)) hi tx (lA z ai) ((rC (z, ai, pa, tu)).2) ((rB (z, ai, pa, tu)).2.2) pt ke st le th re nu du ha) (st2 := [.int (lyR (de ((rC (z, ai, pa, tu)).2 i)))]) [.int (nI i)] [] (kX6_lay g a y.1 hi tx (lA z ai) ((rC (z, ai, pa, tu)).2) ((rB (z, ai, pa, tu)).2.2) pt ke st le th re nu du ha i (de ((rC (z, ai, pa, tu)).2 i)) ((lA z ai i).toNatClampNeg) (by omega) (hCok i (by omega)).1.1 (hCok i (by omega)).1.2 (fun f hf => (hCok i (by omega)).2 f hf)) gX6_tourOnce_X6_lay rfl (by show _ ∧ _ ∧ _ ∧ _ = some (1 : Nat); decide +kernel) ⟨Nat.le_of_ble_eq_true rfl, Nat.le_of_ble_eq_true rfl⟩ (hc := (rfl : vwCl[6]? = some (RX6, TX6, 15))) 0 rfl [0, 1, 2, 3, 4, 5, 6, 7, 8] (by decide) rfl rfl (Nat.le_of_ble_eq_true rfl) ⟨Nat.le_of_ble_eq_true rfl, Nat.le_of_ble_eq_true rfl⟩ dX6_tourOnce_51 MWf rfl rfl rfl rfl ?_
              refine V.istore_n (lv2 := [(3, .int (lyR (de ((rC (z, ai, pa, tu)).2 i)))), (2, .int (nI i)), (1, .int y.2), (0, .ref (a 0))]) dX6_tourOnce_54 rfl (by decide) rfl ?_
              refine V.iload_n 2 rfl dX6_tourOnce_55 rfl ?_
              refine V.iload_n 0 rfl dX6_tourOnce_56 rfl ?_
              refine V.iadd dX6_tourOnce_57 ?_
              refine V.istore_n (lv2 := [(1, .int (y.2 + (lyR (de ((rC (z, ai, pa, tu)).2 i))))), (3, .int (lyR (de ((rC (z, ai, pa, tu)).2 i)))), (2, .int (nI i)), (0, .ref (a 0))]) dX6_tourOnce_58 rfl (by decide) rfl ?_
              refine V.iinc (v := nI (i + 1)) (lv2 := [(2, .int (nI (i + 1))), (1, .int (y.2 + (lyR (de ((rC (z, ai, pa, tu)).2 i))))), (3, .int (lyR (de ((rC (z, ai, pa, tu)).2 i)))), (0, .ref (a 0))]) 2 rfl dX6_tourOnce_59 (nI_add i 1) (by decide) rfl ?_
              refine V.goto (tgt := 44) dX6_tourOnce_62 (by decide) ?_
              refine V.eqlv (lv2 := [(2, .int (nI (i + 1))), (1, .int (y.2 + (lyR (de ((rC (z, ai, pa, tu)).2 i))))), (0, .ref (a 0))]) [0, 1, 3] rfl ?_
              exact ih (i + 1) (rYF (lA z ai) (rC (z, ai, pa, tu)).2 (rB (z, ai, pa, tu)).2.2 i y) (by omega) (lyZ_lo7.tr hy7) hfu3
          refine V.eqlv (lv2 := [(2, .int 0), (1, .int 0), (0, .ref (a 0))]) [0, 1, 2] rfl ?_
          exact L44 4 0 ((rC (z, ai, pa, tu)).1, 0) (by omega) hq7 rfl
        | succ kL ih =>
          intro i q hrel hq7 hqo hfu2
          rw [fu_s] at hfu2
          refine V.iload_n 0 rfl dX6_tourOnce_24 rfl ?_
          refine V.iconst (v := 4) dX6_tourOnce_25 (by decide) ?_
          refine V.icmp_ge_f (tgt := 40) (by exact nI_ge (a := i) (b := 4) (by omega) (by decide)) dX6_tourOnce_26 (by decide) ?_
          refine V.aload_n 1 rfl dX6_tourOnce_29 rfl ?_
          refine V.iload_n 0 rfl dX6_tourOnce_30 rfl ?_
          refine V.callVf (ws2 := MW g a (lkZ i (de (q.2 i)) q.1 (((rB (z, ai, pa, tu)).2.2) i)) hi tx (lA z ai) (lkP i (de (q.2 i)) q.1 (((rB (z, ai, pa, tu)).2.2) i) q.2) ((rB (z, ai, pa, tu)).2.2) pt ke st le th re nu du ha) (st2 := []) [.int (nI i)] [] (kX6_look g a q.1 hi tx (lA z ai) q.2 ((rB (z, ai, pa, tu)).2.2) pt ke st le th re nu du ha i (de (q.2 i)) (by omega) (hqo i (by omega)).1 (hqo i (by omega)).2) gX6_tourOnce_X6_look rfl (by show _ ∧ _ ∧ _ ∧ _ = some (1 : Nat); decide +kernel) ⟨Nat.le_of_ble_eq_true rfl, Nat.le_of_ble_eq_true rfl⟩ (hc := (rfl : vwCl[6]? = some (RX6, TX6, 15))) 0 rfl [0, 1, 2, 3, 4, 5, 6, 7, 8] (by decide) rfl rfl (Nat.le_of_ble_eq_true rfl) ⟨Nat.le_of_ble_eq_true rfl, Nat.le_of_ble_eq_true rfl⟩ dX6_tourOnce_31 MWf rfl rfl rfl rfl ?_
          refine V.iinc (v := nI (i + 1)) (lv2 := [(1, .int (nI (i + 1))), (0, .ref (a 0))]) 0 rfl dX6_tourOnce_34 (nI_add i 1) (by decide) rfl ?_
          refine V.goto (tgt := 24) dX6_tourOnce_37 (by decide) ?_
          refine V.eqlv (lv2 := [(1, .int (nI (i + 1))), (0, .ref (a 0))]) [0, 1] rfl ?_
          exact ih (i + 1) (rLF (rB (z, ai, pa, tu)).2.2 i q) (by omega) (lkZ_lo7.tr hq7) (rLF_ok hqo) hfu2
      refine V.eqlv (lv2 := [(1, .int 0), (0, .ref (a 0))]) [0, 1] rfl ?_
      exact L24 4 0 ((rB (z, ai, pa, tu)).1, (rB (z, ai, pa, tu)).2.1) (by omega) hs7 (fun k hk => (hBok k hk).1) rfl
    | succ kL ih =>
      intro i s hrel hs7 hfu
      rw [fu_s] at hfu
      refine V.iload_n 0 rfl dX6_tourOnce_6 rfl ?_
      refine V.iconst (v := 4) dX6_tourOnce_7 (by decide) ?_
      refine V.icmp_ge_f (tgt := 22) (by exact nI_ge (a := i) (b := 4) (by omega) (by decide)) dX6_tourOnce_8 (by decide) ?_
      refine V.aload_n 1 rfl dX6_tourOnce_11 rfl ?_
      refine V.iload_n 0 rfl dX6_tourOnce_12 rfl ?_
      refine V.callVf (ws2 := MW g a ((pkA i (de (lA z ai i)) (s.1, s.2.1, s.2.2)).1) hi tx (lA z ai) ((pkA i (de (lA z ai i)) (s.1, s.2.1, s.2.2)).2.1) ((pkA i (de (lA z ai i)) (s.1, s.2.1, s.2.2)).2.2) pt ke st le th re nu du ha) (st2 := []) [.int (nI i)] [] (kX6_pick g a s.1 hi tx (lA z ai) s.2.1 s.2.2 pt ke st le th re nu du ha i (de (lA z ai i)) (by omega) (hK.lo hs7) (lA_ok hP24 (by omega)).1 (lA_ok hP24 (by omega)).2) gX6_tourOnce_X6_pick rfl (by show _ ∧ _ ∧ _ ∧ _ = some (1 : Nat); decide +kernel) ⟨Nat.le_of_ble_eq_true rfl, Nat.le_of_ble_eq_true rfl⟩ (hc := (rfl : vwCl[6]? = some (RX6, TX6, 15))) 0 rfl [0, 1, 2, 3, 4, 5, 6, 7, 8] (by decide) rfl rfl (Nat.le_of_ble_eq_true rfl) ⟨Nat.le_of_ble_eq_true rfl, Nat.le_of_ble_eq_true rfl⟩ dX6_tourOnce_13 MWf rfl rfl rfl rfl ?_
      refine V.iinc (v := nI (i + 1)) (lv2 := [(1, .int (nI (i + 1))), (0, .ref (a 0))]) 0 rfl dX6_tourOnce_16 (nI_add i 1) (by decide) rfl ?_
      refine V.goto (tgt := 6) dX6_tourOnce_19 (by decide) ?_
      refine V.eqlv (lv2 := [(1, .int (nI (i + 1))), (0, .ref (a 0))]) [0, 1] rfl ?_
      exact ih (i + 1) (rPF (lA z ai) i s) (by omega) (pkA_lo7.tr hs7) hfu
  refine V.eqlv (lv2 := [(1, .int 0), (0, .ref (a 0))]) [0, 1] rfl ?_
  exact L6 4 0 (z, pa, tu) (by omega) lo7.rf rfl
abbrev rmX6_tours : Room := { frames := 6, cells := 0, slots := 0, locals := 138 }
set_option maxHeartbeats 4000000 in
set_option maxRecDepth 100000 in
theorem kX6_tours (g : GT) (a : Nat → Nat) (z hi tx ai pa tu pt ke : Nat → Int32) (st le th re nu du : Int32) (ha : Int64) (t : Nat) (ht : t ≤ 20) (hK : KZ z) : UC g yX6_tours wsX6_tours rmX6_tours [.ref (a 0), .int (nI t)] (MW g a z hi tx ai pa tu pt ke st le th re nu du ha) (Qf (some (.int ((rTs t ((z, ai, pa, tu), 0)).2))) (MW g a ((rTs t ((z, ai, pa, tu), 0)).1.1) hi tx ((rTs t ((z, ai, pa, tu), 0)).1.2.1) ((rTs t ((z, ai, pa, tu), 0)).1.2.2.1) ((rTs t ((z, ai, pa, tu), 0)).1.2.2.2) pt ke st le th re nu du ha)) := by
  refine UC.ofV (cc := cX6_tours) (maxL := 5) (ret := some .int) (lv0 := [(0, .ref (a 0)), (1, .int (nI t))]) (by decide) rfl (Nat.le_of_ble_eq_true rfl) rfl ?_
  generalize hQF : QFr g rmX6_tours (Qf (some (.int ((rTs t ((z, ai, pa, tu), 0)).2))) (MW g a ((rTs t ((z, ai, pa, tu), 0)).1.1) hi tx ((rTs t ((z, ai, pa, tu), 0)).1.2.1) ((rTs t ((z, ai, pa, tu), 0)).1.2.2.1) ((rTs t ((z, ai, pa, tu), 0)).1.2.2.2) pt ke st le th re nu du ha)) = QF
  have hq : QFok g rmX6_tours (Qf (some (.int ((rTs t ((z, ai, pa, tu), 0)).2))) (MW g a ((rTs t ((z, ai, pa, tu), 0)).1.1) hi tx ((rTs t ((z, ai, pa, tu), 0)).1.2.1) ((rTs t ((z, ai, pa, tu), 0)).1.2.2.1) ((rTs t ((z, ai, pa, tu), 0)).1.2.2.2) pt ke st le th re nu du ha)) QF := hQF ▸ QFr.q
  refine V.iconst (v := 0) dX6_tours_0 (by decide) ?_
  refine V.istore_n (lv2 := [(2, .int 0), (0, .ref (a 0)), (1, .int (nI t))]) dX6_tours_1 rfl (by decide) rfl ?_
  refine V.iconst (v := 0) dX6_tours_2 (by decide) ?_
  refine V.istore_n (lv2 := [(3, .int 0), (2, .int 0), (0, .ref (a 0)), (1, .int (nI t))]) dX6_tours_3 rfl (by decide) rfl ?_
  have L4 : ∀ (kL : Nat) (i : Nat) (s : R5 × Int32), i + kL = t → (lo7 s.1.1 z) → (fu (fun _ s => (rT s.1, s.2 + (rD s.1).2)) i kL s = rTs t ((z, ai, pa, tu), 0)) → V g rmX6_tours RX6 cX6_tours wsX6_tours 5 QF (XM (some .int) "tours") 0 0 (MW g a s.1.1 hi tx s.1.2.1 s.1.2.2.1 s.1.2.2.2 pt ke st le th re nu du ha) 4 [(3, .int (nI i)), (2, .int s.2), (0, .ref (a 0)), (1, .int (nI t))] [] := by
    intro kL
    induction kL with
    | zero =>
      intro i s hrel hs7 hfu
      rw [fu_0] at hfu
      refine V.iload_n 0 rfl dX6_tours_4 rfl ?_
      refine V.iload_n 3 rfl dX6_tours_5 rfl ?_
      refine V.icmp_ge_t (tgt := 26) (by exact nI_le (by omega) (by omega)) dX6_tours_6 (by decide) ?_
      refine V.iload_n 1 rfl dX6_tours_26 rfl ?_
      exact V.iret hq XM.r (Nat.le_of_ble_eq_true rfl) (Nat.le_of_ble_eq_true rfl) ⟨by rw [← hfu] <;> rfl, by rw [← hfu] <;> rfl⟩ dX6_tours_27
    | succ kL ih =>
      intro i s hrel hs7 hfu
      rw [fu_s] at hfu
      refine V.iload_n 0 rfl dX6_tours_4 rfl ?_
      refine V.iload_n 3 rfl dX6_tours_5 rfl ?_
      refine V.icmp_ge_f (tgt := 26) (by exact nI_ge (by omega) (by omega)) dX6_tours_6 (by decide) ?_
      refine V.aload_n 2 rfl dX6_tours_9 rfl ?_
      refine V.callVf (ws2 := MW g a ((rT (s.1.1, s.1.2.1, s.1.2.2.1, s.1.2.2.2)).1) hi tx ((rT (s.1.1, s.1.2.1, s.1.2.2.1, s.1.2.2.2)).2.1) ((rT (s.1.1, s.1.2.1, s.1.2.2.1, s.1.2.2.2)).2.2.1) ((rT (s.1.1, s.1.2.1, s.1.2.2.1, s.1.2.2.2)).2.2.2) pt ke st le th re nu du ha) (st2 := [.int ((rD (s.1.1, s.1.2.1, s.1.2.2.1, s.1.2.2.2)).2)]) [] [] (kX6_tourOnce g a s.1.1 hi tx s.1.2.1 s.1.2.2.1 s.1.2.2.2 pt ke st le th re nu du ha  (hK.lo hs7)) gX6_tours_X6_tourOnce rfl (by show _ ∧ _ ∧ _ ∧ _ = some (0 : Nat); decide +kernel) ⟨Nat.le_of_ble_eq_true rfl, Nat.le_of_ble_eq_true rfl⟩ (hc := (rfl : vwCl[6]? = some (RX6, TX6, 15))) 0 rfl [0, 1, 2, 3, 4, 5, 6, 7, 8] (by decide) rfl rfl (Nat.le_of_ble_eq_true rfl) ⟨Nat.le_of_ble_eq_true rfl, Nat.le_of_ble_eq_true rfl⟩ dX6_tours_10 MWf rfl rfl rfl rfl ?_
      refine V.istore (lv2 := [(4, .int ((rD (s.1.1, s.1.2.1, s.1.2.2.1, s.1.2.2.2)).2)), (3, .int (nI i)), (2, .int s.2), (0, .ref (a 0)), (1, .int (nI t))]) dX6_tours_13 (by decide) rfl ?_
      refine V.iload_n 2 rfl dX6_tours_15 rfl ?_
      refine V.iload 0 rfl dX6_tours_16 ?_
      refine V.iadd dX6_tours_18 ?_
      refine V.istore_n (lv2 := [(2, .int (s.2 + ((rD (s.1.1, s.1.2.1, s.1.2.2.1, s.1.2.2.2)).2))), (4, .int ((rD (s.1.1, s.1.2.1, s.1.2.2.1, s.1.2.2.2)).2)), (3, .int (nI i)), (0, .ref (a 0)), (1, .int (nI t))]) dX6_tours_19 rfl (by decide) rfl ?_
      refine V.iinc (v := nI (i + 1)) (lv2 := [(3, .int (nI (i + 1))), (2, .int (s.2 + ((rD (s.1.1, s.1.2.1, s.1.2.2.1, s.1.2.2.2)).2))), (4, .int ((rD (s.1.1, s.1.2.1, s.1.2.2.1, s.1.2.2.2)).2)), (0, .ref (a 0)), (1, .int (nI t))]) 2 rfl dX6_tours_20 (nI_add i 1) (by decide) rfl ?_
      refine V.goto (tgt := 4) dX6_tours_23 (by decide) ?_
      refine V.eqlv (lv2 := [(3, .int (nI (i + 1))), (2, .int (s.2 + ((rD (s.1.1, s.1.2.1, s.1.2.2.1, s.1.2.2.2)).2))), (0, .ref (a 0)), (1, .int (nI t))]) [0, 1, 3, 4] rfl ?_
      exact ih (i + 1) (rT s.1, s.2 + (rD s.1).2) (by omega) ((rT_lo7 s.1).tr hs7) hfu
  refine V.eqlv (lv2 := [(3, .int 0), (2, .int 0), (0, .ref (a 0)), (1, .int (nI t))]) [0, 1, 2, 3] rfl ?_
  exact L4 t 0 ((z, ai, pa, tu), 0) (by omega) lo7.rf rfl
abbrev rmX6_empty : Room := { frames := 0, cells := 0, slots := 0, locals := 0 }
set_option maxHeartbeats 4000000 in
set_option maxRecDepth 100000 in
theorem kX6_empty (g : GT) (a : Nat → Nat) (z hi tx ai pa tu pt ke : Nat → Int32) (st le th re nu du : Int32) (ha : Int64) (p : Nat) (hp : p < 24) : UC g yX6_empty wsX6_empty rmX6_empty [.ref (a 0), .int (nI p)] (MW g a z hi tx ai pa tu pt ke st le th re nu du ha) (Qf (none) (MW g a (emz z p) hi tx ai pa tu pt ke st le th re nu du ha)) := by
  refine UC.ofV (cc := cX6_empty) (maxL := 3) (ret := none) (lv0 := [(0, .ref (a 0)), (1, .int (nI p))]) (by decide) rfl (Nat.le_of_ble_eq_true rfl) rfl ?_
  generalize hQF : QFr g rmX6_empty (Qf (none) (MW g a (emz z p) hi tx ai pa tu pt ke st le th re nu du ha)) = QF
  have hq : QFok g rmX6_empty (Qf (none) (MW g a (emz z p) hi tx ai pa tu pt ke st le th re nu du ha)) QF := hQF ▸ QFr.q
  refine V.bipush (v := 76) dX6_empty_0 (by decide) ?_
  refine V.iconst (v := 5) dX6_empty_2 (by decide) ?_
  refine V.iload_n 1 rfl dX6_empty_3 rfl ?_
  refine V.imulN (v := nI (5 * p)) dX6_empty_4 (pk_mul 5 p) ?_
  refine V.iaddN (v := nI (76 + 5 * p)) dX6_empty_5 (nI_add 76 (5 * p)) ?_
  refine V.istore_n (lv2 := [(2, .int (nI (76 + 5 * p))), (0, .ref (a 0)), (1, .int (nI p))]) dX6_empty_6 rfl (by decide) rfl ?_
  refine V.aload_n 1 rfl dX6_empty_7 rfl ?_
  refine V.get (v := .ref (a 1)) (fun w H => List.mem_cons_of_mem _ (List.mem_append_right _ H)) (hc := (rfl : vwCl[6]? = some (RX6, TX6, 15))) 0 0 (by decide) (List.mem_of_getElem? (i := 1) rfl) rfl rfl dX6_empty_8 ?_
  refine V.iload_n 0 rfl dX6_empty_11 rfl ?_
  refine V.iconst (v := 2) dX6_empty_12 (by decide) ?_
  refine V.iaddN (v := nI (76 + 5 * p + 2)) dX6_empty_13 (nI_add (76 + 5 * p) 2) ?_
  refine V.iconst (v := 0) dX6_empty_14 (by decide) ?_
  refine V.iast (f := z) (ws2 := MW g a (upd z (76 + 5 * p + 2) 0) hi tx ai pa tu pt ke st le th re nu du ha) 1 (76 + 5 * p + 2) rfl rfl (by omega) (by decide) rfl dX6_empty_15 ?_
  refine V.aload_n 1 rfl dX6_empty_16 rfl ?_
  refine V.get (v := .ref (a 1)) (fun w H => List.mem_cons_of_mem _ (List.mem_append_right _ H)) (hc := (rfl : vwCl[6]? = some (RX6, TX6, 15))) 0 0 (by decide) (List.mem_of_getElem? (i := 1) rfl) rfl rfl dX6_empty_17 ?_
  refine V.iload_n 0 rfl dX6_empty_20 rfl ?_
  refine V.iconst (v := 3) dX6_empty_21 (by decide) ?_
  refine V.iaddN (v := nI (76 + 5 * p + 3)) dX6_empty_22 (nI_add (76 + 5 * p) 3) ?_
  refine V.iconst (v := -1) dX6_empty_23 (by decide) ?_
  refine V.iast (f := upd z (76 + 5 * p + 2) 0) (ws2 := MW g a (upd (upd z (76 + 5 * p + 2) 0) (76 + 5 * p + 3) (-1)) hi tx ai pa tu pt ke st le th re nu du ha) 1 (76 + 5 * p + 3) rfl rfl (by omega) (by decide) rfl dX6_empty_24 ?_
  refine V.aload_n 1 rfl dX6_empty_25 rfl ?_
  refine V.get (v := .ref (a 1)) (fun w H => List.mem_cons_of_mem _ (List.mem_append_right _ H)) (hc := (rfl : vwCl[6]? = some (RX6, TX6, 15))) 0 0 (by decide) (List.mem_of_getElem? (i := 1) rfl) rfl rfl dX6_empty_26 ?_
  refine V.iload_n 0 rfl dX6_empty_29 rfl ?_
  refine V.iconst (v := 4) dX6_empty_30 (by decide) ?_
  refine V.iaddN (v := nI (76 + 5 * p + 4)) dX6_empty_31 (nI_add (76 + 5 * p) 4) ?_
  refine V.iconst (v := -1) dX6_empty_32 (by decide) ?_
  refine V.iast (f := upd (upd z (76 + 5 * p + 2) 0) (76 + 5 * p + 3) (-1)) (ws2 := MW g a (upd (upd (upd z (76 + 5 * p + 2) 0) (76 + 5 * p + 3) (-1)) (76 + 5 * p + 4) (-1)) hi tx ai pa tu pt ke st le th re nu du ha) 1 (76 + 5 * p + 4) rfl rfl (by omega) (by decide) rfl dX6_empty_33 ?_
  exact V.vret hq XM.r (Nat.le_of_ble_eq_true rfl) (Nat.le_of_ble_eq_true rfl) ⟨rfl, rfl⟩ dX6_empty_34
abbrev rmX6_placesThat : Room := { frames := 1, cells := 0, slots := 0, locals := 22 }
set_option maxHeartbeats 4000000 in
set_option maxRecDepth 100000 in
theorem kX6_placesThat (g : GT) (a : Nat → Nat) (z hi tx ai pa tu pt ke : Nat → Int32) (st le th re nu du : Int32) (ha : Int64) (x : Int32) (hP : z 6 = nI (np z)) (hP24 : np z ≤ 24) : UC g yX6_placesThat wsX6_placesThat rmX6_placesThat [.ref (a 0), .int x] (MW g a z hi tx ai pa tu pt ke st le th re nu du ha) (Qf (some (.int (pT z x))) (MW g a z hi tx ai pa tu pt ke st le th re nu du ha)) := by
  refine UC.ofV (cc := cX6_placesThat) (maxL := 4) (ret := some .int) (lv0 := [(0, .ref (a 0)), (1, .int x)]) (by decide) rfl (Nat.le_of_ble_eq_true rfl) rfl ?_
  generalize hQF : QFr g rmX6_placesThat (Qf (some (.int (pT z x))) (MW g a z hi tx ai pa tu pt ke st le th re nu du ha)) = QF
  have hq : QFok g rmX6_placesThat (Qf (some (.int (pT z x))) (MW g a z hi tx ai pa tu pt ke st le th re nu du ha)) QF := hQF ▸ QFr.q
  refine V.iconst (v := 0) dX6_placesThat_0 (by decide) ?_
  refine V.istore_n (lv2 := [(2, .int 0), (0, .ref (a 0)), (1, .int x)]) dX6_placesThat_1 rfl (by decide) rfl ?_
  refine V.iconst (v := 0) dX6_placesThat_2 (by decide) ?_
  refine V.istore_n (lv2 := [(3, .int 0), (2, .int 0), (0, .ref (a 0)), (1, .int x)]) dX6_placesThat_3 rfl (by decide) rfl ?_
  have L4 : ∀ (kL : Nat) (i : Nat) (c : Int32), i + kL = np z → (fu (pTF z x) i kL c = pT z x) → V g rmX6_placesThat RX6 cX6_placesThat wsX6_placesThat 4 QF (XM (some .int) "placesThat") 0 0 (MW g a z hi tx ai pa tu pt ke st le th re nu du ha) 4 [(3, .int (nI i)), (2, .int c), (0, .ref (a 0)), (1, .int x)] [] := by
    intro kL
    induction kL with
    | zero =>
      intro i c hrel hfu
      rw [fu_0] at hfu
      refine V.iload_n 0 rfl dX6_placesThat_4 rfl ?_
      refine V.aload_n 2 rfl dX6_placesThat_5 rfl ?_
      refine V.get (v := .ref (a 1)) (fun w H => List.mem_cons_of_mem _ (List.mem_append_right _ H)) (hc := (rfl : vwCl[6]? = some (RX6, TX6, 15))) 0 0 (by decide) (List.mem_of_getElem? (i := 1) rfl) rfl rfl dX6_placesThat_6 ?_
      refine V.bipush (v := 6) dX6_placesThat_9 (by decide) ?_
      refine V.iald (f := z) 1 6 rfl rfl (by decide) (by decide) dX6_placesThat_11 ?_
      refine V.icmp_ge_t (tgt := 39) (by rw [hP, show i = np z from by omega]; exact nI_le (Nat.le_refl _) (by omega)) dX6_placesThat_12 (by decide) ?_
      refine V.iload_n 1 rfl dX6_placesThat_39 rfl ?_
      exact V.iret hq XM.r (Nat.le_of_ble_eq_true rfl) (Nat.le_of_ble_eq_true rfl) ⟨by rw [← hfu] <;> rfl, rfl⟩ dX6_placesThat_40
    | succ kL ih =>
      intro i c hrel hfu
      rw [fu_s] at hfu
      refine V.iload_n 0 rfl dX6_placesThat_4 rfl ?_
      refine V.aload_n 2 rfl dX6_placesThat_5 rfl ?_
      refine V.get (v := .ref (a 1)) (fun w H => List.mem_cons_of_mem _ (List.mem_append_right _ H)) (hc := (rfl : vwCl[6]? = some (RX6, TX6, 15))) 0 0 (by decide) (List.mem_of_getElem? (i := 1) rfl) rfl rfl dX6_placesThat_6 ?_
      refine V.bipush (v := 6) dX6_placesThat_9 (by decide) ?_
      refine V.iald (f := z) 1 6 rfl rfl (by decide) (by decide) dX6_placesThat_11 ?_
      refine V.icmp_ge_f (tgt := 39) (by rw [hP]; exact nI_ge (by omega) (by omega)) dX6_placesThat_12 (by decide) ?_
      refine V.iload_n 1 rfl dX6_placesThat_15 rfl ?_
      refine V.aload_n 2 rfl dX6_placesThat_16 rfl ?_
      refine V.iload_n 0 rfl dX6_placesThat_17 rfl ?_
      refine V.iconst (v := 2) dX6_placesThat_18 (by decide) ?_
      refine V.callVf (ws2 := MW g a z hi tx ai pa tu pt ke st le th re nu du ha) (st2 := [.int (z (76 + 5 * i + 2)), .int c]) [.int (nI i), .int 2] [.int c] (kX6_ofPlace g a z hi tx ai pa tu pt ke st le th re nu du ha i 2 (by first | omega | decide) (by first | omega | decide)) gX6_placesThat_X6_ofPlace rfl (by show _ ∧ _ ∧ _ ∧ _ = some (2 : Nat); decide +kernel) ⟨Nat.le_of_ble_eq_true rfl, Nat.le_of_ble_eq_true rfl⟩ (hc := (rfl : vwCl[6]? = some (RX6, TX6, 15))) 0 rfl [0, 1, 2, 3, 4, 5, 6, 7, 8] (by decide) rfl rfl (Nat.le_of_ble_eq_true rfl) ⟨Nat.le_of_ble_eq_true rfl, Nat.le_of_ble_eq_true rfl⟩ dX6_placesThat_19 MWf rfl rfl rfl rfl ?_
      refine V.iload_n 3 rfl dX6_placesThat_22 rfl ?_
      refine V.icmp_ne (tgt := 30) dX6_placesThat_23 (by decide) (fun c23 => ?_) (fun c23 => ?_)
      · skip
        refine V.iconst (v := 0) dX6_placesThat_30 (by decide) ?_
        refine V.iadd dX6_placesThat_31 ?_
        refine V.istore_n (lv2 := [(2, .int (c + 0)), (3, .int (nI i)), (0, .ref (a 0)), (1, .int x)]) dX6_placesThat_32 rfl (by decide) rfl ?_
        refine V.iinc (v := nI (i + 1)) (lv2 := [(3, .int (nI (i + 1))), (2, .int (c + 0)), (0, .ref (a 0)), (1, .int x)]) 1 rfl dX6_placesThat_33 (nI_add i 1) (by decide) rfl ?_
        refine V.goto (tgt := 4) dX6_placesThat_36 (by decide) ?_
        refine V.eqlv (lv2 := [(3, .int (nI (i + 1))), (2, .int (c + 0)), (0, .ref (a 0)), (1, .int x)]) [0, 1, 2, 3] rfl ?_
        exact ih (i + 1) (c + 0) (by omega) (by rw [← hfu, pTF, if_neg c23])
      · skip
        refine V.iconst (v := 1) dX6_placesThat_26 (by decide) ?_
        refine V.goto (tgt := 31) dX6_placesThat_27 (by decide) ?_
        refine V.iadd dX6_placesThat_31 ?_
        refine V.istore_n (lv2 := [(2, .int (c + 1)), (3, .int (nI i)), (0, .ref (a 0)), (1, .int x)]) dX6_placesThat_32 rfl (by decide) rfl ?_
        refine V.iinc (v := nI (i + 1)) (lv2 := [(3, .int (nI (i + 1))), (2, .int (c + 1)), (0, .ref (a 0)), (1, .int x)]) 1 rfl dX6_placesThat_33 (nI_add i 1) (by decide) rfl ?_
        refine V.goto (tgt := 4) dX6_placesThat_36 (by decide) ?_
        refine V.eqlv (lv2 := [(3, .int (nI (i + 1))), (2, .int (c + 1)), (0, .ref (a 0)), (1, .int x)]) [0, 1, 2, 3] rfl ?_
        exact ih (i + 1) (c + 1) (by omega) (by rw [← hfu, pTF, if_pos c23])
  refine V.eqlv (lv2 := [(3, .int 0), (2, .int 0), (0, .ref (a 0)), (1, .int x)]) [0, 1, 2, 3] rfl ?_
  exact L4 (np z) 0 0 (by omega) rfl
abbrev rmX6_inspects : Room := { frames := 2, cells := 0, slots := 0, locals := 46 }
set_option maxHeartbeats 4000000 in
set_option maxRecDepth 100000 in
theorem kX6_inspects (g : GT) (a : Nat → Nat) (z hi tx ai pa tu pt ke : Nat → Int32) (st le th re nu du : Int32) (ha : Int64) (hP : z 6 = nI (np z)) (hP24 : np z ≤ 24) (hI : PI z) : UC g yX6_inspects wsX6_inspects rmX6_inspects [.ref (a 0)] (MW g a z hi tx ai pa tu pt ke st le th re nu du ha) (Qf (some (.int ((inL z).2))) (MW g a (inZ z) hi tx ai pa tu pt ke st le th re nu du ha)) := by
  refine UC.ofV (cc := cX6_inspects) (maxL := 3) (ret := some .int) (lv0 := [(0, .ref (a 0))]) (by decide) rfl (Nat.le_of_ble_eq_true rfl) rfl ?_
  generalize hQF : QFr g rmX6_inspects (Qf (some (.int ((inL z).2))) (MW g a (inZ z) hi tx ai pa tu pt ke st le th re nu du ha)) = QF
  have hq : QFok g rmX6_inspects (Qf (some (.int ((inL z).2))) (MW g a (inZ z) hi tx ai pa tu pt ke st le th re nu du ha)) QF := hQF ▸ QFr.q
  refine V.iconst (v := 0) dX6_inspects_0 (by decide) ?_
  refine V.istore_n (lv2 := [(1, .int 0), (0, .ref (a 0))]) dX6_inspects_1 rfl (by decide) rfl ?_
  refine V.iconst (v := 0) dX6_inspects_2 (by decide) ?_
  refine V.istore_n (lv2 := [(2, .int 0), (1, .int 0), (0, .ref (a 0))]) dX6_inspects_3 rfl (by decide) rfl ?_
  have L4 : ∀ (kL : Nat) (i : Nat) (s : (Nat → Int32) × Int32), i + kL = np z → (lo7 s.1 z) → (PI s.1) → (fu inF i kL s = inL z) → V g rmX6_inspects RX6 cX6_inspects wsX6_inspects 3 QF (XM (some .int) "inspects") 0 0 (MW g a s.1 hi tx ai pa tu pt ke st le th re nu du ha) 4 [(2, .int (nI i)), (1, .int s.2), (0, .ref (a 0))] [] := by
    intro kL
    induction kL with
    | zero =>
      intro i s hrel hs7 hI2 hfu
      rw [fu_0] at hfu
      have hP1 : s.1 6 = nI (np z) := (hs7 6 (by decide)).trans hP
      refine V.iload_n 0 rfl dX6_inspects_4 rfl ?_
      refine V.aload_n 2 rfl dX6_inspects_5 rfl ?_
      refine V.get (v := .ref (a 1)) (fun w H => List.mem_cons_of_mem _ (List.mem_append_right _ H)) (hc := (rfl : vwCl[6]? = some (RX6, TX6, 15))) 0 0 (by decide) (List.mem_of_getElem? (i := 1) rfl) rfl rfl dX6_inspects_6 ?_
      refine V.bipush (v := 6) dX6_inspects_9 (by decide) ?_
      refine V.iald (f := s.1) 1 6 rfl rfl (by decide) (by decide) dX6_inspects_11 ?_
      refine V.icmp_ge_t (tgt := 62) (by rw [hP1, show i = np z from by omega]; exact nI_le (Nat.le_refl _) (by omega)) dX6_inspects_12 (by decide) ?_
      have hL : s = inL z := hfu
      subst hL
      refine V.aload_n 2 rfl dX6_inspects_62 rfl ?_
      refine V.get (v := .ref (a 1)) (fun w H => List.mem_cons_of_mem _ (List.mem_append_right _ H)) (hc := (rfl : vwCl[6]? = some (RX6, TX6, 15))) 0 0 (by decide) (List.mem_of_getElem? (i := 1) rfl) rfl rfl dX6_inspects_63 ?_
      refine V.bipush (v := 7) dX6_inspects_66 (by decide) ?_
      refine V.dup2 dX6_inspects_68 rfl rfl ?_
      refine V.iald (f := (inL z).1) 1 7 rfl rfl (by decide) (by decide) dX6_inspects_69 ?_
      refine V.bipush (v := 10) dX6_inspects_70 (by decide) ?_
      refine V.iadd dX6_inspects_72 ?_
      refine V.iast (f := (inL z).1) (ws2 := MW g a (upd ((inL z).1) 7 ((((inL z).1) 7) + 10)) hi tx ai pa tu pt ke st le th re nu du ha) 1 7 rfl rfl (by decide) (by decide) rfl dX6_inspects_73 ?_
      refine V.aload_n 2 rfl dX6_inspects_74 rfl ?_
      refine V.get (v := .ref (a 1)) (fun w H => List.mem_cons_of_mem _ (List.mem_append_right _ H)) (hc := (rfl : vwCl[6]? = some (RX6, TX6, 15))) 0 0 (by decide) (List.mem_of_getElem? (i := 1) rfl) rfl rfl dX6_inspects_75 ?_
      refine V.bipush (v := 11) dX6_inspects_78 (by decide) ?_
      refine V.dup2 dX6_inspects_80 rfl rfl ?_
      refine V.iald (f := upd ((inL z).1) 7 ((((inL z).1) 7) + 10)) 1 11 rfl rfl (by decide) (by decide) dX6_inspects_81 ?_
      refine V.iload_n 1 rfl dX6_inspects_82 rfl ?_
      refine V.iadd dX6_inspects_83 ?_
      refine V.iast (f := upd ((inL z).1) 7 ((((inL z).1) 7) + 10)) (ws2 := MW g a (upd (upd ((inL z).1) 7 ((((inL z).1) 7) + 10)) 11 (((upd ((inL z).1) 7 ((((inL z).1) 7) + 10)) 11) + ((inL z).2))) hi tx ai pa tu pt ke st le th re nu du ha) 1 11 rfl rfl (by decide) (by decide) rfl dX6_inspects_84 ?_
      refine V.iload_n 1 rfl dX6_inspects_85 rfl ?_
      exact V.iret hq XM.r (Nat.le_of_ble_eq_true rfl) (Nat.le_of_ble_eq_true rfl) ⟨rfl, rfl⟩ dX6_inspects_86
    | succ kL ih =>
      intro i s hrel hs7 hI2 hfu
      rw [fu_s] at hfu
      have hP1 : s.1 6 = nI (np z) := (hs7 6 (by decide)).trans hP
      refine V.iload_n 0 rfl dX6_inspects_4 rfl ?_
      refine V.aload_n 2 rfl dX6_inspects_5 rfl ?_
      refine V.get (v := .ref (a 1)) (fun w H => List.mem_cons_of_mem _ (List.mem_append_right _ H)) (hc := (rfl : vwCl[6]? = some (RX6, TX6, 15))) 0 0 (by decide) (List.mem_of_getElem? (i := 1) rfl) rfl rfl dX6_inspects_6 ?_
      refine V.bipush (v := 6) dX6_inspects_9 (by decide) ?_
      refine V.iald (f := s.1) 1 6 rfl rfl (by decide) (by decide) dX6_inspects_11 ?_
      refine V.icmp_ge_f (tgt := 62) (by rw [hP1]; exact nI_ge (by omega) (by omega)) dX6_inspects_12 (by decide) ?_
      refine V.aload_n 2 rfl dX6_inspects_15 rfl ?_
      refine V.iload_n 0 rfl dX6_inspects_16 rfl ?_
      refine V.iconst (v := 2) dX6_inspects_17 (by decide) ?_
      refine V.callVf (ws2 := MW g a s.1 hi tx ai pa tu pt ke st le th re nu du ha) (st2 := [.int (s.1 (76 + 5 * i + 2))]) [.int (nI i), .int 2] [] (kX6_ofPlace g a s.1 hi tx ai pa tu pt ke st le th re nu du ha i 2 (by first | omega | decide) (by first | omega | decide)) gX6_inspects_X6_ofPlace rfl (by show _ ∧ _ ∧ _ ∧ _ = some (2 : Nat); decide +kernel) ⟨Nat.le_of_ble_eq_true rfl, Nat.le_of_ble_eq_true rfl⟩ (hc := (rfl : vwCl[6]? = some (RX6, TX6, 15))) 0 rfl [0, 1, 2, 3, 4, 5, 6, 7, 8] (by decide) rfl rfl (Nat.le_of_ble_eq_true rfl) ⟨Nat.le_of_ble_eq_true rfl, Nat.le_of_ble_eq_true rfl⟩ dX6_inspects_18 MWf rfl rfl rfl rfl ?_
      refine V.iconst (v := 2) dX6_inspects_21 (by decide) ?_
      refine V.icmp_ne (tgt := 56) dX6_inspects_22 (by decide) (fun c22 => ?_) (fun c22 => ?_)
      · skip
        refine V.iinc (v := nI (i + 1)) (lv2 := [(2, .int (nI (i + 1))), (1, .int s.2), (0, .ref (a 0))]) 0 rfl dX6_inspects_56 (nI_add i 1) (by decide) rfl ?_
        refine V.goto (tgt := 4) dX6_inspects_59 (by decide) ?_
        refine V.eqlv (lv2 := [(2, .int (nI (i + 1))), (1, .int s.2), (0, .ref (a 0))]) [0, 1, 2] rfl ?_
        exact ih (i + 1) s (by omega) hs7 hI2 (by rw [← hfu, inF, if_neg c22])
      · skip
        obtain ⟨hn, hn4, hf, hf8⟩ := hI2 i (by omega) c22
        have hin : inF i s = (emz (tM s.1 (s.1 (76 + 5 * i + 3)).toNatClampNeg (s.1 (76 + 5 * i + 4)).toNatClampNeg (-(s.1 1))) i, s.2 + 1) := by rw [inF, if_pos c22]
        generalize (s.1 (76 + 5 * i + 3)).toNatClampNeg = n at hn hn4 hin
        generalize (s.1 (76 + 5 * i + 4)).toNatClampNeg = f at hf hf8 hin
        refine V.aload_n 2 rfl dX6_inspects_25 rfl ?_
        refine V.aload_n 2 rfl dX6_inspects_26 rfl ?_
        refine V.iload_n 0 rfl dX6_inspects_27 rfl ?_
        refine V.iconst (v := 3) dX6_inspects_28 (by decide) ?_
        refine V.callVf (ws2 := MW g a s.1 hi tx ai pa tu pt ke st le th re nu du ha) (st2 := [.int (s.1 (76 + 5 * i + 3)), .ref (a 0)]) [.int (nI i), .int 3] [.ref (a 0)] (kX6_ofPlace g a s.1 hi tx ai pa tu pt ke st le th re nu du ha i 3 (by first | omega | decide) (by first | omega | decide)) gX6_inspects_X6_ofPlace rfl (by show _ ∧ _ ∧ _ ∧ _ = some (2 : Nat); decide +kernel) ⟨Nat.le_of_ble_eq_true rfl, Nat.le_of_ble_eq_true rfl⟩ (hc := (rfl : vwCl[6]? = some (RX6, TX6, 15))) 0 rfl [0, 1, 2, 3, 4, 5, 6, 7, 8] (by decide) rfl rfl (Nat.le_of_ble_eq_true rfl) ⟨Nat.le_of_ble_eq_true rfl, Nat.le_of_ble_eq_true rfl⟩ dX6_inspects_29 MWf rfl rfl rfl rfl ?_
        rw [hn]
        refine V.aload_n 2 rfl dX6_inspects_32 rfl ?_
        refine V.iload_n 0 rfl dX6_inspects_33 rfl ?_
        refine V.iconst (v := 4) dX6_inspects_34 (by decide) ?_
        refine V.callVf (ws2 := MW g a s.1 hi tx ai pa tu pt ke st le th re nu du ha) (st2 := [.int (s.1 (76 + 5 * i + 4)), .int (nI n), .ref (a 0)]) [.int (nI i), .int 4] [.int (nI n), .ref (a 0)] (kX6_ofPlace g a s.1 hi tx ai pa tu pt ke st le th re nu du ha i 4 (by first | omega | decide) (by first | omega | decide)) gX6_inspects_X6_ofPlace rfl (by show _ ∧ _ ∧ _ ∧ _ = some (2 : Nat); decide +kernel) ⟨Nat.le_of_ble_eq_true rfl, Nat.le_of_ble_eq_true rfl⟩ (hc := (rfl : vwCl[6]? = some (RX6, TX6, 15))) 0 rfl [0, 1, 2, 3, 4, 5, 6, 7, 8] (by decide) rfl rfl (Nat.le_of_ble_eq_true rfl) ⟨Nat.le_of_ble_eq_true rfl, Nat.le_of_ble_eq_true rfl⟩ dX6_inspects_35 MWf rfl rfl rfl rfl ?_
        rw [hf]
        refine V.aload_n 2 rfl dX6_inspects_38 rfl ?_
        refine V.get (v := .ref (a 1)) (fun w H => List.mem_cons_of_mem _ (List.mem_append_right _ H)) (hc := (rfl : vwCl[6]? = some (RX6, TX6, 15))) 0 0 (by decide) (List.mem_of_getElem? (i := 1) rfl) rfl rfl dX6_inspects_39 ?_
        refine V.iconst (v := 1) dX6_inspects_42 (by decide) ?_
        refine V.iald (f := s.1) 1 1 rfl rfl (by decide) (by decide) dX6_inspects_43 ?_
        refine V.ineg dX6_inspects_44 ?_
        refine V.callVf (ws2 := MW g a (tM s.1 n f (-(s.1 1))) hi tx ai pa tu pt ke st le th re nu du ha) (st2 := []) [.int (nI n), .int (nI f), .int (-(s.1 1))] [] (kX6_trustMore g a s.1 hi tx ai pa tu pt ke st le th re nu du ha n f (-(s.1 1)) (by first | omega | decide) (by first | omega | decide)) gX6_inspects_X6_trustMore rfl (by show _ ∧ _ ∧ _ ∧ _ = some (3 : Nat); decide +kernel) ⟨Nat.le_of_ble_eq_true rfl, Nat.le_of_ble_eq_true rfl⟩ (hc := (rfl : vwCl[6]? = some (RX6, TX6, 15))) 0 rfl [0, 1, 2, 3, 4, 5, 6, 7, 8] (by decide) rfl rfl (Nat.le_of_ble_eq_true rfl) ⟨Nat.le_of_ble_eq_true rfl, Nat.le_of_ble_eq_true rfl⟩ dX6_inspects_45 MWf rfl rfl rfl rfl ?_
        refine V.aload_n 2 rfl dX6_inspects_48 rfl ?_
        refine V.iload_n 0 rfl dX6_inspects_49 rfl ?_
        refine V.callVf (ws2 := MW g a (emz (tM s.1 n f (-(s.1 1))) i) hi tx ai pa tu pt ke st le th re nu du ha) (st2 := []) [.int (nI i)] [] (kX6_empty g a (tM s.1 n f (-(s.1 1))) hi tx ai pa tu pt ke st le th re nu du ha i (by first | omega | decide)) gX6_inspects_X6_empty rfl (by show _ ∧ _ ∧ _ ∧ _ = some (1 : Nat); decide +kernel) ⟨Nat.le_of_ble_eq_true rfl, Nat.le_of_ble_eq_true rfl⟩ (hc := (rfl : vwCl[6]? = some (RX6, TX6, 15))) 0 rfl [0, 1, 2, 3, 4, 5, 6, 7, 8] (by decide) rfl rfl (Nat.le_of_ble_eq_true rfl) ⟨Nat.le_of_ble_eq_true rfl, Nat.le_of_ble_eq_true rfl⟩ dX6_inspects_50 MWf rfl rfl rfl rfl ?_
        refine V.iinc (v := s.2 + 1) (lv2 := [(1, .int (s.2 + 1)), (2, .int (nI i)), (0, .ref (a 0))]) 1 rfl dX6_inspects_53 rfl (by decide) rfl ?_
        refine V.iinc (v := nI (i + 1)) (lv2 := [(2, .int (nI (i + 1))), (1, .int (s.2 + 1)), (0, .ref (a 0))]) 1 rfl dX6_inspects_56 (nI_add i 1) (by decide) rfl ?_
        refine V.goto (tgt := 4) dX6_inspects_59 (by decide) ?_
        refine V.eqlv (lv2 := [(2, .int (nI (i + 1))), (1, .int (s.2 + 1)), (0, .ref (a 0))]) [0, 1, 2] rfl ?_
        exact ih (i + 1) (emz (tM s.1 n f (-(s.1 1))) i, s.2 + 1) (by omega) (hin ▸ inF_lo7.tr hs7) (hin ▸ inF_PI hI2) (by rw [← hfu, hin])
  refine V.eqlv (lv2 := [(2, .int 0), (1, .int 0), (0, .ref (a 0))]) [0, 1, 2] rfl ?_
  exact L4 (np z) 0 (z, 0) (by omega) lo7.rf hI rfl
abbrev rmX6_keep : Room := { frames := 0, cells := 0, slots := 0, locals := 0 }
set_option maxHeartbeats 4000000 in
set_option maxRecDepth 100000 in
theorem kX6_keep (g : GT) (a : Nat → Nat) (z hi tx ai pa tu pt ke : Nat → Int32) (st le th re nu du : Int32) (ha : Int64) : UC g yX6_keep wsX6_keep rmX6_keep [.ref (a 0)] (MW g a z hi tx ai pa tu pt ke st le th re nu du ha) (Qf (none) (MW g a z hi tx ai pa tu pt (fu (cpF z) 0 248 ke) st le th re nu du ha)) := by
  refine UC.ofV (cc := cX6_keep) (maxL := 2) (ret := none) (lv0 := [(0, .ref (a 0))]) (by decide) rfl (Nat.le_of_ble_eq_true rfl) rfl ?_
  generalize hQF : QFr g rmX6_keep (Qf (none) (MW g a z hi tx ai pa tu pt (fu (cpF z) 0 248 ke) st le th re nu du ha)) = QF
  have hq : QFok g rmX6_keep (Qf (none) (MW g a z hi tx ai pa tu pt (fu (cpF z) 0 248 ke) st le th re nu du ha)) QF := hQF ▸ QFr.q
  refine V.iconst (v := 0) dX6_keep_0 (by decide) ?_
  refine V.istore_n (lv2 := [(1, .int 0), (0, .ref (a 0))]) dX6_keep_1 rfl (by decide) rfl ?_
  have L2 : ∀ (kL : Nat) (i : Nat) (y : Nat → Int32), i + kL = 248 → (fu (cpF z) i kL y = fu (cpF z) 0 248 ke) → V g rmX6_keep RX6 cX6_keep wsX6_keep 2 QF (XM none "keep") 0 0 (MW g a z hi tx ai pa tu pt y st le th re nu du ha) 2 [(1, .int (nI i)), (0, .ref (a 0))] [] := by
    intro kL
    induction kL with
    | zero =>
      intro i y hrel hfu
      rw [fu_0] at hfu
      refine V.iload_n 0 rfl dX6_keep_2 rfl ?_
      refine V.sipush (v := 248) dX6_keep_3 (by decide) ?_
      refine V.icmp_ge_t (tgt := 27) (by rw [show i = 248 from by omega]; decide) dX6_keep_6 (by decide) ?_
      exact V.vret hq XM.r (Nat.le_of_ble_eq_true rfl) (Nat.le_of_ble_eq_true rfl) ⟨rfl, by rw [← hfu] <;> rfl⟩ dX6_keep_27
    | succ kL ih =>
      intro i y hrel hfu
      rw [fu_s] at hfu
      refine V.iload_n 0 rfl dX6_keep_2 rfl ?_
      refine V.sipush (v := 248) dX6_keep_3 (by decide) ?_
      refine V.icmp_ge_f (tgt := 27) (by exact nI_ge (a := i) (b := 248) (by omega) (by decide)) dX6_keep_6 (by decide) ?_
      refine V.aload_n 1 rfl dX6_keep_9 rfl ?_
      refine V.get (v := .ref (a 8)) (fun w H => List.mem_cons_of_mem _ (List.mem_append_right _ H)) (hc := (rfl : vwCl[6]? = some (RX6, TX6, 15))) 0 13 (by decide) (List.mem_of_getElem? (i := 1) rfl) rfl rfl dX6_keep_10 ?_
      refine V.iload_n 0 rfl dX6_keep_13 rfl ?_
      refine V.aload_n 1 rfl dX6_keep_14 rfl ?_
      refine V.get (v := .ref (a 1)) (fun w H => List.mem_cons_of_mem _ (List.mem_append_right _ H)) (hc := (rfl : vwCl[6]? = some (RX6, TX6, 15))) 0 0 (by decide) (List.mem_of_getElem? (i := 2) rfl) rfl rfl dX6_keep_15 ?_
      refine V.iload_n 0 rfl dX6_keep_18 rfl ?_
      refine V.iald (f := z) 1 i rfl rfl (by omega) (by decide) dX6_keep_19 ?_
      refine V.iast (f := y) (ws2 := MW g a z hi tx ai pa tu pt (upd y i (z i)) st le th re nu du ha) 8 i rfl rfl (by omega) (by decide) rfl dX6_keep_20 ?_
      refine V.iinc (v := nI (i + 1)) (lv2 := [(1, .int (nI (i + 1))), (0, .ref (a 0))]) 0 rfl dX6_keep_21 (nI_add i 1) (by decide) rfl ?_
      refine V.goto (tgt := 2) dX6_keep_24 (by decide) ?_
      refine V.eqlv (lv2 := [(1, .int (nI (i + 1))), (0, .ref (a 0))]) [0, 1] rfl ?_
      exact ih (i + 1) (cpF z i y) (by omega) hfu
  refine V.eqlv (lv2 := [(1, .int 0), (0, .ref (a 0))]) [0, 1] rfl ?_
  exact L2 248 0 ke (by omega) rfl
abbrev rmX6_layBack : Room := { frames := 0, cells := 0, slots := 0, locals := 0 }
set_option maxHeartbeats 4000000 in
set_option maxRecDepth 100000 in
theorem kX6_layBack (g : GT) (a : Nat → Nat) (z hi tx ai pa tu pt ke : Nat → Int32) (st le th re nu du : Int32) (ha : Int64) : UC g yX6_layBack wsX6_layBack rmX6_layBack [.ref (a 0)] (MW g a z hi tx ai pa tu pt ke st le th re nu du ha) (Qf (none) (MW g a (fu (cpF ke) 0 248 z) hi tx ai pa tu pt ke st le th re nu du ha)) := by
  refine UC.ofV (cc := cX6_layBack) (maxL := 2) (ret := none) (lv0 := [(0, .ref (a 0))]) (by decide) rfl (Nat.le_of_ble_eq_true rfl) rfl ?_
  generalize hQF : QFr g rmX6_layBack (Qf (none) (MW g a (fu (cpF ke) 0 248 z) hi tx ai pa tu pt ke st le th re nu du ha)) = QF
  have hq : QFok g rmX6_layBack (Qf (none) (MW g a (fu (cpF ke) 0 248 z) hi tx ai pa tu pt ke st le th re nu du ha)) QF := hQF ▸ QFr.q
  refine V.iconst (v := 0) dX6_layBack_0 (by decide) ?_
  refine V.istore_n (lv2 := [(1, .int 0), (0, .ref (a 0))]) dX6_layBack_1 rfl (by decide) rfl ?_
  have L2 : ∀ (kL : Nat) (i : Nat) (y : Nat → Int32), i + kL = 248 → (fu (cpF ke) i kL y = fu (cpF ke) 0 248 z) → V g rmX6_layBack RX6 cX6_layBack wsX6_layBack 2 QF (XM none "layBack") 0 0 (MW g a y hi tx ai pa tu pt ke st le th re nu du ha) 2 [(1, .int (nI i)), (0, .ref (a 0))] [] := by
    intro kL
    induction kL with
    | zero =>
      intro i y hrel hfu
      rw [fu_0] at hfu
      refine V.iload_n 0 rfl dX6_layBack_2 rfl ?_
      refine V.sipush (v := 248) dX6_layBack_3 (by decide) ?_
      refine V.icmp_ge_t (tgt := 27) (by rw [show i = 248 from by omega]; decide) dX6_layBack_6 (by decide) ?_
      exact V.vret hq XM.r (Nat.le_of_ble_eq_true rfl) (Nat.le_of_ble_eq_true rfl) ⟨rfl, by rw [← hfu] <;> rfl⟩ dX6_layBack_27
    | succ kL ih =>
      intro i y hrel hfu
      rw [fu_s] at hfu
      refine V.iload_n 0 rfl dX6_layBack_2 rfl ?_
      refine V.sipush (v := 248) dX6_layBack_3 (by decide) ?_
      refine V.icmp_ge_f (tgt := 27) (by exact nI_ge (a := i) (b := 248) (by omega) (by decide)) dX6_layBack_6 (by decide) ?_
      refine V.aload_n 1 rfl dX6_layBack_9 rfl ?_
      refine V.get (v := .ref (a 1)) (fun w H => List.mem_cons_of_mem _ (List.mem_append_right _ H)) (hc := (rfl : vwCl[6]? = some (RX6, TX6, 15))) 0 0 (by decide) (List.mem_of_getElem? (i := 1) rfl) rfl rfl dX6_layBack_10 ?_
      refine V.iload_n 0 rfl dX6_layBack_13 rfl ?_
      refine V.aload_n 1 rfl dX6_layBack_14 rfl ?_
      refine V.get (v := .ref (a 8)) (fun w H => List.mem_cons_of_mem _ (List.mem_append_right _ H)) (hc := (rfl : vwCl[6]? = some (RX6, TX6, 15))) 0 13 (by decide) (List.mem_of_getElem? (i := 2) rfl) rfl rfl dX6_layBack_15 ?_
      refine V.iload_n 0 rfl dX6_layBack_18 rfl ?_
      refine V.iald (f := ke) 8 i rfl rfl (by omega) (by decide) dX6_layBack_19 ?_
      refine V.iast (f := y) (ws2 := MW g a (upd y i (ke i)) hi tx ai pa tu pt ke st le th re nu du ha) 1 i rfl rfl (by omega) (by decide) rfl dX6_layBack_20 ?_
      refine V.iinc (v := nI (i + 1)) (lv2 := [(1, .int (nI (i + 1))), (0, .ref (a 0))]) 0 rfl dX6_layBack_21 (nI_add i 1) (by decide) rfl ?_
      refine V.goto (tgt := 2) dX6_layBack_24 (by decide) ?_
      refine V.eqlv (lv2 := [(1, .int (nI (i + 1))), (0, .ref (a 0))]) [0, 1] rfl ?_
      exact ih (i + 1) (cpF ke i y) (by omega) hfu
  refine V.eqlv (lv2 := [(1, .int 0), (0, .ref (a 0))]) [0, 1] rfl ?_
  exact L2 248 0 z (by omega) rfl
abbrev rmX6_save : Room := { frames := 0, cells := 0, slots := 0, locals := 0 }
set_option maxHeartbeats 4000000 in
set_option maxRecDepth 100000 in
theorem kX6_save (g : GT) (a : Nat → Nat) (z hi tx ai pa tu pt ke : Nat → Int32) (le th re nu du : Int32) (ha : Int64) (sn : Nat) (hs : sn ≤ 6) : UC g yX6_save wsX6_save rmX6_save [.ref (a 0)] (MW g a z hi tx ai pa tu pt ke (nI sn) le th re nu du ha) (Qf (none) (MW g a z (svA sn z hi) tx ai pa tu pt ke (nI (svM sn + 1)) le th re nu du ha)) := by
  refine UC.ofV (cc := cX6_save) (maxL := 2) (ret := none) (lv0 := [(0, .ref (a 0))]) (by decide) rfl (Nat.le_of_ble_eq_true rfl) rfl ?_
  generalize hQF : QFr g rmX6_save (Qf (none) (MW g a z (svA sn z hi) tx ai pa tu pt ke (nI (svM sn + 1)) le th re nu du ha)) = QF
  have hq : QFok g rmX6_save (Qf (none) (MW g a z (svA sn z hi) tx ai pa tu pt ke (nI (svM sn + 1)) le th re nu du ha)) QF := hQF ▸ QFr.q
  have hm5 := svM_le hs
  have J52 : V g rmX6_save RX6 cX6_save wsX6_save 2 QF (XM none "save") 0 0 (MW g a z (svH sn hi) tx ai pa tu pt ke (nI (svM sn)) le th re nu du ha) 52 [(0, .ref (a 0))] [] := by
    refine V.iconst (v := 0) dX6_save_52 (by decide) ?_
    refine V.istore_n (lv2 := [(1, .int 0), (0, .ref (a 0))]) dX6_save_53 rfl (by decide) rfl ?_
    have L54 : ∀ (kL : Nat) (i : Nat) (y : Nat → Int32), i + kL = 248 → (fu (svF z (svM sn)) i kL y = svA sn z hi) → V g rmX6_save RX6 cX6_save wsX6_save 2 QF (XM none "save") 0 0 (MW g a z y tx ai pa tu pt ke (nI (svM sn)) le th re nu du ha) 54 [(1, .int (nI i)), (0, .ref (a 0))] [] := by
      intro kL
      induction kL with
      | zero =>
        intro i y hrel hfu
        rw [fu_0] at hfu
        refine V.iload_n 0 rfl dX6_save_54 rfl ?_
        refine V.sipush (v := 248) dX6_save_55 (by decide) ?_
        refine V.icmp_ge_t (tgt := 88) (by rw [show i = 248 from by omega]; decide) dX6_save_58 (by decide) ?_
        refine V.aload_n 1 rfl dX6_save_88 rfl ?_
        refine V.dup dX6_save_89 rfl ?_
        refine V.get (v := .int (nI (svM sn))) (fun w H => List.mem_cons_of_mem _ (List.mem_append_right _ H)) (hc := (rfl : vwCl[6]? = some (RX6, TX6, 15))) 0 1 (by decide) (List.mem_of_getElem? (i := 1) rfl) rfl rfl dX6_save_90 ?_
        refine V.iconst (v := 1) dX6_save_93 (by decide) ?_
        refine V.iaddN (v := nI (svM sn + 1)) dX6_save_94 (nI_add (svM sn) 1) ?_
        refine V.put (v := .int (nI (svM sn + 1))) (ws2 := MW g a z y tx ai pa tu pt ke (nI (svM sn + 1)) le th re nu du ha) (fun w H => List.mem_cons_of_mem _ (List.mem_append_right _ H)) tyX6 tyX6_ok nmX6 (hc := (rfl : vwCl[6]? = some (RX6, TX6, 15))) 0 1 (by decide) (List.mem_of_getElem? (i := 1) rfl) rfl rfl (tyX6_ok 1 (by decide)) rfl rfl (Nat.le_of_ble_eq_true rfl) rfl dX6_save_95 ?_
        exact V.vret hq XM.r (Nat.le_of_ble_eq_true rfl) (Nat.le_of_ble_eq_true rfl) ⟨rfl, by rw [← hfu] <;> rfl⟩ dX6_save_98
      | succ kL ih =>
        intro i y hrel hfu
        rw [fu_s] at hfu
        refine V.iload_n 0 rfl dX6_save_54 rfl ?_
        refine V.sipush (v := 248) dX6_save_55 (by decide) ?_
        refine V.icmp_ge_f (tgt := 88) (by exact nI_ge (a := i) (b := 248) (by omega) (by decide)) dX6_save_58 (by decide) ?_
        refine V.aload_n 1 rfl dX6_save_61 rfl ?_
        refine V.get (v := .ref (a 2)) (fun w H => List.mem_cons_of_mem _ (List.mem_append_right _ H)) (hc := (rfl : vwCl[6]? = some (RX6, TX6, 15))) 0 2 (by decide) (List.mem_of_getElem? (i := 2) rfl) rfl rfl dX6_save_62 ?_
        refine V.sipush (v := 248) dX6_save_65 (by decide) ?_
        refine V.aload_n 1 rfl dX6_save_68 rfl ?_
        refine V.get (v := .int (nI (svM sn))) (fun w H => List.mem_cons_of_mem _ (List.mem_append_right _ H)) (hc := (rfl : vwCl[6]? = some (RX6, TX6, 15))) 0 1 (by decide) (List.mem_of_getElem? (i := 1) rfl) rfl rfl dX6_save_69 ?_
        refine V.imulN (v := nI (248 * (svM sn))) dX6_save_72 (pk_mul 248 (svM sn)) ?_
        refine V.iload_n 0 rfl dX6_save_73 rfl ?_
        refine V.iaddN (v := nI (248 * (svM sn) + i)) dX6_save_74 (nI_add (248 * (svM sn)) i) ?_
        refine V.aload_n 1 rfl dX6_save_75 rfl ?_
        refine V.get (v := .ref (a 1)) (fun w H => List.mem_cons_of_mem _ (List.mem_append_right _ H)) (hc := (rfl : vwCl[6]? = some (RX6, TX6, 15))) 0 0 (by decide) (List.mem_of_getElem? (i := 3) rfl) rfl rfl dX6_save_76 ?_
        refine V.iload_n 0 rfl dX6_save_79 rfl ?_
        refine V.iald (f := z) 1 i rfl rfl (by omega) (by decide) dX6_save_80 ?_
        refine V.iast (f := y) (ws2 := MW g a z (upd y (248 * (svM sn) + i) (z i)) tx ai pa tu pt ke (nI (svM sn)) le th re nu du ha) 2 (248 * (svM sn) + i) rfl rfl (by omega) (by decide) rfl dX6_save_81 ?_
        refine V.iinc (v := nI (i + 1)) (lv2 := [(1, .int (nI (i + 1))), (0, .ref (a 0))]) 0 rfl dX6_save_82 (nI_add i 1) (by decide) rfl ?_
        refine V.goto (tgt := 54) dX6_save_85 (by decide) ?_
        refine V.eqlv (lv2 := [(1, .int (nI (i + 1))), (0, .ref (a 0))]) [0, 1] rfl ?_
        exact ih (i + 1) (svF z (svM sn) i y) (by omega) hfu
    refine V.eqlv (lv2 := [(1, .int 0), (0, .ref (a 0))]) [0, 1] rfl ?_
    exact L54 248 0 (svH sn hi) (by omega) rfl
  by_cases h6 : sn = 6
  · skip
    refine V.aload_n 0 rfl dX6_save_0 rfl ?_
    refine V.get (v := .int (nI sn)) (fun w H => List.mem_cons_of_mem _ (List.mem_append_right _ H)) (hc := (rfl : vwCl[6]? = some (RX6, TX6, 15))) 0 1 (by decide) (List.mem_of_getElem? (i := 1) rfl) rfl rfl dX6_save_1 ?_
    refine V.bipush (v := 6) dX6_save_4 (by decide) ?_
    refine V.icmp_ne_f (tgt := 52) (by rw [h6]; rfl) dX6_save_6 (by decide) ?_
    refine V.sipush (v := 248) dX6_save_9 (by decide) ?_
    refine V.istore_n (lv2 := [(1, .int 248), (0, .ref (a 0))]) dX6_save_12 rfl (by decide) rfl ?_
    have L13 : ∀ (kL : Nat) (i : Nat) (y : Nat → Int32), i + kL = 1488 → (248 ≤ i) → (fu shF i kL y = fu shF 248 1240 hi) → V g rmX6_save RX6 cX6_save wsX6_save 2 QF (XM none "save") 0 0 (MW g a z y tx ai pa tu pt ke (nI sn) le th re nu du ha) 13 [(1, .int (nI i)), (0, .ref (a 0))] [] := by
      intro kL
      induction kL with
      | zero =>
        intro i y hrel hi8 hfu
        rw [fu_0] at hfu
        refine V.iload_n 0 rfl dX6_save_13 rfl ?_
        refine V.sipush (v := 1488) dX6_save_14 (by decide) ?_
        refine V.icmp_ge_t (tgt := 42) (by rw [show i = 1488 from by omega]; decide) dX6_save_17 (by decide) ?_
        have hy : y = fu shF 248 1240 hi := hfu
        subst hy
        refine V.aload_n 1 rfl dX6_save_42 rfl ?_
        refine V.dup dX6_save_43 rfl ?_
        refine V.get (v := .int (nI sn)) (fun w H => List.mem_cons_of_mem _ (List.mem_append_right _ H)) (hc := (rfl : vwCl[6]? = some (RX6, TX6, 15))) 0 1 (by decide) (List.mem_of_getElem? (i := 1) rfl) rfl rfl dX6_save_44 ?_
        refine V.iconst (v := 1) dX6_save_47 (by decide) ?_
        refine V.isubN (v := nI 5) dX6_save_48 (by rw [h6]; rfl) ?_
        refine V.put (v := .int (nI 5)) (ws2 := MW g a z (fu shF 248 1240 hi) tx ai pa tu pt ke (nI 5) le th re nu du ha) (fun w H => List.mem_cons_of_mem _ (List.mem_append_right _ H)) tyX6 tyX6_ok nmX6 (hc := (rfl : vwCl[6]? = some (RX6, TX6, 15))) 0 1 (by decide) (List.mem_of_getElem? (i := 1) rfl) rfl rfl (tyX6_ok 1 (by decide)) rfl rfl (Nat.le_of_ble_eq_true rfl) rfl dX6_save_49 ?_
        refine V.eqws (ws2 := MW g a z (svH sn hi) tx ai pa tu pt ke (nI (svM sn)) le th re nu du ha) (by rw [svM, svH, if_pos h6, if_pos h6]) ?_
        refine V.eqlv (lv2 := [(0, .ref (a 0))]) [1] rfl ?_
        exact J52
      | succ kL ih =>
        intro i y hrel hi8 hfu
        rw [fu_s] at hfu
        refine V.iload_n 0 rfl dX6_save_13 rfl ?_
        refine V.sipush (v := 1488) dX6_save_14 (by decide) ?_
        refine V.icmp_ge_f (tgt := 42) (by exact nI_ge (a := i) (b := 1488) (by omega) (by decide)) dX6_save_17 (by decide) ?_
        refine V.aload_n 1 rfl dX6_save_20 rfl ?_
        refine V.get (v := .ref (a 2)) (fun w H => List.mem_cons_of_mem _ (List.mem_append_right _ H)) (hc := (rfl : vwCl[6]? = some (RX6, TX6, 15))) 0 2 (by decide) (List.mem_of_getElem? (i := 2) rfl) rfl rfl dX6_save_21 ?_
        refine V.iload_n 0 rfl dX6_save_24 rfl ?_
        refine V.sipush (v := 248) dX6_save_25 (by decide) ?_
        refine V.isubN (v := nI (i - 248)) dX6_save_28 (pk_sub (a := i) (b := 248) hi8) ?_
        refine V.aload_n 1 rfl dX6_save_29 rfl ?_
        refine V.get (v := .ref (a 2)) (fun w H => List.mem_cons_of_mem _ (List.mem_append_right _ H)) (hc := (rfl : vwCl[6]? = some (RX6, TX6, 15))) 0 2 (by decide) (List.mem_of_getElem? (i := 2) rfl) rfl rfl dX6_save_30 ?_
        refine V.iload_n 0 rfl dX6_save_33 rfl ?_
        refine V.iald (f := y) 2 i rfl rfl (by omega) (by decide) dX6_save_34 ?_
        refine V.iast (f := y) (ws2 := MW g a z (upd y (i - 248) (y i)) tx ai pa tu pt ke (nI sn) le th re nu du ha) 2 (i - 248) rfl rfl (by omega) (by decide) rfl dX6_save_35 ?_
        refine V.iinc (v := nI (i + 1)) (lv2 := [(1, .int (nI (i + 1))), (0, .ref (a 0))]) 0 rfl dX6_save_36 (nI_add i 1) (by decide) rfl ?_
        refine V.goto (tgt := 13) dX6_save_39 (by decide) ?_
        refine V.eqlv (lv2 := [(1, .int (nI (i + 1))), (0, .ref (a 0))]) [0, 1] rfl ?_
        exact ih (i + 1) (shF i y) (by omega) (by omega) hfu
    refine V.eqlv (lv2 := [(1, .int 248), (0, .ref (a 0))]) [0, 1] rfl ?_
    exact L13 1240 248 hi (by omega) (by omega) rfl
  · skip
    refine V.aload_n 0 rfl dX6_save_0 rfl ?_
    refine V.get (v := .int (nI sn)) (fun w H => List.mem_cons_of_mem _ (List.mem_append_right _ H)) (hc := (rfl : vwCl[6]? = some (RX6, TX6, 15))) 0 1 (by decide) (List.mem_of_getElem? (i := 1) rfl) rfl rfl dX6_save_1 ?_
    refine V.bipush (v := 6) dX6_save_4 (by decide) ?_
    refine V.icmp_ne_t (tgt := 52) (fun e => h6 ((nI_eq (by omega) (by decide)).mp e)) dX6_save_6 (by decide) ?_
    refine V.eqws (ws2 := MW g a z (svH sn hi) tx ai pa tu pt ke (nI (svM sn)) le th re nu du ha) (by rw [svM, svH, if_neg h6, if_neg h6]) ?_
    refine V.eqlv (lv2 := [(0, .ref (a 0))]) [0] rfl ?_
    exact J52
