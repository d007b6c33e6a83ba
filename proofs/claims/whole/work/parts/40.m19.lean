theorem IX.lkZ {z : Nat → Int32} {n : Nat} {o : Option Nat} {t : Int32} (h : IX z) (hn : n < 4) (ho : ∀ f, o = some f → f < 8) : IX (lkZ n o z t) := by
  have hd : IX (_root_.Jvm.Pilot.CGossipHeadLaw_law_r8652_253339.dz z) := h.dz
  cases o with
  | none => exact h
  | some f =>
    have hf := ho f rfl
    show IX (if lkS z t then lkc z n f else _)
    split
    · rw [lkc, lkb, lka]
      exact (hd.tm.up (by omega) (by omega) (by omega) (by omega) (fun _ _ => by omega) (fun _ _ => by omega) (by omega)).up (by omega) (by omega) (by omega) (by omega) (fun _ _ => by omega) (fun _ _ => by omega) (by omega)
    · exact hd
abbrev rmX4_lookAtParts : Room := { frames := 2, cells := 0, slots := 0, locals := 48 }
set_option maxHeartbeats 4000000 in
set_option maxRecDepth 100000 in
theorem kX4_lookAtParts (g : GT) (u : Nat → Nat) (ai : Nat → Int32) (pa : Nat → Int32) (tu : Nat → Int32) (b : Nat → Nat) (z : Nat → Int32) (hX : IX z) (hqo0 : ∀ k, k < 4 → okN 8 (pa k)) (htu : ∀ n, n < 4 → tu n = 0 ∨ tu n = 1) : UC g yX4_lookAtParts wsX4_lookAtParts rmX4_lookAtParts [.ref (u 0), .ref (b 0)] ((UW g u ai pa tu) ++ (SW g b z)) (Qf (none) ((UW g u ai ((fu (rLF tu) 0 4 (z, pa)).2) tu) ++ (SW g b ((fu (rLF tu) 0 4 (z, pa)).1)))) := by
  refine UC.ofV (cc := cX4_lookAtParts) (maxL := 4) (ret := none) (lv0 := [(0, .ref (u 0)), (1, .ref (b 0))]) (by decide) rfl (Nat.le_of_ble_eq_true rfl) rfl ?_
  generalize hQF : QFr g rmX4_lookAtParts (Qf (none) ((UW g u ai ((fu (rLF tu) 0 4 (z, pa)).2) tu) ++ (SW g b ((fu (rLF tu) 0 4 (z, pa)).1)))) = QF
  have hq : QFok g rmX4_lookAtParts (Qf (none) ((UW g u ai ((fu (rLF tu) 0 4 (z, pa)).2) tu) ++ (SW g b ((fu (rLF tu) 0 4 (z, pa)).1)))) QF := hQF ▸ QFr.q
  refine V.iconst (v := 0) dX4_lookAtParts_0 (by decide) ?_
  refine V.istore_n (lv2 := [(2, .int 0), (0, .ref (u 0)), (1, .ref (b 0))]) dX4_lookAtParts_1 rfl (by decide) rfl ?_
  have L2 : ∀ (kL : Nat) (i : Nat) (q : R2), i + kL = 4 → (IX q.1) → (∀ k, k < 4 → okN 8 (q.2 k)) → (fu (rLF tu) i kL q = fu (rLF tu) 0 4 (z, pa)) → V g rmX4_lookAtParts RX4 cX4_lookAtParts wsX4_lookAtParts 4 QF (XM none "lookAtParts") 0 0 ((UW g u ai q.2 tu) ++ (SW g b q.1)) 2 [(2, .int (nI i)), (0, .ref (u 0)), (1, .ref (b 0))] [] := by
    intro kL
    induction kL with
    | zero =>
      intro i q hrel hXq hqo hfu
      rw [fu_0] at hfu
      refine V.iload_n 0 rfl dX4_lookAtParts_2 rfl ?_
      refine V.iconst (v := 4) dX4_lookAtParts_3 (by decide) ?_
      refine V.icmp_ge_t (tgt := 99) (by rw [show i = 4 from by omega]; decide) dX4_lookAtParts_4 (by decide) ?_
      exact V.vret hq XM.r (Nat.le_of_ble_eq_true rfl) (Nat.le_of_ble_eq_true rfl) ⟨rfl, by rw [← hfu] <;> rfl⟩ dX4_lookAtParts_99
    | succ kL ih =>
      intro i q hrel hXq hqo hfu
      rw [fu_s] at hfu
      refine V.iload_n 0 rfl dX4_lookAtParts_2 rfl ?_
      refine V.iconst (v := 4) dX4_lookAtParts_3 (by decide) ?_
      refine V.icmp_ge_f (tgt := 99) (by exact nI_ge (a := i) (b := 4) (by omega) (by decide)) dX4_lookAtParts_4 (by decide) ?_
      refine V.aload_n 1 rfl dX4_lookAtParts_7 rfl ?_
      refine V.get (v := .ref (u 2)) (fun w H => List.mem_cons_of_mem _ (List.mem_append_left _ (List.mem_append_left _ (List.mem_append_right _ H)))) (hc := (rfl : vwCl[4]? = some (RX4, TX4, 3))) 0 1 (by decide) (List.mem_of_getElem? (i := 1) rfl) rfl rfl dX4_lookAtParts_8 ?_
      obtain ⟨ho1, hok⟩ := hqo i (by omega)
      have hr : rLF tu i q = (lkZ i (de (q.2 i)) q.1 (tu i), lkP i (de (q.2 i)) q.1 (tu i) q.2) := rfl
      generalize de (q.2 i) = o at ho1 hok hr
      refine V.iload_n 0 rfl dX4_lookAtParts_11 rfl ?_
      refine V.iald (f := q.2) 2 i rfl rfl (by omega) (by decide) dX4_lookAtParts_12 ?_
      rw [ho1]
      refine V.iconst (v := -1) dX4_lookAtParts_13 (by decide) ?_
      cases o with
      | none =>
        refine V.icmp_eq_t (tgt := 34) (by decide) dX4_lookAtParts_14 (by decide) ?_
        refine V.iconst (v := 0) dX4_lookAtParts_34 (by decide) ?_
        refine V.istore_n (lv2 := [(3, .int 0), (2, .int (nI i)), (0, .ref (u 0)), (1, .ref (b 0))]) dX4_lookAtParts_35 rfl (by decide) rfl ?_
        refine V.iload_n 0 rfl dX4_lookAtParts_36 rfl ?_
        refine V.if_eq_t (tgt := 93) (by decide) dX4_lookAtParts_37 (by decide) ?_
        refine V.eqws (ws2 := (UW g u ai ((rLF tu i q).2) tu) ++ (SW g b ((rLF tu i q).1))) (by rw [hr] <;> rfl) ?_
        have hX1 : IX (rLF tu i q).1 := by rw [hr]; exact hXq.lkZ (by omega) hok
        refine V.iinc (v := nI (i + 1)) (lv2 := [(2, .int (nI (i + 1))), (3, .int 0), (0, .ref (u 0)), (1, .ref (b 0))]) 1 rfl dX4_lookAtParts_93 (nI_add i 1) (by decide) rfl ?_
        refine V.goto (tgt := 2) dX4_lookAtParts_96 (by decide) ?_
        refine V.eqlv (lv2 := [(2, .int (nI (i + 1))), (0, .ref (u 0)), (1, .ref (b 0))]) [0, 2, 3] rfl ?_
        exact ih (i + 1) (rLF tu i q) (by omega) hX1 (rLF_ok hqo) hfu
      | some f =>
        have hf : f < 8 := hok f rfl
        refine V.icmp_eq_f (tgt := 34) (en_ne hf (by decide)) dX4_lookAtParts_14 (by decide) ?_
        refine V.aload_n 2 rfl dX4_lookAtParts_17 rfl ?_
        refine V.callVf (ws2 := (UW g u ai q.2 tu) ++ (SW g b (dz q.1))) (st2 := [.int (dv q.1 100)]) [] [] (kX2_drawPercent g b q.1 (nx_eq hXq.2.2.2.1)) gX4_lookAtParts_X2_drawPercent rfl (by show _ ∧ _ ∧ _ ∧ _ = some (0 : Nat); decide +kernel) ⟨Nat.le_of_ble_eq_true rfl, Nat.le_of_ble_eq_true rfl⟩ (hc := (rfl : vwCl[2]? = some (RX2, TX2, 12))) 4 rfl [4, 5, 6, 7, 8, 9, 10, 11, 12, 13] (by decide) rfl rfl (Nat.le_of_ble_eq_true rfl) ⟨Nat.le_of_ble_eq_true rfl, Nat.le_of_ble_eq_true rfl⟩ dX4_lookAtParts_18 SWf rfl rfl rfl rfl ?_
        refine V.aload_n 2 rfl dX4_lookAtParts_21 rfl ?_
        refine V.get (v := .ref (b 1)) (fun w H => List.mem_cons_of_mem _ (List.mem_append_left _ (List.mem_append_right _ H))) (hc := (rfl : vwCl[2]? = some (RX2, TX2, 12))) 4 7 (by decide) (List.mem_of_getElem? (i := 2) rfl) rfl rfl dX4_lookAtParts_22 ?_
        refine V.iconst (v := 3) dX4_lookAtParts_25 (by decide) ?_
        refine V.iald (f := sg (dz q.1) 0 5) 5 3 rfl rfl (by decide) (by decide) dX4_lookAtParts_26 ?_
        rw [show (sg (dz q.1) 0 5) 3 = (dz q.1) 3 from sg_a (by omega)]
        refine V.icmp_ge (tgt := 34) dX4_lookAtParts_27 (by decide) (fun c27 => ?_) (fun c27 => ?_)
        · skip
          refine V.iconst (v := 0) dX4_lookAtParts_34 (by decide) ?_
          refine V.istore_n (lv2 := [(3, .int 0), (2, .int (nI i)), (0, .ref (u 0)), (1, .ref (b 0))]) dX4_lookAtParts_35 rfl (by decide) rfl ?_
          refine V.iload_n 0 rfl dX4_lookAtParts_36 rfl ?_
          refine V.if_eq_t (tgt := 93) (by decide) dX4_lookAtParts_37 (by decide) ?_
          have hS : ¬ lkS q.1 (tu i) = true := by rw [lkS, decide_eq_true c27]; simp
          refine V.eqws (ws2 := (UW g u ai ((rLF tu i q).2) tu) ++ (SW g b ((rLF tu i q).1))) (by rw [hr, lkZ, lkP, if_neg hS, if_neg hS]) ?_
          have hX1 : IX (rLF tu i q).1 := by rw [hr]; exact hXq.lkZ (by omega) hok
          refine V.iinc (v := nI (i + 1)) (lv2 := [(2, .int (nI (i + 1))), (3, .int 0), (0, .ref (u 0)), (1, .ref (b 0))]) 1 rfl dX4_lookAtParts_93 (nI_add i 1) (by decide) rfl ?_
          refine V.goto (tgt := 2) dX4_lookAtParts_96 (by decide) ?_
          refine V.eqlv (lv2 := [(2, .int (nI (i + 1))), (0, .ref (u 0)), (1, .ref (b 0))]) [0, 2, 3] rfl ?_
          exact ih (i + 1) (rLF tu i q) (by omega) hX1 (rLF_ok hqo) hfu
        · skip
          refine V.iconst (v := 1) dX4_lookAtParts_30 (by decide) ?_
          refine V.goto (tgt := 35) dX4_lookAtParts_31 (by decide) ?_
          refine V.istore_n (lv2 := [(3, .int 1), (2, .int (nI i)), (0, .ref (u 0)), (1, .ref (b 0))]) dX4_lookAtParts_35 rfl (by decide) rfl ?_
          refine V.iload_n 0 rfl dX4_lookAtParts_36 rfl ?_
          refine V.if_eq_f (tgt := 93) (by decide) dX4_lookAtParts_37 (by decide) ?_
          refine V.aload_n 2 rfl dX4_lookAtParts_40 rfl ?_
          refine V.get (v := .ref (u 3)) (fun w H => List.mem_cons_of_mem _ (List.mem_append_left _ (List.mem_append_left _ (List.mem_append_right _ H)))) (hc := (rfl : vwCl[4]? = some (RX4, TX4, 3))) 0 2 (by decide) (List.mem_of_getElem? (i := 3) rfl) rfl rfl dX4_lookAtParts_41 ?_
          refine V.iload_n 1 rfl dX4_lookAtParts_44 rfl ?_
          refine V.zald (f := tu) 3 i rfl rfl (by omega) (by decide) dX4_lookAtParts_45 ?_
          refine V.if_eq (tgt := 93) dX4_lookAtParts_46 (by decide) (fun c46 => ?_) (fun c46 => ?_)
          · skip
            have hS : ¬ lkS q.1 (tu i) = true := by rw [lkS, c46, decide_eq_false c27]; decide
            refine V.eqws (ws2 := (UW g u ai ((rLF tu i q).2) tu) ++ (SW g b ((rLF tu i q).1))) (by rw [hr, lkZ, lkP, if_neg hS, if_neg hS]) ?_
            have hX1 : IX (rLF tu i q).1 := by rw [hr]; exact hXq.lkZ (by omega) hok
            refine V.iinc (v := nI (i + 1)) (lv2 := [(2, .int (nI (i + 1))), (3, .int 1), (0, .ref (u 0)), (1, .ref (b 0))]) 1 rfl dX4_lookAtParts_93 (nI_add i 1) (by decide) rfl ?_
            refine V.goto (tgt := 2) dX4_lookAtParts_96 (by decide) ?_
            refine V.eqlv (lv2 := [(2, .int (nI (i + 1))), (0, .ref (u 0)), (1, .ref (b 0))]) [0, 2, 3] rfl ?_
            exact ih (i + 1) (rLF tu i q) (by omega) hX1 (rLF_ok hqo) hfu
          · skip
            refine V.aload_n 3 rfl dX4_lookAtParts_49 rfl ?_
            refine V.get (v := .ref (b 2)) (fun w H => List.mem_cons_of_mem _ (List.mem_append_left _ (List.mem_append_right _ H))) (hc := (rfl : vwCl[2]? = some (RX2, TX2, 12))) 4 8 (by decide) (List.mem_of_getElem? (i := 4) rfl) rfl rfl dX4_lookAtParts_50 ?_
            refine V.aload_n 2 rfl dX4_lookAtParts_53 rfl ?_
            refine V.get (v := .ref (u 2)) (fun w H => List.mem_cons_of_mem _ (List.mem_append_left _ (List.mem_append_left _ (List.mem_append_right _ H)))) (hc := (rfl : vwCl[4]? = some (RX4, TX4, 3))) 0 1 (by decide) (List.mem_of_getElem? (i := 1) rfl) rfl rfl dX4_lookAtParts_54 ?_
            refine V.iload_n 1 rfl dX4_lookAtParts_57 rfl ?_
            refine V.iald (f := q.2) 2 i rfl rfl (by omega) (by decide) dX4_lookAtParts_58 ?_
            rw [show q.2 i = nI f from ho1]
            refine V.bipush (v := 7) dX4_lookAtParts_59 (by decide) ?_
            refine V.iconst (v := 1) dX4_lookAtParts_61 (by decide) ?_
            refine V.callVf (ws2 := (UW g u ai q.2 tu) ++ (SW g b (upd (dz q.1) (12 + 8 * f + 7) ((dz q.1) (12 + 8 * f + 7) + (1 : Int32))))) (st2 := []) [.int (nI f), .int 7, .int 1] [] (kX3_add g (b 2) (b 3) 8 64 (sg (dz q.1) 12 64) f 7 (1 : Int32) (by first | omega | decide) (by first | omega | decide) (by first | omega | decide) (by first | omega | decide)) gX4_lookAtParts_X3_add rfl (by show _ ∧ _ ∧ _ ∧ _ = some (3 : Nat); decide +kernel) ⟨Nat.le_of_ble_eq_true rfl, Nat.le_of_ble_eq_true rfl⟩ (hc := (rfl : vwCl[3]? = some (RX3, TX3, 2))) 6 rfl [6, 7] (by decide) rfl rfl (Nat.le_of_ble_eq_true rfl) ⟨Nat.le_of_ble_eq_true rfl, Nat.le_of_ble_eq_true rfl⟩ dX4_lookAtParts_62 TWf (congrArg (fun _l : va_W => (UW g u ai q.2 tu) ++ _l) ((SW_f (g := g) (b := b) (z := (dz q.1)) (v := sg (dz q.1) 12 64 (f * 8 + 7) + (1 : Int32)) (r := f) (k := 7) (by omega)).trans (by rw [sg_r (by omega)]))) rfl rfl rfl ?_
            refine V.aload_n 3 rfl dX4_lookAtParts_65 rfl ?_
            refine V.get (v := .ref (b 6)) (fun w H => List.mem_cons_of_mem _ (List.mem_append_left _ (List.mem_append_right _ H))) (hc := (rfl : vwCl[2]? = some (RX2, TX2, 12))) 4 10 (by decide) (List.mem_of_getElem? (i := 5) rfl) rfl rfl dX4_lookAtParts_66 ?_
            refine V.iload_n 1 rfl dX4_lookAtParts_69 rfl ?_
            refine V.iconst (v := 4) dX4_lookAtParts_70 (by decide) ?_
            refine V.iconst (v := 1) dX4_lookAtParts_71 (by decide) ?_
            refine V.callVf (ws2 := (UW g u ai q.2 tu) ++ (SW g b (upd (upd (dz q.1) (12 + 8 * f + 7) ((dz q.1) (12 + 8 * f + 7) + (1 : Int32))) (196 + 5 * i + 4) ((upd (dz q.1) (12 + 8 * f + 7) ((dz q.1) (12 + 8 * f + 7) + (1 : Int32))) (196 + 5 * i + 4) + (1 : Int32))))) (st2 := []) [.int (nI i), .int 4, .int 1] [] (kX3_add g (b 6) (b 7) 5 20 (sg (upd (dz q.1) (12 + 8 * f + 7) ((dz q.1) (12 + 8 * f + 7) + (1 : Int32))) 196 20) i 4 (1 : Int32) (by first | omega | decide) (by first | omega | decide) (by first | omega | decide) (by first | omega | decide)) gX4_lookAtParts_X3_add rfl (by show _ ∧ _ ∧ _ ∧ _ = some (3 : Nat); decide +kernel) ⟨Nat.le_of_ble_eq_true rfl, Nat.le_of_ble_eq_true rfl⟩ (hc := (rfl : vwCl[3]? = some (RX3, TX3, 2))) 10 rfl [10, 11] (by decide) rfl rfl (Nat.le_of_ble_eq_true rfl) ⟨Nat.le_of_ble_eq_true rfl, Nat.le_of_ble_eq_true rfl⟩ dX4_lookAtParts_72 TWf (congrArg (fun _l : va_W => (UW g u ai q.2 tu) ++ _l) ((SW_n (g := g) (b := b) (z := (upd (dz q.1) (12 + 8 * f + 7) ((dz q.1) (12 + 8 * f + 7) + (1 : Int32)))) (v := sg (upd (dz q.1) (12 + 8 * f + 7) ((dz q.1) (12 + 8 * f + 7) + (1 : Int32))) 196 20 (i * 5 + 4) + (1 : Int32)) (r := i) (k := 4) (by omega)).trans (by rw [sg_r (by omega)]))) rfl rfl rfl ?_
            have hd : IX (dz q.1) := hXq.dz
            have hXm : IX (upd (upd (dz q.1) (12 + 8 * f + 7) (dz q.1 (12 + 8 * f + 7) + 1)) (196 + 5 * i + 4) (upd (dz q.1) (12 + 8 * f + 7) (dz q.1 (12 + 8 * f + 7) + 1) (196 + 5 * i + 4) + 1)) := (hd.up (by omega) (by omega) (by omega) (by omega) (fun _ _ => by omega) (fun _ _ => by omega) (by omega)).up (by omega) (by omega) (by omega) (by omega) (fun _ _ => by omega) (fun _ _ => by omega) (by omega)
            refine V.aload_n 3 rfl dX4_lookAtParts_75 rfl ?_
            refine V.iload_n 1 rfl dX4_lookAtParts_76 rfl ?_
            refine V.aload_n 2 rfl dX4_lookAtParts_77 rfl ?_
            refine V.get (v := .ref (u 2)) (fun w H => List.mem_cons_of_mem _ (List.mem_append_left _ (List.mem_append_left _ (List.mem_append_right _ H)))) (hc := (rfl : vwCl[4]? = some (RX4, TX4, 3))) 0 1 (by decide) (List.mem_of_getElem? (i := 1) rfl) rfl rfl dX4_lookAtParts_78 ?_
            refine V.iload_n 1 rfl dX4_lookAtParts_81 rfl ?_
            refine V.iald (f := q.2) 2 i rfl rfl (by omega) (by decide) dX4_lookAtParts_82 ?_
            rw [show q.2 i = nI f from ho1]
            refine V.callVf (ws2 := (UW g u ai q.2 tu) ++ (SW g b (tM (upd (upd (dz q.1) (12 + 8 * f + 7) ((dz q.1) (12 + 8 * f + 7) + (1 : Int32))) (196 + 5 * i + 4) ((upd (dz q.1) (12 + 8 * f + 7) ((dz q.1) (12 + 8 * f + 7) + (1 : Int32))) (196 + 5 * i + 4) + (1 : Int32))) i f (-((upd (upd (dz q.1) (12 + 8 * f + 7) ((dz q.1) (12 + 8 * f + 7) + (1 : Int32))) (196 + 5 * i + 4) ((upd (dz q.1) (12 + 8 * f + 7) ((dz q.1) (12 + 8 * f + 7) + (1 : Int32))) (196 + 5 * i + 4) + (1 : Int32))) 1))))) (st2 := []) [.int (nI i), .int (nI f)] [] (kX2_blame g b (upd (upd (dz q.1) (12 + 8 * f + 7) ((dz q.1) (12 + 8 * f + 7) + (1 : Int32))) (196 + 5 * i + 4) ((upd (dz q.1) (12 + 8 * f + 7) ((dz q.1) (12 + 8 * f + 7) + (1 : Int32))) (196 + 5 * i + 4) + (1 : Int32))) i f (by omega) hf (bl_eq (hXm.2.2.2.2.t (by omega) hf) hXm.2.2.2.2.2.1)) gX4_lookAtParts_X2_blame rfl (by show _ ∧ _ ∧ _ ∧ _ = some (2 : Nat); decide +kernel) ⟨Nat.le_of_ble_eq_true rfl, Nat.le_of_ble_eq_true rfl⟩ (hc := (rfl : vwCl[2]? = some (RX2, TX2, 12))) 4 rfl [4, 5, 6, 7, 8, 9, 10, 11, 12, 13] (by decide) rfl rfl (Nat.le_of_ble_eq_true rfl) ⟨Nat.le_of_ble_eq_true rfl, Nat.le_of_ble_eq_true rfl⟩ dX4_lookAtParts_83 SWf rfl rfl rfl rfl ?_
            refine V.eqws (ws2 := (UW g u ai q.2 tu) ++ (SW g b (lkc q.1 i f))) (congrArg (fun _z => UW g u ai q.2 tu ++ SW g b _z) (lkm_eq (by omega) hf)) ?_
            refine V.aload_n 2 rfl dX4_lookAtParts_86 rfl ?_
            refine V.get (v := .ref (u 2)) (fun w H => List.mem_cons_of_mem _ (List.mem_append_left _ (List.mem_append_left _ (List.mem_append_right _ H)))) (hc := (rfl : vwCl[4]? = some (RX4, TX4, 3))) 0 1 (by decide) (List.mem_of_getElem? (i := 1) rfl) rfl rfl dX4_lookAtParts_87 ?_
            refine V.iload_n 1 rfl dX4_lookAtParts_90 rfl ?_
            refine V.iconst (v := -1) dX4_lookAtParts_91 (by decide) ?_
            refine V.iast (f := q.2) (ws2 := (UW g u ai (upd q.2 i (-1)) tu) ++ (SW g b (lkc q.1 i f))) 2 i rfl rfl (by omega) (by decide) rfl dX4_lookAtParts_92 ?_
            have hS : lkS q.1 (tu i) = true := by rw [lkS, decide_eq_false c27, decide_eq_true ((htu i (by omega)).resolve_left c46)] <;> rfl
            refine V.eqws (ws2 := (UW g u ai ((rLF tu i q).2) tu) ++ (SW g b ((rLF tu i q).1))) (by rw [hr, lkZ, lkP, if_pos hS, if_pos hS]) ?_
            have hX1 : IX (rLF tu i q).1 := by rw [hr]; exact hXq.lkZ (by omega) hok
            refine V.iinc (v := nI (i + 1)) (lv2 := [(2, .int (nI (i + 1))), (3, .int 1), (0, .ref (u 0)), (1, .ref (b 0))]) 1 rfl dX4_lookAtParts_93 (nI_add i 1) (by decide) rfl ?_
            refine V.goto (tgt := 2) dX4_lookAtParts_96 (by decide) ?_
            refine V.eqlv (lv2 := [(2, .int (nI (i + 1))), (0, .ref (u 0)), (1, .ref (b 0))]) [0, 2, 3] rfl ?_
            exact ih (i + 1) (rLF tu i q) (by omega) hX1 (rLF_ok hqo) hfu
  refine V.eqlv (lv2 := [(2, .int 0), (0, .ref (u 0)), (1, .ref (b 0))]) [0, 1, 2] rfl ?_
  exact L2 4 0 (z, pa) (by omega) hX hqo0 rfl
