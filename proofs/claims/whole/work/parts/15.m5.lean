abbrev rmX6_addsFeeder : Room := { frames := 0, cells := 0, slots := 0, locals := 0 }
set_option maxHeartbeats 4000000 in
set_option maxRecDepth 100000 in
theorem kX6_addsFeeder (g : GT) (a : Nat → Nat) (z hi tx ai pa tu pt ke : Nat → Int32) (st le th re nu du : Int32) (ha : Int64) (x : Int32) (k : Int32) (p : Int32) (m : Int32) (t : Int32) (hF : z 5 = nI (nf z)) (hF8 : nf z < 8) : UC g yX6_addsFeeder wsX6_addsFeeder rmX6_addsFeeder [.ref (a 0), .int x, .int k, .int p, .int m, .int t] (MW g a z hi tx ai pa tu pt ke st le th re nu du ha) (Qf (some (.int (nI (nf z)))) (MW g a (afC z x k p m t) hi tx ai pa tu pt ke st le th re nu du ha)) := by
  refine UC.ofV (cc := cX6_addsFeeder) (maxL := 9) (ret := some .int) (lv0 := [(0, .ref (a 0)), (1, .int x), (2, .int k), (3, .int p), (4, .int m), (5, .int t)]) (by decide) rfl (Nat.le_of_ble_eq_true rfl) rfl ?_
  generalize hQF : QFr g rmX6_addsFeeder (Qf (some (.int (nI (nf z)))) (MW g a (afC z x k p m t) hi tx ai pa tu pt ke st le th re nu du ha)) = QF
  have hq : QFok g rmX6_addsFeeder (Qf (some (.int (nI (nf z)))) (MW g a (afC z x k p m t) hi tx ai pa tu pt ke st le th re nu du ha)) QF := hQF ▸ QFr.q
  refine V.aload_n 0 rfl dX6_addsFeeder_0 rfl ?_
  refine V.get (v := .ref (a 1)) (fun w H => List.mem_cons_of_mem _ (List.mem_append_right _ H)) (hc := (rfl : vwCl[6]? = some (RX6, TX6, 15))) 0 0 (by decide) (List.mem_of_getElem? (i := 1) rfl) rfl rfl dX6_addsFeeder_1 ?_
  refine V.iconst (v := 5) dX6_addsFeeder_4 (by decide) ?_
  refine V.iald (f := z) 1 5 rfl rfl (by decide) (by decide) dX6_addsFeeder_5 ?_
  rw [hF]
  refine V.istore (lv2 := [(6, .int (nI (nf z))), (0, .ref (a 0)), (1, .int x), (2, .int k), (3, .int p), (4, .int m), (5, .int t)]) dX6_addsFeeder_6 (by decide) rfl ?_
  refine V.bipush (v := 12) dX6_addsFeeder_8 (by decide) ?_
  refine V.bipush (v := 8) dX6_addsFeeder_10 (by decide) ?_
  refine V.iload 0 rfl dX6_addsFeeder_12 ?_
  refine V.imulN (v := nI (8 * (nf z))) dX6_addsFeeder_14 (pk_mul 8 (nf z)) ?_
  refine V.iaddN (v := nI (12 + 8 * (nf z))) dX6_addsFeeder_15 (nI_add 12 (8 * (nf z))) ?_
  refine V.istore (lv2 := [(7, .int (nI (12 + 8 * (nf z)))), (6, .int (nI (nf z))), (0, .ref (a 0)), (1, .int x), (2, .int k), (3, .int p), (4, .int m), (5, .int t)]) dX6_addsFeeder_16 (by decide) rfl ?_
  refine V.aload_n 2 rfl dX6_addsFeeder_18 rfl ?_
  refine V.get (v := .ref (a 1)) (fun w H => List.mem_cons_of_mem _ (List.mem_append_right _ H)) (hc := (rfl : vwCl[6]? = some (RX6, TX6, 15))) 0 0 (by decide) (List.mem_of_getElem? (i := 1) rfl) rfl rfl dX6_addsFeeder_19 ?_
  refine V.iconst (v := 5) dX6_addsFeeder_22 (by decide) ?_
  refine V.dup2 dX6_addsFeeder_23 rfl rfl ?_
  refine V.iald (f := z) 1 5 rfl rfl (by decide) (by decide) dX6_addsFeeder_24 ?_
  refine V.iconst (v := 1) dX6_addsFeeder_25 (by decide) ?_
  refine V.iadd dX6_addsFeeder_26 ?_
  refine V.iast (f := z) (ws2 := MW g a (upd z 5 ((z 5) + 1)) hi tx ai pa tu pt ke st le th re nu du ha) 1 5 rfl rfl (by decide) (by decide) rfl dX6_addsFeeder_27 ?_
  refine V.aload_n 2 rfl dX6_addsFeeder_28 rfl ?_
  refine V.get (v := .ref (a 1)) (fun w H => List.mem_cons_of_mem _ (List.mem_append_right _ H)) (hc := (rfl : vwCl[6]? = some (RX6, TX6, 15))) 0 0 (by decide) (List.mem_of_getElem? (i := 1) rfl) rfl rfl dX6_addsFeeder_29 ?_
  refine V.iload 0 rfl dX6_addsFeeder_32 ?_
  refine V.iconst (v := 0) dX6_addsFeeder_34 (by decide) ?_
  refine V.iaddN (v := nI (12 + 8 * (nf z) + 0)) dX6_addsFeeder_35 (nI_add (12 + 8 * (nf z)) 0) ?_
  refine V.iload_n 3 rfl dX6_addsFeeder_36 rfl ?_
  refine V.iast (f := upd z 5 ((z 5) + 1)) (ws2 := MW g a (upd (upd z 5 ((z 5) + 1)) (12 + 8 * (nf z) + 0) x) hi tx ai pa tu pt ke st le th re nu du ha) 1 (12 + 8 * (nf z) + 0) rfl rfl (by omega) (by decide) rfl dX6_addsFeeder_37 ?_
  refine V.aload_n 2 rfl dX6_addsFeeder_38 rfl ?_
  refine V.get (v := .ref (a 1)) (fun w H => List.mem_cons_of_mem _ (List.mem_append_right _ H)) (hc := (rfl : vwCl[6]? = some (RX6, TX6, 15))) 0 0 (by decide) (List.mem_of_getElem? (i := 1) rfl) rfl rfl dX6_addsFeeder_39 ?_
  refine V.iload 0 rfl dX6_addsFeeder_42 ?_
  refine V.iconst (v := 1) dX6_addsFeeder_44 (by decide) ?_
  refine V.iaddN (v := nI (12 + 8 * (nf z) + 1)) dX6_addsFeeder_45 (nI_add (12 + 8 * (nf z)) 1) ?_
  refine V.iload_n 4 rfl dX6_addsFeeder_46 rfl ?_
  refine V.iast (f := upd (upd z 5 ((z 5) + 1)) (12 + 8 * (nf z) + 0) x) (ws2 := MW g a (upd (upd (upd z 5 ((z 5) + 1)) (12 + 8 * (nf z) + 0) x) (12 + 8 * (nf z) + 1) k) hi tx ai pa tu pt ke st le th re nu du ha) 1 (12 + 8 * (nf z) + 1) rfl rfl (by omega) (by decide) rfl dX6_addsFeeder_47 ?_
  refine V.aload_n 2 rfl dX6_addsFeeder_48 rfl ?_
  refine V.get (v := .ref (a 1)) (fun w H => List.mem_cons_of_mem _ (List.mem_append_right _ H)) (hc := (rfl : vwCl[6]? = some (RX6, TX6, 15))) 0 0 (by decide) (List.mem_of_getElem? (i := 1) rfl) rfl rfl dX6_addsFeeder_49 ?_
  refine V.iload 0 rfl dX6_addsFeeder_52 ?_
  refine V.iconst (v := 2) dX6_addsFeeder_54 (by decide) ?_
  refine V.iaddN (v := nI (12 + 8 * (nf z) + 2)) dX6_addsFeeder_55 (nI_add (12 + 8 * (nf z)) 2) ?_
  refine V.iload_n 5 rfl dX6_addsFeeder_56 rfl ?_
  refine V.iast (f := upd (upd (upd z 5 ((z 5) + 1)) (12 + 8 * (nf z) + 0) x) (12 + 8 * (nf z) + 1) k) (ws2 := MW g a (upd (upd (upd (upd z 5 ((z 5) + 1)) (12 + 8 * (nf z) + 0) x) (12 + 8 * (nf z) + 1) k) (12 + 8 * (nf z) + 2) p) hi tx ai pa tu pt ke st le th re nu du ha) 1 (12 + 8 * (nf z) + 2) rfl rfl (by omega) (by decide) rfl dX6_addsFeeder_57 ?_
  refine V.aload_n 2 rfl dX6_addsFeeder_58 rfl ?_
  refine V.get (v := .ref (a 1)) (fun w H => List.mem_cons_of_mem _ (List.mem_append_right _ H)) (hc := (rfl : vwCl[6]? = some (RX6, TX6, 15))) 0 0 (by decide) (List.mem_of_getElem? (i := 1) rfl) rfl rfl dX6_addsFeeder_59 ?_
  refine V.iload 0 rfl dX6_addsFeeder_62 ?_
  refine V.iconst (v := 3) dX6_addsFeeder_64 (by decide) ?_
  refine V.iaddN (v := nI (12 + 8 * (nf z) + 3)) dX6_addsFeeder_65 (nI_add (12 + 8 * (nf z)) 3) ?_
  refine V.iload 6 rfl dX6_addsFeeder_66 ?_
  refine V.iast (f := upd (upd (upd (upd z 5 ((z 5) + 1)) (12 + 8 * (nf z) + 0) x) (12 + 8 * (nf z) + 1) k) (12 + 8 * (nf z) + 2) p) (ws2 := MW g a (upd (upd (upd (upd (upd z 5 ((z 5) + 1)) (12 + 8 * (nf z) + 0) x) (12 + 8 * (nf z) + 1) k) (12 + 8 * (nf z) + 2) p) (12 + 8 * (nf z) + 3) m) hi tx ai pa tu pt ke st le th re nu du ha) 1 (12 + 8 * (nf z) + 3) rfl rfl (by omega) (by decide) rfl dX6_addsFeeder_68 ?_
  refine V.aload_n 2 rfl dX6_addsFeeder_69 rfl ?_
  refine V.get (v := .ref (a 1)) (fun w H => List.mem_cons_of_mem _ (List.mem_append_right _ H)) (hc := (rfl : vwCl[6]? = some (RX6, TX6, 15))) 0 0 (by decide) (List.mem_of_getElem? (i := 1) rfl) rfl rfl dX6_addsFeeder_70 ?_
  refine V.iload 0 rfl dX6_addsFeeder_73 ?_
  refine V.iconst (v := 4) dX6_addsFeeder_75 (by decide) ?_
  refine V.iaddN (v := nI (12 + 8 * (nf z) + 4)) dX6_addsFeeder_76 (nI_add (12 + 8 * (nf z)) 4) ?_
  refine V.iload 7 rfl dX6_addsFeeder_77 ?_
  refine V.iast (f := upd (upd (upd (upd (upd z 5 ((z 5) + 1)) (12 + 8 * (nf z) + 0) x) (12 + 8 * (nf z) + 1) k) (12 + 8 * (nf z) + 2) p) (12 + 8 * (nf z) + 3) m) (ws2 := MW g a (upd (upd (upd (upd (upd (upd z 5 ((z 5) + 1)) (12 + 8 * (nf z) + 0) x) (12 + 8 * (nf z) + 1) k) (12 + 8 * (nf z) + 2) p) (12 + 8 * (nf z) + 3) m) (12 + 8 * (nf z) + 4) t) hi tx ai pa tu pt ke st le th re nu du ha) 1 (12 + 8 * (nf z) + 4) rfl rfl (by omega) (by decide) rfl dX6_addsFeeder_79 ?_
  refine V.eqws (ws2 := MW g a (afA z x k p m t) hi tx ai pa tu pt ke st le th re nu du ha) rfl ?_
  refine V.iconst (v := 5) dX6_addsFeeder_80 (by decide) ?_
  refine V.istore (lv2 := [(8, .int 5), (7, .int (nI (12 + 8 * (nf z)))), (6, .int (nI (nf z))), (0, .ref (a 0)), (1, .int x), (2, .int k), (3, .int p), (4, .int m), (5, .int t)]) dX6_addsFeeder_81 (by decide) rfl ?_
  have L83 : ∀ (kL : Nat) (i : Nat) (y : Nat → Int32), i + kL = 8 → (5 ≤ i) → (fu (afG (nf z)) i kL y = afB z x k p m t) → V g rmX6_addsFeeder RX6 cX6_addsFeeder wsX6_addsFeeder 9 QF (XM (some .int) "addsFeeder") 0 0 (MW g a y hi tx ai pa tu pt ke st le th re nu du ha) 83 [(8, .int (nI i)), (7, .int (nI (12 + 8 * (nf z)))), (6, .int (nI (nf z))), (0, .ref (a 0)), (1, .int x), (2, .int k), (3, .int p), (4, .int m), (5, .int t)] [] := by
    intro kL
    induction kL with
    | zero =>
      intro i y hrel hi5 hfu
      rw [fu_0] at hfu
      refine V.iload 0 rfl dX6_addsFeeder_83 ?_
      refine V.bipush (v := 7) dX6_addsFeeder_85 (by decide) ?_
      refine V.icmp_gt_t (tgt := 107) (by rw [show i = 8 from by omega]; decide) dX6_addsFeeder_87 (by decide) ?_
      have hy : y = afB z x k p m t := hfu
      subst hy
      refine V.iconst (v := 0) dX6_addsFeeder_107 (by decide) ?_
      refine V.istore (lv2 := [(8, .int 0), (7, .int (nI (12 + 8 * (nf z)))), (6, .int (nI (nf z))), (0, .ref (a 0)), (1, .int x), (2, .int k), (3, .int p), (4, .int m), (5, .int t)]) dX6_addsFeeder_108 (by decide) rfl ?_
      have L110 : ∀ (kL : Nat) (i : Nat) (y : Nat → Int32), i + kL = 4 → (fu (afT (nf z)) i kL y = afC z x k p m t) → V g rmX6_addsFeeder RX6 cX6_addsFeeder wsX6_addsFeeder 9 QF (XM (some .int) "addsFeeder") 0 0 (MW g a y hi tx ai pa tu pt ke st le th re nu du ha) 110 [(8, .int (nI i)), (7, .int (nI (12 + 8 * (nf z)))), (6, .int (nI (nf z))), (0, .ref (a 0)), (1, .int x), (2, .int k), (3, .int p), (4, .int m), (5, .int t)] [] := by
        intro kL
        induction kL with
        | zero =>
          intro i y hrel hfu2
          rw [fu_0] at hfu2
          refine V.iload 0 rfl dX6_addsFeeder_110 ?_
          refine V.iconst (v := 4) dX6_addsFeeder_112 (by decide) ?_
          refine V.icmp_ge_t (tgt := 141) (by rw [show i = 4 from by omega]; decide) dX6_addsFeeder_113 (by decide) ?_
          refine V.iload 2 rfl dX6_addsFeeder_141 ?_
          exact V.iret hq XM.r (Nat.le_of_ble_eq_true rfl) (Nat.le_of_ble_eq_true rfl) ⟨rfl, by rw [← hfu2] <;> rfl⟩ dX6_addsFeeder_143
        | succ kL ih =>
          intro i y hrel hfu2
          rw [fu_s] at hfu2
          refine V.iload 0 rfl dX6_addsFeeder_110 ?_
          refine V.iconst (v := 4) dX6_addsFeeder_112 (by decide) ?_
          refine V.icmp_ge_f (tgt := 141) (by exact nI_ge (a := i) (b := 4) (by omega) (by decide)) dX6_addsFeeder_113 (by decide) ?_
          refine V.aload_n 3 rfl dX6_addsFeeder_116 rfl ?_
          refine V.get (v := .ref (a 1)) (fun w H => List.mem_cons_of_mem _ (List.mem_append_right _ H)) (hc := (rfl : vwCl[6]? = some (RX6, TX6, 15))) 0 0 (by decide) (List.mem_of_getElem? (i := 1) rfl) rfl rfl dX6_addsFeeder_117 ?_
          refine V.sipush (v := 216) dX6_addsFeeder_120 (by decide) ?_
          refine V.bipush (v := 8) dX6_addsFeeder_123 (by decide) ?_
          refine V.iload 0 rfl dX6_addsFeeder_125 ?_
          refine V.imulN (v := nI (8 * i)) dX6_addsFeeder_127 (pk_mul 8 i) ?_
          refine V.iaddN (v := nI (216 + 8 * i)) dX6_addsFeeder_128 (nI_add 216 (8 * i)) ?_
          refine V.iload 2 rfl dX6_addsFeeder_129 ?_
          refine V.iaddN (v := nI (216 + 8 * i + nf z)) dX6_addsFeeder_131 (nI_add (216 + 8 * i) (nf z)) ?_
          refine V.bipush (v := 50) dX6_addsFeeder_132 (by decide) ?_
          refine V.iast (f := y) (ws2 := MW g a (upd y (216 + 8 * i + nf z) 50) hi tx ai pa tu pt ke st le th re nu du ha) 1 (216 + 8 * i + nf z) rfl rfl (by omega) (by decide) rfl dX6_addsFeeder_134 ?_
          refine V.iinc (v := nI (i + 1)) (lv2 := [(8, .int (nI (i + 1))), (7, .int (nI (12 + 8 * (nf z)))), (6, .int (nI (nf z))), (0, .ref (a 0)), (1, .int x), (2, .int k), (3, .int p), (4, .int m), (5, .int t)]) 0 rfl dX6_addsFeeder_135 (nI_add i 1) (by decide) rfl ?_
          refine V.goto (tgt := 110) dX6_addsFeeder_138 (by decide) ?_
          refine V.eqlv (lv2 := [(8, .int (nI (i + 1))), (7, .int (nI (12 + 8 * (nf z)))), (6, .int (nI (nf z))), (0, .ref (a 0)), (1, .int x), (2, .int k), (3, .int p), (4, .int m), (5, .int t)]) [0, 1, 2, 3, 4, 5, 6, 7, 8] rfl ?_
          exact ih (i + 1) (afT (nf z) i y) (by omega) hfu2
      refine V.eqlv (lv2 := [(8, .int 0), (7, .int (nI (12 + 8 * (nf z)))), (6, .int (nI (nf z))), (0, .ref (a 0)), (1, .int x), (2, .int k), (3, .int p), (4, .int m), (5, .int t)]) [0, 1, 2, 3, 4, 5, 6, 7, 8] rfl ?_
      exact L110 4 0 (afB z x k p m t) (by omega) rfl
    | succ kL ih =>
      intro i y hrel hi5 hfu
      rw [fu_s] at hfu
      refine V.iload 0 rfl dX6_addsFeeder_83 ?_
      refine V.bipush (v := 7) dX6_addsFeeder_85 (by decide) ?_
      refine V.icmp_gt_f (tgt := 107) (by exact nI_nlt (a := 7) (b := i) (by omega) (by omega)) dX6_addsFeeder_87 (by decide) ?_
      refine V.aload_n 3 rfl dX6_addsFeeder_90 rfl ?_
      refine V.get (v := .ref (a 1)) (fun w H => List.mem_cons_of_mem _ (List.mem_append_right _ H)) (hc := (rfl : vwCl[6]? = some (RX6, TX6, 15))) 0 0 (by decide) (List.mem_of_getElem? (i := 1) rfl) rfl rfl dX6_addsFeeder_91 ?_
      refine V.iload 1 rfl dX6_addsFeeder_94 ?_
      refine V.iload 0 rfl dX6_addsFeeder_96 ?_
      refine V.iaddN (v := nI (12 + 8 * (nf z) + i)) dX6_addsFeeder_98 (nI_add (12 + 8 * (nf z)) i) ?_
      refine V.iconst (v := 0) dX6_addsFeeder_99 (by decide) ?_
      refine V.iast (f := y) (ws2 := MW g a (upd y (12 + 8 * (nf z) + i) 0) hi tx ai pa tu pt ke st le th re nu du ha) 1 (12 + 8 * (nf z) + i) rfl rfl (by omega) (by decide) rfl dX6_addsFeeder_100 ?_
      refine V.iinc (v := nI (i + 1)) (lv2 := [(8, .int (nI (i + 1))), (7, .int (nI (12 + 8 * (nf z)))), (6, .int (nI (nf z))), (0, .ref (a 0)), (1, .int x), (2, .int k), (3, .int p), (4, .int m), (5, .int t)]) 0 rfl dX6_addsFeeder_101 (nI_add i 1) (by decide) rfl ?_
      refine V.goto (tgt := 83) dX6_addsFeeder_104 (by decide) ?_
      refine V.eqlv (lv2 := [(8, .int (nI (i + 1))), (7, .int (nI (12 + 8 * (nf z)))), (6, .int (nI (nf z))), (0, .ref (a 0)), (1, .int x), (2, .int k), (3, .int p), (4, .int m), (5, .int t)]) [0, 1, 2, 3, 4, 5, 6, 7, 8] rfl ?_
      exact ih (i + 1) (afG (nf z) i y) (by omega) (by omega) hfu
  refine V.eqlv (lv2 := [(8, .int 5), (7, .int (nI (12 + 8 * (nf z)))), (6, .int (nI (nf z))), (0, .ref (a 0)), (1, .int x), (2, .int k), (3, .int p), (4, .int m), (5, .int t)]) [0, 1, 2, 3, 4, 5, 6, 7, 8] rfl ?_
  exact L83 3 5 (afA z x k p m t) (by omega) (by omega) rfl
abbrev rmX6_addsPlace : Room := { frames := 0, cells := 0, slots := 0, locals := 0 }
set_option maxHeartbeats 4000000 in
set_option maxRecDepth 100000 in
theorem kX6_addsPlace (g : GT) (a : Nat → Nat) (z hi tx ai pa tu pt ke : Nat → Int32) (st le th re nu du : Int32) (ha : Int64) (x : Int32) (k : Int32) (hP : z 6 = nI (np z)) (hP24 : np z < 24) : UC g yX6_addsPlace wsX6_addsPlace rmX6_addsPlace [.ref (a 0), .int x, .int k] (MW g a z hi tx ai pa tu pt ke st le th re nu du ha) (Qf (some (.int (nI (np z)))) (MW g a (apA z x k) hi tx ai pa tu pt ke st le th re nu du ha)) := by
  refine UC.ofV (cc := cX6_addsPlace) (maxL := 5) (ret := some .int) (lv0 := [(0, .ref (a 0)), (1, .int x), (2, .int k)]) (by decide) rfl (Nat.le_of_ble_eq_true rfl) rfl ?_
  generalize hQF : QFr g rmX6_addsPlace (Qf (some (.int (nI (np z)))) (MW g a (apA z x k) hi tx ai pa tu pt ke st le th re nu du ha)) = QF
  have hq : QFok g rmX6_addsPlace (Qf (some (.int (nI (np z)))) (MW g a (apA z x k) hi tx ai pa tu pt ke st le th re nu du ha)) QF := hQF ▸ QFr.q
  refine V.aload_n 0 rfl dX6_addsPlace_0 rfl ?_
  refine V.get (v := .ref (a 1)) (fun w H => List.mem_cons_of_mem _ (List.mem_append_right _ H)) (hc := (rfl : vwCl[6]? = some (RX6, TX6, 15))) 0 0 (by decide) (List.mem_of_getElem? (i := 1) rfl) rfl rfl dX6_addsPlace_1 ?_
  refine V.bipush (v := 6) dX6_addsPlace_4 (by decide) ?_
  refine V.iald (f := z) 1 6 rfl rfl (by decide) (by decide) dX6_addsPlace_6 ?_
  rw [hP]
  refine V.istore_n (lv2 := [(3, .int (nI (np z))), (0, .ref (a 0)), (1, .int x), (2, .int k)]) dX6_addsPlace_7 rfl (by decide) rfl ?_
  refine V.bipush (v := 76) dX6_addsPlace_8 (by decide) ?_
  refine V.iconst (v := 5) dX6_addsPlace_10 (by decide) ?_
  refine V.iload_n 0 rfl dX6_addsPlace_11 rfl ?_
  refine V.imulN (v := nI (5 * (np z))) dX6_addsPlace_12 (pk_mul 5 (np z)) ?_
  refine V.iaddN (v := nI (76 + 5 * (np z))) dX6_addsPlace_13 (nI_add 76 (5 * (np z))) ?_
  refine V.istore (lv2 := [(4, .int (nI (76 + 5 * (np z)))), (3, .int (nI (np z))), (0, .ref (a 0)), (1, .int x), (2, .int k)]) dX6_addsPlace_14 (by decide) rfl ?_
  refine V.aload_n 2 rfl dX6_addsPlace_16 rfl ?_
  refine V.get (v := .ref (a 1)) (fun w H => List.mem_cons_of_mem _ (List.mem_append_right _ H)) (hc := (rfl : vwCl[6]? = some (RX6, TX6, 15))) 0 0 (by decide) (List.mem_of_getElem? (i := 1) rfl) rfl rfl dX6_addsPlace_17 ?_
  refine V.bipush (v := 6) dX6_addsPlace_20 (by decide) ?_
  refine V.dup2 dX6_addsPlace_22 rfl rfl ?_
  refine V.iald (f := z) 1 6 rfl rfl (by decide) (by decide) dX6_addsPlace_23 ?_
  refine V.iconst (v := 1) dX6_addsPlace_24 (by decide) ?_
  refine V.iadd dX6_addsPlace_25 ?_
  refine V.iast (f := z) (ws2 := MW g a (upd z 6 ((z 6) + 1)) hi tx ai pa tu pt ke st le th re nu du ha) 1 6 rfl rfl (by decide) (by decide) rfl dX6_addsPlace_26 ?_
  refine V.aload_n 2 rfl dX6_addsPlace_27 rfl ?_
  refine V.get (v := .ref (a 1)) (fun w H => List.mem_cons_of_mem _ (List.mem_append_right _ H)) (hc := (rfl : vwCl[6]? = some (RX6, TX6, 15))) 0 0 (by decide) (List.mem_of_getElem? (i := 1) rfl) rfl rfl dX6_addsPlace_28 ?_
  refine V.iload 0 rfl dX6_addsPlace_31 ?_
  refine V.iconst (v := 0) dX6_addsPlace_33 (by decide) ?_
  refine V.iaddN (v := nI (76 + 5 * (np z) + 0)) dX6_addsPlace_34 (nI_add (76 + 5 * (np z)) 0) ?_
  refine V.iload_n 3 rfl dX6_addsPlace_35 rfl ?_
  refine V.iast (f := upd z 6 ((z 6) + 1)) (ws2 := MW g a (upd (upd z 6 ((z 6) + 1)) (76 + 5 * (np z) + 0) x) hi tx ai pa tu pt ke st le th re nu du ha) 1 (76 + 5 * (np z) + 0) rfl rfl (by omega) (by decide) rfl dX6_addsPlace_36 ?_
  refine V.aload_n 2 rfl dX6_addsPlace_37 rfl ?_
  refine V.get (v := .ref (a 1)) (fun w H => List.mem_cons_of_mem _ (List.mem_append_right _ H)) (hc := (rfl : vwCl[6]? = some (RX6, TX6, 15))) 0 0 (by decide) (List.mem_of_getElem? (i := 1) rfl) rfl rfl dX6_addsPlace_38 ?_
  refine V.iload 0 rfl dX6_addsPlace_41 ?_
  refine V.iconst (v := 1) dX6_addsPlace_43 (by decide) ?_
  refine V.iaddN (v := nI (76 + 5 * (np z) + 1)) dX6_addsPlace_44 (nI_add (76 + 5 * (np z)) 1) ?_
  refine V.iload_n 4 rfl dX6_addsPlace_45 rfl ?_
  refine V.iast (f := upd (upd z 6 ((z 6) + 1)) (76 + 5 * (np z) + 0) x) (ws2 := MW g a (upd (upd (upd z 6 ((z 6) + 1)) (76 + 5 * (np z) + 0) x) (76 + 5 * (np z) + 1) k) hi tx ai pa tu pt ke st le th re nu du ha) 1 (76 + 5 * (np z) + 1) rfl rfl (by omega) (by decide) rfl dX6_addsPlace_46 ?_
  refine V.aload_n 2 rfl dX6_addsPlace_47 rfl ?_
  refine V.get (v := .ref (a 1)) (fun w H => List.mem_cons_of_mem _ (List.mem_append_right _ H)) (hc := (rfl : vwCl[6]? = some (RX6, TX6, 15))) 0 0 (by decide) (List.mem_of_getElem? (i := 1) rfl) rfl rfl dX6_addsPlace_48 ?_
  refine V.iload 0 rfl dX6_addsPlace_51 ?_
  refine V.iconst (v := 2) dX6_addsPlace_53 (by decide) ?_
  refine V.iaddN (v := nI (76 + 5 * (np z) + 2)) dX6_addsPlace_54 (nI_add (76 + 5 * (np z)) 2) ?_
  refine V.iconst (v := 0) dX6_addsPlace_55 (by decide) ?_
  refine V.iast (f := upd (upd (upd z 6 ((z 6) + 1)) (76 + 5 * (np z) + 0) x) (76 + 5 * (np z) + 1) k) (ws2 := MW g a (upd (upd (upd (upd z 6 ((z 6) + 1)) (76 + 5 * (np z) + 0) x) (76 + 5 * (np z) + 1) k) (76 + 5 * (np z) + 2) 0) hi tx ai pa tu pt ke st le th re nu du ha) 1 (76 + 5 * (np z) + 2) rfl rfl (by omega) (by decide) rfl dX6_addsPlace_56 ?_
  refine V.aload_n 2 rfl dX6_addsPlace_57 rfl ?_
  refine V.get (v := .ref (a 1)) (fun w H => List.mem_cons_of_mem _ (List.mem_append_right _ H)) (hc := (rfl : vwCl[6]? = some (RX6, TX6, 15))) 0 0 (by decide) (List.mem_of_getElem? (i := 1) rfl) rfl rfl dX6_addsPlace_58 ?_
  refine V.iload 0 rfl dX6_addsPlace_61 ?_
  refine V.iconst (v := 3) dX6_addsPlace_63 (by decide) ?_
  refine V.iaddN (v := nI (76 + 5 * (np z) + 3)) dX6_addsPlace_64 (nI_add (76 + 5 * (np z)) 3) ?_
  refine V.iconst (v := -1) dX6_addsPlace_65 (by decide) ?_
  refine V.iast (f := upd (upd (upd (upd z 6 ((z 6) + 1)) (76 + 5 * (np z) + 0) x) (76 + 5 * (np z) + 1) k) (76 + 5 * (np z) + 2) 0) (ws2 := MW g a (upd (upd (upd (upd (upd z 6 ((z 6) + 1)) (76 + 5 * (np z) + 0) x) (76 + 5 * (np z) + 1) k) (76 + 5 * (np z) + 2) 0) (76 + 5 * (np z) + 3) (-1)) hi tx ai pa tu pt ke st le th re nu du ha) 1 (76 + 5 * (np z) + 3) rfl rfl (by omega) (by decide) rfl dX6_addsPlace_66 ?_
  refine V.aload_n 2 rfl dX6_addsPlace_67 rfl ?_
  refine V.get (v := .ref (a 1)) (fun w H => List.mem_cons_of_mem _ (List.mem_append_right _ H)) (hc := (rfl : vwCl[6]? = some (RX6, TX6, 15))) 0 0 (by decide) (List.mem_of_getElem? (i := 1) rfl) rfl rfl dX6_addsPlace_68 ?_
  refine V.iload 0 rfl dX6_addsPlace_71 ?_
  refine V.iconst (v := 4) dX6_addsPlace_73 (by decide) ?_
  refine V.iaddN (v := nI (76 + 5 * (np z) + 4)) dX6_addsPlace_74 (nI_add (76 + 5 * (np z)) 4) ?_
  refine V.iconst (v := -1) dX6_addsPlace_75 (by decide) ?_
  refine V.iast (f := upd (upd (upd (upd (upd z 6 ((z 6) + 1)) (76 + 5 * (np z) + 0) x) (76 + 5 * (np z) + 1) k) (76 + 5 * (np z) + 2) 0) (76 + 5 * (np z) + 3) (-1)) (ws2 := MW g a (upd (upd (upd (upd (upd (upd z 6 ((z 6) + 1)) (76 + 5 * (np z) + 0) x) (76 + 5 * (np z) + 1) k) (76 + 5 * (np z) + 2) 0) (76 + 5 * (np z) + 3) (-1)) (76 + 5 * (np z) + 4) (-1)) hi tx ai pa tu pt ke st le th re nu du ha) 1 (76 + 5 * (np z) + 4) rfl rfl (by omega) (by decide) rfl dX6_addsPlace_76 ?_
  refine V.eqws (ws2 := MW g a (apA z x k) hi tx ai pa tu pt ke st le th re nu du ha) rfl ?_
  refine V.iload_n 1 rfl dX6_addsPlace_77 rfl ?_
  exact V.iret hq XM.r (Nat.le_of_ble_eq_true rfl) (Nat.le_of_ble_eq_true rfl) ⟨rfl, rfl⟩ dX6_addsPlace_78
abbrev rmX6_addFeeder_b10 : Room := { frames := 2, cells := 0, slots := 0, locals := 42 }
set_option maxHeartbeats 4000000 in
set_option maxRecDepth 100000 in
theorem kX6_addFeeder_b10 (g : GT) (a : Nat → Nat) (z hi tx ai pa tu pt ke : Nat → Int32) (st le th re nu du : Int32) (ha : Int64) (x : Int32) (k : Int32) (p : Int32) (m : Int32) (t : Int32) (h0 : wi x 0 99 = false) : UC g yX6_addFeeder wsX6_addFeeder rmX6_addFeeder_b10 [.ref (a 0), .int x, .int k, .int p, .int m, .int t] (MW g a z hi tx ai pa tu pt ke st le th re nu du ha) (Qf (some (.int 0)) (MW g a z hi tx ai pa tu pt ke st le 1 re nu du ha)) := by
  refine UC.ofV (cc := cX6_addFeeder) (maxL := 7) (ret := some .int) (lv0 := [(0, .ref (a 0)), (1, .int x), (2, .int k), (3, .int p), (4, .int m), (5, .int t)]) (by decide) rfl (Nat.le_of_ble_eq_true rfl) rfl ?_
  generalize hQF : QFr g rmX6_addFeeder_b10 (Qf (some (.int 0)) (MW g a z hi tx ai pa tu pt ke st le 1 re nu du ha)) = QF
  have hq : QFok g rmX6_addFeeder_b10 (Qf (some (.int 0)) (MW g a z hi tx ai pa tu pt ke st le 1 re nu du ha)) QF := hQF ▸ QFr.q
  refine V.iload_n 1 rfl dX6_addFeeder_0 rfl ?_
  refine V.callSf (ws2 := MW g a z hi tx ai pa tu pt ke st le th re nu du ha) (st2 := [.int (bi (wi x 0 99))]) [.int x] [] (kX6_isX g x ) gX6_addFeeder_X6_isX rfl (by show _ ∧ _ ∧ _ = some (1 : Nat); decide +kernel) ⟨Nat.le_of_ble_eq_true rfl, Nat.le_of_ble_eq_true rfl⟩ [] (by decide) rfl rfl (Nat.le_of_ble_eq_true rfl) ⟨Nat.le_of_ble_eq_true rfl, Nat.le_of_ble_eq_true rfl⟩ dX6_addFeeder_1 rfl (List.append_nil _) rfl rfl rfl ?_
  rw [h0]
  refine V.if_eq_t (tgt := 45) (by decide) dX6_addFeeder_4 (by decide) ?_
  refine V.iconst (v := 0) dX6_addFeeder_45 (by decide) ?_
  refine V.istore (lv2 := [(6, .int 0), (0, .ref (a 0)), (1, .int x), (2, .int k), (3, .int p), (4, .int m), (5, .int t)]) dX6_addFeeder_46 (by decide) rfl ?_
  refine V.aload_n 1 rfl dX6_addFeeder_48 rfl ?_
  refine V.iload 0 rfl dX6_addFeeder_49 ?_
  refine V.if_ne_f (tgt := 58) (by decide) dX6_addFeeder_51 (by decide) ?_
  refine V.iconst (v := 1) dX6_addFeeder_54 (by decide) ?_
  refine V.goto (tgt := 74) dX6_addFeeder_55 (by decide) ?_
  refine V.put (v := .int 1) (ws2 := MW g a z hi tx ai pa tu pt ke st le 1 re nu du ha) (fun w H => List.mem_cons_of_mem _ (List.mem_append_right _ H)) tyX6 tyX6_ok nmX6 (hc := (rfl : vwCl[6]? = some (RX6, TX6, 15))) 0 5 (by decide) (List.mem_of_getElem? (i := 2) rfl) rfl rfl (tyX6_ok 5 (by decide)) rfl rfl (Nat.le_of_ble_eq_true rfl) rfl dX6_addFeeder_74 ?_
  refine V.aload_n 1 rfl dX6_addFeeder_77 rfl ?_
  refine V.get (v := .int 1) (fun w H => List.mem_cons_of_mem _ (List.mem_append_right _ H)) (hc := (rfl : vwCl[6]? = some (RX6, TX6, 15))) 0 5 (by decide) (List.mem_of_getElem? (i := 2) rfl) rfl rfl dX6_addFeeder_78 ?_
  refine V.if_le_f (tgt := 86) (by decide) dX6_addFeeder_81 (by decide) ?_
  refine V.iconst (v := 0) dX6_addFeeder_84 (by decide) ?_
  exact V.iret hq XM.r (Nat.le_of_ble_eq_true rfl) (Nat.le_of_ble_eq_true rfl) ⟨rfl, rfl⟩ dX6_addFeeder_85
abbrev rmX6_addFeeder_b11 : Room := { frames := 2, cells := 0, slots := 0, locals := 42 }
set_option maxHeartbeats 4000000 in
set_option maxRecDepth 100000 in
theorem kX6_addFeeder_b11 (g : GT) (a : Nat → Nat) (z hi tx ai pa tu pt ke : Nat → Int32) (st le th re nu du : Int32) (ha : Int64) (x : Int32) (k : Int32) (p : Int32) (m : Int32) (t : Int32) (h0 : wi x 0 99 = true) (h1 : wi k 0 5 = false) : UC g yX6_addFeeder wsX6_addFeeder rmX6_addFeeder_b11 [.ref (a 0), .int x, .int k, .int p, .int m, .int t] (MW g a z hi tx ai pa tu pt ke st le th re nu du ha) (Qf (some (.int 0)) (MW g a z hi tx ai pa tu pt ke st le 1 re nu du ha)) := by
  refine UC.ofV (cc := cX6_addFeeder) (maxL := 7) (ret := some .int) (lv0 := [(0, .ref (a 0)), (1, .int x), (2, .int k), (3, .int p), (4, .int m), (5, .int t)]) (by decide) rfl (Nat.le_of_ble_eq_true rfl) rfl ?_
  generalize hQF : QFr g rmX6_addFeeder_b11 (Qf (some (.int 0)) (MW g a z hi tx ai pa tu pt ke st le 1 re nu du ha)) = QF
  have hq : QFok g rmX6_addFeeder_b11 (Qf (some (.int 0)) (MW g a z hi tx ai pa tu pt ke st le 1 re nu du ha)) QF := hQF ▸ QFr.q
  refine V.iload_n 1 rfl dX6_addFeeder_0 rfl ?_
  refine V.callSf (ws2 := MW g a z hi tx ai pa tu pt ke st le th re nu du ha) (st2 := [.int (bi (wi x 0 99))]) [.int x] [] (kX6_isX g x ) gX6_addFeeder_X6_isX rfl (by show _ ∧ _ ∧ _ = some (1 : Nat); decide +kernel) ⟨Nat.le_of_ble_eq_true rfl, Nat.le_of_ble_eq_true rfl⟩ [] (by decide) rfl rfl (Nat.le_of_ble_eq_true rfl) ⟨Nat.le_of_ble_eq_true rfl, Nat.le_of_ble_eq_true rfl⟩ dX6_addFeeder_1 rfl (List.append_nil _) rfl rfl rfl ?_
  rw [h0]
  refine V.if_eq_f (tgt := 45) (by decide) dX6_addFeeder_4 (by decide) ?_
  refine V.iload_n 2 rfl dX6_addFeeder_7 rfl ?_
  refine V.callSf (ws2 := MW g a z hi tx ai pa tu pt ke st le th re nu du ha) (st2 := [.int (bi (wi k 0 5))]) [.int k] [] (kX6_isKind g k ) gX6_addFeeder_X6_isKind rfl (by show _ ∧ _ ∧ _ = some (1 : Nat); decide +kernel) ⟨Nat.le_of_ble_eq_true rfl, Nat.le_of_ble_eq_true rfl⟩ [] (by decide) rfl rfl (Nat.le_of_ble_eq_true rfl) ⟨Nat.le_of_ble_eq_true rfl, Nat.le_of_ble_eq_true rfl⟩ dX6_addFeeder_8 rfl (List.append_nil _) rfl rfl rfl ?_
  rw [h1]
  refine V.if_eq_t (tgt := 45) (by decide) dX6_addFeeder_11 (by decide) ?_
  refine V.iconst (v := 0) dX6_addFeeder_45 (by decide) ?_
  refine V.istore (lv2 := [(6, .int 0), (0, .ref (a 0)), (1, .int x), (2, .int k), (3, .int p), (4, .int m), (5, .int t)]) dX6_addFeeder_46 (by decide) rfl ?_
  refine V.aload_n 1 rfl dX6_addFeeder_48 rfl ?_
  refine V.iload 0 rfl dX6_addFeeder_49 ?_
  refine V.if_ne_f (tgt := 58) (by decide) dX6_addFeeder_51 (by decide) ?_
  refine V.iconst (v := 1) dX6_addFeeder_54 (by decide) ?_
  refine V.goto (tgt := 74) dX6_addFeeder_55 (by decide) ?_
  refine V.put (v := .int 1) (ws2 := MW g a z hi tx ai pa tu pt ke st le 1 re nu du ha) (fun w H => List.mem_cons_of_mem _ (List.mem_append_right _ H)) tyX6 tyX6_ok nmX6 (hc := (rfl : vwCl[6]? = some (RX6, TX6, 15))) 0 5 (by decide) (List.mem_of_getElem? (i := 2) rfl) rfl rfl (tyX6_ok 5 (by decide)) rfl rfl (Nat.le_of_ble_eq_true rfl) rfl dX6_addFeeder_74 ?_
  refine V.aload_n 1 rfl dX6_addFeeder_77 rfl ?_
  refine V.get (v := .int 1) (fun w H => List.mem_cons_of_mem _ (List.mem_append_right _ H)) (hc := (rfl : vwCl[6]? = some (RX6, TX6, 15))) 0 5 (by decide) (List.mem_of_getElem? (i := 2) rfl) rfl rfl dX6_addFeeder_78 ?_
  refine V.if_le_f (tgt := 86) (by decide) dX6_addFeeder_81 (by decide) ?_
  refine V.iconst (v := 0) dX6_addFeeder_84 (by decide) ?_
  exact V.iret hq XM.r (Nat.le_of_ble_eq_true rfl) (Nat.le_of_ble_eq_true rfl) ⟨rfl, rfl⟩ dX6_addFeeder_85
abbrev rmX6_addFeeder_b12 : Room := { frames := 2, cells := 0, slots := 0, locals := 42 }
set_option maxHeartbeats 4000000 in
set_option maxRecDepth 100000 in
theorem kX6_addFeeder_b12 (g : GT) (a : Nat → Nat) (z hi tx ai pa tu pt ke : Nat → Int32) (st le th re nu du : Int32) (ha : Int64) (x : Int32) (k : Int32) (p : Int32) (m : Int32) (t : Int32) (h0 : wi x 0 99 = true) (h1 : wi k 0 5 = true) (h2 : wi p 0 500 = false) : UC g yX6_addFeeder wsX6_addFeeder rmX6_addFeeder_b12 [.ref (a 0), .int x, .int k, .int p, .int m, .int t] (MW g a z hi tx ai pa tu pt ke st le th re nu du ha) (Qf (some (.int 0)) (MW g a z hi tx ai pa tu pt ke st le 1 re nu du ha)) := by
  refine UC.ofV (cc := cX6_addFeeder) (maxL := 7) (ret := some .int) (lv0 := [(0, .ref (a 0)), (1, .int x), (2, .int k), (3, .int p), (4, .int m), (5, .int t)]) (by decide) rfl (Nat.le_of_ble_eq_true rfl) rfl ?_
  generalize hQF : QFr g rmX6_addFeeder_b12 (Qf (some (.int 0)) (MW g a z hi tx ai pa tu pt ke st le 1 re nu du ha)) = QF
  have hq : QFok g rmX6_addFeeder_b12 (Qf (some (.int 0)) (MW g a z hi tx ai pa tu pt ke st le 1 re nu du ha)) QF := hQF ▸ QFr.q
  refine V.iload_n 1 rfl dX6_addFeeder_0 rfl ?_
  refine V.callSf (ws2 := MW g a z hi tx ai pa tu pt ke st le th re nu du ha) (st2 := [.int (bi (wi x 0 99))]) [.int x] [] (kX6_isX g x ) gX6_addFeeder_X6_isX rfl (by show _ ∧ _ ∧ _ = some (1 : Nat); decide +kernel) ⟨Nat.le_of_ble_eq_true rfl, Nat.le_of_ble_eq_true rfl⟩ [] (by decide) rfl rfl (Nat.le_of_ble_eq_true rfl) ⟨Nat.le_of_ble_eq_true rfl, Nat.le_of_ble_eq_true rfl⟩ dX6_addFeeder_1 rfl (List.append_nil _) rfl rfl rfl ?_
  rw [h0]
  refine V.if_eq_f (tgt := 45) (by decide) dX6_addFeeder_4 (by decide) ?_
  refine V.iload_n 2 rfl dX6_addFeeder_7 rfl ?_
  refine V.callSf (ws2 := MW g a z hi tx ai pa tu pt ke st le th re nu du ha) (st2 := [.int (bi (wi k 0 5))]) [.int k] [] (kX6_isKind g k ) gX6_addFeeder_X6_isKind rfl (by show _ ∧ _ ∧ _ = some (1 : Nat); decide +kernel) ⟨Nat.le_of_ble_eq_true rfl, Nat.le_of_ble_eq_true rfl⟩ [] (by decide) rfl rfl (Nat.le_of_ble_eq_true rfl) ⟨Nat.le_of_ble_eq_true rfl, Nat.le_of_ble_eq_true rfl⟩ dX6_addFeeder_8 rfl (List.append_nil _) rfl rfl rfl ?_
  rw [h1]
  refine V.if_eq_f (tgt := 45) (by decide) dX6_addFeeder_11 (by decide) ?_
  refine V.iload_n 3 rfl dX6_addFeeder_14 rfl ?_
  refine V.iconst (v := 0) dX6_addFeeder_15 (by decide) ?_
  refine V.sipush (v := 500) dX6_addFeeder_16 (by decide) ?_
  refine V.callSf (ws2 := MW g a z hi tx ai pa tu pt ke st le th re nu du ha) (st2 := [.int (bi (wi p (0 : Int32) (500 : Int32)))]) [.int p, .int 0, .int 500] [] (kX6_within g p (0 : Int32) (500 : Int32) ) gX6_addFeeder_X6_within rfl (by show _ ∧ _ ∧ _ = some (3 : Nat); decide +kernel) ⟨Nat.le_of_ble_eq_true rfl, Nat.le_of_ble_eq_true rfl⟩ [] (by decide) rfl rfl (Nat.le_of_ble_eq_true rfl) ⟨Nat.le_of_ble_eq_true rfl, Nat.le_of_ble_eq_true rfl⟩ dX6_addFeeder_19 rfl (List.append_nil _) rfl rfl rfl ?_
  rw [h2]
  refine V.if_eq_t (tgt := 45) (by decide) dX6_addFeeder_22 (by decide) ?_
  refine V.iconst (v := 0) dX6_addFeeder_45 (by decide) ?_
  refine V.istore (lv2 := [(6, .int 0), (0, .ref (a 0)), (1, .int x), (2, .int k), (3, .int p), (4, .int m), (5, .int t)]) dX6_addFeeder_46 (by decide) rfl ?_
  refine V.aload_n 1 rfl dX6_addFeeder_48 rfl ?_
  refine V.iload 0 rfl dX6_addFeeder_49 ?_
  refine V.if_ne_f (tgt := 58) (by decide) dX6_addFeeder_51 (by decide) ?_
  refine V.iconst (v := 1) dX6_addFeeder_54 (by decide) ?_
  refine V.goto (tgt := 74) dX6_addFeeder_55 (by decide) ?_
  refine V.put (v := .int 1) (ws2 := MW g a z hi tx ai pa tu pt ke st le 1 re nu du ha) (fun w H => List.mem_cons_of_mem _ (List.mem_append_right _ H)) tyX6 tyX6_ok nmX6 (hc := (rfl : vwCl[6]? = some (RX6, TX6, 15))) 0 5 (by decide) (List.mem_of_getElem? (i := 2) rfl) rfl rfl (tyX6_ok 5 (by decide)) rfl rfl (Nat.le_of_ble_eq_true rfl) rfl dX6_addFeeder_74 ?_
  refine V.aload_n 1 rfl dX6_addFeeder_77 rfl ?_
  refine V.get (v := .int 1) (fun w H => List.mem_cons_of_mem _ (List.mem_append_right _ H)) (hc := (rfl : vwCl[6]? = some (RX6, TX6, 15))) 0 5 (by decide) (List.mem_of_getElem? (i := 2) rfl) rfl rfl dX6_addFeeder_78 ?_
  refine V.if_le_f (tgt := 86) (by decide) dX6_addFeeder_81 (by decide) ?_
  refine V.iconst (v := 0) dX6_addFeeder_84 (by decide) ?_
  exact V.iret hq XM.r (Nat.le_of_ble_eq_true rfl) (Nat.le_of_ble_eq_true rfl) ⟨rfl, rfl⟩ dX6_addFeeder_85
abbrev rmX6_addFeeder_b13 : Room := { frames := 2, cells := 0, slots := 0, locals := 42 }
set_option maxHeartbeats 4000000 in
set_option maxRecDepth 100000 in
theorem kX6_addFeeder_b13 (g : GT) (a : Nat → Nat) (z hi tx ai pa tu pt ke : Nat → Int32) (st le th re nu du : Int32) (ha : Int64) (x : Int32) (k : Int32) (p : Int32) (m : Int32) (t : Int32) (h0 : wi x 0 99 = true) (h1 : wi k 0 5 = true) (h2 : wi p 0 500 = true) (h3 : wi m 0 100 = false) : UC g yX6_addFeeder wsX6_addFeeder rmX6_addFeeder_b13 [.ref (a 0), .int x, .int k, .int p, .int m, .int t] (MW g a z hi tx ai pa tu pt ke st le th re nu du ha) (Qf (some (.int 0)) (MW g a z hi tx ai pa tu pt ke st le 1 re nu du ha)) := by
  refine UC.ofV (cc := cX6_addFeeder) (maxL := 7) (ret := some .int) (lv0 := [(0, .ref (a 0)), (1, .int x), (2, .int k), (3, .int p), (4, .int m), (5, .int t)]) (by decide) rfl (Nat.le_of_ble_eq_true rfl) rfl ?_
  generalize hQF : QFr g rmX6_addFeeder_b13 (Qf (some (.int 0)) (MW g a z hi tx ai pa tu pt ke st le 1 re nu du ha)) = QF
  have hq : QFok g rmX6_addFeeder_b13 (Qf (some (.int 0)) (MW g a z hi tx ai pa tu pt ke st le 1 re nu du ha)) QF := hQF ▸ QFr.q
  refine V.iload_n 1 rfl dX6_addFeeder_0 rfl ?_
  refine V.callSf (ws2 := MW g a z hi tx ai pa tu pt ke st le th re nu du ha) (st2 := [.int (bi (wi x 0 99))]) [.int x] [] (kX6_isX g x ) gX6_addFeeder_X6_isX rfl (by show _ ∧ _ ∧ _ = some (1 : Nat); decide +kernel) ⟨Nat.le_of_ble_eq_true rfl, Nat.le_of_ble_eq_true rfl⟩ [] (by decide) rfl rfl (Nat.le_of_ble_eq_true rfl) ⟨Nat.le_of_ble_eq_true rfl, Nat.le_of_ble_eq_true rfl⟩ dX6_addFeeder_1 rfl (List.append_nil _) rfl rfl rfl ?_
  rw [h0]
  refine V.if_eq_f (tgt := 45) (by decide) dX6_addFeeder_4 (by decide) ?_
  refine V.iload_n 2 rfl dX6_addFeeder_7 rfl ?_
  refine V.callSf (ws2 := MW g a z hi tx ai pa tu pt ke st le th re nu du ha) (st2 := [.int (bi (wi k 0 5))]) [.int k] [] (kX6_isKind g k ) gX6_addFeeder_X6_isKind rfl (by show _ ∧ _ ∧ _ = some (1 : Nat); decide +kernel) ⟨Nat.le_of_ble_eq_true rfl, Nat.le_of_ble_eq_true rfl⟩ [] (by decide) rfl rfl (Nat.le_of_ble_eq_true rfl) ⟨Nat.le_of_ble_eq_true rfl, Nat.le_of_ble_eq_true rfl⟩ dX6_addFeeder_8 rfl (List.append_nil _) rfl rfl rfl ?_
  rw [h1]
  refine V.if_eq_f (tgt := 45) (by decide) dX6_addFeeder_11 (by decide) ?_
  refine V.iload_n 3 rfl dX6_addFeeder_14 rfl ?_
  refine V.iconst (v := 0) dX6_addFeeder_15 (by decide) ?_
  refine V.sipush (v := 500) dX6_addFeeder_16 (by decide) ?_
  refine V.callSf (ws2 := MW g a z hi tx ai pa tu pt ke st le th re nu du ha) (st2 := [.int (bi (wi p (0 : Int32) (500 : Int32)))]) [.int p, .int 0, .int 500] [] (kX6_within g p (0 : Int32) (500 : Int32) ) gX6_addFeeder_X6_within rfl (by show _ ∧ _ ∧ _ = some (3 : Nat); decide +kernel) ⟨Nat.le_of_ble_eq_true rfl, Nat.le_of_ble_eq_true rfl⟩ [] (by decide) rfl rfl (Nat.le_of_ble_eq_true rfl) ⟨Nat.le_of_ble_eq_true rfl, Nat.le_of_ble_eq_true rfl⟩ dX6_addFeeder_19 rfl (List.append_nil _) rfl rfl rfl ?_
  rw [h2]
  refine V.if_eq_f (tgt := 45) (by decide) dX6_addFeeder_22 (by decide) ?_
  refine V.iload 4 rfl dX6_addFeeder_25 ?_
  refine V.callSf (ws2 := MW g a z hi tx ai pa tu pt ke st le th re nu du ha) (st2 := [.int (bi (wi m 0 100))]) [.int m] [] (kX6_isPercent g m ) gX6_addFeeder_X6_isPercent rfl (by show _ ∧ _ ∧ _ = some (1 : Nat); decide +kernel) ⟨Nat.le_of_ble_eq_true rfl, Nat.le_of_ble_eq_true rfl⟩ [] (by decide) rfl rfl (Nat.le_of_ble_eq_true rfl) ⟨Nat.le_of_ble_eq_true rfl, Nat.le_of_ble_eq_true rfl⟩ dX6_addFeeder_27 rfl (List.append_nil _) rfl rfl rfl ?_
  rw [h3]
  refine V.if_eq_t (tgt := 45) (by decide) dX6_addFeeder_30 (by decide) ?_
  refine V.iconst (v := 0) dX6_addFeeder_45 (by decide) ?_
  refine V.istore (lv2 := [(6, .int 0), (0, .ref (a 0)), (1, .int x), (2, .int k), (3, .int p), (4, .int m), (5, .int t)]) dX6_addFeeder_46 (by decide) rfl ?_
  refine V.aload_n 1 rfl dX6_addFeeder_48 rfl ?_
  refine V.iload 0 rfl dX6_addFeeder_49 ?_
  refine V.if_ne_f (tgt := 58) (by decide) dX6_addFeeder_51 (by decide) ?_
  refine V.iconst (v := 1) dX6_addFeeder_54 (by decide) ?_
  refine V.goto (tgt := 74) dX6_addFeeder_55 (by decide) ?_
  refine V.put (v := .int 1) (ws2 := MW g a z hi tx ai pa tu pt ke st le 1 re nu du ha) (fun w H => List.mem_cons_of_mem _ (List.mem_append_right _ H)) tyX6 tyX6_ok nmX6 (hc := (rfl : vwCl[6]? = some (RX6, TX6, 15))) 0 5 (by decide) (List.mem_of_getElem? (i := 2) rfl) rfl rfl (tyX6_ok 5 (by decide)) rfl rfl (Nat.le_of_ble_eq_true rfl) rfl dX6_addFeeder_74 ?_
  refine V.aload_n 1 rfl dX6_addFeeder_77 rfl ?_
  refine V.get (v := .int 1) (fun w H => List.mem_cons_of_mem _ (List.mem_append_right _ H)) (hc := (rfl : vwCl[6]? = some (RX6, TX6, 15))) 0 5 (by decide) (List.mem_of_getElem? (i := 2) rfl) rfl rfl dX6_addFeeder_78 ?_
  refine V.if_le_f (tgt := 86) (by decide) dX6_addFeeder_81 (by decide) ?_
  refine V.iconst (v := 0) dX6_addFeeder_84 (by decide) ?_
  exact V.iret hq XM.r (Nat.le_of_ble_eq_true rfl) (Nat.le_of_ble_eq_true rfl) ⟨rfl, rfl⟩ dX6_addFeeder_85
abbrev rmX6_addFeeder_b14 : Room := { frames := 2, cells := 0, slots := 0, locals := 42 }
set_option maxHeartbeats 4000000 in
set_option maxRecDepth 100000 in
theorem kX6_addFeeder_b14 (g : GT) (a : Nat → Nat) (z hi tx ai pa tu pt ke : Nat → Int32) (st le th re nu du : Int32) (ha : Int64) (x : Int32) (k : Int32) (p : Int32) (m : Int32) (t : Int32) (h0 : wi x 0 99 = true) (h1 : wi k 0 5 = true) (h2 : wi p 0 500 = true) (h3 : wi m 0 100 = true) (h4 : wi t 0 100 = false) : UC g yX6_addFeeder wsX6_addFeeder rmX6_addFeeder_b14 [.ref (a 0), .int x, .int k, .int p, .int m, .int t] (MW g a z hi tx ai pa tu pt ke st le th re nu du ha) (Qf (some (.int 0)) (MW g a z hi tx ai pa tu pt ke st le 1 re nu du ha)) := by
  refine UC.ofV (cc := cX6_addFeeder) (maxL := 7) (ret := some .int) (lv0 := [(0, .ref (a 0)), (1, .int x), (2, .int k), (3, .int p), (4, .int m), (5, .int t)]) (by decide) rfl (Nat.le_of_ble_eq_true rfl) rfl ?_
  generalize hQF : QFr g rmX6_addFeeder_b14 (Qf (some (.int 0)) (MW g a z hi tx ai pa tu pt ke st le 1 re nu du ha)) = QF
  have hq : QFok g rmX6_addFeeder_b14 (Qf (some (.int 0)) (MW g a z hi tx ai pa tu pt ke st le 1 re nu du ha)) QF := hQF ▸ QFr.q
  refine V.iload_n 1 rfl dX6_addFeeder_0 rfl ?_
  refine V.callSf (ws2 := MW g a z hi tx ai pa tu pt ke st le th re nu du ha) (st2 := [.int (bi (wi x 0 99))]) [.int x] [] (kX6_isX g x ) gX6_addFeeder_X6_isX rfl (by show _ ∧ _ ∧ _ = some (1 : Nat); decide +kernel) ⟨Nat.le_of_ble_eq_true rfl, Nat.le_of_ble_eq_true rfl⟩ [] (by decide) rfl rfl (Nat.le_of_ble_eq_true rfl) ⟨Nat.le_of_ble_eq_true rfl, Nat.le_of_ble_eq_true rfl⟩ dX6_addFeeder_1 rfl (List.append_nil _) rfl rfl rfl ?_
  rw [h0]
  refine V.if_eq_f (tgt := 45) (by decide) dX6_addFeeder_4 (by decide) ?_
  refine V.iload_n 2 rfl dX6_addFeeder_7 rfl ?_
  refine V.callSf (ws2 := MW g a z hi tx ai pa tu pt ke st le th re nu du ha) (st2 := [.int (bi (wi k 0 5))]) [.int k] [] (kX6_isKind g k ) gX6_addFeeder_X6_isKind rfl (by show _ ∧ _ ∧ _ = some (1 : Nat); decide +kernel) ⟨Nat.le_of_ble_eq_true rfl, Nat.le_of_ble_eq_true rfl⟩ [] (by decide) rfl rfl (Nat.le_of_ble_eq_true rfl) ⟨Nat.le_of_ble_eq_true rfl, Nat.le_of_ble_eq_true rfl⟩ dX6_addFeeder_8 rfl (List.append_nil _) rfl rfl rfl ?_
  rw [h1]
  refine V.if_eq_f (tgt := 45) (by decide) dX6_addFeeder_11 (by decide) ?_
  refine V.iload_n 3 rfl dX6_addFeeder_14 rfl ?_
  refine V.iconst (v := 0) dX6_addFeeder_15 (by decide) ?_
  refine V.sipush (v := 500) dX6_addFeeder_16 (by decide) ?_
  refine V.callSf (ws2 := MW g a z hi tx ai pa tu pt ke st le th re nu du ha) (st2 := [.int (bi (wi p (0 : Int32) (500 : Int32)))]) [.int p, .int 0, .int 500] [] (kX6_within g p (0 : Int32) (500 : Int32) ) gX6_addFeeder_X6_within rfl (by show _ ∧ _ ∧ _ = some (3 : Nat); decide +kernel) ⟨Nat.le_of_ble_eq_true rfl, Nat.le_of_ble_eq_true rfl⟩ [] (by decide) rfl rfl (Nat.le_of_ble_eq_true rfl) ⟨Nat.le_of_ble_eq_true rfl, Nat.le_of_ble_eq_true rfl⟩ dX6_addFeeder_19 rfl (List.append_nil _) rfl rfl rfl ?_
  rw [h2]
  refine V.if_eq_f (tgt := 45) (by decide) dX6_addFeeder_22 (by decide) ?_
  refine V.iload 4 rfl dX6_addFeeder_25 ?_
  refine V.callSf (ws2 := MW g a z hi tx ai pa tu pt ke st le th re nu du ha) (st2 := [.int (bi (wi m 0 100))]) [.int m] [] (kX6_isPercent g m ) gX6_addFeeder_X6_isPercent rfl (by show _ ∧ _ ∧ _ = some (1 : Nat); decide +kernel) ⟨Nat.le_of_ble_eq_true rfl, Nat.le_of_ble_eq_true rfl⟩ [] (by decide) rfl rfl (Nat.le_of_ble_eq_true rfl) ⟨Nat.le_of_ble_eq_true rfl, Nat.le_of_ble_eq_true rfl⟩ dX6_addFeeder_27 rfl (List.append_nil _) rfl rfl rfl ?_
  rw [h3]
  refine V.if_eq_f (tgt := 45) (by decide) dX6_addFeeder_30 (by decide) ?_
  refine V.iload 5 rfl dX6_addFeeder_33 ?_
  refine V.callSf (ws2 := MW g a z hi tx ai pa tu pt ke st le th re nu du ha) (st2 := [.int (bi (wi t 0 100))]) [.int t] [] (kX6_isPercent g t ) gX6_addFeeder_X6_isPercent rfl (by show _ ∧ _ ∧ _ = some (1 : Nat); decide +kernel) ⟨Nat.le_of_ble_eq_true rfl, Nat.le_of_ble_eq_true rfl⟩ [] (by decide) rfl rfl (Nat.le_of_ble_eq_true rfl) ⟨Nat.le_of_ble_eq_true rfl, Nat.le_of_ble_eq_true rfl⟩ dX6_addFeeder_35 rfl (List.append_nil _) rfl rfl rfl ?_
  rw [h4]
  refine V.if_eq_t (tgt := 45) (by decide) dX6_addFeeder_38 (by decide) ?_
  refine V.iconst (v := 0) dX6_addFeeder_45 (by decide) ?_
  refine V.istore (lv2 := [(6, .int 0), (0, .ref (a 0)), (1, .int x), (2, .int k), (3, .int p), (4, .int m), (5, .int t)]) dX6_addFeeder_46 (by decide) rfl ?_
  refine V.aload_n 1 rfl dX6_addFeeder_48 rfl ?_
  refine V.iload 0 rfl dX6_addFeeder_49 ?_
  refine V.if_ne_f (tgt := 58) (by decide) dX6_addFeeder_51 (by decide) ?_
  refine V.iconst (v := 1) dX6_addFeeder_54 (by decide) ?_
  refine V.goto (tgt := 74) dX6_addFeeder_55 (by decide) ?_
  refine V.put (v := .int 1) (ws2 := MW g a z hi tx ai pa tu pt ke st le 1 re nu du ha) (fun w H => List.mem_cons_of_mem _ (List.mem_append_right _ H)) tyX6 tyX6_ok nmX6 (hc := (rfl : vwCl[6]? = some (RX6, TX6, 15))) 0 5 (by decide) (List.mem_of_getElem? (i := 2) rfl) rfl rfl (tyX6_ok 5 (by decide)) rfl rfl (Nat.le_of_ble_eq_true rfl) rfl dX6_addFeeder_74 ?_
  refine V.aload_n 1 rfl dX6_addFeeder_77 rfl ?_
  refine V.get (v := .int 1) (fun w H => List.mem_cons_of_mem _ (List.mem_append_right _ H)) (hc := (rfl : vwCl[6]? = some (RX6, TX6, 15))) 0 5 (by decide) (List.mem_of_getElem? (i := 2) rfl) rfl rfl dX6_addFeeder_78 ?_
  refine V.if_le_f (tgt := 86) (by decide) dX6_addFeeder_81 (by decide) ?_
  refine V.iconst (v := 0) dX6_addFeeder_84 (by decide) ?_
  exact V.iret hq XM.r (Nat.le_of_ble_eq_true rfl) (Nat.le_of_ble_eq_true rfl) ⟨rfl, rfl⟩ dX6_addFeeder_85
abbrev rmX6_addFeeder_b2 : Room := { frames := 2, cells := 0, slots := 0, locals := 42 }
set_option maxHeartbeats 4000000 in
set_option maxRecDepth 100000 in
theorem kX6_addFeeder_b2 (g : GT) (a : Nat → Nat) (z hi tx ai pa tu pt ke : Nat → Int32) (st le th re nu du : Int32) (ha : Int64) (x : Int32) (k : Int32) (p : Int32) (m : Int32) (t : Int32) (h0 : wi x 0 99 = true) (h1 : wi k 0 5 = true) (h2 : wi p 0 500 = true) (h3 : wi m 0 100 = true) (h4 : wi t 0 100 = true) (hF : z 5 = nI (nf z)) (hF8 : nf z = 8) : UC g yX6_addFeeder wsX6_addFeeder rmX6_addFeeder_b2 [.ref (a 0), .int x, .int k, .int p, .int m, .int t] (MW g a z hi tx ai pa tu pt ke st le th re nu du ha) (Qf (some (.int 0)) (MW g a z hi tx ai pa tu pt ke st le 2 re nu du ha)) := by
  refine UC.ofV (cc := cX6_addFeeder) (maxL := 7) (ret := some .int) (lv0 := [(0, .ref (a 0)), (1, .int x), (2, .int k), (3, .int p), (4, .int m), (5, .int t)]) (by decide) rfl (Nat.le_of_ble_eq_true rfl) rfl ?_
  generalize hQF : QFr g rmX6_addFeeder_b2 (Qf (some (.int 0)) (MW g a z hi tx ai pa tu pt ke st le 2 re nu du ha)) = QF
  have hq : QFok g rmX6_addFeeder_b2 (Qf (some (.int 0)) (MW g a z hi tx ai pa tu pt ke st le 2 re nu du ha)) QF := hQF ▸ QFr.q
  refine V.iload_n 1 rfl dX6_addFeeder_0 rfl ?_
  refine V.callSf (ws2 := MW g a z hi tx ai pa tu pt ke st le th re nu du ha) (st2 := [.int (bi (wi x 0 99))]) [.int x] [] (kX6_isX g x ) gX6_addFeeder_X6_isX rfl (by show _ ∧ _ ∧ _ = some (1 : Nat); decide +kernel) ⟨Nat.le_of_ble_eq_true rfl, Nat.le_of_ble_eq_true rfl⟩ [] (by decide) rfl rfl (Nat.le_of_ble_eq_true rfl) ⟨Nat.le_of_ble_eq_true rfl, Nat.le_of_ble_eq_true rfl⟩ dX6_addFeeder_1 rfl (List.append_nil _) rfl rfl rfl ?_
  rw [h0]
  refine V.if_eq_f (tgt := 45) (by decide) dX6_addFeeder_4 (by decide) ?_
  refine V.iload_n 2 rfl dX6_addFeeder_7 rfl ?_
  refine V.callSf (ws2 := MW g a z hi tx ai pa tu pt ke st le th re nu du ha) (st2 := [.int (bi (wi k 0 5))]) [.int k] [] (kX6_isKind g k ) gX6_addFeeder_X6_isKind rfl (by show _ ∧ _ ∧ _ = some (1 : Nat); decide +kernel) ⟨Nat.le_of_ble_eq_true rfl, Nat.le_of_ble_eq_true rfl⟩ [] (by decide) rfl rfl (Nat.le_of_ble_eq_true rfl) ⟨Nat.le_of_ble_eq_true rfl, Nat.le_of_ble_eq_true rfl⟩ dX6_addFeeder_8 rfl (List.append_nil _) rfl rfl rfl ?_
  rw [h1]
  refine V.if_eq_f (tgt := 45) (by decide) dX6_addFeeder_11 (by decide) ?_
  refine V.iload_n 3 rfl dX6_addFeeder_14 rfl ?_
  refine V.iconst (v := 0) dX6_addFeeder_15 (by decide) ?_
  refine V.sipush (v := 500) dX6_addFeeder_16 (by decide) ?_
  refine V.callSf (ws2 := MW g a z hi tx ai pa tu pt ke st le th re nu du ha) (st2 := [.int (bi (wi p (0 : Int32) (500 : Int32)))]) [.int p, .int 0, .int 500] [] (kX6_within g p (0 : Int32) (500 : Int32) ) gX6_addFeeder_X6_within rfl (by show _ ∧ _ ∧ _ = some (3 : Nat); decide +kernel) ⟨Nat.le_of_ble_eq_true rfl, Nat.le_of_ble_eq_true rfl⟩ [] (by decide) rfl rfl (Nat.le_of_ble_eq_true rfl) ⟨Nat.le_of_ble_eq_true rfl, Nat.le_of_ble_eq_true rfl⟩ dX6_addFeeder_19 rfl (List.append_nil _) rfl rfl rfl ?_
  rw [h2]
  refine V.if_eq_f (tgt := 45) (by decide) dX6_addFeeder_22 (by decide) ?_
  refine V.iload 4 rfl dX6_addFeeder_25 ?_
  refine V.callSf (ws2 := MW g a z hi tx ai pa tu pt ke st le th re nu du ha) (st2 := [.int (bi (wi m 0 100))]) [.int m] [] (kX6_isPercent g m ) gX6_addFeeder_X6_isPercent rfl (by show _ ∧ _ ∧ _ = some (1 : Nat); decide +kernel) ⟨Nat.le_of_ble_eq_true rfl, Nat.le_of_ble_eq_true rfl⟩ [] (by decide) rfl rfl (Nat.le_of_ble_eq_true rfl) ⟨Nat.le_of_ble_eq_true rfl, Nat.le_of_ble_eq_true rfl⟩ dX6_addFeeder_27 rfl (List.append_nil _) rfl rfl rfl ?_
  rw [h3]
  refine V.if_eq_f (tgt := 45) (by decide) dX6_addFeeder_30 (by decide) ?_
  refine V.iload 5 rfl dX6_addFeeder_33 ?_
  refine V.callSf (ws2 := MW g a z hi tx ai pa tu pt ke st le th re nu du ha) (st2 := [.int (bi (wi t 0 100))]) [.int t] [] (kX6_isPercent g t ) gX6_addFeeder_X6_isPercent rfl (by show _ ∧ _ ∧ _ = some (1 : Nat); decide +kernel) ⟨Nat.le_of_ble_eq_true rfl, Nat.le_of_ble_eq_true rfl⟩ [] (by decide) rfl rfl (Nat.le_of_ble_eq_true rfl) ⟨Nat.le_of_ble_eq_true rfl, Nat.le_of_ble_eq_true rfl⟩ dX6_addFeeder_35 rfl (List.append_nil _) rfl rfl rfl ?_
  rw [h4]
  refine V.if_eq_f (tgt := 45) (by decide) dX6_addFeeder_38 (by decide) ?_
  refine V.iconst (v := 1) dX6_addFeeder_41 (by decide) ?_
  refine V.goto (tgt := 46) dX6_addFeeder_42 (by decide) ?_
  refine V.istore (lv2 := [(6, .int 1), (0, .ref (a 0)), (1, .int x), (2, .int k), (3, .int p), (4, .int m), (5, .int t)]) dX6_addFeeder_46 (by decide) rfl ?_
  refine V.aload_n 1 rfl dX6_addFeeder_48 rfl ?_
  refine V.iload 0 rfl dX6_addFeeder_49 ?_
  refine V.if_ne_t (tgt := 58) (by decide) dX6_addFeeder_51 (by decide) ?_
  refine V.aload_n 1 rfl dX6_addFeeder_58 rfl ?_
  refine V.get (v := .ref (a 1)) (fun w H => List.mem_cons_of_mem _ (List.mem_append_right _ H)) (hc := (rfl : vwCl[6]? = some (RX6, TX6, 15))) 0 0 (by decide) (List.mem_of_getElem? (i := 1) rfl) rfl rfl dX6_addFeeder_59 ?_
  refine V.iconst (v := 5) dX6_addFeeder_62 (by decide) ?_
  refine V.iald (f := z) 1 5 rfl rfl (by decide) (by decide) dX6_addFeeder_63 ?_
  rw [hF]
  refine V.bipush (v := 8) dX6_addFeeder_64 (by decide) ?_
  refine V.icmp_ne_f (tgt := 73) (by rw [hF8]; rfl) dX6_addFeeder_66 (by decide) ?_
  refine V.iconst (v := 2) dX6_addFeeder_69 (by decide) ?_
  refine V.goto (tgt := 74) dX6_addFeeder_70 (by decide) ?_
  refine V.put (v := .int 2) (ws2 := MW g a z hi tx ai pa tu pt ke st le 2 re nu du ha) (fun w H => List.mem_cons_of_mem _ (List.mem_append_right _ H)) tyX6 tyX6_ok nmX6 (hc := (rfl : vwCl[6]? = some (RX6, TX6, 15))) 0 5 (by decide) (List.mem_of_getElem? (i := 2) rfl) rfl rfl (tyX6_ok 5 (by decide)) rfl rfl (Nat.le_of_ble_eq_true rfl) rfl dX6_addFeeder_74 ?_
  refine V.aload_n 1 rfl dX6_addFeeder_77 rfl ?_
  refine V.get (v := .int 2) (fun w H => List.mem_cons_of_mem _ (List.mem_append_right _ H)) (hc := (rfl : vwCl[6]? = some (RX6, TX6, 15))) 0 5 (by decide) (List.mem_of_getElem? (i := 2) rfl) rfl rfl dX6_addFeeder_78 ?_
  refine V.if_le_f (tgt := 86) (by decide) dX6_addFeeder_81 (by decide) ?_
  refine V.iconst (v := 0) dX6_addFeeder_84 (by decide) ?_
  exact V.iret hq XM.r (Nat.le_of_ble_eq_true rfl) (Nat.le_of_ble_eq_true rfl) ⟨rfl, rfl⟩ dX6_addFeeder_85
abbrev rmX6_addFeeder_ok : Room := { frames := 2, cells := 0, slots := 0, locals := 42 }
set_option maxHeartbeats 4000000 in
set_option maxRecDepth 100000 in
theorem kX6_addFeeder_ok (g : GT) (a : Nat → Nat) (z hi tx ai pa tu pt ke : Nat → Int32) (le th re nu du : Int32) (ha : Int64) (x : Int32) (k : Int32) (p : Int32) (m : Int32) (t : Int32) (sn : Nat) (h0 : wi x 0 99 = true) (h1 : wi k 0 5 = true) (h2 : wi p 0 500 = true) (h3 : wi m 0 100 = true) (h4 : wi t 0 100 = true) (hF : z 5 = nI (nf z)) (hF8 : nf z < 8) (hs : sn ≤ 6) : UC g yX6_addFeeder wsX6_addFeeder rmX6_addFeeder_ok [.ref (a 0), .int x, .int k, .int p, .int m, .int t] (MW g a z hi tx ai pa tu pt ke (nI sn) le th re nu du ha) (Qf (some (.int (nI (nf z)))) (MW g a (afC z x k p m t) (svA sn z hi) tx ai pa tu pt ke (nI (svM sn + 1)) le 0 re nu du ha)) := by
  refine UC.ofV (cc := cX6_addFeeder) (maxL := 7) (ret := some .int) (lv0 := [(0, .ref (a 0)), (1, .int x), (2, .int k), (3, .int p), (4, .int m), (5, .int t)]) (by decide) rfl (Nat.le_of_ble_eq_true rfl) rfl ?_
  generalize hQF : QFr g rmX6_addFeeder_ok (Qf (some (.int (nI (nf z)))) (MW g a (afC z x k p m t) (svA sn z hi) tx ai pa tu pt ke (nI (svM sn + 1)) le 0 re nu du ha)) = QF
  have hq : QFok g rmX6_addFeeder_ok (Qf (some (.int (nI (nf z)))) (MW g a (afC z x k p m t) (svA sn z hi) tx ai pa tu pt ke (nI (svM sn + 1)) le 0 re nu du ha)) QF := hQF ▸ QFr.q
  refine V.iload_n 1 rfl dX6_addFeeder_0 rfl ?_
  refine V.callSf (ws2 := MW g a z hi tx ai pa tu pt ke (nI sn) le th re nu du ha) (st2 := [.int (bi (wi x 0 99))]) [.int x] [] (kX6_isX g x ) gX6_addFeeder_X6_isX rfl (by show _ ∧ _ ∧ _ = some (1 : Nat); decide +kernel) ⟨Nat.le_of_ble_eq_true rfl, Nat.le_of_ble_eq_true rfl⟩ [] (by decide) rfl rfl (Nat.le_of_ble_eq_true rfl) ⟨Nat.le_of_ble_eq_true rfl, Nat.le_of_ble_eq_true rfl⟩ dX6_addFeeder_1 rfl (List.append_nil _) rfl rfl rfl ?_
  rw [h0]
  refine V.if_eq_f (tgt := 45) (by decide) dX6_addFeeder_4 (by decide) ?_
  refine V.iload_n 2 rfl dX6_addFeeder_7 rfl ?_
  refine V.callSf (ws2 := MW g a z hi tx ai pa tu pt ke (nI sn) le th re nu du ha) (st2 := [.int (bi (wi k 0 5))]) [.int k] [] (kX6_isKind g k ) gX6_addFeeder_X6_isKind rfl (by show _ ∧ _ ∧ _ = some (1 : Nat); decide +kernel) ⟨Nat.le_of_ble_eq_true rfl, Nat.le_of_ble_eq_true rfl⟩ [] (by decide) rfl rfl (Nat.le_of_ble_eq_true rfl) ⟨Nat.le_of_ble_eq_true rfl, Nat.le_of_ble_eq_true rfl⟩ dX6_addFeeder_8 rfl (List.append_nil _) rfl rfl rfl ?_
  rw [h1]
  refine V.if_eq_f (tgt := 45) (by decide) dX6_addFeeder_11 (by decide) ?_
  refine V.iload_n 3 rfl dX6_addFeeder_14 rfl ?_
  refine V.iconst (v := 0) dX6_addFeeder_15 (by decide) ?_
  refine V.sipush (v := 500) dX6_addFeeder_16 (by decide) ?_
  refine V.callSf (ws2 := MW g a z hi tx ai pa tu pt ke (nI sn) le th re nu du ha) (st2 := [.int (bi (wi p (0 : Int32) (500 : Int32)))]) [.int p, .int 0, .int 500] [] (kX6_within g p (0 : Int32) (500 : Int32) ) gX6_addFeeder_X6_within rfl (by show _ ∧ _ ∧ _ = some (3 : Nat); decide +kernel) ⟨Nat.le_of_ble_eq_true rfl, Nat.le_of_ble_eq_true rfl⟩ [] (by decide) rfl rfl (Nat.le_of_ble_eq_true rfl) ⟨Nat.le_of_ble_eq_true rfl, Nat.le_of_ble_eq_true rfl⟩ dX6_addFeeder_19 rfl (List.append_nil _) rfl rfl rfl ?_
  rw [h2]
  refine V.if_eq_f (tgt := 45) (by decide) dX6_addFeeder_22 (by decide) ?_
  refine V.iload 4 rfl dX6_addFeeder_25 ?_
  refine V.callSf (ws2 := MW g a z hi tx ai pa tu pt ke (nI sn) le th re nu du ha) (st2 := [.int (bi (wi m 0 100))]) [.int m] [] (kX6_isPercent g m ) gX6_addFeeder_X6_isPercent rfl (by show _ ∧ _ ∧ _ = some (1 : Nat); decide +kernel) ⟨Nat.le_of_ble_eq_true rfl, Nat.le_of_ble_eq_true rfl⟩ [] (by decide) rfl rfl (Nat.le_of_ble_eq_true rfl) ⟨Nat.le_of_ble_eq_true rfl, Nat.le_of_ble_eq_true rfl⟩ dX6_addFeeder_27 rfl (List.append_nil _) rfl rfl rfl ?_
  rw [h3]
  refine V.if_eq_f (tgt := 45) (by decide) dX6_addFeeder_30 (by decide) ?_
  refine V.iload 5 rfl dX6_addFeeder_33 ?_
  refine V.callSf (ws2 := MW g a z hi tx ai pa tu pt ke (nI sn) le th re nu du ha) (st2 := [.int (bi (wi t 0 100))]) [.int t] [] (kX6_isPercent g t ) gX6_addFeeder_X6_isPercent rfl (by show _ ∧ _ ∧ _ = some (1 : Nat); decide +kernel) ⟨Nat.le_of_ble_eq_true rfl, Nat.le_of_ble_eq_true rfl⟩ [] (by decide) rfl rfl (Nat.le_of_ble_eq_true rfl) ⟨Nat.le_of_ble_eq_true rfl, Nat.le_of_ble_eq_true rfl⟩ dX6_addFeeder_35 rfl (List.append_nil _) rfl rfl rfl ?_
  rw [h4]
  refine V.if_eq_f (tgt := 45) (by decide) dX6_addFeeder_38 (by decide) ?_
  refine V.iconst (v := 1) dX6_addFeeder_41 (by decide) ?_
  refine V.goto (tgt := 46) dX6_addFeeder_42 (by decide) ?_
  refine V.istore (lv2 := [(6, .int 1), (0, .ref (a 0)), (1, .int x), (2, .int k), (3, .int p), (4, .int m), (5, .int t)]) dX6_addFeeder_46 (by decide) rfl ?_
  refine V.aload_n 1 rfl dX6_addFeeder_48 rfl ?_
  refine V.iload 0 rfl dX6_addFeeder_49 ?_
  refine V.if_ne_t (tgt := 58) (by decide) dX6_addFeeder_51 (by decide) ?_
  refine V.aload_n 1 rfl dX6_addFeeder_58 rfl ?_
  refine V.get (v := .ref (a 1)) (fun w H => List.mem_cons_of_mem _ (List.mem_append_right _ H)) (hc := (rfl : vwCl[6]? = some (RX6, TX6, 15))) 0 0 (by decide) (List.mem_of_getElem? (i := 1) rfl) rfl rfl dX6_addFeeder_59 ?_
  refine V.iconst (v := 5) dX6_addFeeder_62 (by decide) ?_
  refine V.iald (f := z) 1 5 rfl rfl (by decide) (by decide) dX6_addFeeder_63 ?_
  rw [hF]
  refine V.bipush (v := 8) dX6_addFeeder_64 (by decide) ?_
  refine V.icmp_ne_t (tgt := 73) (fun e => absurd ((nI_eq (a := nf z) (b := 8) (by omega) (by decide)).mp e) (by omega)) dX6_addFeeder_66 (by decide) ?_
  refine V.iconst (v := 0) dX6_addFeeder_73 (by decide) ?_
  refine V.put (v := .int 0) (ws2 := MW g a z hi tx ai pa tu pt ke (nI sn) le 0 re nu du ha) (fun w H => List.mem_cons_of_mem _ (List.mem_append_right _ H)) tyX6 tyX6_ok nmX6 (hc := (rfl : vwCl[6]? = some (RX6, TX6, 15))) 0 5 (by decide) (List.mem_of_getElem? (i := 2) rfl) rfl rfl (tyX6_ok 5 (by decide)) rfl rfl (Nat.le_of_ble_eq_true rfl) rfl dX6_addFeeder_74 ?_
  refine V.aload_n 1 rfl dX6_addFeeder_77 rfl ?_
  refine V.get (v := .int 0) (fun w H => List.mem_cons_of_mem _ (List.mem_append_right _ H)) (hc := (rfl : vwCl[6]? = some (RX6, TX6, 15))) 0 5 (by decide) (List.mem_of_getElem? (i := 2) rfl) rfl rfl dX6_addFeeder_78 ?_
  refine V.if_le_t (tgt := 86) (by decide) dX6_addFeeder_81 (by decide) ?_
  refine V.aload_n 1 rfl dX6_addFeeder_86 rfl ?_
  refine V.callVf (ws2 := MW g a z (svA sn z hi) tx ai pa tu pt ke (nI (svM sn + 1)) le 0 re nu du ha) (st2 := []) [] [] (kX6_save g a z hi tx ai pa tu pt ke le 0 re nu du ha sn hs) gX6_addFeeder_X6_save rfl (by show _ ∧ _ ∧ _ ∧ _ = some (0 : Nat); decide +kernel) ⟨Nat.le_of_ble_eq_true rfl, Nat.le_of_ble_eq_true rfl⟩ (hc := (rfl : vwCl[6]? = some (RX6, TX6, 15))) 0 rfl [0, 1, 2, 3, 4, 5, 6, 7, 8] (by decide) rfl rfl (Nat.le_of_ble_eq_true rfl) ⟨Nat.le_of_ble_eq_true rfl, Nat.le_of_ble_eq_true rfl⟩ dX6_addFeeder_87 MWf rfl rfl rfl rfl ?_
  refine V.aload_n 1 rfl dX6_addFeeder_90 rfl ?_
  refine V.iload_n 2 rfl dX6_addFeeder_91 rfl ?_
  refine V.iload_n 3 rfl dX6_addFeeder_92 rfl ?_
  refine V.iload_n 4 rfl dX6_addFeeder_93 rfl ?_
  refine V.iload 5 rfl dX6_addFeeder_94 ?_
  refine V.iload 6 rfl dX6_addFeeder_96 ?_
  refine V.callVf (ws2 := MW g a (afC z x k p m t) (svA sn z hi) tx ai pa tu pt ke (nI (svM sn + 1)) le 0 re nu du ha) (st2 := [.int (nI (nf z))]) [.int x, .int k, .int p, .int m, .int t] [] (kX6_addsFeeder g a z (svA sn z hi) tx ai pa tu pt ke (nI (svM sn + 1)) le 0 re nu du ha x k p m t hF hF8) gX6_addFeeder_X6_addsFeeder rfl (by show _ ∧ _ ∧ _ ∧ _ = some (5 : Nat); decide +kernel) ⟨Nat.le_of_ble_eq_true rfl, Nat.le_of_ble_eq_true rfl⟩ (hc := (rfl : vwCl[6]? = some (RX6, TX6, 15))) 0 rfl [0, 1, 2, 3, 4, 5, 6, 7, 8] (by decide) rfl rfl (Nat.le_of_ble_eq_true rfl) ⟨Nat.le_of_ble_eq_true rfl, Nat.le_of_ble_eq_true rfl⟩ dX6_addFeeder_98 MWf rfl rfl rfl rfl ?_
  exact V.iret hq XM.r (Nat.le_of_ble_eq_true rfl) (Nat.le_of_ble_eq_true rfl) ⟨rfl, rfl⟩ dX6_addFeeder_101
abbrev rmX6_addPlace_b10 : Room := { frames := 2, cells := 0, slots := 0, locals := 42 }
set_option maxHeartbeats 4000000 in
set_option maxRecDepth 100000 in
theorem kX6_addPlace_b10 (g : GT) (a : Nat → Nat) (z hi tx ai pa tu pt ke : Nat → Int32) (st le th re nu du : Int32) (ha : Int64) (x : Int32) (k : Int32) (h0 : wi x 0 99 = false) : UC g yX6_addPlace wsX6_addPlace rmX6_addPlace_b10 [.ref (a 0), .int x, .int k] (MW g a z hi tx ai pa tu pt ke st le th re nu du ha) (Qf (some (.int 0)) (MW g a z hi tx ai pa tu pt ke st le 1 re nu du ha)) := by
  refine UC.ofV (cc := cX6_addPlace) (maxL := 3) (ret := some .int) (lv0 := [(0, .ref (a 0)), (1, .int x), (2, .int k)]) (by decide) rfl (Nat.le_of_ble_eq_true rfl) rfl ?_
  generalize hQF : QFr g rmX6_addPlace_b10 (Qf (some (.int 0)) (MW g a z hi tx ai pa tu pt ke st le 1 re nu du ha)) = QF
  have hq : QFok g rmX6_addPlace_b10 (Qf (some (.int 0)) (MW g a z hi tx ai pa tu pt ke st le 1 re nu du ha)) QF := hQF ▸ QFr.q
  refine V.aload_n 0 rfl dX6_addPlace_0 rfl ?_
  refine V.iload_n 1 rfl dX6_addPlace_1 rfl ?_
  refine V.callSf (ws2 := MW g a z hi tx ai pa tu pt ke st le th re nu du ha) (st2 := [.int (bi (wi x 0 99)), .ref (a 0)]) [.int x] [.ref (a 0)] (kX6_isX g x ) gX6_addPlace_X6_isX rfl (by show _ ∧ _ ∧ _ = some (1 : Nat); decide +kernel) ⟨Nat.le_of_ble_eq_true rfl, Nat.le_of_ble_eq_true rfl⟩ [] (by decide) rfl rfl (Nat.le_of_ble_eq_true rfl) ⟨Nat.le_of_ble_eq_true rfl, Nat.le_of_ble_eq_true rfl⟩ dX6_addPlace_2 rfl (List.append_nil _) rfl rfl rfl ?_
  rw [h0]
  refine V.if_eq_t (tgt := 15) (by decide) dX6_addPlace_5 (by decide) ?_
  refine V.iconst (v := 1) dX6_addPlace_15 (by decide) ?_
  refine V.goto (tgt := 36) dX6_addPlace_16 (by decide) ?_
  refine V.put (v := .int 1) (ws2 := MW g a z hi tx ai pa tu pt ke st le 1 re nu du ha) (fun w H => List.mem_cons_of_mem _ (List.mem_append_right _ H)) tyX6 tyX6_ok nmX6 (hc := (rfl : vwCl[6]? = some (RX6, TX6, 15))) 0 5 (by decide) (List.mem_of_getElem? (i := 2) rfl) rfl rfl (tyX6_ok 5 (by decide)) rfl rfl (Nat.le_of_ble_eq_true rfl) rfl dX6_addPlace_36 ?_
  refine V.aload_n 0 rfl dX6_addPlace_39 rfl ?_
  refine V.get (v := .int 1) (fun w H => List.mem_cons_of_mem _ (List.mem_append_right _ H)) (hc := (rfl : vwCl[6]? = some (RX6, TX6, 15))) 0 5 (by decide) (List.mem_of_getElem? (i := 2) rfl) rfl rfl dX6_addPlace_40 ?_
  refine V.if_le_f (tgt := 48) (by decide) dX6_addPlace_43 (by decide) ?_
  refine V.iconst (v := 0) dX6_addPlace_46 (by decide) ?_
  exact V.iret hq XM.r (Nat.le_of_ble_eq_true rfl) (Nat.le_of_ble_eq_true rfl) ⟨rfl, rfl⟩ dX6_addPlace_47
abbrev rmX6_addPlace_b11 : Room := { frames := 2, cells := 0, slots := 0, locals := 42 }
set_option maxHeartbeats 4000000 in
set_option maxRecDepth 100000 in
theorem kX6_addPlace_b11 (g : GT) (a : Nat → Nat) (z hi tx ai pa tu pt ke : Nat → Int32) (st le th re nu du : Int32) (ha : Int64) (x : Int32) (k : Int32) (h0 : wi x 0 99 = true) (h1 : wi k 0 5 = false) : UC g yX6_addPlace wsX6_addPlace rmX6_addPlace_b11 [.ref (a 0), .int x, .int k] (MW g a z hi tx ai pa tu pt ke st le th re nu du ha) (Qf (some (.int 0)) (MW g a z hi tx ai pa tu pt ke st le 1 re nu du ha)) := by
  refine UC.ofV (cc := cX6_addPlace) (maxL := 3) (ret := some .int) (lv0 := [(0, .ref (a 0)), (1, .int x), (2, .int k)]) (by decide) rfl (Nat.le_of_ble_eq_true rfl) rfl ?_
  generalize hQF : QFr g rmX6_addPlace_b11 (Qf (some (.int 0)) (MW g a z hi tx ai pa tu pt ke st le 1 re nu du ha)) = QF
  have hq : QFok g rmX6_addPlace_b11 (Qf (some (.int 0)) (MW g a z hi tx ai pa tu pt ke st le 1 re nu du ha)) QF := hQF ▸ QFr.q
  refine V.aload_n 0 rfl dX6_addPlace_0 rfl ?_
  refine V.iload_n 1 rfl dX6_addPlace_1 rfl ?_
  refine V.callSf (ws2 := MW g a z hi tx ai pa tu pt ke st le th re nu du ha) (st2 := [.int (bi (wi x 0 99)), .ref (a 0)]) [.int x] [.ref (a 0)] (kX6_isX g x ) gX6_addPlace_X6_isX rfl (by show _ ∧ _ ∧ _ = some (1 : Nat); decide +kernel) ⟨Nat.le_of_ble_eq_true rfl, Nat.le_of_ble_eq_true rfl⟩ [] (by decide) rfl rfl (Nat.le_of_ble_eq_true rfl) ⟨Nat.le_of_ble_eq_true rfl, Nat.le_of_ble_eq_true rfl⟩ dX6_addPlace_2 rfl (List.append_nil _) rfl rfl rfl ?_
  rw [h0]
  refine V.if_eq_f (tgt := 15) (by decide) dX6_addPlace_5 (by decide) ?_
  refine V.iload_n 2 rfl dX6_addPlace_8 rfl ?_
  refine V.callSf (ws2 := MW g a z hi tx ai pa tu pt ke st le th re nu du ha) (st2 := [.int (bi (wi k 0 5)), .ref (a 0)]) [.int k] [.ref (a 0)] (kX6_isKind g k ) gX6_addPlace_X6_isKind rfl (by show _ ∧ _ ∧ _ = some (1 : Nat); decide +kernel) ⟨Nat.le_of_ble_eq_true rfl, Nat.le_of_ble_eq_true rfl⟩ [] (by decide) rfl rfl (Nat.le_of_ble_eq_true rfl) ⟨Nat.le_of_ble_eq_true rfl, Nat.le_of_ble_eq_true rfl⟩ dX6_addPlace_9 rfl (List.append_nil _) rfl rfl rfl ?_
  rw [h1]
  refine V.if_ne_f (tgt := 19) (by decide) dX6_addPlace_12 (by decide) ?_
  refine V.iconst (v := 1) dX6_addPlace_15 (by decide) ?_
  refine V.goto (tgt := 36) dX6_addPlace_16 (by decide) ?_
  refine V.put (v := .int 1) (ws2 := MW g a z hi tx ai pa tu pt ke st le 1 re nu du ha) (fun w H => List.mem_cons_of_mem _ (List.mem_append_right _ H)) tyX6 tyX6_ok nmX6 (hc := (rfl : vwCl[6]? = some (RX6, TX6, 15))) 0 5 (by decide) (List.mem_of_getElem? (i := 2) rfl) rfl rfl (tyX6_ok 5 (by decide)) rfl rfl (Nat.le_of_ble_eq_true rfl) rfl dX6_addPlace_36 ?_
  refine V.aload_n 0 rfl dX6_addPlace_39 rfl ?_
  refine V.get (v := .int 1) (fun w H => List.mem_cons_of_mem _ (List.mem_append_right _ H)) (hc := (rfl : vwCl[6]? = some (RX6, TX6, 15))) 0 5 (by decide) (List.mem_of_getElem? (i := 2) rfl) rfl rfl dX6_addPlace_40 ?_
  refine V.if_le_f (tgt := 48) (by decide) dX6_addPlace_43 (by decide) ?_
  refine V.iconst (v := 0) dX6_addPlace_46 (by decide) ?_
  exact V.iret hq XM.r (Nat.le_of_ble_eq_true rfl) (Nat.le_of_ble_eq_true rfl) ⟨rfl, rfl⟩ dX6_addPlace_47
abbrev rmX6_addPlace_b2 : Room := { frames := 2, cells := 0, slots := 0, locals := 42 }
set_option maxHeartbeats 4000000 in
set_option maxRecDepth 100000 in
theorem kX6_addPlace_b2 (g : GT) (a : Nat → Nat) (z hi tx ai pa tu pt ke : Nat → Int32) (st le th re nu du : Int32) (ha : Int64) (x : Int32) (k : Int32) (h0 : wi x 0 99 = true) (h1 : wi k 0 5 = true) (hP : z 6 = nI (np z)) (hP24 : np z = 24) : UC g yX6_addPlace wsX6_addPlace rmX6_addPlace_b2 [.ref (a 0), .int x, .int k] (MW g a z hi tx ai pa tu pt ke st le th re nu du ha) (Qf (some (.int 0)) (MW g a z hi tx ai pa tu pt ke st le 2 re nu du ha)) := by
  refine UC.ofV (cc := cX6_addPlace) (maxL := 3) (ret := some .int) (lv0 := [(0, .ref (a 0)), (1, .int x), (2, .int k)]) (by decide) rfl (Nat.le_of_ble_eq_true rfl) rfl ?_
  generalize hQF : QFr g rmX6_addPlace_b2 (Qf (some (.int 0)) (MW g a z hi tx ai pa tu pt ke st le 2 re nu du ha)) = QF
  have hq : QFok g rmX6_addPlace_b2 (Qf (some (.int 0)) (MW g a z hi tx ai pa tu pt ke st le 2 re nu du ha)) QF := hQF ▸ QFr.q
  refine V.aload_n 0 rfl dX6_addPlace_0 rfl ?_
  refine V.iload_n 1 rfl dX6_addPlace_1 rfl ?_
  refine V.callSf (ws2 := MW g a z hi tx ai pa tu pt ke st le th re nu du ha) (st2 := [.int (bi (wi x 0 99)), .ref (a 0)]) [.int x] [.ref (a 0)] (kX6_isX g x ) gX6_addPlace_X6_isX rfl (by show _ ∧ _ ∧ _ = some (1 : Nat); decide +kernel) ⟨Nat.le_of_ble_eq_true rfl, Nat.le_of_ble_eq_true rfl⟩ [] (by decide) rfl rfl (Nat.le_of_ble_eq_true rfl) ⟨Nat.le_of_ble_eq_true rfl, Nat.le_of_ble_eq_true rfl⟩ dX6_addPlace_2 rfl (List.append_nil _) rfl rfl rfl ?_
  rw [h0]
  refine V.if_eq_f (tgt := 15) (by decide) dX6_addPlace_5 (by decide) ?_
  refine V.iload_n 2 rfl dX6_addPlace_8 rfl ?_
  refine V.callSf (ws2 := MW g a z hi tx ai pa tu pt ke st le th re nu du ha) (st2 := [.int (bi (wi k 0 5)), .ref (a 0)]) [.int k] [.ref (a 0)] (kX6_isKind g k ) gX6_addPlace_X6_isKind rfl (by show _ ∧ _ ∧ _ = some (1 : Nat); decide +kernel) ⟨Nat.le_of_ble_eq_true rfl, Nat.le_of_ble_eq_true rfl⟩ [] (by decide) rfl rfl (Nat.le_of_ble_eq_true rfl) ⟨Nat.le_of_ble_eq_true rfl, Nat.le_of_ble_eq_true rfl⟩ dX6_addPlace_9 rfl (List.append_nil _) rfl rfl rfl ?_
  rw [h1]
  refine V.if_ne_t (tgt := 19) (by decide) dX6_addPlace_12 (by decide) ?_
  refine V.aload_n 0 rfl dX6_addPlace_19 rfl ?_
  refine V.get (v := .ref (a 1)) (fun w H => List.mem_cons_of_mem _ (List.mem_append_right _ H)) (hc := (rfl : vwCl[6]? = some (RX6, TX6, 15))) 0 0 (by decide) (List.mem_of_getElem? (i := 1) rfl) rfl rfl dX6_addPlace_20 ?_
  refine V.bipush (v := 6) dX6_addPlace_23 (by decide) ?_
  refine V.iald (f := z) 1 6 rfl rfl (by decide) (by decide) dX6_addPlace_25 ?_
  rw [hP]
  refine V.bipush (v := 24) dX6_addPlace_26 (by decide) ?_
  refine V.icmp_ne_f (tgt := 35) (by rw [hP24]; rfl) dX6_addPlace_28 (by decide) ?_
  refine V.iconst (v := 2) dX6_addPlace_31 (by decide) ?_
  refine V.goto (tgt := 36) dX6_addPlace_32 (by decide) ?_
  refine V.put (v := .int 2) (ws2 := MW g a z hi tx ai pa tu pt ke st le 2 re nu du ha) (fun w H => List.mem_cons_of_mem _ (List.mem_append_right _ H)) tyX6 tyX6_ok nmX6 (hc := (rfl : vwCl[6]? = some (RX6, TX6, 15))) 0 5 (by decide) (List.mem_of_getElem? (i := 2) rfl) rfl rfl (tyX6_ok 5 (by decide)) rfl rfl (Nat.le_of_ble_eq_true rfl) rfl dX6_addPlace_36 ?_
  refine V.aload_n 0 rfl dX6_addPlace_39 rfl ?_
  refine V.get (v := .int 2) (fun w H => List.mem_cons_of_mem _ (List.mem_append_right _ H)) (hc := (rfl : vwCl[6]? = some (RX6, TX6, 15))) 0 5 (by decide) (List.mem_of_getElem? (i := 2) rfl) rfl rfl dX6_addPlace_40 ?_
  refine V.if_le_f (tgt := 48) (by decide) dX6_addPlace_43 (by decide) ?_
  refine V.iconst (v := 0) dX6_addPlace_46 (by decide) ?_
  exact V.iret hq XM.r (Nat.le_of_ble_eq_true rfl) (Nat.le_of_ble_eq_true rfl) ⟨rfl, rfl⟩ dX6_addPlace_47
abbrev rmX6_addPlace_ok : Room := { frames := 2, cells := 0, slots := 0, locals := 42 }
set_option maxHeartbeats 4000000 in
set_option maxRecDepth 100000 in
theorem kX6_addPlace_ok (g : GT) (a : Nat → Nat) (z hi tx ai pa tu pt ke : Nat → Int32) (le th re nu du : Int32) (ha : Int64) (x : Int32) (k : Int32) (sn : Nat) (h0 : wi x 0 99 = true) (h1 : wi k 0 5 = true) (hP : z 6 = nI (np z)) (hP24 : np z < 24) (hs : sn ≤ 6) : UC g yX6_addPlace wsX6_addPlace rmX6_addPlace_ok [.ref (a 0), .int x, .int k] (MW g a z hi tx ai pa tu pt ke (nI sn) le th re nu du ha) (Qf (some (.int (nI (np z)))) (MW g a (apA z x k) (svA sn z hi) tx ai pa tu pt ke (nI (svM sn + 1)) le 0 re nu du ha)) := by
  refine UC.ofV (cc := cX6_addPlace) (maxL := 3) (ret := some .int) (lv0 := [(0, .ref (a 0)), (1, .int x), (2, .int k)]) (by decide) rfl (Nat.le_of_ble_eq_true rfl) rfl ?_
  generalize hQF : QFr g rmX6_addPlace_ok (Qf (some (.int (nI (np z)))) (MW g a (apA z x k) (svA sn z hi) tx ai pa tu pt ke (nI (svM sn + 1)) le 0 re nu du ha)) = QF
  have hq : QFok g rmX6_addPlace_ok (Qf (some (.int (nI (np z)))) (MW g a (apA z x k) (svA sn z hi) tx ai pa tu pt ke (nI (svM sn + 1)) le 0 re nu du ha)) QF := hQF ▸ QFr.q
  refine V.aload_n 0 rfl dX6_addPlace_0 rfl ?_
  refine V.iload_n 1 rfl dX6_addPlace_1 rfl ?_
  refine V.callSf (ws2 := MW g a z hi tx ai pa tu pt ke (nI sn) le th re nu du ha) (st2 := [.int (bi (wi x 0 99)), .ref (a 0)]) [.int x] [.ref (a 0)] (kX6_isX g x ) gX6_addPlace_X6_isX rfl (by show _ ∧ _ ∧ _ = some (1 : Nat); decide +kernel) ⟨Nat.le_of_ble_eq_true rfl, Nat.le_of_ble_eq_true rfl⟩ [] (by decide) rfl rfl (Nat.le_of_ble_eq_true rfl) ⟨Nat.le_of_ble_eq_true rfl, Nat.le_of_ble_eq_true rfl⟩ dX6_addPlace_2 rfl (List.append_nil _) rfl rfl rfl ?_
  rw [h0]
  refine V.if_eq_f (tgt := 15) (by decide) dX6_addPlace_5 (by decide) ?_
  refine V.iload_n 2 rfl dX6_addPlace_8 rfl ?_
  refine V.callSf (ws2 := MW g a z hi tx ai pa tu pt ke (nI sn) le th re nu du ha) (st2 := [.int (bi (wi k 0 5)), .ref (a 0)]) [.int k] [.ref (a 0)] (kX6_isKind g k ) gX6_addPlace_X6_isKind rfl (by show _ ∧ _ ∧ _ = some (1 : Nat); decide +kernel) ⟨Nat.le_of_ble_eq_true rfl, Nat.le_of_ble_eq_true rfl⟩ [] (by decide) rfl rfl (Nat.le_of_ble_eq_true rfl) ⟨Nat.le_of_ble_eq_true rfl, Nat.le_of_ble_eq_true rfl⟩ dX6_addPlace_9 rfl (List.append_nil _) rfl rfl rfl ?_
  rw [h1]
  refine V.if_ne_t (tgt := 19) (by decide) dX6_addPlace_12 (by decide) ?_
  refine V.aload_n 0 rfl dX6_addPlace_19 rfl ?_
  refine V.get (v := .ref (a 1)) (fun w H => List.mem_cons_of_mem _ (List.mem_append_right _ H)) (hc := (rfl : vwCl[6]? = some (RX6, TX6, 15))) 0 0 (by decide) (List.mem_of_getElem? (i := 1) rfl) rfl rfl dX6_addPlace_20 ?_
  refine V.bipush (v := 6) dX6_addPlace_23 (by decide) ?_
  refine V.iald (f := z) 1 6 rfl rfl (by decide) (by decide) dX6_addPlace_25 ?_
  rw [hP]
  refine V.bipush (v := 24) dX6_addPlace_26 (by decide) ?_
  refine V.icmp_ne_t (tgt := 35) (fun e => absurd ((nI_eq (a := np z) (b := 24) (by omega) (by decide)).mp e) (by omega)) dX6_addPlace_28 (by decide) ?_
  refine V.iconst (v := 0) dX6_addPlace_35 (by decide) ?_
  refine V.put (v := .int 0) (ws2 := MW g a z hi tx ai pa tu pt ke (nI sn) le 0 re nu du ha) (fun w H => List.mem_cons_of_mem _ (List.mem_append_right _ H)) tyX6 tyX6_ok nmX6 (hc := (rfl : vwCl[6]? = some (RX6, TX6, 15))) 0 5 (by decide) (List.mem_of_getElem? (i := 2) rfl) rfl rfl (tyX6_ok 5 (by decide)) rfl rfl (Nat.le_of_ble_eq_true rfl) rfl dX6_addPlace_36 ?_
  refine V.aload_n 0 rfl dX6_addPlace_39 rfl ?_
  refine V.get (v := .int 0) (fun w H => List.mem_cons_of_mem _ (List.mem_append_right _ H)) (hc := (rfl : vwCl[6]? = some (RX6, TX6, 15))) 0 5 (by decide) (List.mem_of_getElem? (i := 2) rfl) rfl rfl dX6_addPlace_40 ?_
  refine V.if_le_t (tgt := 48) (by decide) dX6_addPlace_43 (by decide) ?_
  refine V.aload_n 0 rfl dX6_addPlace_48 rfl ?_
  refine V.callVf (ws2 := MW g a z (svA sn z hi) tx ai pa tu pt ke (nI (svM sn + 1)) le 0 re nu du ha) (st2 := []) [] [] (kX6_save g a z hi tx ai pa tu pt ke le 0 re nu du ha sn hs) gX6_addPlace_X6_save rfl (by show _ ∧ _ ∧ _ ∧ _ = some (0 : Nat); decide +kernel) ⟨Nat.le_of_ble_eq_true rfl, Nat.le_of_ble_eq_true rfl⟩ (hc := (rfl : vwCl[6]? = some (RX6, TX6, 15))) 0 rfl [0, 1, 2, 3, 4, 5, 6, 7, 8] (by decide) rfl rfl (Nat.le_of_ble_eq_true rfl) ⟨Nat.le_of_ble_eq_true rfl, Nat.le_of_ble_eq_true rfl⟩ dX6_addPlace_49 MWf rfl rfl rfl rfl ?_
  refine V.aload_n 0 rfl dX6_addPlace_52 rfl ?_
  refine V.iload_n 1 rfl dX6_addPlace_53 rfl ?_
  refine V.iload_n 2 rfl dX6_addPlace_54 rfl ?_
  refine V.callVf (ws2 := MW g a (apA z x k) (svA sn z hi) tx ai pa tu pt ke (nI (svM sn + 1)) le 0 re nu du ha) (st2 := [.int (nI (np z))]) [.int x, .int k] [] (kX6_addsPlace g a z (svA sn z hi) tx ai pa tu pt ke (nI (svM sn + 1)) le 0 re nu du ha x k hP hP24) gX6_addPlace_X6_addsPlace rfl (by show _ ∧ _ ∧ _ ∧ _ = some (2 : Nat); decide +kernel) ⟨Nat.le_of_ble_eq_true rfl, Nat.le_of_ble_eq_true rfl⟩ (hc := (rfl : vwCl[6]? = some (RX6, TX6, 15))) 0 rfl [0, 1, 2, 3, 4, 5, 6, 7, 8] (by decide) rfl rfl (Nat.le_of_ble_eq_true rfl) ⟨Nat.le_of_ble_eq_true rfl, Nat.le_of_ble_eq_true rfl⟩ dX6_addPlace_55 MWf rfl rfl rfl rfl ?_
  exact V.iret hq XM.r (Nat.le_of_ble_eq_true rfl) (Nat.le_of_ble_eq_true rfl) ⟨rfl, rfl⟩ dX6_addPlace_58
abbrev rmX6_fill_b1 : Room := { frames := 2, cells := 0, slots := 0, locals := 43 }
set_option maxHeartbeats 4000000 in
set_option maxRecDepth 100000 in
theorem kX6_fill_b1 (g : GT) (a : Nat → Nat) (z hi tx ai pa tu pt ke : Nat → Int32) (st le th re nu du : Int32) (ha : Int64) (v : Int32) (x : Int32) (h0 : wi v 0 (z 5 - 1) = false) : UC g yX6_fill wsX6_fill rmX6_fill_b1 [.ref (a 0), .int v, .int x] (MW g a z hi tx ai pa tu pt ke st le th re nu du ha) (Qf (some (.int 0)) (MW g a z hi tx ai pa tu pt ke st le 1 re nu du ha)) := by
  refine UC.ofV (cc := cX6_fill) (maxL := 3) (ret := some .int) (lv0 := [(0, .ref (a 0)), (1, .int v), (2, .int x)]) (by decide) rfl (Nat.le_of_ble_eq_true rfl) rfl ?_
  generalize hQF : QFr g rmX6_fill_b1 (Qf (some (.int 0)) (MW g a z hi tx ai pa tu pt ke st le 1 re nu du ha)) = QF
  have hq : QFok g rmX6_fill_b1 (Qf (some (.int 0)) (MW g a z hi tx ai pa tu pt ke st le 1 re nu du ha)) QF := hQF ▸ QFr.q
  refine V.aload_n 0 rfl dX6_fill_0 rfl ?_
  refine V.aload_n 0 rfl dX6_fill_1 rfl ?_
  refine V.iload_n 1 rfl dX6_fill_2 rfl ?_
  refine V.callVf (ws2 := MW g a z hi tx ai pa tu pt ke st le th re nu du ha) (st2 := [.int (bi (wi v 0 (z 5 - 1))), .ref (a 0)]) [.int v] [.ref (a 0)] (kX6_isFeeder g a z hi tx ai pa tu pt ke st le th re nu du ha v ) gX6_fill_X6_isFeeder rfl (by show _ ∧ _ ∧ _ ∧ _ = some (1 : Nat); decide +kernel) ⟨Nat.le_of_ble_eq_true rfl, Nat.le_of_ble_eq_true rfl⟩ (hc := (rfl : vwCl[6]? = some (RX6, TX6, 15))) 0 rfl [0, 1, 2, 3, 4, 5, 6, 7, 8] (by decide) rfl rfl (Nat.le_of_ble_eq_true rfl) ⟨Nat.le_of_ble_eq_true rfl, Nat.le_of_ble_eq_true rfl⟩ dX6_fill_3 MWf rfl rfl rfl rfl ?_
  rw [h0]
  refine V.if_ne_f (tgt := 13) (by decide) dX6_fill_6 (by decide) ?_
  refine V.iconst (v := 1) dX6_fill_9 (by decide) ?_
  refine V.goto (tgt := 47) dX6_fill_10 (by decide) ?_
  refine V.put (v := .int 1) (ws2 := MW g a z hi tx ai pa tu pt ke st le 1 re nu du ha) (fun w H => List.mem_cons_of_mem _ (List.mem_append_right _ H)) tyX6 tyX6_ok nmX6 (hc := (rfl : vwCl[6]? = some (RX6, TX6, 15))) 0 5 (by decide) (List.mem_of_getElem? (i := 1) rfl) rfl rfl (tyX6_ok 5 (by decide)) rfl rfl (Nat.le_of_ble_eq_true rfl) rfl dX6_fill_47 ?_
  refine V.aload_n 0 rfl dX6_fill_50 rfl ?_
  refine V.get (v := .int 1) (fun w H => List.mem_cons_of_mem _ (List.mem_append_right _ H)) (hc := (rfl : vwCl[6]? = some (RX6, TX6, 15))) 0 5 (by decide) (List.mem_of_getElem? (i := 1) rfl) rfl rfl dX6_fill_51 ?_
  refine V.if_le_f (tgt := 59) (by decide) dX6_fill_54 (by decide) ?_
  refine V.iconst (v := 0) dX6_fill_57 (by decide) ?_
  exact V.iret hq XM.r (Nat.le_of_ble_eq_true rfl) (Nat.le_of_ble_eq_true rfl) ⟨rfl, rfl⟩ dX6_fill_58
abbrev rmX6_fill_b2 : Room := { frames := 2, cells := 0, slots := 0, locals := 43 }
set_option maxHeartbeats 4000000 in
set_option maxRecDepth 100000 in
theorem kX6_fill_b2 (g : GT) (a : Nat → Nat) (z hi tx ai pa tu pt ke : Nat → Int32) (st le th re nu du : Int32) (ha : Int64) (f : Nat) (x : Int32) (h0 : wi (nI f) 0 (z 5 - 1) = true) (h1 : wi x 1 500 = false) : UC g yX6_fill wsX6_fill rmX6_fill_b2 [.ref (a 0), .int (nI f), .int x] (MW g a z hi tx ai pa tu pt ke st le th re nu du ha) (Qf (some (.int 0)) (MW g a z hi tx ai pa tu pt ke st le 2 re nu du ha)) := by
  refine UC.ofV (cc := cX6_fill) (maxL := 3) (ret := some .int) (lv0 := [(0, .ref (a 0)), (1, .int (nI f)), (2, .int x)]) (by decide) rfl (Nat.le_of_ble_eq_true rfl) rfl ?_
  generalize hQF : QFr g rmX6_fill_b2 (Qf (some (.int 0)) (MW g a z hi tx ai pa tu pt ke st le 2 re nu du ha)) = QF
  have hq : QFok g rmX6_fill_b2 (Qf (some (.int 0)) (MW g a z hi tx ai pa tu pt ke st le 2 re nu du ha)) QF := hQF ▸ QFr.q
  refine V.aload_n 0 rfl dX6_fill_0 rfl ?_
  refine V.aload_n 0 rfl dX6_fill_1 rfl ?_
  refine V.iload_n 1 rfl dX6_fill_2 rfl ?_
  refine V.callVf (ws2 := MW g a z hi tx ai pa tu pt ke st le th re nu du ha) (st2 := [.int (bi (wi (nI f) 0 (z 5 - 1))), .ref (a 0)]) [.int (nI f)] [.ref (a 0)] (kX6_isFeeder g a z hi tx ai pa tu pt ke st le th re nu du ha (nI f) ) gX6_fill_X6_isFeeder rfl (by show _ ∧ _ ∧ _ ∧ _ = some (1 : Nat); decide +kernel) ⟨Nat.le_of_ble_eq_true rfl, Nat.le_of_ble_eq_true rfl⟩ (hc := (rfl : vwCl[6]? = some (RX6, TX6, 15))) 0 rfl [0, 1, 2, 3, 4, 5, 6, 7, 8] (by decide) rfl rfl (Nat.le_of_ble_eq_true rfl) ⟨Nat.le_of_ble_eq_true rfl, Nat.le_of_ble_eq_true rfl⟩ dX6_fill_3 MWf rfl rfl rfl rfl ?_
  rw [h0]
  refine V.if_ne_t (tgt := 13) (by decide) dX6_fill_6 (by decide) ?_
  refine V.iload_n 2 rfl dX6_fill_13 rfl ?_
  refine V.iconst (v := 1) dX6_fill_14 (by decide) ?_
  refine V.sipush (v := 500) dX6_fill_15 (by decide) ?_
  refine V.callSf (ws2 := MW g a z hi tx ai pa tu pt ke st le th re nu du ha) (st2 := [.int (bi (wi x (1 : Int32) (500 : Int32))), .ref (a 0)]) [.int x, .int 1, .int 500] [.ref (a 0)] (kX6_within g x (1 : Int32) (500 : Int32) ) gX6_fill_X6_within rfl (by show _ ∧ _ ∧ _ = some (3 : Nat); decide +kernel) ⟨Nat.le_of_ble_eq_true rfl, Nat.le_of_ble_eq_true rfl⟩ [] (by decide) rfl rfl (Nat.le_of_ble_eq_true rfl) ⟨Nat.le_of_ble_eq_true rfl, Nat.le_of_ble_eq_true rfl⟩ dX6_fill_18 rfl (List.append_nil _) rfl rfl rfl ?_
  rw [h1]
  refine V.if_ne_f (tgt := 28) (by decide) dX6_fill_21 (by decide) ?_
  refine V.iconst (v := 2) dX6_fill_24 (by decide) ?_
  refine V.goto (tgt := 47) dX6_fill_25 (by decide) ?_
  refine V.put (v := .int 2) (ws2 := MW g a z hi tx ai pa tu pt ke st le 2 re nu du ha) (fun w H => List.mem_cons_of_mem _ (List.mem_append_right _ H)) tyX6 tyX6_ok nmX6 (hc := (rfl : vwCl[6]? = some (RX6, TX6, 15))) 0 5 (by decide) (List.mem_of_getElem? (i := 1) rfl) rfl rfl (tyX6_ok 5 (by decide)) rfl rfl (Nat.le_of_ble_eq_true rfl) rfl dX6_fill_47 ?_
  refine V.aload_n 0 rfl dX6_fill_50 rfl ?_
  refine V.get (v := .int 2) (fun w H => List.mem_cons_of_mem _ (List.mem_append_right _ H)) (hc := (rfl : vwCl[6]? = some (RX6, TX6, 15))) 0 5 (by decide) (List.mem_of_getElem? (i := 1) rfl) rfl rfl dX6_fill_51 ?_
  refine V.if_le_f (tgt := 59) (by decide) dX6_fill_54 (by decide) ?_
  refine V.iconst (v := 0) dX6_fill_57 (by decide) ?_
  exact V.iret hq XM.r (Nat.le_of_ble_eq_true rfl) (Nat.le_of_ble_eq_true rfl) ⟨rfl, rfl⟩ dX6_fill_58
abbrev rmX6_fill_b3 : Room := { frames := 2, cells := 0, slots := 0, locals := 43 }
set_option maxHeartbeats 4000000 in
set_option maxRecDepth 100000 in
theorem kX6_fill_b3 (g : GT) (a : Nat → Nat) (z hi tx ai pa tu pt ke : Nat → Int32) (st le th re nu du : Int32) (ha : Int64) (f : Nat) (x : Int32) (hf : f < 8) (h0 : wi (nI f) 0 (z 5 - 1) = true) (h1 : wi x 1 500 = true) (h2 : ¬ z (12 + 8 * f + 2) + x ≤ 500) : UC g yX6_fill wsX6_fill rmX6_fill_b3 [.ref (a 0), .int (nI f), .int x] (MW g a z hi tx ai pa tu pt ke st le th re nu du ha) (Qf (some (.int 0)) (MW g a z hi tx ai pa tu pt ke st le 3 re nu du ha)) := by
  refine UC.ofV (cc := cX6_fill) (maxL := 3) (ret := some .int) (lv0 := [(0, .ref (a 0)), (1, .int (nI f)), (2, .int x)]) (by decide) rfl (Nat.le_of_ble_eq_true rfl) rfl ?_
  generalize hQF : QFr g rmX6_fill_b3 (Qf (some (.int 0)) (MW g a z hi tx ai pa tu pt ke st le 3 re nu du ha)) = QF
  have hq : QFok g rmX6_fill_b3 (Qf (some (.int 0)) (MW g a z hi tx ai pa tu pt ke st le 3 re nu du ha)) QF := hQF ▸ QFr.q
  refine V.aload_n 0 rfl dX6_fill_0 rfl ?_
  refine V.aload_n 0 rfl dX6_fill_1 rfl ?_
  refine V.iload_n 1 rfl dX6_fill_2 rfl ?_
  refine V.callVf (ws2 := MW g a z hi tx ai pa tu pt ke st le th re nu du ha) (st2 := [.int (bi (wi (nI f) 0 (z 5 - 1))), .ref (a 0)]) [.int (nI f)] [.ref (a 0)] (kX6_isFeeder g a z hi tx ai pa tu pt ke st le th re nu du ha (nI f) ) gX6_fill_X6_isFeeder rfl (by show _ ∧ _ ∧ _ ∧ _ = some (1 : Nat); decide +kernel) ⟨Nat.le_of_ble_eq_true rfl, Nat.le_of_ble_eq_true rfl⟩ (hc := (rfl : vwCl[6]? = some (RX6, TX6, 15))) 0 rfl [0, 1, 2, 3, 4, 5, 6, 7, 8] (by decide) rfl rfl (Nat.le_of_ble_eq_true rfl) ⟨Nat.le_of_ble_eq_true rfl, Nat.le_of_ble_eq_true rfl⟩ dX6_fill_3 MWf rfl rfl rfl rfl ?_
  rw [h0]
  refine V.if_ne_t (tgt := 13) (by decide) dX6_fill_6 (by decide) ?_
  refine V.iload_n 2 rfl dX6_fill_13 rfl ?_
  refine V.iconst (v := 1) dX6_fill_14 (by decide) ?_
  refine V.sipush (v := 500) dX6_fill_15 (by decide) ?_
  refine V.callSf (ws2 := MW g a z hi tx ai pa tu pt ke st le th re nu du ha) (st2 := [.int (bi (wi x (1 : Int32) (500 : Int32))), .ref (a 0)]) [.int x, .int 1, .int 500] [.ref (a 0)] (kX6_within g x (1 : Int32) (500 : Int32) ) gX6_fill_X6_within rfl (by show _ ∧ _ ∧ _ = some (3 : Nat); decide +kernel) ⟨Nat.le_of_ble_eq_true rfl, Nat.le_of_ble_eq_true rfl⟩ [] (by decide) rfl rfl (Nat.le_of_ble_eq_true rfl) ⟨Nat.le_of_ble_eq_true rfl, Nat.le_of_ble_eq_true rfl⟩ dX6_fill_18 rfl (List.append_nil _) rfl rfl rfl ?_
  rw [h1]
  refine V.if_ne_t (tgt := 28) (by decide) dX6_fill_21 (by decide) ?_
  refine V.aload_n 0 rfl dX6_fill_28 rfl ?_
  refine V.iload_n 1 rfl dX6_fill_29 rfl ?_
  refine V.iconst (v := 2) dX6_fill_30 (by decide) ?_
  refine V.callVf (ws2 := MW g a z hi tx ai pa tu pt ke st le th re nu du ha) (st2 := [.int (z (12 + 8 * f + 2)), .ref (a 0)]) [.int (nI f), .int 2] [.ref (a 0)] (kX6_ofFeeder g a z hi tx ai pa tu pt ke st le th re nu du ha f 2 (by first | omega | decide) (by first | omega | decide)) gX6_fill_X6_ofFeeder rfl (by show _ ∧ _ ∧ _ ∧ _ = some (2 : Nat); decide +kernel) ⟨Nat.le_of_ble_eq_true rfl, Nat.le_of_ble_eq_true rfl⟩ (hc := (rfl : vwCl[6]? = some (RX6, TX6, 15))) 0 rfl [0, 1, 2, 3, 4, 5, 6, 7, 8] (by decide) rfl rfl (Nat.le_of_ble_eq_true rfl) ⟨Nat.le_of_ble_eq_true rfl, Nat.le_of_ble_eq_true rfl⟩ dX6_fill_31 MWf rfl rfl rfl rfl ?_
  refine V.iload_n 2 rfl dX6_fill_34 rfl ?_
  refine V.iadd dX6_fill_35 ?_
  refine V.sipush (v := 500) dX6_fill_36 (by decide) ?_
  refine V.icmp_le_f (tgt := 46) h2 dX6_fill_39 (by decide) ?_
  refine V.iconst (v := 3) dX6_fill_42 (by decide) ?_
  refine V.goto (tgt := 47) dX6_fill_43 (by decide) ?_
  refine V.put (v := .int 3) (ws2 := MW g a z hi tx ai pa tu pt ke st le 3 re nu du ha) (fun w H => List.mem_cons_of_mem _ (List.mem_append_right _ H)) tyX6 tyX6_ok nmX6 (hc := (rfl : vwCl[6]? = some (RX6, TX6, 15))) 0 5 (by decide) (List.mem_of_getElem? (i := 1) rfl) rfl rfl (tyX6_ok 5 (by decide)) rfl rfl (Nat.le_of_ble_eq_true rfl) rfl dX6_fill_47 ?_
  refine V.aload_n 0 rfl dX6_fill_50 rfl ?_
  refine V.get (v := .int 3) (fun w H => List.mem_cons_of_mem _ (List.mem_append_right _ H)) (hc := (rfl : vwCl[6]? = some (RX6, TX6, 15))) 0 5 (by decide) (List.mem_of_getElem? (i := 1) rfl) rfl rfl dX6_fill_51 ?_
  refine V.if_le_f (tgt := 59) (by decide) dX6_fill_54 (by decide) ?_
  refine V.iconst (v := 0) dX6_fill_57 (by decide) ?_
  exact V.iret hq XM.r (Nat.le_of_ble_eq_true rfl) (Nat.le_of_ble_eq_true rfl) ⟨rfl, rfl⟩ dX6_fill_58
abbrev rmX6_fill_ok : Room := { frames := 2, cells := 0, slots := 0, locals := 43 }
set_option maxHeartbeats 4000000 in
set_option maxRecDepth 100000 in
theorem kX6_fill_ok (g : GT) (a : Nat → Nat) (z hi tx ai pa tu pt ke : Nat → Int32) (le th re nu du : Int32) (ha : Int64) (f : Nat) (x : Int32) (sn : Nat) (hf : f < 8) (h0 : wi (nI f) 0 (z 5 - 1) = true) (h1 : wi x 1 500 = true) (h2 : z (12 + 8 * f + 2) + x ≤ 500) (hs : sn ≤ 6) : UC g yX6_fill wsX6_fill rmX6_fill_ok [.ref (a 0), .int (nI f), .int x] (MW g a z hi tx ai pa tu pt ke (nI sn) le th re nu du ha) (Qf (some (.int (upd z (12 + 8 * f + 2) (z (12 + 8 * f + 2) + x) (12 + 8 * f + 2)))) (MW g a (upd z (12 + 8 * f + 2) (z (12 + 8 * f + 2) + x)) (svA sn z hi) tx ai pa tu pt ke (nI (svM sn + 1)) le 0 re nu du ha)) := by
  refine UC.ofV (cc := cX6_fill) (maxL := 3) (ret := some .int) (lv0 := [(0, .ref (a 0)), (1, .int (nI f)), (2, .int x)]) (by decide) rfl (Nat.le_of_ble_eq_true rfl) rfl ?_
  generalize hQF : QFr g rmX6_fill_ok (Qf (some (.int (upd z (12 + 8 * f + 2) (z (12 + 8 * f + 2) + x) (12 + 8 * f + 2)))) (MW g a (upd z (12 + 8 * f + 2) (z (12 + 8 * f + 2) + x)) (svA sn z hi) tx ai pa tu pt ke (nI (svM sn + 1)) le 0 re nu du ha)) = QF
  have hq : QFok g rmX6_fill_ok (Qf (some (.int (upd z (12 + 8 * f + 2) (z (12 + 8 * f + 2) + x) (12 + 8 * f + 2)))) (MW g a (upd z (12 + 8 * f + 2) (z (12 + 8 * f + 2) + x)) (svA sn z hi) tx ai pa tu pt ke (nI (svM sn + 1)) le 0 re nu du ha)) QF := hQF ▸ QFr.q
  refine V.aload_n 0 rfl dX6_fill_0 rfl ?_
  refine V.aload_n 0 rfl dX6_fill_1 rfl ?_
  refine V.iload_n 1 rfl dX6_fill_2 rfl ?_
  refine V.callVf (ws2 := MW g a z hi tx ai pa tu pt ke (nI sn) le th re nu du ha) (st2 := [.int (bi (wi (nI f) 0 (z 5 - 1))), .ref (a 0)]) [.int (nI f)] [.ref (a 0)] (kX6_isFeeder g a z hi tx ai pa tu pt ke (nI sn) le th re nu du ha (nI f) ) gX6_fill_X6_isFeeder rfl (by show _ ∧ _ ∧ _ ∧ _ = some (1 : Nat); decide +kernel) ⟨Nat.le_of_ble_eq_true rfl, Nat.le_of_ble_eq_true rfl⟩ (hc := (rfl : vwCl[6]? = some (RX6, TX6, 15))) 0 rfl [0, 1, 2, 3, 4, 5, 6, 7, 8] (by decide) rfl rfl (Nat.le_of_ble_eq_true rfl) ⟨Nat.le_of_ble_eq_true rfl, Nat.le_of_ble_eq_true rfl⟩ dX6_fill_3 MWf rfl rfl rfl rfl ?_
  rw [h0]
  refine V.if_ne_t (tgt := 13) (by decide) dX6_fill_6 (by decide) ?_
  refine V.iload_n 2 rfl dX6_fill_13 rfl ?_
  refine V.iconst (v := 1) dX6_fill_14 (by decide) ?_
  refine V.sipush (v := 500) dX6_fill_15 (by decide) ?_
  refine V.callSf (ws2 := MW g a z hi tx ai pa tu pt ke (nI sn) le th re nu du ha) (st2 := [.int (bi (wi x (1 : Int32) (500 : Int32))), .ref (a 0)]) [.int x, .int 1, .int 500] [.ref (a 0)] (kX6_within g x (1 : Int32) (500 : Int32) ) gX6_fill_X6_within rfl (by show _ ∧ _ ∧ _ = some (3 : Nat); decide +kernel) ⟨Nat.le_of_ble_eq_true rfl, Nat.le_of_ble_eq_true rfl⟩ [] (by decide) rfl rfl (Nat.le_of_ble_eq_true rfl) ⟨Nat.le_of_ble_eq_true rfl, Nat.le_of_ble_eq_true rfl⟩ dX6_fill_18 rfl (List.append_nil _) rfl rfl rfl ?_
  rw [h1]
  refine V.if_ne_t (tgt := 28) (by decide) dX6_fill_21 (by decide) ?_
  refine V.aload_n 0 rfl dX6_fill_28 rfl ?_
  refine V.iload_n 1 rfl dX6_fill_29 rfl ?_
  refine V.iconst (v := 2) dX6_fill_30 (by decide) ?_
  refine V.callVf (ws2 := MW g a z hi tx ai pa tu pt ke (nI sn) le th re nu du ha) (st2 := [.int (z (12 + 8 * f + 2)), .ref (a 0)]) [.int (nI f), .int 2] [.ref (a 0)] (kX6_ofFeeder g a z hi tx ai pa tu pt ke (nI sn) le th re nu du ha f 2 (by first | omega | decide) (by first | omega | decide)) gX6_fill_X6_ofFeeder rfl (by show _ ∧ _ ∧ _ ∧ _ = some (2 : Nat); decide +kernel) ⟨Nat.le_of_ble_eq_true rfl, Nat.le_of_ble_eq_true rfl⟩ (hc := (rfl : vwCl[6]? = some (RX6, TX6, 15))) 0 rfl [0, 1, 2, 3, 4, 5, 6, 7, 8] (by decide) rfl rfl (Nat.le_of_ble_eq_true rfl) ⟨Nat.le_of_ble_eq_true rfl, Nat.le_of_ble_eq_true rfl⟩ dX6_fill_31 MWf rfl rfl rfl rfl ?_
  refine V.iload_n 2 rfl dX6_fill_34 rfl ?_
  refine V.iadd dX6_fill_35 ?_
  refine V.sipush (v := 500) dX6_fill_36 (by decide) ?_
  refine V.icmp_le_t (tgt := 46) h2 dX6_fill_39 (by decide) ?_
  refine V.iconst (v := 0) dX6_fill_46 (by decide) ?_
  refine V.put (v := .int 0) (ws2 := MW g a z hi tx ai pa tu pt ke (nI sn) le 0 re nu du ha) (fun w H => List.mem_cons_of_mem _ (List.mem_append_right _ H)) tyX6 tyX6_ok nmX6 (hc := (rfl : vwCl[6]? = some (RX6, TX6, 15))) 0 5 (by decide) (List.mem_of_getElem? (i := 1) rfl) rfl rfl (tyX6_ok 5 (by decide)) rfl rfl (Nat.le_of_ble_eq_true rfl) rfl dX6_fill_47 ?_
  refine V.aload_n 0 rfl dX6_fill_50 rfl ?_
  refine V.get (v := .int 0) (fun w H => List.mem_cons_of_mem _ (List.mem_append_right _ H)) (hc := (rfl : vwCl[6]? = some (RX6, TX6, 15))) 0 5 (by decide) (List.mem_of_getElem? (i := 1) rfl) rfl rfl dX6_fill_51 ?_
  refine V.if_le_t (tgt := 59) (by decide) dX6_fill_54 (by decide) ?_
  refine V.aload_n 0 rfl dX6_fill_59 rfl ?_
  refine V.callVf (ws2 := MW g a z (svA sn z hi) tx ai pa tu pt ke (nI (svM sn + 1)) le 0 re nu du ha) (st2 := []) [] [] (kX6_save g a z hi tx ai pa tu pt ke le 0 re nu du ha sn hs) gX6_fill_X6_save rfl (by show _ ∧ _ ∧ _ ∧ _ = some (0 : Nat); decide +kernel) ⟨Nat.le_of_ble_eq_true rfl, Nat.le_of_ble_eq_true rfl⟩ (hc := (rfl : vwCl[6]? = some (RX6, TX6, 15))) 0 rfl [0, 1, 2, 3, 4, 5, 6, 7, 8] (by decide) rfl rfl (Nat.le_of_ble_eq_true rfl) ⟨Nat.le_of_ble_eq_true rfl, Nat.le_of_ble_eq_true rfl⟩ dX6_fill_60 MWf rfl rfl rfl rfl ?_
  refine V.aload_n 0 rfl dX6_fill_63 rfl ?_
  refine V.get (v := .ref (a 1)) (fun w H => List.mem_cons_of_mem _ (List.mem_append_right _ H)) (hc := (rfl : vwCl[6]? = some (RX6, TX6, 15))) 0 0 (by decide) (List.mem_of_getElem? (i := 2) rfl) rfl rfl dX6_fill_64 ?_
  refine V.bipush (v := 12) dX6_fill_67 (by decide) ?_
  refine V.bipush (v := 8) dX6_fill_69 (by decide) ?_
  refine V.iload_n 1 rfl dX6_fill_71 rfl ?_
  refine V.imulN (v := nI (8 * f)) dX6_fill_72 (pk_mul 8 f) ?_
  refine V.iaddN (v := nI (12 + 8 * f)) dX6_fill_73 (nI_add 12 (8 * f)) ?_
  refine V.iconst (v := 2) dX6_fill_74 (by decide) ?_
  refine V.iaddN (v := nI (12 + 8 * f + 2)) dX6_fill_75 (nI_add (12 + 8 * f) 2) ?_
  refine V.dup2 dX6_fill_76 rfl rfl ?_
  refine V.iald (f := z) 1 (12 + 8 * f + 2) rfl rfl (by omega) (by decide) dX6_fill_77 ?_
  refine V.iload_n 2 rfl dX6_fill_78 rfl ?_
  refine V.iadd dX6_fill_79 ?_
  refine V.iast (f := z) (ws2 := MW g a (upd z (12 + 8 * f + 2) ((z (12 + 8 * f + 2)) + x)) (svA sn z hi) tx ai pa tu pt ke (nI (svM sn + 1)) le 0 re nu du ha) 1 (12 + 8 * f + 2) rfl rfl (by omega) (by decide) rfl dX6_fill_80 ?_
  refine V.aload_n 0 rfl dX6_fill_81 rfl ?_
  refine V.iload_n 1 rfl dX6_fill_82 rfl ?_
  refine V.iconst (v := 2) dX6_fill_83 (by decide) ?_
  refine V.callVf (ws2 := MW g a (upd z (12 + 8 * f + 2) ((z (12 + 8 * f + 2)) + x)) (svA sn z hi) tx ai pa tu pt ke (nI (svM sn + 1)) le 0 re nu du ha) (st2 := [.int ((upd z (12 + 8 * f + 2) ((z (12 + 8 * f + 2)) + x)) (12 + 8 * f + 2))]) [.int (nI f), .int 2] [] (kX6_ofFeeder g a (upd z (12 + 8 * f + 2) ((z (12 + 8 * f + 2)) + x)) (svA sn z hi) tx ai pa tu pt ke (nI (svM sn + 1)) le 0 re nu du ha f 2 (by first | omega | decide) (by first | omega | decide)) gX6_fill_X6_ofFeeder rfl (by show _ ∧ _ ∧ _ ∧ _ = some (2 : Nat); decide +kernel) ⟨Nat.le_of_ble_eq_true rfl, Nat.le_of_ble_eq_true rfl⟩ (hc := (rfl : vwCl[6]? = some (RX6, TX6, 15))) 0 rfl [0, 1, 2, 3, 4, 5, 6, 7, 8] (by decide) rfl rfl (Nat.le_of_ble_eq_true rfl) ⟨Nat.le_of_ble_eq_true rfl, Nat.le_of_ble_eq_true rfl⟩ dX6_fill_84 MWf rfl rfl rfl rfl ?_
  exact V.iret hq XM.r (Nat.le_of_ble_eq_true rfl) (Nat.le_of_ble_eq_true rfl) ⟨rfl, rfl⟩ dX6_fill_87
abbrev rmX6_repair_b1 : Room := { frames := 2, cells := 0, slots := 0, locals := 43 }
set_option maxHeartbeats 4000000 in
set_option maxRecDepth 100000 in
theorem kX6_repair_b1 (g : GT) (a : Nat → Nat) (z hi tx ai pa tu pt ke : Nat → Int32) (st le th re nu du : Int32) (ha : Int64) (v : Int32) (m : Int32) (t : Int32) (h0 : wi v 0 (z 5 - 1) = false) : UC g yX6_repair wsX6_repair rmX6_repair_b1 [.ref (a 0), .int v, .int m, .int t] (MW g a z hi tx ai pa tu pt ke st le th re nu du ha) (Qf (some (.int 0)) (MW g a z hi tx ai pa tu pt ke st le 1 re nu du ha)) := by
  refine UC.ofV (cc := cX6_repair) (maxL := 5) (ret := some .int) (lv0 := [(0, .ref (a 0)), (1, .int v), (2, .int m), (3, .int t)]) (by decide) rfl (Nat.le_of_ble_eq_true rfl) rfl ?_
  generalize hQF : QFr g rmX6_repair_b1 (Qf (some (.int 0)) (MW g a z hi tx ai pa tu pt ke st le 1 re nu du ha)) = QF
  have hq : QFok g rmX6_repair_b1 (Qf (some (.int 0)) (MW g a z hi tx ai pa tu pt ke st le 1 re nu du ha)) QF := hQF ▸ QFr.q
  refine V.aload_n 0 rfl dX6_repair_0 rfl ?_
  refine V.aload_n 0 rfl dX6_repair_1 rfl ?_
  refine V.iload_n 1 rfl dX6_repair_2 rfl ?_
  refine V.callVf (ws2 := MW g a z hi tx ai pa tu pt ke st le th re nu du ha) (st2 := [.int (bi (wi v 0 (z 5 - 1))), .ref (a 0)]) [.int v] [.ref (a 0)] (kX6_isFeeder g a z hi tx ai pa tu pt ke st le th re nu du ha v ) gX6_repair_X6_isFeeder rfl (by show _ ∧ _ ∧ _ ∧ _ = some (1 : Nat); decide +kernel) ⟨Nat.le_of_ble_eq_true rfl, Nat.le_of_ble_eq_true rfl⟩ (hc := (rfl : vwCl[6]? = some (RX6, TX6, 15))) 0 rfl [0, 1, 2, 3, 4, 5, 6, 7, 8] (by decide) rfl rfl (Nat.le_of_ble_eq_true rfl) ⟨Nat.le_of_ble_eq_true rfl, Nat.le_of_ble_eq_true rfl⟩ dX6_repair_3 MWf rfl rfl rfl rfl ?_
  rw [h0]
  refine V.if_ne_f (tgt := 13) (by decide) dX6_repair_6 (by decide) ?_
  refine V.iconst (v := 1) dX6_repair_9 (by decide) ?_
  refine V.goto (tgt := 32) dX6_repair_10 (by decide) ?_
  refine V.put (v := .int 1) (ws2 := MW g a z hi tx ai pa tu pt ke st le 1 re nu du ha) (fun w H => List.mem_cons_of_mem _ (List.mem_append_right _ H)) tyX6 tyX6_ok nmX6 (hc := (rfl : vwCl[6]? = some (RX6, TX6, 15))) 0 5 (by decide) (List.mem_of_getElem? (i := 1) rfl) rfl rfl (tyX6_ok 5 (by decide)) rfl rfl (Nat.le_of_ble_eq_true rfl) rfl dX6_repair_32 ?_
  refine V.aload_n 0 rfl dX6_repair_35 rfl ?_
  refine V.get (v := .int 1) (fun w H => List.mem_cons_of_mem _ (List.mem_append_right _ H)) (hc := (rfl : vwCl[6]? = some (RX6, TX6, 15))) 0 5 (by decide) (List.mem_of_getElem? (i := 1) rfl) rfl rfl dX6_repair_36 ?_
  refine V.if_le_f (tgt := 44) (by decide) dX6_repair_39 (by decide) ?_
  refine V.iconst (v := 0) dX6_repair_42 (by decide) ?_
  exact V.iret hq XM.r (Nat.le_of_ble_eq_true rfl) (Nat.le_of_ble_eq_true rfl) ⟨rfl, rfl⟩ dX6_repair_43
abbrev rmX6_repair_b20 : Room := { frames := 2, cells := 0, slots := 0, locals := 43 }
set_option maxHeartbeats 4000000 in
set_option maxRecDepth 100000 in
theorem kX6_repair_b20 (g : GT) (a : Nat → Nat) (z hi tx ai pa tu pt ke : Nat → Int32) (st le th re nu du : Int32) (ha : Int64) (f : Nat) (m : Int32) (t : Int32) (h0 : wi (nI f) 0 (z 5 - 1) = true) (h1 : wi m 0 100 = false) : UC g yX6_repair wsX6_repair rmX6_repair_b20 [.ref (a 0), .int (nI f), .int m, .int t] (MW g a z hi tx ai pa tu pt ke st le th re nu du ha) (Qf (some (.int 0)) (MW g a z hi tx ai pa tu pt ke st le 2 re nu du ha)) := by
  refine UC.ofV (cc := cX6_repair) (maxL := 5) (ret := some .int) (lv0 := [(0, .ref (a 0)), (1, .int (nI f)), (2, .int m), (3, .int t)]) (by decide) rfl (Nat.le_of_ble_eq_true rfl) rfl ?_
  generalize hQF : QFr g rmX6_repair_b20 (Qf (some (.int 0)) (MW g a z hi tx ai pa tu pt ke st le 2 re nu du ha)) = QF
  have hq : QFok g rmX6_repair_b20 (Qf (some (.int 0)) (MW g a z hi tx ai pa tu pt ke st le 2 re nu du ha)) QF := hQF ▸ QFr.q
  refine V.aload_n 0 rfl dX6_repair_0 rfl ?_
  refine V.aload_n 0 rfl dX6_repair_1 rfl ?_
  refine V.iload_n 1 rfl dX6_repair_2 rfl ?_
  refine V.callVf (ws2 := MW g a z hi tx ai pa tu pt ke st le th re nu du ha) (st2 := [.int (bi (wi (nI f) 0 (z 5 - 1))), .ref (a 0)]) [.int (nI f)] [.ref (a 0)] (kX6_isFeeder g a z hi tx ai pa tu pt ke st le th re nu du ha (nI f) ) gX6_repair_X6_isFeeder rfl (by show _ ∧ _ ∧ _ ∧ _ = some (1 : Nat); decide +kernel) ⟨Nat.le_of_ble_eq_true rfl, Nat.le_of_ble_eq_true rfl⟩ (hc := (rfl : vwCl[6]? = some (RX6, TX6, 15))) 0 rfl [0, 1, 2, 3, 4, 5, 6, 7, 8] (by decide) rfl rfl (Nat.le_of_ble_eq_true rfl) ⟨Nat.le_of_ble_eq_true rfl, Nat.le_of_ble_eq_true rfl⟩ dX6_repair_3 MWf rfl rfl rfl rfl ?_
  rw [h0]
  refine V.if_ne_t (tgt := 13) (by decide) dX6_repair_6 (by decide) ?_
  refine V.iload_n 2 rfl dX6_repair_13 rfl ?_
  refine V.callSf (ws2 := MW g a z hi tx ai pa tu pt ke st le th re nu du ha) (st2 := [.int (bi (wi m 0 100)), .ref (a 0)]) [.int m] [.ref (a 0)] (kX6_isPercent g m ) gX6_repair_X6_isPercent rfl (by show _ ∧ _ ∧ _ = some (1 : Nat); decide +kernel) ⟨Nat.le_of_ble_eq_true rfl, Nat.le_of_ble_eq_true rfl⟩ [] (by decide) rfl rfl (Nat.le_of_ble_eq_true rfl) ⟨Nat.le_of_ble_eq_true rfl, Nat.le_of_ble_eq_true rfl⟩ dX6_repair_14 rfl (List.append_nil _) rfl rfl rfl ?_
  rw [h1]
  refine V.if_eq_t (tgt := 31) (by decide) dX6_repair_17 (by decide) ?_
  refine V.iconst (v := 2) dX6_repair_31 (by decide) ?_
  refine V.put (v := .int 2) (ws2 := MW g a z hi tx ai pa tu pt ke st le 2 re nu du ha) (fun w H => List.mem_cons_of_mem _ (List.mem_append_right _ H)) tyX6 tyX6_ok nmX6 (hc := (rfl : vwCl[6]? = some (RX6, TX6, 15))) 0 5 (by decide) (List.mem_of_getElem? (i := 1) rfl) rfl rfl (tyX6_ok 5 (by decide)) rfl rfl (Nat.le_of_ble_eq_true rfl) rfl dX6_repair_32 ?_
  refine V.aload_n 0 rfl dX6_repair_35 rfl ?_
  refine V.get (v := .int 2) (fun w H => List.mem_cons_of_mem _ (List.mem_append_right _ H)) (hc := (rfl : vwCl[6]? = some (RX6, TX6, 15))) 0 5 (by decide) (List.mem_of_getElem? (i := 1) rfl) rfl rfl dX6_repair_36 ?_
  refine V.if_le_f (tgt := 44) (by decide) dX6_repair_39 (by decide) ?_
  refine V.iconst (v := 0) dX6_repair_42 (by decide) ?_
  exact V.iret hq XM.r (Nat.le_of_ble_eq_true rfl) (Nat.le_of_ble_eq_true rfl) ⟨rfl, rfl⟩ dX6_repair_43
abbrev rmX6_repair_b21 : Room := { frames := 2, cells := 0, slots := 0, locals := 43 }
set_option maxHeartbeats 4000000 in
set_option maxRecDepth 100000 in
theorem kX6_repair_b21 (g : GT) (a : Nat → Nat) (z hi tx ai pa tu pt ke : Nat → Int32) (st le th re nu du : Int32) (ha : Int64) (f : Nat) (m : Int32) (t : Int32) (h0 : wi (nI f) 0 (z 5 - 1) = true) (h1 : wi m 0 100 = true) (h2 : wi t 0 100 = false) : UC g yX6_repair wsX6_repair rmX6_repair_b21 [.ref (a 0), .int (nI f), .int m, .int t] (MW g a z hi tx ai pa tu pt ke st le th re nu du ha) (Qf (some (.int 0)) (MW g a z hi tx ai pa tu pt ke st le 2 re nu du ha)) := by
  refine UC.ofV (cc := cX6_repair) (maxL := 5) (ret := some .int) (lv0 := [(0, .ref (a 0)), (1, .int (nI f)), (2, .int m), (3, .int t)]) (by decide) rfl (Nat.le_of_ble_eq_true rfl) rfl ?_
  generalize hQF : QFr g rmX6_repair_b21 (Qf (some (.int 0)) (MW g a z hi tx ai pa tu pt ke st le 2 re nu du ha)) = QF
  have hq : QFok g rmX6_repair_b21 (Qf (some (.int 0)) (MW g a z hi tx ai pa tu pt ke st le 2 re nu du ha)) QF := hQF ▸ QFr.q
  refine V.aload_n 0 rfl dX6_repair_0 rfl ?_
  refine V.aload_n 0 rfl dX6_repair_1 rfl ?_
  refine V.iload_n 1 rfl dX6_repair_2 rfl ?_
  refine V.callVf (ws2 := MW g a z hi tx ai pa tu pt ke st le th re nu du ha) (st2 := [.int (bi (wi (nI f) 0 (z 5 - 1))), .ref (a 0)]) [.int (nI f)] [.ref (a 0)] (kX6_isFeeder g a z hi tx ai pa tu pt ke st le th re nu du ha (nI f) ) gX6_repair_X6_isFeeder rfl (by show _ ∧ _ ∧ _ ∧ _ = some (1 : Nat); decide +kernel) ⟨Nat.le_of_ble_eq_true rfl, Nat.le_of_ble_eq_true rfl⟩ (hc := (rfl : vwCl[6]? = some (RX6, TX6, 15))) 0 rfl [0, 1, 2, 3, 4, 5, 6, 7, 8] (by decide) rfl rfl (Nat.le_of_ble_eq_true rfl) ⟨Nat.le_of_ble_eq_true rfl, Nat.le_of_ble_eq_true rfl⟩ dX6_repair_3 MWf rfl rfl rfl rfl ?_
  rw [h0]
  refine V.if_ne_t (tgt := 13) (by decide) dX6_repair_6 (by decide) ?_
  refine V.iload_n 2 rfl dX6_repair_13 rfl ?_
  refine V.callSf (ws2 := MW g a z hi tx ai pa tu pt ke st le th re nu du ha) (st2 := [.int (bi (wi m 0 100)), .ref (a 0)]) [.int m] [.ref (a 0)] (kX6_isPercent g m ) gX6_repair_X6_isPercent rfl (by show _ ∧ _ ∧ _ = some (1 : Nat); decide +kernel) ⟨Nat.le_of_ble_eq_true rfl, Nat.le_of_ble_eq_true rfl⟩ [] (by decide) rfl rfl (Nat.le_of_ble_eq_true rfl) ⟨Nat.le_of_ble_eq_true rfl, Nat.le_of_ble_eq_true rfl⟩ dX6_repair_14 rfl (List.append_nil _) rfl rfl rfl ?_
  rw [h1]
  refine V.if_eq_f (tgt := 31) (by decide) dX6_repair_17 (by decide) ?_
  refine V.iload_n 3 rfl dX6_repair_20 rfl ?_
  refine V.callSf (ws2 := MW g a z hi tx ai pa tu pt ke st le th re nu du ha) (st2 := [.int (bi (wi t 0 100)), .ref (a 0)]) [.int t] [.ref (a 0)] (kX6_isPercent g t ) gX6_repair_X6_isPercent rfl (by show _ ∧ _ ∧ _ = some (1 : Nat); decide +kernel) ⟨Nat.le_of_ble_eq_true rfl, Nat.le_of_ble_eq_true rfl⟩ [] (by decide) rfl rfl (Nat.le_of_ble_eq_true rfl) ⟨Nat.le_of_ble_eq_true rfl, Nat.le_of_ble_eq_true rfl⟩ dX6_repair_21 rfl (List.append_nil _) rfl rfl rfl ?_
  rw [h2]
  refine V.if_eq_t (tgt := 31) (by decide) dX6_repair_24 (by decide) ?_
  refine V.iconst (v := 2) dX6_repair_31 (by decide) ?_
  refine V.put (v := .int 2) (ws2 := MW g a z hi tx ai pa tu pt ke st le 2 re nu du ha) (fun w H => List.mem_cons_of_mem _ (List.mem_append_right _ H)) tyX6 tyX6_ok nmX6 (hc := (rfl : vwCl[6]? = some (RX6, TX6, 15))) 0 5 (by decide) (List.mem_of_getElem? (i := 1) rfl) rfl rfl (tyX6_ok 5 (by decide)) rfl rfl (Nat.le_of_ble_eq_true rfl) rfl dX6_repair_32 ?_
  refine V.aload_n 0 rfl dX6_repair_35 rfl ?_
  refine V.get (v := .int 2) (fun w H => List.mem_cons_of_mem _ (List.mem_append_right _ H)) (hc := (rfl : vwCl[6]? = some (RX6, TX6, 15))) 0 5 (by decide) (List.mem_of_getElem? (i := 1) rfl) rfl rfl dX6_repair_36 ?_
  refine V.if_le_f (tgt := 44) (by decide) dX6_repair_39 (by decide) ?_
  refine V.iconst (v := 0) dX6_repair_42 (by decide) ?_
  exact V.iret hq XM.r (Nat.le_of_ble_eq_true rfl) (Nat.le_of_ble_eq_true rfl) ⟨rfl, rfl⟩ dX6_repair_43
abbrev rmX6_repair_ok : Room := { frames := 2, cells := 0, slots := 0, locals := 43 }
set_option maxHeartbeats 4000000 in
set_option maxRecDepth 100000 in
theorem kX6_repair_ok (g : GT) (a : Nat → Nat) (z hi tx ai pa tu pt ke : Nat → Int32) (le th re nu du : Int32) (ha : Int64) (f : Nat) (m : Int32) (t : Int32) (sn : Nat) (hf : f < 8) (h0 : wi (nI f) 0 (z 5 - 1) = true) (h1 : wi m 0 100 = true) (h2 : wi t 0 100 = true) (hs : sn ≤ 6) : UC g yX6_repair wsX6_repair rmX6_repair_ok [.ref (a 0), .int (nI f), .int m, .int t] (MW g a z hi tx ai pa tu pt ke (nI sn) le th re nu du ha) (Qf (some (.int (z (12 + 8 * f + 3)))) (MW g a (upd (upd z (12 + 8 * f + 3) m) (12 + 8 * f + 4) t) (svA sn z hi) tx ai pa tu pt ke (nI (svM sn + 1)) le 0 re nu du ha)) := by
  refine UC.ofV (cc := cX6_repair) (maxL := 5) (ret := some .int) (lv0 := [(0, .ref (a 0)), (1, .int (nI f)), (2, .int m), (3, .int t)]) (by decide) rfl (Nat.le_of_ble_eq_true rfl) rfl ?_
  generalize hQF : QFr g rmX6_repair_ok (Qf (some (.int (z (12 + 8 * f + 3)))) (MW g a (upd (upd z (12 + 8 * f + 3) m) (12 + 8 * f + 4) t) (svA sn z hi) tx ai pa tu pt ke (nI (svM sn + 1)) le 0 re nu du ha)) = QF
  have hq : QFok g rmX6_repair_ok (Qf (some (.int (z (12 + 8 * f + 3)))) (MW g a (upd (upd z (12 + 8 * f + 3) m) (12 + 8 * f + 4) t) (svA sn z hi) tx ai pa tu pt ke (nI (svM sn + 1)) le 0 re nu du ha)) QF := hQF ▸ QFr.q
  refine V.aload_n 0 rfl dX6_repair_0 rfl ?_
  refine V.aload_n 0 rfl dX6_repair_1 rfl ?_
  refine V.iload_n 1 rfl dX6_repair_2 rfl ?_
  refine V.callVf (ws2 := MW g a z hi tx ai pa tu pt ke (nI sn) le th re nu du ha) (st2 := [.int (bi (wi (nI f) 0 (z 5 - 1))), .ref (a 0)]) [.int (nI f)] [.ref (a 0)] (kX6_isFeeder g a z hi tx ai pa tu pt ke (nI sn) le th re nu du ha (nI f) ) gX6_repair_X6_isFeeder rfl (by show _ ∧ _ ∧ _ ∧ _ = some (1 : Nat); decide +kernel) ⟨Nat.le_of_ble_eq_true rfl, Nat.le_of_ble_eq_true rfl⟩ (hc := (rfl : vwCl[6]? = some (RX6, TX6, 15))) 0 rfl [0, 1, 2, 3, 4, 5, 6, 7, 8] (by decide) rfl rfl (Nat.le_of_ble_eq_true rfl) ⟨Nat.le_of_ble_eq_true rfl, Nat.le_of_ble_eq_true rfl⟩ dX6_repair_3 MWf rfl rfl rfl rfl ?_
  rw [h0]
  refine V.if_ne_t (tgt := 13) (by decide) dX6_repair_6 (by decide) ?_
  refine V.iload_n 2 rfl dX6_repair_13 rfl ?_
  refine V.callSf (ws2 := MW g a z hi tx ai pa tu pt ke (nI sn) le th re nu du ha) (st2 := [.int (bi (wi m 0 100)), .ref (a 0)]) [.int m] [.ref (a 0)] (kX6_isPercent g m ) gX6_repair_X6_isPercent rfl (by show _ ∧ _ ∧ _ = some (1 : Nat); decide +kernel) ⟨Nat.le_of_ble_eq_true rfl, Nat.le_of_ble_eq_true rfl⟩ [] (by decide) rfl rfl (Nat.le_of_ble_eq_true rfl) ⟨Nat.le_of_ble_eq_true rfl, Nat.le_of_ble_eq_true rfl⟩ dX6_repair_14 rfl (List.append_nil _) rfl rfl rfl ?_
  rw [h1]
  refine V.if_eq_f (tgt := 31) (by decide) dX6_repair_17 (by decide) ?_
  refine V.iload_n 3 rfl dX6_repair_20 rfl ?_
  refine V.callSf (ws2 := MW g a z hi tx ai pa tu pt ke (nI sn) le th re nu du ha) (st2 := [.int (bi (wi t 0 100)), .ref (a 0)]) [.int t] [.ref (a 0)] (kX6_isPercent g t ) gX6_repair_X6_isPercent rfl (by show _ ∧ _ ∧ _ = some (1 : Nat); decide +kernel) ⟨Nat.le_of_ble_eq_true rfl, Nat.le_of_ble_eq_true rfl⟩ [] (by decide) rfl rfl (Nat.le_of_ble_eq_true rfl) ⟨Nat.le_of_ble_eq_true rfl, Nat.le_of_ble_eq_true rfl⟩ dX6_repair_21 rfl (List.append_nil _) rfl rfl rfl ?_
  rw [h2]
  refine V.if_eq_f (tgt := 31) (by decide) dX6_repair_24 (by decide) ?_
  refine V.iconst (v := 0) dX6_repair_27 (by decide) ?_
  refine V.goto (tgt := 32) dX6_repair_28 (by decide) ?_
  refine V.put (v := .int 0) (ws2 := MW g a z hi tx ai pa tu pt ke (nI sn) le 0 re nu du ha) (fun w H => List.mem_cons_of_mem _ (List.mem_append_right _ H)) tyX6 tyX6_ok nmX6 (hc := (rfl : vwCl[6]? = some (RX6, TX6, 15))) 0 5 (by decide) (List.mem_of_getElem? (i := 1) rfl) rfl rfl (tyX6_ok 5 (by decide)) rfl rfl (Nat.le_of_ble_eq_true rfl) rfl dX6_repair_32 ?_
  refine V.aload_n 0 rfl dX6_repair_35 rfl ?_
  refine V.get (v := .int 0) (fun w H => List.mem_cons_of_mem _ (List.mem_append_right _ H)) (hc := (rfl : vwCl[6]? = some (RX6, TX6, 15))) 0 5 (by decide) (List.mem_of_getElem? (i := 1) rfl) rfl rfl dX6_repair_36 ?_
  refine V.if_le_t (tgt := 44) (by decide) dX6_repair_39 (by decide) ?_
  refine V.aload_n 0 rfl dX6_repair_44 rfl ?_
  refine V.callVf (ws2 := MW g a z (svA sn z hi) tx ai pa tu pt ke (nI (svM sn + 1)) le 0 re nu du ha) (st2 := []) [] [] (kX6_save g a z hi tx ai pa tu pt ke le 0 re nu du ha sn hs) gX6_repair_X6_save rfl (by show _ ∧ _ ∧ _ ∧ _ = some (0 : Nat); decide +kernel) ⟨Nat.le_of_ble_eq_true rfl, Nat.le_of_ble_eq_true rfl⟩ (hc := (rfl : vwCl[6]? = some (RX6, TX6, 15))) 0 rfl [0, 1, 2, 3, 4, 5, 6, 7, 8] (by decide) rfl rfl (Nat.le_of_ble_eq_true rfl) ⟨Nat.le_of_ble_eq_true rfl, Nat.le_of_ble_eq_true rfl⟩ dX6_repair_45 MWf rfl rfl rfl rfl ?_
  refine V.aload_n 0 rfl dX6_repair_48 rfl ?_
  refine V.iload_n 1 rfl dX6_repair_49 rfl ?_
  refine V.iconst (v := 3) dX6_repair_50 (by decide) ?_
  refine V.callVf (ws2 := MW g a z (svA sn z hi) tx ai pa tu pt ke (nI (svM sn + 1)) le 0 re nu du ha) (st2 := [.int (z (12 + 8 * f + 3))]) [.int (nI f), .int 3] [] (kX6_ofFeeder g a z (svA sn z hi) tx ai pa tu pt ke (nI (svM sn + 1)) le 0 re nu du ha f 3 (by first | omega | decide) (by first | omega | decide)) gX6_repair_X6_ofFeeder rfl (by show _ ∧ _ ∧ _ ∧ _ = some (2 : Nat); decide +kernel) ⟨Nat.le_of_ble_eq_true rfl, Nat.le_of_ble_eq_true rfl⟩ (hc := (rfl : vwCl[6]? = some (RX6, TX6, 15))) 0 rfl [0, 1, 2, 3, 4, 5, 6, 7, 8] (by decide) rfl rfl (Nat.le_of_ble_eq_true rfl) ⟨Nat.le_of_ble_eq_true rfl, Nat.le_of_ble_eq_true rfl⟩ dX6_repair_51 MWf rfl rfl rfl rfl ?_
  refine V.istore (lv2 := [(4, .int (z (12 + 8 * f + 3))), (0, .ref (a 0)), (1, .int (nI f)), (2, .int m), (3, .int t)]) dX6_repair_54 (by decide) rfl ?_
  refine V.aload_n 1 rfl dX6_repair_56 rfl ?_
  refine V.get (v := .ref (a 1)) (fun w H => List.mem_cons_of_mem _ (List.mem_append_right _ H)) (hc := (rfl : vwCl[6]? = some (RX6, TX6, 15))) 0 0 (by decide) (List.mem_of_getElem? (i := 2) rfl) rfl rfl dX6_repair_57 ?_
  refine V.bipush (v := 12) dX6_repair_60 (by decide) ?_
  refine V.bipush (v := 8) dX6_repair_62 (by decide) ?_
  refine V.iload_n 2 rfl dX6_repair_64 rfl ?_
  refine V.imulN (v := nI (8 * f)) dX6_repair_65 (pk_mul 8 f) ?_
  refine V.iaddN (v := nI (12 + 8 * f)) dX6_repair_66 (nI_add 12 (8 * f)) ?_
  refine V.iconst (v := 3) dX6_repair_67 (by decide) ?_
  refine V.iaddN (v := nI (12 + 8 * f + 3)) dX6_repair_68 (nI_add (12 + 8 * f) 3) ?_
  refine V.iload_n 3 rfl dX6_repair_69 rfl ?_
  refine V.iast (f := z) (ws2 := MW g a (upd z (12 + 8 * f + 3) m) (svA sn z hi) tx ai pa tu pt ke (nI (svM sn + 1)) le 0 re nu du ha) 1 (12 + 8 * f + 3) rfl rfl (by omega) (by decide) rfl dX6_repair_70 ?_
  refine V.aload_n 1 rfl dX6_repair_71 rfl ?_
  refine V.get (v := .ref (a 1)) (fun w H => List.mem_cons_of_mem _ (List.mem_append_right _ H)) (hc := (rfl : vwCl[6]? = some (RX6, TX6, 15))) 0 0 (by decide) (List.mem_of_getElem? (i := 2) rfl) rfl rfl dX6_repair_72 ?_
  refine V.bipush (v := 12) dX6_repair_75 (by decide) ?_
  refine V.bipush (v := 8) dX6_repair_77 (by decide) ?_
  refine V.iload_n 2 rfl dX6_repair_79 rfl ?_
  refine V.imulN (v := nI (8 * f)) dX6_repair_80 (pk_mul 8 f) ?_
  refine V.iaddN (v := nI (12 + 8 * f)) dX6_repair_81 (nI_add 12 (8 * f)) ?_
  refine V.iconst (v := 4) dX6_repair_82 (by decide) ?_
  refine V.iaddN (v := nI (12 + 8 * f + 4)) dX6_repair_83 (nI_add (12 + 8 * f) 4) ?_
  refine V.iload_n 4 rfl dX6_repair_84 rfl ?_
  refine V.iast (f := upd z (12 + 8 * f + 3) m) (ws2 := MW g a (upd (upd z (12 + 8 * f + 3) m) (12 + 8 * f + 4) t) (svA sn z hi) tx ai pa tu pt ke (nI (svM sn + 1)) le 0 re nu du ha) 1 (12 + 8 * f + 4) rfl rfl (by omega) (by decide) rfl dX6_repair_85 ?_
  refine V.iload 0 rfl dX6_repair_86 ?_
  exact V.iret hq XM.r (Nat.le_of_ble_eq_true rfl) (Nat.le_of_ble_eq_true rfl) ⟨rfl, rfl⟩ dX6_repair_88
abbrev rmX6_fit_b1 : Room := { frames := 2, cells := 0, slots := 0, locals := 42 }
set_option maxHeartbeats 4000000 in
set_option maxRecDepth 100000 in
theorem kX6_fit_b1 (g : GT) (a : Nat → Nat) (z hi tx ai pa tu pt ke : Nat → Int32) (st le th re nu du : Int32) (ha : Int64) (v : Int32) (x : Int32) (h0 : wi v 0 3 = false) : UC g yX6_fit wsX6_fit rmX6_fit_b1 [.ref (a 0), .int v, .int x] (MW g a z hi tx ai pa tu pt ke st le th re nu du ha) (Qf (some (.int 0)) (MW g a z hi tx ai pa tu pt ke st le 1 re nu du ha)) := by
  refine UC.ofV (cc := cX6_fit) (maxL := 4) (ret := some .int) (lv0 := [(0, .ref (a 0)), (1, .int v), (2, .int x)]) (by decide) rfl (Nat.le_of_ble_eq_true rfl) rfl ?_
  generalize hQF : QFr g rmX6_fit_b1 (Qf (some (.int 0)) (MW g a z hi tx ai pa tu pt ke st le 1 re nu du ha)) = QF
  have hq : QFok g rmX6_fit_b1 (Qf (some (.int 0)) (MW g a z hi tx ai pa tu pt ke st le 1 re nu du ha)) QF := hQF ▸ QFr.q
  refine V.aload_n 0 rfl dX6_fit_0 rfl ?_
  refine V.iload_n 1 rfl dX6_fit_1 rfl ?_
  refine V.callSf (ws2 := MW g a z hi tx ai pa tu pt ke st le th re nu du ha) (st2 := [.int (bi (wi v 0 3)), .ref (a 0)]) [.int v] [.ref (a 0)] (kX6_isNozzle g v ) gX6_fit_X6_isNozzle rfl (by show _ ∧ _ ∧ _ = some (1 : Nat); decide +kernel) ⟨Nat.le_of_ble_eq_true rfl, Nat.le_of_ble_eq_true rfl⟩ [] (by decide) rfl rfl (Nat.le_of_ble_eq_true rfl) ⟨Nat.le_of_ble_eq_true rfl, Nat.le_of_ble_eq_true rfl⟩ dX6_fit_2 rfl (List.append_nil _) rfl rfl rfl ?_
  rw [h0]
  refine V.if_ne_f (tgt := 12) (by decide) dX6_fit_5 (by decide) ?_
  refine V.iconst (v := 1) dX6_fit_8 (by decide) ?_
  refine V.goto (tgt := 27) dX6_fit_9 (by decide) ?_
  refine V.put (v := .int 1) (ws2 := MW g a z hi tx ai pa tu pt ke st le 1 re nu du ha) (fun w H => List.mem_cons_of_mem _ (List.mem_append_right _ H)) tyX6 tyX6_ok nmX6 (hc := (rfl : vwCl[6]? = some (RX6, TX6, 15))) 0 5 (by decide) (List.mem_of_getElem? (i := 1) rfl) rfl rfl (tyX6_ok 5 (by decide)) rfl rfl (Nat.le_of_ble_eq_true rfl) rfl dX6_fit_27 ?_
  refine V.aload_n 0 rfl dX6_fit_30 rfl ?_
  refine V.get (v := .int 1) (fun w H => List.mem_cons_of_mem _ (List.mem_append_right _ H)) (hc := (rfl : vwCl[6]? = some (RX6, TX6, 15))) 0 5 (by decide) (List.mem_of_getElem? (i := 1) rfl) rfl rfl dX6_fit_31 ?_
  refine V.if_le_f (tgt := 39) (by decide) dX6_fit_34 (by decide) ?_
  refine V.iconst (v := 0) dX6_fit_37 (by decide) ?_
  exact V.iret hq XM.r (Nat.le_of_ble_eq_true rfl) (Nat.le_of_ble_eq_true rfl) ⟨rfl, rfl⟩ dX6_fit_38
abbrev rmX6_fit_b2 : Room := { frames := 2, cells := 0, slots := 0, locals := 42 }
set_option maxHeartbeats 4000000 in
set_option maxRecDepth 100000 in
theorem kX6_fit_b2 (g : GT) (a : Nat → Nat) (z hi tx ai pa tu pt ke : Nat → Int32) (st le th re nu du : Int32) (ha : Int64) (n : Nat) (x : Int32) (h0 : wi (nI n) 0 3 = true) (h1 : wi x 0 63 = false) : UC g yX6_fit wsX6_fit rmX6_fit_b2 [.ref (a 0), .int (nI n), .int x] (MW g a z hi tx ai pa tu pt ke st le th re nu du ha) (Qf (some (.int 0)) (MW g a z hi tx ai pa tu pt ke st le 2 re nu du ha)) := by
  refine UC.ofV (cc := cX6_fit) (maxL := 4) (ret := some .int) (lv0 := [(0, .ref (a 0)), (1, .int (nI n)), (2, .int x)]) (by decide) rfl (Nat.le_of_ble_eq_true rfl) rfl ?_
  generalize hQF : QFr g rmX6_fit_b2 (Qf (some (.int 0)) (MW g a z hi tx ai pa tu pt ke st le 2 re nu du ha)) = QF
  have hq : QFok g rmX6_fit_b2 (Qf (some (.int 0)) (MW g a z hi tx ai pa tu pt ke st le 2 re nu du ha)) QF := hQF ▸ QFr.q
  refine V.aload_n 0 rfl dX6_fit_0 rfl ?_
  refine V.iload_n 1 rfl dX6_fit_1 rfl ?_
  refine V.callSf (ws2 := MW g a z hi tx ai pa tu pt ke st le th re nu du ha) (st2 := [.int (bi (wi (nI n) 0 3)), .ref (a 0)]) [.int (nI n)] [.ref (a 0)] (kX6_isNozzle g (nI n) ) gX6_fit_X6_isNozzle rfl (by show _ ∧ _ ∧ _ = some (1 : Nat); decide +kernel) ⟨Nat.le_of_ble_eq_true rfl, Nat.le_of_ble_eq_true rfl⟩ [] (by decide) rfl rfl (Nat.le_of_ble_eq_true rfl) ⟨Nat.le_of_ble_eq_true rfl, Nat.le_of_ble_eq_true rfl⟩ dX6_fit_2 rfl (List.append_nil _) rfl rfl rfl ?_
  rw [h0]
  refine V.if_ne_t (tgt := 12) (by decide) dX6_fit_5 (by decide) ?_
  refine V.iload_n 2 rfl dX6_fit_12 rfl ?_
  refine V.iconst (v := 0) dX6_fit_13 (by decide) ?_
  refine V.bipush (v := 63) dX6_fit_14 (by decide) ?_
  refine V.callSf (ws2 := MW g a z hi tx ai pa tu pt ke st le th re nu du ha) (st2 := [.int (bi (wi x (0 : Int32) (63 : Int32))), .ref (a 0)]) [.int x, .int 0, .int 63] [.ref (a 0)] (kX6_within g x (0 : Int32) (63 : Int32) ) gX6_fit_X6_within rfl (by show _ ∧ _ ∧ _ = some (3 : Nat); decide +kernel) ⟨Nat.le_of_ble_eq_true rfl, Nat.le_of_ble_eq_true rfl⟩ [] (by decide) rfl rfl (Nat.le_of_ble_eq_true rfl) ⟨Nat.le_of_ble_eq_true rfl, Nat.le_of_ble_eq_true rfl⟩ dX6_fit_16 rfl (List.append_nil _) rfl rfl rfl ?_
  rw [h1]
  refine V.if_eq_t (tgt := 26) (by decide) dX6_fit_19 (by decide) ?_
  refine V.iconst (v := 2) dX6_fit_26 (by decide) ?_
  refine V.put (v := .int 2) (ws2 := MW g a z hi tx ai pa tu pt ke st le 2 re nu du ha) (fun w H => List.mem_cons_of_mem _ (List.mem_append_right _ H)) tyX6 tyX6_ok nmX6 (hc := (rfl : vwCl[6]? = some (RX6, TX6, 15))) 0 5 (by decide) (List.mem_of_getElem? (i := 1) rfl) rfl rfl (tyX6_ok 5 (by decide)) rfl rfl (Nat.le_of_ble_eq_true rfl) rfl dX6_fit_27 ?_
  refine V.aload_n 0 rfl dX6_fit_30 rfl ?_
  refine V.get (v := .int 2) (fun w H => List.mem_cons_of_mem _ (List.mem_append_right _ H)) (hc := (rfl : vwCl[6]? = some (RX6, TX6, 15))) 0 5 (by decide) (List.mem_of_getElem? (i := 1) rfl) rfl rfl dX6_fit_31 ?_
  refine V.if_le_f (tgt := 39) (by decide) dX6_fit_34 (by decide) ?_
  refine V.iconst (v := 0) dX6_fit_37 (by decide) ?_
  exact V.iret hq XM.r (Nat.le_of_ble_eq_true rfl) (Nat.le_of_ble_eq_true rfl) ⟨rfl, rfl⟩ dX6_fit_38
abbrev rmX6_fit_ok : Room := { frames := 2, cells := 0, slots := 0, locals := 42 }
set_option maxHeartbeats 4000000 in
set_option maxRecDepth 100000 in
theorem kX6_fit_ok (g : GT) (a : Nat → Nat) (z hi tx ai pa tu pt ke : Nat → Int32) (le th re nu du : Int32) (ha : Int64) (n : Nat) (x : Int32) (sn : Nat) (hn : n < 4) (h0 : wi (nI n) 0 3 = true) (h1 : wi x 0 63 = true) (hs : sn ≤ 6) : UC g yX6_fit wsX6_fit rmX6_fit_ok [.ref (a 0), .int (nI n), .int x] (MW g a z hi tx ai pa tu pt ke (nI sn) le th re nu du ha) (Qf (some (.int (z (196 + 5 * n + 0)))) (MW g a (upd z (196 + 5 * n + 0) x) (svA sn z hi) tx ai pa tu pt ke (nI (svM sn + 1)) le 0 re nu du ha)) := by
  refine UC.ofV (cc := cX6_fit) (maxL := 4) (ret := some .int) (lv0 := [(0, .ref (a 0)), (1, .int (nI n)), (2, .int x)]) (by decide) rfl (Nat.le_of_ble_eq_true rfl) rfl ?_
  generalize hQF : QFr g rmX6_fit_ok (Qf (some (.int (z (196 + 5 * n + 0)))) (MW g a (upd z (196 + 5 * n + 0) x) (svA sn z hi) tx ai pa tu pt ke (nI (svM sn + 1)) le 0 re nu du ha)) = QF
  have hq : QFok g rmX6_fit_ok (Qf (some (.int (z (196 + 5 * n + 0)))) (MW g a (upd z (196 + 5 * n + 0) x) (svA sn z hi) tx ai pa tu pt ke (nI (svM sn + 1)) le 0 re nu du ha)) QF := hQF ▸ QFr.q
  refine V.aload_n 0 rfl dX6_fit_0 rfl ?_
  refine V.iload_n 1 rfl dX6_fit_1 rfl ?_
  refine V.callSf (ws2 := MW g a z hi tx ai pa tu pt ke (nI sn) le th re nu du ha) (st2 := [.int (bi (wi (nI n) 0 3)), .ref (a 0)]) [.int (nI n)] [.ref (a 0)] (kX6_isNozzle g (nI n) ) gX6_fit_X6_isNozzle rfl (by show _ ∧ _ ∧ _ = some (1 : Nat); decide +kernel) ⟨Nat.le_of_ble_eq_true rfl, Nat.le_of_ble_eq_true rfl⟩ [] (by decide) rfl rfl (Nat.le_of_ble_eq_true rfl) ⟨Nat.le_of_ble_eq_true rfl, Nat.le_of_ble_eq_true rfl⟩ dX6_fit_2 rfl (List.append_nil _) rfl rfl rfl ?_
  rw [h0]
  refine V.if_ne_t (tgt := 12) (by decide) dX6_fit_5 (by decide) ?_
  refine V.iload_n 2 rfl dX6_fit_12 rfl ?_
  refine V.iconst (v := 0) dX6_fit_13 (by decide) ?_
  refine V.bipush (v := 63) dX6_fit_14 (by decide) ?_
  refine V.callSf (ws2 := MW g a z hi tx ai pa tu pt ke (nI sn) le th re nu du ha) (st2 := [.int (bi (wi x (0 : Int32) (63 : Int32))), .ref (a 0)]) [.int x, .int 0, .int 63] [.ref (a 0)] (kX6_within g x (0 : Int32) (63 : Int32) ) gX6_fit_X6_within rfl (by show _ ∧ _ ∧ _ = some (3 : Nat); decide +kernel) ⟨Nat.le_of_ble_eq_true rfl, Nat.le_of_ble_eq_true rfl⟩ [] (by decide) rfl rfl (Nat.le_of_ble_eq_true rfl) ⟨Nat.le_of_ble_eq_true rfl, Nat.le_of_ble_eq_true rfl⟩ dX6_fit_16 rfl (List.append_nil _) rfl rfl rfl ?_
  rw [h1]
  refine V.if_eq_f (tgt := 26) (by decide) dX6_fit_19 (by decide) ?_
  refine V.iconst (v := 0) dX6_fit_22 (by decide) ?_
  refine V.goto (tgt := 27) dX6_fit_23 (by decide) ?_
  refine V.put (v := .int 0) (ws2 := MW g a z hi tx ai pa tu pt ke (nI sn) le 0 re nu du ha) (fun w H => List.mem_cons_of_mem _ (List.mem_append_right _ H)) tyX6 tyX6_ok nmX6 (hc := (rfl : vwCl[6]? = some (RX6, TX6, 15))) 0 5 (by decide) (List.mem_of_getElem? (i := 1) rfl) rfl rfl (tyX6_ok 5 (by decide)) rfl rfl (Nat.le_of_ble_eq_true rfl) rfl dX6_fit_27 ?_
  refine V.aload_n 0 rfl dX6_fit_30 rfl ?_
  refine V.get (v := .int 0) (fun w H => List.mem_cons_of_mem _ (List.mem_append_right _ H)) (hc := (rfl : vwCl[6]? = some (RX6, TX6, 15))) 0 5 (by decide) (List.mem_of_getElem? (i := 1) rfl) rfl rfl dX6_fit_31 ?_
  refine V.if_le_t (tgt := 39) (by decide) dX6_fit_34 (by decide) ?_
  refine V.aload_n 0 rfl dX6_fit_39 rfl ?_
  refine V.callVf (ws2 := MW g a z (svA sn z hi) tx ai pa tu pt ke (nI (svM sn + 1)) le 0 re nu du ha) (st2 := []) [] [] (kX6_save g a z hi tx ai pa tu pt ke le 0 re nu du ha sn hs) gX6_fit_X6_save rfl (by show _ ∧ _ ∧ _ ∧ _ = some (0 : Nat); decide +kernel) ⟨Nat.le_of_ble_eq_true rfl, Nat.le_of_ble_eq_true rfl⟩ (hc := (rfl : vwCl[6]? = some (RX6, TX6, 15))) 0 rfl [0, 1, 2, 3, 4, 5, 6, 7, 8] (by decide) rfl rfl (Nat.le_of_ble_eq_true rfl) ⟨Nat.le_of_ble_eq_true rfl, Nat.le_of_ble_eq_true rfl⟩ dX6_fit_40 MWf rfl rfl rfl rfl ?_
  refine V.aload_n 0 rfl dX6_fit_43 rfl ?_
  refine V.iload_n 1 rfl dX6_fit_44 rfl ?_
  refine V.iconst (v := 0) dX6_fit_45 (by decide) ?_
  refine V.callVf (ws2 := MW g a z (svA sn z hi) tx ai pa tu pt ke (nI (svM sn + 1)) le 0 re nu du ha) (st2 := [.int (z (196 + 5 * n + 0))]) [.int (nI n), .int 0] [] (kX6_ofNozzle g a z (svA sn z hi) tx ai pa tu pt ke (nI (svM sn + 1)) le 0 re nu du ha n 0 (by first | omega | decide) (by first | omega | decide)) gX6_fit_X6_ofNozzle rfl (by show _ ∧ _ ∧ _ ∧ _ = some (2 : Nat); decide +kernel) ⟨Nat.le_of_ble_eq_true rfl, Nat.le_of_ble_eq_true rfl⟩ (hc := (rfl : vwCl[6]? = some (RX6, TX6, 15))) 0 rfl [0, 1, 2, 3, 4, 5, 6, 7, 8] (by decide) rfl rfl (Nat.le_of_ble_eq_true rfl) ⟨Nat.le_of_ble_eq_true rfl, Nat.le_of_ble_eq_true rfl⟩ dX6_fit_46 MWf rfl rfl rfl rfl ?_
  refine V.istore_n (lv2 := [(3, .int (z (196 + 5 * n + 0))), (0, .ref (a 0)), (1, .int (nI n)), (2, .int x)]) dX6_fit_49 rfl (by decide) rfl ?_
  refine V.aload_n 1 rfl dX6_fit_50 rfl ?_
  refine V.get (v := .ref (a 1)) (fun w H => List.mem_cons_of_mem _ (List.mem_append_right _ H)) (hc := (rfl : vwCl[6]? = some (RX6, TX6, 15))) 0 0 (by decide) (List.mem_of_getElem? (i := 2) rfl) rfl rfl dX6_fit_51 ?_
  refine V.sipush (v := 196) dX6_fit_54 (by decide) ?_
  refine V.iconst (v := 5) dX6_fit_57 (by decide) ?_
  refine V.iload_n 2 rfl dX6_fit_58 rfl ?_
  refine V.imulN (v := nI (5 * n)) dX6_fit_59 (pk_mul 5 n) ?_
  refine V.iaddN (v := nI (196 + 5 * n)) dX6_fit_60 (nI_add 196 (5 * n)) ?_
  refine V.iconst (v := 0) dX6_fit_61 (by decide) ?_
  refine V.iaddN (v := nI (196 + 5 * n + 0)) dX6_fit_62 (nI_add (196 + 5 * n) 0) ?_
  refine V.iload_n 3 rfl dX6_fit_63 rfl ?_
  refine V.iast (f := z) (ws2 := MW g a (upd z (196 + 5 * n + 0) x) (svA sn z hi) tx ai pa tu pt ke (nI (svM sn + 1)) le 0 re nu du ha) 1 (196 + 5 * n + 0) rfl rfl (by omega) (by decide) rfl dX6_fit_64 ?_
  refine V.iload_n 0 rfl dX6_fit_65 rfl ?_
  exact V.iret hq XM.r (Nat.le_of_ble_eq_true rfl) (Nat.le_of_ble_eq_true rfl) ⟨rfl, rfl⟩ dX6_fit_66
abbrev rmX6_clear : Room := { frames := 2, cells := 0, slots := 0, locals := 45 }
set_option maxHeartbeats 4000000 in
set_option maxRecDepth 100000 in
theorem kX6_clear (g : GT) (a : Nat → Nat) (z hi tx ai pa tu pt ke : Nat → Int32) (le th re nu du : Int32) (ha : Int64) (sn : Nat) (hP : z 6 = nI (np z)) (hP24 : np z ≤ 24) (hs : sn ≤ 6) : UC g yX6_clear wsX6_clear rmX6_clear [.ref (a 0)] (MW g a z hi tx ai pa tu pt ke (nI sn) le th re nu du ha) (Qf (some (.int (pT z 1))) (MW g a (clZ z) (svA sn z hi) tx ai pa tu pt ke (nI (svM sn + 1)) le 0 re nu du ha)) := by
  refine UC.ofV (cc := cX6_clear) (maxL := 3) (ret := some .int) (lv0 := [(0, .ref (a 0))]) (by decide) rfl (Nat.le_of_ble_eq_true rfl) rfl ?_
  generalize hQF : QFr g rmX6_clear (Qf (some (.int (pT z 1))) (MW g a (clZ z) (svA sn z hi) tx ai pa tu pt ke (nI (svM sn + 1)) le 0 re nu du ha)) = QF
  have hq : QFok g rmX6_clear (Qf (some (.int (pT z 1))) (MW g a (clZ z) (svA sn z hi) tx ai pa tu pt ke (nI (svM sn + 1)) le 0 re nu du ha)) QF := hQF ▸ QFr.q
  refine V.aload_n 0 rfl dX6_clear_0 rfl ?_
  refine V.iconst (v := 0) dX6_clear_1 (by decide) ?_
  refine V.put (v := .int 0) (ws2 := MW g a z hi tx ai pa tu pt ke (nI sn) le 0 re nu du ha) (fun w H => List.mem_cons_of_mem _ (List.mem_append_right _ H)) tyX6 tyX6_ok nmX6 (hc := (rfl : vwCl[6]? = some (RX6, TX6, 15))) 0 5 (by decide) (List.mem_of_getElem? (i := 1) rfl) rfl rfl (tyX6_ok 5 (by decide)) rfl rfl (Nat.le_of_ble_eq_true rfl) rfl dX6_clear_2 ?_
  refine V.aload_n 0 rfl dX6_clear_5 rfl ?_
  refine V.callVf (ws2 := MW g a z (svA sn z hi) tx ai pa tu pt ke (nI (svM sn + 1)) le 0 re nu du ha) (st2 := []) [] [] (kX6_save g a z hi tx ai pa tu pt ke le 0 re nu du ha sn hs) gX6_clear_X6_save rfl (by show _ ∧ _ ∧ _ ∧ _ = some (0 : Nat); decide +kernel) ⟨Nat.le_of_ble_eq_true rfl, Nat.le_of_ble_eq_true rfl⟩ (hc := (rfl : vwCl[6]? = some (RX6, TX6, 15))) 0 rfl [0, 1, 2, 3, 4, 5, 6, 7, 8] (by decide) rfl rfl (Nat.le_of_ble_eq_true rfl) ⟨Nat.le_of_ble_eq_true rfl, Nat.le_of_ble_eq_true rfl⟩ dX6_clear_6 MWf rfl rfl rfl rfl ?_
  refine V.aload_n 0 rfl dX6_clear_9 rfl ?_
  refine V.iconst (v := 1) dX6_clear_10 (by decide) ?_
  refine V.callVf (ws2 := MW g a z (svA sn z hi) tx ai pa tu pt ke (nI (svM sn + 1)) le 0 re nu du ha) (st2 := [.int (pT z (1 : Int32))]) [.int 1] [] (kX6_placesThat g a z (svA sn z hi) tx ai pa tu pt ke (nI (svM sn + 1)) le 0 re nu du ha (1 : Int32) hP hP24) gX6_clear_X6_placesThat rfl (by show _ ∧ _ ∧ _ ∧ _ = some (1 : Nat); decide +kernel) ⟨Nat.le_of_ble_eq_true rfl, Nat.le_of_ble_eq_true rfl⟩ (hc := (rfl : vwCl[6]? = some (RX6, TX6, 15))) 0 rfl [0, 1, 2, 3, 4, 5, 6, 7, 8] (by decide) rfl rfl (Nat.le_of_ble_eq_true rfl) ⟨Nat.le_of_ble_eq_true rfl, Nat.le_of_ble_eq_true rfl⟩ dX6_clear_11 MWf rfl rfl rfl rfl ?_
  refine V.istore_n (lv2 := [(1, .int (pT z (1 : Int32))), (0, .ref (a 0))]) dX6_clear_14 rfl (by decide) rfl ?_
  refine V.iconst (v := 0) dX6_clear_15 (by decide) ?_
  refine V.istore_n (lv2 := [(2, .int 0), (1, .int (pT z (1 : Int32))), (0, .ref (a 0))]) dX6_clear_16 rfl (by decide) rfl ?_
  have L17 : ∀ (kL : Nat) (i : Nat) (y : Nat → Int32), i + kL = np z → (lo7 y z) → (fu (fun p y => emz y p) i kL y = clZ z) → V g rmX6_clear RX6 cX6_clear wsX6_clear 3 QF (XM (some .int) "clear") 0 0 (MW g a y (svA sn z hi) tx ai pa tu pt ke (nI (svM sn + 1)) le 0 re nu du ha) 17 [(2, .int (nI i)), (1, .int (pT z (1 : Int32))), (0, .ref (a 0))] [] := by
    intro kL
    induction kL with
    | zero =>
      intro i y hrel hy7 hfu
      rw [fu_0] at hfu
      have hP1 : y 6 = nI (np z) := (hy7 6 (by decide)).trans hP
      refine V.iload_n 0 rfl dX6_clear_17 rfl ?_
      refine V.aload_n 2 rfl dX6_clear_18 rfl ?_
      refine V.get (v := .ref (a 1)) (fun w H => List.mem_cons_of_mem _ (List.mem_append_right _ H)) (hc := (rfl : vwCl[6]? = some (RX6, TX6, 15))) 0 0 (by decide) (List.mem_of_getElem? (i := 2) rfl) rfl rfl dX6_clear_19 ?_
      refine V.bipush (v := 6) dX6_clear_22 (by decide) ?_
      refine V.iald (f := y) 1 6 rfl rfl (by decide) (by decide) dX6_clear_24 ?_
      refine V.icmp_ge_t (tgt := 39) (by rw [hP1, show i = np z from by omega]; exact nI_le (Nat.le_refl _) (by omega)) dX6_clear_25 (by decide) ?_
      refine V.iload_n 1 rfl dX6_clear_39 rfl ?_
      exact V.iret hq XM.r (Nat.le_of_ble_eq_true rfl) (Nat.le_of_ble_eq_true rfl) ⟨rfl, by rw [← hfu] <;> rfl⟩ dX6_clear_40
    | succ kL ih =>
      intro i y hrel hy7 hfu
      rw [fu_s] at hfu
      have hP1 : y 6 = nI (np z) := (hy7 6 (by decide)).trans hP
      refine V.iload_n 0 rfl dX6_clear_17 rfl ?_
      refine V.aload_n 2 rfl dX6_clear_18 rfl ?_
      refine V.get (v := .ref (a 1)) (fun w H => List.mem_cons_of_mem _ (List.mem_append_right _ H)) (hc := (rfl : vwCl[6]? = some (RX6, TX6, 15))) 0 0 (by decide) (List.mem_of_getElem? (i := 2) rfl) rfl rfl dX6_clear_19 ?_
      refine V.bipush (v := 6) dX6_clear_22 (by decide) ?_
      refine V.iald (f := y) 1 6 rfl rfl (by decide) (by decide) dX6_clear_24 ?_
      refine V.icmp_ge_f (tgt := 39) (by rw [hP1]; exact nI_ge (by omega) (by omega)) dX6_clear_25 (by decide) ?_
      refine V.aload_n 2 rfl dX6_clear_28 rfl ?_
      refine V.iload_n 0 rfl dX6_clear_29 rfl ?_
      refine V.callVf (ws2 := MW g a (emz y i) (svA sn z hi) tx ai pa tu pt ke (nI (svM sn + 1)) le 0 re nu du ha) (st2 := []) [.int (nI i)] [] (kX6_empty g a y (svA sn z hi) tx ai pa tu pt ke (nI (svM sn + 1)) le 0 re nu du ha i (by first | omega | decide)) gX6_clear_X6_empty rfl (by show _ ∧ _ ∧ _ ∧ _ = some (1 : Nat); decide +kernel) ⟨Nat.le_of_ble_eq_true rfl, Nat.le_of_ble_eq_true rfl⟩ (hc := (rfl : vwCl[6]? = some (RX6, TX6, 15))) 0 rfl [0, 1, 2, 3, 4, 5, 6, 7, 8] (by decide) rfl rfl (Nat.le_of_ble_eq_true rfl) ⟨Nat.le_of_ble_eq_true rfl, Nat.le_of_ble_eq_true rfl⟩ dX6_clear_30 MWf rfl rfl rfl rfl ?_
      refine V.iinc (v := nI (i + 1)) (lv2 := [(2, .int (nI (i + 1))), (1, .int (pT z (1 : Int32))), (0, .ref (a 0))]) 0 rfl dX6_clear_33 (nI_add i 1) (by decide) rfl ?_
      refine V.goto (tgt := 17) dX6_clear_36 (by decide) ?_
      refine V.eqlv (lv2 := [(2, .int (nI (i + 1))), (1, .int (pT z (1 : Int32))), (0, .ref (a 0))]) [0, 1, 2] rfl ?_
      exact ih (i + 1) (emz y i) (by omega) (lo7.tr (fun k hk => emz_lo (by omega)) hy7) hfu
  refine V.eqlv (lv2 := [(2, .int 0), (1, .int (pT z (1 : Int32))), (0, .ref (a 0))]) [0, 1, 2] rfl ?_
  exact L17 (np z) 0 z (by omega) lo7.rf rfl
abbrev rmX6_greatest : Room := { frames := 0, cells := 0, slots := 0, locals := 0 }
set_option maxHeartbeats 4000000 in
set_option maxRecDepth 100000 in
theorem kX6_greatest (g : GT) (n : Nat) (hn : n < 5) : UC g yX6_greatest wsX6_greatest rmX6_greatest [.int (nI n)] ([]) (Qf (some (.int (gre n))) ([])) := by
  refine UC.ofV (cc := cX6_greatest) (maxL := 1) (ret := some .int) (lv0 := [(0, .int (nI n))]) (by decide) rfl (Nat.le_of_ble_eq_true rfl) rfl ?_
  generalize hQF : QFr g rmX6_greatest (Qf (some (.int (gre n))) ([])) = QF
  have hq : QFok g rmX6_greatest (Qf (some (.int (gre n))) ([])) QF := hQF ▸ QFr.q
  rcases (show n = 0 ∨ n = 1 ∨ n = 2 ∨ n = 3 ∨ n = 4 by omega) with rfl | rfl | rfl | rfl | rfl
  · skip
    refine V.iload_n 0 rfl dX6_greatest_0 rfl ?_
    refine V.if_ne_f (tgt := 8) (by decide) dX6_greatest_1 (by decide) ?_
    refine V.iconst (v := 5) dX6_greatest_4 (by decide) ?_
    refine V.goto (tgt := 25) dX6_greatest_5 (by decide) ?_
    exact V.iret hq XM.r (Nat.le_of_ble_eq_true rfl) (Nat.le_of_ble_eq_true rfl) ⟨rfl, rfl⟩ dX6_greatest_25
  · skip
    refine V.iload_n 0 rfl dX6_greatest_0 rfl ?_
    refine V.if_ne_t (tgt := 8) (by decide) dX6_greatest_1 (by decide) ?_
    refine V.iload_n 0 rfl dX6_greatest_8 rfl ?_
    refine V.iconst (v := 1) dX6_greatest_9 (by decide) ?_
    refine V.icmp_eq_t (tgt := 18) (by decide) dX6_greatest_10 (by decide) ?_
    refine V.bipush (v := 50) dX6_greatest_18 (by decide) ?_
    refine V.goto (tgt := 25) dX6_greatest_20 (by decide) ?_
    exact V.iret hq XM.r (Nat.le_of_ble_eq_true rfl) (Nat.le_of_ble_eq_true rfl) ⟨rfl, rfl⟩ dX6_greatest_25
  · skip
    refine V.iload_n 0 rfl dX6_greatest_0 rfl ?_
    refine V.if_ne_t (tgt := 8) (by decide) dX6_greatest_1 (by decide) ?_
    refine V.iload_n 0 rfl dX6_greatest_8 rfl ?_
    refine V.iconst (v := 1) dX6_greatest_9 (by decide) ?_
    refine V.icmp_eq_f (tgt := 18) (by decide) dX6_greatest_10 (by decide) ?_
    refine V.iload_n 0 rfl dX6_greatest_13 rfl ?_
    refine V.iconst (v := 2) dX6_greatest_14 (by decide) ?_
    refine V.icmp_ne_f (tgt := 23) (by decide) dX6_greatest_15 (by decide) ?_
    refine V.bipush (v := 50) dX6_greatest_18 (by decide) ?_
    refine V.goto (tgt := 25) dX6_greatest_20 (by decide) ?_
    exact V.iret hq XM.r (Nat.le_of_ble_eq_true rfl) (Nat.le_of_ble_eq_true rfl) ⟨rfl, rfl⟩ dX6_greatest_25
  · skip
    refine V.iload_n 0 rfl dX6_greatest_0 rfl ?_
    refine V.if_ne_t (tgt := 8) (by decide) dX6_greatest_1 (by decide) ?_
    refine V.iload_n 0 rfl dX6_greatest_8 rfl ?_
    refine V.iconst (v := 1) dX6_greatest_9 (by decide) ?_
    refine V.icmp_eq_f (tgt := 18) (by decide) dX6_greatest_10 (by decide) ?_
    refine V.iload_n 0 rfl dX6_greatest_13 rfl ?_
    refine V.iconst (v := 2) dX6_greatest_14 (by decide) ?_
    refine V.icmp_ne_t (tgt := 23) (by decide) dX6_greatest_15 (by decide) ?_
    refine V.bipush (v := 100) dX6_greatest_23 (by decide) ?_
    exact V.iret hq XM.r (Nat.le_of_ble_eq_true rfl) (Nat.le_of_ble_eq_true rfl) ⟨rfl, rfl⟩ dX6_greatest_25
  · skip
    refine V.iload_n 0 rfl dX6_greatest_0 rfl ?_
    refine V.if_ne_t (tgt := 8) (by decide) dX6_greatest_1 (by decide) ?_
    refine V.iload_n 0 rfl dX6_greatest_8 rfl ?_
    refine V.iconst (v := 1) dX6_greatest_9 (by decide) ?_
    refine V.icmp_eq_f (tgt := 18) (by decide) dX6_greatest_10 (by decide) ?_
    refine V.iload_n 0 rfl dX6_greatest_13 rfl ?_
    refine V.iconst (v := 2) dX6_greatest_14 (by decide) ?_
    refine V.icmp_ne_t (tgt := 23) (by decide) dX6_greatest_15 (by decide) ?_
    refine V.bipush (v := 100) dX6_greatest_23 (by decide) ?_
    exact V.iret hq XM.r (Nat.le_of_ble_eq_true rfl) (Nat.le_of_ble_eq_true rfl) ⟨rfl, rfl⟩ dX6_greatest_25
abbrev rmX6_set_b1 : Room := { frames := 2, cells := 0, slots := 0, locals := 42 }
set_option maxHeartbeats 4000000 in
set_option maxRecDepth 100000 in
theorem kX6_set_b1 (g : GT) (a : Nat → Nat) (z hi tx ai pa tu pt ke : Nat → Int32) (st le th re nu du : Int32) (ha : Int64) (v : Int32) (x : Int32) (h0 : wi v 0 4 = false) : UC g yX6_set wsX6_set rmX6_set_b1 [.ref (a 0), .int v, .int x] (MW g a z hi tx ai pa tu pt ke st le th re nu du ha) (Qf (some (.int 0)) (MW g a z hi tx ai pa tu pt ke st le 1 re nu du ha)) := by
  refine UC.ofV (cc := cX6_set) (maxL := 4) (ret := some .int) (lv0 := [(0, .ref (a 0)), (1, .int v), (2, .int x)]) (by decide) rfl (Nat.le_of_ble_eq_true rfl) rfl ?_
  generalize hQF : QFr g rmX6_set_b1 (Qf (some (.int 0)) (MW g a z hi tx ai pa tu pt ke st le 1 re nu du ha)) = QF
  have hq : QFok g rmX6_set_b1 (Qf (some (.int 0)) (MW g a z hi tx ai pa tu pt ke st le 1 re nu du ha)) QF := hQF ▸ QFr.q
  refine V.aload_n 0 rfl dX6_set_0 rfl ?_
  refine V.iload_n 1 rfl dX6_set_1 rfl ?_
  refine V.callSf (ws2 := MW g a z hi tx ai pa tu pt ke st le th re nu du ha) (st2 := [.int (bi (wi v 0 4)), .ref (a 0)]) [.int v] [.ref (a 0)] (kX6_isSetting g v ) gX6_set_X6_isSetting rfl (by show _ ∧ _ ∧ _ = some (1 : Nat); decide +kernel) ⟨Nat.le_of_ble_eq_true rfl, Nat.le_of_ble_eq_true rfl⟩ [] (by decide) rfl rfl (Nat.le_of_ble_eq_true rfl) ⟨Nat.le_of_ble_eq_true rfl, Nat.le_of_ble_eq_true rfl⟩ dX6_set_2 rfl (List.append_nil _) rfl rfl rfl ?_
  rw [h0]
  refine V.if_ne_f (tgt := 12) (by decide) dX6_set_5 (by decide) ?_
  refine V.iconst (v := 1) dX6_set_8 (by decide) ?_
  refine V.goto (tgt := 29) dX6_set_9 (by decide) ?_
  refine V.put (v := .int 1) (ws2 := MW g a z hi tx ai pa tu pt ke st le 1 re nu du ha) (fun w H => List.mem_cons_of_mem _ (List.mem_append_right _ H)) tyX6 tyX6_ok nmX6 (hc := (rfl : vwCl[6]? = some (RX6, TX6, 15))) 0 5 (by decide) (List.mem_of_getElem? (i := 1) rfl) rfl rfl (tyX6_ok 5 (by decide)) rfl rfl (Nat.le_of_ble_eq_true rfl) rfl dX6_set_29 ?_
  refine V.aload_n 0 rfl dX6_set_32 rfl ?_
  refine V.get (v := .int 1) (fun w H => List.mem_cons_of_mem _ (List.mem_append_right _ H)) (hc := (rfl : vwCl[6]? = some (RX6, TX6, 15))) 0 5 (by decide) (List.mem_of_getElem? (i := 1) rfl) rfl rfl dX6_set_33 ?_
  refine V.if_le_f (tgt := 41) (by decide) dX6_set_36 (by decide) ?_
  refine V.iconst (v := 0) dX6_set_39 (by decide) ?_
  exact V.iret hq XM.r (Nat.le_of_ble_eq_true rfl) (Nat.le_of_ble_eq_true rfl) ⟨rfl, rfl⟩ dX6_set_40
abbrev rmX6_set_b2 : Room := { frames := 2, cells := 0, slots := 0, locals := 42 }
set_option maxHeartbeats 4000000 in
set_option maxRecDepth 100000 in
theorem kX6_set_b2 (g : GT) (a : Nat → Nat) (z hi tx ai pa tu pt ke : Nat → Int32) (st le th re nu du : Int32) (ha : Int64) (n : Nat) (x : Int32) (hn : n < 5) (h0 : wi (nI n) 0 4 = true) (h1 : wi x 0 (gre n) = false) : UC g yX6_set wsX6_set rmX6_set_b2 [.ref (a 0), .int (nI n), .int x] (MW g a z hi tx ai pa tu pt ke st le th re nu du ha) (Qf (some (.int 0)) (MW g a z hi tx ai pa tu pt ke st le 2 re nu du ha)) := by
  refine UC.ofV (cc := cX6_set) (maxL := 4) (ret := some .int) (lv0 := [(0, .ref (a 0)), (1, .int (nI n)), (2, .int x)]) (by decide) rfl (Nat.le_of_ble_eq_true rfl) rfl ?_
  generalize hQF : QFr g rmX6_set_b2 (Qf (some (.int 0)) (MW g a z hi tx ai pa tu pt ke st le 2 re nu du ha)) = QF
  have hq : QFok g rmX6_set_b2 (Qf (some (.int 0)) (MW g a z hi tx ai pa tu pt ke st le 2 re nu du ha)) QF := hQF ▸ QFr.q
  refine V.aload_n 0 rfl dX6_set_0 rfl ?_
  refine V.iload_n 1 rfl dX6_set_1 rfl ?_
  refine V.callSf (ws2 := MW g a z hi tx ai pa tu pt ke st le th re nu du ha) (st2 := [.int (bi (wi (nI n) 0 4)), .ref (a 0)]) [.int (nI n)] [.ref (a 0)] (kX6_isSetting g (nI n) ) gX6_set_X6_isSetting rfl (by show _ ∧ _ ∧ _ = some (1 : Nat); decide +kernel) ⟨Nat.le_of_ble_eq_true rfl, Nat.le_of_ble_eq_true rfl⟩ [] (by decide) rfl rfl (Nat.le_of_ble_eq_true rfl) ⟨Nat.le_of_ble_eq_true rfl, Nat.le_of_ble_eq_true rfl⟩ dX6_set_2 rfl (List.append_nil _) rfl rfl rfl ?_
  rw [h0]
  refine V.if_ne_t (tgt := 12) (by decide) dX6_set_5 (by decide) ?_
  refine V.iload_n 2 rfl dX6_set_12 rfl ?_
  refine V.iconst (v := 0) dX6_set_13 (by decide) ?_
  refine V.iload_n 1 rfl dX6_set_14 rfl ?_
  refine V.callSf (ws2 := MW g a z hi tx ai pa tu pt ke st le th re nu du ha) (st2 := [.int (gre n), .int 0, .int x, .ref (a 0)]) [.int (nI n)] [.int 0, .int x, .ref (a 0)] (kX6_greatest g n (by first | omega | decide)) gX6_set_X6_greatest rfl (by show _ ∧ _ ∧ _ = some (1 : Nat); decide +kernel) ⟨Nat.le_of_ble_eq_true rfl, Nat.le_of_ble_eq_true rfl⟩ [] (by decide) rfl rfl (Nat.le_of_ble_eq_true rfl) ⟨Nat.le_of_ble_eq_true rfl, Nat.le_of_ble_eq_true rfl⟩ dX6_set_15 rfl (List.append_nil _) rfl rfl rfl ?_
  refine V.callSf (ws2 := MW g a z hi tx ai pa tu pt ke st le th re nu du ha) (st2 := [.int (bi (wi x (0 : Int32) (gre n))), .ref (a 0)]) [.int x, .int 0, .int (gre n)] [.ref (a 0)] (kX6_within g x (0 : Int32) (gre n) ) gX6_set_X6_within rfl (by show _ ∧ _ ∧ _ = some (3 : Nat); decide +kernel) ⟨Nat.le_of_ble_eq_true rfl, Nat.le_of_ble_eq_true rfl⟩ [] (by decide) rfl rfl (Nat.le_of_ble_eq_true rfl) ⟨Nat.le_of_ble_eq_true rfl, Nat.le_of_ble_eq_true rfl⟩ dX6_set_18 rfl (List.append_nil _) rfl rfl rfl ?_
  rw [h1]
  refine V.if_eq_t (tgt := 28) (by decide) dX6_set_21 (by decide) ?_
  refine V.iconst (v := 2) dX6_set_28 (by decide) ?_
  refine V.put (v := .int 2) (ws2 := MW g a z hi tx ai pa tu pt ke st le 2 re nu du ha) (fun w H => List.mem_cons_of_mem _ (List.mem_append_right _ H)) tyX6 tyX6_ok nmX6 (hc := (rfl : vwCl[6]? = some (RX6, TX6, 15))) 0 5 (by decide) (List.mem_of_getElem? (i := 1) rfl) rfl rfl (tyX6_ok 5 (by decide)) rfl rfl (Nat.le_of_ble_eq_true rfl) rfl dX6_set_29 ?_
  refine V.aload_n 0 rfl dX6_set_32 rfl ?_
  refine V.get (v := .int 2) (fun w H => List.mem_cons_of_mem _ (List.mem_append_right _ H)) (hc := (rfl : vwCl[6]? = some (RX6, TX6, 15))) 0 5 (by decide) (List.mem_of_getElem? (i := 1) rfl) rfl rfl dX6_set_33 ?_
  refine V.if_le_f (tgt := 41) (by decide) dX6_set_36 (by decide) ?_
  refine V.iconst (v := 0) dX6_set_39 (by decide) ?_
  exact V.iret hq XM.r (Nat.le_of_ble_eq_true rfl) (Nat.le_of_ble_eq_true rfl) ⟨rfl, rfl⟩ dX6_set_40
abbrev rmX6_set_ok : Room := { frames := 2, cells := 0, slots := 0, locals := 42 }
set_option maxHeartbeats 4000000 in
set_option maxRecDepth 100000 in
theorem kX6_set_ok (g : GT) (a : Nat → Nat) (z hi tx ai pa tu pt ke : Nat → Int32) (le th re nu du : Int32) (ha : Int64) (n : Nat) (x : Int32) (sn : Nat) (hn : n < 5) (h0 : wi (nI n) 0 4 = true) (h1 : wi x 0 (gre n) = true) (hs : sn ≤ 6) : UC g yX6_set wsX6_set rmX6_set_ok [.ref (a 0), .int (nI n), .int x] (MW g a z hi tx ai pa tu pt ke (nI sn) le th re nu du ha) (Qf (some (.int (z (0 + n)))) (MW g a (upd z (0 + n) x) (svA sn z hi) tx ai pa tu pt ke (nI (svM sn + 1)) le 0 re nu du ha)) := by
  refine UC.ofV (cc := cX6_set) (maxL := 4) (ret := some .int) (lv0 := [(0, .ref (a 0)), (1, .int (nI n)), (2, .int x)]) (by decide) rfl (Nat.le_of_ble_eq_true rfl) rfl ?_
  generalize hQF : QFr g rmX6_set_ok (Qf (some (.int (z (0 + n)))) (MW g a (upd z (0 + n) x) (svA sn z hi) tx ai pa tu pt ke (nI (svM sn + 1)) le 0 re nu du ha)) = QF
  have hq : QFok g rmX6_set_ok (Qf (some (.int (z (0 + n)))) (MW g a (upd z (0 + n) x) (svA sn z hi) tx ai pa tu pt ke (nI (svM sn + 1)) le 0 re nu du ha)) QF := hQF ▸ QFr.q
  refine V.aload_n 0 rfl dX6_set_0 rfl ?_
  refine V.iload_n 1 rfl dX6_set_1 rfl ?_
  refine V.callSf (ws2 := MW g a z hi tx ai pa tu pt ke (nI sn) le th re nu du ha) (st2 := [.int (bi (wi (nI n) 0 4)), .ref (a 0)]) [.int (nI n)] [.ref (a 0)] (kX6_isSetting g (nI n) ) gX6_set_X6_isSetting rfl (by show _ ∧ _ ∧ _ = some (1 : Nat); decide +kernel) ⟨Nat.le_of_ble_eq_true rfl, Nat.le_of_ble_eq_true rfl⟩ [] (by decide) rfl rfl (Nat.le_of_ble_eq_true rfl) ⟨Nat.le_of_ble_eq_true rfl, Nat.le_of_ble_eq_true rfl⟩ dX6_set_2 rfl (List.append_nil _) rfl rfl rfl ?_
  rw [h0]
  refine V.if_ne_t (tgt := 12) (by decide) dX6_set_5 (by decide) ?_
  refine V.iload_n 2 rfl dX6_set_12 rfl ?_
  refine V.iconst (v := 0) dX6_set_13 (by decide) ?_
  refine V.iload_n 1 rfl dX6_set_14 rfl ?_
  refine V.callSf (ws2 := MW g a z hi tx ai pa tu pt ke (nI sn) le th re nu du ha) (st2 := [.int (gre n), .int 0, .int x, .ref (a 0)]) [.int (nI n)] [.int 0, .int x, .ref (a 0)] (kX6_greatest g n (by first | omega | decide)) gX6_set_X6_greatest rfl (by show _ ∧ _ ∧ _ = some (1 : Nat); decide +kernel) ⟨Nat.le_of_ble_eq_true rfl, Nat.le_of_ble_eq_true rfl⟩ [] (by decide) rfl rfl (Nat.le_of_ble_eq_true rfl) ⟨Nat.le_of_ble_eq_true rfl, Nat.le_of_ble_eq_true rfl⟩ dX6_set_15 rfl (List.append_nil _) rfl rfl rfl ?_
  refine V.callSf (ws2 := MW g a z hi tx ai pa tu pt ke (nI sn) le th re nu du ha) (st2 := [.int (bi (wi x (0 : Int32) (gre n))), .ref (a 0)]) [.int x, .int 0, .int (gre n)] [.ref (a 0)] (kX6_within g x (0 : Int32) (gre n) ) gX6_set_X6_within rfl (by show _ ∧ _ ∧ _ = some (3 : Nat); decide +kernel) ⟨Nat.le_of_ble_eq_true rfl, Nat.le_of_ble_eq_true rfl⟩ [] (by decide) rfl rfl (Nat.le_of_ble_eq_true rfl) ⟨Nat.le_of_ble_eq_true rfl, Nat.le_of_ble_eq_true rfl⟩ dX6_set_18 rfl (List.append_nil _) rfl rfl rfl ?_
  rw [h1]
  refine V.if_eq_f (tgt := 28) (by decide) dX6_set_21 (by decide) ?_
  refine V.iconst (v := 0) dX6_set_24 (by decide) ?_
  refine V.goto (tgt := 29) dX6_set_25 (by decide) ?_
  refine V.put (v := .int 0) (ws2 := MW g a z hi tx ai pa tu pt ke (nI sn) le 0 re nu du ha) (fun w H => List.mem_cons_of_mem _ (List.mem_append_right _ H)) tyX6 tyX6_ok nmX6 (hc := (rfl : vwCl[6]? = some (RX6, TX6, 15))) 0 5 (by decide) (List.mem_of_getElem? (i := 1) rfl) rfl rfl (tyX6_ok 5 (by decide)) rfl rfl (Nat.le_of_ble_eq_true rfl) rfl dX6_set_29 ?_
  refine V.aload_n 0 rfl dX6_set_32 rfl ?_
  refine V.get (v := .int 0) (fun w H => List.mem_cons_of_mem _ (List.mem_append_right _ H)) (hc := (rfl : vwCl[6]? = some (RX6, TX6, 15))) 0 5 (by decide) (List.mem_of_getElem? (i := 1) rfl) rfl rfl dX6_set_33 ?_
  refine V.if_le_t (tgt := 41) (by decide) dX6_set_36 (by decide) ?_
  refine V.aload_n 0 rfl dX6_set_41 rfl ?_
  refine V.callVf (ws2 := MW g a z (svA sn z hi) tx ai pa tu pt ke (nI (svM sn + 1)) le 0 re nu du ha) (st2 := []) [] [] (kX6_save g a z hi tx ai pa tu pt ke le 0 re nu du ha sn hs) gX6_set_X6_save rfl (by show _ ∧ _ ∧ _ ∧ _ = some (0 : Nat); decide +kernel) ⟨Nat.le_of_ble_eq_true rfl, Nat.le_of_ble_eq_true rfl⟩ (hc := (rfl : vwCl[6]? = some (RX6, TX6, 15))) 0 rfl [0, 1, 2, 3, 4, 5, 6, 7, 8] (by decide) rfl rfl (Nat.le_of_ble_eq_true rfl) ⟨Nat.le_of_ble_eq_true rfl, Nat.le_of_ble_eq_true rfl⟩ dX6_set_42 MWf rfl rfl rfl rfl ?_
  refine V.aload_n 0 rfl dX6_set_45 rfl ?_
  refine V.get (v := .ref (a 1)) (fun w H => List.mem_cons_of_mem _ (List.mem_append_right _ H)) (hc := (rfl : vwCl[6]? = some (RX6, TX6, 15))) 0 0 (by decide) (List.mem_of_getElem? (i := 2) rfl) rfl rfl dX6_set_46 ?_
  refine V.iconst (v := 0) dX6_set_49 (by decide) ?_
  refine V.iload_n 1 rfl dX6_set_50 rfl ?_
  refine V.iaddN (v := nI (0 + n)) dX6_set_51 (nI_add 0 n) ?_
  refine V.iald (f := z) 1 (0 + n) rfl rfl (by omega) (by decide) dX6_set_52 ?_
  refine V.istore_n (lv2 := [(3, .int (z (0 + n))), (0, .ref (a 0)), (1, .int (nI n)), (2, .int x)]) dX6_set_53 rfl (by decide) rfl ?_
  refine V.aload_n 1 rfl dX6_set_54 rfl ?_
  refine V.get (v := .ref (a 1)) (fun w H => List.mem_cons_of_mem _ (List.mem_append_right _ H)) (hc := (rfl : vwCl[6]? = some (RX6, TX6, 15))) 0 0 (by decide) (List.mem_of_getElem? (i := 2) rfl) rfl rfl dX6_set_55 ?_
  refine V.iconst (v := 0) dX6_set_58 (by decide) ?_
  refine V.iload_n 2 rfl dX6_set_59 rfl ?_
  refine V.iaddN (v := nI (0 + n)) dX6_set_60 (nI_add 0 n) ?_
  refine V.iload_n 3 rfl dX6_set_61 rfl ?_
  refine V.iast (f := z) (ws2 := MW g a (upd z (0 + n) x) (svA sn z hi) tx ai pa tu pt ke (nI (svM sn + 1)) le 0 re nu du ha) 1 (0 + n) rfl rfl (by omega) (by decide) rfl dX6_set_62 ?_
  refine V.iload_n 0 rfl dX6_set_63 rfl ?_
  exact V.iret hq XM.r (Nat.le_of_ble_eq_true rfl) (Nat.le_of_ble_eq_true rfl) ⟨rfl, rfl⟩ dX6_set_64
abbrev rmX6_tour_b1 : Room := { frames := 2, cells := 0, slots := 0, locals := 42 }
set_option maxHeartbeats 4000000 in
set_option maxRecDepth 100000 in
theorem kX6_tour_b1 (g : GT) (a : Nat → Nat) (z hi tx ai pa tu pt ke : Nat → Int32) (st le th re nu du : Int32) (ha : Int64) (v : Int32) (h0 : wi v 1 20 = false) : UC g yX6_tour wsX6_tour rmX6_tour_b1 [.ref (a 0), .int v] (MW g a z hi tx ai pa tu pt ke st le th re nu du ha) (Qf (some (.int 0)) (MW g a z hi tx ai pa tu pt ke st le 1 re nu du ha)) := by
  refine UC.ofV (cc := cX6_tour) (maxL := 2) (ret := some .int) (lv0 := [(0, .ref (a 0)), (1, .int v)]) (by decide) rfl (Nat.le_of_ble_eq_true rfl) rfl ?_
  generalize hQF : QFr g rmX6_tour_b1 (Qf (some (.int 0)) (MW g a z hi tx ai pa tu pt ke st le 1 re nu du ha)) = QF
  have hq : QFok g rmX6_tour_b1 (Qf (some (.int 0)) (MW g a z hi tx ai pa tu pt ke st le 1 re nu du ha)) QF := hQF ▸ QFr.q
  refine V.aload_n 0 rfl dX6_tour_0 rfl ?_
  refine V.iload_n 1 rfl dX6_tour_1 rfl ?_
  refine V.callSf (ws2 := MW g a z hi tx ai pa tu pt ke st le th re nu du ha) (st2 := [.int (bi (wi v 1 20)), .ref (a 0)]) [.int v] [.ref (a 0)] (kX6_areTimes g v ) gX6_tour_X6_areTimes rfl (by show _ ∧ _ ∧ _ = some (1 : Nat); decide +kernel) ⟨Nat.le_of_ble_eq_true rfl, Nat.le_of_ble_eq_true rfl⟩ [] (by decide) rfl rfl (Nat.le_of_ble_eq_true rfl) ⟨Nat.le_of_ble_eq_true rfl, Nat.le_of_ble_eq_true rfl⟩ dX6_tour_2 rfl (List.append_nil _) rfl rfl rfl ?_
  rw [h0]
  refine V.if_eq_t (tgt := 12) (by decide) dX6_tour_5 (by decide) ?_
  refine V.iconst (v := 1) dX6_tour_12 (by decide) ?_
  refine V.put (v := .int 1) (ws2 := MW g a z hi tx ai pa tu pt ke st le 1 re nu du ha) (fun w H => List.mem_cons_of_mem _ (List.mem_append_right _ H)) tyX6 tyX6_ok nmX6 (hc := (rfl : vwCl[6]? = some (RX6, TX6, 15))) 0 5 (by decide) (List.mem_of_getElem? (i := 1) rfl) rfl rfl (tyX6_ok 5 (by decide)) rfl rfl (Nat.le_of_ble_eq_true rfl) rfl dX6_tour_13 ?_
  refine V.aload_n 0 rfl dX6_tour_16 rfl ?_
  refine V.get (v := .int 1) (fun w H => List.mem_cons_of_mem _ (List.mem_append_right _ H)) (hc := (rfl : vwCl[6]? = some (RX6, TX6, 15))) 0 5 (by decide) (List.mem_of_getElem? (i := 1) rfl) rfl rfl dX6_tour_17 ?_
  refine V.if_le_f (tgt := 25) (by decide) dX6_tour_20 (by decide) ?_
  refine V.iconst (v := 0) dX6_tour_23 (by decide) ?_
  exact V.iret hq XM.r (Nat.le_of_ble_eq_true rfl) (Nat.le_of_ble_eq_true rfl) ⟨rfl, rfl⟩ dX6_tour_24
abbrev rmX6_tour_ok : Room := { frames := 7, cells := 0, slots := 0, locals := 162 }
set_option maxHeartbeats 4000000 in
set_option maxRecDepth 100000 in
theorem kX6_tour_ok (g : GT) (a : Nat → Nat) (z hi tx ai pa tu pt ke : Nat → Int32) (le th re nu du : Int32) (ha : Int64) (t : Nat) (sn : Nat) (ht : t ≤ 20) (h0 : wi (nI t) 1 20 = true) (hK : KZ z) (hs : sn ≤ 6) : UC g yX6_tour wsX6_tour rmX6_tour_ok [.ref (a 0), .int (nI t)] (MW g a z hi tx ai pa tu pt ke (nI sn) le th re nu du ha) (Qf (some (.int ((rTs t ((z, ai, pa, tu), 0)).2))) (MW g a ((rTs t ((z, ai, pa, tu), 0)).1.1) (svA sn z hi) tx ((rTs t ((z, ai, pa, tu), 0)).1.2.1) ((rTs t ((z, ai, pa, tu), 0)).1.2.2.1) ((rTs t ((z, ai, pa, tu), 0)).1.2.2.2) pt ke (nI (svM sn + 1)) le 0 re nu du ha)) := by
  refine UC.ofV (cc := cX6_tour) (maxL := 2) (ret := some .int) (lv0 := [(0, .ref (a 0)), (1, .int (nI t))]) (by decide) rfl (Nat.le_of_ble_eq_true rfl) rfl ?_
  generalize hQF : QFr g rmX6_tour_ok (Qf (some (.int ((rTs t ((z, ai, pa, tu), 0)).2))) (MW g a ((rTs t ((z, ai, pa, tu), 0)).1.1) (svA sn z hi) tx ((rTs t ((z, ai, pa, tu), 0)).1.2.1) ((rTs t ((z, ai, pa, tu), 0)).1.2.2.1) ((rTs t ((z, ai, pa, tu), 0)).1.2.2.2) pt ke (nI (svM sn + 1)) le 0 re nu du ha)) = QF
  have hq : QFok g rmX6_tour_ok (Qf (some (.int ((rTs t ((z, ai, pa, tu), 0)).2))) (MW g a ((rTs t ((z, ai, pa, tu), 0)).1.1) (svA sn z hi) tx ((rTs t ((z, ai, pa, tu), 0)).1.2.1) ((rTs t ((z, ai, pa, tu), 0)).1.2.2.1) ((rTs t ((z, ai, pa, tu), 0)).1.2.2.2) pt ke (nI (svM sn + 1)) le 0 re nu du ha)) QF := hQF ▸ QFr.q
  refine V.aload_n 0 rfl dX6_tour_0 rfl ?_
  refine V.iload_n 1 rfl dX6_tour_1 rfl ?_
  refine V.callSf (ws2 := MW g a z hi tx ai pa tu pt ke (nI sn) le th re nu du ha) (st2 := [.int (bi (wi (nI t) 1 20)), .ref (a 0)]) [.int (nI t)] [.ref (a 0)] (kX6_areTimes g (nI t) ) gX6_tour_X6_areTimes rfl (by show _ ∧ _ ∧ _ = some (1 : Nat); decide +kernel) ⟨Nat.le_of_ble_eq_true rfl, Nat.le_of_ble_eq_true rfl⟩ [] (by decide) rfl rfl (Nat.le_of_ble_eq_true rfl) ⟨Nat.le_of_ble_eq_true rfl, Nat.le_of_ble_eq_true rfl⟩ dX6_tour_2 rfl (List.append_nil _) rfl rfl rfl ?_
  rw [h0]
  refine V.if_eq_f (tgt := 12) (by decide) dX6_tour_5 (by decide) ?_
  refine V.iconst (v := 0) dX6_tour_8 (by decide) ?_
  refine V.goto (tgt := 13) dX6_tour_9 (by decide) ?_
  refine V.put (v := .int 0) (ws2 := MW g a z hi tx ai pa tu pt ke (nI sn) le 0 re nu du ha) (fun w H => List.mem_cons_of_mem _ (List.mem_append_right _ H)) tyX6 tyX6_ok nmX6 (hc := (rfl : vwCl[6]? = some (RX6, TX6, 15))) 0 5 (by decide) (List.mem_of_getElem? (i := 1) rfl) rfl rfl (tyX6_ok 5 (by decide)) rfl rfl (Nat.le_of_ble_eq_true rfl) rfl dX6_tour_13 ?_
  refine V.aload_n 0 rfl dX6_tour_16 rfl ?_
  refine V.get (v := .int 0) (fun w H => List.mem_cons_of_mem _ (List.mem_append_right _ H)) (hc := (rfl : vwCl[6]? = some (RX6, TX6, 15))) 0 5 (by decide) (List.mem_of_getElem? (i := 1) rfl) rfl rfl dX6_tour_17 ?_
  refine V.if_le_t (tgt := 25) (by decide) dX6_tour_20 (by decide) ?_
  refine V.aload_n 0 rfl dX6_tour_25 rfl ?_
  refine V.callVf (ws2 := MW g a z (svA sn z hi) tx ai pa tu pt ke (nI (svM sn + 1)) le 0 re nu du ha) (st2 := []) [] [] (kX6_save g a z hi tx ai pa tu pt ke le 0 re nu du ha sn hs) gX6_tour_X6_save rfl (by show _ ∧ _ ∧ _ ∧ _ = some (0 : Nat); decide +kernel) ⟨Nat.le_of_ble_eq_true rfl, Nat.le_of_ble_eq_true rfl⟩ (hc := (rfl : vwCl[6]? = some (RX6, TX6, 15))) 0 rfl [0, 1, 2, 3, 4, 5, 6, 7, 8] (by decide) rfl rfl (Nat.le_of_ble_eq_true rfl) ⟨Nat.le_of_ble_eq_true rfl, Nat.le_of_ble_eq_true rfl⟩ dX6_tour_26 MWf rfl rfl rfl rfl ?_
  refine V.aload_n 0 rfl dX6_tour_29 rfl ?_
  refine V.iload_n 1 rfl dX6_tour_30 rfl ?_
  refine V.callVf (ws2 := MW g a ((rTs t ((z, ai, pa, tu), 0)).1.1) (svA sn z hi) tx ((rTs t ((z, ai, pa, tu), 0)).1.2.1) ((rTs t ((z, ai, pa, tu), 0)).1.2.2.1) ((rTs t ((z, ai, pa, tu), 0)).1.2.2.2) pt ke (nI (svM sn + 1)) le 0 re nu du ha) (st2 := [.int ((rTs t ((z, ai, pa, tu), 0)).2)]) [.int (nI t)] [] (kX6_tours g a z (svA sn z hi) tx ai pa tu pt ke (nI (svM sn + 1)) le 0 re nu du ha t ht hK) gX6_tour_X6_tours rfl (by show _ ∧ _ ∧ _ ∧ _ = some (1 : Nat); decide +kernel) ⟨Nat.le_of_ble_eq_true rfl, Nat.le_of_ble_eq_true rfl⟩ (hc := (rfl : vwCl[6]? = some (RX6, TX6, 15))) 0 rfl [0, 1, 2, 3, 4, 5, 6, 7, 8] (by decide) rfl rfl (Nat.le_of_ble_eq_true rfl) ⟨Nat.le_of_ble_eq_true rfl, Nat.le_of_ble_eq_true rfl⟩ dX6_tour_31 MWf rfl rfl rfl rfl ?_
  exact V.iret hq XM.r (Nat.le_of_ble_eq_true rfl) (Nat.le_of_ble_eq_true rfl) ⟨rfl, rfl⟩ dX6_tour_34
abbrev rmX6_inspect : Room := { frames := 3, cells := 0, slots := 0, locals := 68 }
set_option maxHeartbeats 4000000 in
set_option maxRecDepth 100000 in
theorem kX6_inspect (g : GT) (a : Nat → Nat) (z hi tx ai pa tu pt ke : Nat → Int32) (le th re nu du : Int32) (ha : Int64) (sn : Nat) (hP : z 6 = nI (np z)) (hP24 : np z ≤ 24) (hI : PI z) (hs : sn ≤ 6) : UC g yX6_inspect wsX6_inspect rmX6_inspect [.ref (a 0)] (MW g a z hi tx ai pa tu pt ke (nI sn) le th re nu du ha) (Qf (some (.int ((inL z).2))) (MW g a (inZ z) (svA sn z hi) tx ai pa tu pt ke (nI (svM sn + 1)) le 0 re nu du ha)) := by
  refine UC.ofV (cc := cX6_inspect) (maxL := 1) (ret := some .int) (lv0 := [(0, .ref (a 0))]) (by decide) rfl (Nat.le_of_ble_eq_true rfl) rfl ?_
  generalize hQF : QFr g rmX6_inspect (Qf (some (.int ((inL z).2))) (MW g a (inZ z) (svA sn z hi) tx ai pa tu pt ke (nI (svM sn + 1)) le 0 re nu du ha)) = QF
  have hq : QFok g rmX6_inspect (Qf (some (.int ((inL z).2))) (MW g a (inZ z) (svA sn z hi) tx ai pa tu pt ke (nI (svM sn + 1)) le 0 re nu du ha)) QF := hQF ▸ QFr.q
  refine V.aload_n 0 rfl dX6_inspect_0 rfl ?_
  refine V.iconst (v := 0) dX6_inspect_1 (by decide) ?_
  refine V.put (v := .int 0) (ws2 := MW g a z hi tx ai pa tu pt ke (nI sn) le 0 re nu du ha) (fun w H => List.mem_cons_of_mem _ (List.mem_append_right _ H)) tyX6 tyX6_ok nmX6 (hc := (rfl : vwCl[6]? = some (RX6, TX6, 15))) 0 5 (by decide) (List.mem_of_getElem? (i := 1) rfl) rfl rfl (tyX6_ok 5 (by decide)) rfl rfl (Nat.le_of_ble_eq_true rfl) rfl dX6_inspect_2 ?_
  refine V.aload_n 0 rfl dX6_inspect_5 rfl ?_
  refine V.callVf (ws2 := MW g a z (svA sn z hi) tx ai pa tu pt ke (nI (svM sn + 1)) le 0 re nu du ha) (st2 := []) [] [] (kX6_save g a z hi tx ai pa tu pt ke le 0 re nu du ha sn hs) gX6_inspect_X6_save rfl (by show _ ∧ _ ∧ _ ∧ _ = some (0 : Nat); decide +kernel) ⟨Nat.le_of_ble_eq_true rfl, Nat.le_of_ble_eq_true rfl⟩ (hc := (rfl : vwCl[6]? = some (RX6, TX6, 15))) 0 rfl [0, 1, 2, 3, 4, 5, 6, 7, 8] (by decide) rfl rfl (Nat.le_of_ble_eq_true rfl) ⟨Nat.le_of_ble_eq_true rfl, Nat.le_of_ble_eq_true rfl⟩ dX6_inspect_6 MWf rfl rfl rfl rfl ?_
  refine V.aload_n 0 rfl dX6_inspect_9 rfl ?_
  refine V.callVf (ws2 := MW g a (inZ z) (svA sn z hi) tx ai pa tu pt ke (nI (svM sn + 1)) le 0 re nu du ha) (st2 := [.int ((inL z).2)]) [] [] (kX6_inspects g a z (svA sn z hi) tx ai pa tu pt ke (nI (svM sn + 1)) le 0 re nu du ha  hP hP24 hI) gX6_inspect_X6_inspects rfl (by show _ ∧ _ ∧ _ ∧ _ = some (0 : Nat); decide +kernel) ⟨Nat.le_of_ble_eq_true rfl, Nat.le_of_ble_eq_true rfl⟩ (hc := (rfl : vwCl[6]? = some (RX6, TX6, 15))) 0 rfl [0, 1, 2, 3, 4, 5, 6, 7, 8] (by decide) rfl rfl (Nat.le_of_ble_eq_true rfl) ⟨Nat.le_of_ble_eq_true rfl, Nat.le_of_ble_eq_true rfl⟩ dX6_inspect_10 MWf rfl rfl rfl rfl ?_
  exact V.iret hq XM.r (Nat.le_of_ble_eq_true rfl) (Nat.le_of_ble_eq_true rfl) ⟨rfl, rfl⟩ dX6_inspect_13
abbrev rmX6_append_b1 : Room := { frames := 1, cells := 0, slots := 0, locals := 22 }
set_option maxHeartbeats 4000000 in
set_option maxRecDepth 100000 in
theorem kX6_append_b1 (g : GT) (a : Nat → Nat) (z hi tx ai pa tu pt ke : Nat → Int32) (st le th re nu du : Int32) (ha : Int64) (v : Int32) (h0 : wi v 33 126 = false) : UC g yX6_append wsX6_append rmX6_append_b1 [.ref (a 0), .int v] (MW g a z hi tx ai pa tu pt ke st le th re nu du ha) (Qf (some (.int 0)) (MW g a z hi tx ai pa tu pt ke st le 1 re nu du ha)) := by
  refine UC.ofV (cc := cX6_append) (maxL := 2) (ret := some .int) (lv0 := [(0, .ref (a 0)), (1, .int v)]) (by decide) rfl (Nat.le_of_ble_eq_true rfl) rfl ?_
  generalize hQF : QFr g rmX6_append_b1 (Qf (some (.int 0)) (MW g a z hi tx ai pa tu pt ke st le 1 re nu du ha)) = QF
  have hq : QFok g rmX6_append_b1 (Qf (some (.int 0)) (MW g a z hi tx ai pa tu pt ke st le 1 re nu du ha)) QF := hQF ▸ QFr.q
  refine V.aload_n 0 rfl dX6_append_0 rfl ?_
  refine V.iload_n 1 rfl dX6_append_1 rfl ?_
  refine V.bipush (v := 33) dX6_append_2 (by decide) ?_
  refine V.bipush (v := 126) dX6_append_4 (by decide) ?_
  refine V.callSf (ws2 := MW g a z hi tx ai pa tu pt ke st le th re nu du ha) (st2 := [.int (bi (wi v (33 : Int32) (126 : Int32))), .ref (a 0)]) [.int v, .int 33, .int 126] [.ref (a 0)] (kX6_within g v (33 : Int32) (126 : Int32) ) gX6_append_X6_within rfl (by show _ ∧ _ ∧ _ = some (3 : Nat); decide +kernel) ⟨Nat.le_of_ble_eq_true rfl, Nat.le_of_ble_eq_true rfl⟩ [] (by decide) rfl rfl (Nat.le_of_ble_eq_true rfl) ⟨Nat.le_of_ble_eq_true rfl, Nat.le_of_ble_eq_true rfl⟩ dX6_append_6 rfl (List.append_nil _) rfl rfl rfl ?_
  rw [h0]
  refine V.if_ne_f (tgt := 16) (by decide) dX6_append_9 (by decide) ?_
  refine V.iconst (v := 1) dX6_append_12 (by decide) ?_
  refine V.goto (tgt := 30) dX6_append_13 (by decide) ?_
  refine V.put (v := .int 1) (ws2 := MW g a z hi tx ai pa tu pt ke st le 1 re nu du ha) (fun w H => List.mem_cons_of_mem _ (List.mem_append_right _ H)) tyX6 tyX6_ok nmX6 (hc := (rfl : vwCl[6]? = some (RX6, TX6, 15))) 0 5 (by decide) (List.mem_of_getElem? (i := 2) rfl) rfl rfl (tyX6_ok 5 (by decide)) rfl rfl (Nat.le_of_ble_eq_true rfl) rfl dX6_append_30 ?_
  refine V.aload_n 0 rfl dX6_append_33 rfl ?_
  refine V.get (v := .int 1) (fun w H => List.mem_cons_of_mem _ (List.mem_append_right _ H)) (hc := (rfl : vwCl[6]? = some (RX6, TX6, 15))) 0 5 (by decide) (List.mem_of_getElem? (i := 2) rfl) rfl rfl dX6_append_34 ?_
  refine V.if_le_f (tgt := 42) (by decide) dX6_append_37 (by decide) ?_
  refine V.iconst (v := 0) dX6_append_40 (by decide) ?_
  exact V.iret hq XM.r (Nat.le_of_ble_eq_true rfl) (Nat.le_of_ble_eq_true rfl) ⟨rfl, rfl⟩ dX6_append_41
abbrev rmX6_append_b2 : Room := { frames := 1, cells := 0, slots := 0, locals := 22 }
set_option maxHeartbeats 4000000 in
set_option maxRecDepth 100000 in
theorem kX6_append_b2 (g : GT) (a : Nat → Nat) (z hi tx ai pa tu pt ke : Nat → Int32) (st th re nu du : Int32) (ha : Int64) (v : Int32) (ln : Nat) (h0 : wi v 33 126 = true) (hl : ln = 60) : UC g yX6_append wsX6_append rmX6_append_b2 [.ref (a 0), .int v] (MW g a z hi tx ai pa tu pt ke st (nI ln) th re nu du ha) (Qf (some (.int 0)) (MW g a z hi tx ai pa tu pt ke st (nI ln) 2 re nu du ha)) := by
  refine UC.ofV (cc := cX6_append) (maxL := 2) (ret := some .int) (lv0 := [(0, .ref (a 0)), (1, .int v)]) (by decide) rfl (Nat.le_of_ble_eq_true rfl) rfl ?_
  generalize hQF : QFr g rmX6_append_b2 (Qf (some (.int 0)) (MW g a z hi tx ai pa tu pt ke st (nI ln) 2 re nu du ha)) = QF
  have hq : QFok g rmX6_append_b2 (Qf (some (.int 0)) (MW g a z hi tx ai pa tu pt ke st (nI ln) 2 re nu du ha)) QF := hQF ▸ QFr.q
  refine V.aload_n 0 rfl dX6_append_0 rfl ?_
  refine V.iload_n 1 rfl dX6_append_1 rfl ?_
  refine V.bipush (v := 33) dX6_append_2 (by decide) ?_
  refine V.bipush (v := 126) dX6_append_4 (by decide) ?_
  refine V.callSf (ws2 := MW g a z hi tx ai pa tu pt ke st (nI ln) th re nu du ha) (st2 := [.int (bi (wi v (33 : Int32) (126 : Int32))), .ref (a 0)]) [.int v, .int 33, .int 126] [.ref (a 0)] (kX6_within g v (33 : Int32) (126 : Int32) ) gX6_append_X6_within rfl (by show _ ∧ _ ∧ _ = some (3 : Nat); decide +kernel) ⟨Nat.le_of_ble_eq_true rfl, Nat.le_of_ble_eq_true rfl⟩ [] (by decide) rfl rfl (Nat.le_of_ble_eq_true rfl) ⟨Nat.le_of_ble_eq_true rfl, Nat.le_of_ble_eq_true rfl⟩ dX6_append_6 rfl (List.append_nil _) rfl rfl rfl ?_
  rw [h0]
  refine V.if_ne_t (tgt := 16) (by decide) dX6_append_9 (by decide) ?_
  refine V.aload_n 0 rfl dX6_append_16 rfl ?_
  refine V.get (v := .int (nI ln)) (fun w H => List.mem_cons_of_mem _ (List.mem_append_right _ H)) (hc := (rfl : vwCl[6]? = some (RX6, TX6, 15))) 0 3 (by decide) (List.mem_of_getElem? (i := 1) rfl) rfl rfl dX6_append_17 ?_
  refine V.bipush (v := 60) dX6_append_20 (by decide) ?_
  refine V.icmp_ne_f (tgt := 29) (by rw [hl]; rfl) dX6_append_22 (by decide) ?_
  refine V.iconst (v := 2) dX6_append_25 (by decide) ?_
  refine V.goto (tgt := 30) dX6_append_26 (by decide) ?_
  refine V.put (v := .int 2) (ws2 := MW g a z hi tx ai pa tu pt ke st (nI ln) 2 re nu du ha) (fun w H => List.mem_cons_of_mem _ (List.mem_append_right _ H)) tyX6 tyX6_ok nmX6 (hc := (rfl : vwCl[6]? = some (RX6, TX6, 15))) 0 5 (by decide) (List.mem_of_getElem? (i := 2) rfl) rfl rfl (tyX6_ok 5 (by decide)) rfl rfl (Nat.le_of_ble_eq_true rfl) rfl dX6_append_30 ?_
  refine V.aload_n 0 rfl dX6_append_33 rfl ?_
  refine V.get (v := .int 2) (fun w H => List.mem_cons_of_mem _ (List.mem_append_right _ H)) (hc := (rfl : vwCl[6]? = some (RX6, TX6, 15))) 0 5 (by decide) (List.mem_of_getElem? (i := 2) rfl) rfl rfl dX6_append_34 ?_
  refine V.if_le_f (tgt := 42) (by decide) dX6_append_37 (by decide) ?_
  refine V.iconst (v := 0) dX6_append_40 (by decide) ?_
  exact V.iret hq XM.r (Nat.le_of_ble_eq_true rfl) (Nat.le_of_ble_eq_true rfl) ⟨rfl, rfl⟩ dX6_append_41
abbrev rmX6_append_ok : Room := { frames := 1, cells := 0, slots := 0, locals := 22 }
set_option maxHeartbeats 4000000 in
set_option maxRecDepth 100000 in
theorem kX6_append_ok (g : GT) (a : Nat → Nat) (z hi tx ai pa tu pt ke : Nat → Int32) (st th re nu du : Int32) (ha : Int64) (v : Int32) (ln : Nat) (h0 : wi v 33 126 = true) (hl : ln < 60) : UC g yX6_append wsX6_append rmX6_append_ok [.ref (a 0), .int v] (MW g a z hi tx ai pa tu pt ke st (nI ln) th re nu du ha) (Qf (some (.int (nI (ln + 1)))) (MW g a z hi (upd tx ln v) ai pa tu pt ke st (nI (ln + 1)) 0 re nu du ha)) := by
  refine UC.ofV (cc := cX6_append) (maxL := 2) (ret := some .int) (lv0 := [(0, .ref (a 0)), (1, .int v)]) (by decide) rfl (Nat.le_of_ble_eq_true rfl) rfl ?_
  generalize hQF : QFr g rmX6_append_ok (Qf (some (.int (nI (ln + 1)))) (MW g a z hi (upd tx ln v) ai pa tu pt ke st (nI (ln + 1)) 0 re nu du ha)) = QF
  have hq : QFok g rmX6_append_ok (Qf (some (.int (nI (ln + 1)))) (MW g a z hi (upd tx ln v) ai pa tu pt ke st (nI (ln + 1)) 0 re nu du ha)) QF := hQF ▸ QFr.q
  refine V.aload_n 0 rfl dX6_append_0 rfl ?_
  refine V.iload_n 1 rfl dX6_append_1 rfl ?_
  refine V.bipush (v := 33) dX6_append_2 (by decide) ?_
  refine V.bipush (v := 126) dX6_append_4 (by decide) ?_
  refine V.callSf (ws2 := MW g a z hi tx ai pa tu pt ke st (nI ln) th re nu du ha) (st2 := [.int (bi (wi v (33 : Int32) (126 : Int32))), .ref (a 0)]) [.int v, .int 33, .int 126] [.ref (a 0)] (kX6_within g v (33 : Int32) (126 : Int32) ) gX6_append_X6_within rfl (by show _ ∧ _ ∧ _ = some (3 : Nat); decide +kernel) ⟨Nat.le_of_ble_eq_true rfl, Nat.le_of_ble_eq_true rfl⟩ [] (by decide) rfl rfl (Nat.le_of_ble_eq_true rfl) ⟨Nat.le_of_ble_eq_true rfl, Nat.le_of_ble_eq_true rfl⟩ dX6_append_6 rfl (List.append_nil _) rfl rfl rfl ?_
  rw [h0]
  refine V.if_ne_t (tgt := 16) (by decide) dX6_append_9 (by decide) ?_
  refine V.aload_n 0 rfl dX6_append_16 rfl ?_
  refine V.get (v := .int (nI ln)) (fun w H => List.mem_cons_of_mem _ (List.mem_append_right _ H)) (hc := (rfl : vwCl[6]? = some (RX6, TX6, 15))) 0 3 (by decide) (List.mem_of_getElem? (i := 1) rfl) rfl rfl dX6_append_17 ?_
  refine V.bipush (v := 60) dX6_append_20 (by decide) ?_
  refine V.icmp_ne_t (tgt := 29) (fun e => absurd ((nI_eq (a := ln) (b := 60) (by omega) (by decide)).mp e) (by omega)) dX6_append_22 (by decide) ?_
  refine V.iconst (v := 0) dX6_append_29 (by decide) ?_
  refine V.put (v := .int 0) (ws2 := MW g a z hi tx ai pa tu pt ke st (nI ln) 0 re nu du ha) (fun w H => List.mem_cons_of_mem _ (List.mem_append_right _ H)) tyX6 tyX6_ok nmX6 (hc := (rfl : vwCl[6]? = some (RX6, TX6, 15))) 0 5 (by decide) (List.mem_of_getElem? (i := 2) rfl) rfl rfl (tyX6_ok 5 (by decide)) rfl rfl (Nat.le_of_ble_eq_true rfl) rfl dX6_append_30 ?_
  refine V.aload_n 0 rfl dX6_append_33 rfl ?_
  refine V.get (v := .int 0) (fun w H => List.mem_cons_of_mem _ (List.mem_append_right _ H)) (hc := (rfl : vwCl[6]? = some (RX6, TX6, 15))) 0 5 (by decide) (List.mem_of_getElem? (i := 2) rfl) rfl rfl dX6_append_34 ?_
  refine V.if_le_t (tgt := 42) (by decide) dX6_append_37 (by decide) ?_
  refine V.aload_n 0 rfl dX6_append_42 rfl ?_
  refine V.get (v := .ref (a 3)) (fun w H => List.mem_cons_of_mem _ (List.mem_append_right _ H)) (hc := (rfl : vwCl[6]? = some (RX6, TX6, 15))) 0 4 (by decide) (List.mem_of_getElem? (i := 3) rfl) rfl rfl dX6_append_43 ?_
  refine V.aload_n 0 rfl dX6_append_46 rfl ?_
  refine V.get (v := .int (nI ln)) (fun w H => List.mem_cons_of_mem _ (List.mem_append_right _ H)) (hc := (rfl : vwCl[6]? = some (RX6, TX6, 15))) 0 3 (by decide) (List.mem_of_getElem? (i := 1) rfl) rfl rfl dX6_append_47 ?_
  refine V.iload_n 1 rfl dX6_append_50 rfl ?_
  refine V.iast (f := tx) (ws2 := MW g a z hi (upd tx ln v) ai pa tu pt ke st (nI ln) 0 re nu du ha) 3 ln rfl rfl (by omega) (by decide) rfl dX6_append_51 ?_
  refine V.aload_n 0 rfl dX6_append_52 rfl ?_
  refine V.dup dX6_append_53 rfl ?_
  refine V.get (v := .int (nI ln)) (fun w H => List.mem_cons_of_mem _ (List.mem_append_right _ H)) (hc := (rfl : vwCl[6]? = some (RX6, TX6, 15))) 0 3 (by decide) (List.mem_of_getElem? (i := 1) rfl) rfl rfl dX6_append_54 ?_
  refine V.iconst (v := 1) dX6_append_57 (by decide) ?_
  refine V.iaddN (v := nI (ln + 1)) dX6_append_58 (nI_add ln 1) ?_
  refine V.put (v := .int (nI (ln + 1))) (ws2 := MW g a z hi (upd tx ln v) ai pa tu pt ke st (nI (ln + 1)) 0 re nu du ha) (fun w H => List.mem_cons_of_mem _ (List.mem_append_right _ H)) tyX6 tyX6_ok nmX6 (hc := (rfl : vwCl[6]? = some (RX6, TX6, 15))) 0 3 (by decide) (List.mem_of_getElem? (i := 1) rfl) rfl rfl (tyX6_ok 3 (by decide)) rfl rfl (Nat.le_of_ble_eq_true rfl) rfl dX6_append_59 ?_
  refine V.aload_n 0 rfl dX6_append_62 rfl ?_
  refine V.get (v := .int (nI (ln + 1))) (fun w H => List.mem_cons_of_mem _ (List.mem_append_right _ H)) (hc := (rfl : vwCl[6]? = some (RX6, TX6, 15))) 0 3 (by decide) (List.mem_of_getElem? (i := 1) rfl) rfl rfl dX6_append_63 ?_
  exact V.iret hq XM.r (Nat.le_of_ble_eq_true rfl) (Nat.le_of_ble_eq_true rfl) ⟨rfl, rfl⟩ dX6_append_66
abbrev rmX6_clearBuffer : Room := { frames := 0, cells := 0, slots := 0, locals := 0 }
set_option maxHeartbeats 4000000 in
set_option maxRecDepth 100000 in
theorem kX6_clearBuffer (g : GT) (a : Nat → Nat) (z hi tx ai pa tu pt ke : Nat → Int32) (st th re nu du : Int32) (ha : Int64) (ln : Nat) : UC g yX6_clearBuffer wsX6_clearBuffer rmX6_clearBuffer [.ref (a 0)] (MW g a z hi tx ai pa tu pt ke st (nI ln) th re nu du ha) (Qf (some (.int (nI ln))) (MW g a z hi tx ai pa tu pt ke st 0 0 re nu du ha)) := by
  refine UC.ofV (cc := cX6_clearBuffer) (maxL := 2) (ret := some .int) (lv0 := [(0, .ref (a 0))]) (by decide) rfl (Nat.le_of_ble_eq_true rfl) rfl ?_
  generalize hQF : QFr g rmX6_clearBuffer (Qf (some (.int (nI ln))) (MW g a z hi tx ai pa tu pt ke st 0 0 re nu du ha)) = QF
  have hq : QFok g rmX6_clearBuffer (Qf (some (.int (nI ln))) (MW g a z hi tx ai pa tu pt ke st 0 0 re nu du ha)) QF := hQF ▸ QFr.q
  refine V.aload_n 0 rfl dX6_clearBuffer_0 rfl ?_
  refine V.iconst (v := 0) dX6_clearBuffer_1 (by decide) ?_
  refine V.put (v := .int 0) (ws2 := MW g a z hi tx ai pa tu pt ke st (nI ln) 0 re nu du ha) (fun w H => List.mem_cons_of_mem _ (List.mem_append_right _ H)) tyX6 tyX6_ok nmX6 (hc := (rfl : vwCl[6]? = some (RX6, TX6, 15))) 0 5 (by decide) (List.mem_of_getElem? (i := 1) rfl) rfl rfl (tyX6_ok 5 (by decide)) rfl rfl (Nat.le_of_ble_eq_true rfl) rfl dX6_clearBuffer_2 ?_
  refine V.aload_n 0 rfl dX6_clearBuffer_5 rfl ?_
  refine V.get (v := .int (nI ln)) (fun w H => List.mem_cons_of_mem _ (List.mem_append_right _ H)) (hc := (rfl : vwCl[6]? = some (RX6, TX6, 15))) 0 3 (by decide) (List.mem_of_getElem? (i := 2) rfl) rfl rfl dX6_clearBuffer_6 ?_
  refine V.istore_n (lv2 := [(1, .int (nI ln)), (0, .ref (a 0))]) dX6_clearBuffer_9 rfl (by decide) rfl ?_
  refine V.aload_n 1 rfl dX6_clearBuffer_10 rfl ?_
  refine V.iconst (v := 0) dX6_clearBuffer_11 (by decide) ?_
  refine V.put (v := .int 0) (ws2 := MW g a z hi tx ai pa tu pt ke st 0 0 re nu du ha) (fun w H => List.mem_cons_of_mem _ (List.mem_append_right _ H)) tyX6 tyX6_ok nmX6 (hc := (rfl : vwCl[6]? = some (RX6, TX6, 15))) 0 3 (by decide) (List.mem_of_getElem? (i := 2) rfl) rfl rfl (tyX6_ok 3 (by decide)) rfl rfl (Nat.le_of_ble_eq_true rfl) rfl dX6_clearBuffer_12 ?_
  refine V.iload_n 0 rfl dX6_clearBuffer_15 rfl ?_
  exact V.iret hq XM.r (Nat.le_of_ble_eq_true rfl) (Nat.le_of_ble_eq_true rfl) ⟨rfl, rfl⟩ dX6_clearBuffer_16
abbrev rmX6_undo_b1 : Room := { frames := 0, cells := 0, slots := 0, locals := 0 }
set_option maxHeartbeats 4000000 in
set_option maxRecDepth 100000 in
theorem kX6_undo_b1 (g : GT) (a : Nat → Nat) (z hi tx ai pa tu pt ke : Nat → Int32) (le th re nu du : Int32) (ha : Int64) (sn : Nat) (hs : sn = 0) : UC g yX6_undo wsX6_undo rmX6_undo_b1 [.ref (a 0)] (MW g a z hi tx ai pa tu pt ke (nI sn) le th re nu du ha) (Qf (some (.int 0)) (MW g a z hi tx ai pa tu pt ke (nI sn) le 1 re nu du ha)) := by
  refine UC.ofV (cc := cX6_undo) (maxL := 2) (ret := some .int) (lv0 := [(0, .ref (a 0))]) (by decide) rfl (Nat.le_of_ble_eq_true rfl) rfl ?_
  generalize hQF : QFr g rmX6_undo_b1 (Qf (some (.int 0)) (MW g a z hi tx ai pa tu pt ke (nI sn) le 1 re nu du ha)) = QF
  have hq : QFok g rmX6_undo_b1 (Qf (some (.int 0)) (MW g a z hi tx ai pa tu pt ke (nI sn) le 1 re nu du ha)) QF := hQF ▸ QFr.q
  refine V.aload_n 0 rfl dX6_undo_0 rfl ?_
  refine V.aload_n 0 rfl dX6_undo_1 rfl ?_
  refine V.get (v := .int (nI sn)) (fun w H => List.mem_cons_of_mem _ (List.mem_append_right _ H)) (hc := (rfl : vwCl[6]? = some (RX6, TX6, 15))) 0 1 (by decide) (List.mem_of_getElem? (i := 1) rfl) rfl rfl dX6_undo_2 ?_
  refine V.if_le_t (tgt := 12) (by rw [hs]; decide) dX6_undo_5 (by decide) ?_
  refine V.iconst (v := 1) dX6_undo_12 (by decide) ?_
  refine V.put (v := .int 1) (ws2 := MW g a z hi tx ai pa tu pt ke (nI sn) le 1 re nu du ha) (fun w H => List.mem_cons_of_mem _ (List.mem_append_right _ H)) tyX6 tyX6_ok nmX6 (hc := (rfl : vwCl[6]? = some (RX6, TX6, 15))) 0 5 (by decide) (List.mem_of_getElem? (i := 2) rfl) rfl rfl (tyX6_ok 5 (by decide)) rfl rfl (Nat.le_of_ble_eq_true rfl) rfl dX6_undo_13 ?_
  refine V.aload_n 0 rfl dX6_undo_16 rfl ?_
  refine V.get (v := .int 1) (fun w H => List.mem_cons_of_mem _ (List.mem_append_right _ H)) (hc := (rfl : vwCl[6]? = some (RX6, TX6, 15))) 0 5 (by decide) (List.mem_of_getElem? (i := 2) rfl) rfl rfl dX6_undo_17 ?_
  refine V.if_le_f (tgt := 25) (by decide) dX6_undo_20 (by decide) ?_
  refine V.iconst (v := 0) dX6_undo_23 (by decide) ?_
  exact V.iret hq XM.r (Nat.le_of_ble_eq_true rfl) (Nat.le_of_ble_eq_true rfl) ⟨rfl, rfl⟩ dX6_undo_24
abbrev rmX6_undo_ok : Room := { frames := 0, cells := 0, slots := 0, locals := 0 }
set_option maxHeartbeats 4000000 in
set_option maxRecDepth 100000 in
theorem kX6_undo_ok (g : GT) (a : Nat → Nat) (z hi tx ai pa tu pt ke : Nat → Int32) (le th re nu du : Int32) (ha : Int64) (sn : Nat) (hs0 : 0 < sn) (hs : sn ≤ 6) : UC g yX6_undo wsX6_undo rmX6_undo_ok [.ref (a 0)] (MW g a z hi tx ai pa tu pt ke (nI sn) le th re nu du ha) (Qf (some (.int (nI (sn - 1)))) (MW g a (udZ (sn - 1) hi z) hi tx ai pa tu pt ke (nI (sn - 1)) le 0 re nu du ha)) := by
  refine UC.ofV (cc := cX6_undo) (maxL := 2) (ret := some .int) (lv0 := [(0, .ref (a 0))]) (by decide) rfl (Nat.le_of_ble_eq_true rfl) rfl ?_
  generalize hQF : QFr g rmX6_undo_ok (Qf (some (.int (nI (sn - 1)))) (MW g a (udZ (sn - 1) hi z) hi tx ai pa tu pt ke (nI (sn - 1)) le 0 re nu du ha)) = QF
  have hq : QFok g rmX6_undo_ok (Qf (some (.int (nI (sn - 1)))) (MW g a (udZ (sn - 1) hi z) hi tx ai pa tu pt ke (nI (sn - 1)) le 0 re nu du ha)) QF := hQF ▸ QFr.q
  refine V.aload_n 0 rfl dX6_undo_0 rfl ?_
  refine V.aload_n 0 rfl dX6_undo_1 rfl ?_
  refine V.get (v := .int (nI sn)) (fun w H => List.mem_cons_of_mem _ (List.mem_append_right _ H)) (hc := (rfl : vwCl[6]? = some (RX6, TX6, 15))) 0 1 (by decide) (List.mem_of_getElem? (i := 1) rfl) rfl rfl dX6_undo_2 ?_
  refine V.if_le_f (tgt := 12) (nI_nle (by omega) (by omega)) dX6_undo_5 (by decide) ?_
  refine V.iconst (v := 0) dX6_undo_8 (by decide) ?_
  refine V.goto (tgt := 13) dX6_undo_9 (by decide) ?_
  refine V.put (v := .int 0) (ws2 := MW g a z hi tx ai pa tu pt ke (nI sn) le 0 re nu du ha) (fun w H => List.mem_cons_of_mem _ (List.mem_append_right _ H)) tyX6 tyX6_ok nmX6 (hc := (rfl : vwCl[6]? = some (RX6, TX6, 15))) 0 5 (by decide) (List.mem_of_getElem? (i := 2) rfl) rfl rfl (tyX6_ok 5 (by decide)) rfl rfl (Nat.le_of_ble_eq_true rfl) rfl dX6_undo_13 ?_
  refine V.aload_n 0 rfl dX6_undo_16 rfl ?_
  refine V.get (v := .int 0) (fun w H => List.mem_cons_of_mem _ (List.mem_append_right _ H)) (hc := (rfl : vwCl[6]? = some (RX6, TX6, 15))) 0 5 (by decide) (List.mem_of_getElem? (i := 2) rfl) rfl rfl dX6_undo_17 ?_
  refine V.if_le_t (tgt := 25) (by decide) dX6_undo_20 (by decide) ?_
  refine V.aload_n 0 rfl dX6_undo_25 rfl ?_
  refine V.dup dX6_undo_26 rfl ?_
  refine V.get (v := .int (nI sn)) (fun w H => List.mem_cons_of_mem _ (List.mem_append_right _ H)) (hc := (rfl : vwCl[6]? = some (RX6, TX6, 15))) 0 1 (by decide) (List.mem_of_getElem? (i := 1) rfl) rfl rfl dX6_undo_27 ?_
  refine V.iconst (v := 1) dX6_undo_30 (by decide) ?_
  refine V.isubN (v := nI (sn - 1)) dX6_undo_31 (pk_sub (a := sn) (b := 1) (by omega)) ?_
  refine V.put (v := .int (nI (sn - 1))) (ws2 := MW g a z hi tx ai pa tu pt ke (nI (sn - 1)) le 0 re nu du ha) (fun w H => List.mem_cons_of_mem _ (List.mem_append_right _ H)) tyX6 tyX6_ok nmX6 (hc := (rfl : vwCl[6]? = some (RX6, TX6, 15))) 0 1 (by decide) (List.mem_of_getElem? (i := 1) rfl) rfl rfl (tyX6_ok 1 (by decide)) rfl rfl (Nat.le_of_ble_eq_true rfl) rfl dX6_undo_32 ?_
  refine V.iconst (v := 0) dX6_undo_35 (by decide) ?_
  refine V.istore_n (lv2 := [(1, .int 0), (0, .ref (a 0))]) dX6_undo_36 rfl (by decide) rfl ?_
  have L37 : ∀ (kL : Nat) (i : Nat) (y : Nat → Int32), i + kL = 248 → (fu (udF (sn - 1) hi) i kL y = udZ (sn - 1) hi z) → V g rmX6_undo_ok RX6 cX6_undo wsX6_undo 2 QF (XM (some .int) "undo") 0 0 (MW g a y hi tx ai pa tu pt ke (nI (sn - 1)) le 0 re nu du ha) 37 [(1, .int (nI i)), (0, .ref (a 0))] [] := by
    intro kL
    induction kL with
    | zero =>
      intro i y hrel hfu
      rw [fu_0] at hfu
      refine V.iload_n 0 rfl dX6_undo_37 rfl ?_
      refine V.sipush (v := 248) dX6_undo_38 (by decide) ?_
      refine V.icmp_ge_t (tgt := 71) (by rw [show i = 248 from by omega]; decide) dX6_undo_41 (by decide) ?_
      refine V.aload_n 1 rfl dX6_undo_71 rfl ?_
      refine V.get (v := .int (nI (sn - 1))) (fun w H => List.mem_cons_of_mem _ (List.mem_append_right _ H)) (hc := (rfl : vwCl[6]? = some (RX6, TX6, 15))) 0 1 (by decide) (List.mem_of_getElem? (i := 1) rfl) rfl rfl dX6_undo_72 ?_
      exact V.iret hq XM.r (Nat.le_of_ble_eq_true rfl) (Nat.le_of_ble_eq_true rfl) ⟨rfl, by rw [← hfu] <;> rfl⟩ dX6_undo_75
    | succ kL ih =>
      intro i y hrel hfu
      rw [fu_s] at hfu
      refine V.iload_n 0 rfl dX6_undo_37 rfl ?_
      refine V.sipush (v := 248) dX6_undo_38 (by decide) ?_
      refine V.icmp_ge_f (tgt := 71) (by exact nI_ge (a := i) (b := 248) (by omega) (by decide)) dX6_undo_41 (by decide) ?_
      refine V.aload_n 1 rfl dX6_undo_44 rfl ?_
      refine V.get (v := .ref (a 1)) (fun w H => List.mem_cons_of_mem _ (List.mem_append_right _ H)) (hc := (rfl : vwCl[6]? = some (RX6, TX6, 15))) 0 0 (by decide) (List.mem_of_getElem? (i := 3) rfl) rfl rfl dX6_undo_45 ?_
      refine V.iload_n 0 rfl dX6_undo_48 rfl ?_
      refine V.aload_n 1 rfl dX6_undo_49 rfl ?_
      refine V.get (v := .ref (a 2)) (fun w H => List.mem_cons_of_mem _ (List.mem_append_right _ H)) (hc := (rfl : vwCl[6]? = some (RX6, TX6, 15))) 0 2 (by decide) (List.mem_of_getElem? (i := 4) rfl) rfl rfl dX6_undo_50 ?_
      refine V.sipush (v := 248) dX6_undo_53 (by decide) ?_
      refine V.aload_n 1 rfl dX6_undo_56 rfl ?_
      refine V.get (v := .int (nI (sn - 1))) (fun w H => List.mem_cons_of_mem _ (List.mem_append_right _ H)) (hc := (rfl : vwCl[6]? = some (RX6, TX6, 15))) 0 1 (by decide) (List.mem_of_getElem? (i := 1) rfl) rfl rfl dX6_undo_57 ?_
      refine V.imulN (v := nI (248 * (sn - 1))) dX6_undo_60 (pk_mul 248 (sn - 1)) ?_
      refine V.iload_n 0 rfl dX6_undo_61 rfl ?_
      refine V.iaddN (v := nI (248 * (sn - 1) + i)) dX6_undo_62 (nI_add (248 * (sn - 1)) i) ?_
      refine V.iald (f := hi) 2 (248 * (sn - 1) + i) rfl rfl (by omega) (by decide) dX6_undo_63 ?_
      refine V.iast (f := y) (ws2 := MW g a (upd y i (hi (248 * (sn - 1) + i))) hi tx ai pa tu pt ke (nI (sn - 1)) le 0 re nu du ha) 1 i rfl rfl (by omega) (by decide) rfl dX6_undo_64 ?_
      refine V.iinc (v := nI (i + 1)) (lv2 := [(1, .int (nI (i + 1))), (0, .ref (a 0))]) 0 rfl dX6_undo_65 (nI_add i 1) (by decide) rfl ?_
      refine V.goto (tgt := 37) dX6_undo_68 (by decide) ?_
      refine V.eqlv (lv2 := [(1, .int (nI (i + 1))), (0, .ref (a 0))]) [0, 1] rfl ?_
      exact ih (i + 1) (udF (sn - 1) hi i y) (by omega) hfu
  refine V.eqlv (lv2 := [(1, .int 0), (0, .ref (a 0))]) [0, 1] rfl ?_
  exact L37 248 0 z (by omega) rfl
