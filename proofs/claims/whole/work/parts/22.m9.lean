def ziA : Nat → Int32 := upd (upd (upd (upd (upd (upd (fun _ => 0) 0 2) 1 20) 2 5) 3 80) 4 50) 8 1
def ziF (k : Nat) (z : Nat → Int32) : Nat → Int32 := upd z (196 + 5 * k + 0) 63
noncomputable def ziZ : Nat → Int32 := fu ziF 0 4 ziA
abbrev rmX6_init : Room := { frames := 1, cells := 8, slots := 2112, locals := 12 }
set_option maxHeartbeats 4000000 in
set_option maxRecDepth 100000 in
theorem kX6_init (g : GT) (o : Nat) : UC g yX6_init wsX6_init rmX6_init [.ref o] ([(o, .inr (6, [.null, .int 0, .null, .int 0, .null, .int 0, .null, .null, .null, .null, .int 0, .int 0, .int 0, .null, .long 0]))]) (fun v w => v = none ∧ ∃ a : Nat → Nat, a 0 = o ∧ w = MW g a ziZ (fun _ => 0) (fun _ => 0) (fun _ => 0) (fun _ => 0) (fun _ => 0) (fun _ => 0) (fun _ => 0) 0 0 0 0 0 0 0) := by
  refine UC.ofV (cc := cX6_init) (maxL := 2) (ret := none) (lv0 := [(0, .ref o)]) (by decide) rfl (Nat.le_of_ble_eq_true rfl) rfl ?_
  generalize hQF : QFr g rmX6_init (fun v w => v = none ∧ ∃ a : Nat → Nat, a 0 = o ∧ w = MW g a ziZ (fun _ => 0) (fun _ => 0) (fun _ => 0) (fun _ => 0) (fun _ => 0) (fun _ => 0) (fun _ => 0) 0 0 0 0 0 0 0) = QF
  have hq : QFok g rmX6_init (fun v w => v = none ∧ ∃ a : Nat → Nat, a 0 = o ∧ w = MW g a ziZ (fun _ => 0) (fun _ => 0) (fun _ => 0) (fun _ => 0) (fun _ => 0) (fun _ => 0) (fun _ => 0) 0 0 0 0 0 0 0) QF := hQF ▸ QFr.q
  refine V.aload_n 0 rfl dX6_init_0 rfl ?_
  refine V.objInit (by decide +kernel) (by decide +kernel) (by decide +kernel) (Nat.le_of_ble_eq_true rfl) (Nat.le_of_ble_eq_true rfl) dX6_init_1 ?_
  refine V.aload_n 0 rfl dX6_init_4 rfl ?_
  refine V.sipush (v := 248) dX6_init_5 (by decide) ?_
  refine V.newa (ty := .int) (len := 248) (t := 0) (a0 := (248, .inl (fun _ => 0))) (by decide +kernel) rfl rfl (by decide) (fun _ => rfl) (by decide) (by decide) (by decide) (Nat.le_of_ble_eq_true rfl) (Nat.le_of_ble_eq_true rfl) dX6_init_8 (fun b1 => ?_)
  refine V.putF (v := .ref b1) (ws2 := [(o, .inr (6, [.ref b1, .int 0, .null, .int 0, .null, .int 0, .null, .null, .null, .null, .int 0, .int 0, .int 0, .null, .long 0])), (b1, .inl (g.2.2 0, 248, .inl (fun _ => 0)))]) (fun w H => List.mem_cons_of_mem _ (List.mem_append_right _ H)) tyX6 tyX6_ok nmX6 (hc := (rfl : vwCl[6]? = some (RX6, TX6, 15))) 0 0 (by decide) (List.mem_of_getElem? (i := 5) rfl) rfl rfl rfl XM.nm (tyX6_ok 0 (by decide)) rfl rfl (Nat.le_of_ble_eq_true rfl) rfl dX6_init_10 ?_
  refine V.aload_n 0 rfl dX6_init_13 rfl ?_
  refine V.sipush (v := 1488) dX6_init_14 (by decide) ?_
  refine V.newa (ty := .int) (len := 1488) (t := 0) (a0 := (1488, .inl (fun _ => 0))) (by decide +kernel) rfl rfl (by decide) (fun _ => rfl) (by decide) (by decide) (by decide) (Nat.le_of_ble_eq_true rfl) (Nat.le_of_ble_eq_true rfl) dX6_init_17 (fun b2 => ?_)
  refine V.putF (v := .ref b2) (ws2 := [(o, .inr (6, [.ref b1, .int 0, .ref b2, .int 0, .null, .int 0, .null, .null, .null, .null, .int 0, .int 0, .int 0, .null, .long 0])), (b1, .inl (g.2.2 0, 248, .inl (fun _ => 0))), (b2, .inl (g.2.2 0, 1488, .inl (fun _ => 0)))]) (fun w H => List.mem_cons_of_mem _ (List.mem_append_right _ H)) tyX6 tyX6_ok nmX6 (hc := (rfl : vwCl[6]? = some (RX6, TX6, 15))) 0 2 (by decide) (List.mem_of_getElem? (i := 6) rfl) rfl rfl rfl XM.nm (tyX6_ok 2 (by decide)) rfl rfl (Nat.le_of_ble_eq_true rfl) rfl dX6_init_19 ?_
  refine V.aload_n 0 rfl dX6_init_22 rfl ?_
  refine V.bipush (v := 60) dX6_init_23 (by decide) ?_
  refine V.newa (ty := .int) (len := 60) (t := 0) (a0 := (60, .inl (fun _ => 0))) (by decide +kernel) rfl rfl (by decide) (fun _ => rfl) (by decide) (by decide) (by decide) (Nat.le_of_ble_eq_true rfl) (Nat.le_of_ble_eq_true rfl) dX6_init_25 (fun b3 => ?_)
  refine V.putF (v := .ref b3) (ws2 := [(o, .inr (6, [.ref b1, .int 0, .ref b2, .int 0, .ref b3, .int 0, .null, .null, .null, .null, .int 0, .int 0, .int 0, .null, .long 0])), (b1, .inl (g.2.2 0, 248, .inl (fun _ => 0))), (b2, .inl (g.2.2 0, 1488, .inl (fun _ => 0))), (b3, .inl (g.2.2 0, 60, .inl (fun _ => 0)))]) (fun w H => List.mem_cons_of_mem _ (List.mem_append_right _ H)) tyX6 tyX6_ok nmX6 (hc := (rfl : vwCl[6]? = some (RX6, TX6, 15))) 0 4 (by decide) (List.mem_of_getElem? (i := 7) rfl) rfl rfl rfl XM.nm (tyX6_ok 4 (by decide)) rfl rfl (Nat.le_of_ble_eq_true rfl) rfl dX6_init_27 ?_
  refine V.aload_n 0 rfl dX6_init_30 rfl ?_
  refine V.iconst (v := 4) dX6_init_31 (by decide) ?_
  refine V.newa (ty := .int) (len := 4) (t := 0) (a0 := (4, .inl (fun _ => 0))) (by decide +kernel) rfl rfl (by decide) (fun _ => rfl) (by decide) (by decide) (by decide) (Nat.le_of_ble_eq_true rfl) (Nat.le_of_ble_eq_true rfl) dX6_init_32 (fun b4 => ?_)
  refine V.putF (v := .ref b4) (ws2 := [(o, .inr (6, [.ref b1, .int 0, .ref b2, .int 0, .ref b3, .int 0, .ref b4, .null, .null, .null, .int 0, .int 0, .int 0, .null, .long 0])), (b1, .inl (g.2.2 0, 248, .inl (fun _ => 0))), (b2, .inl (g.2.2 0, 1488, .inl (fun _ => 0))), (b3, .inl (g.2.2 0, 60, .inl (fun _ => 0))), (b4, .inl (g.2.2 0, 4, .inl (fun _ => 0)))]) (fun w H => List.mem_cons_of_mem _ (List.mem_append_right _ H)) tyX6 tyX6_ok nmX6 (hc := (rfl : vwCl[6]? = some (RX6, TX6, 15))) 0 6 (by decide) (List.mem_of_getElem? (i := 8) rfl) rfl rfl rfl XM.nm (tyX6_ok 6 (by decide)) rfl rfl (Nat.le_of_ble_eq_true rfl) rfl dX6_init_34 ?_
  refine V.aload_n 0 rfl dX6_init_37 rfl ?_
  refine V.iconst (v := 4) dX6_init_38 (by decide) ?_
  refine V.newa (ty := .int) (len := 4) (t := 0) (a0 := (4, .inl (fun _ => 0))) (by decide +kernel) rfl rfl (by decide) (fun _ => rfl) (by decide) (by decide) (by decide) (Nat.le_of_ble_eq_true rfl) (Nat.le_of_ble_eq_true rfl) dX6_init_39 (fun b5 => ?_)
  refine V.putF (v := .ref b5) (ws2 := [(o, .inr (6, [.ref b1, .int 0, .ref b2, .int 0, .ref b3, .int 0, .ref b4, .ref b5, .null, .null, .int 0, .int 0, .int 0, .null, .long 0])), (b1, .inl (g.2.2 0, 248, .inl (fun _ => 0))), (b2, .inl (g.2.2 0, 1488, .inl (fun _ => 0))), (b3, .inl (g.2.2 0, 60, .inl (fun _ => 0))), (b4, .inl (g.2.2 0, 4, .inl (fun _ => 0))), (b5, .inl (g.2.2 0, 4, .inl (fun _ => 0)))]) (fun w H => List.mem_cons_of_mem _ (List.mem_append_right _ H)) tyX6 tyX6_ok nmX6 (hc := (rfl : vwCl[6]? = some (RX6, TX6, 15))) 0 7 (by decide) (List.mem_of_getElem? (i := 9) rfl) rfl rfl rfl XM.nm (tyX6_ok 7 (by decide)) rfl rfl (Nat.le_of_ble_eq_true rfl) rfl dX6_init_41 ?_
  refine V.aload_n 0 rfl dX6_init_44 rfl ?_
  refine V.iconst (v := 4) dX6_init_45 (by decide) ?_
  refine V.newa (ty := .int) (len := 4) (t := 0) (a0 := (4, .inl (fun _ => 0))) (by decide +kernel) rfl rfl (by decide) (fun _ => rfl) (by decide) (by decide) (by decide) (Nat.le_of_ble_eq_true rfl) (Nat.le_of_ble_eq_true rfl) dX6_init_46 (fun b6 => ?_)
  refine V.putF (v := .ref b6) (ws2 := [(o, .inr (6, [.ref b1, .int 0, .ref b2, .int 0, .ref b3, .int 0, .ref b4, .ref b5, .ref b6, .null, .int 0, .int 0, .int 0, .null, .long 0])), (b1, .inl (g.2.2 0, 248, .inl (fun _ => 0))), (b2, .inl (g.2.2 0, 1488, .inl (fun _ => 0))), (b3, .inl (g.2.2 0, 60, .inl (fun _ => 0))), (b4, .inl (g.2.2 0, 4, .inl (fun _ => 0))), (b5, .inl (g.2.2 0, 4, .inl (fun _ => 0))), (b6, .inl (g.2.2 0, 4, .inl (fun _ => 0)))]) (fun w H => List.mem_cons_of_mem _ (List.mem_append_right _ H)) tyX6 tyX6_ok nmX6 (hc := (rfl : vwCl[6]? = some (RX6, TX6, 15))) 0 8 (by decide) (List.mem_of_getElem? (i := 10) rfl) rfl rfl rfl XM.nm (tyX6_ok 8 (by decide)) rfl rfl (Nat.le_of_ble_eq_true rfl) rfl dX6_init_48 ?_
  refine V.aload_n 0 rfl dX6_init_51 rfl ?_
  refine V.bipush (v := 56) dX6_init_52 (by decide) ?_
  refine V.newa (ty := .int) (len := 56) (t := 0) (a0 := (56, .inl (fun _ => 0))) (by decide +kernel) rfl rfl (by decide) (fun _ => rfl) (by decide) (by decide) (by decide) (Nat.le_of_ble_eq_true rfl) (Nat.le_of_ble_eq_true rfl) dX6_init_54 (fun b7 => ?_)
  refine V.putF (v := .ref b7) (ws2 := [(o, .inr (6, [.ref b1, .int 0, .ref b2, .int 0, .ref b3, .int 0, .ref b4, .ref b5, .ref b6, .ref b7, .int 0, .int 0, .int 0, .null, .long 0])), (b1, .inl (g.2.2 0, 248, .inl (fun _ => 0))), (b2, .inl (g.2.2 0, 1488, .inl (fun _ => 0))), (b3, .inl (g.2.2 0, 60, .inl (fun _ => 0))), (b4, .inl (g.2.2 0, 4, .inl (fun _ => 0))), (b5, .inl (g.2.2 0, 4, .inl (fun _ => 0))), (b6, .inl (g.2.2 0, 4, .inl (fun _ => 0))), (b7, .inl (g.2.2 0, 56, .inl (fun _ => 0)))]) (fun w H => List.mem_cons_of_mem _ (List.mem_append_right _ H)) tyX6 tyX6_ok nmX6 (hc := (rfl : vwCl[6]? = some (RX6, TX6, 15))) 0 9 (by decide) (List.mem_of_getElem? (i := 11) rfl) rfl rfl rfl XM.nm (tyX6_ok 9 (by decide)) rfl rfl (Nat.le_of_ble_eq_true rfl) rfl dX6_init_56 ?_
  refine V.aload_n 0 rfl dX6_init_59 rfl ?_
  refine V.sipush (v := 248) dX6_init_60 (by decide) ?_
  refine V.newa (ty := .int) (len := 248) (t := 0) (a0 := (248, .inl (fun _ => 0))) (by decide +kernel) rfl rfl (by decide) (fun _ => rfl) (by decide) (by decide) (by decide) (Nat.le_of_ble_eq_true rfl) (Nat.le_of_ble_eq_true rfl) dX6_init_63 (fun b8 => ?_)
  refine V.putF (v := .ref b8) (ws2 := [(o, .inr (6, [.ref b1, .int 0, .ref b2, .int 0, .ref b3, .int 0, .ref b4, .ref b5, .ref b6, .ref b7, .int 0, .int 0, .int 0, .ref b8, .long 0])), (b1, .inl (g.2.2 0, 248, .inl (fun _ => 0))), (b2, .inl (g.2.2 0, 1488, .inl (fun _ => 0))), (b3, .inl (g.2.2 0, 60, .inl (fun _ => 0))), (b4, .inl (g.2.2 0, 4, .inl (fun _ => 0))), (b5, .inl (g.2.2 0, 4, .inl (fun _ => 0))), (b6, .inl (g.2.2 0, 4, .inl (fun _ => 0))), (b7, .inl (g.2.2 0, 56, .inl (fun _ => 0))), (b8, .inl (g.2.2 0, 248, .inl (fun _ => 0)))]) (fun w H => List.mem_cons_of_mem _ (List.mem_append_right _ H)) tyX6 tyX6_ok nmX6 (hc := (rfl : vwCl[6]? = some (RX6, TX6, 15))) 0 13 (by decide) (List.mem_of_getElem? (i := 12) rfl) rfl rfl rfl XM.nm (tyX6_ok 13 (by decide)) rfl rfl (Nat.le_of_ble_eq_true rfl) rfl dX6_init_65 ?_
  refine V.aload_n 0 rfl dX6_init_68 rfl ?_
  refine V.get (v := .ref b1) (fun w H => List.mem_cons_of_mem _ (List.mem_append_right _ H)) (hc := (rfl : vwCl[6]? = some (RX6, TX6, 15))) 0 0 (by decide) (List.mem_of_getElem? (i := 5) rfl) rfl rfl dX6_init_69 ?_
  refine V.iconst (v := 0) dX6_init_72 (by decide) ?_
  refine V.iconst (v := 2) dX6_init_73 (by decide) ?_
  refine V.iast (f := fun _ => 0) (ws2 := [(o, .inr (6, [.ref b1, .int 0, .ref b2, .int 0, .ref b3, .int 0, .ref b4, .ref b5, .ref b6, .ref b7, .int 0, .int 0, .int 0, .ref b8, .long 0])), (b1, .inl (g.2.2 0, 248, .inl (upd (fun _ => 0) 0 2))), (b2, .inl (g.2.2 0, 1488, .inl (fun _ => 0))), (b3, .inl (g.2.2 0, 60, .inl (fun _ => 0))), (b4, .inl (g.2.2 0, 4, .inl (fun _ => 0))), (b5, .inl (g.2.2 0, 4, .inl (fun _ => 0))), (b6, .inl (g.2.2 0, 4, .inl (fun _ => 0))), (b7, .inl (g.2.2 0, 56, .inl (fun _ => 0))), (b8, .inl (g.2.2 0, 248, .inl (fun _ => 0)))]) 1 0 rfl rfl (by decide) (by decide) rfl dX6_init_74 ?_
  refine V.aload_n 0 rfl dX6_init_75 rfl ?_
  refine V.get (v := .ref b1) (fun w H => List.mem_cons_of_mem _ (List.mem_append_right _ H)) (hc := (rfl : vwCl[6]? = some (RX6, TX6, 15))) 0 0 (by decide) (List.mem_of_getElem? (i := 5) rfl) rfl rfl dX6_init_76 ?_
  refine V.iconst (v := 1) dX6_init_79 (by decide) ?_
  refine V.bipush (v := 20) dX6_init_80 (by decide) ?_
  refine V.iast (f := upd (fun _ => 0) 0 2) (ws2 := [(o, .inr (6, [.ref b1, .int 0, .ref b2, .int 0, .ref b3, .int 0, .ref b4, .ref b5, .ref b6, .ref b7, .int 0, .int 0, .int 0, .ref b8, .long 0])), (b1, .inl (g.2.2 0, 248, .inl (upd (upd (fun _ => 0) 0 2) 1 20))), (b2, .inl (g.2.2 0, 1488, .inl (fun _ => 0))), (b3, .inl (g.2.2 0, 60, .inl (fun _ => 0))), (b4, .inl (g.2.2 0, 4, .inl (fun _ => 0))), (b5, .inl (g.2.2 0, 4, .inl (fun _ => 0))), (b6, .inl (g.2.2 0, 4, .inl (fun _ => 0))), (b7, .inl (g.2.2 0, 56, .inl (fun _ => 0))), (b8, .inl (g.2.2 0, 248, .inl (fun _ => 0)))]) 1 1 rfl rfl (by decide) (by decide) rfl dX6_init_82 ?_
  refine V.aload_n 0 rfl dX6_init_83 rfl ?_
  refine V.get (v := .ref b1) (fun w H => List.mem_cons_of_mem _ (List.mem_append_right _ H)) (hc := (rfl : vwCl[6]? = some (RX6, TX6, 15))) 0 0 (by decide) (List.mem_of_getElem? (i := 5) rfl) rfl rfl dX6_init_84 ?_
  refine V.iconst (v := 2) dX6_init_87 (by decide) ?_
  refine V.iconst (v := 5) dX6_init_88 (by decide) ?_
  refine V.iast (f := upd (upd (fun _ => 0) 0 2) 1 20) (ws2 := [(o, .inr (6, [.ref b1, .int 0, .ref b2, .int 0, .ref b3, .int 0, .ref b4, .ref b5, .ref b6, .ref b7, .int 0, .int 0, .int 0, .ref b8, .long 0])), (b1, .inl (g.2.2 0, 248, .inl (upd (upd (upd (fun _ => 0) 0 2) 1 20) 2 5))), (b2, .inl (g.2.2 0, 1488, .inl (fun _ => 0))), (b3, .inl (g.2.2 0, 60, .inl (fun _ => 0))), (b4, .inl (g.2.2 0, 4, .inl (fun _ => 0))), (b5, .inl (g.2.2 0, 4, .inl (fun _ => 0))), (b6, .inl (g.2.2 0, 4, .inl (fun _ => 0))), (b7, .inl (g.2.2 0, 56, .inl (fun _ => 0))), (b8, .inl (g.2.2 0, 248, .inl (fun _ => 0)))]) 1 2 rfl rfl (by decide) (by decide) rfl dX6_init_89 ?_
  refine V.aload_n 0 rfl dX6_init_90 rfl ?_
  refine V.get (v := .ref b1) (fun w H => List.mem_cons_of_mem _ (List.mem_append_right _ H)) (hc := (rfl : vwCl[6]? = some (RX6, TX6, 15))) 0 0 (by decide) (List.mem_of_getElem? (i := 5) rfl) rfl rfl dX6_init_91 ?_
  refine V.iconst (v := 3) dX6_init_94 (by decide) ?_
  refine V.bipush (v := 80) dX6_init_95 (by decide) ?_
  refine V.iast (f := upd (upd (upd (fun _ => 0) 0 2) 1 20) 2 5) (ws2 := [(o, .inr (6, [.ref b1, .int 0, .ref b2, .int 0, .ref b3, .int 0, .ref b4, .ref b5, .ref b6, .ref b7, .int 0, .int 0, .int 0, .ref b8, .long 0])), (b1, .inl (g.2.2 0, 248, .inl (upd (upd (upd (upd (fun _ => 0) 0 2) 1 20) 2 5) 3 80))), (b2, .inl (g.2.2 0, 1488, .inl (fun _ => 0))), (b3, .inl (g.2.2 0, 60, .inl (fun _ => 0))), (b4, .inl (g.2.2 0, 4, .inl (fun _ => 0))), (b5, .inl (g.2.2 0, 4, .inl (fun _ => 0))), (b6, .inl (g.2.2 0, 4, .inl (fun _ => 0))), (b7, .inl (g.2.2 0, 56, .inl (fun _ => 0))), (b8, .inl (g.2.2 0, 248, .inl (fun _ => 0)))]) 1 3 rfl rfl (by decide) (by decide) rfl dX6_init_97 ?_
  refine V.aload_n 0 rfl dX6_init_98 rfl ?_
  refine V.get (v := .ref b1) (fun w H => List.mem_cons_of_mem _ (List.mem_append_right _ H)) (hc := (rfl : vwCl[6]? = some (RX6, TX6, 15))) 0 0 (by decide) (List.mem_of_getElem? (i := 5) rfl) rfl rfl dX6_init_99 ?_
  refine V.iconst (v := 4) dX6_init_102 (by decide) ?_
  refine V.bipush (v := 50) dX6_init_103 (by decide) ?_
  refine V.iast (f := upd (upd (upd (upd (fun _ => 0) 0 2) 1 20) 2 5) 3 80) (ws2 := [(o, .inr (6, [.ref b1, .int 0, .ref b2, .int 0, .ref b3, .int 0, .ref b4, .ref b5, .ref b6, .ref b7, .int 0, .int 0, .int 0, .ref b8, .long 0])), (b1, .inl (g.2.2 0, 248, .inl (upd (upd (upd (upd (upd (fun _ => 0) 0 2) 1 20) 2 5) 3 80) 4 50))), (b2, .inl (g.2.2 0, 1488, .inl (fun _ => 0))), (b3, .inl (g.2.2 0, 60, .inl (fun _ => 0))), (b4, .inl (g.2.2 0, 4, .inl (fun _ => 0))), (b5, .inl (g.2.2 0, 4, .inl (fun _ => 0))), (b6, .inl (g.2.2 0, 4, .inl (fun _ => 0))), (b7, .inl (g.2.2 0, 56, .inl (fun _ => 0))), (b8, .inl (g.2.2 0, 248, .inl (fun _ => 0)))]) 1 4 rfl rfl (by decide) (by decide) rfl dX6_init_105 ?_
  refine V.aload_n 0 rfl dX6_init_106 rfl ?_
  refine V.get (v := .ref b1) (fun w H => List.mem_cons_of_mem _ (List.mem_append_right _ H)) (hc := (rfl : vwCl[6]? = some (RX6, TX6, 15))) 0 0 (by decide) (List.mem_of_getElem? (i := 5) rfl) rfl rfl dX6_init_107 ?_
  refine V.bipush (v := 8) dX6_init_110 (by decide) ?_
  refine V.iconst (v := 1) dX6_init_112 (by decide) ?_
  refine V.iast (f := upd (upd (upd (upd (upd (fun _ => 0) 0 2) 1 20) 2 5) 3 80) 4 50) (ws2 := [(o, .inr (6, [.ref b1, .int 0, .ref b2, .int 0, .ref b3, .int 0, .ref b4, .ref b5, .ref b6, .ref b7, .int 0, .int 0, .int 0, .ref b8, .long 0])), (b1, .inl (g.2.2 0, 248, .inl (upd (upd (upd (upd (upd (upd (fun _ => 0) 0 2) 1 20) 2 5) 3 80) 4 50) 8 1))), (b2, .inl (g.2.2 0, 1488, .inl (fun _ => 0))), (b3, .inl (g.2.2 0, 60, .inl (fun _ => 0))), (b4, .inl (g.2.2 0, 4, .inl (fun _ => 0))), (b5, .inl (g.2.2 0, 4, .inl (fun _ => 0))), (b6, .inl (g.2.2 0, 4, .inl (fun _ => 0))), (b7, .inl (g.2.2 0, 56, .inl (fun _ => 0))), (b8, .inl (g.2.2 0, 248, .inl (fun _ => 0)))]) 1 8 rfl rfl (by decide) (by decide) rfl dX6_init_113 ?_
  refine V.iconst (v := 0) dX6_init_114 (by decide) ?_
  refine V.istore_n (lv2 := [(1, .int 0), (0, .ref o)]) dX6_init_115 rfl (by decide) rfl ?_
  have L116 : ∀ (kL : Nat) (i : Nat) (y : Nat → Int32), i + kL = 4 → (fu ziF i kL y = ziZ) → V g rmX6_init RX6 cX6_init wsX6_init 2 QF (XM none "<init>") (0 + 1 + 1 + 1 + 1 + 1 + 1 + 1 + 1) (0 + 248 + 1488 + 60 + 4 + 4 + 4 + 56 + 248) ([(o, .inr (6, [.ref b1, .int 0, .ref b2, .int 0, .ref b3, .int 0, .ref b4, .ref b5, .ref b6, .ref b7, .int 0, .int 0, .int 0, .ref b8, .long 0])), (b1, .inl (g.2.2 0, 248, .inl y)), (b2, .inl (g.2.2 0, 1488, .inl (fun _ => 0))), (b3, .inl (g.2.2 0, 60, .inl (fun _ => 0))), (b4, .inl (g.2.2 0, 4, .inl (fun _ => 0))), (b5, .inl (g.2.2 0, 4, .inl (fun _ => 0))), (b6, .inl (g.2.2 0, 4, .inl (fun _ => 0))), (b7, .inl (g.2.2 0, 56, .inl (fun _ => 0))), (b8, .inl (g.2.2 0, 248, .inl (fun _ => 0)))]) 116 [(1, .int (nI i)), (0, .ref o)] [] := by
    intro kL
    induction kL with
    | zero =>
      intro i y hrel hfu
      rw [fu_0] at hfu
      refine V.iload_n 0 rfl dX6_init_116 rfl ?_
      refine V.iconst (v := 4) dX6_init_117 (by decide) ?_
      refine V.icmp_ge_t (tgt := 143) (by rw [show i = 4 from by omega]; decide) dX6_init_118 (by decide) ?_
      exact V.vret hq XM.r (Nat.le_of_ble_eq_true rfl) (Nat.le_of_ble_eq_true rfl) ⟨rfl, (fun k => match k with | 0 => o | 1 => b1 | 2 => b2 | 3 => b3 | 4 => b4 | 5 => b5 | 6 => b6 | 7 => b7 | _ => b8), rfl, by rw [← hfu] <;> rfl⟩ dX6_init_143
    | succ kL ih =>
      intro i y hrel hfu
      rw [fu_s] at hfu
      refine V.iload_n 0 rfl dX6_init_116 rfl ?_
      refine V.iconst (v := 4) dX6_init_117 (by decide) ?_
      refine V.icmp_ge_f (tgt := 143) (by exact nI_ge (a := i) (b := 4) (by omega) (by decide)) dX6_init_118 (by decide) ?_
      refine V.aload_n 1 rfl dX6_init_121 rfl ?_
      refine V.get (v := .ref b1) (fun w H => List.mem_cons_of_mem _ (List.mem_append_right _ H)) (hc := (rfl : vwCl[6]? = some (RX6, TX6, 15))) 0 0 (by decide) (List.mem_of_getElem? (i := 5) rfl) rfl rfl dX6_init_122 ?_
      refine V.sipush (v := 196) dX6_init_125 (by decide) ?_
      refine V.iconst (v := 5) dX6_init_128 (by decide) ?_
      refine V.iload_n 0 rfl dX6_init_129 rfl ?_
      refine V.imulN (v := nI (5 * i)) dX6_init_130 (pk_mul 5 i) ?_
      refine V.iaddN (v := nI (196 + 5 * i)) dX6_init_131 (nI_add 196 (5 * i)) ?_
      refine V.iconst (v := 0) dX6_init_132 (by decide) ?_
      refine V.iaddN (v := nI (196 + 5 * i + 0)) dX6_init_133 (nI_add (196 + 5 * i) 0) ?_
      refine V.bipush (v := 63) dX6_init_134 (by decide) ?_
      refine V.iast (f := y) (ws2 := [(o, .inr (6, [.ref b1, .int 0, .ref b2, .int 0, .ref b3, .int 0, .ref b4, .ref b5, .ref b6, .ref b7, .int 0, .int 0, .int 0, .ref b8, .long 0])), (b1, .inl (g.2.2 0, 248, .inl (upd y (196 + 5 * i + 0) 63))), (b2, .inl (g.2.2 0, 1488, .inl (fun _ => 0))), (b3, .inl (g.2.2 0, 60, .inl (fun _ => 0))), (b4, .inl (g.2.2 0, 4, .inl (fun _ => 0))), (b5, .inl (g.2.2 0, 4, .inl (fun _ => 0))), (b6, .inl (g.2.2 0, 4, .inl (fun _ => 0))), (b7, .inl (g.2.2 0, 56, .inl (fun _ => 0))), (b8, .inl (g.2.2 0, 248, .inl (fun _ => 0)))]) 1 (196 + 5 * i + 0) rfl rfl (by omega) (by decide) rfl dX6_init_136 ?_
      refine V.iinc (v := nI (i + 1)) (lv2 := [(1, .int (nI (i + 1))), (0, .ref o)]) 0 rfl dX6_init_137 (nI_add i 1) (by decide) rfl ?_
      refine V.goto (tgt := 116) dX6_init_140 (by decide) ?_
      refine V.eqlv (lv2 := [(1, .int (nI (i + 1))), (0, .ref o)]) [0, 1] rfl ?_
      exact ih (i + 1) (ziF i y) (by omega) hfu
  refine V.eqlv (lv2 := [(1, .int 0), (0, .ref o)]) [0, 1] rfl ?_
  exact L116 4 0 ziA (by omega) rfl
