abbrev rmX5_mix : Room := { frames := 0, cells := 0, slots := 0, locals := 0 }
set_option maxHeartbeats 4000000 in
set_option maxRecDepth 100000 in
theorem kX5_mix (g : GT) (hh : Int64) (v : Int64) : UC g yX5_mix wsX5_mix rmX5_mix [.long hh, .long v] ([]) (Qf (some (.long (mx hh v))) ([])) := by
  refine UC.ofV (cc := cX5_mix) (maxL := 4) (ret := some .long) (lv0 := [(0, .long hh), (2, .long v)]) (by decide) rfl (Nat.le_of_ble_eq_true rfl) rfl ?_
  generalize hQF : QFr g rmX5_mix (Qf (some (.long (mx hh v))) ([])) = QF
  have hq : QFok g rmX5_mix (Qf (some (.long (mx hh v))) ([])) QF := hQF ▸ QFr.q
  refine V.ldc2 (v := 31) (by decide +kernel) dX5_mix_0 ?_
  refine V.lload_n 0 rfl dX5_mix_3 rfl ?_
  refine V.lmul dX5_mix_4 ?_
  refine V.lload_n 1 rfl dX5_mix_5 rfl ?_
  refine V.ladd dX5_mix_6 ?_
  exact V.lret hq XM.r (Nat.le_of_ble_eq_true rfl) (Nat.le_of_ble_eq_true rfl) ⟨rfl, rfl⟩ dX5_mix_7
abbrev rmX5_bitsOfShare : Room := { frames := 0, cells := 0, slots := 0, locals := 0 }
set_option maxHeartbeats 4000000 in
set_option maxRecDepth 100000 in
theorem kX5_bitsOfShare (g : GT) (d : UInt64) (hd : SH d) : UC g yX5_bitsOfShare wsX5_bitsOfShare rmX5_bitsOfShare [.double d] ([]) (Qf (some (.long (UInt64.toInt64 d))) ([])) := by
  refine UC.ofV (cc := cX5_bitsOfShare) (maxL := 8) (ret := some .long) (lv0 := [(0, .double d)]) (by decide) rfl (Nat.le_of_ble_eq_true rfl) rfl ?_
  generalize hQF : QFr g rmX5_bitsOfShare (Qf (some (.long (UInt64.toInt64 d))) ([])) = QF
  have hq : QFok g rmX5_bitsOfShare (Qf (some (.long (UInt64.toInt64 d))) ([])) QF := hQF ▸ QFr.q
  rcases hd with rfl | ⟨E, T, h1, h2, h3, rfl⟩
  · skip
    refine V.dload_n 0 rfl dX5_bitsOfShare_0 rfl ?_
    refine V.dconst0 dX5_bitsOfShare_1 ?_
    refine V.dcmp dX5_bitsOfShare_2 ?_
    refine V.if_gt_f (tgt := 8) (by decide +kernel) dX5_bitsOfShare_3 (by decide) ?_
    refine V.lconst (v := 0) dX5_bitsOfShare_6 (by decide) ?_
    exact V.lret hq XM.r (Nat.le_of_ble_eq_true rfl) (Nat.le_of_ble_eq_true rfl) ⟨rfl, rfl⟩ dX5_bitsOfShare_7
  · skip
    refine V.dload_n 0 rfl dX5_bitsOfShare_0 rfl ?_
    refine V.dconst0 dX5_bitsOfShare_1 ?_
    refine V.dcmp dX5_bitsOfShare_2 ?_
    rw [cmp0 (by omega) h2 h3]
    refine V.if_gt_t (tgt := 8) (by decide) dX5_bitsOfShare_3 (by decide) ?_
    refine V.dload_n 0 rfl dX5_bitsOfShare_8 rfl ?_
    refine V.dstore_n (lv2 := [(2, .double (E64 E T)), (0, .double (E64 E T))]) dX5_bitsOfShare_9 rfl (by decide) rfl ?_
    refine V.ldc2 (v := 1023) (by decide +kernel) dX5_bitsOfShare_10 ?_
    refine V.lstore (lv2 := [(4, .long (1023 : Int64)), (2, .double (E64 E T)), (0, .double (E64 E T))]) dX5_bitsOfShare_13 (by decide) rfl ?_
    refine V.iconst (v := 0) dX5_bitsOfShare_15 (by decide) ?_
    refine V.istore (lv2 := [(6, .int 0), (4, .long (1023 : Int64)), (2, .double (E64 E T)), (0, .double (E64 E T))]) dX5_bitsOfShare_16 (by decide) rfl ?_
    have L18 : ∀ (kL : Nat) (i : Nat), i + kL = 1023 - E → V g rmX5_bitsOfShare RX5 cX5_bitsOfShare wsX5_bitsOfShare 8 QF (XM (some .long) "bitsOfShare") 0 0 ([]) 18 [(6, .int (nI i)), (4, .long (Int64.ofNat (1023 - i))), (2, .double (E64 (E + i) T)), (0, .double (E64 E T))] [] := by
      intro kL
      induction kL with
      | zero =>
        intro i hrel 
        refine V.iload 0 rfl dX5_bitsOfShare_18 ?_
        refine V.sipush (v := 1000) dX5_bitsOfShare_20 (by decide) ?_
        refine V.icmp_ge_f (tgt := 50) (by exact nI_ge (a := i) (b := 1000) (by omega) (by decide)) dX5_bitsOfShare_23 (by decide) ?_
        refine V.dload_n 2 rfl dX5_bitsOfShare_26 rfl ?_
        refine V.dconst1 dX5_bitsOfShare_27 ?_
        refine V.dcmp dX5_bitsOfShare_28 ?_
        refine V.if_ge_t (tgt := 50) ((cmp1 (by omega) (by omega) h3).mpr (by omega)) dX5_bitsOfShare_29 (by decide) ?_
        refine V.ldc2 (v := 4503599627370496) (by decide +kernel) dX5_bitsOfShare_50 ?_
        refine V.lstore (lv2 := [(6, .long (4503599627370496 : Int64)), (4, .long (Int64.ofNat (1023 - i))), (2, .double (E64 (E + i) T)), (0, .double (E64 E T))]) dX5_bitsOfShare_53 (by decide) rfl ?_
        refine V.lload 1 rfl dX5_bitsOfShare_55 ?_
        refine V.bipush (v := 52) dX5_bitsOfShare_57 (by decide) ?_
        refine V.lshl (v := (Int64.ofNat (1023 - i)) <<< ((52 : Int32).toInt64 &&& 63)) dX5_bitsOfShare_59 rfl ?_
        refine V.dload_n 2 rfl dX5_bitsOfShare_60 rfl ?_
        refine V.lload 0 rfl dX5_bitsOfShare_61 ?_
        refine V.l2d dX5_bitsOfShare_63 ?_
        refine V.dmul dX5_bitsOfShare_64 (by rw [show E + i = 1023 by omega, l2d_52, mul52 h3]; exact E64_nn (by omega) h3) ?_
        refine V.d2l dX5_bitsOfShare_65 ?_
        refine V.lload 0 rfl dX5_bitsOfShare_66 ?_
        refine V.lsub dX5_bitsOfShare_68 ?_
        refine V.ladd dX5_bitsOfShare_69 ?_
        exact V.lret hq XM.r (Nat.le_of_ble_eq_true rfl) (Nat.le_of_ble_eq_true rfl) ⟨by rw [show E + i = 1023 by omega, l2d_52, mul52 h3, d2l_52 h3, show 1023 - i = E by omega, bits_e h2 h3], rfl⟩ dX5_bitsOfShare_70
      | succ kL ih =>
        intro i hrel 
        refine V.iload 0 rfl dX5_bitsOfShare_18 ?_
        refine V.sipush (v := 1000) dX5_bitsOfShare_20 (by decide) ?_
        refine V.icmp_ge_f (tgt := 50) (by exact nI_ge (a := i) (b := 1000) (by omega) (by decide)) dX5_bitsOfShare_23 (by decide) ?_
        refine V.dload_n 2 rfl dX5_bitsOfShare_26 rfl ?_
        refine V.dconst1 dX5_bitsOfShare_27 ?_
        refine V.dcmp dX5_bitsOfShare_28 ?_
        refine V.if_ge_f (tgt := 50) (fun q => by have := (cmp1 (by omega) (by omega) h3).mp q; omega) dX5_bitsOfShare_29 (by decide) ?_
        refine V.dload_n 2 rfl dX5_bitsOfShare_32 rfl ?_
        refine V.ldc2d (v := 0x4000000000000000) (by decide +kernel) dX5_bitsOfShare_33 ?_
        refine V.dmul dX5_bitsOfShare_36 (by rw [mul2 (by omega) (by omega) h3]; exact E64_nn (by omega) h3) ?_
        rw [mul2 (by omega) (by omega) h3]
        refine V.dstore_n (lv2 := [(2, .double (E64 (E + i + 1) T)), (6, .int (nI i)), (4, .long (Int64.ofNat (1023 - i))), (0, .double (E64 E T))]) dX5_bitsOfShare_37 rfl (by decide) rfl ?_
        refine V.lload 2 rfl dX5_bitsOfShare_38 ?_
        refine V.lconst (v := 1) dX5_bitsOfShare_40 (by decide) ?_
        refine V.lsub dX5_bitsOfShare_41 ?_
        rw [show Int64.ofNat (1023 - i) - 1 = Int64.ofNat (1023 - (i + 1)) from by rw [show 1023 - i = 1023 - (i + 1) + 1 by omega]; exact ex_1]
        refine V.lstore (lv2 := [(4, .long (Int64.ofNat (1023 - (i + 1)))), (2, .double (E64 (E + i + 1) T)), (6, .int (nI i)), (0, .double (E64 E T))]) dX5_bitsOfShare_42 (by decide) rfl ?_
        refine V.iinc (v := nI (i + 1)) (lv2 := [(6, .int (nI (i + 1))), (4, .long (Int64.ofNat (1023 - (i + 1)))), (2, .double (E64 (E + i + 1) T)), (0, .double (E64 E T))]) 2 rfl dX5_bitsOfShare_44 (nI_add i 1) (by decide) rfl ?_
        refine V.goto (tgt := 18) dX5_bitsOfShare_47 (by decide) ?_
        refine V.eqlv (lv2 := [(6, .int (nI (i + 1))), (4, .long (Int64.ofNat (1023 - (i + 1)))), (2, .double (E64 (E + i + 1) T)), (0, .double (E64 E T))]) [0, 1, 2, 3] rfl ?_
        exact ih (i + 1) (by omega)
    refine V.eqlv (lv2 := [(6, .int 0), (4, .long (1023 : Int64)), (2, .double (E64 E T)), (0, .double (E64 E T))]) [0, 1, 2, 3] rfl ?_
    exact L18 (1023 - E) 0 (by omega)
abbrev rmX5_checkRange_ok : Room := { frames := 0, cells := 0, slots := 0, locals := 0 }
set_option maxHeartbeats 4000000 in
set_option maxRecDepth 100000 in
theorem kX5_checkRange_ok (g : GT) (vv : Int32) (lo : Int32) (hi : Int32) (hw : wi vv lo hi = true) : UC g yX5_checkRange wsX5_checkRange rmX5_checkRange_ok [.int vv, .int lo, .int hi] ([]) (Qf (none) ([])) := by
  refine UC.ofV (cc := cX5_checkRange) (maxL := 3) (ret := none) (lv0 := [(0, .int vv), (1, .int lo), (2, .int hi)]) (by decide) rfl (Nat.le_of_ble_eq_true rfl) rfl ?_
  generalize hQF : QFr g rmX5_checkRange_ok (Qf (none) ([])) = QF
  have hq : QFok g rmX5_checkRange_ok (Qf (none) ([])) QF := hQF ▸ QFr.q
  refine V.iload_n 0 rfl dX5_checkRange_0 rfl ?_
  refine V.iload_n 1 rfl dX5_checkRange_1 rfl ?_
  refine V.icmp_lt_f (tgt := 10) (fun q => by have h9 := hw; rw [wi, decide_eq_true q] at h9; exact absurd h9 (by simp)) dX5_checkRange_2 (by decide) ?_
  refine V.iload_n 0 rfl dX5_checkRange_5 rfl ?_
  refine V.iload_n 2 rfl dX5_checkRange_6 rfl ?_
  refine V.icmp_le_t (tgt := 21) (by have h1 : ¬ hi < vv := fun q => by { have h9 := hw; rw [wi, decide_eq_true q, Bool.not_true, Bool.and_false] at h9; exact absurd h9 (by decide) }; exact Int32.not_lt.mp h1) dX5_checkRange_7 (by decide) ?_
  exact V.vret hq XM.r (Nat.le_of_ble_eq_true rfl) (Nat.le_of_ble_eq_true rfl) ⟨rfl, rfl⟩ dX5_checkRange_21
abbrev rmX5_checkNozzle_ok : Room := { frames := 0, cells := 0, slots := 0, locals := 0 }
set_option maxHeartbeats 4000000 in
set_option maxRecDepth 100000 in
theorem kX5_checkNozzle_ok (g : GT) (j : Nat) (hj : j < 4) : UC g yX5_checkNozzle wsX5_checkNozzle rmX5_checkNozzle_ok [.int (nI j)] ([]) (Qf (none) ([])) := by
  refine UC.ofV (cc := cX5_checkNozzle) (maxL := 1) (ret := none) (lv0 := [(0, .int (nI j))]) (by decide) rfl (Nat.le_of_ble_eq_true rfl) rfl ?_
  generalize hQF : QFr g rmX5_checkNozzle_ok (Qf (none) ([])) = QF
  have hq : QFok g rmX5_checkNozzle_ok (Qf (none) ([])) QF := hQF ▸ QFr.q
  refine V.iload_n 0 rfl dX5_checkNozzle_0 rfl ?_
  refine V.if_lt_f (tgt := 9) (by exact nI_nlt (a := j) (b := 0) (by omega) (by omega)) dX5_checkNozzle_1 (by decide) ?_
  refine V.iload_n 0 rfl dX5_checkNozzle_4 rfl ?_
  refine V.iconst (v := 4) dX5_checkNozzle_5 (by decide) ?_
  refine V.icmp_lt_t (tgt := 20) (by exact nI_lt (a := j) (b := 4) (by omega) (by decide)) dX5_checkNozzle_6 (by decide) ?_
  exact V.vret hq XM.r (Nat.le_of_ble_eq_true rfl) (Nat.le_of_ble_eq_true rfl) ⟨rfl, rfl⟩ dX5_checkNozzle_20
abbrev rmX5_checkSetting_ok : Room := { frames := 0, cells := 0, slots := 0, locals := 0 }
set_option maxHeartbeats 4000000 in
set_option maxRecDepth 100000 in
theorem kX5_checkSetting_ok (g : GT) (j : Nat) (hj : j < 5) : UC g yX5_checkSetting wsX5_checkSetting rmX5_checkSetting_ok [.int (nI j)] ([]) (Qf (none) ([])) := by
  refine UC.ofV (cc := cX5_checkSetting) (maxL := 1) (ret := none) (lv0 := [(0, .int (nI j))]) (by decide) rfl (Nat.le_of_ble_eq_true rfl) rfl ?_
  generalize hQF : QFr g rmX5_checkSetting_ok (Qf (none) ([])) = QF
  have hq : QFok g rmX5_checkSetting_ok (Qf (none) ([])) QF := hQF ▸ QFr.q
  refine V.iload_n 0 rfl dX5_checkSetting_0 rfl ?_
  refine V.if_lt_f (tgt := 9) (by exact nI_nlt (a := j) (b := 0) (by omega) (by omega)) dX5_checkSetting_1 (by decide) ?_
  refine V.iload_n 0 rfl dX5_checkSetting_4 rfl ?_
  refine V.iconst (v := 5) dX5_checkSetting_5 (by decide) ?_
  refine V.icmp_lt_t (tgt := 20) (by exact nI_lt (a := j) (b := 5) (by omega) (by decide)) dX5_checkSetting_6 (by decide) ?_
  exact V.vret hq XM.r (Nat.le_of_ble_eq_true rfl) (Nat.le_of_ble_eq_true rfl) ⟨rfl, rfl⟩ dX5_checkSetting_20
abbrev rmX5_checkFeeder_ok : Room := { frames := 0, cells := 0, slots := 0, locals := 0 }
set_option maxHeartbeats 4000000 in
set_option maxRecDepth 100000 in
theorem kX5_checkFeeder_ok (g : GT) (o : Nat) (b c u h x : Nat → Nat) (z y ai pa tu tx : Nat → Int32) (len : Nat) (s : BS) (n : Nat) (sv : SV) (f : Nat) (hF : z 5 = nI (nf z)) (hF8 : nf z ≤ 8) (hf : f < nf z) : UC g yX5_checkFeeder wsX5_checkFeeder rmX5_checkFeeder_ok [.ref o, .int (nI f)] (GW g o b c u h x z y ai pa tu tx len s n sv) (fun v w => v = none ∧ w = GW g o b c u h x z y ai pa tu tx len s n sv) := by
  refine UC.ofV (cc := cX5_checkFeeder) (maxL := 2) (ret := none) (lv0 := [(0, .ref o), (1, .int (nI f))]) (by decide) rfl (Nat.le_of_ble_eq_true rfl) rfl ?_
  generalize hQF : QFr g rmX5_checkFeeder_ok (fun v w => v = none ∧ w = GW g o b c u h x z y ai pa tu tx len s n sv) = QF
  have hq : QFok g rmX5_checkFeeder_ok (fun v w => v = none ∧ w = GW g o b c u h x z y ai pa tu tx len s n sv) QF := hQF ▸ QFr.q
  refine V.eqws (ws2 := (HD g o b c u h x) ++ (SW g b z) ++ (SW g c y) ++ (UW g u ai pa tu) ++ (BWs g x tx (nI len) s) ++ (HW g h n sv)) rfl ?_
  refine V.iload_n 1 rfl dX5_checkFeeder_0 rfl ?_
  refine V.if_lt_f (tgt := 15) (by exact nI_nlt (a := f) (b := 0) (by omega) (by omega)) dX5_checkFeeder_1 (by decide) ?_
  refine V.iload_n 1 rfl dX5_checkFeeder_4 rfl ?_
  refine V.aload_n 0 rfl dX5_checkFeeder_5 rfl ?_
  refine V.get (v := .ref (b 0)) (fun w H => List.mem_cons_of_mem _ (List.mem_append_left _ (List.mem_append_left _ (List.mem_append_right _ H)))) (hc := (rfl : vwCl[5]? = some (RX5, TX5, 5))) 0 0 (by decide) (List.mem_of_getElem? (i := 3) rfl) rfl rfl dX5_checkFeeder_6 ?_
  refine V.get (v := .int (z 5)) (fun w H => List.mem_cons_of_mem _ (List.mem_append_left _ (List.mem_append_right _ H))) (hc := (rfl : vwCl[2]? = some (RX2, TX2, 12))) 1 0 (by decide) (List.mem_of_getElem? (i := 4) rfl) rfl rfl dX5_checkFeeder_9 ?_
  refine V.icmp_lt_t (tgt := 26) (by rw [hF]; exact nI_lt hf (by omega)) dX5_checkFeeder_12 (by decide) ?_
  exact V.vret hq XM.r (Nat.le_of_ble_eq_true rfl) (Nat.le_of_ble_eq_true rfl) ⟨rfl, rfl⟩ dX5_checkFeeder_26
abbrev rmX5_count_U : Room := { frames := 3, cells := 0, slots := 0, locals := 68 }
set_option maxHeartbeats 4000000 in
set_option maxRecDepth 100000 in
theorem kX5_count_U (g : GT) (o : Nat) (b c u h x : Nat → Nat) (z y ai pa tu tx : Nat → Int32) (len : Nat) (s : BS) (n : Nat) (sv : SV) (k : Nat) (hF : z 5 = nI (nf z)) (hF8 : nf z ≤ 8) (hP : z 6 = nI (np z)) (hP24 : np z ≤ 24) (hk : k < 14) : UC g yX5_count wsX5_count rmX5_count_U [.ref o, .int (nI k)] (GW g o b c u h x z y ai pa tu tx len s n sv) (fun v w => v = some (.int (ctd z n k)) ∧ w = GW g o b c u h x z y ai pa tu tx len s n sv) := by
  refine UC.ofV (cc := cX5_count) (maxL := 2) (ret := some .int) (lv0 := [(0, .ref o), (1, .int (nI k))]) (by decide) rfl (Nat.le_of_ble_eq_true rfl) rfl ?_
  generalize hQF : QFr g rmX5_count_U (fun v w => v = some (.int (ctd z n k)) ∧ w = GW g o b c u h x z y ai pa tu tx len s n sv) = QF
  have hq : QFok g rmX5_count_U (fun v w => v = some (.int (ctd z n k)) ∧ w = GW g o b c u h x z y ai pa tu tx len s n sv) QF := hQF ▸ QFr.q
  refine V.eqws (ws2 := (HD g o b c u h x) ++ (SW g b z) ++ (SW g c y) ++ (UW g u ai pa tu) ++ (BWs g x tx (nI len) s) ++ (HW g h n sv)) rfl ?_
  refine V.iload_n 1 rfl dX5_count_0 rfl ?_
  rcases (show k = 0 ∨ k = 1 ∨ k = 2 ∨ k = 3 ∨ k = 4 ∨ k = 5 ∨ k = 6 ∨ k = 7 ∨ k = 8 ∨ k = 9 ∨ k = 10 ∨ k = 11 ∨ k = 12 ∨ k = 13 by omega) with rfl | rfl | rfl | rfl | rfl | rfl | rfl | rfl | rfl | rfl | rfl | rfl | rfl | rfl
  · skip
    refine V.tableIn (off := 71) (tgt := 72) (by decide) (by decide) (by decide) dX5_count_1 (by decide) ?_
    refine V.aload_n 0 rfl dX5_count_72 rfl ?_
    refine V.get (v := .ref (b 0)) (fun w H => List.mem_cons_of_mem _ (List.mem_append_left _ (List.mem_append_left _ (List.mem_append_left _ (List.mem_append_left _ (List.mem_append_right _ H)))))) (hc := (rfl : vwCl[5]? = some (RX5, TX5, 5))) 0 0 (by decide) (List.mem_of_getElem? (i := 3) rfl) rfl rfl dX5_count_73 ?_
    refine V.get (v := .int (z 5)) (fun w H => List.mem_cons_of_mem _ (List.mem_append_left _ (List.mem_append_left _ (List.mem_append_left _ (List.mem_append_right _ H))))) (hc := (rfl : vwCl[2]? = some (RX2, TX2, 12))) 1 0 (by decide) (List.mem_of_getElem? (i := 4) rfl) rfl rfl dX5_count_76 ?_
    exact V.iret hq XM.r (Nat.le_of_ble_eq_true rfl) (Nat.le_of_ble_eq_true rfl) ⟨rfl, rfl⟩ dX5_count_79
  · skip
    refine V.tableIn (off := 79) (tgt := 80) (by decide) (by decide) (by decide) dX5_count_1 (by decide) ?_
    refine V.aload_n 0 rfl dX5_count_80 rfl ?_
    refine V.get (v := .ref (b 0)) (fun w H => List.mem_cons_of_mem _ (List.mem_append_left _ (List.mem_append_left _ (List.mem_append_left _ (List.mem_append_left _ (List.mem_append_right _ H)))))) (hc := (rfl : vwCl[5]? = some (RX5, TX5, 5))) 0 0 (by decide) (List.mem_of_getElem? (i := 3) rfl) rfl rfl dX5_count_81 ?_
    refine V.get (v := .int (z 6)) (fun w H => List.mem_cons_of_mem _ (List.mem_append_left _ (List.mem_append_left _ (List.mem_append_left _ (List.mem_append_right _ H))))) (hc := (rfl : vwCl[2]? = some (RX2, TX2, 12))) 1 1 (by decide) (List.mem_of_getElem? (i := 5) rfl) rfl rfl dX5_count_84 ?_
    exact V.iret hq XM.r (Nat.le_of_ble_eq_true rfl) (Nat.le_of_ble_eq_true rfl) ⟨rfl, rfl⟩ dX5_count_87
  · skip
    refine V.tableIn (off := 87) (tgt := 88) (by decide) (by decide) (by decide) dX5_count_1 (by decide) ?_
    refine V.aload_n 0 rfl dX5_count_88 rfl ?_
    refine V.get (v := .ref (b 0)) (fun w H => List.mem_cons_of_mem _ (List.mem_append_left _ (List.mem_append_left _ (List.mem_append_left _ (List.mem_append_left _ (List.mem_append_right _ H)))))) (hc := (rfl : vwCl[5]? = some (RX5, TX5, 5))) 0 0 (by decide) (List.mem_of_getElem? (i := 3) rfl) rfl rfl dX5_count_89 ?_
    refine V.get (v := .int (z 7)) (fun w H => List.mem_cons_of_mem _ (List.mem_append_left _ (List.mem_append_left _ (List.mem_append_left _ (List.mem_append_right _ H))))) (hc := (rfl : vwCl[2]? = some (RX2, TX2, 12))) 1 2 (by decide) (List.mem_of_getElem? (i := 6) rfl) rfl rfl dX5_count_92 ?_
    exact V.iret hq XM.r (Nat.le_of_ble_eq_true rfl) (Nat.le_of_ble_eq_true rfl) ⟨rfl, rfl⟩ dX5_count_95
  · skip
    refine V.tableIn (off := 95) (tgt := 96) (by decide) (by decide) (by decide) dX5_count_1 (by decide) ?_
    refine V.aload_n 0 rfl dX5_count_96 rfl ?_
    refine V.get (v := .ref (b 0)) (fun w H => List.mem_cons_of_mem _ (List.mem_append_left _ (List.mem_append_left _ (List.mem_append_left _ (List.mem_append_left _ (List.mem_append_right _ H)))))) (hc := (rfl : vwCl[5]? = some (RX5, TX5, 5))) 0 0 (by decide) (List.mem_of_getElem? (i := 3) rfl) rfl rfl dX5_count_97 ?_
    refine V.get (v := .int (z 8)) (fun w H => List.mem_cons_of_mem _ (List.mem_append_left _ (List.mem_append_left _ (List.mem_append_left _ (List.mem_append_right _ H))))) (hc := (rfl : vwCl[2]? = some (RX2, TX2, 12))) 1 3 (by decide) (List.mem_of_getElem? (i := 7) rfl) rfl rfl dX5_count_100 ?_
    exact V.iret hq XM.r (Nat.le_of_ble_eq_true rfl) (Nat.le_of_ble_eq_true rfl) ⟨rfl, rfl⟩ dX5_count_103
  · skip
    refine V.tableIn (off := 103) (tgt := 104) (by decide) (by decide) (by decide) dX5_count_1 (by decide) ?_
    refine V.aload_n 0 rfl dX5_count_104 rfl ?_
    refine V.get (v := .ref (b 0)) (fun w H => List.mem_cons_of_mem _ (List.mem_append_left _ (List.mem_append_left _ (List.mem_append_left _ (List.mem_append_left _ (List.mem_append_right _ H)))))) (hc := (rfl : vwCl[5]? = some (RX5, TX5, 5))) 0 0 (by decide) (List.mem_of_getElem? (i := 3) rfl) rfl rfl dX5_count_105 ?_
    refine V.get (v := .int (z 9)) (fun w H => List.mem_cons_of_mem _ (List.mem_append_left _ (List.mem_append_left _ (List.mem_append_left _ (List.mem_append_right _ H))))) (hc := (rfl : vwCl[2]? = some (RX2, TX2, 12))) 1 4 (by decide) (List.mem_of_getElem? (i := 8) rfl) rfl rfl dX5_count_108 ?_
    exact V.iret hq XM.r (Nat.le_of_ble_eq_true rfl) (Nat.le_of_ble_eq_true rfl) ⟨rfl, rfl⟩ dX5_count_111
  · skip
    refine V.tableIn (off := 111) (tgt := 112) (by decide) (by decide) (by decide) dX5_count_1 (by decide) ?_
    refine V.aload_n 0 rfl dX5_count_112 rfl ?_
    refine V.get (v := .ref (b 0)) (fun w H => List.mem_cons_of_mem _ (List.mem_append_left _ (List.mem_append_left _ (List.mem_append_left _ (List.mem_append_left _ (List.mem_append_right _ H)))))) (hc := (rfl : vwCl[5]? = some (RX5, TX5, 5))) 0 0 (by decide) (List.mem_of_getElem? (i := 3) rfl) rfl rfl dX5_count_113 ?_
    refine V.get (v := .int (z 10)) (fun w H => List.mem_cons_of_mem _ (List.mem_append_left _ (List.mem_append_left _ (List.mem_append_left _ (List.mem_append_right _ H))))) (hc := (rfl : vwCl[2]? = some (RX2, TX2, 12))) 1 5 (by decide) (List.mem_of_getElem? (i := 9) rfl) rfl rfl dX5_count_116 ?_
    exact V.iret hq XM.r (Nat.le_of_ble_eq_true rfl) (Nat.le_of_ble_eq_true rfl) ⟨rfl, rfl⟩ dX5_count_119
  · skip
    refine V.tableIn (off := 119) (tgt := 120) (by decide) (by decide) (by decide) dX5_count_1 (by decide) ?_
    refine V.aload_n 0 rfl dX5_count_120 rfl ?_
    refine V.get (v := .ref (b 0)) (fun w H => List.mem_cons_of_mem _ (List.mem_append_left _ (List.mem_append_left _ (List.mem_append_left _ (List.mem_append_left _ (List.mem_append_right _ H)))))) (hc := (rfl : vwCl[5]? = some (RX5, TX5, 5))) 0 0 (by decide) (List.mem_of_getElem? (i := 3) rfl) rfl rfl dX5_count_121 ?_
    refine V.iconst (v := 0) dX5_count_124 (by decide) ?_
    refine V.callVPf (ws2 := (HD g o b c u h x) ++ (SW g b z) ++ (SW g c y) ++ (UW g u ai pa tu) ++ (BWs g x tx (nI len) s) ++ (HW g h n sv)) (st2 := [.int (pT z (0 : Int32))]) [.int 0] [] (kX2_placesWith g b z (0 : Int32) hP hP24) gX5_count_X2_placesWith rfl (by show _ ∧ _ ∧ _ ∧ _ = some (1 : Nat); decide +kernel) ⟨Nat.le_of_ble_eq_true rfl, Nat.le_of_ble_eq_true rfl⟩ (hc := (rfl : vwCl[2]? = some (RX2, TX2, 12))) 0 rfl pv6_1 rfl (Nat.le_of_ble_eq_true rfl) ⟨Nat.le_of_ble_eq_true rfl, Nat.le_of_ble_eq_true rfl⟩ dX5_count_125 SWm pv6_1.symm rfl rfl rfl ?_
    exact V.iret hq XM.r (Nat.le_of_ble_eq_true rfl) (Nat.le_of_ble_eq_true rfl) ⟨rfl, rfl⟩ dX5_count_128
  · skip
    refine V.tableIn (off := 128) (tgt := 129) (by decide) (by decide) (by decide) dX5_count_1 (by decide) ?_
    refine V.aload_n 0 rfl dX5_count_129 rfl ?_
    refine V.get (v := .ref (b 0)) (fun w H => List.mem_cons_of_mem _ (List.mem_append_left _ (List.mem_append_left _ (List.mem_append_left _ (List.mem_append_left _ (List.mem_append_right _ H)))))) (hc := (rfl : vwCl[5]? = some (RX5, TX5, 5))) 0 0 (by decide) (List.mem_of_getElem? (i := 3) rfl) rfl rfl dX5_count_130 ?_
    refine V.iconst (v := 1) dX5_count_133 (by decide) ?_
    refine V.callVPf (ws2 := (HD g o b c u h x) ++ (SW g b z) ++ (SW g c y) ++ (UW g u ai pa tu) ++ (BWs g x tx (nI len) s) ++ (HW g h n sv)) (st2 := [.int (pT z (1 : Int32))]) [.int 1] [] (kX2_placesWith g b z (1 : Int32) hP hP24) gX5_count_X2_placesWith rfl (by show _ ∧ _ ∧ _ ∧ _ = some (1 : Nat); decide +kernel) ⟨Nat.le_of_ble_eq_true rfl, Nat.le_of_ble_eq_true rfl⟩ (hc := (rfl : vwCl[2]? = some (RX2, TX2, 12))) 0 rfl pv6_1 rfl (Nat.le_of_ble_eq_true rfl) ⟨Nat.le_of_ble_eq_true rfl, Nat.le_of_ble_eq_true rfl⟩ dX5_count_134 SWm pv6_1.symm rfl rfl rfl ?_
    exact V.iret hq XM.r (Nat.le_of_ble_eq_true rfl) (Nat.le_of_ble_eq_true rfl) ⟨rfl, rfl⟩ dX5_count_137
  · skip
    refine V.tableIn (off := 137) (tgt := 138) (by decide) (by decide) (by decide) dX5_count_1 (by decide) ?_
    refine V.aload_n 0 rfl dX5_count_138 rfl ?_
    refine V.get (v := .ref (b 0)) (fun w H => List.mem_cons_of_mem _ (List.mem_append_left _ (List.mem_append_left _ (List.mem_append_left _ (List.mem_append_left _ (List.mem_append_right _ H)))))) (hc := (rfl : vwCl[5]? = some (RX5, TX5, 5))) 0 0 (by decide) (List.mem_of_getElem? (i := 3) rfl) rfl rfl dX5_count_139 ?_
    refine V.iconst (v := 2) dX5_count_142 (by decide) ?_
    refine V.callVPf (ws2 := (HD g o b c u h x) ++ (SW g b z) ++ (SW g c y) ++ (UW g u ai pa tu) ++ (BWs g x tx (nI len) s) ++ (HW g h n sv)) (st2 := [.int (pT z (2 : Int32))]) [.int 2] [] (kX2_placesWith g b z (2 : Int32) hP hP24) gX5_count_X2_placesWith rfl (by show _ ∧ _ ∧ _ ∧ _ = some (1 : Nat); decide +kernel) ⟨Nat.le_of_ble_eq_true rfl, Nat.le_of_ble_eq_true rfl⟩ (hc := (rfl : vwCl[2]? = some (RX2, TX2, 12))) 0 rfl pv6_1 rfl (Nat.le_of_ble_eq_true rfl) ⟨Nat.le_of_ble_eq_true rfl, Nat.le_of_ble_eq_true rfl⟩ dX5_count_143 SWm pv6_1.symm rfl rfl rfl ?_
    exact V.iret hq XM.r (Nat.le_of_ble_eq_true rfl) (Nat.le_of_ble_eq_true rfl) ⟨rfl, rfl⟩ dX5_count_146
  · skip
    refine V.tableIn (off := 146) (tgt := 147) (by decide) (by decide) (by decide) dX5_count_1 (by decide) ?_
    refine V.aload_n 0 rfl dX5_count_147 rfl ?_
    refine V.get (v := .ref (b 0)) (fun w H => List.mem_cons_of_mem _ (List.mem_append_left _ (List.mem_append_left _ (List.mem_append_left _ (List.mem_append_left _ (List.mem_append_right _ H)))))) (hc := (rfl : vwCl[5]? = some (RX5, TX5, 5))) 0 0 (by decide) (List.mem_of_getElem? (i := 3) rfl) rfl rfl dX5_count_148 ?_
    refine V.callVPf (ws2 := (HD g o b c u h x) ++ (SW g b z) ++ (SW g c y) ++ (UW g u ai pa tu) ++ (BWs g x tx (nI len) s) ++ (HW g h n sv)) (st2 := [.int (sN z 2)]) [] [] (kX2_misses g b z ) gX5_count_X2_misses rfl (by show _ ∧ _ ∧ _ ∧ _ = some (0 : Nat); decide +kernel) ⟨Nat.le_of_ble_eq_true rfl, Nat.le_of_ble_eq_true rfl⟩ (hc := (rfl : vwCl[2]? = some (RX2, TX2, 12))) 0 rfl pv6_1 rfl (Nat.le_of_ble_eq_true rfl) ⟨Nat.le_of_ble_eq_true rfl, Nat.le_of_ble_eq_true rfl⟩ dX5_count_151 SWm pv6_1.symm rfl rfl rfl ?_
    exact V.iret hq XM.r (Nat.le_of_ble_eq_true rfl) (Nat.le_of_ble_eq_true rfl) ⟨rfl, rfl⟩ dX5_count_154
  · skip
    refine V.tableIn (off := 154) (tgt := 155) (by decide) (by decide) (by decide) dX5_count_1 (by decide) ?_
    refine V.aload_n 0 rfl dX5_count_155 rfl ?_
    refine V.get (v := .ref (b 0)) (fun w H => List.mem_cons_of_mem _ (List.mem_append_left _ (List.mem_append_left _ (List.mem_append_left _ (List.mem_append_left _ (List.mem_append_right _ H)))))) (hc := (rfl : vwCl[5]? = some (RX5, TX5, 5))) 0 0 (by decide) (List.mem_of_getElem? (i := 3) rfl) rfl rfl dX5_count_156 ?_
    refine V.get (v := .ref (b 6)) (fun w H => List.mem_cons_of_mem _ (List.mem_append_left _ (List.mem_append_left _ (List.mem_append_left _ (List.mem_append_right _ H))))) (hc := (rfl : vwCl[2]? = some (RX2, TX2, 12))) 1 10 (by decide) (List.mem_of_getElem? (i := 10) rfl) rfl rfl dX5_count_159 ?_
    refine V.iconst (v := 4) dX5_count_162 (by decide) ?_
    refine V.iconst (v := 4) dX5_count_163 (by decide) ?_
    refine V.callVf (ws2 := (HD g o b c u h x) ++ (SW g b z) ++ (SW g c y) ++ (UW g u ai pa tu) ++ (BWs g x tx (nI len) s) ++ (HW g h n sv)) (st2 := [.int (fu (tsF (sg z 196 20) 5 4) 0 4 0)]) [.int 4, .int 4] [] (kX3_sum g (b 6) (b 7) 5 20 (sg z 196 20) 4 4 (by decide) (by decide) (by decide) (by decide) (fun r hr => by omega)) gX5_count_X3_sum rfl (by show _ ∧ _ ∧ _ ∧ _ = some (2 : Nat); decide +kernel) ⟨Nat.le_of_ble_eq_true rfl, Nat.le_of_ble_eq_true rfl⟩ (hc := (rfl : vwCl[3]? = some (RX3, TX3, 2))) 7 rfl [7, 8] (by decide) rfl rfl (Nat.le_of_ble_eq_true rfl) ⟨Nat.le_of_ble_eq_true rfl, Nat.le_of_ble_eq_true rfl⟩ dX5_count_164 TWf (insW_of rfl rfl rfl) rfl rfl rfl ?_
    rw [ts_sN (by decide)]
    exact V.iret hq XM.r (Nat.le_of_ble_eq_true rfl) (Nat.le_of_ble_eq_true rfl) ⟨rfl, rfl⟩ dX5_count_167
  · skip
    refine V.tableIn (off := 167) (tgt := 168) (by decide) (by decide) (by decide) dX5_count_1 (by decide) ?_
    refine V.aload_n 0 rfl dX5_count_168 rfl ?_
    refine V.get (v := .ref (b 0)) (fun w H => List.mem_cons_of_mem _ (List.mem_append_left _ (List.mem_append_left _ (List.mem_append_left _ (List.mem_append_left _ (List.mem_append_right _ H)))))) (hc := (rfl : vwCl[5]? = some (RX5, TX5, 5))) 0 0 (by decide) (List.mem_of_getElem? (i := 3) rfl) rfl rfl dX5_count_169 ?_
    refine V.get (v := .int (z 11)) (fun w H => List.mem_cons_of_mem _ (List.mem_append_left _ (List.mem_append_left _ (List.mem_append_left _ (List.mem_append_right _ H))))) (hc := (rfl : vwCl[2]? = some (RX2, TX2, 12))) 1 6 (by decide) (List.mem_of_getElem? (i := 11) rfl) rfl rfl dX5_count_172 ?_
    exact V.iret hq XM.r (Nat.le_of_ble_eq_true rfl) (Nat.le_of_ble_eq_true rfl) ⟨rfl, rfl⟩ dX5_count_175
  · skip
    refine V.tableIn (off := 175) (tgt := 176) (by decide) (by decide) (by decide) dX5_count_1 (by decide) ?_
    refine V.aload_n 0 rfl dX5_count_176 rfl ?_
    refine V.get (v := .ref (b 0)) (fun w H => List.mem_cons_of_mem _ (List.mem_append_left _ (List.mem_append_left _ (List.mem_append_left _ (List.mem_append_left _ (List.mem_append_right _ H)))))) (hc := (rfl : vwCl[5]? = some (RX5, TX5, 5))) 0 0 (by decide) (List.mem_of_getElem? (i := 3) rfl) rfl rfl dX5_count_177 ?_
    refine V.get (v := .ref (b 2)) (fun w H => List.mem_cons_of_mem _ (List.mem_append_left _ (List.mem_append_left _ (List.mem_append_left _ (List.mem_append_right _ H))))) (hc := (rfl : vwCl[2]? = some (RX2, TX2, 12))) 1 8 (by decide) (List.mem_of_getElem? (i := 12) rfl) rfl rfl dX5_count_180 ?_
    refine V.aload_n 0 rfl dX5_count_183 rfl ?_
    refine V.get (v := .ref (b 0)) (fun w H => List.mem_cons_of_mem _ (List.mem_append_left _ (List.mem_append_left _ (List.mem_append_left _ (List.mem_append_left _ (List.mem_append_right _ H)))))) (hc := (rfl : vwCl[5]? = some (RX5, TX5, 5))) 0 0 (by decide) (List.mem_of_getElem? (i := 3) rfl) rfl rfl dX5_count_184 ?_
    refine V.get (v := .int (z 5)) (fun w H => List.mem_cons_of_mem _ (List.mem_append_left _ (List.mem_append_left _ (List.mem_append_left _ (List.mem_append_right _ H))))) (hc := (rfl : vwCl[2]? = some (RX2, TX2, 12))) 1 0 (by decide) (List.mem_of_getElem? (i := 4) rfl) rfl rfl dX5_count_187 ?_
    rw [hF]
    refine V.iconst (v := 2) dX5_count_190 (by decide) ?_
    refine V.callVf (ws2 := (HD g o b c u h x) ++ (SW g b z) ++ (SW g c y) ++ (UW g u ai pa tu) ++ (BWs g x tx (nI len) s) ++ (HW g h n sv)) (st2 := [.int (fu (tsF (sg z 12 64) 8 2) 0 (nf z) 0)]) [.int (nI (nf z)), .int 2] [] (kX3_sum g (b 2) (b 3) 8 64 (sg z 12 64) (nf z) 2 (by decide) (by decide) (by omega) (by decide) (fun r hr => by omega)) gX5_count_X3_sum rfl (by show _ ∧ _ ∧ _ ∧ _ = some (2 : Nat); decide +kernel) ⟨Nat.le_of_ble_eq_true rfl, Nat.le_of_ble_eq_true rfl⟩ (hc := (rfl : vwCl[3]? = some (RX3, TX3, 2))) 3 rfl [3, 4] (by decide) rfl rfl (Nat.le_of_ble_eq_true rfl) ⟨Nat.le_of_ble_eq_true rfl, Nat.le_of_ble_eq_true rfl⟩ dX5_count_191 TWf (insW_of rfl rfl rfl) rfl rfl rfl ?_
    rw [ts_aP hF8]
    exact V.iret hq XM.r (Nat.le_of_ble_eq_true rfl) (Nat.le_of_ble_eq_true rfl) ⟨rfl, rfl⟩ dX5_count_194
  · skip
    refine V.tableIn (off := 194) (tgt := 195) (by decide) (by decide) (by decide) dX5_count_1 (by decide) ?_
    refine V.aload_n 0 rfl dX5_count_195 rfl ?_
    refine V.get (v := .ref (h 0)) (fun w H => List.mem_cons_of_mem _ (List.mem_append_left _ (List.mem_append_left _ (List.mem_append_left _ (List.mem_append_left _ (List.mem_append_right _ H)))))) (hc := (rfl : vwCl[5]? = some (RX5, TX5, 5))) 0 3 (by decide) (List.mem_of_getElem? (i := 13) rfl) rfl rfl dX5_count_196 ?_
    refine V.get (v := .int (nI n)) (fun w H => List.mem_cons_of_mem _ (List.mem_append_left _ (List.mem_append_left _ (List.mem_append_right _ H)))) (hc := (rfl : vwCl[1]? = some (RX1, TX1, 2))) 28 1 (by decide) (List.mem_of_getElem? (i := 14) rfl) rfl rfl dX5_count_199 ?_
    exact V.iret hq XM.r (Nat.le_of_ble_eq_true rfl) (Nat.le_of_ble_eq_true rfl) ⟨rfl, rfl⟩ dX5_count_202
abbrev rmX5_feeder_U : Room := { frames := 2, cells := 0, slots := 0, locals := 48 }
set_option maxHeartbeats 4000000 in
set_option maxRecDepth 100000 in
theorem kX5_feeder_U (g : GT) (o : Nat) (b c u h x : Nat → Nat) (z y ai pa tu tx : Nat → Int32) (len : Nat) (s : BS) (n : Nat) (sv : SV) (f k : Nat) (hF : z 5 = nI (nf z)) (hF8 : nf z ≤ 8) (hf : f < nf z) (hk : k < 9) : UC g yX5_feeder wsX5_feeder rmX5_feeder_U [.ref o, .int (nI f), .int (nI k)] (GW g o b c u h x z y ai pa tu tx len s n sv) (fun v w => v = some (.int (fN z f k)) ∧ w = GW g o b c u h x z y ai pa tu tx len s n sv) := by
  refine UC.ofV (cc := cX5_feeder) (maxL := 3) (ret := some .int) (lv0 := [(0, .ref o), (1, .int (nI f)), (2, .int (nI k))]) (by decide) rfl (Nat.le_of_ble_eq_true rfl) rfl ?_
  generalize hQF : QFr g rmX5_feeder_U (fun v w => v = some (.int (fN z f k)) ∧ w = GW g o b c u h x z y ai pa tu tx len s n sv) = QF
  have hq : QFok g rmX5_feeder_U (fun v w => v = some (.int (fN z f k)) ∧ w = GW g o b c u h x z y ai pa tu tx len s n sv) QF := hQF ▸ QFr.q
  refine V.eqws (ws2 := (HD g o b c u h x) ++ (SW g b z) ++ (SW g c y) ++ (UW g u ai pa tu) ++ (BWs g x tx (nI len) s) ++ (HW g h n sv)) rfl ?_
  refine V.aload_n 0 rfl dX5_feeder_0 rfl ?_
  refine V.iload_n 1 rfl dX5_feeder_1 rfl ?_
  refine V.callVP (F := []) [.int (nI f)] [] (kX5_checkFeeder_ok g o b c u h x z y ai pa tu tx len s n sv f hF hF8 hf) gX5_feeder_X5_checkFeeder rfl (by show _ ∧ _ ∧ _ ∧ _ = some (1 : Nat); decide +kernel) ⟨(Nat.le_of_ble_eq_true rfl), (Nat.le_of_ble_eq_true rfl)⟩ (hc := (rfl : vwCl[5]? = some (RX5, TX5, 5))) 0 rfl (by rw [List.append_nil]; exact List.Perm.refl _) rfl (Nat.le_of_ble_eq_true rfl) ⟨(Nat.le_of_ble_eq_true rfl), (Nat.le_of_ble_eq_true rfl)⟩ dX5_feeder_2 (fun r w hq2 => by rw [hq2.2]; exact FST.of GW_fe) (fun r w hq2 => ?_)
  obtain ⟨rfl, rfl⟩ := hq2
  refine V.eqws (ws2 := (HD g o b c u h x) ++ (SW g b z) ++ (SW g c y) ++ (UW g u ai pa tu) ++ (BWs g x tx (nI len) s) ++ (HW g h n sv)) (List.append_nil _) ?_
  refine V.eqst (st2 := []) rfl ?_
  refine V.iload_n 2 rfl dX5_feeder_5 rfl ?_
  refine V.iconst (v := 0) dX5_feeder_6 (by decide) ?_
  refine V.bipush (v := 8) dX5_feeder_7 (by decide) ?_
  refine V.callSf (ws2 := (HD g o b c u h x) ++ (SW g b z) ++ (SW g c y) ++ (UW g u ai pa tu) ++ (BWs g x tx (nI len) s) ++ (HW g h n sv)) (st2 := []) [.int (nI k), .int 0, .int 8] [] (kX5_checkRange_ok g (nI k) (0 : Int32) (8 : Int32) (by rw [show (8 : Int32) = nI 8 from rfl]; exact wi_in (by decide) (by omega))) gX5_feeder_X5_checkRange rfl (by show _ ∧ _ ∧ _ = some (3 : Nat); decide +kernel) ⟨Nat.le_of_ble_eq_true rfl, Nat.le_of_ble_eq_true rfl⟩ [] (by decide) rfl rfl (Nat.le_of_ble_eq_true rfl) ⟨Nat.le_of_ble_eq_true rfl, Nat.le_of_ble_eq_true rfl⟩ dX5_feeder_9 rfl (insW_of rfl rfl rfl) rfl rfl rfl ?_
  refine V.iload_n 2 rfl dX5_feeder_12 rfl ?_
  refine V.bipush (v := 8) dX5_feeder_13 (by decide) ?_
  refine V.icmp_ne (tgt := 33) dX5_feeder_15 (by decide) (fun c15 => ?_) (fun c15 => ?_)
  · skip
    have hk8 : k < 8 := by have : k ≠ 8 := fun q => c15 (by rw [q]; rfl); omega
    refine V.aload_n 0 rfl dX5_feeder_33 rfl ?_
    refine V.get (v := .ref (b 0)) (fun w H => List.mem_cons_of_mem _ (List.mem_append_left _ (List.mem_append_left _ (List.mem_append_left _ (List.mem_append_left _ (List.mem_append_right _ H)))))) (hc := (rfl : vwCl[5]? = some (RX5, TX5, 5))) 0 0 (by decide) (List.mem_of_getElem? (i := 1) rfl) rfl rfl dX5_feeder_34 ?_
    refine V.get (v := .ref (b 2)) (fun w H => List.mem_cons_of_mem _ (List.mem_append_left _ (List.mem_append_left _ (List.mem_append_left _ (List.mem_append_right _ H))))) (hc := (rfl : vwCl[2]? = some (RX2, TX2, 12))) 1 8 (by decide) (List.mem_of_getElem? (i := 3) rfl) rfl rfl dX5_feeder_37 ?_
    refine V.iload_n 1 rfl dX5_feeder_40 rfl ?_
    refine V.iload_n 2 rfl dX5_feeder_41 rfl ?_
    refine V.callVf (ws2 := (HD g o b c u h x) ++ (SW g b z) ++ (SW g c y) ++ (UW g u ai pa tu) ++ (BWs g x tx (nI len) s) ++ (HW g h n sv)) (st2 := [.int ((sg z 12 64) (f * 8 + k))]) [.int (nI f), .int (nI k)] [] (kX3_at g (b 2) (b 3) 8 64 (sg z 12 64) f k (by first | omega | decide) (by first | omega | decide) (by first | omega | decide) (by first | omega | decide)) gX5_feeder_X3_at rfl (by show _ ∧ _ ∧ _ ∧ _ = some (2 : Nat); decide +kernel) ⟨Nat.le_of_ble_eq_true rfl, Nat.le_of_ble_eq_true rfl⟩ (hc := (rfl : vwCl[3]? = some (RX3, TX3, 2))) 3 rfl [3, 4] (by decide) rfl rfl (Nat.le_of_ble_eq_true rfl) ⟨Nat.le_of_ble_eq_true rfl, Nat.le_of_ble_eq_true rfl⟩ dX5_feeder_42 TWf (insW_of rfl rfl rfl) rfl rfl rfl ?_
    rw [sg_r (z := z) (o := 12) (n := 64) (r := f) (C := 8) (k := k) (by omega)]
    exact V.iret hq XM.r (Nat.le_of_ble_eq_true rfl) (Nat.le_of_ble_eq_true rfl) ⟨(by rw [fN, if_pos hk8]), rfl⟩ dX5_feeder_45
  · skip
    have hk8 : ¬ k < 8 := by have : k = 8 := nI_ij (by omega) (by decide) c15; omega
    refine V.aload_n 0 rfl dX5_feeder_18 rfl ?_
    refine V.get (v := .ref (b 0)) (fun w H => List.mem_cons_of_mem _ (List.mem_append_left _ (List.mem_append_left _ (List.mem_append_left _ (List.mem_append_left _ (List.mem_append_right _ H)))))) (hc := (rfl : vwCl[5]? = some (RX5, TX5, 5))) 0 0 (by decide) (List.mem_of_getElem? (i := 1) rfl) rfl rfl dX5_feeder_19 ?_
    refine V.get (v := .ref (b 8)) (fun w H => List.mem_cons_of_mem _ (List.mem_append_left _ (List.mem_append_left _ (List.mem_append_left _ (List.mem_append_right _ H))))) (hc := (rfl : vwCl[2]? = some (RX2, TX2, 12))) 1 11 (by decide) (List.mem_of_getElem? (i := 2) rfl) rfl rfl dX5_feeder_22 ?_
    refine V.iconst (v := 4) dX5_feeder_25 (by decide) ?_
    refine V.iload_n 1 rfl dX5_feeder_26 rfl ?_
    refine V.callVf (ws2 := (HD g o b c u h x) ++ (SW g b z) ++ (SW g c y) ++ (UW g u ai pa tu) ++ (BWs g x tx (nI len) s) ++ (HW g h n sv)) (st2 := [.int (fu (tsF (sg z 216 32) 8 f) 0 4 0)]) [.int 4, .int (nI f)] [] (kX3_sum g (b 8) (b 9) 8 32 (sg z 216 32) 4 f (by decide) (by decide) (by decide) (by omega) (fun r hr => by omega)) gX5_feeder_X3_sum rfl (by show _ ∧ _ ∧ _ ∧ _ = some (2 : Nat); decide +kernel) ⟨Nat.le_of_ble_eq_true rfl, Nat.le_of_ble_eq_true rfl⟩ (hc := (rfl : vwCl[3]? = some (RX3, TX3, 2))) 9 rfl [9, 10] (by decide) rfl rfl (Nat.le_of_ble_eq_true rfl) ⟨Nat.le_of_ble_eq_true rfl, Nat.le_of_ble_eq_true rfl⟩ dX5_feeder_27 TWf (insW_of rfl rfl rfl) rfl rfl rfl ?_
    rw [ts_tS (by omega)]
    refine V.goto (tgt := 45) dX5_feeder_30 (by decide) ?_
    exact V.iret hq XM.r (Nat.le_of_ble_eq_true rfl) (Nat.le_of_ble_eq_true rfl) ⟨(by rw [fN, if_neg hk8]), rfl⟩ dX5_feeder_45
abbrev rmX5_ifToured_U : Room := { frames := 5, cells := 0, slots := 0, locals := 124 }
set_option maxHeartbeats 4000000 in
set_option maxRecDepth 100000 in
theorem kX5_ifToured_U (g : GT) (o : Nat) (b c u h x : Nat → Nat) (z y ai pa tu tx : Nat → Int32) (len : Nat) (s : BS) (n : Nat) (sv : SV) (j k : Nat) (hV : TV z) (hj1 : 1 ≤ j) (hj : j ≤ 20) (hk : k < 4) : UC g yX5_ifToured wsX5_ifToured rmX5_ifToured_U [.ref o, .int (nI j), .int (nI k)] (GW g o b c u h x z y ai pa tu tx len s n sv) (fun v w => v = some (.int (tdC (z, ai, pa, tu) j k)) ∧ w = GW g o b c u h x z ((cTs j ((z, ai, pa, tu), 0)).1.1) ((cTs j ((z, ai, pa, tu), 0)).1.2.1) ((cTs j ((z, ai, pa, tu), 0)).1.2.2.1) ((cTs j ((z, ai, pa, tu), 0)).1.2.2.2) tx len s n sv) := by
  refine UC.ofV (cc := cX5_ifToured) (maxL := 4) (ret := some .int) (lv0 := [(0, .ref o), (1, .int (nI j)), (2, .int (nI k))]) (by decide) rfl (Nat.le_of_ble_eq_true rfl) rfl ?_
  generalize hQF : QFr g rmX5_ifToured_U (fun v w => v = some (.int (tdC (z, ai, pa, tu) j k)) ∧ w = GW g o b c u h x z ((cTs j ((z, ai, pa, tu), 0)).1.1) ((cTs j ((z, ai, pa, tu), 0)).1.2.1) ((cTs j ((z, ai, pa, tu), 0)).1.2.2.1) ((cTs j ((z, ai, pa, tu), 0)).1.2.2.2) tx len s n sv) = QF
  have hq : QFok g rmX5_ifToured_U (fun v w => v = some (.int (tdC (z, ai, pa, tu) j k)) ∧ w = GW g o b c u h x z ((cTs j ((z, ai, pa, tu), 0)).1.1) ((cTs j ((z, ai, pa, tu), 0)).1.2.1) ((cTs j ((z, ai, pa, tu), 0)).1.2.2.1) ((cTs j ((z, ai, pa, tu), 0)).1.2.2.2) tx len s n sv) QF := hQF ▸ QFr.q
  refine V.eqws (ws2 := (HD g o b c u h x) ++ (SW g b z) ++ (SW g c y) ++ (UW g u ai pa tu) ++ (BWs g x tx (nI len) s) ++ (HW g h n sv)) rfl ?_
  refine V.iload_n 1 rfl dX5_ifToured_0 rfl ?_
  refine V.iconst (v := 1) dX5_ifToured_1 (by decide) ?_
  refine V.bipush (v := 20) dX5_ifToured_2 (by decide) ?_
  refine V.callSf (ws2 := (HD g o b c u h x) ++ (SW g b z) ++ (SW g c y) ++ (UW g u ai pa tu) ++ (BWs g x tx (nI len) s) ++ (HW g h n sv)) (st2 := []) [.int (nI j), .int 1, .int 20] [] (kX5_checkRange_ok g (nI j) (1 : Int32) (20 : Int32) (by rw [wi, decide_eq_false (by exact fun q => Int32.not_lt.mpr (nI_le (a := 1) (b := j) hj1 (by omega)) q), decide_eq_false (by exact nI_nlt (a := 20) (b := j) hj (by decide))]; rfl)) gX5_ifToured_X5_checkRange rfl (by show _ ∧ _ ∧ _ = some (3 : Nat); decide +kernel) ⟨Nat.le_of_ble_eq_true rfl, Nat.le_of_ble_eq_true rfl⟩ [] (by decide) rfl rfl (Nat.le_of_ble_eq_true rfl) ⟨Nat.le_of_ble_eq_true rfl, Nat.le_of_ble_eq_true rfl⟩ dX5_ifToured_4 rfl (insW_of rfl rfl rfl) rfl rfl rfl ?_
  refine V.iload_n 2 rfl dX5_ifToured_7 rfl ?_
  refine V.iconst (v := 0) dX5_ifToured_8 (by decide) ?_
  refine V.iconst (v := 3) dX5_ifToured_9 (by decide) ?_
  refine V.callSf (ws2 := (HD g o b c u h x) ++ (SW g b z) ++ (SW g c y) ++ (UW g u ai pa tu) ++ (BWs g x tx (nI len) s) ++ (HW g h n sv)) (st2 := []) [.int (nI k), .int 0, .int 3] [] (kX5_checkRange_ok g (nI k) (0 : Int32) (3 : Int32) (by rw [show (3 : Int32) = nI 3 from rfl]; exact wi_in (by decide) (by omega))) gX5_ifToured_X5_checkRange rfl (by show _ ∧ _ ∧ _ = some (3 : Nat); decide +kernel) ⟨Nat.le_of_ble_eq_true rfl, Nat.le_of_ble_eq_true rfl⟩ [] (by decide) rfl rfl (Nat.le_of_ble_eq_true rfl) ⟨Nat.le_of_ble_eq_true rfl, Nat.le_of_ble_eq_true rfl⟩ dX5_ifToured_10 rfl (insW_of rfl rfl rfl) rfl rfl rfl ?_
  refine V.aload_n 0 rfl dX5_ifToured_13 rfl ?_
  refine V.get (v := .ref (c 0)) (fun w H => List.mem_cons_of_mem _ (List.mem_append_left _ (List.mem_append_left _ (List.mem_append_left _ (List.mem_append_left _ (List.mem_append_right _ H)))))) (hc := (rfl : vwCl[5]? = some (RX5, TX5, 5))) 0 1 (by decide) (List.mem_of_getElem? (i := 1) rfl) rfl rfl dX5_ifToured_14 ?_
  refine V.aload_n 0 rfl dX5_ifToured_17 rfl ?_
  refine V.get (v := .ref (b 0)) (fun w H => List.mem_cons_of_mem _ (List.mem_append_left _ (List.mem_append_left _ (List.mem_append_left _ (List.mem_append_left _ (List.mem_append_right _ H)))))) (hc := (rfl : vwCl[5]? = some (RX5, TX5, 5))) 0 0 (by decide) (List.mem_of_getElem? (i := 2) rfl) rfl rfl dX5_ifToured_18 ?_
  refine V.callVPf (ws2 := (HD g o b c u h x) ++ (SW g b z) ++ (SW g c z) ++ (UW g u ai pa tu) ++ (BWs g x tx (nI len) s) ++ (HW g h n sv)) (st2 := []) [.ref (b 0)] [] (kX2_copyFrom g c y b z ) gX5_ifToured_X2_copyFrom rfl (by show _ ∧ _ ∧ _ ∧ _ = some (1 : Nat); decide +kernel) ⟨Nat.le_of_ble_eq_true rfl, Nat.le_of_ble_eq_true rfl⟩ (hc := (rfl : vwCl[2]? = some (RX2, TX2, 12))) 0 rfl pv6_2_1 rfl (Nat.le_of_ble_eq_true rfl) ⟨Nat.le_of_ble_eq_true rfl, Nat.le_of_ble_eq_true rfl⟩ dX5_ifToured_21 SSm pv6_2_1.symm rfl rfl rfl ?_
  refine V.aload_n 0 rfl dX5_ifToured_24 rfl ?_
  refine V.get (v := .ref (u 0)) (fun w H => List.mem_cons_of_mem _ (List.mem_append_left _ (List.mem_append_left _ (List.mem_append_left _ (List.mem_append_left _ (List.mem_append_right _ H)))))) (hc := (rfl : vwCl[5]? = some (RX5, TX5, 5))) 0 2 (by decide) (List.mem_of_getElem? (i := 3) rfl) rfl rfl dX5_ifToured_25 ?_
  refine V.aload_n 0 rfl dX5_ifToured_28 rfl ?_
  refine V.get (v := .ref (c 0)) (fun w H => List.mem_cons_of_mem _ (List.mem_append_left _ (List.mem_append_left _ (List.mem_append_left _ (List.mem_append_left _ (List.mem_append_right _ H)))))) (hc := (rfl : vwCl[5]? = some (RX5, TX5, 5))) 0 1 (by decide) (List.mem_of_getElem? (i := 1) rfl) rfl rfl dX5_ifToured_29 ?_
  refine V.iload_n 1 rfl dX5_ifToured_32 rfl ?_
  refine V.callVPf (ws2 := (HD g o b c u h x) ++ (SW g b z) ++ (SW g c ((cTs j ((z, ai, pa, tu), 0)).1.1)) ++ (UW g u ((cTs j ((z, ai, pa, tu), 0)).1.2.1) ((cTs j ((z, ai, pa, tu), 0)).1.2.2.1) ((cTs j ((z, ai, pa, tu), 0)).1.2.2.2)) ++ (BWs g x tx (nI len) s) ++ (HW g h n sv)) (st2 := [.int ((cTs j ((z, ai, pa, tu), 0)).2)]) [.ref (c 0), .int (nI j)] [] (kX4_make g u ai pa tu c z j (by omega) hV) gX5_ifToured_X4_make rfl (by show _ ∧ _ ∧ _ ∧ _ = some (2 : Nat); decide +kernel) ⟨Nat.le_of_ble_eq_true rfl, Nat.le_of_ble_eq_true rfl⟩ (hc := (rfl : vwCl[4]? = some (RX4, TX4, 3))) 0 rfl pv6_3_2 rfl (Nat.le_of_ble_eq_true rfl) ⟨Nat.le_of_ble_eq_true rfl, Nat.le_of_ble_eq_true rfl⟩ dX5_ifToured_33 USm pv6_3_2.symm rfl rfl rfl ?_
  refine V.istore_n (lv2 := [(3, .int ((cTs j ((z, ai, pa, tu), 0)).2)), (0, .ref o), (1, .int (nI j)), (2, .int (nI k))]) dX5_ifToured_36 rfl (by decide) rfl ?_
  refine V.iload_n 3 rfl dX5_ifToured_37 rfl ?_
  have hV2 : TV (cTs j ((z, ai, pa, tu), 0)).1.1 := TV.cTs (s := ((z, ai, pa, tu), 0)) hV
  rcases (show k = 0 ∨ k = 1 ∨ k = 2 ∨ k = 3 by omega) with rfl | rfl | rfl | rfl
  · skip
    refine V.tableIn (off := 26) (tgt := 64) (by decide) (by decide) (by decide) dX5_ifToured_38 (by decide) ?_
    refine V.iload_n 0 rfl dX5_ifToured_64 rfl ?_
    exact V.iret hq XM.r (Nat.le_of_ble_eq_true rfl) (Nat.le_of_ble_eq_true rfl) ⟨rfl, rfl⟩ dX5_ifToured_65
  · skip
    refine V.tableIn (off := 28) (tgt := 66) (by decide) (by decide) (by decide) dX5_ifToured_38 (by decide) ?_
    refine V.aload_n 1 rfl dX5_ifToured_66 rfl ?_
    refine V.get (v := .ref (c 0)) (fun w H => List.mem_cons_of_mem _ (List.mem_append_left _ (List.mem_append_left _ (List.mem_append_left _ (List.mem_append_left _ (List.mem_append_right _ H)))))) (hc := (rfl : vwCl[5]? = some (RX5, TX5, 5))) 0 1 (by decide) (List.mem_of_getElem? (i := 1) rfl) rfl rfl dX5_ifToured_67 ?_
    refine V.callVPf (ws2 := (HD g o b c u h x) ++ (SW g b z) ++ (SW g c ((cTs j ((z, ai, pa, tu), 0)).1.1)) ++ (UW g u ((cTs j ((z, ai, pa, tu), 0)).1.2.1) ((cTs j ((z, ai, pa, tu), 0)).1.2.2.1) ((cTs j ((z, ai, pa, tu), 0)).1.2.2.2)) ++ (BWs g x tx (nI len) s) ++ (HW g h n sv)) (st2 := [.int (sN ((cTs j ((z, ai, pa, tu), 0)).1.1) 2)]) [] [] (kX2_misses g c ((cTs j ((z, ai, pa, tu), 0)).1.1) ) gX5_ifToured_X2_misses rfl (by show _ ∧ _ ∧ _ ∧ _ = some (0 : Nat); decide +kernel) ⟨Nat.le_of_ble_eq_true rfl, Nat.le_of_ble_eq_true rfl⟩ (hc := (rfl : vwCl[2]? = some (RX2, TX2, 12))) 0 rfl pv6_2 rfl (Nat.le_of_ble_eq_true rfl) ⟨Nat.le_of_ble_eq_true rfl, Nat.le_of_ble_eq_true rfl⟩ dX5_ifToured_70 SWm pv6_2.symm rfl rfl rfl ?_
    refine V.aload_n 1 rfl dX5_ifToured_73 rfl ?_
    refine V.get (v := .ref (b 0)) (fun w H => List.mem_cons_of_mem _ (List.mem_append_left _ (List.mem_append_left _ (List.mem_append_left _ (List.mem_append_left _ (List.mem_append_right _ H)))))) (hc := (rfl : vwCl[5]? = some (RX5, TX5, 5))) 0 0 (by decide) (List.mem_of_getElem? (i := 2) rfl) rfl rfl dX5_ifToured_74 ?_
    refine V.callVPf (ws2 := (HD g o b c u h x) ++ (SW g b z) ++ (SW g c ((cTs j ((z, ai, pa, tu), 0)).1.1)) ++ (UW g u ((cTs j ((z, ai, pa, tu), 0)).1.2.1) ((cTs j ((z, ai, pa, tu), 0)).1.2.2.1) ((cTs j ((z, ai, pa, tu), 0)).1.2.2.2)) ++ (BWs g x tx (nI len) s) ++ (HW g h n sv)) (st2 := [.int (sN z 2), .int (sN ((cTs j ((z, ai, pa, tu), 0)).1.1) 2)]) [] [.int (sN ((cTs j ((z, ai, pa, tu), 0)).1.1) 2)] (kX2_misses g b z ) gX5_ifToured_X2_misses rfl (by show _ ∧ _ ∧ _ ∧ _ = some (0 : Nat); decide +kernel) ⟨Nat.le_of_ble_eq_true rfl, Nat.le_of_ble_eq_true rfl⟩ (hc := (rfl : vwCl[2]? = some (RX2, TX2, 12))) 0 rfl pv6_1 rfl (Nat.le_of_ble_eq_true rfl) ⟨Nat.le_of_ble_eq_true rfl, Nat.le_of_ble_eq_true rfl⟩ dX5_ifToured_77 SWm pv6_1.symm rfl rfl rfl ?_
    refine V.isub dX5_ifToured_80 ?_
    exact V.iret hq XM.r (Nat.le_of_ble_eq_true rfl) (Nat.le_of_ble_eq_true rfl) ⟨rfl, rfl⟩ dX5_ifToured_81
  · skip
    refine V.tableIn (off := 44) (tgt := 82) (by decide) (by decide) (by decide) dX5_ifToured_38 (by decide) ?_
    refine V.aload_n 1 rfl dX5_ifToured_82 rfl ?_
    refine V.get (v := .ref (c 0)) (fun w H => List.mem_cons_of_mem _ (List.mem_append_left _ (List.mem_append_left _ (List.mem_append_left _ (List.mem_append_left _ (List.mem_append_right _ H)))))) (hc := (rfl : vwCl[5]? = some (RX5, TX5, 5))) 0 1 (by decide) (List.mem_of_getElem? (i := 1) rfl) rfl rfl dX5_ifToured_83 ?_
    refine V.get (v := .int (((cTs j ((z, ai, pa, tu), 0)).1.1) 7)) (fun w H => List.mem_cons_of_mem _ (List.mem_append_left _ (List.mem_append_left _ (List.mem_append_left _ (List.mem_append_right _ H))))) (hc := (rfl : vwCl[2]? = some (RX2, TX2, 12))) 11 2 (by decide) (List.mem_of_getElem? (i := 4) rfl) rfl rfl dX5_ifToured_86 ?_
    refine V.aload_n 1 rfl dX5_ifToured_89 rfl ?_
    refine V.get (v := .ref (b 0)) (fun w H => List.mem_cons_of_mem _ (List.mem_append_left _ (List.mem_append_left _ (List.mem_append_left _ (List.mem_append_left _ (List.mem_append_right _ H)))))) (hc := (rfl : vwCl[5]? = some (RX5, TX5, 5))) 0 0 (by decide) (List.mem_of_getElem? (i := 2) rfl) rfl rfl dX5_ifToured_90 ?_
    refine V.get (v := .int (z 7)) (fun w H => List.mem_cons_of_mem _ (List.mem_append_left _ (List.mem_append_left _ (List.mem_append_left _ (List.mem_append_right _ H))))) (hc := (rfl : vwCl[2]? = some (RX2, TX2, 12))) 1 2 (by decide) (List.mem_of_getElem? (i := 4) rfl) rfl rfl dX5_ifToured_93 ?_
    refine V.isub dX5_ifToured_96 ?_
    exact V.iret hq XM.r (Nat.le_of_ble_eq_true rfl) (Nat.le_of_ble_eq_true rfl) ⟨rfl, rfl⟩ dX5_ifToured_97
  · skip
    refine V.tableOut (tgt := 98) (by decide) dX5_ifToured_38 (by decide) ?_
    refine V.aload_n 1 rfl dX5_ifToured_98 rfl ?_
    refine V.get (v := .ref (c 0)) (fun w H => List.mem_cons_of_mem _ (List.mem_append_left _ (List.mem_append_left _ (List.mem_append_left _ (List.mem_append_left _ (List.mem_append_right _ H)))))) (hc := (rfl : vwCl[5]? = some (RX5, TX5, 5))) 0 1 (by decide) (List.mem_of_getElem? (i := 1) rfl) rfl rfl dX5_ifToured_99 ?_
    refine V.iconst (v := 1) dX5_ifToured_102 (by decide) ?_
    refine V.callVPf (ws2 := (HD g o b c u h x) ++ (SW g b z) ++ (SW g c ((cTs j ((z, ai, pa, tu), 0)).1.1)) ++ (UW g u ((cTs j ((z, ai, pa, tu), 0)).1.2.1) ((cTs j ((z, ai, pa, tu), 0)).1.2.2.1) ((cTs j ((z, ai, pa, tu), 0)).1.2.2.2)) ++ (BWs g x tx (nI len) s) ++ (HW g h n sv)) (st2 := [.int (pT ((cTs j ((z, ai, pa, tu), 0)).1.1) (1 : Int32))]) [.int 1] [] (kX2_placesWith g c ((cTs j ((z, ai, pa, tu), 0)).1.1) (1 : Int32) hV2.1.2.2.1 hV2.np) gX5_ifToured_X2_placesWith rfl (by show _ ∧ _ ∧ _ ∧ _ = some (1 : Nat); decide +kernel) ⟨Nat.le_of_ble_eq_true rfl, Nat.le_of_ble_eq_true rfl⟩ (hc := (rfl : vwCl[2]? = some (RX2, TX2, 12))) 0 rfl pv6_2 rfl (Nat.le_of_ble_eq_true rfl) ⟨Nat.le_of_ble_eq_true rfl, Nat.le_of_ble_eq_true rfl⟩ dX5_ifToured_103 SWm pv6_2.symm rfl rfl rfl ?_
    exact V.iret hq XM.r (Nat.le_of_ble_eq_true rfl) (Nat.le_of_ble_eq_true rfl) ⟨rfl, rfl⟩ dX5_ifToured_106
abbrev rmX5_aim_U : Room := { frames := 3, cells := 0, slots := 0, locals := 73 }
set_option maxHeartbeats 4000000 in
set_option maxRecDepth 100000 in
theorem kX5_aim_U (g : GT) (o : Nat) (b c u h x : Nat → Nat) (z y ai pa tu tx : Nat → Int32) (len : Nat) (s : BS) (n : Nat) (sv : SV) (j : Nat) (hV : TV z) (hj : j < 4) : UC g yX5_aim wsX5_aim rmX5_aim_U [.ref o, .int (nI j)] (GW g o b c u h x z y ai pa tu tx len s n sv) (fun v w => v = some (.int (lA z ai j)) ∧ w = GW g o b c u h x z y (lA z ai) pa tu tx len s n sv) := by
  refine UC.ofV (cc := cX5_aim) (maxL := 2) (ret := some .int) (lv0 := [(0, .ref o), (1, .int (nI j))]) (by decide) rfl (Nat.le_of_ble_eq_true rfl) rfl ?_
  generalize hQF : QFr g rmX5_aim_U (fun v w => v = some (.int (lA z ai j)) ∧ w = GW g o b c u h x z y (lA z ai) pa tu tx len s n sv) = QF
  have hq : QFok g rmX5_aim_U (fun v w => v = some (.int (lA z ai j)) ∧ w = GW g o b c u h x z y (lA z ai) pa tu tx len s n sv) QF := hQF ▸ QFr.q
  refine V.eqws (ws2 := (HD g o b c u h x) ++ (SW g b z) ++ (SW g c y) ++ (UW g u ai pa tu) ++ (BWs g x tx (nI len) s) ++ (HW g h n sv)) rfl ?_
  refine V.iload_n 1 rfl dX5_aim_0 rfl ?_
  refine V.callSf (ws2 := (HD g o b c u h x) ++ (SW g b z) ++ (SW g c y) ++ (UW g u ai pa tu) ++ (BWs g x tx (nI len) s) ++ (HW g h n sv)) (st2 := []) [.int (nI j)] [] (kX5_checkNozzle_ok g j hj) gX5_aim_X5_checkNozzle rfl (by show _ ∧ _ ∧ _ = some (1 : Nat); decide +kernel) ⟨Nat.le_of_ble_eq_true rfl, Nat.le_of_ble_eq_true rfl⟩ [] (by decide) rfl rfl (Nat.le_of_ble_eq_true rfl) ⟨Nat.le_of_ble_eq_true rfl, Nat.le_of_ble_eq_true rfl⟩ dX5_aim_1 rfl (insW_of rfl rfl rfl) rfl rfl rfl ?_
  refine V.aload_n 0 rfl dX5_aim_4 rfl ?_
  refine V.get (v := .ref (u 0)) (fun w H => List.mem_cons_of_mem _ (List.mem_append_left _ (List.mem_append_left _ (List.mem_append_left _ (List.mem_append_left _ (List.mem_append_right _ H)))))) (hc := (rfl : vwCl[5]? = some (RX5, TX5, 5))) 0 2 (by decide) (List.mem_of_getElem? (i := 1) rfl) rfl rfl dX5_aim_5 ?_
  refine V.aload_n 0 rfl dX5_aim_8 rfl ?_
  refine V.get (v := .ref (b 0)) (fun w H => List.mem_cons_of_mem _ (List.mem_append_left _ (List.mem_append_left _ (List.mem_append_left _ (List.mem_append_left _ (List.mem_append_right _ H)))))) (hc := (rfl : vwCl[5]? = some (RX5, TX5, 5))) 0 0 (by decide) (List.mem_of_getElem? (i := 2) rfl) rfl rfl dX5_aim_9 ?_
  refine V.callVPf (ws2 := (HD g o b c u h x) ++ (SW g b z) ++ (SW g c y) ++ (UW g u (lA z ai) pa tu) ++ (BWs g x tx (nI len) s) ++ (HW g h n sv)) (st2 := []) [.ref (b 0)] [] (kX4_chooseAims g u ai pa tu b z hV.1 hV.2.2.1) gX5_aim_X4_chooseAims rfl (by show _ ∧ _ ∧ _ ∧ _ = some (1 : Nat); decide +kernel) ⟨Nat.le_of_ble_eq_true rfl, Nat.le_of_ble_eq_true rfl⟩ (hc := (rfl : vwCl[4]? = some (RX4, TX4, 3))) 0 rfl pv6_3_1 rfl (Nat.le_of_ble_eq_true rfl) ⟨Nat.le_of_ble_eq_true rfl, Nat.le_of_ble_eq_true rfl⟩ dX5_aim_12 USm pv6_3_1.symm rfl rfl rfl ?_
  refine V.aload_n 0 rfl dX5_aim_15 rfl ?_
  refine V.get (v := .ref (u 0)) (fun w H => List.mem_cons_of_mem _ (List.mem_append_left _ (List.mem_append_left _ (List.mem_append_left _ (List.mem_append_left _ (List.mem_append_right _ H)))))) (hc := (rfl : vwCl[5]? = some (RX5, TX5, 5))) 0 2 (by decide) (List.mem_of_getElem? (i := 1) rfl) rfl rfl dX5_aim_16 ?_
  refine V.get (v := .ref (u 1)) (fun w H => List.mem_cons_of_mem _ (List.mem_append_left _ (List.mem_append_left _ (List.mem_append_left _ (List.mem_append_right _ H))))) (hc := (rfl : vwCl[4]? = some (RX4, TX4, 3))) 21 0 (by decide) (List.mem_of_getElem? (i := 3) rfl) rfl rfl dX5_aim_19 ?_
  refine V.iload_n 1 rfl dX5_aim_22 rfl ?_
  refine V.iald (f := lA z ai) 22 j rfl rfl hj (by decide) dX5_aim_23 ?_
  exact V.iret hq XM.r (Nat.le_of_ble_eq_true rfl) (Nat.le_of_ble_eq_true rfl) ⟨rfl, rfl⟩ dX5_aim_24
abbrev rmX5_mixFeedersAndPlaces : Room := { frames := 3, cells := 0, slots := 0, locals := 70 }
set_option maxHeartbeats 4000000 in
set_option maxRecDepth 100000 in
theorem kX5_mixFeedersAndPlaces (g : GT) (o : Nat) (b c u h x : Nat → Nat) (z y ai pa tu tx : Nat → Int32) (len : Nat) (s : BS) (n : Nat) (sv : SV) (h0 : Int64) (hF : z 5 = nI (nf z)) (hF8 : nf z ≤ 8) (hP : z 6 = nI (np z)) (hP24 : np z ≤ 24) : UC g yX5_mixFeedersAndPlaces wsX5_mixFeedersAndPlaces rmX5_mixFeedersAndPlaces [.ref o, .long h0] (GW g o b c u h x z y ai pa tu tx len s n sv) (fun v w => v = some (.long (dgD z (dgC z h0))) ∧ w = GW g o b c u h x z y ai pa tu tx len s n sv) := by
  refine UC.ofV (cc := cX5_mixFeedersAndPlaces) (maxL := 7) (ret := some .long) (lv0 := [(0, .ref o), (1, .long h0)]) (by decide) rfl (Nat.le_of_ble_eq_true rfl) rfl ?_
  generalize hQF : QFr g rmX5_mixFeedersAndPlaces (fun v w => v = some (.long (dgD z (dgC z h0))) ∧ w = GW g o b c u h x z y ai pa tu tx len s n sv) = QF
  have hq : QFok g rmX5_mixFeedersAndPlaces (fun v w => v = some (.long (dgD z (dgC z h0))) ∧ w = GW g o b c u h x z y ai pa tu tx len s n sv) QF := hQF ▸ QFr.q
  refine V.eqws (ws2 := (HD g o b c u h x) ++ (SW g b z) ++ (SW g c y) ++ (UW g u ai pa tu) ++ (BWs g x tx (nI len) s) ++ (HW g h n sv)) rfl ?_
  refine V.lload_n 1 rfl dX5_mixFeedersAndPlaces_0 rfl ?_
  refine V.lstore_n (lv2 := [(3, .long h0), (0, .ref o), (1, .long h0)]) dX5_mixFeedersAndPlaces_1 rfl (by decide) rfl ?_
  refine V.iconst (v := 0) dX5_mixFeedersAndPlaces_2 (by decide) ?_
  refine V.istore (lv2 := [(5, .int 0), (3, .long h0), (0, .ref o), (1, .long h0)]) dX5_mixFeedersAndPlaces_3 (by decide) rfl ?_
  have L5 : ∀ (kL : Nat) (f : Nat) (hh : Int64), f + kL = nf z → (fu (dfA z) f kL hh = dcC z h0) → V g rmX5_mixFeedersAndPlaces RX5 cX5_mixFeedersAndPlaces wsX5_mixFeedersAndPlaces 7 QF (XM (some .long) "mixFeedersAndPlaces") 0 0 ((HD g o b c u h x) ++ (SW g b z) ++ (SW g c y) ++ (UW g u ai pa tu) ++ (BWs g x tx (nI len) s) ++ (HW g h n sv)) 5 [(5, .int (nI f)), (3, .long hh), (0, .ref o), (1, .long h0)] [] := by
    intro kL
    induction kL with
    | zero =>
      intro f hh hrel hfu
      rw [fu_0] at hfu
      refine V.iload 0 rfl dX5_mixFeedersAndPlaces_5 ?_
      refine V.aload_n 2 rfl dX5_mixFeedersAndPlaces_7 rfl ?_
      refine V.get (v := .ref (b 0)) (fun w H => List.mem_cons_of_mem _ (List.mem_append_left _ (List.mem_append_left _ (List.mem_append_left _ (List.mem_append_left _ (List.mem_append_right _ H)))))) (hc := (rfl : vwCl[5]? = some (RX5, TX5, 5))) 0 0 (by decide) (List.mem_of_getElem? (i := 1) rfl) rfl rfl dX5_mixFeedersAndPlaces_8 ?_
      refine V.get (v := .int (z 5)) (fun w H => List.mem_cons_of_mem _ (List.mem_append_left _ (List.mem_append_left _ (List.mem_append_left _ (List.mem_append_right _ H))))) (hc := (rfl : vwCl[2]? = some (RX2, TX2, 12))) 1 0 (by decide) (List.mem_of_getElem? (i := 2) rfl) rfl rfl dX5_mixFeedersAndPlaces_11 ?_
      rw [hF]
      refine V.icmp_ge_t (tgt := 53) (by exact nI_le (a := nf z) (b := f) (by omega) (by omega)) dX5_mixFeedersAndPlaces_14 (by decide) ?_
      subst hfu
      refine V.iconst (v := 0) dX5_mixFeedersAndPlaces_53 (by decide) ?_
      refine V.istore (lv2 := [(5, .int 0), (3, .long (dcC z h0)), (0, .ref o), (1, .long h0)]) dX5_mixFeedersAndPlaces_54 (by decide) rfl ?_
      have L56 : ∀ (kL : Nat) (p : Nat) (hh : Int64), p + kL = np z → (fu (dpA z) p kL hh = dcD z (dcC z h0)) → V g rmX5_mixFeedersAndPlaces RX5 cX5_mixFeedersAndPlaces wsX5_mixFeedersAndPlaces 7 QF (XM (some .long) "mixFeedersAndPlaces") 0 0 ((HD g o b c u h x) ++ (SW g b z) ++ (SW g c y) ++ (UW g u ai pa tu) ++ (BWs g x tx (nI len) s) ++ (HW g h n sv)) 56 [(5, .int (nI p)), (3, .long hh), (0, .ref o), (1, .long h0)] [] := by
        intro kL
        induction kL with
        | zero =>
          intro p hh hrel hfv
          rw [fu_0] at hfv
          refine V.iload 0 rfl dX5_mixFeedersAndPlaces_56 ?_
          refine V.aload_n 2 rfl dX5_mixFeedersAndPlaces_58 rfl ?_
          refine V.get (v := .ref (b 0)) (fun w H => List.mem_cons_of_mem _ (List.mem_append_left _ (List.mem_append_left _ (List.mem_append_left _ (List.mem_append_left _ (List.mem_append_right _ H)))))) (hc := (rfl : vwCl[5]? = some (RX5, TX5, 5))) 0 0 (by decide) (List.mem_of_getElem? (i := 1) rfl) rfl rfl dX5_mixFeedersAndPlaces_59 ?_
          refine V.get (v := .int (z 6)) (fun w H => List.mem_cons_of_mem _ (List.mem_append_left _ (List.mem_append_left _ (List.mem_append_left _ (List.mem_append_right _ H))))) (hc := (rfl : vwCl[2]? = some (RX2, TX2, 12))) 1 1 (by decide) (List.mem_of_getElem? (i := 3) rfl) rfl rfl dX5_mixFeedersAndPlaces_62 ?_
          rw [hP]
          refine V.icmp_ge_t (tgt := 109) (by exact nI_le (a := np z) (b := p) (by omega) (by omega)) dX5_mixFeedersAndPlaces_65 (by decide) ?_
          refine V.lload_n 1 rfl dX5_mixFeedersAndPlaces_109 rfl ?_
          exact V.lret hq XM.r (Nat.le_of_ble_eq_true rfl) (Nat.le_of_ble_eq_true rfl) ⟨by rw [hfv, dcD_eq, dcC_eq], rfl⟩ dX5_mixFeedersAndPlaces_110
        | succ kL ih =>
          intro p hh hrel hfv
          rw [fu_s] at hfv
          refine V.iload 0 rfl dX5_mixFeedersAndPlaces_56 ?_
          refine V.aload_n 2 rfl dX5_mixFeedersAndPlaces_58 rfl ?_
          refine V.get (v := .ref (b 0)) (fun w H => List.mem_cons_of_mem _ (List.mem_append_left _ (List.mem_append_left _ (List.mem_append_left _ (List.mem_append_left _ (List.mem_append_right _ H)))))) (hc := (rfl : vwCl[5]? = some (RX5, TX5, 5))) 0 0 (by decide) (List.mem_of_getElem? (i := 1) rfl) rfl rfl dX5_mixFeedersAndPlaces_59 ?_
          refine V.get (v := .int (z 6)) (fun w H => List.mem_cons_of_mem _ (List.mem_append_left _ (List.mem_append_left _ (List.mem_append_left _ (List.mem_append_right _ H))))) (hc := (rfl : vwCl[2]? = some (RX2, TX2, 12))) 1 1 (by decide) (List.mem_of_getElem? (i := 3) rfl) rfl rfl dX5_mixFeedersAndPlaces_62 ?_
          rw [hP]
          refine V.icmp_ge_f (tgt := 109) (by exact nI_ge (a := p) (b := np z) (by omega) (by omega)) dX5_mixFeedersAndPlaces_65 (by decide) ?_
          refine V.iconst (v := 0) dX5_mixFeedersAndPlaces_68 (by decide) ?_
          refine V.istore (lv2 := [(6, .int 0), (5, .int (nI p)), (3, .long hh), (0, .ref o), (1, .long h0)]) dX5_mixFeedersAndPlaces_69 (by decide) rfl ?_
          have L71 : ∀ (kL : Nat) (k : Nat) (h2 : Int64), k + kL = 5 → (fu (dpF z p) k kL h2 = dpA z p hh) → V g rmX5_mixFeedersAndPlaces RX5 cX5_mixFeedersAndPlaces wsX5_mixFeedersAndPlaces 7 QF (XM (some .long) "mixFeedersAndPlaces") 0 0 ((HD g o b c u h x) ++ (SW g b z) ++ (SW g c y) ++ (UW g u ai pa tu) ++ (BWs g x tx (nI len) s) ++ (HW g h n sv)) 71 [(6, .int (nI k)), (5, .int (nI p)), (3, .long h2), (0, .ref o), (1, .long h0)] [] := by
            intro kL
            induction kL with
            | zero =>
              intro k h2 hrel hf4
              rw [fu_0] at hf4
              refine V.iload 0 rfl dX5_mixFeedersAndPlaces_71 ?_
              refine V.iconst (v := 5) dX5_mixFeedersAndPlaces_73 (by decide) ?_
              refine V.icmp_ge_t (tgt := 103) (by rw [show k = 5 from by omega]; decide) dX5_mixFeedersAndPlaces_74 (by decide) ?_
              subst hf4
              refine V.iinc (v := nI (p + 1)) (lv2 := [(5, .int (nI (p + 1))), (6, .int (nI k)), (3, .long (dpA z p hh)), (0, .ref o), (1, .long h0)]) 1 rfl dX5_mixFeedersAndPlaces_103 (nI_add p 1) (by decide) rfl ?_
              refine V.goto (tgt := 56) dX5_mixFeedersAndPlaces_106 (by decide) ?_
              refine V.eqlv (lv2 := [(5, .int (nI (p + 1))), (3, .long (dpA z p hh)), (0, .ref o), (1, .long h0)]) [0, 2, 3, 4] rfl ?_
              exact ih (p + 1) (dpA z p hh) (by omega) hfv
            | succ kL ih =>
              intro k h2 hrel hf4
              rw [fu_s] at hf4
              refine V.iload 0 rfl dX5_mixFeedersAndPlaces_71 ?_
              refine V.iconst (v := 5) dX5_mixFeedersAndPlaces_73 (by decide) ?_
              refine V.icmp_ge_f (tgt := 103) (by exact nI_ge (a := k) (b := 5) (by omega) (by decide)) dX5_mixFeedersAndPlaces_74 (by decide) ?_
              refine V.lload_n 2 rfl dX5_mixFeedersAndPlaces_77 rfl ?_
              refine V.aload_n 3 rfl dX5_mixFeedersAndPlaces_78 rfl ?_
              refine V.get (v := .ref (b 0)) (fun w H => List.mem_cons_of_mem _ (List.mem_append_left _ (List.mem_append_left _ (List.mem_append_left _ (List.mem_append_left _ (List.mem_append_right _ H)))))) (hc := (rfl : vwCl[5]? = some (RX5, TX5, 5))) 0 0 (by decide) (List.mem_of_getElem? (i := 1) rfl) rfl rfl dX5_mixFeedersAndPlaces_79 ?_
              refine V.get (v := .ref (b 4)) (fun w H => List.mem_cons_of_mem _ (List.mem_append_left _ (List.mem_append_left _ (List.mem_append_left _ (List.mem_append_right _ H))))) (hc := (rfl : vwCl[2]? = some (RX2, TX2, 12))) 1 9 (by decide) (List.mem_of_getElem? (i := 4) rfl) rfl rfl dX5_mixFeedersAndPlaces_82 ?_
              refine V.iload 1 rfl dX5_mixFeedersAndPlaces_85 ?_
              refine V.iload 0 rfl dX5_mixFeedersAndPlaces_87 ?_
              refine V.callVf (ws2 := (HD g o b c u h x) ++ (SW g b z) ++ (SW g c y) ++ (UW g u ai pa tu) ++ (BWs g x tx (nI len) s) ++ (HW g h n sv)) (st2 := [.int ((sg z 76 120) (p * 5 + k)), .long h2]) [.int (nI p), .int (nI k)] [.long h2] (kX3_at g (b 4) (b 5) 5 120 (sg z 76 120) p k (by first | omega | decide) (by first | omega | decide) (by first | omega | decide) (by first | omega | decide)) gX5_mixFeedersAndPlaces_X3_at rfl (by show _ ∧ _ ∧ _ ∧ _ = some (2 : Nat); decide +kernel) ⟨Nat.le_of_ble_eq_true rfl, Nat.le_of_ble_eq_true rfl⟩ (hc := (rfl : vwCl[3]? = some (RX3, TX3, 2))) 5 rfl [5, 6] (by decide) rfl rfl (Nat.le_of_ble_eq_true rfl) ⟨Nat.le_of_ble_eq_true rfl, Nat.le_of_ble_eq_true rfl⟩ dX5_mixFeedersAndPlaces_89 TWf (insW_of rfl rfl rfl) rfl rfl rfl ?_
              rw [sg_r (z := z) (o := 76) (n := 120) (r := p) (C := 5) (k := k) (by omega)]
              refine V.i2l dX5_mixFeedersAndPlaces_92 ?_
              refine V.callSf (ws2 := (HD g o b c u h x) ++ (SW g b z) ++ (SW g c y) ++ (UW g u ai pa tu) ++ (BWs g x tx (nI len) s) ++ (HW g h n sv)) (st2 := [.long (mx h2 (Int32.toInt64 (z (76 + 5 * p + k))))]) [.long h2, .long (Int32.toInt64 (z (76 + 5 * p + k)))] [] (kX5_mix g h2 (Int32.toInt64 (z (76 + 5 * p + k))) ) gX5_mixFeedersAndPlaces_X5_mix rfl (by show _ ∧ _ ∧ _ = some (2 : Nat); decide +kernel) ⟨Nat.le_of_ble_eq_true rfl, Nat.le_of_ble_eq_true rfl⟩ [] (by decide) rfl rfl (Nat.le_of_ble_eq_true rfl) ⟨Nat.le_of_ble_eq_true rfl, Nat.le_of_ble_eq_true rfl⟩ dX5_mixFeedersAndPlaces_93 rfl (insW_of rfl rfl rfl) rfl rfl rfl ?_
              refine V.lstore_n (lv2 := [(3, .long (mx h2 (Int32.toInt64 (z (76 + 5 * p + k))))), (6, .int (nI k)), (5, .int (nI p)), (0, .ref o), (1, .long h0)]) dX5_mixFeedersAndPlaces_96 rfl (by decide) rfl ?_
              refine V.iinc (v := nI (k + 1)) (lv2 := [(6, .int (nI (k + 1))), (3, .long (mx h2 (Int32.toInt64 (z (76 + 5 * p + k))))), (5, .int (nI p)), (0, .ref o), (1, .long h0)]) 1 rfl dX5_mixFeedersAndPlaces_97 (nI_add k 1) (by decide) rfl ?_
              refine V.goto (tgt := 71) dX5_mixFeedersAndPlaces_100 (by decide) ?_
              refine V.eqlv (lv2 := [(6, .int (nI (k + 1))), (5, .int (nI p)), (3, .long (mx h2 (Int32.toInt64 (z (76 + 5 * p + k))))), (0, .ref o), (1, .long h0)]) [0, 2, 1, 3, 4] rfl ?_
              exact ih (k + 1) (dpF z p k h2) (by omega) hf4
          refine V.eqlv (lv2 := [(6, .int 0), (5, .int (nI p)), (3, .long hh), (0, .ref o), (1, .long h0)]) [0, 1, 2, 3, 4] rfl ?_
          exact L71 5 0 hh (by omega) rfl
      refine V.eqlv (lv2 := [(5, .int 0), (3, .long (dcC z h0)), (0, .ref o), (1, .long h0)]) [0, 1, 2, 3] rfl ?_
      exact L56 (np z) 0 (dcC z h0) (by omega) rfl
    | succ kL ih =>
      intro f hh hrel hfu
      rw [fu_s] at hfu
      refine V.iload 0 rfl dX5_mixFeedersAndPlaces_5 ?_
      refine V.aload_n 2 rfl dX5_mixFeedersAndPlaces_7 rfl ?_
      refine V.get (v := .ref (b 0)) (fun w H => List.mem_cons_of_mem _ (List.mem_append_left _ (List.mem_append_left _ (List.mem_append_left _ (List.mem_append_left _ (List.mem_append_right _ H)))))) (hc := (rfl : vwCl[5]? = some (RX5, TX5, 5))) 0 0 (by decide) (List.mem_of_getElem? (i := 1) rfl) rfl rfl dX5_mixFeedersAndPlaces_8 ?_
      refine V.get (v := .int (z 5)) (fun w H => List.mem_cons_of_mem _ (List.mem_append_left _ (List.mem_append_left _ (List.mem_append_left _ (List.mem_append_right _ H))))) (hc := (rfl : vwCl[2]? = some (RX2, TX2, 12))) 1 0 (by decide) (List.mem_of_getElem? (i := 2) rfl) rfl rfl dX5_mixFeedersAndPlaces_11 ?_
      rw [hF]
      refine V.icmp_ge_f (tgt := 53) (by exact nI_ge (a := f) (b := nf z) (by omega) (by omega)) dX5_mixFeedersAndPlaces_14 (by decide) ?_
      refine V.iconst (v := 0) dX5_mixFeedersAndPlaces_17 (by decide) ?_
      refine V.istore (lv2 := [(6, .int 0), (5, .int (nI f)), (3, .long hh), (0, .ref o), (1, .long h0)]) dX5_mixFeedersAndPlaces_18 (by decide) rfl ?_
      have L20 : ∀ (kL : Nat) (k : Nat) (h2 : Int64), k + kL = 9 → (fu (dfF z f) k kL h2 = dfA z f hh) → V g rmX5_mixFeedersAndPlaces RX5 cX5_mixFeedersAndPlaces wsX5_mixFeedersAndPlaces 7 QF (XM (some .long) "mixFeedersAndPlaces") 0 0 ((HD g o b c u h x) ++ (SW g b z) ++ (SW g c y) ++ (UW g u ai pa tu) ++ (BWs g x tx (nI len) s) ++ (HW g h n sv)) 20 [(6, .int (nI k)), (5, .int (nI f)), (3, .long h2), (0, .ref o), (1, .long h0)] [] := by
        intro kL
        induction kL with
        | zero =>
          intro k h2 hrel hf2
          rw [fu_0] at hf2
          refine V.iload 0 rfl dX5_mixFeedersAndPlaces_20 ?_
          refine V.bipush (v := 8) dX5_mixFeedersAndPlaces_22 (by decide) ?_
          refine V.icmp_gt_t (tgt := 47) (by rw [show k = 9 from by omega]; decide) dX5_mixFeedersAndPlaces_24 (by decide) ?_
          subst hf2
          refine V.iinc (v := nI (f + 1)) (lv2 := [(5, .int (nI (f + 1))), (6, .int (nI k)), (3, .long (dfA z f hh)), (0, .ref o), (1, .long h0)]) 1 rfl dX5_mixFeedersAndPlaces_47 (nI_add f 1) (by decide) rfl ?_
          refine V.goto (tgt := 5) dX5_mixFeedersAndPlaces_50 (by decide) ?_
          refine V.eqlv (lv2 := [(5, .int (nI (f + 1))), (3, .long (dfA z f hh)), (0, .ref o), (1, .long h0)]) [0, 2, 3, 4] rfl ?_
          exact ih (f + 1) (dfA z f hh) (by omega) hfu
        | succ kL ih =>
          intro k h2 hrel hf2
          rw [fu_s] at hf2
          refine V.iload 0 rfl dX5_mixFeedersAndPlaces_20 ?_
          refine V.bipush (v := 8) dX5_mixFeedersAndPlaces_22 (by decide) ?_
          refine V.icmp_gt_f (tgt := 47) (by exact nI_nlt (a := 8) (b := k) (by omega) (by decide)) dX5_mixFeedersAndPlaces_24 (by decide) ?_
          refine V.lload_n 2 rfl dX5_mixFeedersAndPlaces_27 rfl ?_
          refine V.aload_n 3 rfl dX5_mixFeedersAndPlaces_28 rfl ?_
          refine V.iload 1 rfl dX5_mixFeedersAndPlaces_29 ?_
          refine V.iload 0 rfl dX5_mixFeedersAndPlaces_31 ?_
          refine V.callVP (F := []) [.int (nI f), .int (nI k)] [.long h2] (kX5_feeder_U g o b c u h x z y ai pa tu tx len s n sv f k hF hF8 (by omega) (by omega)) gX5_mixFeedersAndPlaces_X5_feeder rfl (by show _ ∧ _ ∧ _ ∧ _ = some (2 : Nat); decide +kernel) ⟨(Nat.le_of_ble_eq_true rfl), (Nat.le_of_ble_eq_true rfl)⟩ (hc := (rfl : vwCl[5]? = some (RX5, TX5, 5))) 0 rfl (by rw [List.append_nil]; exact List.Perm.refl _) rfl (Nat.le_of_ble_eq_true rfl) ⟨(Nat.le_of_ble_eq_true rfl), (Nat.le_of_ble_eq_true rfl)⟩ dX5_mixFeedersAndPlaces_33 (fun r w hq2 => by rw [hq2.2]; exact FST.of GW_fe) (fun r w hq2 => ?_)
          obtain ⟨rfl, rfl⟩ := hq2
          refine V.eqws (ws2 := (HD g o b c u h x) ++ (SW g b z) ++ (SW g c y) ++ (UW g u ai pa tu) ++ (BWs g x tx (nI len) s) ++ (HW g h n sv)) (List.append_nil _) ?_
          refine V.eqst (st2 := [.int (fN z f k), .long h2]) rfl ?_
          refine V.i2l dX5_mixFeedersAndPlaces_36 ?_
          refine V.callSf (ws2 := (HD g o b c u h x) ++ (SW g b z) ++ (SW g c y) ++ (UW g u ai pa tu) ++ (BWs g x tx (nI len) s) ++ (HW g h n sv)) (st2 := [.long (mx h2 (Int32.toInt64 (fN z f k)))]) [.long h2, .long (Int32.toInt64 (fN z f k))] [] (kX5_mix g h2 (Int32.toInt64 (fN z f k)) ) gX5_mixFeedersAndPlaces_X5_mix rfl (by show _ ∧ _ ∧ _ = some (2 : Nat); decide +kernel) ⟨Nat.le_of_ble_eq_true rfl, Nat.le_of_ble_eq_true rfl⟩ [] (by decide) rfl rfl (Nat.le_of_ble_eq_true rfl) ⟨Nat.le_of_ble_eq_true rfl, Nat.le_of_ble_eq_true rfl⟩ dX5_mixFeedersAndPlaces_37 rfl (insW_of rfl rfl rfl) rfl rfl rfl ?_
          refine V.lstore_n (lv2 := [(3, .long (mx h2 (Int32.toInt64 (fN z f k)))), (6, .int (nI k)), (5, .int (nI f)), (0, .ref o), (1, .long h0)]) dX5_mixFeedersAndPlaces_40 rfl (by decide) rfl ?_
          refine V.iinc (v := nI (k + 1)) (lv2 := [(6, .int (nI (k + 1))), (3, .long (mx h2 (Int32.toInt64 (fN z f k)))), (5, .int (nI f)), (0, .ref o), (1, .long h0)]) 1 rfl dX5_mixFeedersAndPlaces_41 (nI_add k 1) (by decide) rfl ?_
          refine V.goto (tgt := 20) dX5_mixFeedersAndPlaces_44 (by decide) ?_
          refine V.eqlv (lv2 := [(6, .int (nI (k + 1))), (5, .int (nI f)), (3, .long (mx h2 (Int32.toInt64 (fN z f k)))), (0, .ref o), (1, .long h0)]) [0, 2, 1, 3, 4] rfl ?_
          exact ih (k + 1) (dfF z f k h2) (by omega) hf2
      refine V.eqlv (lv2 := [(6, .int 0), (5, .int (nI f)), (3, .long hh), (0, .ref o), (1, .long h0)]) [0, 1, 2, 3, 4] rfl ?_
      exact L20 9 0 hh (by omega) rfl
  refine V.eqlv (lv2 := [(5, .int 0), (3, .long h0), (0, .ref o), (1, .long h0)]) [0, 1, 2, 3] rfl ?_
  exact L5 (nf z) 0 h0 (by omega) rfl
abbrev rmX5_mixNozzle : Room := { frames := 4, cells := 0, slots := 0, locals := 94 }
set_option maxHeartbeats 4000000 in
set_option maxRecDepth 100000 in
theorem kX5_mixNozzle (g : GT) (o : Nat) (b c u h x : Nat → Nat) (z y ai pa tu tx : Nat → Int32) (len : Nat) (s : BS) (n : Nat) (sv : SV) (h0 : Int64) (m : Nat) (hV : TV z) (hm : m < 4) : UC g yX5_mixNozzle wsX5_mixNozzle rmX5_mixNozzle [.ref o, .long h0, .int (nI m)] (GW g o b c u h x z y ai pa tu tx len s n sv) (fun v w => v = some (.long (mnZ z m (lA z ai m) h0)) ∧ w = GW g o b c u h x z y (lA z ai) pa tu tx len s n sv) := by
  refine UC.ofV (cc := cX5_mixNozzle) (maxL := 7) (ret := some .long) (lv0 := [(0, .ref o), (1, .long h0), (3, .int (nI m))]) (by decide) rfl (Nat.le_of_ble_eq_true rfl) rfl ?_
  generalize hQF : QFr g rmX5_mixNozzle (fun v w => v = some (.long (mnZ z m (lA z ai m) h0)) ∧ w = GW g o b c u h x z y (lA z ai) pa tu tx len s n sv) = QF
  have hq : QFok g rmX5_mixNozzle (fun v w => v = some (.long (mnZ z m (lA z ai m) h0)) ∧ w = GW g o b c u h x z y (lA z ai) pa tu tx len s n sv) QF := hQF ▸ QFr.q
  have hF8 : nf z ≤ 8 := hV.nf
  refine V.eqws (ws2 := (HD g o b c u h x) ++ (SW g b z) ++ (SW g c y) ++ (UW g u ai pa tu) ++ (BWs g x tx (nI len) s) ++ (HW g h n sv)) rfl ?_
  refine V.lload_n 1 rfl dX5_mixNozzle_0 rfl ?_
  refine V.lstore (lv2 := [(4, .long h0), (0, .ref o), (1, .long h0), (3, .int (nI m))]) dX5_mixNozzle_1 (by decide) rfl ?_
  refine V.iconst (v := 0) dX5_mixNozzle_3 (by decide) ?_
  refine V.istore (lv2 := [(6, .int 0), (4, .long h0), (0, .ref o), (1, .long h0), (3, .int (nI m))]) dX5_mixNozzle_4 (by decide) rfl ?_
  have L6 : ∀ (kL : Nat) (k : Nat) (ha : Int64), k + kL = 5 → (fu (fun k h => mx h (z (196 + 5 * m + k)).toInt64) k kL ha = mnA z m h0) → V g rmX5_mixNozzle RX5 cX5_mixNozzle wsX5_mixNozzle 7 QF (XM (some .long) "mixNozzle") 0 0 ((HD g o b c u h x) ++ (SW g b z) ++ (SW g c y) ++ (UW g u ai pa tu) ++ (BWs g x tx (nI len) s) ++ (HW g h n sv)) 6 [(6, .int (nI k)), (4, .long ha), (0, .ref o), (1, .long h0), (3, .int (nI m))] [] := by
    intro kL
    induction kL with
    | zero =>
      intro k ha hrel h5
      rw [fu_0] at h5
      refine V.iload 0 rfl dX5_mixNozzle_6 ?_
      refine V.iconst (v := 5) dX5_mixNozzle_8 (by decide) ?_
      refine V.icmp_ge_t (tgt := 39) (by rw [show k = 5 from by omega]; decide) dX5_mixNozzle_9 (by decide) ?_
      subst h5
      refine V.iconst (v := 0) dX5_mixNozzle_39 (by decide) ?_
      refine V.istore (lv2 := [(6, .int 0), (4, .long (mnA z m h0)), (0, .ref o), (1, .long h0), (3, .int (nI m))]) dX5_mixNozzle_40 (by decide) rfl ?_
      have L42 : ∀ (kL : Nat) (f : Nat) (hb : Int64), f + kL = nf z → (fu (fun f h => mx h (z (216 + 8 * m + f)).toInt64) f kL hb = mnB z m (mnA z m h0)) → V g rmX5_mixNozzle RX5 cX5_mixNozzle wsX5_mixNozzle 7 QF (XM (some .long) "mixNozzle") 0 0 ((HD g o b c u h x) ++ (SW g b z) ++ (SW g c y) ++ (UW g u ai pa tu) ++ (BWs g x tx (nI len) s) ++ (HW g h n sv)) 42 [(6, .int (nI f)), (4, .long hb), (0, .ref o), (1, .long h0), (3, .int (nI m))] [] := by
        intro kL
        induction kL with
        | zero =>
          intro f hb hrel h6
          rw [fu_0] at h6
          refine V.iload 0 rfl dX5_mixNozzle_42 ?_
          refine V.aload_n 2 rfl dX5_mixNozzle_44 rfl ?_
          refine V.get (v := .ref (b 0)) (fun w H => List.mem_cons_of_mem _ (List.mem_append_left _ (List.mem_append_left _ (List.mem_append_left _ (List.mem_append_left _ (List.mem_append_right _ H)))))) (hc := (rfl : vwCl[5]? = some (RX5, TX5, 5))) 0 0 (by decide) (List.mem_of_getElem? (i := 1) rfl) rfl rfl dX5_mixNozzle_45 ?_
          refine V.get (v := .int (z 5)) (fun w H => List.mem_cons_of_mem _ (List.mem_append_left _ (List.mem_append_left _ (List.mem_append_left _ (List.mem_append_right _ H))))) (hc := (rfl : vwCl[2]? = some (RX2, TX2, 12))) 1 0 (by decide) (List.mem_of_getElem? (i := 3) rfl) rfl rfl dX5_mixNozzle_48 ?_
          rw [hV.1.1]
          refine V.icmp_ge_t (tgt := 81) (by exact nI_le (a := nf z) (b := f) (by omega) (by omega)) dX5_mixNozzle_51 (by decide) ?_
          subst h6
          refine V.iconst (v := 0) dX5_mixNozzle_81 (by decide) ?_
          refine V.istore (lv2 := [(6, .int 0), (4, .long (mnB z m (mnA z m h0))), (0, .ref o), (1, .long h0), (3, .int (nI m))]) dX5_mixNozzle_82 (by decide) rfl ?_
          have L84 : ∀ (kL : Nat) (k : Nat) (hc : Int64), k + kL = 6 → (fu (fun k h => mx h (en (cho z m (nI k))).toInt64) k kL hc = mnC z m (mnB z m (mnA z m h0))) → V g rmX5_mixNozzle RX5 cX5_mixNozzle wsX5_mixNozzle 7 QF (XM (some .long) "mixNozzle") 0 0 ((HD g o b c u h x) ++ (SW g b z) ++ (SW g c y) ++ (UW g u ai pa tu) ++ (BWs g x tx (nI len) s) ++ (HW g h n sv)) 84 [(6, .int (nI k)), (4, .long hc), (0, .ref o), (1, .long h0), (3, .int (nI m))] [] := by
            intro kL
            induction kL with
            | zero =>
              intro k hc hrel h7
              rw [fu_0] at h7
              refine V.iload 0 rfl dX5_mixNozzle_84 ?_
              refine V.iconst (v := 5) dX5_mixNozzle_86 (by decide) ?_
              refine V.icmp_gt_t (tgt := 114) (by rw [show k = 6 from by omega]; decide) dX5_mixNozzle_87 (by decide) ?_
              subst h7
              refine V.lload 1 rfl dX5_mixNozzle_114 ?_
              refine V.aload_n 2 rfl dX5_mixNozzle_116 rfl ?_
              refine V.iload_n 4 rfl dX5_mixNozzle_117 rfl ?_
              refine V.callVP (F := []) [.int (nI m)] [.long (mnC z m (mnB z m (mnA z m h0)))] (kX5_aim_U g o b c u h x z y ai pa tu tx len s n sv m hV hm) gX5_mixNozzle_X5_aim rfl (by show _ ∧ _ ∧ _ ∧ _ = some (1 : Nat); decide +kernel) ⟨(Nat.le_of_ble_eq_true rfl), (Nat.le_of_ble_eq_true rfl)⟩ (hc := (rfl : vwCl[5]? = some (RX5, TX5, 5))) 0 rfl (by rw [List.append_nil]; exact List.Perm.refl _) rfl (Nat.le_of_ble_eq_true rfl) ⟨(Nat.le_of_ble_eq_true rfl), (Nat.le_of_ble_eq_true rfl)⟩ dX5_mixNozzle_118 (fun r w hq2 => by rw [hq2.2]; exact FST.of GW_fe) (fun r w hq2 => ?_)
              obtain ⟨rfl, rfl⟩ := hq2
              refine V.eqws (ws2 := (HD g o b c u h x) ++ (SW g b z) ++ (SW g c y) ++ (UW g u (lA z ai) pa tu) ++ (BWs g x tx (nI len) s) ++ (HW g h n sv)) (List.append_nil _) ?_
              refine V.eqst (st2 := [.int (lA z ai m), .long (mnC z m (mnB z m (mnA z m h0)))]) rfl ?_
              refine V.i2l dX5_mixNozzle_121 ?_
              refine V.callSf (ws2 := (HD g o b c u h x) ++ (SW g b z) ++ (SW g c y) ++ (UW g u (lA z ai) pa tu) ++ (BWs g x tx (nI len) s) ++ (HW g h n sv)) (st2 := [.long (mx (mnC z m (mnB z m (mnA z m h0))) (Int32.toInt64 (lA z ai m)))]) [.long (mnC z m (mnB z m (mnA z m h0))), .long (Int32.toInt64 (lA z ai m))] [] (kX5_mix g (mnC z m (mnB z m (mnA z m h0))) (Int32.toInt64 (lA z ai m)) ) gX5_mixNozzle_X5_mix rfl (by show _ ∧ _ ∧ _ = some (2 : Nat); decide +kernel) ⟨Nat.le_of_ble_eq_true rfl, Nat.le_of_ble_eq_true rfl⟩ [] (by decide) rfl rfl (Nat.le_of_ble_eq_true rfl) ⟨Nat.le_of_ble_eq_true rfl, Nat.le_of_ble_eq_true rfl⟩ dX5_mixNozzle_122 rfl (insW_of rfl rfl rfl) rfl rfl rfl ?_
              exact V.lret hq XM.r (Nat.le_of_ble_eq_true rfl) (Nat.le_of_ble_eq_true rfl) ⟨rfl, rfl⟩ dX5_mixNozzle_125
            | succ kL ih =>
              intro k hc hrel h7
              rw [fu_s] at h7
              refine V.iload 0 rfl dX5_mixNozzle_84 ?_
              refine V.iconst (v := 5) dX5_mixNozzle_86 (by decide) ?_
              refine V.icmp_gt_f (tgt := 114) (by exact nI_nlt (a := 5) (b := k) (by omega) (by decide)) dX5_mixNozzle_87 (by decide) ?_
              refine V.lload 1 rfl dX5_mixNozzle_90 ?_
              refine V.aload_n 2 rfl dX5_mixNozzle_92 rfl ?_
              refine V.get (v := .ref (b 0)) (fun w H => List.mem_cons_of_mem _ (List.mem_append_left _ (List.mem_append_left _ (List.mem_append_left _ (List.mem_append_left _ (List.mem_append_right _ H)))))) (hc := (rfl : vwCl[5]? = some (RX5, TX5, 5))) 0 0 (by decide) (List.mem_of_getElem? (i := 1) rfl) rfl rfl dX5_mixNozzle_93 ?_
              refine V.iload_n 4 rfl dX5_mixNozzle_96 rfl ?_
              refine V.iload 0 rfl dX5_mixNozzle_97 ?_
              refine V.callVPf (ws2 := (HD g o b c u h x) ++ (SW g b z) ++ (SW g c y) ++ (UW g u ai pa tu) ++ (BWs g x tx (nI len) s) ++ (HW g h n sv)) (st2 := [.int (en (cho z m (nI k))), .long hc]) [.int (nI m), .int (nI k)] [.long hc] (kX2_favorite g b z m (nI k) hm hV.1.1 hF8 (ABF.of hV.2.1)) gX5_mixNozzle_X2_favorite rfl (by show _ ∧ _ ∧ _ ∧ _ = some (2 : Nat); decide +kernel) ⟨Nat.le_of_ble_eq_true rfl, Nat.le_of_ble_eq_true rfl⟩ (hc := (rfl : vwCl[2]? = some (RX2, TX2, 12))) 0 rfl pv6_1 rfl (Nat.le_of_ble_eq_true rfl) ⟨Nat.le_of_ble_eq_true rfl, Nat.le_of_ble_eq_true rfl⟩ dX5_mixNozzle_99 SWm pv6_1.symm rfl rfl rfl ?_
              refine V.i2l dX5_mixNozzle_102 ?_
              refine V.callSf (ws2 := (HD g o b c u h x) ++ (SW g b z) ++ (SW g c y) ++ (UW g u ai pa tu) ++ (BWs g x tx (nI len) s) ++ (HW g h n sv)) (st2 := [.long (mx hc (Int32.toInt64 (en (cho z m (nI k)))))]) [.long hc, .long (Int32.toInt64 (en (cho z m (nI k))))] [] (kX5_mix g hc (Int32.toInt64 (en (cho z m (nI k)))) ) gX5_mixNozzle_X5_mix rfl (by show _ ∧ _ ∧ _ = some (2 : Nat); decide +kernel) ⟨Nat.le_of_ble_eq_true rfl, Nat.le_of_ble_eq_true rfl⟩ [] (by decide) rfl rfl (Nat.le_of_ble_eq_true rfl) ⟨Nat.le_of_ble_eq_true rfl, Nat.le_of_ble_eq_true rfl⟩ dX5_mixNozzle_103 rfl (insW_of rfl rfl rfl) rfl rfl rfl ?_
              refine V.lstore (lv2 := [(4, .long (mx hc (Int32.toInt64 (en (cho z m (nI k)))))), (6, .int (nI k)), (0, .ref o), (1, .long h0), (3, .int (nI m))]) dX5_mixNozzle_106 (by decide) rfl ?_
              refine V.iinc (v := nI (k + 1)) (lv2 := [(6, .int (nI (k + 1))), (4, .long (mx hc (Int32.toInt64 (en (cho z m (nI k)))))), (0, .ref o), (1, .long h0), (3, .int (nI m))]) 1 rfl dX5_mixNozzle_108 (nI_add k 1) (by decide) rfl ?_
              refine V.goto (tgt := 84) dX5_mixNozzle_111 (by decide) ?_
              refine V.eqlv (lv2 := [(6, .int (nI (k + 1))), (4, .long (mx hc (Int32.toInt64 (en (cho z m (nI k)))))), (0, .ref o), (1, .long h0), (3, .int (nI m))]) [0, 1, 2, 3, 4] rfl ?_
              exact ih (k + 1) (mx hc (en (cho z m (nI k))).toInt64) (by omega) h7
          refine V.eqlv (lv2 := [(6, .int 0), (4, .long (mnB z m (mnA z m h0))), (0, .ref o), (1, .long h0), (3, .int (nI m))]) [0, 1, 2, 3, 4] rfl ?_
          exact L84 6 0 (mnB z m (mnA z m h0)) (by omega) rfl
        | succ kL ih =>
          intro f hb hrel h6
          rw [fu_s] at h6
          refine V.iload 0 rfl dX5_mixNozzle_42 ?_
          refine V.aload_n 2 rfl dX5_mixNozzle_44 rfl ?_
          refine V.get (v := .ref (b 0)) (fun w H => List.mem_cons_of_mem _ (List.mem_append_left _ (List.mem_append_left _ (List.mem_append_left _ (List.mem_append_left _ (List.mem_append_right _ H)))))) (hc := (rfl : vwCl[5]? = some (RX5, TX5, 5))) 0 0 (by decide) (List.mem_of_getElem? (i := 1) rfl) rfl rfl dX5_mixNozzle_45 ?_
          refine V.get (v := .int (z 5)) (fun w H => List.mem_cons_of_mem _ (List.mem_append_left _ (List.mem_append_left _ (List.mem_append_left _ (List.mem_append_right _ H))))) (hc := (rfl : vwCl[2]? = some (RX2, TX2, 12))) 1 0 (by decide) (List.mem_of_getElem? (i := 3) rfl) rfl rfl dX5_mixNozzle_48 ?_
          rw [hV.1.1]
          refine V.icmp_ge_f (tgt := 81) (by exact nI_ge (a := f) (b := nf z) (by omega) (by omega)) dX5_mixNozzle_51 (by decide) ?_
          refine V.lload 1 rfl dX5_mixNozzle_54 ?_
          refine V.aload_n 2 rfl dX5_mixNozzle_56 rfl ?_
          refine V.get (v := .ref (b 0)) (fun w H => List.mem_cons_of_mem _ (List.mem_append_left _ (List.mem_append_left _ (List.mem_append_left _ (List.mem_append_left _ (List.mem_append_right _ H)))))) (hc := (rfl : vwCl[5]? = some (RX5, TX5, 5))) 0 0 (by decide) (List.mem_of_getElem? (i := 1) rfl) rfl rfl dX5_mixNozzle_57 ?_
          refine V.get (v := .ref (b 8)) (fun w H => List.mem_cons_of_mem _ (List.mem_append_left _ (List.mem_append_left _ (List.mem_append_left _ (List.mem_append_right _ H))))) (hc := (rfl : vwCl[2]? = some (RX2, TX2, 12))) 1 11 (by decide) (List.mem_of_getElem? (i := 4) rfl) rfl rfl dX5_mixNozzle_60 ?_
          refine V.iload_n 4 rfl dX5_mixNozzle_63 rfl ?_
          refine V.iload 0 rfl dX5_mixNozzle_64 ?_
          refine V.callVf (ws2 := (HD g o b c u h x) ++ (SW g b z) ++ (SW g c y) ++ (UW g u ai pa tu) ++ (BWs g x tx (nI len) s) ++ (HW g h n sv)) (st2 := [.int ((sg z 216 32) (m * 8 + f)), .long hb]) [.int (nI m), .int (nI f)] [.long hb] (kX3_at g (b 8) (b 9) 8 32 (sg z 216 32) m f (by first | omega | decide) (by first | omega | decide) (by first | omega | decide) (by first | omega | decide)) gX5_mixNozzle_X3_at rfl (by show _ ∧ _ ∧ _ ∧ _ = some (2 : Nat); decide +kernel) ⟨Nat.le_of_ble_eq_true rfl, Nat.le_of_ble_eq_true rfl⟩ (hc := (rfl : vwCl[3]? = some (RX3, TX3, 2))) 9 rfl [9, 10] (by decide) rfl rfl (Nat.le_of_ble_eq_true rfl) ⟨Nat.le_of_ble_eq_true rfl, Nat.le_of_ble_eq_true rfl⟩ dX5_mixNozzle_66 TWf (insW_of rfl rfl rfl) rfl rfl rfl ?_
          rw [sg_r (z := z) (o := 216) (n := 32) (r := m) (C := 8) (k := f) (by omega)]
          refine V.i2l dX5_mixNozzle_69 ?_
          refine V.callSf (ws2 := (HD g o b c u h x) ++ (SW g b z) ++ (SW g c y) ++ (UW g u ai pa tu) ++ (BWs g x tx (nI len) s) ++ (HW g h n sv)) (st2 := [.long (mx hb (Int32.toInt64 (z (216 + 8 * m + f))))]) [.long hb, .long (Int32.toInt64 (z (216 + 8 * m + f)))] [] (kX5_mix g hb (Int32.toInt64 (z (216 + 8 * m + f))) ) gX5_mixNozzle_X5_mix rfl (by show _ ∧ _ ∧ _ = some (2 : Nat); decide +kernel) ⟨Nat.le_of_ble_eq_true rfl, Nat.le_of_ble_eq_true rfl⟩ [] (by decide) rfl rfl (Nat.le_of_ble_eq_true rfl) ⟨Nat.le_of_ble_eq_true rfl, Nat.le_of_ble_eq_true rfl⟩ dX5_mixNozzle_70 rfl (insW_of rfl rfl rfl) rfl rfl rfl ?_
          refine V.lstore (lv2 := [(4, .long (mx hb (Int32.toInt64 (z (216 + 8 * m + f))))), (6, .int (nI f)), (0, .ref o), (1, .long h0), (3, .int (nI m))]) dX5_mixNozzle_73 (by decide) rfl ?_
          refine V.iinc (v := nI (f + 1)) (lv2 := [(6, .int (nI (f + 1))), (4, .long (mx hb (Int32.toInt64 (z (216 + 8 * m + f))))), (0, .ref o), (1, .long h0), (3, .int (nI m))]) 1 rfl dX5_mixNozzle_75 (nI_add f 1) (by decide) rfl ?_
          refine V.goto (tgt := 42) dX5_mixNozzle_78 (by decide) ?_
          refine V.eqlv (lv2 := [(6, .int (nI (f + 1))), (4, .long (mx hb (Int32.toInt64 (z (216 + 8 * m + f))))), (0, .ref o), (1, .long h0), (3, .int (nI m))]) [0, 1, 2, 3, 4] rfl ?_
          exact ih (f + 1) (mx hb (z (216 + 8 * m + f)).toInt64) (by omega) h6
      refine V.eqlv (lv2 := [(6, .int 0), (4, .long (mnA z m h0)), (0, .ref o), (1, .long h0), (3, .int (nI m))]) [0, 1, 2, 3, 4] rfl ?_
      exact L42 (nf z) 0 (mnA z m h0) (by omega) rfl
    | succ kL ih =>
      intro k ha hrel h5
      rw [fu_s] at h5
      refine V.iload 0 rfl dX5_mixNozzle_6 ?_
      refine V.iconst (v := 5) dX5_mixNozzle_8 (by decide) ?_
      refine V.icmp_ge_f (tgt := 39) (by exact nI_ge (a := k) (b := 5) (by omega) (by decide)) dX5_mixNozzle_9 (by decide) ?_
      refine V.lload 1 rfl dX5_mixNozzle_12 ?_
      refine V.aload_n 2 rfl dX5_mixNozzle_14 rfl ?_
      refine V.get (v := .ref (b 0)) (fun w H => List.mem_cons_of_mem _ (List.mem_append_left _ (List.mem_append_left _ (List.mem_append_left _ (List.mem_append_left _ (List.mem_append_right _ H)))))) (hc := (rfl : vwCl[5]? = some (RX5, TX5, 5))) 0 0 (by decide) (List.mem_of_getElem? (i := 1) rfl) rfl rfl dX5_mixNozzle_15 ?_
      refine V.get (v := .ref (b 6)) (fun w H => List.mem_cons_of_mem _ (List.mem_append_left _ (List.mem_append_left _ (List.mem_append_left _ (List.mem_append_right _ H))))) (hc := (rfl : vwCl[2]? = some (RX2, TX2, 12))) 1 10 (by decide) (List.mem_of_getElem? (i := 2) rfl) rfl rfl dX5_mixNozzle_18 ?_
      refine V.iload_n 4 rfl dX5_mixNozzle_21 rfl ?_
      refine V.iload 0 rfl dX5_mixNozzle_22 ?_
      refine V.callVf (ws2 := (HD g o b c u h x) ++ (SW g b z) ++ (SW g c y) ++ (UW g u ai pa tu) ++ (BWs g x tx (nI len) s) ++ (HW g h n sv)) (st2 := [.int ((sg z 196 20) (m * 5 + k)), .long ha]) [.int (nI m), .int (nI k)] [.long ha] (kX3_at g (b 6) (b 7) 5 20 (sg z 196 20) m k (by first | omega | decide) (by first | omega | decide) (by first | omega | decide) (by first | omega | decide)) gX5_mixNozzle_X3_at rfl (by show _ ∧ _ ∧ _ ∧ _ = some (2 : Nat); decide +kernel) ⟨Nat.le_of_ble_eq_true rfl, Nat.le_of_ble_eq_true rfl⟩ (hc := (rfl : vwCl[3]? = some (RX3, TX3, 2))) 7 rfl [7, 8] (by decide) rfl rfl (Nat.le_of_ble_eq_true rfl) ⟨Nat.le_of_ble_eq_true rfl, Nat.le_of_ble_eq_true rfl⟩ dX5_mixNozzle_24 TWf (insW_of rfl rfl rfl) rfl rfl rfl ?_
      rw [sg_r (z := z) (o := 196) (n := 20) (r := m) (C := 5) (k := k) (by omega)]
      refine V.i2l dX5_mixNozzle_27 ?_
      refine V.callSf (ws2 := (HD g o b c u h x) ++ (SW g b z) ++ (SW g c y) ++ (UW g u ai pa tu) ++ (BWs g x tx (nI len) s) ++ (HW g h n sv)) (st2 := [.long (mx ha (Int32.toInt64 (z (196 + 5 * m + k))))]) [.long ha, .long (Int32.toInt64 (z (196 + 5 * m + k)))] [] (kX5_mix g ha (Int32.toInt64 (z (196 + 5 * m + k))) ) gX5_mixNozzle_X5_mix rfl (by show _ ∧ _ ∧ _ = some (2 : Nat); decide +kernel) ⟨Nat.le_of_ble_eq_true rfl, Nat.le_of_ble_eq_true rfl⟩ [] (by decide) rfl rfl (Nat.le_of_ble_eq_true rfl) ⟨Nat.le_of_ble_eq_true rfl, Nat.le_of_ble_eq_true rfl⟩ dX5_mixNozzle_28 rfl (insW_of rfl rfl rfl) rfl rfl rfl ?_
      refine V.lstore (lv2 := [(4, .long (mx ha (Int32.toInt64 (z (196 + 5 * m + k))))), (6, .int (nI k)), (0, .ref o), (1, .long h0), (3, .int (nI m))]) dX5_mixNozzle_31 (by decide) rfl ?_
      refine V.iinc (v := nI (k + 1)) (lv2 := [(6, .int (nI (k + 1))), (4, .long (mx ha (Int32.toInt64 (z (196 + 5 * m + k))))), (0, .ref o), (1, .long h0), (3, .int (nI m))]) 1 rfl dX5_mixNozzle_33 (nI_add k 1) (by decide) rfl ?_
      refine V.goto (tgt := 6) dX5_mixNozzle_36 (by decide) ?_
      refine V.eqlv (lv2 := [(6, .int (nI (k + 1))), (4, .long (mx ha (Int32.toInt64 (z (196 + 5 * m + k))))), (0, .ref o), (1, .long h0), (3, .int (nI m))]) [0, 1, 2, 3, 4] rfl ?_
      exact ih (k + 1) (mx ha (z (196 + 5 * m + k)).toInt64) (by omega) h5
  refine V.eqlv (lv2 := [(6, .int 0), (4, .long h0), (0, .ref o), (1, .long h0), (3, .int (nI m))]) [0, 1, 2, 3, 4] rfl ?_
  exact L6 5 0 h0 (by omega) rfl
abbrev rmX5_digest : Room := { frames := 6, cells := 0, slots := 0, locals := 147 }
set_option maxHeartbeats 4000000 in
set_option maxRecDepth 100000 in
theorem kX5_digest (g : GT) (o : Nat) (b c u h x : Nat → Nat) (z y ai pa tu tx : Nat → Int32) (len : Nat) (s : BS) (n : Nat) (sv : SV) (hV : TV z) (hl : len ≤ 60) (hne : ¬ sN z 1 = 0 → vf_n64 (FP.ddiv (FP.i2d (sN z 2)) (FP.i2d (sN z 1)))) (hT : 0 ≤ (sN z 1).toInt) (hS : SH (shr z)) : UC g yX5_digest wsX5_digest rmX5_digest [.ref o] (GW g o b c u h x z y ai pa tu tx len s n sv) (fun v w => v = some (.long (dgI tx len (dgH z (cG z n ai pa tu y).1))) ∧ w = GW g o b c u h x z ((cG z n ai pa tu y).2.2.2.2) ((cG z n ai pa tu y).2.1) ((cG z n ai pa tu y).2.2.1) ((cG z n ai pa tu y).2.2.2.1) tx len s n sv) := by
  refine UC.ofV (cc := cX5_digest) (maxL := 4) (ret := some .long) (lv0 := [(0, .ref o)]) (by decide) rfl (Nat.le_of_ble_eq_true rfl) rfl ?_
  generalize hQF : QFr g rmX5_digest (fun v w => v = some (.long (dgI tx len (dgH z (cG z n ai pa tu y).1))) ∧ w = GW g o b c u h x z ((cG z n ai pa tu y).2.2.2.2) ((cG z n ai pa tu y).2.1) ((cG z n ai pa tu y).2.2.1) ((cG z n ai pa tu y).2.2.2.1) tx len s n sv) = QF
  have hq : QFok g rmX5_digest (fun v w => v = some (.long (dgI tx len (dgH z (cG z n ai pa tu y).1))) ∧ w = GW g o b c u h x z ((cG z n ai pa tu y).2.2.2.2) ((cG z n ai pa tu y).2.1) ((cG z n ai pa tu y).2.2.1) ((cG z n ai pa tu y).2.2.2.1) tx len s n sv) QF := hQF ▸ QFr.q
  have hF : z 5 = nI (nf z) := hV.1.1
  have hF8 : nf z ≤ 8 := hV.nf
  have hP : z 6 = nI (np z) := hV.1.2.2.1
  have hP24 : np z ≤ 24 := hV.np
  refine V.eqws (ws2 := (HD g o b c u h x) ++ (SW g b z) ++ (SW g c y) ++ (UW g u ai pa tu) ++ (BWs g x tx (nI len) s) ++ (HW g h n sv)) rfl ?_
  refine V.ldc2 (v := 2467) (by decide +kernel) dX5_digest_0 ?_
  refine V.lstore_n (lv2 := [(1, .long (2467 : Int64)), (0, .ref o)]) dX5_digest_3 rfl (by decide) rfl ?_
  refine V.iconst (v := 0) dX5_digest_4 (by decide) ?_
  refine V.istore_n (lv2 := [(3, .int 0), (1, .long (2467 : Int64)), (0, .ref o)]) dX5_digest_5 rfl (by decide) rfl ?_
  have L6 : ∀ (kL : Nat) (i : Nat) (ha : Int64), i + kL = 14 → (fu (fun k h => mx h (ctd z n k).toInt64) i kL ha = dgA z n) → V g rmX5_digest RX5 cX5_digest wsX5_digest 4 QF (XM (some .long) "digest") 0 0 ((HD g o b c u h x) ++ (SW g b z) ++ (SW g c y) ++ (UW g u ai pa tu) ++ (BWs g x tx (nI len) s) ++ (HW g h n sv)) 6 [(3, .int (nI i)), (1, .long ha), (0, .ref o)] [] := by
    intro kL
    induction kL with
    | zero =>
      intro i ha hrel hfa
      rw [fu_0] at hfa
      refine V.iload_n 0 rfl dX5_digest_6 rfl ?_
      refine V.bipush (v := 13) dX5_digest_7 (by decide) ?_
      refine V.icmp_gt_t (tgt := 29) (by rw [show i = 14 from by omega]; decide) dX5_digest_9 (by decide) ?_
      subst hfa
      refine V.iconst (v := 0) dX5_digest_29 (by decide) ?_
      refine V.istore_n (lv2 := [(3, .int 0), (1, .long (dgA z n)), (0, .ref o)]) dX5_digest_30 rfl (by decide) rfl ?_
      have L31 : ∀ (kL : Nat) (i : Nat) (hb : Int64), i + kL = 5 → (fu (fun k h => mx h (z (0 + k)).toInt64) i kL hb = dgB z (dgA z n)) → V g rmX5_digest RX5 cX5_digest wsX5_digest 4 QF (XM (some .long) "digest") 0 0 ((HD g o b c u h x) ++ (SW g b z) ++ (SW g c y) ++ (UW g u ai pa tu) ++ (BWs g x tx (nI len) s) ++ (HW g h n sv)) 31 [(3, .int (nI i)), (1, .long hb), (0, .ref o)] [] := by
        intro kL
        induction kL with
        | zero =>
          intro i hb hrel hfb
          rw [fu_0] at hfb
          refine V.iload_n 0 rfl dX5_digest_31 rfl ?_
          refine V.iconst (v := 5) dX5_digest_32 (by decide) ?_
          refine V.icmp_ge_t (tgt := 57) (by rw [show i = 5 from by omega]; decide) dX5_digest_33 (by decide) ?_
          subst hfb
          refine V.aload_n 2 rfl dX5_digest_57 rfl ?_
          refine V.lload_n 1 rfl dX5_digest_58 rfl ?_
          refine V.callVP (F := []) [.long (dgB z (dgA z n))] [] (kX5_mixFeedersAndPlaces g o b c u h x z y ai pa tu tx len s n sv (dgB z (dgA z n)) hF hF8 hP hP24) gX5_digest_X5_mixFeedersAndPlaces rfl (by show _ ∧ _ ∧ _ ∧ _ = some (1 : Nat); decide +kernel) ⟨(Nat.le_of_ble_eq_true rfl), (Nat.le_of_ble_eq_true rfl)⟩ (hc := (rfl : vwCl[5]? = some (RX5, TX5, 5))) 0 rfl (by rw [List.append_nil]; exact List.Perm.refl _) rfl (Nat.le_of_ble_eq_true rfl) ⟨(Nat.le_of_ble_eq_true rfl), (Nat.le_of_ble_eq_true rfl)⟩ dX5_digest_59 (fun r w hq2 => by rw [hq2.2]; exact FST.of GW_fe) (fun r w hq2 => ?_)
          obtain ⟨rfl, rfl⟩ := hq2
          refine V.eqws (ws2 := (HD g o b c u h x) ++ (SW g b z) ++ (SW g c y) ++ (UW g u ai pa tu) ++ (BWs g x tx (nI len) s) ++ (HW g h n sv)) (List.append_nil _) ?_
          refine V.eqst (st2 := [.long (dgD z (dgC z (dgB z (dgA z n))))]) rfl ?_
          refine V.lstore_n (lv2 := [(1, .long (dgD z (dgC z (dgB z (dgA z n))))), (3, .int (nI i)), (0, .ref o)]) dX5_digest_62 rfl (by decide) rfl ?_
          refine V.iconst (v := 0) dX5_digest_63 (by decide) ?_
          refine V.istore_n (lv2 := [(3, .int 0), (1, .long (dgD z (dgC z (dgB z (dgA z n))))), (0, .ref o)]) dX5_digest_64 rfl (by decide) rfl ?_
          have L65 : ∀ (kL : Nat) (i : Nat) (q : Int64 × (Nat → Int32)), i + kL = 4 → (fu (dgEF z) i kL q = dgE z n ai) → V g rmX5_digest RX5 cX5_digest wsX5_digest 4 QF (XM (some .long) "digest") 0 0 ((HD g o b c u h x) ++ (SW g b z) ++ (SW g c y) ++ (UW g u q.2 pa tu) ++ (BWs g x tx (nI len) s) ++ (HW g h n sv)) 65 [(3, .int (nI i)), (1, .long q.1), (0, .ref o)] [] := by
            intro kL
            induction kL with
            | zero =>
              intro i q hrel hfe
              rw [fu_0] at hfe
              refine V.iload_n 0 rfl dX5_digest_65 rfl ?_
              refine V.iconst (v := 4) dX5_digest_66 (by decide) ?_
              refine V.icmp_ge_t (tgt := 83) (by rw [show i = 4 from by omega]; decide) dX5_digest_67 (by decide) ?_
              subst hfe
              refine V.iconst (v := 0) dX5_digest_83 (by decide) ?_
              refine V.istore_n (lv2 := [(3, .int 0), (1, .long ((dgE z n ai).1)), (0, .ref o)]) dX5_digest_84 rfl (by decide) rfl ?_
              have L85 : ∀ (kL : Nat) (i : Nat) (dd : DS), i + kL = 4 → (fu (cFF z) i kL dd = cF z n ai pa tu y) → V g rmX5_digest RX5 cX5_digest wsX5_digest 4 QF (XM (some .long) "digest") 0 0 ((HD g o b c u h x) ++ (SW g b z) ++ (SW g c dd.2.2.2.2) ++ (UW g u dd.2.1 dd.2.2.1 dd.2.2.2.1) ++ (BWs g x tx (nI len) s) ++ (HW g h n sv)) 85 [(3, .int (nI i)), (1, .long dd.1), (0, .ref o)] [] := by
                intro kL
                induction kL with
                | zero =>
                  intro i dd hrel hff
                  rw [fu_0] at hff
                  refine V.iload_n 0 rfl dX5_digest_85 rfl ?_
                  refine V.iconst (v := 3) dX5_digest_86 (by decide) ?_
                  refine V.icmp_gt_t (tgt := 108) (by rw [show i = 4 from by omega]; decide) dX5_digest_87 (by decide) ?_
                  subst hff
                  refine V.lload_n 1 rfl dX5_digest_108 rfl ?_
                  refine V.aload_n 2 rfl dX5_digest_109 rfl ?_
                  refine V.callVP (F := []) [] [.long ((cF z n ai pa tu y).1)] (kX5_needed g o b c u h x z ((cF z n ai pa tu y).2.2.2.2) ((cF z n ai pa tu y).2.1) ((cF z n ai pa tu y).2.2.1) ((cF z n ai pa tu y).2.2.2.1) tx len s n sv  hV) gX5_digest_X5_needed rfl (by show _ ∧ _ ∧ _ ∧ _ = some (0 : Nat); decide +kernel) ⟨(Nat.le_of_ble_eq_true rfl), (Nat.le_of_ble_eq_true rfl)⟩ (hc := (rfl : vwCl[5]? = some (RX5, TX5, 5))) 0 rfl (by rw [List.append_nil]; exact List.Perm.refl _) rfl (Nat.le_of_ble_eq_true rfl) ⟨(Nat.le_of_ble_eq_true rfl), (Nat.le_of_ble_eq_true rfl)⟩ dX5_digest_110 (fun r w hq2 => by rw [hq2.2]; exact FST.of GW_fe) (fun r w hq2 => ?_)
                  obtain ⟨rfl, rfl⟩ := hq2
                  refine V.eqws (ws2 := (HD g o b c u h x) ++ (SW g b z) ++ (SW g c ((ncA (z, (cF z n ai pa tu y).2.1, (cF z n ai pa tu y).2.2.1, (cF z n ai pa tu y).2.2.2.1)).2.1)) ++ (UW g u ((ncA (z, (cF z n ai pa tu y).2.1, (cF z n ai pa tu y).2.2.1, (cF z n ai pa tu y).2.2.2.1)).2.2.1) ((ncA (z, (cF z n ai pa tu y).2.1, (cF z n ai pa tu y).2.2.1, (cF z n ai pa tu y).2.2.2.1)).2.2.2.1) ((ncA (z, (cF z n ai pa tu y).2.1, (cF z n ai pa tu y).2.2.1, (cF z n ai pa tu y).2.2.2.1)).2.2.2.2)) ++ (BWs g x tx (nI len) s) ++ (HW g h n sv)) (List.append_nil _) ?_
                  refine V.eqst (st2 := [.int (en (ncA (z, (cF z n ai pa tu y).2.1, (cF z n ai pa tu y).2.2.1, (cF z n ai pa tu y).2.2.2.1)).1), .long ((cF z n ai pa tu y).1)]) rfl ?_
                  refine V.i2l dX5_digest_113 ?_
                  refine V.callSf (ws2 := (HD g o b c u h x) ++ (SW g b z) ++ (SW g c ((ncA (z, (cF z n ai pa tu y).2.1, (cF z n ai pa tu y).2.2.1, (cF z n ai pa tu y).2.2.2.1)).2.1)) ++ (UW g u ((ncA (z, (cF z n ai pa tu y).2.1, (cF z n ai pa tu y).2.2.1, (cF z n ai pa tu y).2.2.2.1)).2.2.1) ((ncA (z, (cF z n ai pa tu y).2.1, (cF z n ai pa tu y).2.2.1, (cF z n ai pa tu y).2.2.2.1)).2.2.2.1) ((ncA (z, (cF z n ai pa tu y).2.1, (cF z n ai pa tu y).2.2.1, (cF z n ai pa tu y).2.2.2.1)).2.2.2.2)) ++ (BWs g x tx (nI len) s) ++ (HW g h n sv)) (st2 := [.long (mx ((cF z n ai pa tu y).1) (Int32.toInt64 (en (ncA (z, (cF z n ai pa tu y).2.1, (cF z n ai pa tu y).2.2.1, (cF z n ai pa tu y).2.2.2.1)).1)))]) [.long ((cF z n ai pa tu y).1), .long (Int32.toInt64 (en (ncA (z, (cF z n ai pa tu y).2.1, (cF z n ai pa tu y).2.2.1, (cF z n ai pa tu y).2.2.2.1)).1))] [] (kX5_mix g ((cF z n ai pa tu y).1) (Int32.toInt64 (en (ncA (z, (cF z n ai pa tu y).2.1, (cF z n ai pa tu y).2.2.1, (cF z n ai pa tu y).2.2.2.1)).1)) ) gX5_digest_X5_mix rfl (by show _ ∧ _ ∧ _ = some (2 : Nat); decide +kernel) ⟨Nat.le_of_ble_eq_true rfl, Nat.le_of_ble_eq_true rfl⟩ [] (by decide) rfl rfl (Nat.le_of_ble_eq_true rfl) ⟨Nat.le_of_ble_eq_true rfl, Nat.le_of_ble_eq_true rfl⟩ dX5_digest_114 rfl (insW_of rfl rfl rfl) rfl rfl rfl ?_
                  refine V.eqws (ws2 := (HD g o b c u h x) ++ (SW g b z) ++ (SW g c ((cG z n ai pa tu y).2.2.2.2)) ++ (UW g u ((cG z n ai pa tu y).2.1) ((cG z n ai pa tu y).2.2.1) ((cG z n ai pa tu y).2.2.2.1)) ++ (BWs g x tx (nI len) s) ++ (HW g h n sv)) rfl ?_
                  refine V.eqst (st2 := [.long ((cG z n ai pa tu y).1)]) rfl ?_
                  refine V.lstore_n (lv2 := [(1, .long ((cG z n ai pa tu y).1)), (3, .int (nI i)), (0, .ref o)]) dX5_digest_117 rfl (by decide) rfl ?_
                  refine V.lload_n 0 rfl dX5_digest_118 rfl ?_
                  refine V.aload_n 2 rfl dX5_digest_119 rfl ?_
                  refine V.callVP (F := []) [] [.long ((cG z n ai pa tu y).1)] (kX5_rumored g o b c u h x z ((cG z n ai pa tu y).2.2.2.2) ((cG z n ai pa tu y).2.1) ((cG z n ai pa tu y).2.2.1) ((cG z n ai pa tu y).2.2.2.1) tx len s n sv  hF hF8 hV.2.1.2.2.2.2) gX5_digest_X5_rumored rfl (by show _ ∧ _ ∧ _ ∧ _ = some (0 : Nat); decide +kernel) ⟨(Nat.le_of_ble_eq_true rfl), (Nat.le_of_ble_eq_true rfl)⟩ (hc := (rfl : vwCl[5]? = some (RX5, TX5, 5))) 0 rfl (by rw [List.append_nil]; exact List.Perm.refl _) rfl (Nat.le_of_ble_eq_true rfl) ⟨(Nat.le_of_ble_eq_true rfl), (Nat.le_of_ble_eq_true rfl)⟩ dX5_digest_120 (fun r w hq2 => by rw [hq2.2]; exact FST.of GW_fe) (fun r w hq2 => ?_)
                  obtain ⟨rfl, rfl⟩ := hq2
                  refine V.eqws (ws2 := (HD g o b c u h x) ++ (SW g b z) ++ (SW g c ((cG z n ai pa tu y).2.2.2.2)) ++ (UW g u ((cG z n ai pa tu y).2.1) ((cG z n ai pa tu y).2.2.1) ((cG z n ai pa tu y).2.2.2.1)) ++ (BWs g x tx (nI len) s) ++ (HW g h n sv)) (List.append_nil _) ?_
                  refine V.eqst (st2 := [.int (en (rmd z)), .long ((cG z n ai pa tu y).1)]) rfl ?_
                  refine V.i2l dX5_digest_123 ?_
                  refine V.callSf (ws2 := (HD g o b c u h x) ++ (SW g b z) ++ (SW g c ((cG z n ai pa tu y).2.2.2.2)) ++ (UW g u ((cG z n ai pa tu y).2.1) ((cG z n ai pa tu y).2.2.1) ((cG z n ai pa tu y).2.2.2.1)) ++ (BWs g x tx (nI len) s) ++ (HW g h n sv)) (st2 := [.long (mx ((cG z n ai pa tu y).1) (Int32.toInt64 (en (rmd z))))]) [.long ((cG z n ai pa tu y).1), .long (Int32.toInt64 (en (rmd z)))] [] (kX5_mix g ((cG z n ai pa tu y).1) (Int32.toInt64 (en (rmd z))) ) gX5_digest_X5_mix rfl (by show _ ∧ _ ∧ _ = some (2 : Nat); decide +kernel) ⟨Nat.le_of_ble_eq_true rfl, Nat.le_of_ble_eq_true rfl⟩ [] (by decide) rfl rfl (Nat.le_of_ble_eq_true rfl) ⟨Nat.le_of_ble_eq_true rfl, Nat.le_of_ble_eq_true rfl⟩ dX5_digest_124 rfl (insW_of rfl rfl rfl) rfl rfl rfl ?_
                  refine V.lstore_n (lv2 := [(1, .long (mx ((cG z n ai pa tu y).1) (Int32.toInt64 (en (rmd z))))), (3, .int (nI i)), (0, .ref o)]) dX5_digest_127 rfl (by decide) rfl ?_
                  refine V.lload_n 0 rfl dX5_digest_128 rfl ?_
                  refine V.aload_n 2 rfl dX5_digest_129 rfl ?_
                  refine V.callVP (F := []) [] [.long (mx ((cG z n ai pa tu y).1) (Int32.toInt64 (en (rmd z))))] (kX5_missShare g o b c u h x z ((cG z n ai pa tu y).2.2.2.2) ((cG z n ai pa tu y).2.1) ((cG z n ai pa tu y).2.2.1) ((cG z n ai pa tu y).2.2.2.1) tx len s n sv  hne hT) gX5_digest_X5_missShare rfl (by show _ ∧ _ ∧ _ ∧ _ = some (0 : Nat); decide +kernel) ⟨(Nat.le_of_ble_eq_true rfl), (Nat.le_of_ble_eq_true rfl)⟩ (hc := (rfl : vwCl[5]? = some (RX5, TX5, 5))) 0 rfl (by rw [List.append_nil]; exact List.Perm.refl _) rfl (Nat.le_of_ble_eq_true rfl) ⟨(Nat.le_of_ble_eq_true rfl), (Nat.le_of_ble_eq_true rfl)⟩ dX5_digest_130 (fun r w hq2 => by rw [hq2.2]; exact FST.of GW_fe) (fun r w hq2 => ?_)
                  obtain ⟨rfl, rfl⟩ := hq2
                  refine V.eqws (ws2 := (HD g o b c u h x) ++ (SW g b z) ++ (SW g c ((cG z n ai pa tu y).2.2.2.2)) ++ (UW g u ((cG z n ai pa tu y).2.1) ((cG z n ai pa tu y).2.2.1) ((cG z n ai pa tu y).2.2.2.1)) ++ (BWs g x tx (nI len) s) ++ (HW g h n sv)) (List.append_nil _) ?_
                  refine V.eqst (st2 := [.double (shr z), .long (mx ((cG z n ai pa tu y).1) (Int32.toInt64 (en (rmd z))))]) rfl ?_
                  refine V.callSf (ws2 := (HD g o b c u h x) ++ (SW g b z) ++ (SW g c ((cG z n ai pa tu y).2.2.2.2)) ++ (UW g u ((cG z n ai pa tu y).2.1) ((cG z n ai pa tu y).2.2.1) ((cG z n ai pa tu y).2.2.2.1)) ++ (BWs g x tx (nI len) s) ++ (HW g h n sv)) (st2 := [.long (UInt64.toInt64 (shr z)), .long (mx ((cG z n ai pa tu y).1) (Int32.toInt64 (en (rmd z))))]) [.double (shr z)] [.long (mx ((cG z n ai pa tu y).1) (Int32.toInt64 (en (rmd z))))] (kX5_bitsOfShare g (shr z) hS) gX5_digest_X5_bitsOfShare rfl (by show _ ∧ _ ∧ _ = some (1 : Nat); decide +kernel) ⟨Nat.le_of_ble_eq_true rfl, Nat.le_of_ble_eq_true rfl⟩ [] (by decide) rfl rfl (Nat.le_of_ble_eq_true rfl) ⟨Nat.le_of_ble_eq_true rfl, Nat.le_of_ble_eq_true rfl⟩ dX5_digest_133 rfl (insW_of rfl rfl rfl) rfl rfl rfl ?_
                  refine V.callSf (ws2 := (HD g o b c u h x) ++ (SW g b z) ++ (SW g c ((cG z n ai pa tu y).2.2.2.2)) ++ (UW g u ((cG z n ai pa tu y).2.1) ((cG z n ai pa tu y).2.2.1) ((cG z n ai pa tu y).2.2.2.1)) ++ (BWs g x tx (nI len) s) ++ (HW g h n sv)) (st2 := [.long (mx (mx ((cG z n ai pa tu y).1) (Int32.toInt64 (en (rmd z)))) (UInt64.toInt64 (shr z)))]) [.long (mx ((cG z n ai pa tu y).1) (Int32.toInt64 (en (rmd z)))), .long (UInt64.toInt64 (shr z))] [] (kX5_mix g (mx ((cG z n ai pa tu y).1) (Int32.toInt64 (en (rmd z)))) (UInt64.toInt64 (shr z)) ) gX5_digest_X5_mix rfl (by show _ ∧ _ ∧ _ = some (2 : Nat); decide +kernel) ⟨Nat.le_of_ble_eq_true rfl, Nat.le_of_ble_eq_true rfl⟩ [] (by decide) rfl rfl (Nat.le_of_ble_eq_true rfl) ⟨Nat.le_of_ble_eq_true rfl, Nat.le_of_ble_eq_true rfl⟩ dX5_digest_136 rfl (insW_of rfl rfl rfl) rfl rfl rfl ?_
                  refine V.eqst (st2 := [.long (dgH z (cG z n ai pa tu y).1)]) rfl ?_
                  refine V.lstore_n (lv2 := [(1, .long (dgH z (cG z n ai pa tu y).1)), (3, .int (nI i)), (0, .ref o)]) dX5_digest_139 rfl (by decide) rfl ?_
                  refine V.lload_n 0 rfl dX5_digest_140 rfl ?_
                  refine V.aload_n 2 rfl dX5_digest_141 rfl ?_
                  refine V.get (v := .ref (x 0)) (fun w H => List.mem_cons_of_mem _ (List.mem_append_left _ (List.mem_append_left _ (List.mem_append_left _ (List.mem_append_left _ (List.mem_append_left _ (List.mem_append_left _ (List.mem_append_left _ (List.mem_append_right _ H))))))))) (hc := (rfl : vwCl[5]? = some (RX5, TX5, 5))) 0 4 (by decide) (List.mem_of_getElem? (i := 4) rfl) rfl rfl dX5_digest_142 ?_
                  refine V.get (v := .int (nI len)) (fun w H => List.mem_cons_of_mem _ (List.mem_append_left _ (List.mem_append_left _ (List.mem_append_left _ (List.mem_append_left _ (List.mem_append_left _ (List.mem_append_right _ H))))))) (hc := (rfl : vwCl[0]? = some (RX0, TX0, 6))) 25 1 (by decide) (List.mem_of_getElem? (i := 5) rfl) rfl rfl dX5_digest_145 ?_
                  refine V.i2l dX5_digest_148 ?_
                  refine V.callSf (ws2 := (HD g o b c u h x) ++ (SW g b z) ++ (SW g c ((cG z n ai pa tu y).2.2.2.2)) ++ (UW g u ((cG z n ai pa tu y).2.1) ((cG z n ai pa tu y).2.2.1) ((cG z n ai pa tu y).2.2.2.1)) ++ (BWs g x tx (nI len) s) ++ (HW g h n sv)) (st2 := [.long (mx (dgH z (cG z n ai pa tu y).1) (Int32.toInt64 (nI len)))]) [.long (dgH z (cG z n ai pa tu y).1), .long (Int32.toInt64 (nI len))] [] (kX5_mix g (dgH z (cG z n ai pa tu y).1) (Int32.toInt64 (nI len)) ) gX5_digest_X5_mix rfl (by show _ ∧ _ ∧ _ = some (2 : Nat); decide +kernel) ⟨Nat.le_of_ble_eq_true rfl, Nat.le_of_ble_eq_true rfl⟩ [] (by decide) rfl rfl (Nat.le_of_ble_eq_true rfl) ⟨Nat.le_of_ble_eq_true rfl, Nat.le_of_ble_eq_true rfl⟩ dX5_digest_149 rfl (insW_of rfl rfl rfl) rfl rfl rfl ?_
                  refine V.lstore_n (lv2 := [(1, .long (mx (dgH z (cG z n ai pa tu y).1) (Int32.toInt64 (nI len)))), (3, .int (nI i)), (0, .ref o)]) dX5_digest_152 rfl (by decide) rfl ?_
                  refine V.iconst (v := 0) dX5_digest_153 (by decide) ?_
                  refine V.istore_n (lv2 := [(3, .int 0), (1, .long (mx (dgH z (cG z n ai pa tu y).1) (Int32.toInt64 (nI len)))), (0, .ref o)]) dX5_digest_154 rfl (by decide) rfl ?_
                  have L155 : ∀ (kL : Nat) (i : Nat) (hz : Int64), i + kL = len → (fu (fun k h => mx h (tx k).toInt64) i kL hz = dgI tx len (dgH z (cG z n ai pa tu y).1)) → V g rmX5_digest RX5 cX5_digest wsX5_digest 4 QF (XM (some .long) "digest") 0 0 ((HD g o b c u h x) ++ (SW g b z) ++ (SW g c ((cG z n ai pa tu y).2.2.2.2)) ++ (UW g u ((cG z n ai pa tu y).2.1) ((cG z n ai pa tu y).2.2.1) ((cG z n ai pa tu y).2.2.2.1)) ++ (BWs g x tx (nI len) s) ++ (HW g h n sv)) 155 [(3, .int (nI i)), (1, .long hz), (0, .ref o)] [] := by
                    intro kL
                    induction kL with
                    | zero =>
                      intro i hz hrel hfz
                      rw [fu_0] at hfz
                      refine V.iload_n 0 rfl dX5_digest_155 rfl ?_
                      refine V.aload_n 2 rfl dX5_digest_156 rfl ?_
                      refine V.get (v := .ref (x 0)) (fun w H => List.mem_cons_of_mem _ (List.mem_append_left _ (List.mem_append_left _ (List.mem_append_left _ (List.mem_append_left _ (List.mem_append_left _ (List.mem_append_left _ (List.mem_append_left _ (List.mem_append_right _ H))))))))) (hc := (rfl : vwCl[5]? = some (RX5, TX5, 5))) 0 4 (by decide) (List.mem_of_getElem? (i := 4) rfl) rfl rfl dX5_digest_157 ?_
                      refine V.get (v := .int (nI len)) (fun w H => List.mem_cons_of_mem _ (List.mem_append_left _ (List.mem_append_left _ (List.mem_append_left _ (List.mem_append_left _ (List.mem_append_left _ (List.mem_append_right _ H))))))) (hc := (rfl : vwCl[0]? = some (RX0, TX0, 6))) 25 1 (by decide) (List.mem_of_getElem? (i := 5) rfl) rfl rfl dX5_digest_160 ?_
                      refine V.icmp_ge_t (tgt := 187) (by exact nI_le (a := len) (b := i) (by omega) (by omega)) dX5_digest_163 (by decide) ?_
                      refine V.lload_n 1 rfl dX5_digest_187 rfl ?_
                      exact V.lret hq XM.r (Nat.le_of_ble_eq_true rfl) (Nat.le_of_ble_eq_true rfl) ⟨by rw [hfz], rfl⟩ dX5_digest_188
                    | succ kL ih =>
                      intro i hz hrel hfz
                      rw [fu_s] at hfz
                      refine V.iload_n 0 rfl dX5_digest_155 rfl ?_
                      refine V.aload_n 2 rfl dX5_digest_156 rfl ?_
                      refine V.get (v := .ref (x 0)) (fun w H => List.mem_cons_of_mem _ (List.mem_append_left _ (List.mem_append_left _ (List.mem_append_left _ (List.mem_append_left _ (List.mem_append_left _ (List.mem_append_left _ (List.mem_append_left _ (List.mem_append_right _ H))))))))) (hc := (rfl : vwCl[5]? = some (RX5, TX5, 5))) 0 4 (by decide) (List.mem_of_getElem? (i := 4) rfl) rfl rfl dX5_digest_157 ?_
                      refine V.get (v := .int (nI len)) (fun w H => List.mem_cons_of_mem _ (List.mem_append_left _ (List.mem_append_left _ (List.mem_append_left _ (List.mem_append_left _ (List.mem_append_left _ (List.mem_append_right _ H))))))) (hc := (rfl : vwCl[0]? = some (RX0, TX0, 6))) 25 1 (by decide) (List.mem_of_getElem? (i := 5) rfl) rfl rfl dX5_digest_160 ?_
                      refine V.icmp_ge_f (tgt := 187) (by exact nI_ge (a := i) (b := len) (by omega) (by omega)) dX5_digest_163 (by decide) ?_
                      refine V.lload_n 1 rfl dX5_digest_166 rfl ?_
                      refine V.aload_n 2 rfl dX5_digest_167 rfl ?_
                      refine V.get (v := .ref (x 0)) (fun w H => List.mem_cons_of_mem _ (List.mem_append_left _ (List.mem_append_left _ (List.mem_append_left _ (List.mem_append_left _ (List.mem_append_left _ (List.mem_append_left _ (List.mem_append_left _ (List.mem_append_right _ H))))))))) (hc := (rfl : vwCl[5]? = some (RX5, TX5, 5))) 0 4 (by decide) (List.mem_of_getElem? (i := 4) rfl) rfl rfl dX5_digest_168 ?_
                      refine V.get (v := .ref (x 1)) (fun w H => List.mem_cons_of_mem _ (List.mem_append_left _ (List.mem_append_left _ (List.mem_append_left _ (List.mem_append_left _ (List.mem_append_left _ (List.mem_append_right _ H))))))) (hc := (rfl : vwCl[0]? = some (RX0, TX0, 6))) 25 0 (by decide) (List.mem_of_getElem? (i := 6) rfl) rfl rfl dX5_digest_171 ?_
                      refine V.iload_n 0 rfl dX5_digest_174 rfl ?_
                      refine V.iald (f := tx) 26 i rfl rfl (by omega) (by decide) dX5_digest_175 ?_
                      refine V.i2l dX5_digest_176 ?_
                      refine V.callSf (ws2 := (HD g o b c u h x) ++ (SW g b z) ++ (SW g c ((cG z n ai pa tu y).2.2.2.2)) ++ (UW g u ((cG z n ai pa tu y).2.1) ((cG z n ai pa tu y).2.2.1) ((cG z n ai pa tu y).2.2.2.1)) ++ (BWs g x tx (nI len) s) ++ (HW g h n sv)) (st2 := [.long (mx hz (Int32.toInt64 (tx i)))]) [.long hz, .long (Int32.toInt64 (tx i))] [] (kX5_mix g hz (Int32.toInt64 (tx i)) ) gX5_digest_X5_mix rfl (by show _ ∧ _ ∧ _ = some (2 : Nat); decide +kernel) ⟨Nat.le_of_ble_eq_true rfl, Nat.le_of_ble_eq_true rfl⟩ [] (by decide) rfl rfl (Nat.le_of_ble_eq_true rfl) ⟨Nat.le_of_ble_eq_true rfl, Nat.le_of_ble_eq_true rfl⟩ dX5_digest_177 rfl (insW_of rfl rfl rfl) rfl rfl rfl ?_
                      refine V.lstore_n (lv2 := [(1, .long (mx hz (Int32.toInt64 (tx i)))), (3, .int (nI i)), (0, .ref o)]) dX5_digest_180 rfl (by decide) rfl ?_
                      refine V.iinc (v := nI (i + 1)) (lv2 := [(3, .int (nI (i + 1))), (1, .long (mx hz (Int32.toInt64 (tx i)))), (0, .ref o)]) 1 rfl dX5_digest_181 (nI_add i 1) (by decide) rfl ?_
                      refine V.goto (tgt := 155) dX5_digest_184 (by decide) ?_
                      refine V.eqlv (lv2 := [(3, .int (nI (i + 1))), (1, .long (mx hz (Int32.toInt64 (tx i)))), (0, .ref o)]) [0, 1, 2] rfl ?_
                      exact ih (i + 1) (mx hz (tx i).toInt64) (by omega) hfz
                  refine V.eqlv (lv2 := [(3, .int 0), (1, .long (mx (dgH z (cG z n ai pa tu y).1) (Int32.toInt64 (nI len)))), (0, .ref o)]) [0, 1, 2] rfl ?_
                  exact L155 len 0 (mx (dgH z (cG z n ai pa tu y).1) (nI len).toInt64) (by omega) rfl
                | succ kL ih =>
                  intro i dd hrel hff
                  rw [fu_s] at hff
                  refine V.iload_n 0 rfl dX5_digest_85 rfl ?_
                  refine V.iconst (v := 3) dX5_digest_86 (by decide) ?_
                  refine V.icmp_gt_f (tgt := 108) (by exact nI_nlt (a := 3) (b := i) (by omega) (by decide)) dX5_digest_87 (by decide) ?_
                  refine V.lload_n 1 rfl dX5_digest_90 rfl ?_
                  refine V.aload_n 2 rfl dX5_digest_91 rfl ?_
                  refine V.iconst (v := 3) dX5_digest_92 (by decide) ?_
                  refine V.iload_n 0 rfl dX5_digest_93 rfl ?_
                  refine V.callVP (F := []) [.int 3, .int (nI i)] [.long dd.1] (kX5_ifToured_U g o b c u h x z dd.2.2.2.2 dd.2.1 dd.2.2.1 dd.2.2.2.1 tx len s n sv 3 i hV (by decide) (by decide) (by omega)) gX5_digest_X5_ifToured rfl (by show _ ∧ _ ∧ _ ∧ _ = some (2 : Nat); decide +kernel) ⟨(Nat.le_of_ble_eq_true rfl), (Nat.le_of_ble_eq_true rfl)⟩ (hc := (rfl : vwCl[5]? = some (RX5, TX5, 5))) 0 rfl (by rw [List.append_nil]; exact List.Perm.refl _) rfl (Nat.le_of_ble_eq_true rfl) ⟨(Nat.le_of_ble_eq_true rfl), (Nat.le_of_ble_eq_true rfl)⟩ dX5_digest_94 (fun r w hq2 => by rw [hq2.2]; exact FST.of GW_fe) (fun r w hq2 => ?_)
                  obtain ⟨rfl, rfl⟩ := hq2
                  refine V.eqws (ws2 := (HD g o b c u h x) ++ (SW g b z) ++ (SW g c ((cTs 3 ((z, dd.2.1, dd.2.2.1, dd.2.2.2.1), 0)).1.1)) ++ (UW g u ((cTs 3 ((z, dd.2.1, dd.2.2.1, dd.2.2.2.1), 0)).1.2.1) ((cTs 3 ((z, dd.2.1, dd.2.2.1, dd.2.2.2.1), 0)).1.2.2.1) ((cTs 3 ((z, dd.2.1, dd.2.2.1, dd.2.2.2.1), 0)).1.2.2.2)) ++ (BWs g x tx (nI len) s) ++ (HW g h n sv)) (List.append_nil _) ?_
                  refine V.eqst (st2 := [.int (tdC (z, dd.2.1, dd.2.2.1, dd.2.2.2.1) 3 i), .long dd.1]) rfl ?_
                  refine V.i2l dX5_digest_97 ?_
                  refine V.callSf (ws2 := (HD g o b c u h x) ++ (SW g b z) ++ (SW g c ((cTs 3 ((z, dd.2.1, dd.2.2.1, dd.2.2.2.1), 0)).1.1)) ++ (UW g u ((cTs 3 ((z, dd.2.1, dd.2.2.1, dd.2.2.2.1), 0)).1.2.1) ((cTs 3 ((z, dd.2.1, dd.2.2.1, dd.2.2.2.1), 0)).1.2.2.1) ((cTs 3 ((z, dd.2.1, dd.2.2.1, dd.2.2.2.1), 0)).1.2.2.2)) ++ (BWs g x tx (nI len) s) ++ (HW g h n sv)) (st2 := [.long (mx dd.1 (Int32.toInt64 (tdC (z, dd.2.1, dd.2.2.1, dd.2.2.2.1) 3 i)))]) [.long dd.1, .long (Int32.toInt64 (tdC (z, dd.2.1, dd.2.2.1, dd.2.2.2.1) 3 i))] [] (kX5_mix g dd.1 (Int32.toInt64 (tdC (z, dd.2.1, dd.2.2.1, dd.2.2.2.1) 3 i)) ) gX5_digest_X5_mix rfl (by show _ ∧ _ ∧ _ = some (2 : Nat); decide +kernel) ⟨Nat.le_of_ble_eq_true rfl, Nat.le_of_ble_eq_true rfl⟩ [] (by decide) rfl rfl (Nat.le_of_ble_eq_true rfl) ⟨Nat.le_of_ble_eq_true rfl, Nat.le_of_ble_eq_true rfl⟩ dX5_digest_98 rfl (insW_of rfl rfl rfl) rfl rfl rfl ?_
                  refine V.lstore_n (lv2 := [(1, .long (mx dd.1 (Int32.toInt64 (tdC (z, dd.2.1, dd.2.2.1, dd.2.2.2.1) 3 i)))), (3, .int (nI i)), (0, .ref o)]) dX5_digest_101 rfl (by decide) rfl ?_
                  refine V.iinc (v := nI (i + 1)) (lv2 := [(3, .int (nI (i + 1))), (1, .long (mx dd.1 (Int32.toInt64 (tdC (z, dd.2.1, dd.2.2.1, dd.2.2.2.1) 3 i)))), (0, .ref o)]) 1 rfl dX5_digest_102 (nI_add i 1) (by decide) rfl ?_
                  refine V.goto (tgt := 85) dX5_digest_105 (by decide) ?_
                  refine V.eqlv (lv2 := [(3, .int (nI (i + 1))), (1, .long (mx dd.1 (Int32.toInt64 (tdC (z, dd.2.1, dd.2.2.1, dd.2.2.2.1) 3 i)))), (0, .ref o)]) [0, 1, 2] rfl ?_
                  exact ih (i + 1) (cFF z i dd) (by omega) hff
              refine V.eqlv (lv2 := [(3, .int 0), (1, .long ((dgE z n ai).1)), (0, .ref o)]) [0, 1, 2] rfl ?_
              exact L85 4 0 ((dgE z n ai).1, (dgE z n ai).2, pa, tu, y) (by omega) rfl
            | succ kL ih =>
              intro i q hrel hfe
              rw [fu_s] at hfe
              refine V.iload_n 0 rfl dX5_digest_65 rfl ?_
              refine V.iconst (v := 4) dX5_digest_66 (by decide) ?_
              refine V.icmp_ge_f (tgt := 83) (by exact nI_ge (a := i) (b := 4) (by omega) (by decide)) dX5_digest_67 (by decide) ?_
              refine V.aload_n 2 rfl dX5_digest_70 rfl ?_
              refine V.lload_n 1 rfl dX5_digest_71 rfl ?_
              refine V.iload_n 0 rfl dX5_digest_72 rfl ?_
              refine V.callVP (F := []) [.long q.1, .int (nI i)] [] (kX5_mixNozzle g o b c u h x z y q.2 pa tu tx len s n sv q.1 i hV (by omega)) gX5_digest_X5_mixNozzle rfl (by show _ ∧ _ ∧ _ ∧ _ = some (2 : Nat); decide +kernel) ⟨(Nat.le_of_ble_eq_true rfl), (Nat.le_of_ble_eq_true rfl)⟩ (hc := (rfl : vwCl[5]? = some (RX5, TX5, 5))) 0 rfl (by rw [List.append_nil]; exact List.Perm.refl _) rfl (Nat.le_of_ble_eq_true rfl) ⟨(Nat.le_of_ble_eq_true rfl), (Nat.le_of_ble_eq_true rfl)⟩ dX5_digest_73 (fun r w hq2 => by rw [hq2.2]; exact FST.of GW_fe) (fun r w hq2 => ?_)
              obtain ⟨rfl, rfl⟩ := hq2
              refine V.eqws (ws2 := (HD g o b c u h x) ++ (SW g b z) ++ (SW g c y) ++ (UW g u (lA z q.2) pa tu) ++ (BWs g x tx (nI len) s) ++ (HW g h n sv)) (List.append_nil _) ?_
              refine V.eqst (st2 := [.long (mnZ z i (lA z q.2 i) q.1)]) rfl ?_
              refine V.lstore_n (lv2 := [(1, .long (mnZ z i (lA z q.2 i) q.1)), (3, .int (nI i)), (0, .ref o)]) dX5_digest_76 rfl (by decide) rfl ?_
              refine V.iinc (v := nI (i + 1)) (lv2 := [(3, .int (nI (i + 1))), (1, .long (mnZ z i (lA z q.2 i) q.1)), (0, .ref o)]) 1 rfl dX5_digest_77 (nI_add i 1) (by decide) rfl ?_
              refine V.goto (tgt := 65) dX5_digest_80 (by decide) ?_
              refine V.eqlv (lv2 := [(3, .int (nI (i + 1))), (1, .long (mnZ z i (lA z q.2 i) q.1)), (0, .ref o)]) [0, 1, 2] rfl ?_
              exact ih (i + 1) (dgEF z i q) (by omega) hfe
          refine V.eqlv (lv2 := [(3, .int 0), (1, .long (dgD z (dgC z (dgB z (dgA z n))))), (0, .ref o)]) [0, 1, 2] rfl ?_
          exact L65 4 0 (dgD z (dgC z (dgB z (dgA z n))), ai) (by omega) rfl
        | succ kL ih =>
          intro i hb hrel hfb
          rw [fu_s] at hfb
          refine V.iload_n 0 rfl dX5_digest_31 rfl ?_
          refine V.iconst (v := 5) dX5_digest_32 (by decide) ?_
          refine V.icmp_ge_f (tgt := 57) (by exact nI_ge (a := i) (b := 5) (by omega) (by decide)) dX5_digest_33 (by decide) ?_
          refine V.lload_n 1 rfl dX5_digest_36 rfl ?_
          refine V.aload_n 2 rfl dX5_digest_37 rfl ?_
          refine V.get (v := .ref (b 0)) (fun w H => List.mem_cons_of_mem _ (List.mem_append_left _ (List.mem_append_left _ (List.mem_append_left _ (List.mem_append_left _ (List.mem_append_left _ (List.mem_append_left _ (List.mem_append_left _ (List.mem_append_right _ H))))))))) (hc := (rfl : vwCl[5]? = some (RX5, TX5, 5))) 0 0 (by decide) (List.mem_of_getElem? (i := 2) rfl) rfl rfl dX5_digest_38 ?_
          refine V.get (v := .ref (b 1)) (fun w H => List.mem_cons_of_mem _ (List.mem_append_left _ (List.mem_append_left _ (List.mem_append_left _ (List.mem_append_left _ (List.mem_append_left _ (List.mem_append_left _ (List.mem_append_right _ H)))))))) (hc := (rfl : vwCl[2]? = some (RX2, TX2, 12))) 1 7 (by decide) (List.mem_of_getElem? (i := 3) rfl) rfl rfl dX5_digest_41 ?_
          refine V.iload_n 0 rfl dX5_digest_44 rfl ?_
          refine V.iald (f := sg z 0 5) 2 i rfl rfl (by omega) (by decide) dX5_digest_45 ?_
          rw [show (sg z 0 5) i = z (0 + i) from sg_a (by omega)]
          refine V.i2l dX5_digest_46 ?_
          refine V.callSf (ws2 := (HD g o b c u h x) ++ (SW g b z) ++ (SW g c y) ++ (UW g u ai pa tu) ++ (BWs g x tx (nI len) s) ++ (HW g h n sv)) (st2 := [.long (mx hb (Int32.toInt64 (z (0 + i))))]) [.long hb, .long (Int32.toInt64 (z (0 + i)))] [] (kX5_mix g hb (Int32.toInt64 (z (0 + i))) ) gX5_digest_X5_mix rfl (by show _ ∧ _ ∧ _ = some (2 : Nat); decide +kernel) ⟨Nat.le_of_ble_eq_true rfl, Nat.le_of_ble_eq_true rfl⟩ [] (by decide) rfl rfl (Nat.le_of_ble_eq_true rfl) ⟨Nat.le_of_ble_eq_true rfl, Nat.le_of_ble_eq_true rfl⟩ dX5_digest_47 rfl (insW_of rfl rfl rfl) rfl rfl rfl ?_
          refine V.lstore_n (lv2 := [(1, .long (mx hb (Int32.toInt64 (z (0 + i))))), (3, .int (nI i)), (0, .ref o)]) dX5_digest_50 rfl (by decide) rfl ?_
          refine V.iinc (v := nI (i + 1)) (lv2 := [(3, .int (nI (i + 1))), (1, .long (mx hb (Int32.toInt64 (z (0 + i))))), (0, .ref o)]) 1 rfl dX5_digest_51 (nI_add i 1) (by decide) rfl ?_
          refine V.goto (tgt := 31) dX5_digest_54 (by decide) ?_
          refine V.eqlv (lv2 := [(3, .int (nI (i + 1))), (1, .long (mx hb (Int32.toInt64 (z (0 + i))))), (0, .ref o)]) [0, 1, 2] rfl ?_
          exact ih (i + 1) (mx hb (z (0 + i)).toInt64) (by omega) hfb
      refine V.eqlv (lv2 := [(3, .int 0), (1, .long (dgA z n)), (0, .ref o)]) [0, 1, 2] rfl ?_
      exact L31 5 0 (dgA z n) (by omega) rfl
    | succ kL ih =>
      intro i ha hrel hfa
      rw [fu_s] at hfa
      refine V.iload_n 0 rfl dX5_digest_6 rfl ?_
      refine V.bipush (v := 13) dX5_digest_7 (by decide) ?_
      refine V.icmp_gt_f (tgt := 29) (by exact nI_nlt (a := 13) (b := i) (by omega) (by decide)) dX5_digest_9 (by decide) ?_
      refine V.lload_n 1 rfl dX5_digest_12 rfl ?_
      refine V.aload_n 2 rfl dX5_digest_13 rfl ?_
      refine V.iload_n 0 rfl dX5_digest_14 rfl ?_
      refine V.callVP (F := []) [.int (nI i)] [.long ha] (kX5_count_U g o b c u h x z y ai pa tu tx len s n sv i hF hF8 hP hP24 (by omega)) gX5_digest_X5_count rfl (by show _ ∧ _ ∧ _ ∧ _ = some (1 : Nat); decide +kernel) ⟨(Nat.le_of_ble_eq_true rfl), (Nat.le_of_ble_eq_true rfl)⟩ (hc := (rfl : vwCl[5]? = some (RX5, TX5, 5))) 0 rfl (by rw [List.append_nil]; exact List.Perm.refl _) rfl (Nat.le_of_ble_eq_true rfl) ⟨(Nat.le_of_ble_eq_true rfl), (Nat.le_of_ble_eq_true rfl)⟩ dX5_digest_15 (fun r w hq2 => by rw [hq2.2]; exact FST.of GW_fe) (fun r w hq2 => ?_)
      obtain ⟨rfl, rfl⟩ := hq2
      refine V.eqws (ws2 := (HD g o b c u h x) ++ (SW g b z) ++ (SW g c y) ++ (UW g u ai pa tu) ++ (BWs g x tx (nI len) s) ++ (HW g h n sv)) (List.append_nil _) ?_
      refine V.eqst (st2 := [.int (ctd z n i), .long ha]) rfl ?_
      refine V.i2l dX5_digest_18 ?_
      refine V.callSf (ws2 := (HD g o b c u h x) ++ (SW g b z) ++ (SW g c y) ++ (UW g u ai pa tu) ++ (BWs g x tx (nI len) s) ++ (HW g h n sv)) (st2 := [.long (mx ha (Int32.toInt64 (ctd z n i)))]) [.long ha, .long (Int32.toInt64 (ctd z n i))] [] (kX5_mix g ha (Int32.toInt64 (ctd z n i)) ) gX5_digest_X5_mix rfl (by show _ ∧ _ ∧ _ = some (2 : Nat); decide +kernel) ⟨Nat.le_of_ble_eq_true rfl, Nat.le_of_ble_eq_true rfl⟩ [] (by decide) rfl rfl (Nat.le_of_ble_eq_true rfl) ⟨Nat.le_of_ble_eq_true rfl, Nat.le_of_ble_eq_true rfl⟩ dX5_digest_19 rfl (insW_of rfl rfl rfl) rfl rfl rfl ?_
      refine V.lstore_n (lv2 := [(1, .long (mx ha (Int32.toInt64 (ctd z n i)))), (3, .int (nI i)), (0, .ref o)]) dX5_digest_22 rfl (by decide) rfl ?_
      refine V.iinc (v := nI (i + 1)) (lv2 := [(3, .int (nI (i + 1))), (1, .long (mx ha (Int32.toInt64 (ctd z n i)))), (0, .ref o)]) 1 rfl dX5_digest_23 (nI_add i 1) (by decide) rfl ?_
      refine V.goto (tgt := 6) dX5_digest_26 (by decide) ?_
      refine V.eqlv (lv2 := [(3, .int (nI (i + 1))), (1, .long (mx ha (Int32.toInt64 (ctd z n i)))), (0, .ref o)]) [0, 1, 2] rfl ?_
      exact ih (i + 1) (mx ha (ctd z n i).toInt64) (by omega) hfa
  refine V.eqlv (lv2 := [(3, .int 0), (1, .long (2467 : Int64)), (0, .ref o)]) [0, 1, 2] rfl ?_
  exact L6 14 0 2467 (by omega) rfl
theorem pv_sw {α : Type} {A0 A1 A2 A3 A4 A5 : List α} : (((((A0 ++ A1) ++ A2) ++ A3) ++ A4) ++ A5).Perm (((((A0 ++ A1) ++ A2) ++ A3) ++ A5) ++ A4) := by
  classical
  exact List.perm_iff_count.mpr (fun a => by simp only [List.count_append]; omega)
abbrev rmX5_init : Room := { frames := 3, cells := 29, slots := 614, locals := 55 }
set_option maxHeartbeats 4000000 in
set_option maxRecDepth 100000 in
theorem kX5_init (g : GT) (o : Nat) : UC g yX5_init wsX5_init rmX5_init [.ref o] ([(o, .inr (5, [.null, .null, .null, .null, .null]))]) (fun v w => v = none ∧ ∃ b c u h x : Nat → Nat, w = GW g o b c u h x ziZ ziZ (fun _ => 0) (fun _ => 0) (fun _ => 0) (fun _ => 0) 0 ((fun _ => 0), none, 0, false) 0 []) := by
  refine UC.ofV (cc := cX5_init) (maxL := 1) (ret := none) (lv0 := [(0, .ref o)]) (by decide) rfl (Nat.le_of_ble_eq_true rfl) rfl ?_
  generalize hQF : QFr g rmX5_init (fun v w => v = none ∧ ∃ b c u h x : Nat → Nat, w = GW g o b c u h x ziZ ziZ (fun _ => 0) (fun _ => 0) (fun _ => 0) (fun _ => 0) 0 ((fun _ => 0), none, 0, false) 0 []) = QF
  have hq : QFok g rmX5_init (fun v w => v = none ∧ ∃ b c u h x : Nat → Nat, w = GW g o b c u h x ziZ ziZ (fun _ => 0) (fun _ => 0) (fun _ => 0) (fun _ => 0) 0 ((fun _ => 0), none, 0, false) 0 []) QF := hQF ▸ QFr.q
  refine V.aload_n 0 rfl dX5_init_0 rfl ?_
  refine V.objInit (by decide +kernel) (by decide +kernel) (by decide +kernel) (Nat.le_of_ble_eq_true rfl) (Nat.le_of_ble_eq_true rfl) dX5_init_1 ?_
  refine V.aload_n 0 rfl dX5_init_4 rfl ?_
  refine V.new (fs := [.int 0, .int 0, .int 0, .int 0, .int 0, .int 0, .int 0, .null, .null, .null, .null, .null]) (fun w H => List.mem_cons_of_mem _ (List.mem_append_left _ (List.mem_append_left _ (List.mem_append_left _ (List.mem_append_left _ (List.mem_append_left _ (List.mem_append_right _ H))))))) tyX2 tyX2_ok (by decide +kernel) (by decide +kernel) (by decide +kernel) (hc := (rfl : vwCl[2]? = some (RX2, TX2, 12))) (by decide +kernel) (Nat.le_of_ble_eq_true rfl) (Nat.le_of_ble_eq_true rfl) dX5_init_5 (fun b1 => ?_)
  refine V.dup dX5_init_8 rfl ?_
  refine V.callIP (F := ([(o, .inr (5, [.null, .null, .null, .null, .null]))])) [] [.ref b1, .ref o] (kX2_init g b1) ggX5_init_X2_init rfl (by decide +kernel) (by decide +kernel) (by decide +kernel) rfl (by show _ ∧ _ ∧ _ = some (0 : Nat); decide +kernel) ⟨(Nat.le_of_ble_eq_true rfl), (Nat.le_of_ble_eq_true rfl)⟩ List.perm_append_comm rfl (Nat.le_of_ble_eq_true rfl) ⟨(Nat.le_of_ble_eq_true rfl), (Nat.le_of_ble_eq_true rfl)⟩ dX5_init_9 (fun r w hq2 => ?_) (fun r w hq2 => ?_)
  · obtain ⟨-, v2, rfl, rfl⟩ := hq2; exact rfl
  obtain ⟨rfl, v2, hv, rfl⟩ := hq2
  subst hv
  refine V.perm List.perm_append_comm ?_
  refine V.eqws (ws2 := ([(o, .inr (5, [.null, .null, .null, .null, .null]))]) ++ (SW g v2 ziZ)) rfl ?_
  refine V.eqst (st2 := [.ref (v2 0), .ref o]) rfl ?_
  refine V.putF (v := .ref (v2 0)) (ws2 := ([(o, .inr (5, [.ref (v2 0), .null, .null, .null, .null]))]) ++ (SW g v2 ziZ)) (fun w H => List.mem_cons_of_mem _ (List.mem_append_left _ (List.mem_append_left _ (List.mem_append_left _ (List.mem_append_left _ (List.mem_append_right _ H)))))) tyX5 tyX5_ok nmX5 (hc := (rfl : vwCl[5]? = some (RX5, TX5, 5))) 0 0 (by decide) (List.mem_of_getElem? (i := 7) rfl) rfl rfl rfl XM.nm (tyX5_ok 0 (by decide)) rfl rfl (Nat.le_of_ble_eq_true rfl) rfl dX5_init_12 ?_
  refine V.aload_n 0 rfl dX5_init_15 rfl ?_
  refine V.new (fs := [.int 0, .int 0, .int 0, .int 0, .int 0, .int 0, .int 0, .null, .null, .null, .null, .null]) (fun w H => List.mem_cons_of_mem _ (List.mem_append_left _ (List.mem_append_left _ (List.mem_append_left _ (List.mem_append_left _ (List.mem_append_left _ (List.mem_append_right _ H))))))) tyX2 tyX2_ok (by decide +kernel) (by decide +kernel) (by decide +kernel) (hc := (rfl : vwCl[2]? = some (RX2, TX2, 12))) (by decide +kernel) (Nat.le_of_ble_eq_true rfl) (Nat.le_of_ble_eq_true rfl) dX5_init_16 (fun b3 => ?_)
  refine V.dup dX5_init_19 rfl ?_
  refine V.callIP (F := ([(o, .inr (5, [.ref (v2 0), .null, .null, .null, .null]))] ++ (SW g v2 ziZ))) [] [.ref b3, .ref o] (kX2_init g b3) ggX5_init_X2_init rfl (by decide +kernel) (by decide +kernel) (by decide +kernel) rfl (by show _ ∧ _ ∧ _ = some (0 : Nat); decide +kernel) ⟨(Nat.le_of_ble_eq_true rfl), (Nat.le_of_ble_eq_true rfl)⟩ List.perm_append_comm rfl (Nat.le_of_ble_eq_true rfl) ⟨(Nat.le_of_ble_eq_true rfl), (Nat.le_of_ble_eq_true rfl)⟩ dX5_init_20 (fun r w hq2 => ?_) (fun r w hq2 => ?_)
  · obtain ⟨-, v4, rfl, rfl⟩ := hq2; exact rfl
  obtain ⟨rfl, v4, hv, rfl⟩ := hq2
  subst hv
  refine V.perm List.perm_append_comm ?_
  refine V.eqws (ws2 := ([(o, .inr (5, [.ref (v2 0), .null, .null, .null, .null]))]) ++ (SW g v2 ziZ) ++ (SW g v4 ziZ)) rfl ?_
  refine V.eqst (st2 := [.ref (v4 0), .ref o]) rfl ?_
  refine V.putF (v := .ref (v4 0)) (ws2 := ([(o, .inr (5, [.ref (v2 0), .ref (v4 0), .null, .null, .null]))]) ++ (SW g v2 ziZ) ++ (SW g v4 ziZ)) (fun w H => List.mem_cons_of_mem _ (List.mem_append_left _ (List.mem_append_left _ (List.mem_append_left _ (List.mem_append_left _ (List.mem_append_right _ H)))))) tyX5 tyX5_ok nmX5 (hc := (rfl : vwCl[5]? = some (RX5, TX5, 5))) 0 1 (by decide) (List.mem_of_getElem? (i := 8) rfl) rfl rfl rfl XM.nm (tyX5_ok 1 (by decide)) rfl rfl (Nat.le_of_ble_eq_true rfl) rfl dX5_init_23 ?_
  refine V.aload_n 0 rfl dX5_init_26 rfl ?_
  refine V.new (fs := [.null, .null, .null]) (fun w H => List.mem_cons_of_mem _ (List.mem_append_left _ (List.mem_append_left _ (List.mem_append_left _ (List.mem_append_right _ H))))) tyX4 tyX4_ok (by decide +kernel) (by decide +kernel) (by decide +kernel) (hc := (rfl : vwCl[4]? = some (RX4, TX4, 3))) (by decide +kernel) (Nat.le_of_ble_eq_true rfl) (Nat.le_of_ble_eq_true rfl) dX5_init_27 (fun b5 => ?_)
  refine V.dup dX5_init_30 rfl ?_
  refine V.callIP (F := (([(o, .inr (5, [.ref (v2 0), .ref (v4 0), .null, .null, .null]))] ++ (SW g v2 ziZ)) ++ (SW g v4 ziZ))) [] [.ref b5, .ref o] (kX4_init g b5) ggX5_init_X4_init rfl (by decide +kernel) (by decide +kernel) (by decide +kernel) rfl (by show _ ∧ _ ∧ _ = some (0 : Nat); decide +kernel) ⟨(Nat.le_of_ble_eq_true rfl), (Nat.le_of_ble_eq_true rfl)⟩ List.perm_append_comm rfl (Nat.le_of_ble_eq_true rfl) ⟨(Nat.le_of_ble_eq_true rfl), (Nat.le_of_ble_eq_true rfl)⟩ dX5_init_31 (fun r w hq2 => ?_) (fun r w hq2 => ?_)
  · obtain ⟨-, v6, rfl, rfl⟩ := hq2; exact rfl
  obtain ⟨rfl, v6, hv, rfl⟩ := hq2
  subst hv
  refine V.perm List.perm_append_comm ?_
  refine V.eqws (ws2 := ([(o, .inr (5, [.ref (v2 0), .ref (v4 0), .null, .null, .null]))]) ++ (SW g v2 ziZ) ++ (SW g v4 ziZ) ++ (UW g v6 (fun _ => 0) (fun _ => 0) (fun _ => 0))) rfl ?_
  refine V.eqst (st2 := [.ref (v6 0), .ref o]) rfl ?_
  refine V.putF (v := .ref (v6 0)) (ws2 := ([(o, .inr (5, [.ref (v2 0), .ref (v4 0), .ref (v6 0), .null, .null]))]) ++ (SW g v2 ziZ) ++ (SW g v4 ziZ) ++ (UW g v6 (fun _ => 0) (fun _ => 0) (fun _ => 0))) (fun w H => List.mem_cons_of_mem _ (List.mem_append_left _ (List.mem_append_left _ (List.mem_append_left _ (List.mem_append_left _ (List.mem_append_right _ H)))))) tyX5 tyX5_ok nmX5 (hc := (rfl : vwCl[5]? = some (RX5, TX5, 5))) 0 2 (by decide) (List.mem_of_getElem? (i := 12) rfl) rfl rfl rfl XM.nm (tyX5_ok 2 (by decide)) rfl rfl (Nat.le_of_ble_eq_true rfl) rfl dX5_init_34 ?_
  refine V.aload_n 0 rfl dX5_init_37 rfl ?_
  refine V.new (fs := [.null, .int 0]) (fun w H => List.mem_cons_of_mem _ (List.mem_append_left _ (List.mem_append_left _ (List.mem_append_right _ H)))) tyX1 tyX1_ok (by decide +kernel) (by decide +kernel) (by decide +kernel) (hc := (rfl : vwCl[1]? = some (RX1, TX1, 2))) (by decide +kernel) (Nat.le_of_ble_eq_true rfl) (Nat.le_of_ble_eq_true rfl) dX5_init_38 (fun b7 => ?_)
  refine V.dup dX5_init_41 rfl ?_
  refine V.callIP (F := ((([(o, .inr (5, [.ref (v2 0), .ref (v4 0), .ref (v6 0), .null, .null]))] ++ (SW g v2 ziZ)) ++ (SW g v4 ziZ)) ++ (UW g v6 (fun _ => 0) (fun _ => 0) (fun _ => 0)))) [] [.ref b7, .ref o] (kX1_init g b7) ggX5_init_X1_init rfl (by decide +kernel) (by decide +kernel) (by decide +kernel) rfl (by show _ ∧ _ ∧ _ = some (0 : Nat); decide +kernel) ⟨(Nat.le_of_ble_eq_true rfl), (Nat.le_of_ble_eq_true rfl)⟩ List.perm_append_comm rfl (Nat.le_of_ble_eq_true rfl) ⟨(Nat.le_of_ble_eq_true rfl), (Nat.le_of_ble_eq_true rfl)⟩ dX5_init_42 (fun r w hq2 => ?_) (fun r w hq2 => ?_)
  · obtain ⟨-, v8, rfl, rfl⟩ := hq2; exact rfl
  obtain ⟨rfl, v8, hv, rfl⟩ := hq2
  subst hv
  refine V.perm List.perm_append_comm ?_
  refine V.eqws (ws2 := ([(o, .inr (5, [.ref (v2 0), .ref (v4 0), .ref (v6 0), .null, .null]))]) ++ (SW g v2 ziZ) ++ (SW g v4 ziZ) ++ (UW g v6 (fun _ => 0) (fun _ => 0) (fun _ => 0)) ++ (HW g v8 0 [])) rfl ?_
  refine V.eqst (st2 := [.ref (v8 0), .ref o]) rfl ?_
  refine V.putF (v := .ref (v8 0)) (ws2 := ([(o, .inr (5, [.ref (v2 0), .ref (v4 0), .ref (v6 0), .ref (v8 0), .null]))]) ++ (SW g v2 ziZ) ++ (SW g v4 ziZ) ++ (UW g v6 (fun _ => 0) (fun _ => 0) (fun _ => 0)) ++ (HW g v8 0 [])) (fun w H => List.mem_cons_of_mem _ (List.mem_append_left _ (List.mem_append_left _ (List.mem_append_left _ (List.mem_append_left _ (List.mem_append_right _ H)))))) tyX5 tyX5_ok nmX5 (hc := (rfl : vwCl[5]? = some (RX5, TX5, 5))) 0 3 (by decide) (List.mem_of_getElem? (i := 16) rfl) rfl rfl rfl XM.nm (tyX5_ok 3 (by decide)) rfl rfl (Nat.le_of_ble_eq_true rfl) rfl dX5_init_45 ?_
  refine V.aload_n 0 rfl dX5_init_48 rfl ?_
  refine V.new (fs := [.null, .int 0, .null, .int 0, .int 0, .int 0]) (fun w H => List.mem_cons_of_mem _ (List.mem_append_left _ (List.mem_append_right _ H))) tyX0 tyX0_ok (by decide +kernel) (by decide +kernel) (by decide +kernel) (hc := (rfl : vwCl[0]? = some (RX0, TX0, 6))) (by decide +kernel) (Nat.le_of_ble_eq_true rfl) (Nat.le_of_ble_eq_true rfl) dX5_init_49 (fun b9 => ?_)
  refine V.dup dX5_init_52 rfl ?_
  refine V.callIP (F := (((([(o, .inr (5, [.ref (v2 0), .ref (v4 0), .ref (v6 0), .ref (v8 0), .null]))] ++ (SW g v2 ziZ)) ++ (SW g v4 ziZ)) ++ (UW g v6 (fun _ => 0) (fun _ => 0) (fun _ => 0))) ++ (HW g v8 0 []))) [] [.ref b9, .ref o] (kX0_init g b9) ggX5_init_X0_init rfl (by decide +kernel) (by decide +kernel) (by decide +kernel) rfl (by show _ ∧ _ ∧ _ = some (0 : Nat); decide +kernel) ⟨(Nat.le_of_ble_eq_true rfl), (Nat.le_of_ble_eq_true rfl)⟩ List.perm_append_comm rfl (Nat.le_of_ble_eq_true rfl) ⟨(Nat.le_of_ble_eq_true rfl), (Nat.le_of_ble_eq_true rfl)⟩ dX5_init_53 (fun r w hq2 => ?_) (fun r w hq2 => ?_)
  · obtain ⟨-, v10, rfl, rfl⟩ := hq2; exact rfl
  obtain ⟨rfl, v10, hv, rfl⟩ := hq2
  subst hv
  refine V.perm List.perm_append_comm ?_
  refine V.eqws (ws2 := ([(o, .inr (5, [.ref (v2 0), .ref (v4 0), .ref (v6 0), .ref (v8 0), .null]))]) ++ (SW g v2 ziZ) ++ (SW g v4 ziZ) ++ (UW g v6 (fun _ => 0) (fun _ => 0) (fun _ => 0)) ++ (HW g v8 0 []) ++ (BW g v10 (fun _ => 0) 0 (fun _ => 0) (-1) 0 0)) rfl ?_
  refine V.eqst (st2 := [.ref (v10 0), .ref o]) rfl ?_
  refine V.putF (v := .ref (v10 0)) (ws2 := ([(o, .inr (5, [.ref (v2 0), .ref (v4 0), .ref (v6 0), .ref (v8 0), .ref (v10 0)]))]) ++ (SW g v2 ziZ) ++ (SW g v4 ziZ) ++ (UW g v6 (fun _ => 0) (fun _ => 0) (fun _ => 0)) ++ (HW g v8 0 []) ++ (BW g v10 (fun _ => 0) 0 (fun _ => 0) (-1) 0 0)) (fun w H => List.mem_cons_of_mem _ (List.mem_append_left _ (List.mem_append_left _ (List.mem_append_left _ (List.mem_append_left _ (List.mem_append_right _ H)))))) tyX5 tyX5_ok nmX5 (hc := (rfl : vwCl[5]? = some (RX5, TX5, 5))) 0 4 (by decide) (List.mem_of_getElem? (i := 20) rfl) rfl rfl rfl XM.nm (tyX5_ok 4 (by decide)) rfl rfl (Nat.le_of_ble_eq_true rfl) rfl dX5_init_56 ?_
  refine V.perm (ws2 := GW g o v2 v4 v6 v8 v10 ziZ ziZ (fun _ => 0) (fun _ => 0) (fun _ => 0) (fun _ => 0) 0 ((fun _ => 0), none, 0, false) 0 []) pv_sw ?_
  exact V.vret hq XM.r (Nat.le_of_ble_eq_true rfl) (Nat.le_of_ble_eq_true rfl) ⟨rfl, v2, v4, v6, v8, v10, rfl⟩ dX5_init_59
