def MW (g : GT) (a : Nat → Nat) (z hi tx ai pa tu pt ke : Nat → Int32) (st le th re nu du : Int32) (ha : Int64) : va_W := [(a 0, .inr (6, [.ref (a 1), .int st, .ref (a 2), .int le, .ref (a 3), .int th, .ref (a 4), .ref (a 5), .ref (a 6), .ref (a 7), .int re, .int nu, .int du, .ref (a 8), .long ha])), (a 1, .inl (g.2.2 0, 248, .inl z)), (a 2, .inl (g.2.2 0, 1488, .inl hi)), (a 3, .inl (g.2.2 0, 60, .inl tx)), (a 4, .inl (g.2.2 0, 4, .inl ai)), (a 5, .inl (g.2.2 0, 4, .inl pa)), (a 6, .inl (g.2.2 0, 4, .inl tu)), (a 7, .inl (g.2.2 0, 56, .inl pt)), (a 8, .inl (g.2.2 0, 248, .inl ke))]
theorem MWf {g : GT} {a : Nat → Nat} {z hi tx ai pa tu pt ke z' hi' tx' ai' pa' tu' pt' ke' : Nat → Int32} {st le th re nu du st' le' th' re' nu' du' : Int32} {ha ha' : Int64} : ((MW g a z hi tx ai pa tu pt ke st le th re nu du ha).take [0, 1, 2, 3, 4, 5, 6, 7, 8].length).map Prod.fst = (MW g a z' hi' tx' ai' pa' tu' pt' ke' st' le' th' re' nu' du' ha').map Prod.fst := rfl
abbrev rmX6_thrown : Room := { frames := 0, cells := 0, slots := 0, locals := 0 }
set_option maxHeartbeats 4000000 in
set_option maxRecDepth 100000 in
theorem kX6_thrown (g : GT) (a : Nat → Nat) (z hi tx ai pa tu pt ke : Nat → Int32) (st le th re nu du : Int32) (ha : Int64) : UC g yX6_thrown wsX6_thrown rmX6_thrown [.ref (a 0)] (MW g a z hi tx ai pa tu pt ke st le th re nu du ha) (Qf (some (.int th)) (MW g a z hi tx ai pa tu pt ke st le th re nu du ha)) := by
  refine UC.ofV (cc := cX6_thrown) (maxL := 1) (ret := some .int) (lv0 := [(0, .ref (a 0))]) (by decide) rfl (Nat.le_of_ble_eq_true rfl) rfl ?_
  generalize hQF : QFr g rmX6_thrown (Qf (some (.int th)) (MW g a z hi tx ai pa tu pt ke st le th re nu du ha)) = QF
  have hq : QFok g rmX6_thrown (Qf (some (.int th)) (MW g a z hi tx ai pa tu pt ke st le th re nu du ha)) QF := hQF ▸ QFr.q
  refine V.aload_n 0 rfl dX6_thrown_0 rfl ?_
  refine V.get (v := .int th) (fun w H => List.mem_cons_of_mem _ (List.mem_append_right _ H)) (hc := (rfl : vwCl[6]? = some (RX6, TX6, 15))) 0 5 (by decide) (List.mem_of_getElem? (i := 1) rfl) rfl rfl dX6_thrown_1 ?_
  exact V.iret hq XM.r (Nat.le_of_ble_eq_true rfl) (Nat.le_of_ble_eq_true rfl) ⟨rfl, rfl⟩ dX6_thrown_4
abbrev rmX6_ofFeeder : Room := { frames := 0, cells := 0, slots := 0, locals := 0 }
set_option maxHeartbeats 4000000 in
set_option maxRecDepth 100000 in
theorem kX6_ofFeeder (g : GT) (a : Nat → Nat) (z hi tx ai pa tu pt ke : Nat → Int32) (st le th re nu du : Int32) (ha : Int64) (f : Nat) (k : Nat) (hf : f < 8) (hk : k < 8) : UC g yX6_ofFeeder wsX6_ofFeeder rmX6_ofFeeder [.ref (a 0), .int (nI f), .int (nI k)] (MW g a z hi tx ai pa tu pt ke st le th re nu du ha) (Qf (some (.int (z (12 + 8 * f + k)))) (MW g a z hi tx ai pa tu pt ke st le th re nu du ha)) := by
  refine UC.ofV (cc := cX6_ofFeeder) (maxL := 3) (ret := some .int) (lv0 := [(0, .ref (a 0)), (1, .int (nI f)), (2, .int (nI k))]) (by decide) rfl (Nat.le_of_ble_eq_true rfl) rfl ?_
  generalize hQF : QFr g rmX6_ofFeeder (Qf (some (.int (z (12 + 8 * f + k)))) (MW g a z hi tx ai pa tu pt ke st le th re nu du ha)) = QF
  have hq : QFok g rmX6_ofFeeder (Qf (some (.int (z (12 + 8 * f + k)))) (MW g a z hi tx ai pa tu pt ke st le th re nu du ha)) QF := hQF ▸ QFr.q
  refine V.aload_n 0 rfl dX6_ofFeeder_0 rfl ?_
  refine V.get (v := .ref (a 1)) (fun w H => List.mem_cons_of_mem _ (List.mem_append_right _ H)) (hc := (rfl : vwCl[6]? = some (RX6, TX6, 15))) 0 0 (by decide) (List.mem_of_getElem? (i := 1) rfl) rfl rfl dX6_ofFeeder_1 ?_
  refine V.bipush (v := 12) dX6_ofFeeder_4 (by decide) ?_
  refine V.bipush (v := 8) dX6_ofFeeder_6 (by decide) ?_
  refine V.iload_n 1 rfl dX6_ofFeeder_8 rfl ?_
  refine V.imulN (v := nI (8 * f)) dX6_ofFeeder_9 (pk_mul 8 f) ?_
  refine V.iaddN (v := nI (12 + 8 * f)) dX6_ofFeeder_10 (nI_add 12 (8 * f)) ?_
  refine V.iload_n 2 rfl dX6_ofFeeder_11 rfl ?_
  refine V.iaddN (v := nI (12 + 8 * f + k)) dX6_ofFeeder_12 (nI_add (12 + 8 * f) k) ?_
  refine V.iald (f := z) 1 (12 + 8 * f + k) rfl rfl (by omega) (by decide) dX6_ofFeeder_13 ?_
  exact V.iret hq XM.r (Nat.le_of_ble_eq_true rfl) (Nat.le_of_ble_eq_true rfl) ⟨rfl, rfl⟩ dX6_ofFeeder_14
abbrev rmX6_ofPlace : Room := { frames := 0, cells := 0, slots := 0, locals := 0 }
set_option maxHeartbeats 4000000 in
set_option maxRecDepth 100000 in
theorem kX6_ofPlace (g : GT) (a : Nat → Nat) (z hi tx ai pa tu pt ke : Nat → Int32) (st le th re nu du : Int32) (ha : Int64) (p : Nat) (k : Nat) (hp : p < 24) (hk : k < 5) : UC g yX6_ofPlace wsX6_ofPlace rmX6_ofPlace [.ref (a 0), .int (nI p), .int (nI k)] (MW g a z hi tx ai pa tu pt ke st le th re nu du ha) (Qf (some (.int (z (76 + 5 * p + k)))) (MW g a z hi tx ai pa tu pt ke st le th re nu du ha)) := by
  refine UC.ofV (cc := cX6_ofPlace) (maxL := 3) (ret := some .int) (lv0 := [(0, .ref (a 0)), (1, .int (nI p)), (2, .int (nI k))]) (by decide) rfl (Nat.le_of_ble_eq_true rfl) rfl ?_
  generalize hQF : QFr g rmX6_ofPlace (Qf (some (.int (z (76 + 5 * p + k)))) (MW g a z hi tx ai pa tu pt ke st le th re nu du ha)) = QF
  have hq : QFok g rmX6_ofPlace (Qf (some (.int (z (76 + 5 * p + k)))) (MW g a z hi tx ai pa tu pt ke st le th re nu du ha)) QF := hQF ▸ QFr.q
  refine V.aload_n 0 rfl dX6_ofPlace_0 rfl ?_
  refine V.get (v := .ref (a 1)) (fun w H => List.mem_cons_of_mem _ (List.mem_append_right _ H)) (hc := (rfl : vwCl[6]? = some (RX6, TX6, 15))) 0 0 (by decide) (List.mem_of_getElem? (i := 1) rfl) rfl rfl dX6_ofPlace_1 ?_
  refine V.bipush (v := 76) dX6_ofPlace_4 (by decide) ?_
  refine V.iconst (v := 5) dX6_ofPlace_6 (by decide) ?_
  refine V.iload_n 1 rfl dX6_ofPlace_7 rfl ?_
  refine V.imulN (v := nI (5 * p)) dX6_ofPlace_8 (pk_mul 5 p) ?_
  refine V.iaddN (v := nI (76 + 5 * p)) dX6_ofPlace_9 (nI_add 76 (5 * p)) ?_
  refine V.iload_n 2 rfl dX6_ofPlace_10 rfl ?_
  refine V.iaddN (v := nI (76 + 5 * p + k)) dX6_ofPlace_11 (nI_add (76 + 5 * p) k) ?_
  refine V.iald (f := z) 1 (76 + 5 * p + k) rfl rfl (by omega) (by decide) dX6_ofPlace_12 ?_
  exact V.iret hq XM.r (Nat.le_of_ble_eq_true rfl) (Nat.le_of_ble_eq_true rfl) ⟨rfl, rfl⟩ dX6_ofPlace_13
abbrev rmX6_ofNozzle : Room := { frames := 0, cells := 0, slots := 0, locals := 0 }
set_option maxHeartbeats 4000000 in
set_option maxRecDepth 100000 in
theorem kX6_ofNozzle (g : GT) (a : Nat → Nat) (z hi tx ai pa tu pt ke : Nat → Int32) (st le th re nu du : Int32) (ha : Int64) (n : Nat) (k : Nat) (hn : n < 4) (hk : k < 5) : UC g yX6_ofNozzle wsX6_ofNozzle rmX6_ofNozzle [.ref (a 0), .int (nI n), .int (nI k)] (MW g a z hi tx ai pa tu pt ke st le th re nu du ha) (Qf (some (.int (z (196 + 5 * n + k)))) (MW g a z hi tx ai pa tu pt ke st le th re nu du ha)) := by
  refine UC.ofV (cc := cX6_ofNozzle) (maxL := 3) (ret := some .int) (lv0 := [(0, .ref (a 0)), (1, .int (nI n)), (2, .int (nI k))]) (by decide) rfl (Nat.le_of_ble_eq_true rfl) rfl ?_
  generalize hQF : QFr g rmX6_ofNozzle (Qf (some (.int (z (196 + 5 * n + k)))) (MW g a z hi tx ai pa tu pt ke st le th re nu du ha)) = QF
  have hq : QFok g rmX6_ofNozzle (Qf (some (.int (z (196 + 5 * n + k)))) (MW g a z hi tx ai pa tu pt ke st le th re nu du ha)) QF := hQF ▸ QFr.q
  refine V.aload_n 0 rfl dX6_ofNozzle_0 rfl ?_
  refine V.get (v := .ref (a 1)) (fun w H => List.mem_cons_of_mem _ (List.mem_append_right _ H)) (hc := (rfl : vwCl[6]? = some (RX6, TX6, 15))) 0 0 (by decide) (List.mem_of_getElem? (i := 1) rfl) rfl rfl dX6_ofNozzle_1 ?_
  refine V.sipush (v := 196) dX6_ofNozzle_4 (by decide) ?_
  refine V.iconst (v := 5) dX6_ofNozzle_7 (by decide) ?_
  refine V.iload_n 1 rfl dX6_ofNozzle_8 rfl ?_
  refine V.imulN (v := nI (5 * n)) dX6_ofNozzle_9 (pk_mul 5 n) ?_
  refine V.iaddN (v := nI (196 + 5 * n)) dX6_ofNozzle_10 (nI_add 196 (5 * n)) ?_
  refine V.iload_n 2 rfl dX6_ofNozzle_11 rfl ?_
  refine V.iaddN (v := nI (196 + 5 * n + k)) dX6_ofNozzle_12 (nI_add (196 + 5 * n) k) ?_
  refine V.iald (f := z) 1 (196 + 5 * n + k) rfl rfl (by omega) (by decide) dX6_ofNozzle_13 ?_
  exact V.iret hq XM.r (Nat.le_of_ble_eq_true rfl) (Nat.le_of_ble_eq_true rfl) ⟨rfl, rfl⟩ dX6_ofNozzle_14
abbrev rmX6_trustOf : Room := { frames := 0, cells := 0, slots := 0, locals := 0 }
set_option maxHeartbeats 4000000 in
set_option maxRecDepth 100000 in
theorem kX6_trustOf (g : GT) (a : Nat → Nat) (z hi tx ai pa tu pt ke : Nat → Int32) (st le th re nu du : Int32) (ha : Int64) (n : Nat) (f : Nat) (hn : n < 4) (hf : f < 8) : UC g yX6_trustOf wsX6_trustOf rmX6_trustOf [.ref (a 0), .int (nI n), .int (nI f)] (MW g a z hi tx ai pa tu pt ke st le th re nu du ha) (Qf (some (.int (z (216 + 8 * n + f)))) (MW g a z hi tx ai pa tu pt ke st le th re nu du ha)) := by
  refine UC.ofV (cc := cX6_trustOf) (maxL := 3) (ret := some .int) (lv0 := [(0, .ref (a 0)), (1, .int (nI n)), (2, .int (nI f))]) (by decide) rfl (Nat.le_of_ble_eq_true rfl) rfl ?_
  generalize hQF : QFr g rmX6_trustOf (Qf (some (.int (z (216 + 8 * n + f)))) (MW g a z hi tx ai pa tu pt ke st le th re nu du ha)) = QF
  have hq : QFok g rmX6_trustOf (Qf (some (.int (z (216 + 8 * n + f)))) (MW g a z hi tx ai pa tu pt ke st le th re nu du ha)) QF := hQF ▸ QFr.q
  refine V.aload_n 0 rfl dX6_trustOf_0 rfl ?_
  refine V.get (v := .ref (a 1)) (fun w H => List.mem_cons_of_mem _ (List.mem_append_right _ H)) (hc := (rfl : vwCl[6]? = some (RX6, TX6, 15))) 0 0 (by decide) (List.mem_of_getElem? (i := 1) rfl) rfl rfl dX6_trustOf_1 ?_
  refine V.sipush (v := 216) dX6_trustOf_4 (by decide) ?_
  refine V.bipush (v := 8) dX6_trustOf_7 (by decide) ?_
  refine V.iload_n 1 rfl dX6_trustOf_9 rfl ?_
  refine V.imulN (v := nI (8 * n)) dX6_trustOf_10 (pk_mul 8 n) ?_
  refine V.iaddN (v := nI (216 + 8 * n)) dX6_trustOf_11 (nI_add 216 (8 * n)) ?_
  refine V.iload_n 2 rfl dX6_trustOf_12 rfl ?_
  refine V.iaddN (v := nI (216 + 8 * n + f)) dX6_trustOf_13 (nI_add (216 + 8 * n) f) ?_
  refine V.iald (f := z) 1 (216 + 8 * n + f) rfl rfl (by omega) (by decide) dX6_trustOf_14 ?_
  exact V.iret hq XM.r (Nat.le_of_ble_eq_true rfl) (Nat.le_of_ble_eq_true rfl) ⟨rfl, rfl⟩ dX6_trustOf_15
abbrev rmX6_trustMore : Room := { frames := 1, cells := 0, slots := 0, locals := 22 }
set_option maxHeartbeats 4000000 in
set_option maxRecDepth 100000 in
theorem kX6_trustMore (g : GT) (a : Nat → Nat) (z hi tx ai pa tu pt ke : Nat → Int32) (st le th re nu du : Int32) (ha : Int64) (n : Nat) (f : Nat) (d : Int32) (hn : n < 4) (hf : f < 8) : UC g yX6_trustMore wsX6_trustMore rmX6_trustMore [.ref (a 0), .int (nI n), .int (nI f), .int d] (MW g a z hi tx ai pa tu pt ke st le th re nu du ha) (Qf (none) (MW g a (tM z n f d) hi tx ai pa tu pt ke st le th re nu du ha)) := by
  refine UC.ofV (cc := cX6_trustMore) (maxL := 5) (ret := none) (lv0 := [(0, .ref (a 0)), (1, .int (nI n)), (2, .int (nI f)), (3, .int d)]) (by decide) rfl (Nat.le_of_ble_eq_true rfl) rfl ?_
  generalize hQF : QFr g rmX6_trustMore (Qf (none) (MW g a (tM z n f d) hi tx ai pa tu pt ke st le th re nu du ha)) = QF
  have hq : QFok g rmX6_trustMore (Qf (none) (MW g a (tM z n f d) hi tx ai pa tu pt ke st le th re nu du ha)) QF := hQF ▸ QFr.q
  refine V.aload_n 0 rfl dX6_trustMore_0 rfl ?_
  refine V.iload_n 1 rfl dX6_trustMore_1 rfl ?_
  refine V.iload_n 2 rfl dX6_trustMore_2 rfl ?_
  refine V.callVf (ws2 := MW g a z hi tx ai pa tu pt ke st le th re nu du ha) (st2 := [.int (z (216 + 8 * n + f))]) [.int (nI n), .int (nI f)] [] (kX6_trustOf g a z hi tx ai pa tu pt ke st le th re nu du ha n f (by first | omega | decide) (by first | omega | decide)) gX6_trustMore_X6_trustOf rfl (by show _ ∧ _ ∧ _ ∧ _ = some (2 : Nat); decide +kernel) ⟨Nat.le_of_ble_eq_true rfl, Nat.le_of_ble_eq_true rfl⟩ (hc := (rfl : vwCl[6]? = some (RX6, TX6, 15))) 0 rfl [0, 1, 2, 3, 4, 5, 6, 7, 8] (by decide) rfl rfl (Nat.le_of_ble_eq_true rfl) ⟨Nat.le_of_ble_eq_true rfl, Nat.le_of_ble_eq_true rfl⟩ dX6_trustMore_3 MWf rfl rfl rfl rfl ?_
  refine V.iload_n 3 rfl dX6_trustMore_6 rfl ?_
  refine V.iadd dX6_trustMore_7 ?_
  refine V.istore (lv2 := [(4, .int ((z (216 + 8 * n + f)) + d)), (0, .ref (a 0)), (1, .int (nI n)), (2, .int (nI f)), (3, .int d)]) dX6_trustMore_8 (by decide) rfl ?_
  refine V.aload_n 1 rfl dX6_trustMore_10 rfl ?_
  refine V.get (v := .ref (a 1)) (fun w H => List.mem_cons_of_mem _ (List.mem_append_right _ H)) (hc := (rfl : vwCl[6]? = some (RX6, TX6, 15))) 0 0 (by decide) (List.mem_of_getElem? (i := 1) rfl) rfl rfl dX6_trustMore_11 ?_
  refine V.sipush (v := 216) dX6_trustMore_14 (by decide) ?_
  refine V.bipush (v := 8) dX6_trustMore_17 (by decide) ?_
  refine V.iload_n 2 rfl dX6_trustMore_19 rfl ?_
  refine V.imulN (v := nI (8 * n)) dX6_trustMore_20 (pk_mul 8 n) ?_
  refine V.iaddN (v := nI (216 + 8 * n)) dX6_trustMore_21 (nI_add 216 (8 * n)) ?_
  refine V.iload_n 3 rfl dX6_trustMore_22 rfl ?_
  refine V.iaddN (v := nI (216 + 8 * n + f)) dX6_trustMore_23 (nI_add (216 + 8 * n) f) ?_
  refine V.iload 0 rfl dX6_trustMore_24 ?_
  refine V.if_ge (tgt := 33) dX6_trustMore_26 (by decide) (fun c26 => ?_) (fun c26 => ?_)
  · skip
    refine V.iload 0 rfl dX6_trustMore_33 ?_
    refine V.bipush (v := 100) dX6_trustMore_35 (by decide) ?_
    refine V.icmp_le (tgt := 45) dX6_trustMore_37 (by decide) (fun c37 => ?_) (fun c37 => ?_)
    · skip
      refine V.iload 0 rfl dX6_trustMore_45 ?_
      refine V.iast (f := z) (ws2 := MW g a (upd z (216 + 8 * n + f) ((z (216 + 8 * n + f)) + d)) hi tx ai pa tu pt ke st le th re nu du ha) 1 (216 + 8 * n + f) rfl rfl (by omega) (by decide) rfl dX6_trustMore_47 ?_
      exact V.vret hq XM.r (Nat.le_of_ble_eq_true rfl) (Nat.le_of_ble_eq_true rfl) ⟨rfl, by simp [tM, cl, *]⟩ dX6_trustMore_48
    · skip
      refine V.bipush (v := 100) dX6_trustMore_40 (by decide) ?_
      refine V.goto (tgt := 47) dX6_trustMore_42 (by decide) ?_
      refine V.iast (f := z) (ws2 := MW g a (upd z (216 + 8 * n + f) 100) hi tx ai pa tu pt ke st le th re nu du ha) 1 (216 + 8 * n + f) rfl rfl (by omega) (by decide) rfl dX6_trustMore_47 ?_
      exact V.vret hq XM.r (Nat.le_of_ble_eq_true rfl) (Nat.le_of_ble_eq_true rfl) ⟨rfl, by simp [tM, cl, *]⟩ dX6_trustMore_48
  · skip
    refine V.iconst (v := 0) dX6_trustMore_29 (by decide) ?_
    refine V.goto (tgt := 47) dX6_trustMore_30 (by decide) ?_
    refine V.iast (f := z) (ws2 := MW g a (upd z (216 + 8 * n + f) 0) hi tx ai pa tu pt ke st le th re nu du ha) 1 (216 + 8 * n + f) rfl rfl (by omega) (by decide) rfl dX6_trustMore_47 ?_
    exact V.vret hq XM.r (Nat.le_of_ble_eq_true rfl) (Nat.le_of_ble_eq_true rfl) ⟨rfl, by simp [tM, cl, *]⟩ dX6_trustMore_48
abbrev rmX6_within : Room := { frames := 0, cells := 0, slots := 0, locals := 0 }
set_option maxHeartbeats 4000000 in
set_option maxRecDepth 100000 in
theorem kX6_within (g : GT) (v : Int32) (lo : Int32) (hi : Int32) : UC g yX6_within wsX6_within rmX6_within [.int v, .int lo, .int hi] ([]) (Qf (some (.int (bi (wi v lo hi)))) ([])) := by
  refine UC.ofV (cc := cX6_within) (maxL := 3) (ret := some .boolean) (lv0 := [(0, .int v), (1, .int lo), (2, .int hi)]) (by decide) rfl (Nat.le_of_ble_eq_true rfl) rfl ?_
  generalize hQF : QFr g rmX6_within (Qf (some (.int (bi (wi v lo hi)))) ([])) = QF
  have hq : QFok g rmX6_within (Qf (some (.int (bi (wi v lo hi)))) ([])) QF := hQF ▸ QFr.q
  refine V.iload_n 0 rfl dX6_within_0 rfl ?_
  refine V.iload_n 1 rfl dX6_within_1 rfl ?_
  refine V.icmp_lt (tgt := 14) dX6_within_2 (by decide) (fun c2 => ?_) (fun c2 => ?_)
  · skip
    refine V.iconst (v := 0) dX6_within_14 (by decide) ?_
    exact V.zret hq XM.r rfl (Nat.le_of_ble_eq_true rfl) (Nat.le_of_ble_eq_true rfl) ⟨by (try simp only [Nat.add_zero] at *); simp [wi, gv, bt, bi, *], rfl⟩ dX6_within_15
  · skip
    refine V.iload_n 0 rfl dX6_within_5 rfl ?_
    refine V.iload_n 2 rfl dX6_within_6 rfl ?_
    refine V.icmp_gt (tgt := 14) dX6_within_7 (by decide) (fun c7 => ?_) (fun c7 => ?_)
    · skip
      refine V.iconst (v := 0) dX6_within_14 (by decide) ?_
      exact V.zret hq XM.r rfl (Nat.le_of_ble_eq_true rfl) (Nat.le_of_ble_eq_true rfl) ⟨by (try simp only [Nat.add_zero] at *); simp [wi, gv, bt, bi, *], rfl⟩ dX6_within_15
    · skip
      refine V.iconst (v := 1) dX6_within_10 (by decide) ?_
      refine V.goto (tgt := 15) dX6_within_11 (by decide) ?_
      exact V.zret hq XM.r rfl (Nat.le_of_ble_eq_true rfl) (Nat.le_of_ble_eq_true rfl) ⟨by (try simp only [Nat.add_zero] at *); simp [wi, gv, bt, bi, *], rfl⟩ dX6_within_15
abbrev rmX6_isNozzle : Room := { frames := 1, cells := 0, slots := 0, locals := 22 }
set_option maxHeartbeats 4000000 in
set_option maxRecDepth 100000 in
theorem kX6_isNozzle (g : GT) (v : Int32) : UC g yX6_isNozzle wsX6_isNozzle rmX6_isNozzle [.int v] ([]) (Qf (some (.int (bi (wi v 0 3)))) ([])) := by
  refine UC.ofV (cc := cX6_isNozzle) (maxL := 1) (ret := some .boolean) (lv0 := [(0, .int v)]) (by decide) rfl (Nat.le_of_ble_eq_true rfl) rfl ?_
  generalize hQF : QFr g rmX6_isNozzle (Qf (some (.int (bi (wi v 0 3)))) ([])) = QF
  have hq : QFok g rmX6_isNozzle (Qf (some (.int (bi (wi v 0 3)))) ([])) QF := hQF ▸ QFr.q
  refine V.iload_n 0 rfl dX6_isNozzle_0 rfl ?_
  refine V.iconst (v := 0) dX6_isNozzle_1 (by decide) ?_
  refine V.iconst (v := 3) dX6_isNozzle_2 (by decide) ?_
  refine V.callSf (ws2 := []) (st2 := [.int (bi (wi v (0 : Int32) (3 : Int32)))]) [.int v, .int 0, .int 3] [] (kX6_within g v (0 : Int32) (3 : Int32) ) gX6_isNozzle_X6_within rfl (by show _ ∧ _ ∧ _ = some (3 : Nat); decide +kernel) ⟨Nat.le_of_ble_eq_true rfl, Nat.le_of_ble_eq_true rfl⟩ [] (by decide) rfl rfl (Nat.le_of_ble_eq_true rfl) ⟨Nat.le_of_ble_eq_true rfl, Nat.le_of_ble_eq_true rfl⟩ dX6_isNozzle_3 rfl (List.append_nil _) rfl rfl rfl ?_
  exact V.zret hq XM.r (bi_nar _) (Nat.le_of_ble_eq_true rfl) (Nat.le_of_ble_eq_true rfl) ⟨rfl, rfl⟩ dX6_isNozzle_6
abbrev rmX6_isKind : Room := { frames := 1, cells := 0, slots := 0, locals := 22 }
set_option maxHeartbeats 4000000 in
set_option maxRecDepth 100000 in
theorem kX6_isKind (g : GT) (v : Int32) : UC g yX6_isKind wsX6_isKind rmX6_isKind [.int v] ([]) (Qf (some (.int (bi (wi v 0 5)))) ([])) := by
  refine UC.ofV (cc := cX6_isKind) (maxL := 1) (ret := some .boolean) (lv0 := [(0, .int v)]) (by decide) rfl (Nat.le_of_ble_eq_true rfl) rfl ?_
  generalize hQF : QFr g rmX6_isKind (Qf (some (.int (bi (wi v 0 5)))) ([])) = QF
  have hq : QFok g rmX6_isKind (Qf (some (.int (bi (wi v 0 5)))) ([])) QF := hQF ▸ QFr.q
  refine V.iload_n 0 rfl dX6_isKind_0 rfl ?_
  refine V.iconst (v := 0) dX6_isKind_1 (by decide) ?_
  refine V.iconst (v := 5) dX6_isKind_2 (by decide) ?_
  refine V.callSf (ws2 := []) (st2 := [.int (bi (wi v (0 : Int32) (5 : Int32)))]) [.int v, .int 0, .int 5] [] (kX6_within g v (0 : Int32) (5 : Int32) ) gX6_isKind_X6_within rfl (by show _ ∧ _ ∧ _ = some (3 : Nat); decide +kernel) ⟨Nat.le_of_ble_eq_true rfl, Nat.le_of_ble_eq_true rfl⟩ [] (by decide) rfl rfl (Nat.le_of_ble_eq_true rfl) ⟨Nat.le_of_ble_eq_true rfl, Nat.le_of_ble_eq_true rfl⟩ dX6_isKind_3 rfl (List.append_nil _) rfl rfl rfl ?_
  exact V.zret hq XM.r (bi_nar _) (Nat.le_of_ble_eq_true rfl) (Nat.le_of_ble_eq_true rfl) ⟨rfl, rfl⟩ dX6_isKind_6
abbrev rmX6_isX : Room := { frames := 1, cells := 0, slots := 0, locals := 22 }
set_option maxHeartbeats 4000000 in
set_option maxRecDepth 100000 in
theorem kX6_isX (g : GT) (v : Int32) : UC g yX6_isX wsX6_isX rmX6_isX [.int v] ([]) (Qf (some (.int (bi (wi v 0 99)))) ([])) := by
  refine UC.ofV (cc := cX6_isX) (maxL := 1) (ret := some .boolean) (lv0 := [(0, .int v)]) (by decide) rfl (Nat.le_of_ble_eq_true rfl) rfl ?_
  generalize hQF : QFr g rmX6_isX (Qf (some (.int (bi (wi v 0 99)))) ([])) = QF
  have hq : QFok g rmX6_isX (Qf (some (.int (bi (wi v 0 99)))) ([])) QF := hQF ▸ QFr.q
  refine V.iload_n 0 rfl dX6_isX_0 rfl ?_
  refine V.iconst (v := 0) dX6_isX_1 (by decide) ?_
  refine V.bipush (v := 99) dX6_isX_2 (by decide) ?_
  refine V.callSf (ws2 := []) (st2 := [.int (bi (wi v (0 : Int32) (99 : Int32)))]) [.int v, .int 0, .int 99] [] (kX6_within g v (0 : Int32) (99 : Int32) ) gX6_isX_X6_within rfl (by show _ ∧ _ ∧ _ = some (3 : Nat); decide +kernel) ⟨Nat.le_of_ble_eq_true rfl, Nat.le_of_ble_eq_true rfl⟩ [] (by decide) rfl rfl (Nat.le_of_ble_eq_true rfl) ⟨Nat.le_of_ble_eq_true rfl, Nat.le_of_ble_eq_true rfl⟩ dX6_isX_4 rfl (List.append_nil _) rfl rfl rfl ?_
  exact V.zret hq XM.r (bi_nar _) (Nat.le_of_ble_eq_true rfl) (Nat.le_of_ble_eq_true rfl) ⟨rfl, rfl⟩ dX6_isX_7
abbrev rmX6_isPercent : Room := { frames := 1, cells := 0, slots := 0, locals := 22 }
set_option maxHeartbeats 4000000 in
set_option maxRecDepth 100000 in
theorem kX6_isPercent (g : GT) (v : Int32) : UC g yX6_isPercent wsX6_isPercent rmX6_isPercent [.int v] ([]) (Qf (some (.int (bi (wi v 0 100)))) ([])) := by
  refine UC.ofV (cc := cX6_isPercent) (maxL := 1) (ret := some .boolean) (lv0 := [(0, .int v)]) (by decide) rfl (Nat.le_of_ble_eq_true rfl) rfl ?_
  generalize hQF : QFr g rmX6_isPercent (Qf (some (.int (bi (wi v 0 100)))) ([])) = QF
  have hq : QFok g rmX6_isPercent (Qf (some (.int (bi (wi v 0 100)))) ([])) QF := hQF ▸ QFr.q
  refine V.iload_n 0 rfl dX6_isPercent_0 rfl ?_
  refine V.iconst (v := 0) dX6_isPercent_1 (by decide) ?_
  refine V.bipush (v := 100) dX6_isPercent_2 (by decide) ?_
  refine V.callSf (ws2 := []) (st2 := [.int (bi (wi v (0 : Int32) (100 : Int32)))]) [.int v, .int 0, .int 100] [] (kX6_within g v (0 : Int32) (100 : Int32) ) gX6_isPercent_X6_within rfl (by show _ ∧ _ ∧ _ = some (3 : Nat); decide +kernel) ⟨Nat.le_of_ble_eq_true rfl, Nat.le_of_ble_eq_true rfl⟩ [] (by decide) rfl rfl (Nat.le_of_ble_eq_true rfl) ⟨Nat.le_of_ble_eq_true rfl, Nat.le_of_ble_eq_true rfl⟩ dX6_isPercent_4 rfl (List.append_nil _) rfl rfl rfl ?_
  exact V.zret hq XM.r (bi_nar _) (Nat.le_of_ble_eq_true rfl) (Nat.le_of_ble_eq_true rfl) ⟨rfl, rfl⟩ dX6_isPercent_7
abbrev rmX6_isSetting : Room := { frames := 1, cells := 0, slots := 0, locals := 22 }
set_option maxHeartbeats 4000000 in
set_option maxRecDepth 100000 in
theorem kX6_isSetting (g : GT) (v : Int32) : UC g yX6_isSetting wsX6_isSetting rmX6_isSetting [.int v] ([]) (Qf (some (.int (bi (wi v 0 4)))) ([])) := by
  refine UC.ofV (cc := cX6_isSetting) (maxL := 1) (ret := some .boolean) (lv0 := [(0, .int v)]) (by decide) rfl (Nat.le_of_ble_eq_true rfl) rfl ?_
  generalize hQF : QFr g rmX6_isSetting (Qf (some (.int (bi (wi v 0 4)))) ([])) = QF
  have hq : QFok g rmX6_isSetting (Qf (some (.int (bi (wi v 0 4)))) ([])) QF := hQF ▸ QFr.q
  refine V.iload_n 0 rfl dX6_isSetting_0 rfl ?_
  refine V.iconst (v := 0) dX6_isSetting_1 (by decide) ?_
  refine V.iconst (v := 4) dX6_isSetting_2 (by decide) ?_
  refine V.callSf (ws2 := []) (st2 := [.int (bi (wi v (0 : Int32) (4 : Int32)))]) [.int v, .int 0, .int 4] [] (kX6_within g v (0 : Int32) (4 : Int32) ) gX6_isSetting_X6_within rfl (by show _ ∧ _ ∧ _ = some (3 : Nat); decide +kernel) ⟨Nat.le_of_ble_eq_true rfl, Nat.le_of_ble_eq_true rfl⟩ [] (by decide) rfl rfl (Nat.le_of_ble_eq_true rfl) ⟨Nat.le_of_ble_eq_true rfl, Nat.le_of_ble_eq_true rfl⟩ dX6_isSetting_3 rfl (List.append_nil _) rfl rfl rfl ?_
  exact V.zret hq XM.r (bi_nar _) (Nat.le_of_ble_eq_true rfl) (Nat.le_of_ble_eq_true rfl) ⟨rfl, rfl⟩ dX6_isSetting_6
abbrev rmX6_areTimes : Room := { frames := 1, cells := 0, slots := 0, locals := 22 }
set_option maxHeartbeats 4000000 in
set_option maxRecDepth 100000 in
theorem kX6_areTimes (g : GT) (v : Int32) : UC g yX6_areTimes wsX6_areTimes rmX6_areTimes [.int v] ([]) (Qf (some (.int (bi (wi v 1 20)))) ([])) := by
  refine UC.ofV (cc := cX6_areTimes) (maxL := 1) (ret := some .boolean) (lv0 := [(0, .int v)]) (by decide) rfl (Nat.le_of_ble_eq_true rfl) rfl ?_
  generalize hQF : QFr g rmX6_areTimes (Qf (some (.int (bi (wi v 1 20)))) ([])) = QF
  have hq : QFok g rmX6_areTimes (Qf (some (.int (bi (wi v 1 20)))) ([])) QF := hQF ▸ QFr.q
  refine V.iload_n 0 rfl dX6_areTimes_0 rfl ?_
  refine V.iconst (v := 1) dX6_areTimes_1 (by decide) ?_
  refine V.bipush (v := 20) dX6_areTimes_2 (by decide) ?_
  refine V.callSf (ws2 := []) (st2 := [.int (bi (wi v (1 : Int32) (20 : Int32)))]) [.int v, .int 1, .int 20] [] (kX6_within g v (1 : Int32) (20 : Int32) ) gX6_areTimes_X6_within rfl (by show _ ∧ _ ∧ _ = some (3 : Nat); decide +kernel) ⟨Nat.le_of_ble_eq_true rfl, Nat.le_of_ble_eq_true rfl⟩ [] (by decide) rfl rfl (Nat.le_of_ble_eq_true rfl) ⟨Nat.le_of_ble_eq_true rfl, Nat.le_of_ble_eq_true rfl⟩ dX6_areTimes_4 rfl (List.append_nil _) rfl rfl rfl ?_
  exact V.zret hq XM.r (bi_nar _) (Nat.le_of_ble_eq_true rfl) (Nat.le_of_ble_eq_true rfl) ⟨rfl, rfl⟩ dX6_areTimes_7
abbrev rmX6_apart : Room := { frames := 0, cells := 0, slots := 0, locals := 0 }
set_option maxHeartbeats 4000000 in
set_option maxRecDepth 100000 in
theorem kX6_apart (g : GT) (x : Int32) (y : Int32) : UC g yX6_apart wsX6_apart rmX6_apart [.int x, .int y] ([]) (Qf (some (.int (ap x y))) ([])) := by
  refine UC.ofV (cc := cX6_apart) (maxL := 2) (ret := some .int) (lv0 := [(0, .int x), (1, .int y)]) (by decide) rfl (Nat.le_of_ble_eq_true rfl) rfl ?_
  generalize hQF : QFr g rmX6_apart (Qf (some (.int (ap x y))) ([])) = QF
  have hq : QFok g rmX6_apart (Qf (some (.int (ap x y))) ([])) QF := hQF ▸ QFr.q
  refine V.iload_n 0 rfl dX6_apart_0 rfl ?_
  refine V.iload_n 1 rfl dX6_apart_1 rfl ?_
  refine V.icmp_ge (tgt := 11) dX6_apart_2 (by decide) (fun c2 => ?_) (fun c2 => ?_)
  · skip
    refine V.iload_n 0 rfl dX6_apart_11 rfl ?_
    refine V.iload_n 1 rfl dX6_apart_12 rfl ?_
    refine V.isub dX6_apart_13 ?_
    exact V.iret hq XM.r (Nat.le_of_ble_eq_true rfl) (Nat.le_of_ble_eq_true rfl) ⟨by simp [ap, *], rfl⟩ dX6_apart_14
  · skip
    refine V.iload_n 1 rfl dX6_apart_5 rfl ?_
    refine V.iload_n 0 rfl dX6_apart_6 rfl ?_
    refine V.isub dX6_apart_7 ?_
    refine V.goto (tgt := 14) dX6_apart_8 (by decide) ?_
    exact V.iret hq XM.r (Nat.le_of_ble_eq_true rfl) (Nat.le_of_ble_eq_true rfl) ⟨by simp [ap, *], rfl⟩ dX6_apart_14
abbrev rmX6_isFeeder : Room := { frames := 1, cells := 0, slots := 0, locals := 22 }
set_option maxHeartbeats 4000000 in
set_option maxRecDepth 100000 in
theorem kX6_isFeeder (g : GT) (a : Nat → Nat) (z hi tx ai pa tu pt ke : Nat → Int32) (st le th re nu du : Int32) (ha : Int64) (v : Int32) : UC g yX6_isFeeder wsX6_isFeeder rmX6_isFeeder [.ref (a 0), .int v] (MW g a z hi tx ai pa tu pt ke st le th re nu du ha) (Qf (some (.int (bi (wi v 0 (z 5 - 1))))) (MW g a z hi tx ai pa tu pt ke st le th re nu du ha)) := by
  refine UC.ofV (cc := cX6_isFeeder) (maxL := 2) (ret := some .boolean) (lv0 := [(0, .ref (a 0)), (1, .int v)]) (by decide) rfl (Nat.le_of_ble_eq_true rfl) rfl ?_
  generalize hQF : QFr g rmX6_isFeeder (Qf (some (.int (bi (wi v 0 (z 5 - 1))))) (MW g a z hi tx ai pa tu pt ke st le th re nu du ha)) = QF
  have hq : QFok g rmX6_isFeeder (Qf (some (.int (bi (wi v 0 (z 5 - 1))))) (MW g a z hi tx ai pa tu pt ke st le th re nu du ha)) QF := hQF ▸ QFr.q
  refine V.iload_n 1 rfl dX6_isFeeder_0 rfl ?_
  refine V.iconst (v := 0) dX6_isFeeder_1 (by decide) ?_
  refine V.aload_n 0 rfl dX6_isFeeder_2 rfl ?_
  refine V.get (v := .ref (a 1)) (fun w H => List.mem_cons_of_mem _ (List.mem_append_right _ H)) (hc := (rfl : vwCl[6]? = some (RX6, TX6, 15))) 0 0 (by decide) (List.mem_of_getElem? (i := 1) rfl) rfl rfl dX6_isFeeder_3 ?_
  refine V.iconst (v := 5) dX6_isFeeder_6 (by decide) ?_
  refine V.iald (f := z) 1 5 rfl rfl (by decide) (by decide) dX6_isFeeder_7 ?_
  refine V.iconst (v := 1) dX6_isFeeder_8 (by decide) ?_
  refine V.isub dX6_isFeeder_9 ?_
  refine V.callSf (ws2 := MW g a z hi tx ai pa tu pt ke st le th re nu du ha) (st2 := [.int (bi (wi v (0 : Int32) ((z 5) - 1)))]) [.int v, .int 0, .int ((z 5) - 1)] [] (kX6_within g v (0 : Int32) ((z 5) - 1) ) gX6_isFeeder_X6_within rfl (by show _ ∧ _ ∧ _ = some (3 : Nat); decide +kernel) ⟨Nat.le_of_ble_eq_true rfl, Nat.le_of_ble_eq_true rfl⟩ [] (by decide) rfl rfl (Nat.le_of_ble_eq_true rfl) ⟨Nat.le_of_ble_eq_true rfl, Nat.le_of_ble_eq_true rfl⟩ dX6_isFeeder_10 rfl (List.append_nil _) rfl rfl rfl ?_
  exact V.zret hq XM.r (bi_nar _) (Nat.le_of_ble_eq_true rfl) (Nat.le_of_ble_eq_true rfl) ⟨rfl, rfl⟩ dX6_isFeeder_13
abbrev rmX6_isPlace : Room := { frames := 1, cells := 0, slots := 0, locals := 22 }
set_option maxHeartbeats 4000000 in
set_option maxRecDepth 100000 in
theorem kX6_isPlace (g : GT) (a : Nat → Nat) (z hi tx ai pa tu pt ke : Nat → Int32) (st le th re nu du : Int32) (ha : Int64) (v : Int32) : UC g yX6_isPlace wsX6_isPlace rmX6_isPlace [.ref (a 0), .int v] (MW g a z hi tx ai pa tu pt ke st le th re nu du ha) (Qf (some (.int (bi (wi v 0 (z 6 - 1))))) (MW g a z hi tx ai pa tu pt ke st le th re nu du ha)) := by
  refine UC.ofV (cc := cX6_isPlace) (maxL := 2) (ret := some .boolean) (lv0 := [(0, .ref (a 0)), (1, .int v)]) (by decide) rfl (Nat.le_of_ble_eq_true rfl) rfl ?_
  generalize hQF : QFr g rmX6_isPlace (Qf (some (.int (bi (wi v 0 (z 6 - 1))))) (MW g a z hi tx ai pa tu pt ke st le th re nu du ha)) = QF
  have hq : QFok g rmX6_isPlace (Qf (some (.int (bi (wi v 0 (z 6 - 1))))) (MW g a z hi tx ai pa tu pt ke st le th re nu du ha)) QF := hQF ▸ QFr.q
  refine V.iload_n 1 rfl dX6_isPlace_0 rfl ?_
  refine V.iconst (v := 0) dX6_isPlace_1 (by decide) ?_
  refine V.aload_n 0 rfl dX6_isPlace_2 rfl ?_
  refine V.get (v := .ref (a 1)) (fun w H => List.mem_cons_of_mem _ (List.mem_append_right _ H)) (hc := (rfl : vwCl[6]? = some (RX6, TX6, 15))) 0 0 (by decide) (List.mem_of_getElem? (i := 1) rfl) rfl rfl dX6_isPlace_3 ?_
  refine V.bipush (v := 6) dX6_isPlace_6 (by decide) ?_
  refine V.iald (f := z) 1 6 rfl rfl (by decide) (by decide) dX6_isPlace_8 ?_
  refine V.iconst (v := 1) dX6_isPlace_9 (by decide) ?_
  refine V.isub dX6_isPlace_10 ?_
  refine V.callSf (ws2 := MW g a z hi tx ai pa tu pt ke st le th re nu du ha) (st2 := [.int (bi (wi v (0 : Int32) ((z 6) - 1)))]) [.int v, .int 0, .int ((z 6) - 1)] [] (kX6_within g v (0 : Int32) ((z 6) - 1) ) gX6_isPlace_X6_within rfl (by show _ ∧ _ ∧ _ = some (3 : Nat); decide +kernel) ⟨Nat.le_of_ble_eq_true rfl, Nat.le_of_ble_eq_true rfl⟩ [] (by decide) rfl rfl (Nat.le_of_ble_eq_true rfl) ⟨Nat.le_of_ble_eq_true rfl, Nat.le_of_ble_eq_true rfl⟩ dX6_isPlace_11 rfl (List.append_nil _) rfl rfl rfl ?_
  exact V.zret hq XM.r (bi_nar _) (Nat.le_of_ble_eq_true rfl) (Nat.le_of_ble_eq_true rfl) ⟨rfl, rfl⟩ dX6_isPlace_14
abbrev rmX6_go : Room := { frames := 1, cells := 0, slots := 0, locals := 21 }
set_option maxHeartbeats 4000000 in
set_option maxRecDepth 100000 in
theorem kX6_go (g : GT) (a : Nat → Nat) (z hi tx ai pa tu pt ke : Nat → Int32) (st le th re nu du : Int32) (ha : Int64) (x : Int32) (m : Int32) : UC g yX6_go wsX6_go rmX6_go [.ref (a 0), .int x, .int m] (MW g a z hi tx ai pa tu pt ke st le th re nu du ha) (Qf (none) (MW g a (gz z x m) hi tx ai pa tu pt ke st le th re nu du ha)) := by
  refine UC.ofV (cc := cX6_go) (maxL := 3) (ret := none) (lv0 := [(0, .ref (a 0)), (1, .int x), (2, .int m)]) (by decide) rfl (Nat.le_of_ble_eq_true rfl) rfl ?_
  generalize hQF : QFr g rmX6_go (Qf (none) (MW g a (gz z x m) hi tx ai pa tu pt ke st le th re nu du ha)) = QF
  have hq : QFok g rmX6_go (Qf (none) (MW g a (gz z x m) hi tx ai pa tu pt ke st le th re nu du ha)) QF := hQF ▸ QFr.q
  refine V.aload_n 0 rfl dX6_go_0 rfl ?_
  refine V.get (v := .ref (a 1)) (fun w H => List.mem_cons_of_mem _ (List.mem_append_right _ H)) (hc := (rfl : vwCl[6]? = some (RX6, TX6, 15))) 0 0 (by decide) (List.mem_of_getElem? (i := 1) rfl) rfl rfl dX6_go_1 ?_
  refine V.bipush (v := 7) dX6_go_4 (by decide) ?_
  refine V.dup2 dX6_go_6 rfl rfl ?_
  refine V.iald (f := z) 1 7 rfl rfl (by decide) (by decide) dX6_go_7 ?_
  refine V.aload_n 0 rfl dX6_go_8 rfl ?_
  refine V.get (v := .ref (a 1)) (fun w H => List.mem_cons_of_mem _ (List.mem_append_right _ H)) (hc := (rfl : vwCl[6]? = some (RX6, TX6, 15))) 0 0 (by decide) (List.mem_of_getElem? (i := 1) rfl) rfl rfl dX6_go_9 ?_
  refine V.bipush (v := 9) dX6_go_12 (by decide) ?_
  refine V.iald (f := z) 1 9 rfl rfl (by decide) (by decide) dX6_go_14 ?_
  refine V.iload_n 1 rfl dX6_go_15 rfl ?_
  refine V.callSf (ws2 := MW g a z hi tx ai pa tu pt ke st le th re nu du ha) (st2 := [.int (ap (z 9) x), .int (z 7), .int 7, .ref (a 1)]) [.int (z 9), .int x] [.int (z 7), .int 7, .ref (a 1)] (kX6_apart g (z 9) x ) gX6_go_X6_apart rfl (by show _ ∧ _ ∧ _ = some (2 : Nat); decide +kernel) ⟨Nat.le_of_ble_eq_true rfl, Nat.le_of_ble_eq_true rfl⟩ [] (by decide) rfl rfl (Nat.le_of_ble_eq_true rfl) ⟨Nat.le_of_ble_eq_true rfl, Nat.le_of_ble_eq_true rfl⟩ dX6_go_16 rfl (List.append_nil _) rfl rfl rfl ?_
  refine V.iload_n 2 rfl dX6_go_19 rfl ?_
  refine V.iadd dX6_go_20 ?_
  refine V.iadd dX6_go_21 ?_
  refine V.iast (f := z) (ws2 := MW g a (upd z 7 ((z 7) + ((ap (z 9) x) + m))) hi tx ai pa tu pt ke st le th re nu du ha) 1 7 rfl rfl (by decide) (by decide) rfl dX6_go_22 ?_
  refine V.aload_n 0 rfl dX6_go_23 rfl ?_
  refine V.get (v := .ref (a 1)) (fun w H => List.mem_cons_of_mem _ (List.mem_append_right _ H)) (hc := (rfl : vwCl[6]? = some (RX6, TX6, 15))) 0 0 (by decide) (List.mem_of_getElem? (i := 1) rfl) rfl rfl dX6_go_24 ?_
  refine V.bipush (v := 9) dX6_go_27 (by decide) ?_
  refine V.iload_n 1 rfl dX6_go_29 rfl ?_
  refine V.iast (f := upd z 7 ((z 7) + ((ap (z 9) x) + m))) (ws2 := MW g a (upd (upd z 7 ((z 7) + ((ap (z 9) x) + m))) 9 x) hi tx ai pa tu pt ke st le th re nu du ha) 1 9 rfl rfl (by decide) (by decide) rfl dX6_go_30 ?_
  exact V.vret hq XM.r (Nat.le_of_ble_eq_true rfl) (Nat.le_of_ble_eq_true rfl) ⟨rfl, rfl⟩ dX6_go_31
abbrev rmX6_draw : Room := { frames := 0, cells := 0, slots := 0, locals := 0 }
set_option maxHeartbeats 4000000 in
set_option maxRecDepth 100000 in
theorem kX6_draw (g : GT) (a : Nat → Nat) (z hi tx ai pa tu pt ke : Nat → Int32) (st le th re nu du : Int32) (ha : Int64) (m : Int32) (hm : ¬ m = 0) : UC g yX6_draw wsX6_draw rmX6_draw [.ref (a 0), .int m] (MW g a z hi tx ai pa tu pt ke st le th re nu du ha) (Qf (some (.int (dv z m))) (MW g a (dz z) hi tx ai pa tu pt ke st le th re nu du ha)) := by
  refine UC.ofV (cc := cX6_draw) (maxL := 2) (ret := some .int) (lv0 := [(0, .ref (a 0)), (1, .int m)]) (by decide) rfl (Nat.le_of_ble_eq_true rfl) rfl ?_
  generalize hQF : QFr g rmX6_draw (Qf (some (.int (dv z m))) (MW g a (dz z) hi tx ai pa tu pt ke st le th re nu du ha)) = QF
  have hq : QFok g rmX6_draw (Qf (some (.int (dv z m))) (MW g a (dz z) hi tx ai pa tu pt ke st le th re nu du ha)) QF := hQF ▸ QFr.q
  refine V.aload_n 0 rfl dX6_draw_0 rfl ?_
  refine V.get (v := .ref (a 1)) (fun w H => List.mem_cons_of_mem _ (List.mem_append_right _ H)) (hc := (rfl : vwCl[6]? = some (RX6, TX6, 15))) 0 0 (by decide) (List.mem_of_getElem? (i := 1) rfl) rfl rfl dX6_draw_1 ?_
  refine V.bipush (v := 8) dX6_draw_4 (by decide) ?_
  refine V.ldc2 (v := 1103515245) (by decide +kernel) dX6_draw_6 ?_
  refine V.aload_n 0 rfl dX6_draw_9 rfl ?_
  refine V.get (v := .ref (a 1)) (fun w H => List.mem_cons_of_mem _ (List.mem_append_right _ H)) (hc := (rfl : vwCl[6]? = some (RX6, TX6, 15))) 0 0 (by decide) (List.mem_of_getElem? (i := 1) rfl) rfl rfl dX6_draw_10 ?_
  refine V.bipush (v := 8) dX6_draw_13 (by decide) ?_
  refine V.iald (f := z) 1 8 rfl rfl (by decide) (by decide) dX6_draw_15 ?_
  refine V.i2l dX6_draw_16 ?_
  refine V.lmul dX6_draw_17 ?_
  refine V.ldc2 (v := 12345) (by decide +kernel) dX6_draw_18 ?_
  refine V.ladd dX6_draw_21 ?_
  refine V.ldc2 (v := 2147483647) (by decide +kernel) dX6_draw_22 ?_
  refine V.land dX6_draw_25 ?_
  refine V.l2i dX6_draw_26 ?_
  refine V.iast (f := z) (ws2 := MW g a (upd z 8 (Int64.toInt32 ((((1103515245 : Int64) * (Int32.toInt64 (z 8))) + (12345 : Int64)) &&& (2147483647 : Int64)))) hi tx ai pa tu pt ke st le th re nu du ha) 1 8 rfl rfl (by decide) (by decide) rfl dX6_draw_27 ?_
  refine V.aload_n 0 rfl dX6_draw_28 rfl ?_
  refine V.get (v := .ref (a 1)) (fun w H => List.mem_cons_of_mem _ (List.mem_append_right _ H)) (hc := (rfl : vwCl[6]? = some (RX6, TX6, 15))) 0 0 (by decide) (List.mem_of_getElem? (i := 1) rfl) rfl rfl dX6_draw_29 ?_
  refine V.bipush (v := 8) dX6_draw_32 (by decide) ?_
  refine V.iald (f := upd z 8 (Int64.toInt32 ((((1103515245 : Int64) * (Int32.toInt64 (z 8))) + (12345 : Int64)) &&& (2147483647 : Int64)))) 1 8 rfl rfl (by decide) (by decide) dX6_draw_34 ?_
  refine V.ldci (v := 65536) (by decide +kernel) dX6_draw_35 ?_
  refine V.idiv dX6_draw_37 (by decide) ?_
  refine V.iload_n 1 rfl dX6_draw_38 rfl ?_
  refine V.irem dX6_draw_39 hm ?_
  exact V.iret hq XM.r (Nat.le_of_ble_eq_true rfl) (Nat.le_of_ble_eq_true rfl) ⟨rfl, rfl⟩ dX6_draw_40
abbrev rmX6_gives : Room := { frames := 1, cells := 0, slots := 0, locals := 22 }
set_option maxHeartbeats 4000000 in
set_option maxRecDepth 100000 in
theorem kX6_gives (g : GT) (a : Nat → Nat) (z hi tx ai pa tu pt ke : Nat → Int32) (st le th re nu du : Int32) (ha : Int64) (f : Nat) (kd : Int32) (hf : f < 8) : UC g yX6_gives wsX6_gives rmX6_gives [.ref (a 0), .int (nI f), .int kd] (MW g a z hi tx ai pa tu pt ke st le th re nu du ha) (Qf (some (.int (bi (gv z f kd)))) (MW g a z hi tx ai pa tu pt ke st le th re nu du ha)) := by
  refine UC.ofV (cc := cX6_gives) (maxL := 3) (ret := some .boolean) (lv0 := [(0, .ref (a 0)), (1, .int (nI f)), (2, .int kd)]) (by decide) rfl (Nat.le_of_ble_eq_true rfl) rfl ?_
  generalize hQF : QFr g rmX6_gives (Qf (some (.int (bi (gv z f kd)))) (MW g a z hi tx ai pa tu pt ke st le th re nu du ha)) = QF
  have hq : QFok g rmX6_gives (Qf (some (.int (bi (gv z f kd)))) (MW g a z hi tx ai pa tu pt ke st le th re nu du ha)) QF := hQF ▸ QFr.q
  refine V.aload_n 0 rfl dX6_gives_0 rfl ?_
  refine V.iload_n 1 rfl dX6_gives_1 rfl ?_
  refine V.iconst (v := 1) dX6_gives_2 (by decide) ?_
  refine V.callVf (ws2 := MW g a z hi tx ai pa tu pt ke st le th re nu du ha) (st2 := [.int (z (12 + 8 * f + 1))]) [.int (nI f), .int 1] [] (kX6_ofFeeder g a z hi tx ai pa tu pt ke st le th re nu du ha f 1 (by first | omega | decide) (by first | omega | decide)) gX6_gives_X6_ofFeeder rfl (by show _ ∧ _ ∧ _ ∧ _ = some (2 : Nat); decide +kernel) ⟨Nat.le_of_ble_eq_true rfl, Nat.le_of_ble_eq_true rfl⟩ (hc := (rfl : vwCl[6]? = some (RX6, TX6, 15))) 0 rfl [0, 1, 2, 3, 4, 5, 6, 7, 8] (by decide) rfl rfl (Nat.le_of_ble_eq_true rfl) ⟨Nat.le_of_ble_eq_true rfl, Nat.le_of_ble_eq_true rfl⟩ dX6_gives_3 MWf rfl rfl rfl rfl ?_
  refine V.iload_n 2 rfl dX6_gives_6 rfl ?_
  refine V.icmp_ne (tgt := 23) dX6_gives_7 (by decide) (fun c7 => ?_) (fun c7 => ?_)
  · skip
    refine V.iconst (v := 0) dX6_gives_23 (by decide) ?_
    exact V.zret hq XM.r rfl (Nat.le_of_ble_eq_true rfl) (Nat.le_of_ble_eq_true rfl) ⟨by (try simp only [Nat.add_zero] at *); simp [wi, gv, bt, bi, *], rfl⟩ dX6_gives_24
  · skip
    refine V.aload_n 0 rfl dX6_gives_10 rfl ?_
    refine V.iload_n 1 rfl dX6_gives_11 rfl ?_
    refine V.iconst (v := 2) dX6_gives_12 (by decide) ?_
    refine V.callVf (ws2 := MW g a z hi tx ai pa tu pt ke st le th re nu du ha) (st2 := [.int (z (12 + 8 * f + 2))]) [.int (nI f), .int 2] [] (kX6_ofFeeder g a z hi tx ai pa tu pt ke st le th re nu du ha f 2 (by first | omega | decide) (by first | omega | decide)) gX6_gives_X6_ofFeeder rfl (by show _ ∧ _ ∧ _ ∧ _ = some (2 : Nat); decide +kernel) ⟨Nat.le_of_ble_eq_true rfl, Nat.le_of_ble_eq_true rfl⟩ (hc := (rfl : vwCl[6]? = some (RX6, TX6, 15))) 0 rfl [0, 1, 2, 3, 4, 5, 6, 7, 8] (by decide) rfl rfl (Nat.le_of_ble_eq_true rfl) ⟨Nat.le_of_ble_eq_true rfl, Nat.le_of_ble_eq_true rfl⟩ dX6_gives_13 MWf rfl rfl rfl rfl ?_
    refine V.if_le (tgt := 23) dX6_gives_16 (by decide) (fun c16 => ?_) (fun c16 => ?_)
    · skip
      refine V.iconst (v := 0) dX6_gives_23 (by decide) ?_
      exact V.zret hq XM.r rfl (Nat.le_of_ble_eq_true rfl) (Nat.le_of_ble_eq_true rfl) ⟨by (try simp only [Nat.add_zero] at *); simp [wi, gv, bt, bi, *], rfl⟩ dX6_gives_24
    · skip
      refine V.iconst (v := 1) dX6_gives_19 (by decide) ?_
      refine V.goto (tgt := 24) dX6_gives_20 (by decide) ?_
      exact V.zret hq XM.r rfl (Nat.le_of_ble_eq_true rfl) (Nat.le_of_ble_eq_true rfl) ⟨by (try simp only [Nat.add_zero] at *); simp [wi, gv, bt, bi, *], rfl⟩ dX6_gives_24
abbrev rmX6_isBetter : Room := { frames := 1, cells := 0, slots := 0, locals := 22 }
set_option maxHeartbeats 4000000 in
set_option maxRecDepth 100000 in
theorem kX6_isBetter (g : GT) (a : Nat → Nat) (z hi tx ai pa tu pt ke : Nat → Int32) (st le th re nu du : Int32) (ha : Int64) (n : Nat) (f : Nat) (t : Nat) (hn : n < 4) (hf : f < 8) (ht : t < 8) : UC g yX6_isBetter wsX6_isBetter rmX6_isBetter [.ref (a 0), .int (nI n), .int (nI f), .int (nI t)] (MW g a z hi tx ai pa tu pt ke st le th re nu du ha) (Qf (some (.int (bi (bt z n f t)))) (MW g a z hi tx ai pa tu pt ke st le th re nu du ha)) := by
  refine UC.ofV (cc := cX6_isBetter) (maxL := 5) (ret := some .boolean) (lv0 := [(0, .ref (a 0)), (1, .int (nI n)), (2, .int (nI f)), (3, .int (nI t))]) (by decide) rfl (Nat.le_of_ble_eq_true rfl) rfl ?_
  generalize hQF : QFr g rmX6_isBetter (Qf (some (.int (bi (bt z n f t)))) (MW g a z hi tx ai pa tu pt ke st le th re nu du ha)) = QF
  have hq : QFok g rmX6_isBetter (Qf (some (.int (bi (bt z n f t)))) (MW g a z hi tx ai pa tu pt ke st le th re nu du ha)) QF := hQF ▸ QFr.q
  refine V.aload_n 0 rfl dX6_isBetter_0 rfl ?_
  refine V.iload_n 1 rfl dX6_isBetter_1 rfl ?_
  refine V.iload_n 2 rfl dX6_isBetter_2 rfl ?_
  refine V.callVf (ws2 := MW g a z hi tx ai pa tu pt ke st le th re nu du ha) (st2 := [.int (z (216 + 8 * n + f))]) [.int (nI n), .int (nI f)] [] (kX6_trustOf g a z hi tx ai pa tu pt ke st le th re nu du ha n f (by first | omega | decide) (by first | omega | decide)) gX6_isBetter_X6_trustOf rfl (by show _ ∧ _ ∧ _ ∧ _ = some (2 : Nat); decide +kernel) ⟨Nat.le_of_ble_eq_true rfl, Nat.le_of_ble_eq_true rfl⟩ (hc := (rfl : vwCl[6]? = some (RX6, TX6, 15))) 0 rfl [0, 1, 2, 3, 4, 5, 6, 7, 8] (by decide) rfl rfl (Nat.le_of_ble_eq_true rfl) ⟨Nat.le_of_ble_eq_true rfl, Nat.le_of_ble_eq_true rfl⟩ dX6_isBetter_3 MWf rfl rfl rfl rfl ?_
  refine V.aload_n 0 rfl dX6_isBetter_6 rfl ?_
  refine V.iload_n 1 rfl dX6_isBetter_7 rfl ?_
  refine V.iload_n 3 rfl dX6_isBetter_8 rfl ?_
  refine V.callVf (ws2 := MW g a z hi tx ai pa tu pt ke st le th re nu du ha) (st2 := [.int (z (216 + 8 * n + t)), .int (z (216 + 8 * n + f))]) [.int (nI n), .int (nI t)] [.int (z (216 + 8 * n + f))] (kX6_trustOf g a z hi tx ai pa tu pt ke st le th re nu du ha n t (by first | omega | decide) (by first | omega | decide)) gX6_isBetter_X6_trustOf rfl (by show _ ∧ _ ∧ _ ∧ _ = some (2 : Nat); decide +kernel) ⟨Nat.le_of_ble_eq_true rfl, Nat.le_of_ble_eq_true rfl⟩ (hc := (rfl : vwCl[6]? = some (RX6, TX6, 15))) 0 rfl [0, 1, 2, 3, 4, 5, 6, 7, 8] (by decide) rfl rfl (Nat.le_of_ble_eq_true rfl) ⟨Nat.le_of_ble_eq_true rfl, Nat.le_of_ble_eq_true rfl⟩ dX6_isBetter_9 MWf rfl rfl rfl rfl ?_
  refine V.isub dX6_isBetter_12 ?_
  refine V.istore (lv2 := [(4, .int ((z (216 + 8 * n + f)) - (z (216 + 8 * n + t)))), (0, .ref (a 0)), (1, .int (nI n)), (2, .int (nI f)), (3, .int (nI t))]) dX6_isBetter_13 (by decide) rfl ?_
  refine V.iload 0 rfl dX6_isBetter_15 ?_
  refine V.if_gt (tgt := 60) dX6_isBetter_17 (by decide) (fun c17 => ?_) (fun c17 => ?_)
  · skip
    refine V.iconst (v := 1) dX6_isBetter_60 (by decide) ?_
    refine V.goto (tgt := 65) dX6_isBetter_61 (by decide) ?_
    exact V.zret hq XM.r rfl (Nat.le_of_ble_eq_true rfl) (Nat.le_of_ble_eq_true rfl) ⟨by (try simp only [Nat.add_zero] at *); simp [wi, gv, bt, bi, *], rfl⟩ dX6_isBetter_65
  · skip
    refine V.iload 0 rfl dX6_isBetter_20 ?_
    refine V.if_ne (tgt := 64) dX6_isBetter_22 (by decide) (fun c22 => ?_) (fun c22 => ?_)
    · skip
      refine V.iconst (v := 0) dX6_isBetter_64 (by decide) ?_
      exact V.zret hq XM.r rfl (Nat.le_of_ble_eq_true rfl) (Nat.le_of_ble_eq_true rfl) ⟨by (try simp only [Nat.add_zero] at *); simp [wi, gv, bt, bi, *], rfl⟩ dX6_isBetter_65
    · skip
      refine V.aload_n 1 rfl dX6_isBetter_25 rfl ?_
      refine V.iload_n 3 rfl dX6_isBetter_26 rfl ?_
      refine V.iconst (v := 0) dX6_isBetter_27 (by decide) ?_
      refine V.callVf (ws2 := MW g a z hi tx ai pa tu pt ke st le th re nu du ha) (st2 := [.int (z (12 + 8 * f + 0))]) [.int (nI f), .int 0] [] (kX6_ofFeeder g a z hi tx ai pa tu pt ke st le th re nu du ha f 0 (by first | omega | decide) (by first | omega | decide)) gX6_isBetter_X6_ofFeeder rfl (by show _ ∧ _ ∧ _ ∧ _ = some (2 : Nat); decide +kernel) ⟨Nat.le_of_ble_eq_true rfl, Nat.le_of_ble_eq_true rfl⟩ (hc := (rfl : vwCl[6]? = some (RX6, TX6, 15))) 0 rfl [0, 1, 2, 3, 4, 5, 6, 7, 8] (by decide) rfl rfl (Nat.le_of_ble_eq_true rfl) ⟨Nat.le_of_ble_eq_true rfl, Nat.le_of_ble_eq_true rfl⟩ dX6_isBetter_28 MWf rfl rfl rfl rfl ?_
      refine V.aload_n 1 rfl dX6_isBetter_31 rfl ?_
      refine V.get (v := .ref (a 1)) (fun w H => List.mem_cons_of_mem _ (List.mem_append_right _ H)) (hc := (rfl : vwCl[6]? = some (RX6, TX6, 15))) 0 0 (by decide) (List.mem_of_getElem? (i := 1) rfl) rfl rfl dX6_isBetter_32 ?_
      refine V.bipush (v := 9) dX6_isBetter_35 (by decide) ?_
      refine V.iald (f := z) 1 9 rfl rfl (by decide) (by decide) dX6_isBetter_37 ?_
      refine V.callSf (ws2 := MW g a z hi tx ai pa tu pt ke st le th re nu du ha) (st2 := [.int (ap (z (12 + 8 * f + 0)) (z 9))]) [.int (z (12 + 8 * f + 0)), .int (z 9)] [] (kX6_apart g (z (12 + 8 * f + 0)) (z 9) ) gX6_isBetter_X6_apart rfl (by show _ ∧ _ ∧ _ = some (2 : Nat); decide +kernel) ⟨Nat.le_of_ble_eq_true rfl, Nat.le_of_ble_eq_true rfl⟩ [] (by decide) rfl rfl (Nat.le_of_ble_eq_true rfl) ⟨Nat.le_of_ble_eq_true rfl, Nat.le_of_ble_eq_true rfl⟩ dX6_isBetter_38 rfl (List.append_nil _) rfl rfl rfl ?_
      refine V.aload_n 1 rfl dX6_isBetter_41 rfl ?_
      refine V.iload_n 4 rfl dX6_isBetter_42 rfl ?_
      refine V.iconst (v := 0) dX6_isBetter_43 (by decide) ?_
      refine V.callVf (ws2 := MW g a z hi tx ai pa tu pt ke st le th re nu du ha) (st2 := [.int (z (12 + 8 * t + 0)), .int (ap (z (12 + 8 * f + 0)) (z 9))]) [.int (nI t), .int 0] [.int (ap (z (12 + 8 * f + 0)) (z 9))] (kX6_ofFeeder g a z hi tx ai pa tu pt ke st le th re nu du ha t 0 (by first | omega | decide) (by first | omega | decide)) gX6_isBetter_X6_ofFeeder rfl (by show _ ∧ _ ∧ _ ∧ _ = some (2 : Nat); decide +kernel) ⟨Nat.le_of_ble_eq_true rfl, Nat.le_of_ble_eq_true rfl⟩ (hc := (rfl : vwCl[6]? = some (RX6, TX6, 15))) 0 rfl [0, 1, 2, 3, 4, 5, 6, 7, 8] (by decide) rfl rfl (Nat.le_of_ble_eq_true rfl) ⟨Nat.le_of_ble_eq_true rfl, Nat.le_of_ble_eq_true rfl⟩ dX6_isBetter_44 MWf rfl rfl rfl rfl ?_
      refine V.aload_n 1 rfl dX6_isBetter_47 rfl ?_
      refine V.get (v := .ref (a 1)) (fun w H => List.mem_cons_of_mem _ (List.mem_append_right _ H)) (hc := (rfl : vwCl[6]? = some (RX6, TX6, 15))) 0 0 (by decide) (List.mem_of_getElem? (i := 1) rfl) rfl rfl dX6_isBetter_48 ?_
      refine V.bipush (v := 9) dX6_isBetter_51 (by decide) ?_
      refine V.iald (f := z) 1 9 rfl rfl (by decide) (by decide) dX6_isBetter_53 ?_
      refine V.callSf (ws2 := MW g a z hi tx ai pa tu pt ke st le th re nu du ha) (st2 := [.int (ap (z (12 + 8 * t + 0)) (z 9)), .int (ap (z (12 + 8 * f + 0)) (z 9))]) [.int (z (12 + 8 * t + 0)), .int (z 9)] [.int (ap (z (12 + 8 * f + 0)) (z 9))] (kX6_apart g (z (12 + 8 * t + 0)) (z 9) ) gX6_isBetter_X6_apart rfl (by show _ ∧ _ ∧ _ = some (2 : Nat); decide +kernel) ⟨Nat.le_of_ble_eq_true rfl, Nat.le_of_ble_eq_true rfl⟩ [] (by decide) rfl rfl (Nat.le_of_ble_eq_true rfl) ⟨Nat.le_of_ble_eq_true rfl, Nat.le_of_ble_eq_true rfl⟩ dX6_isBetter_54 rfl (List.append_nil _) rfl rfl rfl ?_
      refine V.icmp_ge (tgt := 64) dX6_isBetter_57 (by decide) (fun c57 => ?_) (fun c57 => ?_)
      · skip
        refine V.iconst (v := 0) dX6_isBetter_64 (by decide) ?_
        exact V.zret hq XM.r rfl (Nat.le_of_ble_eq_true rfl) (Nat.le_of_ble_eq_true rfl) ⟨by (try simp only [Nat.add_zero] at *); simp [wi, gv, bt, bi, *], rfl⟩ dX6_isBetter_65
      · skip
        refine V.iconst (v := 1) dX6_isBetter_60 (by decide) ?_
        refine V.goto (tgt := 65) dX6_isBetter_61 (by decide) ?_
        exact V.zret hq XM.r rfl (Nat.le_of_ble_eq_true rfl) (Nat.le_of_ble_eq_true rfl) ⟨by (try simp only [Nat.add_zero] at *); simp [wi, gv, bt, bi, *], rfl⟩ dX6_isBetter_65
