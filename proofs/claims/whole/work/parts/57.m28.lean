abbrev rmX5_checkRange : Room := { frames := 6, cells := 1, slots := 6, locals := 82 }
set_option maxHeartbeats 4000000 in
set_option maxRecDepth 100000 in
theorem kX5_checkRange (g : GT) (hst : g.1.stackTraces = false) (vv lo hi : Int32) : UX g yX5_checkRange wsX5_checkRange rmX5_checkRange [.int vv, .int lo, .int hi] ([]) (fun v w => w = [] ∧ v = none ∧ wi vv lo hi = true) (fun E w => w = [] ∧ E = IAE ∧ wi vv lo hi = false) := by
  refine UX.ofV (cc := cX5_checkRange) (maxL := 3) (ret := none) (lv0 := [(0, .int vv), (1, .int lo), (2, .int hi)]) (by decide) rfl (Nat.le_of_ble_eq_true rfl) rfl ?_
  have hq : QFok g rmX5_checkRange (fun v w => w = [] ∧ v = none ∧ wi vv lo hi = true) (QFx g rmX5_checkRange (fun v w => w = [] ∧ v = none ∧ wi vv lo hi = true) (fun E w => w = [] ∧ E = IAE ∧ wi vv lo hi = false)) := QFx.q
  refine V.iload_n 0 rfl dX5_checkRange_0 rfl ?_
  refine V.iload_n 1 rfl dX5_checkRange_1 rfl ?_
  refine V.icmp_lt (tgt := 10) dX5_checkRange_2 (by decide) (fun c2 => ?_) (fun c2 => ?_)
  · skip
    exact V.throwSW (text := "out of range") hst (by decide +kernel) (List.mem_of_getElem? (i := 1) rfl) (List.mem_of_getElem? (i := 2) rfl) (by decide) vx_gd2 (fun w H => List.mem_cons_of_mem _ (List.mem_append_right _ H)) dX5_checkRange_10 dX5_checkRange_13 dX5_checkRange_14 dX5_checkRange_17 dX5_checkRange_20 (Nat.le_of_ble_eq_true rfl) (Nat.le_of_ble_eq_true rfl) (Nat.le_of_ble_eq_true rfl) (Nat.le_of_ble_eq_true rfl) ⟨rfl, rfl, by rw [wi, decide_eq_true c2] <;> rfl⟩ (Nat.le_of_ble_eq_true rfl) (Nat.le_of_ble_eq_true rfl)
  · skip
    refine V.iload_n 0 rfl dX5_checkRange_5 rfl ?_
    refine V.iload_n 2 rfl dX5_checkRange_6 rfl ?_
    refine V.icmp_le (tgt := 21) dX5_checkRange_7 (by decide) (fun c7 => ?_) (fun c7 => ?_)
    · skip
      exact V.vret hq XMx.r (Nat.le_of_ble_eq_true rfl) (Nat.le_of_ble_eq_true rfl) ⟨rfl, rfl, by rw [wi, decide_eq_false c2, decide_eq_false (Int32.not_lt.mpr c7)] <;> rfl⟩ dX5_checkRange_21
    · skip
      exact V.throwSW (text := "out of range") hst (by decide +kernel) (List.mem_of_getElem? (i := 1) rfl) (List.mem_of_getElem? (i := 2) rfl) (by decide) vx_gd2 (fun w H => List.mem_cons_of_mem _ (List.mem_append_right _ H)) dX5_checkRange_10 dX5_checkRange_13 dX5_checkRange_14 dX5_checkRange_17 dX5_checkRange_20 (Nat.le_of_ble_eq_true rfl) (Nat.le_of_ble_eq_true rfl) (Nat.le_of_ble_eq_true rfl) (Nat.le_of_ble_eq_true rfl) ⟨rfl, rfl, by rw [wi, decide_eq_false c2, decide_eq_true (Int32.not_le.mp c7)] <;> rfl⟩ (Nat.le_of_ble_eq_true rfl) (Nat.le_of_ble_eq_true rfl)
abbrev rmX5_checkNozzle : Room := { frames := 6, cells := 1, slots := 6, locals := 82 }
set_option maxHeartbeats 4000000 in
set_option maxRecDepth 100000 in
theorem kX5_checkNozzle (g : GT) (hst : g.1.stackTraces = false) (vv : Int32) : UX g yX5_checkNozzle wsX5_checkNozzle rmX5_checkNozzle [.int vv] ([]) (fun v w => w = [] ∧ v = none ∧ wi vv 0 3 = true) (fun E w => w = [] ∧ E = IOB ∧ wi vv 0 3 = false) := by
  refine UX.ofV (cc := cX5_checkNozzle) (maxL := 1) (ret := none) (lv0 := [(0, .int vv)]) (by decide) rfl (Nat.le_of_ble_eq_true rfl) rfl ?_
  have hq : QFok g rmX5_checkNozzle (fun v w => w = [] ∧ v = none ∧ wi vv 0 3 = true) (QFx g rmX5_checkNozzle (fun v w => w = [] ∧ v = none ∧ wi vv 0 3 = true) (fun E w => w = [] ∧ E = IOB ∧ wi vv 0 3 = false)) := QFx.q
  refine V.iload_n 0 rfl dX5_checkNozzle_0 rfl ?_
  refine V.if_lt (tgt := 9) dX5_checkNozzle_1 (by decide) (fun c1 => ?_) (fun c1 => ?_)
  · skip
    exact V.throwSW (text := "no such nozzle") hst (by decide +kernel) (List.mem_of_getElem? (i := 1) rfl) (List.mem_of_getElem? (i := 2) rfl) (by decide) vx_gd3 (fun w H => List.mem_cons_of_mem _ (List.mem_append_right _ H)) dX5_checkNozzle_9 dX5_checkNozzle_12 dX5_checkNozzle_13 dX5_checkNozzle_16 dX5_checkNozzle_19 (Nat.le_of_ble_eq_true rfl) (Nat.le_of_ble_eq_true rfl) (Nat.le_of_ble_eq_true rfl) (Nat.le_of_ble_eq_true rfl) ⟨rfl, rfl, by rw [wi, decide_eq_true c1] <;> rfl⟩ (Nat.le_of_ble_eq_true rfl) (Nat.le_of_ble_eq_true rfl)
  · skip
    refine V.iload_n 0 rfl dX5_checkNozzle_4 rfl ?_
    refine V.iconst (v := 4) dX5_checkNozzle_5 (by decide) ?_
    refine V.icmp_lt (tgt := 20) dX5_checkNozzle_6 (by decide) (fun c6 => ?_) (fun c6 => ?_)
    · skip
      exact V.vret hq XMx.r (Nat.le_of_ble_eq_true rfl) (Nat.le_of_ble_eq_true rfl) ⟨rfl, rfl, by rw [wi, decide_eq_false c1, decide_eq_false (by rw [lt_t]; rw [lt_t] at c6; have e1 : (4 : Int32).toInt = 4 := rfl; have e2 : (3 : Int32).toInt = 3 := rfl; omega)] <;> rfl⟩ dX5_checkNozzle_20
    · skip
      exact V.throwSW (text := "no such nozzle") hst (by decide +kernel) (List.mem_of_getElem? (i := 1) rfl) (List.mem_of_getElem? (i := 2) rfl) (by decide) vx_gd3 (fun w H => List.mem_cons_of_mem _ (List.mem_append_right _ H)) dX5_checkNozzle_9 dX5_checkNozzle_12 dX5_checkNozzle_13 dX5_checkNozzle_16 dX5_checkNozzle_19 (Nat.le_of_ble_eq_true rfl) (Nat.le_of_ble_eq_true rfl) (Nat.le_of_ble_eq_true rfl) (Nat.le_of_ble_eq_true rfl) ⟨rfl, rfl, by rw [wi, decide_eq_false c1, decide_eq_true (by rw [lt_t]; rw [lt_t] at c6; have e1 : (4 : Int32).toInt = 4 := rfl; have e2 : (3 : Int32).toInt = 3 := rfl; omega)] <;> rfl⟩ (Nat.le_of_ble_eq_true rfl) (Nat.le_of_ble_eq_true rfl)
abbrev rmX5_checkSetting : Room := { frames := 6, cells := 1, slots := 6, locals := 82 }
set_option maxHeartbeats 4000000 in
set_option maxRecDepth 100000 in
theorem kX5_checkSetting (g : GT) (hst : g.1.stackTraces = false) (vv : Int32) : UX g yX5_checkSetting wsX5_checkSetting rmX5_checkSetting [.int vv] ([]) (fun v w => w = [] ∧ v = none ∧ wi vv 0 4 = true) (fun E w => w = [] ∧ E = IOB ∧ wi vv 0 4 = false) := by
  refine UX.ofV (cc := cX5_checkSetting) (maxL := 1) (ret := none) (lv0 := [(0, .int vv)]) (by decide) rfl (Nat.le_of_ble_eq_true rfl) rfl ?_
  have hq : QFok g rmX5_checkSetting (fun v w => w = [] ∧ v = none ∧ wi vv 0 4 = true) (QFx g rmX5_checkSetting (fun v w => w = [] ∧ v = none ∧ wi vv 0 4 = true) (fun E w => w = [] ∧ E = IOB ∧ wi vv 0 4 = false)) := QFx.q
  refine V.iload_n 0 rfl dX5_checkSetting_0 rfl ?_
  refine V.if_lt (tgt := 9) dX5_checkSetting_1 (by decide) (fun c1 => ?_) (fun c1 => ?_)
  · skip
    exact V.throwSW (text := "no such setting") hst (by decide +kernel) (List.mem_of_getElem? (i := 1) rfl) (List.mem_of_getElem? (i := 2) rfl) (by decide) vx_gd3 (fun w H => List.mem_cons_of_mem _ (List.mem_append_right _ H)) dX5_checkSetting_9 dX5_checkSetting_12 dX5_checkSetting_13 dX5_checkSetting_16 dX5_checkSetting_19 (Nat.le_of_ble_eq_true rfl) (Nat.le_of_ble_eq_true rfl) (Nat.le_of_ble_eq_true rfl) (Nat.le_of_ble_eq_true rfl) ⟨rfl, rfl, by rw [wi, decide_eq_true c1] <;> rfl⟩ (Nat.le_of_ble_eq_true rfl) (Nat.le_of_ble_eq_true rfl)
  · skip
    refine V.iload_n 0 rfl dX5_checkSetting_4 rfl ?_
    refine V.iconst (v := 5) dX5_checkSetting_5 (by decide) ?_
    refine V.icmp_lt (tgt := 20) dX5_checkSetting_6 (by decide) (fun c6 => ?_) (fun c6 => ?_)
    · skip
      exact V.vret hq XMx.r (Nat.le_of_ble_eq_true rfl) (Nat.le_of_ble_eq_true rfl) ⟨rfl, rfl, by rw [wi, decide_eq_false c1, decide_eq_false (by rw [lt_t]; rw [lt_t] at c6; have e1 : (5 : Int32).toInt = 5 := rfl; have e2 : (4 : Int32).toInt = 4 := rfl; omega)] <;> rfl⟩ dX5_checkSetting_20
    · skip
      exact V.throwSW (text := "no such setting") hst (by decide +kernel) (List.mem_of_getElem? (i := 1) rfl) (List.mem_of_getElem? (i := 2) rfl) (by decide) vx_gd3 (fun w H => List.mem_cons_of_mem _ (List.mem_append_right _ H)) dX5_checkSetting_9 dX5_checkSetting_12 dX5_checkSetting_13 dX5_checkSetting_16 dX5_checkSetting_19 (Nat.le_of_ble_eq_true rfl) (Nat.le_of_ble_eq_true rfl) (Nat.le_of_ble_eq_true rfl) (Nat.le_of_ble_eq_true rfl) ⟨rfl, rfl, by rw [wi, decide_eq_false c1, decide_eq_true (by rw [lt_t]; rw [lt_t] at c6; have e1 : (5 : Int32).toInt = 5 := rfl; have e2 : (4 : Int32).toInt = 4 := rfl; omega)] <;> rfl⟩ (Nat.le_of_ble_eq_true rfl) (Nat.le_of_ble_eq_true rfl)
abbrev rmX5_checkFeeder : Room := { frames := 6, cells := 1, slots := 6, locals := 82 }
set_option maxHeartbeats 4000000 in
set_option maxRecDepth 100000 in
theorem kX5_checkFeeder (g : GT) (hst : g.1.stackTraces = false) (o : Nat) (b c u h x : Nat → Nat) (z y ai pa tu tx : Nat → Int32) (len : Nat) (s : BS) (n : Nat) (sv : SV) (hF : z 5 = nI (nf z)) (hF8 : nf z ≤ 8) (vv : Int32) : UX g yX5_checkFeeder wsX5_checkFeeder rmX5_checkFeeder [.ref o, .int vv] (GW g o b c u h x z y ai pa tu tx len s n sv) (fun v w => w = GW g o b c u h x z y ai pa tu tx len s n sv ∧ v = none ∧ wi vv 0 (z 5 - 1) = true) (fun E w => w = GW g o b c u h x z y ai pa tu tx len s n sv ∧ E = IOB ∧ wi vv 0 (z 5 - 1) = false) := by
  refine UX.ofV (cc := cX5_checkFeeder) (maxL := 2) (ret := none) (lv0 := [(0, .ref o), (1, .int vv)]) (by decide) rfl (Nat.le_of_ble_eq_true rfl) rfl ?_
  have hq : QFok g rmX5_checkFeeder (fun v w => w = GW g o b c u h x z y ai pa tu tx len s n sv ∧ v = none ∧ wi vv 0 (z 5 - 1) = true) (QFx g rmX5_checkFeeder (fun v w => w = GW g o b c u h x z y ai pa tu tx len s n sv ∧ v = none ∧ wi vv 0 (z 5 - 1) = true) (fun E w => w = GW g o b c u h x z y ai pa tu tx len s n sv ∧ E = IOB ∧ wi vv 0 (z 5 - 1) = false)) := QFx.q
  refine V.eqws (ws2 := (HD g o b c u h x) ++ (SW g b z) ++ (SW g c y) ++ (UW g u ai pa tu) ++ (BWs g x tx (nI len) s) ++ (HW g h n sv)) rfl ?_
  refine V.iload_n 1 rfl dX5_checkFeeder_0 rfl ?_
  refine V.if_lt (tgt := 15) dX5_checkFeeder_1 (by decide) (fun c1 => ?_) (fun c1 => ?_)
  · skip
    exact V.throwSW (text := "no such feeder") hst (by decide +kernel) (List.mem_of_getElem? (i := 1) rfl) (List.mem_of_getElem? (i := 2) rfl) (by decide) vx_gd3 (fun w H => List.mem_cons_of_mem _ (List.mem_append_right _ H)) dX5_checkFeeder_15 dX5_checkFeeder_18 dX5_checkFeeder_19 dX5_checkFeeder_22 dX5_checkFeeder_25 (Nat.le_of_ble_eq_true rfl) (Nat.le_of_ble_eq_true rfl) (Nat.le_of_ble_eq_true rfl) (Nat.le_of_ble_eq_true rfl) ⟨rfl, rfl, by rw [hF, wi_ct (by omega), decide_eq_true c1] <;> rfl⟩ (Nat.le_of_ble_eq_true rfl) (Nat.le_of_ble_eq_true rfl)
  · skip
    refine V.iload_n 1 rfl dX5_checkFeeder_4 rfl ?_
    refine V.aload_n 0 rfl dX5_checkFeeder_5 rfl ?_
    refine V.get (v := .ref (b 0)) (fun w H => List.mem_cons_of_mem _ (List.mem_append_left _ (List.mem_append_left _ (List.mem_append_right _ H)))) (hc := (rfl : vwCl[5]? = some (RX5, TX5, 5))) 0 0 (by decide) (List.mem_of_getElem? (i := 3) rfl) rfl rfl dX5_checkFeeder_6 ?_
    refine V.get (v := .int (z 5)) (fun w H => List.mem_cons_of_mem _ (List.mem_append_left _ (List.mem_append_right _ H))) (hc := (rfl : vwCl[2]? = some (RX2, TX2, 12))) 1 0 (by decide) (List.mem_of_getElem? (i := 4) rfl) rfl rfl dX5_checkFeeder_9 ?_
    refine V.icmp_lt (tgt := 26) dX5_checkFeeder_12 (by decide) (fun c12 => ?_) (fun c12 => ?_)
    · skip
      exact V.vret hq XMx.r (Nat.le_of_ble_eq_true rfl) (Nat.le_of_ble_eq_true rfl) ⟨rfl, rfl, by rw [hF, wi_ct (by omega), decide_eq_false c1, decide_eq_false (by rw [← hF]; exact Int32.not_le.mpr c12)] <;> rfl⟩ dX5_checkFeeder_26
    · skip
      exact V.throwSW (text := "no such feeder") hst (by decide +kernel) (List.mem_of_getElem? (i := 1) rfl) (List.mem_of_getElem? (i := 2) rfl) (by decide) vx_gd3 (fun w H => List.mem_cons_of_mem _ (List.mem_append_right _ H)) dX5_checkFeeder_15 dX5_checkFeeder_18 dX5_checkFeeder_19 dX5_checkFeeder_22 dX5_checkFeeder_25 (Nat.le_of_ble_eq_true rfl) (Nat.le_of_ble_eq_true rfl) (Nat.le_of_ble_eq_true rfl) (Nat.le_of_ble_eq_true rfl) ⟨rfl, rfl, by rw [hF, wi_ct (by omega), decide_eq_false c1, decide_eq_true (by rw [← hF]; exact Int32.not_lt.mp c12)] <;> rfl⟩ (Nat.le_of_ble_eq_true rfl) (Nat.le_of_ble_eq_true rfl)
