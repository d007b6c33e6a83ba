abbrev rmL_addFeeder : Room := { frames := 8, cells := 15, slots := 291, locals := 149 }
set_option maxHeartbeats 4000000 in
set_option maxRecDepth 100000 in
theorem kL_addFeeder (g : GT) (W0 : va_W) (o ob : Nat) (q0 : Int32) (q1 : Int32) (q2 : Int32) (q3 : Int32) (q4 : Int32) (ff : Nat → Int64) {Q : Option Value → va_W → Prop} {XX : String → va_W → Prop} {fs : List Value} (he : W0[0]? = some (o, .inr (5, fs))) (hM : UX g yX5_addFeeder wsX5_addFeeder rmX5_addFeeder [.ref o, .int q0, .int q1, .int q2, .int q3, .int q4] W0 Q XX) (hV : ∀ v w, Q v w → ∃ r : Int32, v = some (.int r)) (hQ : ∀ v w, Q v w → FST W0 w) (hX : ∀ E w, XX E w → FST W0 w) (hE : ∀ E w, XX E w → E = IAE ∨ E = ISE) : UC g yL_addFeeder wsL_addFeeder rmL_addFeeder [.ref o, .int q0, .int q1, .int q2, .int q3, .int q4, .ref ob] (OB g ob ff ++ W0) (LQ g ob ff Q XX (cd2 IAE ISE)) := by
  refine UX.toUC ?_
  refine UX.ofVH (cc := cL_addFeeder) (maxL := 8) (ret := some .int) (hh := [(0, 16, 19, 13), (0, 16, 23, 15)]) (lv0 := [(0, .ref o), (1, .int q0), (2, .int q1), (3, .int q2), (4, .int q3), (5, .int q4), (6, .ref ob)]) (by decide) rfl (Nat.le_of_ble_eq_true rfl) rfl ?_
  have hq : QFok g rmL_addFeeder (LQ g ob ff Q XX (cd2 IAE ISE)) (QFx g rmL_addFeeder (LQ g ob ff Q XX (cd2 IAE ISE)) (fun _ _ => False)) := QFx.q
  refine V.aload 6 rfl dL_addFeeder_0 ?_
  refine V.iconst (v := 0) dL_addFeeder_2 (by decide) ?_
  refine V.aload_n 0 rfl dL_addFeeder_3 rfl ?_
  refine V.iload_n 1 rfl dL_addFeeder_4 rfl ?_
  refine V.iload_n 2 rfl dL_addFeeder_5 rfl ?_
  refine V.iload_n 3 rfl dL_addFeeder_6 rfl ?_
  refine V.iload 4 rfl dL_addFeeder_7 ?_
  refine V.iload 5 rfl dL_addFeeder_9 ?_
  refine V.perm List.perm_append_comm ?_
  refine V.callVC (F := OB g ob ff) [.int q0, .int q1, .int q2, .int q3, .int q4] [.int 0, .ref ob] hM gL_addFeeder_X5_addFeeder rfl (by show _ ∧ _ ∧ _ ∧ _ = some (5 : Nat); decide +kernel) ⟨(Nat.le_of_ble_eq_true rfl), (Nat.le_of_ble_eq_true rfl)⟩ (hc := (rfl : vwCl[5]? = some (RX5, TX5, 5))) 0 he rfl rfl (Nat.le_of_ble_eq_true rfl) ⟨(Nat.le_of_ble_eq_true rfl), (Nat.le_of_ble_eq_true rfl)⟩ dL_addFeeder_11 hQ hX (fun E w hx => ?_) (fun v w hq2 => ?_)
  · rcases hE E w hx with rfl | rfl
    · refine ⟨19, ⟨[], (0, 16, 19, 13), [(0, 16, 23, 15)], rfl, (fun z hz => absurd hz List.not_mem_nil), by decide, by decide, (List.mem_of_getElem? (i := 1) rfl), by decide, rfl⟩, fun q => ?_⟩
      refine V.astore (lv2 := [(7, .ref q), (0, .ref o), (1, .int q0), (2, .int q1), (3, .int q2), (4, .int q3), (5, .int q4), (6, .ref ob)]) dL_addFeeder_19 (by decide) rfl ?_
      refine V.iconst (v := 1) dL_addFeeder_21 (by decide) ?_
      refine V.perm List.perm_append_comm ?_
      exact V.iret hq XMh.r (Nat.le_of_ble_eq_true rfl) (Nat.le_of_ble_eq_true rfl) (Or.inr ⟨_, w, hx, rfl, rfl⟩) dL_addFeeder_22
    · refine ⟨23, ⟨[(0, 16, 19, 13)], (0, 16, 23, 15), [], rfl, (by intro z hz; rw [List.mem_singleton.mp hz]; exact ⟨by decide, "java/lang/IllegalArgumentException", (List.mem_of_getElem? (i := 1) rfl), by decide⟩), by decide, by decide, (List.mem_of_getElem? (i := 2) rfl), by decide, rfl⟩, fun q => ?_⟩
      refine V.astore (lv2 := [(7, .ref q), (0, .ref o), (1, .int q0), (2, .int q1), (3, .int q2), (4, .int q3), (5, .int q4), (6, .ref ob)]) dL_addFeeder_23 (by decide) rfl ?_
      refine V.iconst (v := 2) dL_addFeeder_25 (by decide) ?_
      refine V.perm List.perm_append_comm ?_
      exact V.iret hq XMh.r (Nat.le_of_ble_eq_true rfl) (Nat.le_of_ble_eq_true rfl) (Or.inr ⟨_, w, hx, rfl, rfl⟩) dL_addFeeder_26
  obtain ⟨r, rfl⟩ := hV v w hq2
  refine V.perm List.perm_append_comm ?_
  refine V.eqst (st2 := [.int r, .int 0, .ref ob]) rfl ?_
  refine V.i2l dL_addFeeder_14 ?_
  refine V.last (f := ff) (ws2 := (OB g ob (vp_updL ff 0 (Int32.toInt64 r))) ++ w) 0 0 rfl rfl (by decide) (by decide) rfl dL_addFeeder_15 ?_
  refine V.goto (tgt := 27) dL_addFeeder_16 (by decide) ?_
  refine V.iconst (v := 0) dL_addFeeder_27 (by decide) ?_
  exact V.iret hq XMh.r (Nat.le_of_ble_eq_true rfl) (Nat.le_of_ble_eq_true rfl) (Or.inl ⟨r, w, hq2, rfl, rfl⟩) dL_addFeeder_28
abbrev rmL_addPlace : Room := { frames := 8, cells := 12, slots := 273, locals := 146 }
set_option maxHeartbeats 4000000 in
set_option maxRecDepth 100000 in
theorem kL_addPlace (g : GT) (W0 : va_W) (o ob : Nat) (q0 : Int32) (q1 : Int32) (ff : Nat → Int64) {Q : Option Value → va_W → Prop} {XX : String → va_W → Prop} {fs : List Value} (he : W0[0]? = some (o, .inr (5, fs))) (hM : UX g yX5_addPlace wsX5_addPlace rmX5_addPlace [.ref o, .int q0, .int q1] W0 Q XX) (hV : ∀ v w, Q v w → ∃ r : Int32, v = some (.int r)) (hQ : ∀ v w, Q v w → FST W0 w) (hX : ∀ E w, XX E w → FST W0 w) (hE : ∀ E w, XX E w → E = IAE ∨ E = ISE) : UC g yL_addPlace wsL_addPlace rmL_addPlace [.ref o, .int q0, .int q1, .ref ob] (OB g ob ff ++ W0) (LQ g ob ff Q XX (cd2 IAE ISE)) := by
  refine UX.toUC ?_
  refine UX.ofVH (cc := cL_addPlace) (maxL := 5) (ret := some .int) (hh := [(0, 10, 13, 13), (0, 10, 17, 15)]) (lv0 := [(0, .ref o), (1, .int q0), (2, .int q1), (3, .ref ob)]) (by decide) rfl (Nat.le_of_ble_eq_true rfl) rfl ?_
  have hq : QFok g rmL_addPlace (LQ g ob ff Q XX (cd2 IAE ISE)) (QFx g rmL_addPlace (LQ g ob ff Q XX (cd2 IAE ISE)) (fun _ _ => False)) := QFx.q
  refine V.aload_n 3 rfl dL_addPlace_0 rfl ?_
  refine V.iconst (v := 0) dL_addPlace_1 (by decide) ?_
  refine V.aload_n 0 rfl dL_addPlace_2 rfl ?_
  refine V.iload_n 1 rfl dL_addPlace_3 rfl ?_
  refine V.iload_n 2 rfl dL_addPlace_4 rfl ?_
  refine V.perm List.perm_append_comm ?_
  refine V.callVC (F := OB g ob ff) [.int q0, .int q1] [.int 0, .ref ob] hM gL_addPlace_X5_addPlace rfl (by show _ ∧ _ ∧ _ ∧ _ = some (2 : Nat); decide +kernel) ⟨(Nat.le_of_ble_eq_true rfl), (Nat.le_of_ble_eq_true rfl)⟩ (hc := (rfl : vwCl[5]? = some (RX5, TX5, 5))) 0 he rfl rfl (Nat.le_of_ble_eq_true rfl) ⟨(Nat.le_of_ble_eq_true rfl), (Nat.le_of_ble_eq_true rfl)⟩ dL_addPlace_5 hQ hX (fun E w hx => ?_) (fun v w hq2 => ?_)
  · rcases hE E w hx with rfl | rfl
    · refine ⟨13, ⟨[], (0, 10, 13, 13), [(0, 10, 17, 15)], rfl, (fun z hz => absurd hz List.not_mem_nil), by decide, by decide, (List.mem_of_getElem? (i := 1) rfl), by decide, rfl⟩, fun q => ?_⟩
      refine V.astore (lv2 := [(4, .ref q), (0, .ref o), (1, .int q0), (2, .int q1), (3, .ref ob)]) dL_addPlace_13 (by decide) rfl ?_
      refine V.iconst (v := 1) dL_addPlace_15 (by decide) ?_
      refine V.perm List.perm_append_comm ?_
      exact V.iret hq XMh.r (Nat.le_of_ble_eq_true rfl) (Nat.le_of_ble_eq_true rfl) (Or.inr ⟨_, w, hx, rfl, rfl⟩) dL_addPlace_16
    · refine ⟨17, ⟨[(0, 10, 13, 13)], (0, 10, 17, 15), [], rfl, (by intro z hz; rw [List.mem_singleton.mp hz]; exact ⟨by decide, "java/lang/IllegalArgumentException", (List.mem_of_getElem? (i := 1) rfl), by decide⟩), by decide, by decide, (List.mem_of_getElem? (i := 2) rfl), by decide, rfl⟩, fun q => ?_⟩
      refine V.astore (lv2 := [(4, .ref q), (0, .ref o), (1, .int q0), (2, .int q1), (3, .ref ob)]) dL_addPlace_17 (by decide) rfl ?_
      refine V.iconst (v := 2) dL_addPlace_19 (by decide) ?_
      refine V.perm List.perm_append_comm ?_
      exact V.iret hq XMh.r (Nat.le_of_ble_eq_true rfl) (Nat.le_of_ble_eq_true rfl) (Or.inr ⟨_, w, hx, rfl, rfl⟩) dL_addPlace_20
  obtain ⟨r, rfl⟩ := hV v w hq2
  refine V.perm List.perm_append_comm ?_
  refine V.eqst (st2 := [.int r, .int 0, .ref ob]) rfl ?_
  refine V.i2l dL_addPlace_8 ?_
  refine V.last (f := ff) (ws2 := (OB g ob (vp_updL ff 0 (Int32.toInt64 r))) ++ w) 0 0 rfl rfl (by decide) (by decide) rfl dL_addPlace_9 ?_
  refine V.goto (tgt := 21) dL_addPlace_10 (by decide) ?_
  refine V.iconst (v := 0) dL_addPlace_21 (by decide) ?_
  exact V.iret hq XMh.r (Nat.le_of_ble_eq_true rfl) (Nat.le_of_ble_eq_true rfl) (Or.inl ⟨r, w, hq2, rfl, rfl⟩) dL_addPlace_22
abbrev rmL_fill : Room := { frames := 8, cells := 12, slots := 273, locals := 147 }
set_option maxHeartbeats 4000000 in
set_option maxRecDepth 100000 in
theorem kL_fill (g : GT) (W0 : va_W) (o ob : Nat) (q0 : Int32) (q1 : Int32) (ff : Nat → Int64) {Q : Option Value → va_W → Prop} {XX : String → va_W → Prop} {fs : List Value} (he : W0[0]? = some (o, .inr (5, fs))) (hM : UX g yX5_fill wsX5_fill rmX5_fill [.ref o, .int q0, .int q1] W0 Q XX) (hV : ∀ v w, Q v w → ∃ r : Int32, v = some (.int r)) (hQ : ∀ v w, Q v w → FST W0 w) (hX : ∀ E w, XX E w → FST W0 w) (hE : ∀ E w, XX E w → E = IOB ∨ E = IAE ∨ E = ISE) : UC g yL_fill wsL_fill rmL_fill [.ref o, .int q0, .int q1, .ref ob] (OB g ob ff ++ W0) (LQ g ob ff Q XX (cd2 IOB IAE)) := by
  refine UX.toUC ?_
  refine UX.ofVH (cc := cL_fill) (maxL := 5) (ret := some .int) (hh := [(0, 10, 13, 24), (0, 10, 17, 13), (0, 10, 21, 15)]) (lv0 := [(0, .ref o), (1, .int q0), (2, .int q1), (3, .ref ob)]) (by decide) rfl (Nat.le_of_ble_eq_true rfl) rfl ?_
  have hq : QFok g rmL_fill (LQ g ob ff Q XX (cd2 IOB IAE)) (QFx g rmL_fill (LQ g ob ff Q XX (cd2 IOB IAE)) (fun _ _ => False)) := QFx.q
  refine V.aload_n 3 rfl dL_fill_0 rfl ?_
  refine V.iconst (v := 0) dL_fill_1 (by decide) ?_
  refine V.aload_n 0 rfl dL_fill_2 rfl ?_
  refine V.iload_n 1 rfl dL_fill_3 rfl ?_
  refine V.iload_n 2 rfl dL_fill_4 rfl ?_
  refine V.perm List.perm_append_comm ?_
  refine V.callVC (F := OB g ob ff) [.int q0, .int q1] [.int 0, .ref ob] hM gL_fill_X5_fill rfl (by show _ ∧ _ ∧ _ ∧ _ = some (2 : Nat); decide +kernel) ⟨(Nat.le_of_ble_eq_true rfl), (Nat.le_of_ble_eq_true rfl)⟩ (hc := (rfl : vwCl[5]? = some (RX5, TX5, 5))) 0 he rfl rfl (Nat.le_of_ble_eq_true rfl) ⟨(Nat.le_of_ble_eq_true rfl), (Nat.le_of_ble_eq_true rfl)⟩ dL_fill_5 hQ hX (fun E w hx => ?_) (fun v w hq2 => ?_)
  · rcases hE E w hx with rfl | rfl | rfl
    · refine ⟨13, ⟨[], (0, 10, 13, 24), [(0, 10, 17, 13), (0, 10, 21, 15)], rfl, (fun z hz => absurd hz List.not_mem_nil), by decide, by decide, (List.mem_of_getElem? (i := 1) rfl), by decide, rfl⟩, fun q => ?_⟩
      refine V.astore (lv2 := [(4, .ref q), (0, .ref o), (1, .int q0), (2, .int q1), (3, .ref ob)]) dL_fill_13 (by decide) rfl ?_
      refine V.iconst (v := 1) dL_fill_15 (by decide) ?_
      refine V.perm List.perm_append_comm ?_
      exact V.iret hq XMh.r (Nat.le_of_ble_eq_true rfl) (Nat.le_of_ble_eq_true rfl) (Or.inr ⟨_, w, hx, rfl, rfl⟩) dL_fill_16
    · refine ⟨17, ⟨[(0, 10, 13, 24)], (0, 10, 17, 13), [(0, 10, 21, 15)], rfl, (by intro z hz; rw [List.mem_singleton.mp hz]; exact ⟨by decide, "java/lang/IndexOutOfBoundsException", (List.mem_of_getElem? (i := 1) rfl), by decide⟩), by decide, by decide, (List.mem_of_getElem? (i := 2) rfl), by decide, rfl⟩, fun q => ?_⟩
      refine V.astore (lv2 := [(4, .ref q), (0, .ref o), (1, .int q0), (2, .int q1), (3, .ref ob)]) dL_fill_17 (by decide) rfl ?_
      refine V.iconst (v := 2) dL_fill_19 (by decide) ?_
      refine V.perm List.perm_append_comm ?_
      exact V.iret hq XMh.r (Nat.le_of_ble_eq_true rfl) (Nat.le_of_ble_eq_true rfl) (Or.inr ⟨_, w, hx, rfl, rfl⟩) dL_fill_20
    · refine ⟨21, ⟨[(0, 10, 13, 24), (0, 10, 17, 13)], (0, 10, 21, 15), [], rfl, (by intro z hz; rcases List.mem_cons.mp hz with rfl | hz; exact ⟨by decide, "java/lang/IndexOutOfBoundsException", (List.mem_of_getElem? (i := 1) rfl), by decide⟩; rw [List.mem_singleton.mp hz]; exact ⟨by decide, "java/lang/IllegalArgumentException", (List.mem_of_getElem? (i := 2) rfl), by decide⟩), by decide, by decide, (List.mem_of_getElem? (i := 3) rfl), by decide, rfl⟩, fun q => ?_⟩
      refine V.astore (lv2 := [(4, .ref q), (0, .ref o), (1, .int q0), (2, .int q1), (3, .ref ob)]) dL_fill_21 (by decide) rfl ?_
      refine V.iconst (v := 3) dL_fill_23 (by decide) ?_
      refine V.perm List.perm_append_comm ?_
      exact V.iret hq XMh.r (Nat.le_of_ble_eq_true rfl) (Nat.le_of_ble_eq_true rfl) (Or.inr ⟨_, w, hx, rfl, rfl⟩) dL_fill_24
  obtain ⟨r, rfl⟩ := hV v w hq2
  refine V.perm List.perm_append_comm ?_
  refine V.eqst (st2 := [.int r, .int 0, .ref ob]) rfl ?_
  refine V.i2l dL_fill_8 ?_
  refine V.last (f := ff) (ws2 := (OB g ob (vp_updL ff 0 (Int32.toInt64 r))) ++ w) 0 0 rfl rfl (by decide) (by decide) rfl dL_fill_9 ?_
  refine V.goto (tgt := 25) dL_fill_10 (by decide) ?_
  refine V.iconst (v := 0) dL_fill_25 (by decide) ?_
  exact V.iret hq XMh.r (Nat.le_of_ble_eq_true rfl) (Nat.le_of_ble_eq_true rfl) (Or.inl ⟨r, w, hq2, rfl, rfl⟩) dL_fill_26
abbrev rmL_repair : Room := { frames := 8, cells := 13, slots := 279, locals := 148 }
set_option maxHeartbeats 4000000 in
set_option maxRecDepth 100000 in
theorem kL_repair (g : GT) (W0 : va_W) (o ob : Nat) (q0 : Int32) (q1 : Int32) (q2 : Int32) (ff : Nat → Int64) {Q : Option Value → va_W → Prop} {XX : String → va_W → Prop} {fs : List Value} (he : W0[0]? = some (o, .inr (5, fs))) (hM : UX g yX5_repair wsX5_repair rmX5_repair [.ref o, .int q0, .int q1, .int q2] W0 Q XX) (hV : ∀ v w, Q v w → ∃ r : Int32, v = some (.int r)) (hQ : ∀ v w, Q v w → FST W0 w) (hX : ∀ E w, XX E w → FST W0 w) (hE : ∀ E w, XX E w → E = IOB ∨ E = IAE) : UC g yL_repair wsL_repair rmL_repair [.ref o, .int q0, .int q1, .int q2, .ref ob] (OB g ob ff ++ W0) (LQ g ob ff Q XX (cd2 IOB IAE)) := by
  refine UX.toUC ?_
  refine UX.ofVH (cc := cL_repair) (maxL := 6) (ret := some .int) (hh := [(0, 12, 15, 24), (0, 12, 19, 13)]) (lv0 := [(0, .ref o), (1, .int q0), (2, .int q1), (3, .int q2), (4, .ref ob)]) (by decide) rfl (Nat.le_of_ble_eq_true rfl) rfl ?_
  have hq : QFok g rmL_repair (LQ g ob ff Q XX (cd2 IOB IAE)) (QFx g rmL_repair (LQ g ob ff Q XX (cd2 IOB IAE)) (fun _ _ => False)) := QFx.q
  refine V.aload 4 rfl dL_repair_0 ?_
  refine V.iconst (v := 0) dL_repair_2 (by decide) ?_
  refine V.aload_n 0 rfl dL_repair_3 rfl ?_
  refine V.iload_n 1 rfl dL_repair_4 rfl ?_
  refine V.iload_n 2 rfl dL_repair_5 rfl ?_
  refine V.iload_n 3 rfl dL_repair_6 rfl ?_
  refine V.perm List.perm_append_comm ?_
  refine V.callVC (F := OB g ob ff) [.int q0, .int q1, .int q2] [.int 0, .ref ob] hM gL_repair_X5_repair rfl (by show _ ∧ _ ∧ _ ∧ _ = some (3 : Nat); decide +kernel) ⟨(Nat.le_of_ble_eq_true rfl), (Nat.le_of_ble_eq_true rfl)⟩ (hc := (rfl : vwCl[5]? = some (RX5, TX5, 5))) 0 he rfl rfl (Nat.le_of_ble_eq_true rfl) ⟨(Nat.le_of_ble_eq_true rfl), (Nat.le_of_ble_eq_true rfl)⟩ dL_repair_7 hQ hX (fun E w hx => ?_) (fun v w hq2 => ?_)
  · rcases hE E w hx with rfl | rfl
    · refine ⟨15, ⟨[], (0, 12, 15, 24), [(0, 12, 19, 13)], rfl, (fun z hz => absurd hz List.not_mem_nil), by decide, by decide, (List.mem_of_getElem? (i := 1) rfl), by decide, rfl⟩, fun q => ?_⟩
      refine V.astore (lv2 := [(5, .ref q), (0, .ref o), (1, .int q0), (2, .int q1), (3, .int q2), (4, .ref ob)]) dL_repair_15 (by decide) rfl ?_
      refine V.iconst (v := 1) dL_repair_17 (by decide) ?_
      refine V.perm List.perm_append_comm ?_
      exact V.iret hq XMh.r (Nat.le_of_ble_eq_true rfl) (Nat.le_of_ble_eq_true rfl) (Or.inr ⟨_, w, hx, rfl, rfl⟩) dL_repair_18
    · refine ⟨19, ⟨[(0, 12, 15, 24)], (0, 12, 19, 13), [], rfl, (by intro z hz; rw [List.mem_singleton.mp hz]; exact ⟨by decide, "java/lang/IndexOutOfBoundsException", (List.mem_of_getElem? (i := 1) rfl), by decide⟩), by decide, by decide, (List.mem_of_getElem? (i := 2) rfl), by decide, rfl⟩, fun q => ?_⟩
      refine V.astore (lv2 := [(5, .ref q), (0, .ref o), (1, .int q0), (2, .int q1), (3, .int q2), (4, .ref ob)]) dL_repair_19 (by decide) rfl ?_
      refine V.iconst (v := 2) dL_repair_21 (by decide) ?_
      refine V.perm List.perm_append_comm ?_
      exact V.iret hq XMh.r (Nat.le_of_ble_eq_true rfl) (Nat.le_of_ble_eq_true rfl) (Or.inr ⟨_, w, hx, rfl, rfl⟩) dL_repair_22
  obtain ⟨r, rfl⟩ := hV v w hq2
  refine V.perm List.perm_append_comm ?_
  refine V.eqst (st2 := [.int r, .int 0, .ref ob]) rfl ?_
  refine V.i2l dL_repair_10 ?_
  refine V.last (f := ff) (ws2 := (OB g ob (vp_updL ff 0 (Int32.toInt64 r))) ++ w) 0 0 rfl rfl (by decide) (by decide) rfl dL_repair_11 ?_
  refine V.goto (tgt := 23) dL_repair_12 (by decide) ?_
  refine V.iconst (v := 0) dL_repair_23 (by decide) ?_
  exact V.iret hq XMh.r (Nat.le_of_ble_eq_true rfl) (Nat.le_of_ble_eq_true rfl) (Or.inl ⟨r, w, hq2, rfl, rfl⟩) dL_repair_24
abbrev rmL_fit : Room := { frames := 8, cells := 12, slots := 273, locals := 147 }
set_option maxHeartbeats 4000000 in
set_option maxRecDepth 100000 in
theorem kL_fit (g : GT) (W0 : va_W) (o ob : Nat) (q0 : Int32) (q1 : Int32) (ff : Nat → Int64) {Q : Option Value → va_W → Prop} {XX : String → va_W → Prop} {fs : List Value} (he : W0[0]? = some (o, .inr (5, fs))) (hM : UX g yX5_fit wsX5_fit rmX5_fit [.ref o, .int q0, .int q1] W0 Q XX) (hV : ∀ v w, Q v w → ∃ r : Int32, v = some (.int r)) (hQ : ∀ v w, Q v w → FST W0 w) (hX : ∀ E w, XX E w → FST W0 w) (hE : ∀ E w, XX E w → E = IOB ∨ E = IAE) : UC g yL_fit wsL_fit rmL_fit [.ref o, .int q0, .int q1, .ref ob] (OB g ob ff ++ W0) (LQ g ob ff Q XX (cd2 IOB IAE)) := by
  refine UX.toUC ?_
  refine UX.ofVH (cc := cL_fit) (maxL := 5) (ret := some .int) (hh := [(0, 10, 13, 24), (0, 10, 17, 13)]) (lv0 := [(0, .ref o), (1, .int q0), (2, .int q1), (3, .ref ob)]) (by decide) rfl (Nat.le_of_ble_eq_true rfl) rfl ?_
  have hq : QFok g rmL_fit (LQ g ob ff Q XX (cd2 IOB IAE)) (QFx g rmL_fit (LQ g ob ff Q XX (cd2 IOB IAE)) (fun _ _ => False)) := QFx.q
  refine V.aload_n 3 rfl dL_fit_0 rfl ?_
  refine V.iconst (v := 0) dL_fit_1 (by decide) ?_
  refine V.aload_n 0 rfl dL_fit_2 rfl ?_
  refine V.iload_n 1 rfl dL_fit_3 rfl ?_
  refine V.iload_n 2 rfl dL_fit_4 rfl ?_
  refine V.perm List.perm_append_comm ?_
  refine V.callVC (F := OB g ob ff) [.int q0, .int q1] [.int 0, .ref ob] hM gL_fit_X5_fit rfl (by show _ ∧ _ ∧ _ ∧ _ = some (2 : Nat); decide +kernel) ⟨(Nat.le_of_ble_eq_true rfl), (Nat.le_of_ble_eq_true rfl)⟩ (hc := (rfl : vwCl[5]? = some (RX5, TX5, 5))) 0 he rfl rfl (Nat.le_of_ble_eq_true rfl) ⟨(Nat.le_of_ble_eq_true rfl), (Nat.le_of_ble_eq_true rfl)⟩ dL_fit_5 hQ hX (fun E w hx => ?_) (fun v w hq2 => ?_)
  · rcases hE E w hx with rfl | rfl
    · refine ⟨13, ⟨[], (0, 10, 13, 24), [(0, 10, 17, 13)], rfl, (fun z hz => absurd hz List.not_mem_nil), by decide, by decide, (List.mem_of_getElem? (i := 1) rfl), by decide, rfl⟩, fun q => ?_⟩
      refine V.astore (lv2 := [(4, .ref q), (0, .ref o), (1, .int q0), (2, .int q1), (3, .ref ob)]) dL_fit_13 (by decide) rfl ?_
      refine V.iconst (v := 1) dL_fit_15 (by decide) ?_
      refine V.perm List.perm_append_comm ?_
      exact V.iret hq XMh.r (Nat.le_of_ble_eq_true rfl) (Nat.le_of_ble_eq_true rfl) (Or.inr ⟨_, w, hx, rfl, rfl⟩) dL_fit_16
    · refine ⟨17, ⟨[(0, 10, 13, 24)], (0, 10, 17, 13), [], rfl, (by intro z hz; rw [List.mem_singleton.mp hz]; exact ⟨by decide, "java/lang/IndexOutOfBoundsException", (List.mem_of_getElem? (i := 1) rfl), by decide⟩), by decide, by decide, (List.mem_of_getElem? (i := 2) rfl), by decide, rfl⟩, fun q => ?_⟩
      refine V.astore (lv2 := [(4, .ref q), (0, .ref o), (1, .int q0), (2, .int q1), (3, .ref ob)]) dL_fit_17 (by decide) rfl ?_
      refine V.iconst (v := 2) dL_fit_19 (by decide) ?_
      refine V.perm List.perm_append_comm ?_
      exact V.iret hq XMh.r (Nat.le_of_ble_eq_true rfl) (Nat.le_of_ble_eq_true rfl) (Or.inr ⟨_, w, hx, rfl, rfl⟩) dL_fit_20
  obtain ⟨r, rfl⟩ := hV v w hq2
  refine V.perm List.perm_append_comm ?_
  refine V.eqst (st2 := [.int r, .int 0, .ref ob]) rfl ?_
  refine V.i2l dL_fit_8 ?_
  refine V.last (f := ff) (ws2 := (OB g ob (vp_updL ff 0 (Int32.toInt64 r))) ++ w) 0 0 rfl rfl (by decide) (by decide) rfl dL_fit_9 ?_
  refine V.goto (tgt := 21) dL_fit_10 (by decide) ?_
  refine V.iconst (v := 0) dL_fit_21 (by decide) ?_
  exact V.iret hq XMh.r (Nat.le_of_ble_eq_true rfl) (Nat.le_of_ble_eq_true rfl) (Or.inl ⟨r, w, hq2, rfl, rfl⟩) dL_fit_22
abbrev rmL_set : Room := { frames := 8, cells := 12, slots := 273, locals := 147 }
set_option maxHeartbeats 4000000 in
set_option maxRecDepth 100000 in
theorem kL_set (g : GT) (W0 : va_W) (o ob : Nat) (q0 : Int32) (q1 : Int32) (ff : Nat → Int64) {Q : Option Value → va_W → Prop} {XX : String → va_W → Prop} {fs : List Value} (he : W0[0]? = some (o, .inr (5, fs))) (hM : UX g yX5_set wsX5_set rmX5_set [.ref o, .int q0, .int q1] W0 Q XX) (hV : ∀ v w, Q v w → ∃ r : Int32, v = some (.int r)) (hQ : ∀ v w, Q v w → FST W0 w) (hX : ∀ E w, XX E w → FST W0 w) (hE : ∀ E w, XX E w → E = IOB ∨ E = IAE) : UC g yL_set wsL_set rmL_set [.ref o, .int q0, .int q1, .ref ob] (OB g ob ff ++ W0) (LQ g ob ff Q XX (cd2 IOB IAE)) := by
  refine UX.toUC ?_
  refine UX.ofVH (cc := cL_set) (maxL := 5) (ret := some .int) (hh := [(0, 10, 13, 24), (0, 10, 17, 13)]) (lv0 := [(0, .ref o), (1, .int q0), (2, .int q1), (3, .ref ob)]) (by decide) rfl (Nat.le_of_ble_eq_true rfl) rfl ?_
  have hq : QFok g rmL_set (LQ g ob ff Q XX (cd2 IOB IAE)) (QFx g rmL_set (LQ g ob ff Q XX (cd2 IOB IAE)) (fun _ _ => False)) := QFx.q
  refine V.aload_n 3 rfl dL_set_0 rfl ?_
  refine V.iconst (v := 0) dL_set_1 (by decide) ?_
  refine V.aload_n 0 rfl dL_set_2 rfl ?_
  refine V.iload_n 1 rfl dL_set_3 rfl ?_
  refine V.iload_n 2 rfl dL_set_4 rfl ?_
  refine V.perm List.perm_append_comm ?_
  refine V.callVC (F := OB g ob ff) [.int q0, .int q1] [.int 0, .ref ob] hM gL_set_X5_set rfl (by show _ ∧ _ ∧ _ ∧ _ = some (2 : Nat); decide +kernel) ⟨(Nat.le_of_ble_eq_true rfl), (Nat.le_of_ble_eq_true rfl)⟩ (hc := (rfl : vwCl[5]? = some (RX5, TX5, 5))) 0 he rfl rfl (Nat.le_of_ble_eq_true rfl) ⟨(Nat.le_of_ble_eq_true rfl), (Nat.le_of_ble_eq_true rfl)⟩ dL_set_5 hQ hX (fun E w hx => ?_) (fun v w hq2 => ?_)
  · rcases hE E w hx with rfl | rfl
    · refine ⟨13, ⟨[], (0, 10, 13, 24), [(0, 10, 17, 13)], rfl, (fun z hz => absurd hz List.not_mem_nil), by decide, by decide, (List.mem_of_getElem? (i := 1) rfl), by decide, rfl⟩, fun q => ?_⟩
      refine V.astore (lv2 := [(4, .ref q), (0, .ref o), (1, .int q0), (2, .int q1), (3, .ref ob)]) dL_set_13 (by decide) rfl ?_
      refine V.iconst (v := 1) dL_set_15 (by decide) ?_
      refine V.perm List.perm_append_comm ?_
      exact V.iret hq XMh.r (Nat.le_of_ble_eq_true rfl) (Nat.le_of_ble_eq_true rfl) (Or.inr ⟨_, w, hx, rfl, rfl⟩) dL_set_16
    · refine ⟨17, ⟨[(0, 10, 13, 24)], (0, 10, 17, 13), [], rfl, (by intro z hz; rw [List.mem_singleton.mp hz]; exact ⟨by decide, "java/lang/IndexOutOfBoundsException", (List.mem_of_getElem? (i := 1) rfl), by decide⟩), by decide, by decide, (List.mem_of_getElem? (i := 2) rfl), by decide, rfl⟩, fun q => ?_⟩
      refine V.astore (lv2 := [(4, .ref q), (0, .ref o), (1, .int q0), (2, .int q1), (3, .ref ob)]) dL_set_17 (by decide) rfl ?_
      refine V.iconst (v := 2) dL_set_19 (by decide) ?_
      refine V.perm List.perm_append_comm ?_
      exact V.iret hq XMh.r (Nat.le_of_ble_eq_true rfl) (Nat.le_of_ble_eq_true rfl) (Or.inr ⟨_, w, hx, rfl, rfl⟩) dL_set_20
  obtain ⟨r, rfl⟩ := hV v w hq2
  refine V.perm List.perm_append_comm ?_
  refine V.eqst (st2 := [.int r, .int 0, .ref ob]) rfl ?_
  refine V.i2l dL_set_8 ?_
  refine V.last (f := ff) (ws2 := (OB g ob (vp_updL ff 0 (Int32.toInt64 r))) ++ w) 0 0 rfl rfl (by decide) (by decide) rfl dL_set_9 ?_
  refine V.goto (tgt := 21) dL_set_10 (by decide) ?_
  refine V.iconst (v := 0) dL_set_21 (by decide) ?_
  exact V.iret hq XMh.r (Nat.le_of_ble_eq_true rfl) (Nat.le_of_ble_eq_true rfl) (Or.inl ⟨r, w, hq2, rfl, rfl⟩) dL_set_22
abbrev rmL_tour : Room := { frames := 8, cells := 11, slots := 267, locals := 145 }
set_option maxHeartbeats 4000000 in
set_option maxRecDepth 100000 in
theorem kL_tour (g : GT) (W0 : va_W) (o ob : Nat) (q0 : Int32) (ff : Nat → Int64) {Q : Option Value → va_W → Prop} {XX : String → va_W → Prop} {fs : List Value} (he : W0[0]? = some (o, .inr (5, fs))) (hM : UX g yX5_tour wsX5_tour rmX5_tour [.ref o, .int q0] W0 Q XX) (hV : ∀ v w, Q v w → ∃ r : Int32, v = some (.int r)) (hQ : ∀ v w, Q v w → FST W0 w) (hX : ∀ E w, XX E w → FST W0 w) (hE : ∀ E w, XX E w → E = IAE) : UC g yL_tour wsL_tour rmL_tour [.ref o, .int q0, .ref ob] (OB g ob ff ++ W0) (LQ g ob ff Q XX (cd2 IAE IAE)) := by
  refine UX.toUC ?_
  refine UX.ofVH (cc := cL_tour) (maxL := 4) (ret := some .int) (hh := [(0, 9, 12, 13)]) (lv0 := [(0, .ref o), (1, .int q0), (2, .ref ob)]) (by decide) rfl (Nat.le_of_ble_eq_true rfl) rfl ?_
  have hq : QFok g rmL_tour (LQ g ob ff Q XX (cd2 IAE IAE)) (QFx g rmL_tour (LQ g ob ff Q XX (cd2 IAE IAE)) (fun _ _ => False)) := QFx.q
  refine V.aload_n 2 rfl dL_tour_0 rfl ?_
  refine V.iconst (v := 0) dL_tour_1 (by decide) ?_
  refine V.aload_n 0 rfl dL_tour_2 rfl ?_
  refine V.iload_n 1 rfl dL_tour_3 rfl ?_
  refine V.perm List.perm_append_comm ?_
  refine V.callVC (F := OB g ob ff) [.int q0] [.int 0, .ref ob] hM gL_tour_X5_tour rfl (by show _ ∧ _ ∧ _ ∧ _ = some (1 : Nat); decide +kernel) ⟨(Nat.le_of_ble_eq_true rfl), (Nat.le_of_ble_eq_true rfl)⟩ (hc := (rfl : vwCl[5]? = some (RX5, TX5, 5))) 0 he rfl rfl (Nat.le_of_ble_eq_true rfl) ⟨(Nat.le_of_ble_eq_true rfl), (Nat.le_of_ble_eq_true rfl)⟩ dL_tour_4 hQ hX (fun E w hx => ?_) (fun v w hq2 => ?_)
  · rcases hE E w hx with rfl
    · refine ⟨12, ⟨[], (0, 9, 12, 13), [], rfl, (fun z hz => absurd hz List.not_mem_nil), by decide, by decide, (List.mem_of_getElem? (i := 1) rfl), by decide, rfl⟩, fun q => ?_⟩
      refine V.astore_n (lv2 := [(3, .ref q), (0, .ref o), (1, .int q0), (2, .ref ob)]) dL_tour_12 rfl (by decide) rfl ?_
      refine V.iconst (v := 1) dL_tour_13 (by decide) ?_
      refine V.perm List.perm_append_comm ?_
      exact V.iret hq XMh.r (Nat.le_of_ble_eq_true rfl) (Nat.le_of_ble_eq_true rfl) (Or.inr ⟨_, w, hx, rfl, rfl⟩) dL_tour_14
  obtain ⟨r, rfl⟩ := hV v w hq2
  refine V.perm List.perm_append_comm ?_
  refine V.eqst (st2 := [.int r, .int 0, .ref ob]) rfl ?_
  refine V.i2l dL_tour_7 ?_
  refine V.last (f := ff) (ws2 := (OB g ob (vp_updL ff 0 (Int32.toInt64 r))) ++ w) 0 0 rfl rfl (by decide) (by decide) rfl dL_tour_8 ?_
  refine V.goto (tgt := 15) dL_tour_9 (by decide) ?_
  refine V.iconst (v := 0) dL_tour_15 (by decide) ?_
  exact V.iret hq XMh.r (Nat.le_of_ble_eq_true rfl) (Nat.le_of_ble_eq_true rfl) (Or.inl ⟨r, w, hq2, rfl, rfl⟩) dL_tour_16
abbrev rmL_append : Room := { frames := 8, cells := 2, slots := 12, locals := 125 }
set_option maxHeartbeats 4000000 in
set_option maxRecDepth 100000 in
theorem kL_append (g : GT) (W0 : va_W) (o ob : Nat) (q0 : Int32) (ff : Nat → Int64) {Q : Option Value → va_W → Prop} {XX : String → va_W → Prop} {fs : List Value} (he : W0[0]? = some (o, .inr (5, fs))) (hM : UX g yX5_append wsX5_append rmX5_append [.ref o, .int q0] W0 Q XX) (hV : ∀ v w, Q v w → ∃ r : Int32, v = some (.int r)) (hQ : ∀ v w, Q v w → FST W0 w) (hX : ∀ E w, XX E w → FST W0 w) (hE : ∀ E w, XX E w → E = IAE ∨ E = ISE) : UC g yL_append wsL_append rmL_append [.ref o, .int q0, .ref ob] (OB g ob ff ++ W0) (LQ g ob ff Q XX (cd2 IAE ISE)) := by
  refine UX.toUC ?_
  refine UX.ofVH (cc := cL_append) (maxL := 4) (ret := some .int) (hh := [(0, 9, 12, 13), (0, 9, 15, 15)]) (lv0 := [(0, .ref o), (1, .int q0), (2, .ref ob)]) (by decide) rfl (Nat.le_of_ble_eq_true rfl) rfl ?_
  have hq : QFok g rmL_append (LQ g ob ff Q XX (cd2 IAE ISE)) (QFx g rmL_append (LQ g ob ff Q XX (cd2 IAE ISE)) (fun _ _ => False)) := QFx.q
  refine V.aload_n 2 rfl dL_append_0 rfl ?_
  refine V.iconst (v := 0) dL_append_1 (by decide) ?_
  refine V.aload_n 0 rfl dL_append_2 rfl ?_
  refine V.iload_n 1 rfl dL_append_3 rfl ?_
  refine V.perm List.perm_append_comm ?_
  refine V.callVC (F := OB g ob ff) [.int q0] [.int 0, .ref ob] hM gL_append_X5_append rfl (by show _ ∧ _ ∧ _ ∧ _ = some (1 : Nat); decide +kernel) ⟨(Nat.le_of_ble_eq_true rfl), (Nat.le_of_ble_eq_true rfl)⟩ (hc := (rfl : vwCl[5]? = some (RX5, TX5, 5))) 0 he rfl rfl (Nat.le_of_ble_eq_true rfl) ⟨(Nat.le_of_ble_eq_true rfl), (Nat.le_of_ble_eq_true rfl)⟩ dL_append_4 hQ hX (fun E w hx => ?_) (fun v w hq2 => ?_)
  · rcases hE E w hx with rfl | rfl
    · refine ⟨12, ⟨[], (0, 9, 12, 13), [(0, 9, 15, 15)], rfl, (fun z hz => absurd hz List.not_mem_nil), by decide, by decide, (List.mem_of_getElem? (i := 1) rfl), by decide, rfl⟩, fun q => ?_⟩
      refine V.astore_n (lv2 := [(3, .ref q), (0, .ref o), (1, .int q0), (2, .ref ob)]) dL_append_12 rfl (by decide) rfl ?_
      refine V.iconst (v := 1) dL_append_13 (by decide) ?_
      refine V.perm List.perm_append_comm ?_
      exact V.iret hq XMh.r (Nat.le_of_ble_eq_true rfl) (Nat.le_of_ble_eq_true rfl) (Or.inr ⟨_, w, hx, rfl, rfl⟩) dL_append_14
    · refine ⟨15, ⟨[(0, 9, 12, 13)], (0, 9, 15, 15), [], rfl, (by intro z hz; rw [List.mem_singleton.mp hz]; exact ⟨by decide, "java/lang/IllegalArgumentException", (List.mem_of_getElem? (i := 1) rfl), by decide⟩), by decide, by decide, (List.mem_of_getElem? (i := 2) rfl), by decide, rfl⟩, fun q => ?_⟩
      refine V.astore_n (lv2 := [(3, .ref q), (0, .ref o), (1, .int q0), (2, .ref ob)]) dL_append_15 rfl (by decide) rfl ?_
      refine V.iconst (v := 2) dL_append_16 (by decide) ?_
      refine V.perm List.perm_append_comm ?_
      exact V.iret hq XMh.r (Nat.le_of_ble_eq_true rfl) (Nat.le_of_ble_eq_true rfl) (Or.inr ⟨_, w, hx, rfl, rfl⟩) dL_append_17
  obtain ⟨r, rfl⟩ := hV v w hq2
  refine V.perm List.perm_append_comm ?_
  refine V.eqst (st2 := [.int r, .int 0, .ref ob]) rfl ?_
  refine V.i2l dL_append_7 ?_
  refine V.last (f := ff) (ws2 := (OB g ob (vp_updL ff 0 (Int32.toInt64 r))) ++ w) 0 0 rfl rfl (by decide) (by decide) rfl dL_append_8 ?_
  refine V.goto (tgt := 18) dL_append_9 (by decide) ?_
  refine V.iconst (v := 0) dL_append_18 (by decide) ?_
  exact V.iret hq XMh.r (Nat.le_of_ble_eq_true rfl) (Nat.le_of_ble_eq_true rfl) (Or.inl ⟨r, w, hq2, rfl, rfl⟩) dL_append_19
abbrev rmL_read : Room := { frames := 7, cells := 10, slots := 261, locals := 145 }
set_option maxHeartbeats 4000000 in
set_option maxRecDepth 100000 in
theorem kL_read (g : GT) (W0 : va_W) (o ob : Nat) (ff : Nat → Int64) {Q : Option Value → va_W → Prop} {XX : String → va_W → Prop} {fs : List Value} (he : W0[0]? = some (o, .inr (5, fs))) (hM : UX g yX5_read wsX5_read rmX5_read [.ref o] W0 Q XX) (hV : ∀ v w, Q v w → ∃ r : Int32, v = some (.int r)) (hQ : ∀ v w, Q v w → FST W0 w) (hX : ∀ E w, XX E w → FST W0 w) (hE : ∀ E w, XX E w → E = IAE) : UC g yL_read wsL_read rmL_read [.ref o, .ref ob] (OB g ob ff ++ W0) (LQ g ob ff Q XX (cd2 IAE IAE)) := by
  refine UX.toUC ?_
  refine UX.ofVH (cc := cL_read) (maxL := 3) (ret := some .int) (hh := [(0, 8, 11, 13)]) (lv0 := [(0, .ref o), (1, .ref ob)]) (by decide) rfl (Nat.le_of_ble_eq_true rfl) rfl ?_
  have hq : QFok g rmL_read (LQ g ob ff Q XX (cd2 IAE IAE)) (QFx g rmL_read (LQ g ob ff Q XX (cd2 IAE IAE)) (fun _ _ => False)) := QFx.q
  refine V.aload_n 1 rfl dL_read_0 rfl ?_
  refine V.iconst (v := 0) dL_read_1 (by decide) ?_
  refine V.aload_n 0 rfl dL_read_2 rfl ?_
  refine V.perm List.perm_append_comm ?_
  refine V.callVC (F := OB g ob ff) [] [.int 0, .ref ob] hM gL_read_X5_read rfl (by show _ ∧ _ ∧ _ ∧ _ = some (0 : Nat); decide +kernel) ⟨(Nat.le_of_ble_eq_true rfl), (Nat.le_of_ble_eq_true rfl)⟩ (hc := (rfl : vwCl[5]? = some (RX5, TX5, 5))) 0 he rfl rfl (Nat.le_of_ble_eq_true rfl) ⟨(Nat.le_of_ble_eq_true rfl), (Nat.le_of_ble_eq_true rfl)⟩ dL_read_3 hQ hX (fun E w hx => ?_) (fun v w hq2 => ?_)
  · rcases hE E w hx with rfl
    · refine ⟨11, ⟨[], (0, 8, 11, 13), [], rfl, (fun z hz => absurd hz List.not_mem_nil), by decide, by decide, (List.mem_of_getElem? (i := 1) rfl), by decide, rfl⟩, fun q => ?_⟩
      refine V.astore_n (lv2 := [(2, .ref q), (0, .ref o), (1, .ref ob)]) dL_read_11 rfl (by decide) rfl ?_
      refine V.iconst (v := 1) dL_read_12 (by decide) ?_
      refine V.perm List.perm_append_comm ?_
      exact V.iret hq XMh.r (Nat.le_of_ble_eq_true rfl) (Nat.le_of_ble_eq_true rfl) (Or.inr ⟨_, w, hx, rfl, rfl⟩) dL_read_13
  obtain ⟨r, rfl⟩ := hV v w hq2
  refine V.perm List.perm_append_comm ?_
  refine V.eqst (st2 := [.int r, .int 0, .ref ob]) rfl ?_
  refine V.i2l dL_read_6 ?_
  refine V.last (f := ff) (ws2 := (OB g ob (vp_updL ff 0 (Int32.toInt64 r))) ++ w) 0 0 rfl rfl (by decide) (by decide) rfl dL_read_7 ?_
  refine V.goto (tgt := 14) dL_read_8 (by decide) ?_
  refine V.iconst (v := 0) dL_read_14 (by decide) ?_
  exact V.iret hq XMh.r (Nat.le_of_ble_eq_true rfl) (Nat.le_of_ble_eq_true rfl) (Or.inl ⟨r, w, hq2, rfl, rfl⟩) dL_read_15
abbrev rmL_undo : Room := { frames := 7, cells := 1, slots := 6, locals := 144 }
set_option maxHeartbeats 4000000 in
set_option maxRecDepth 100000 in
theorem kL_undo (g : GT) (W0 : va_W) (o ob : Nat) (ff : Nat → Int64) {Q : Option Value → va_W → Prop} {XX : String → va_W → Prop} {fs : List Value} (he : W0[0]? = some (o, .inr (5, fs))) (hM : UX g yX5_undo wsX5_undo rmX5_undo [.ref o] W0 Q XX) (hV : ∀ v w, Q v w → ∃ r : Int32, v = some (.int r)) (hQ : ∀ v w, Q v w → FST W0 w) (hX : ∀ E w, XX E w → FST W0 w) (hE : ∀ E w, XX E w → E = ISE) : UC g yL_undo wsL_undo rmL_undo [.ref o, .ref ob] (OB g ob ff ++ W0) (LQ g ob ff Q XX (cd2 ISE ISE)) := by
  refine UX.toUC ?_
  refine UX.ofVH (cc := cL_undo) (maxL := 3) (ret := some .int) (hh := [(0, 8, 11, 15)]) (lv0 := [(0, .ref o), (1, .ref ob)]) (by decide) rfl (Nat.le_of_ble_eq_true rfl) rfl ?_
  have hq : QFok g rmL_undo (LQ g ob ff Q XX (cd2 ISE ISE)) (QFx g rmL_undo (LQ g ob ff Q XX (cd2 ISE ISE)) (fun _ _ => False)) := QFx.q
  refine V.aload_n 1 rfl dL_undo_0 rfl ?_
  refine V.iconst (v := 0) dL_undo_1 (by decide) ?_
  refine V.aload_n 0 rfl dL_undo_2 rfl ?_
  refine V.perm List.perm_append_comm ?_
  refine V.callVC (F := OB g ob ff) [] [.int 0, .ref ob] hM gL_undo_X5_undo rfl (by show _ ∧ _ ∧ _ ∧ _ = some (0 : Nat); decide +kernel) ⟨(Nat.le_of_ble_eq_true rfl), (Nat.le_of_ble_eq_true rfl)⟩ (hc := (rfl : vwCl[5]? = some (RX5, TX5, 5))) 0 he rfl rfl (Nat.le_of_ble_eq_true rfl) ⟨(Nat.le_of_ble_eq_true rfl), (Nat.le_of_ble_eq_true rfl)⟩ dL_undo_3 hQ hX (fun E w hx => ?_) (fun v w hq2 => ?_)
  · rcases hE E w hx with rfl
    · refine ⟨11, ⟨[], (0, 8, 11, 15), [], rfl, (fun z hz => absurd hz List.not_mem_nil), by decide, by decide, (List.mem_of_getElem? (i := 1) rfl), by decide, rfl⟩, fun q => ?_⟩
      refine V.astore_n (lv2 := [(2, .ref q), (0, .ref o), (1, .ref ob)]) dL_undo_11 rfl (by decide) rfl ?_
      refine V.iconst (v := 1) dL_undo_12 (by decide) ?_
      refine V.perm List.perm_append_comm ?_
      exact V.iret hq XMh.r (Nat.le_of_ble_eq_true rfl) (Nat.le_of_ble_eq_true rfl) (Or.inr ⟨_, w, hx, rfl, rfl⟩) dL_undo_13
  obtain ⟨r, rfl⟩ := hV v w hq2
  refine V.perm List.perm_append_comm ?_
  refine V.eqst (st2 := [.int r, .int 0, .ref ob]) rfl ?_
  refine V.i2l dL_undo_6 ?_
  refine V.last (f := ff) (ws2 := (OB g ob (vp_updL ff 0 (Int32.toInt64 r))) ++ w) 0 0 rfl rfl (by decide) (by decide) rfl dL_undo_7 ?_
  refine V.goto (tgt := 14) dL_undo_8 (by decide) ?_
  refine V.iconst (v := 0) dL_undo_14 (by decide) ?_
  exact V.iret hq XMh.r (Nat.le_of_ble_eq_true rfl) (Nat.le_of_ble_eq_true rfl) (Or.inl ⟨r, w, hq2, rfl, rfl⟩) dL_undo_15
abbrev rmL_feeder : Room := { frames := 8, cells := 2, slots := 12, locals := 126 }
set_option maxHeartbeats 4000000 in
set_option maxRecDepth 100000 in
theorem kL_feeder (g : GT) (W0 : va_W) (o ob : Nat) (q0 : Int32) (q1 : Int32) (ff : Nat → Int64) {Q : Option Value → va_W → Prop} {XX : String → va_W → Prop} {fs : List Value} (he : W0[0]? = some (o, .inr (5, fs))) (hM : UX g yX5_feeder wsX5_feeder rmX5_feeder [.ref o, .int q0, .int q1] W0 Q XX) (hV : ∀ v w, Q v w → ∃ r : Int32, v = some (.int r)) (hQ : ∀ v w, Q v w → FST W0 w) (hX : ∀ E w, XX E w → FST W0 w) (hE : ∀ E w, XX E w → E = IOB ∨ E = IAE) : UC g yL_feeder wsL_feeder rmL_feeder [.ref o, .int q0, .int q1, .ref ob] (OB g ob ff ++ W0) (LQ g ob ff Q XX (cd2 IOB IAE)) := by
  refine UX.toUC ?_
  refine UX.ofVH (cc := cL_feeder) (maxL := 5) (ret := some .int) (hh := [(0, 10, 13, 24), (0, 10, 17, 13)]) (lv0 := [(0, .ref o), (1, .int q0), (2, .int q1), (3, .ref ob)]) (by decide) rfl (Nat.le_of_ble_eq_true rfl) rfl ?_
  have hq : QFok g rmL_feeder (LQ g ob ff Q XX (cd2 IOB IAE)) (QFx g rmL_feeder (LQ g ob ff Q XX (cd2 IOB IAE)) (fun _ _ => False)) := QFx.q
  refine V.aload_n 3 rfl dL_feeder_0 rfl ?_
  refine V.iconst (v := 0) dL_feeder_1 (by decide) ?_
  refine V.aload_n 0 rfl dL_feeder_2 rfl ?_
  refine V.iload_n 1 rfl dL_feeder_3 rfl ?_
  refine V.iload_n 2 rfl dL_feeder_4 rfl ?_
  refine V.perm List.perm_append_comm ?_
  refine V.callVC (F := OB g ob ff) [.int q0, .int q1] [.int 0, .ref ob] hM gL_feeder_X5_feeder rfl (by show _ ∧ _ ∧ _ ∧ _ = some (2 : Nat); decide +kernel) ⟨(Nat.le_of_ble_eq_true rfl), (Nat.le_of_ble_eq_true rfl)⟩ (hc := (rfl : vwCl[5]? = some (RX5, TX5, 5))) 0 he rfl rfl (Nat.le_of_ble_eq_true rfl) ⟨(Nat.le_of_ble_eq_true rfl), (Nat.le_of_ble_eq_true rfl)⟩ dL_feeder_5 hQ hX (fun E w hx => ?_) (fun v w hq2 => ?_)
  · rcases hE E w hx with rfl | rfl
    · refine ⟨13, ⟨[], (0, 10, 13, 24), [(0, 10, 17, 13)], rfl, (fun z hz => absurd hz List.not_mem_nil), by decide, by decide, (List.mem_of_getElem? (i := 1) rfl), by decide, rfl⟩, fun q => ?_⟩
      refine V.astore (lv2 := [(4, .ref q), (0, .ref o), (1, .int q0), (2, .int q1), (3, .ref ob)]) dL_feeder_13 (by decide) rfl ?_
      refine V.iconst (v := 1) dL_feeder_15 (by decide) ?_
      refine V.perm List.perm_append_comm ?_
      exact V.iret hq XMh.r (Nat.le_of_ble_eq_true rfl) (Nat.le_of_ble_eq_true rfl) (Or.inr ⟨_, w, hx, rfl, rfl⟩) dL_feeder_16
    · refine ⟨17, ⟨[(0, 10, 13, 24)], (0, 10, 17, 13), [], rfl, (by intro z hz; rw [List.mem_singleton.mp hz]; exact ⟨by decide, "java/lang/IndexOutOfBoundsException", (List.mem_of_getElem? (i := 1) rfl), by decide⟩), by decide, by decide, (List.mem_of_getElem? (i := 2) rfl), by decide, rfl⟩, fun q => ?_⟩
      refine V.astore (lv2 := [(4, .ref q), (0, .ref o), (1, .int q0), (2, .int q1), (3, .ref ob)]) dL_feeder_17 (by decide) rfl ?_
      refine V.iconst (v := 2) dL_feeder_19 (by decide) ?_
      refine V.perm List.perm_append_comm ?_
      exact V.iret hq XMh.r (Nat.le_of_ble_eq_true rfl) (Nat.le_of_ble_eq_true rfl) (Or.inr ⟨_, w, hx, rfl, rfl⟩) dL_feeder_20
  obtain ⟨r, rfl⟩ := hV v w hq2
  refine V.perm List.perm_append_comm ?_
  refine V.eqst (st2 := [.int r, .int 0, .ref ob]) rfl ?_
  refine V.i2l dL_feeder_8 ?_
  refine V.last (f := ff) (ws2 := (OB g ob (vp_updL ff 0 (Int32.toInt64 r))) ++ w) 0 0 rfl rfl (by decide) (by decide) rfl dL_feeder_9 ?_
  refine V.goto (tgt := 21) dL_feeder_10 (by decide) ?_
  refine V.iconst (v := 0) dL_feeder_21 (by decide) ?_
  exact V.iret hq XMh.r (Nat.le_of_ble_eq_true rfl) (Nat.le_of_ble_eq_true rfl) (Or.inl ⟨r, w, hq2, rfl, rfl⟩) dL_feeder_22
abbrev rmL_place : Room := { frames := 8, cells := 1, slots := 6, locals := 126 }
set_option maxHeartbeats 4000000 in
set_option maxRecDepth 100000 in
theorem kL_place (g : GT) (W0 : va_W) (o ob : Nat) (q0 : Int32) (q1 : Int32) (ff : Nat → Int64) {Q : Option Value → va_W → Prop} {XX : String → va_W → Prop} {fs : List Value} (he : W0[0]? = some (o, .inr (5, fs))) (hM : UX g yX5_place wsX5_place rmX5_place [.ref o, .int q0, .int q1] W0 Q XX) (hV : ∀ v w, Q v w → ∃ r : Int32, v = some (.int r)) (hQ : ∀ v w, Q v w → FST W0 w) (hX : ∀ E w, XX E w → FST W0 w) (hE : ∀ E w, XX E w → E = IOB ∨ E = IAE) : UC g yL_place wsL_place rmL_place [.ref o, .int q0, .int q1, .ref ob] (OB g ob ff ++ W0) (LQ g ob ff Q XX (cd2 IOB IAE)) := by
  refine UX.toUC ?_
  refine UX.ofVH (cc := cL_place) (maxL := 5) (ret := some .int) (hh := [(0, 10, 13, 24), (0, 10, 17, 13)]) (lv0 := [(0, .ref o), (1, .int q0), (2, .int q1), (3, .ref ob)]) (by decide) rfl (Nat.le_of_ble_eq_true rfl) rfl ?_
  have hq : QFok g rmL_place (LQ g ob ff Q XX (cd2 IOB IAE)) (QFx g rmL_place (LQ g ob ff Q XX (cd2 IOB IAE)) (fun _ _ => False)) := QFx.q
  refine V.aload_n 3 rfl dL_place_0 rfl ?_
  refine V.iconst (v := 0) dL_place_1 (by decide) ?_
  refine V.aload_n 0 rfl dL_place_2 rfl ?_
  refine V.iload_n 1 rfl dL_place_3 rfl ?_
  refine V.iload_n 2 rfl dL_place_4 rfl ?_
  refine V.perm List.perm_append_comm ?_
  refine V.callVC (F := OB g ob ff) [.int q0, .int q1] [.int 0, .ref ob] hM gL_place_X5_place rfl (by show _ ∧ _ ∧ _ ∧ _ = some (2 : Nat); decide +kernel) ⟨(Nat.le_of_ble_eq_true rfl), (Nat.le_of_ble_eq_true rfl)⟩ (hc := (rfl : vwCl[5]? = some (RX5, TX5, 5))) 0 he rfl rfl (Nat.le_of_ble_eq_true rfl) ⟨(Nat.le_of_ble_eq_true rfl), (Nat.le_of_ble_eq_true rfl)⟩ dL_place_5 hQ hX (fun E w hx => ?_) (fun v w hq2 => ?_)
  · rcases hE E w hx with rfl | rfl
    · refine ⟨13, ⟨[], (0, 10, 13, 24), [(0, 10, 17, 13)], rfl, (fun z hz => absurd hz List.not_mem_nil), by decide, by decide, (List.mem_of_getElem? (i := 1) rfl), by decide, rfl⟩, fun q => ?_⟩
      refine V.astore (lv2 := [(4, .ref q), (0, .ref o), (1, .int q0), (2, .int q1), (3, .ref ob)]) dL_place_13 (by decide) rfl ?_
      refine V.iconst (v := 1) dL_place_15 (by decide) ?_
      refine V.perm List.perm_append_comm ?_
      exact V.iret hq XMh.r (Nat.le_of_ble_eq_true rfl) (Nat.le_of_ble_eq_true rfl) (Or.inr ⟨_, w, hx, rfl, rfl⟩) dL_place_16
    · refine ⟨17, ⟨[(0, 10, 13, 24)], (0, 10, 17, 13), [], rfl, (by intro z hz; rw [List.mem_singleton.mp hz]; exact ⟨by decide, "java/lang/IndexOutOfBoundsException", (List.mem_of_getElem? (i := 1) rfl), by decide⟩), by decide, by decide, (List.mem_of_getElem? (i := 2) rfl), by decide, rfl⟩, fun q => ?_⟩
      refine V.astore (lv2 := [(4, .ref q), (0, .ref o), (1, .int q0), (2, .int q1), (3, .ref ob)]) dL_place_17 (by decide) rfl ?_
      refine V.iconst (v := 2) dL_place_19 (by decide) ?_
      refine V.perm List.perm_append_comm ?_
      exact V.iret hq XMh.r (Nat.le_of_ble_eq_true rfl) (Nat.le_of_ble_eq_true rfl) (Or.inr ⟨_, w, hx, rfl, rfl⟩) dL_place_20
  obtain ⟨r, rfl⟩ := hV v w hq2
  refine V.perm List.perm_append_comm ?_
  refine V.eqst (st2 := [.int r, .int 0, .ref ob]) rfl ?_
  refine V.i2l dL_place_8 ?_
  refine V.last (f := ff) (ws2 := (OB g ob (vp_updL ff 0 (Int32.toInt64 r))) ++ w) 0 0 rfl rfl (by decide) (by decide) rfl dL_place_9 ?_
  refine V.goto (tgt := 21) dL_place_10 (by decide) ?_
  refine V.iconst (v := 0) dL_place_21 (by decide) ?_
  exact V.iret hq XMh.r (Nat.le_of_ble_eq_true rfl) (Nat.le_of_ble_eq_true rfl) (Or.inl ⟨r, w, hq2, rfl, rfl⟩) dL_place_22
abbrev rmL_nozzle : Room := { frames := 8, cells := 2, slots := 12, locals := 126 }
set_option maxHeartbeats 4000000 in
set_option maxRecDepth 100000 in
theorem kL_nozzle (g : GT) (W0 : va_W) (o ob : Nat) (q0 : Int32) (q1 : Int32) (ff : Nat → Int64) {Q : Option Value → va_W → Prop} {XX : String → va_W → Prop} {fs : List Value} (he : W0[0]? = some (o, .inr (5, fs))) (hM : UX g yX5_nozzle wsX5_nozzle rmX5_nozzle [.ref o, .int q0, .int q1] W0 Q XX) (hV : ∀ v w, Q v w → ∃ r : Int32, v = some (.int r)) (hQ : ∀ v w, Q v w → FST W0 w) (hX : ∀ E w, XX E w → FST W0 w) (hE : ∀ E w, XX E w → E = IOB ∨ E = IAE) : UC g yL_nozzle wsL_nozzle rmL_nozzle [.ref o, .int q0, .int q1, .ref ob] (OB g ob ff ++ W0) (LQ g ob ff Q XX (cd2 IOB IAE)) := by
  refine UX.toUC ?_
  refine UX.ofVH (cc := cL_nozzle) (maxL := 5) (ret := some .int) (hh := [(0, 10, 13, 24), (0, 10, 17, 13)]) (lv0 := [(0, .ref o), (1, .int q0), (2, .int q1), (3, .ref ob)]) (by decide) rfl (Nat.le_of_ble_eq_true rfl) rfl ?_
  have hq : QFok g rmL_nozzle (LQ g ob ff Q XX (cd2 IOB IAE)) (QFx g rmL_nozzle (LQ g ob ff Q XX (cd2 IOB IAE)) (fun _ _ => False)) := QFx.q
  refine V.aload_n 3 rfl dL_nozzle_0 rfl ?_
  refine V.iconst (v := 0) dL_nozzle_1 (by decide) ?_
  refine V.aload_n 0 rfl dL_nozzle_2 rfl ?_
  refine V.iload_n 1 rfl dL_nozzle_3 rfl ?_
  refine V.iload_n 2 rfl dL_nozzle_4 rfl ?_
  refine V.perm List.perm_append_comm ?_
  refine V.callVC (F := OB g ob ff) [.int q0, .int q1] [.int 0, .ref ob] hM gL_nozzle_X5_nozzle rfl (by show _ ∧ _ ∧ _ ∧ _ = some (2 : Nat); decide +kernel) ⟨(Nat.le_of_ble_eq_true rfl), (Nat.le_of_ble_eq_true rfl)⟩ (hc := (rfl : vwCl[5]? = some (RX5, TX5, 5))) 0 he rfl rfl (Nat.le_of_ble_eq_true rfl) ⟨(Nat.le_of_ble_eq_true rfl), (Nat.le_of_ble_eq_true rfl)⟩ dL_nozzle_5 hQ hX (fun E w hx => ?_) (fun v w hq2 => ?_)
  · rcases hE E w hx with rfl | rfl
    · refine ⟨13, ⟨[], (0, 10, 13, 24), [(0, 10, 17, 13)], rfl, (fun z hz => absurd hz List.not_mem_nil), by decide, by decide, (List.mem_of_getElem? (i := 1) rfl), by decide, rfl⟩, fun q => ?_⟩
      refine V.astore (lv2 := [(4, .ref q), (0, .ref o), (1, .int q0), (2, .int q1), (3, .ref ob)]) dL_nozzle_13 (by decide) rfl ?_
      refine V.iconst (v := 1) dL_nozzle_15 (by decide) ?_
      refine V.perm List.perm_append_comm ?_
      exact V.iret hq XMh.r (Nat.le_of_ble_eq_true rfl) (Nat.le_of_ble_eq_true rfl) (Or.inr ⟨_, w, hx, rfl, rfl⟩) dL_nozzle_16
    · refine ⟨17, ⟨[(0, 10, 13, 24)], (0, 10, 17, 13), [], rfl, (by intro z hz; rw [List.mem_singleton.mp hz]; exact ⟨by decide, "java/lang/IndexOutOfBoundsException", (List.mem_of_getElem? (i := 1) rfl), by decide⟩), by decide, by decide, (List.mem_of_getElem? (i := 2) rfl), by decide, rfl⟩, fun q => ?_⟩
      refine V.astore (lv2 := [(4, .ref q), (0, .ref o), (1, .int q0), (2, .int q1), (3, .ref ob)]) dL_nozzle_17 (by decide) rfl ?_
      refine V.iconst (v := 2) dL_nozzle_19 (by decide) ?_
      refine V.perm List.perm_append_comm ?_
      exact V.iret hq XMh.r (Nat.le_of_ble_eq_true rfl) (Nat.le_of_ble_eq_true rfl) (Or.inr ⟨_, w, hx, rfl, rfl⟩) dL_nozzle_20
  obtain ⟨r, rfl⟩ := hV v w hq2
  refine V.perm List.perm_append_comm ?_
  refine V.eqst (st2 := [.int r, .int 0, .ref ob]) rfl ?_
  refine V.i2l dL_nozzle_8 ?_
  refine V.last (f := ff) (ws2 := (OB g ob (vp_updL ff 0 (Int32.toInt64 r))) ++ w) 0 0 rfl rfl (by decide) (by decide) rfl dL_nozzle_9 ?_
  refine V.goto (tgt := 21) dL_nozzle_10 (by decide) ?_
  refine V.iconst (v := 0) dL_nozzle_21 (by decide) ?_
  exact V.iret hq XMh.r (Nat.le_of_ble_eq_true rfl) (Nat.le_of_ble_eq_true rfl) (Or.inl ⟨r, w, hq2, rfl, rfl⟩) dL_nozzle_22
abbrev rmL_trust : Room := { frames := 8, cells := 2, slots := 12, locals := 125 }
set_option maxHeartbeats 4000000 in
set_option maxRecDepth 100000 in
theorem kL_trust (g : GT) (W0 : va_W) (o ob : Nat) (q0 : Int32) (q1 : Int32) (ff : Nat → Int64) {Q : Option Value → va_W → Prop} {XX : String → va_W → Prop} {fs : List Value} (he : W0[0]? = some (o, .inr (5, fs))) (hM : UX g yX5_trust wsX5_trust rmX5_trust [.ref o, .int q0, .int q1] W0 Q XX) (hV : ∀ v w, Q v w → ∃ r : Int32, v = some (.int r)) (hQ : ∀ v w, Q v w → FST W0 w) (hX : ∀ E w, XX E w → FST W0 w) (hE : ∀ E w, XX E w → E = IOB) : UC g yL_trust wsL_trust rmL_trust [.ref o, .int q0, .int q1, .ref ob] (OB g ob ff ++ W0) (LQ g ob ff Q XX (cd2 IOB IOB)) := by
  refine UX.toUC ?_
  refine UX.ofVH (cc := cL_trust) (maxL := 5) (ret := some .int) (hh := [(0, 10, 13, 24)]) (lv0 := [(0, .ref o), (1, .int q0), (2, .int q1), (3, .ref ob)]) (by decide) rfl (Nat.le_of_ble_eq_true rfl) rfl ?_
  have hq : QFok g rmL_trust (LQ g ob ff Q XX (cd2 IOB IOB)) (QFx g rmL_trust (LQ g ob ff Q XX (cd2 IOB IOB)) (fun _ _ => False)) := QFx.q
  refine V.aload_n 3 rfl dL_trust_0 rfl ?_
  refine V.iconst (v := 0) dL_trust_1 (by decide) ?_
  refine V.aload_n 0 rfl dL_trust_2 rfl ?_
  refine V.iload_n 1 rfl dL_trust_3 rfl ?_
  refine V.iload_n 2 rfl dL_trust_4 rfl ?_
  refine V.perm List.perm_append_comm ?_
  refine V.callVC (F := OB g ob ff) [.int q0, .int q1] [.int 0, .ref ob] hM gL_trust_X5_trust rfl (by show _ ∧ _ ∧ _ ∧ _ = some (2 : Nat); decide +kernel) ⟨(Nat.le_of_ble_eq_true rfl), (Nat.le_of_ble_eq_true rfl)⟩ (hc := (rfl : vwCl[5]? = some (RX5, TX5, 5))) 0 he rfl rfl (Nat.le_of_ble_eq_true rfl) ⟨(Nat.le_of_ble_eq_true rfl), (Nat.le_of_ble_eq_true rfl)⟩ dL_trust_5 hQ hX (fun E w hx => ?_) (fun v w hq2 => ?_)
  · rcases hE E w hx with rfl
    · refine ⟨13, ⟨[], (0, 10, 13, 24), [], rfl, (fun z hz => absurd hz List.not_mem_nil), by decide, by decide, (List.mem_of_getElem? (i := 1) rfl), by decide, rfl⟩, fun q => ?_⟩
      refine V.astore (lv2 := [(4, .ref q), (0, .ref o), (1, .int q0), (2, .int q1), (3, .ref ob)]) dL_trust_13 (by decide) rfl ?_
      refine V.iconst (v := 1) dL_trust_15 (by decide) ?_
      refine V.perm List.perm_append_comm ?_
      exact V.iret hq XMh.r (Nat.le_of_ble_eq_true rfl) (Nat.le_of_ble_eq_true rfl) (Or.inr ⟨_, w, hx, rfl, rfl⟩) dL_trust_16
  obtain ⟨r, rfl⟩ := hV v w hq2
  refine V.perm List.perm_append_comm ?_
  refine V.eqst (st2 := [.int r, .int 0, .ref ob]) rfl ?_
  refine V.i2l dL_trust_8 ?_
  refine V.last (f := ff) (ws2 := (OB g ob (vp_updL ff 0 (Int32.toInt64 r))) ++ w) 0 0 rfl rfl (by decide) (by decide) rfl dL_trust_9 ?_
  refine V.goto (tgt := 17) dL_trust_10 (by decide) ?_
  refine V.iconst (v := 0) dL_trust_17 (by decide) ?_
  exact V.iret hq XMh.r (Nat.le_of_ble_eq_true rfl) (Nat.le_of_ble_eq_true rfl) (Or.inl ⟨r, w, hq2, rfl, rfl⟩) dL_trust_18
abbrev rmL_count : Room := { frames := 7, cells := 1, slots := 6, locals := 103 }
set_option maxHeartbeats 4000000 in
set_option maxRecDepth 100000 in
theorem kL_count (g : GT) (W0 : va_W) (o ob : Nat) (q0 : Int32) (ff : Nat → Int64) {Q : Option Value → va_W → Prop} {XX : String → va_W → Prop} {fs : List Value} (he : W0[0]? = some (o, .inr (5, fs))) (hM : UX g yX5_count wsX5_count rmX5_count [.ref o, .int q0] W0 Q XX) (hV : ∀ v w, Q v w → ∃ r : Int32, v = some (.int r)) (hQ : ∀ v w, Q v w → FST W0 w) (hX : ∀ E w, XX E w → FST W0 w) (hE : ∀ E w, XX E w → E = IAE) : UC g yL_count wsL_count rmL_count [.ref o, .int q0, .ref ob] (OB g ob ff ++ W0) (LQ g ob ff Q XX (cd2 IAE IAE)) := by
  refine UX.toUC ?_
  refine UX.ofVH (cc := cL_count) (maxL := 4) (ret := some .int) (hh := [(0, 9, 12, 13)]) (lv0 := [(0, .ref o), (1, .int q0), (2, .ref ob)]) (by decide) rfl (Nat.le_of_ble_eq_true rfl) rfl ?_
  have hq : QFok g rmL_count (LQ g ob ff Q XX (cd2 IAE IAE)) (QFx g rmL_count (LQ g ob ff Q XX (cd2 IAE IAE)) (fun _ _ => False)) := QFx.q
  refine V.aload_n 2 rfl dL_count_0 rfl ?_
  refine V.iconst (v := 0) dL_count_1 (by decide) ?_
  refine V.aload_n 0 rfl dL_count_2 rfl ?_
  refine V.iload_n 1 rfl dL_count_3 rfl ?_
  refine V.perm List.perm_append_comm ?_
  refine V.callVC (F := OB g ob ff) [.int q0] [.int 0, .ref ob] hM gL_count_X5_count rfl (by show _ ∧ _ ∧ _ ∧ _ = some (1 : Nat); decide +kernel) ⟨(Nat.le_of_ble_eq_true rfl), (Nat.le_of_ble_eq_true rfl)⟩ (hc := (rfl : vwCl[5]? = some (RX5, TX5, 5))) 0 he rfl rfl (Nat.le_of_ble_eq_true rfl) ⟨(Nat.le_of_ble_eq_true rfl), (Nat.le_of_ble_eq_true rfl)⟩ dL_count_4 hQ hX (fun E w hx => ?_) (fun v w hq2 => ?_)
  · rcases hE E w hx with rfl
    · refine ⟨12, ⟨[], (0, 9, 12, 13), [], rfl, (fun z hz => absurd hz List.not_mem_nil), by decide, by decide, (List.mem_of_getElem? (i := 1) rfl), by decide, rfl⟩, fun q => ?_⟩
      refine V.astore_n (lv2 := [(3, .ref q), (0, .ref o), (1, .int q0), (2, .ref ob)]) dL_count_12 rfl (by decide) rfl ?_
      refine V.iconst (v := 1) dL_count_13 (by decide) ?_
      refine V.perm List.perm_append_comm ?_
      exact V.iret hq XMh.r (Nat.le_of_ble_eq_true rfl) (Nat.le_of_ble_eq_true rfl) (Or.inr ⟨_, w, hx, rfl, rfl⟩) dL_count_14
  obtain ⟨r, rfl⟩ := hV v w hq2
  refine V.perm List.perm_append_comm ?_
  refine V.eqst (st2 := [.int r, .int 0, .ref ob]) rfl ?_
  refine V.i2l dL_count_7 ?_
  refine V.last (f := ff) (ws2 := (OB g ob (vp_updL ff 0 (Int32.toInt64 r))) ++ w) 0 0 rfl rfl (by decide) (by decide) rfl dL_count_8 ?_
  refine V.goto (tgt := 15) dL_count_9 (by decide) ?_
  refine V.iconst (v := 0) dL_count_15 (by decide) ?_
  exact V.iret hq XMh.r (Nat.le_of_ble_eq_true rfl) (Nat.le_of_ble_eq_true rfl) (Or.inl ⟨r, w, hq2, rfl, rfl⟩) dL_count_16
abbrev rmL_setting : Room := { frames := 8, cells := 1, slots := 6, locals := 123 }
set_option maxHeartbeats 4000000 in
set_option maxRecDepth 100000 in
theorem kL_setting (g : GT) (W0 : va_W) (o ob : Nat) (q0 : Int32) (ff : Nat → Int64) {Q : Option Value → va_W → Prop} {XX : String → va_W → Prop} {fs : List Value} (he : W0[0]? = some (o, .inr (5, fs))) (hM : UX g yX5_setting wsX5_setting rmX5_setting [.ref o, .int q0] W0 Q XX) (hV : ∀ v w, Q v w → ∃ r : Int32, v = some (.int r)) (hQ : ∀ v w, Q v w → FST W0 w) (hX : ∀ E w, XX E w → FST W0 w) (hE : ∀ E w, XX E w → E = IOB) : UC g yL_setting wsL_setting rmL_setting [.ref o, .int q0, .ref ob] (OB g ob ff ++ W0) (LQ g ob ff Q XX (cd2 IOB IOB)) := by
  refine UX.toUC ?_
  refine UX.ofVH (cc := cL_setting) (maxL := 4) (ret := some .int) (hh := [(0, 9, 12, 24)]) (lv0 := [(0, .ref o), (1, .int q0), (2, .ref ob)]) (by decide) rfl (Nat.le_of_ble_eq_true rfl) rfl ?_
  have hq : QFok g rmL_setting (LQ g ob ff Q XX (cd2 IOB IOB)) (QFx g rmL_setting (LQ g ob ff Q XX (cd2 IOB IOB)) (fun _ _ => False)) := QFx.q
  refine V.aload_n 2 rfl dL_setting_0 rfl ?_
  refine V.iconst (v := 0) dL_setting_1 (by decide) ?_
  refine V.aload_n 0 rfl dL_setting_2 rfl ?_
  refine V.iload_n 1 rfl dL_setting_3 rfl ?_
  refine V.perm List.perm_append_comm ?_
  refine V.callVC (F := OB g ob ff) [.int q0] [.int 0, .ref ob] hM gL_setting_X5_setting rfl (by show _ ∧ _ ∧ _ ∧ _ = some (1 : Nat); decide +kernel) ⟨(Nat.le_of_ble_eq_true rfl), (Nat.le_of_ble_eq_true rfl)⟩ (hc := (rfl : vwCl[5]? = some (RX5, TX5, 5))) 0 he rfl rfl (Nat.le_of_ble_eq_true rfl) ⟨(Nat.le_of_ble_eq_true rfl), (Nat.le_of_ble_eq_true rfl)⟩ dL_setting_4 hQ hX (fun E w hx => ?_) (fun v w hq2 => ?_)
  · rcases hE E w hx with rfl
    · refine ⟨12, ⟨[], (0, 9, 12, 24), [], rfl, (fun z hz => absurd hz List.not_mem_nil), by decide, by decide, (List.mem_of_getElem? (i := 1) rfl), by decide, rfl⟩, fun q => ?_⟩
      refine V.astore_n (lv2 := [(3, .ref q), (0, .ref o), (1, .int q0), (2, .ref ob)]) dL_setting_12 rfl (by decide) rfl ?_
      refine V.iconst (v := 1) dL_setting_13 (by decide) ?_
      refine V.perm List.perm_append_comm ?_
      exact V.iret hq XMh.r (Nat.le_of_ble_eq_true rfl) (Nat.le_of_ble_eq_true rfl) (Or.inr ⟨_, w, hx, rfl, rfl⟩) dL_setting_14
  obtain ⟨r, rfl⟩ := hV v w hq2
  refine V.perm List.perm_append_comm ?_
  refine V.eqst (st2 := [.int r, .int 0, .ref ob]) rfl ?_
  refine V.i2l dL_setting_7 ?_
  refine V.last (f := ff) (ws2 := (OB g ob (vp_updL ff 0 (Int32.toInt64 r))) ++ w) 0 0 rfl rfl (by decide) (by decide) rfl dL_setting_8 ?_
  refine V.goto (tgt := 15) dL_setting_9 (by decide) ?_
  refine V.iconst (v := 0) dL_setting_15 (by decide) ?_
  exact V.iret hq XMh.r (Nat.le_of_ble_eq_true rfl) (Nat.le_of_ble_eq_true rfl) (Or.inl ⟨r, w, hq2, rfl, rfl⟩) dL_setting_16
abbrev rmL_ifToured : Room := { frames := 8, cells := 2, slots := 12, locals := 147 }
set_option maxHeartbeats 4000000 in
set_option maxRecDepth 100000 in
theorem kL_ifToured (g : GT) (W0 : va_W) (o ob : Nat) (q0 : Int32) (q1 : Int32) (ff : Nat → Int64) {Q : Option Value → va_W → Prop} {XX : String → va_W → Prop} {fs : List Value} (he : W0[0]? = some (o, .inr (5, fs))) (hM : UX g yX5_ifToured wsX5_ifToured rmX5_ifToured [.ref o, .int q0, .int q1] W0 Q XX) (hV : ∀ v w, Q v w → ∃ r : Int32, v = some (.int r)) (hQ : ∀ v w, Q v w → FST W0 w) (hX : ∀ E w, XX E w → FST W0 w) (hE : ∀ E w, XX E w → E = IAE) : UC g yL_ifToured wsL_ifToured rmL_ifToured [.ref o, .int q0, .int q1, .ref ob] (OB g ob ff ++ W0) (LQ g ob ff Q XX (cd2 IAE IAE)) := by
  refine UX.toUC ?_
  refine UX.ofVH (cc := cL_ifToured) (maxL := 5) (ret := some .int) (hh := [(0, 10, 13, 13)]) (lv0 := [(0, .ref o), (1, .int q0), (2, .int q1), (3, .ref ob)]) (by decide) rfl (Nat.le_of_ble_eq_true rfl) rfl ?_
  have hq : QFok g rmL_ifToured (LQ g ob ff Q XX (cd2 IAE IAE)) (QFx g rmL_ifToured (LQ g ob ff Q XX (cd2 IAE IAE)) (fun _ _ => False)) := QFx.q
  refine V.aload_n 3 rfl dL_ifToured_0 rfl ?_
  refine V.iconst (v := 0) dL_ifToured_1 (by decide) ?_
  refine V.aload_n 0 rfl dL_ifToured_2 rfl ?_
  refine V.iload_n 1 rfl dL_ifToured_3 rfl ?_
  refine V.iload_n 2 rfl dL_ifToured_4 rfl ?_
  refine V.perm List.perm_append_comm ?_
  refine V.callVC (F := OB g ob ff) [.int q0, .int q1] [.int 0, .ref ob] hM gL_ifToured_X5_ifToured rfl (by show _ ∧ _ ∧ _ ∧ _ = some (2 : Nat); decide +kernel) ⟨(Nat.le_of_ble_eq_true rfl), (Nat.le_of_ble_eq_true rfl)⟩ (hc := (rfl : vwCl[5]? = some (RX5, TX5, 5))) 0 he rfl rfl (Nat.le_of_ble_eq_true rfl) ⟨(Nat.le_of_ble_eq_true rfl), (Nat.le_of_ble_eq_true rfl)⟩ dL_ifToured_5 hQ hX (fun E w hx => ?_) (fun v w hq2 => ?_)
  · rcases hE E w hx with rfl
    · refine ⟨13, ⟨[], (0, 10, 13, 13), [], rfl, (fun z hz => absurd hz List.not_mem_nil), by decide, by decide, (List.mem_of_getElem? (i := 1) rfl), by decide, rfl⟩, fun q => ?_⟩
      refine V.astore (lv2 := [(4, .ref q), (0, .ref o), (1, .int q0), (2, .int q1), (3, .ref ob)]) dL_ifToured_13 (by decide) rfl ?_
      refine V.iconst (v := 1) dL_ifToured_15 (by decide) ?_
      refine V.perm List.perm_append_comm ?_
      exact V.iret hq XMh.r (Nat.le_of_ble_eq_true rfl) (Nat.le_of_ble_eq_true rfl) (Or.inr ⟨_, w, hx, rfl, rfl⟩) dL_ifToured_16
  obtain ⟨r, rfl⟩ := hV v w hq2
  refine V.perm List.perm_append_comm ?_
  refine V.eqst (st2 := [.int r, .int 0, .ref ob]) rfl ?_
  refine V.i2l dL_ifToured_8 ?_
  refine V.last (f := ff) (ws2 := (OB g ob (vp_updL ff 0 (Int32.toInt64 r))) ++ w) 0 0 rfl rfl (by decide) (by decide) rfl dL_ifToured_9 ?_
  refine V.goto (tgt := 17) dL_ifToured_10 (by decide) ?_
  refine V.iconst (v := 0) dL_ifToured_17 (by decide) ?_
  exact V.iret hq XMh.r (Nat.le_of_ble_eq_true rfl) (Nat.le_of_ble_eq_true rfl) (Or.inl ⟨r, w, hq2, rfl, rfl⟩) dL_ifToured_18
abbrev rmL_choice : Room := { frames := 8, cells := 2, slots := 12, locals := 126 }
set_option maxHeartbeats 4000000 in
set_option maxRecDepth 100000 in
theorem kL_choice (g : GT) (W0 : va_W) (o ob : Nat) (q0 : Int32) (q1 : Int32) (ff : Nat → Int64) {Q : Option Value → va_W → Prop} {XX : String → va_W → Prop} {fs : List Value} (he : W0[0]? = some (o, .inr (5, fs))) (hM : UX g yX5_choice wsX5_choice rmX5_choice [.ref o, .int q0, .int q1] W0 Q XX) (hV : ∀ v w, Q v w → ∃ r : Int32, v = some (.int r)) (hQ : ∀ v w, Q v w → FST W0 w) (hX : ∀ E w, XX E w → FST W0 w) (hE : ∀ E w, XX E w → E = IOB ∨ E = IAE) : UC g yL_choice wsL_choice rmL_choice [.ref o, .int q0, .int q1, .ref ob] (OB g ob ff ++ W0) (LQ g ob ff Q XX (cd2 IOB IAE)) := by
  refine UX.toUC ?_
  refine UX.ofVH (cc := cL_choice) (maxL := 5) (ret := some .int) (hh := [(0, 10, 13, 24), (0, 10, 17, 13)]) (lv0 := [(0, .ref o), (1, .int q0), (2, .int q1), (3, .ref ob)]) (by decide) rfl (Nat.le_of_ble_eq_true rfl) rfl ?_
  have hq : QFok g rmL_choice (LQ g ob ff Q XX (cd2 IOB IAE)) (QFx g rmL_choice (LQ g ob ff Q XX (cd2 IOB IAE)) (fun _ _ => False)) := QFx.q
  refine V.aload_n 3 rfl dL_choice_0 rfl ?_
  refine V.iconst (v := 0) dL_choice_1 (by decide) ?_
  refine V.aload_n 0 rfl dL_choice_2 rfl ?_
  refine V.iload_n 1 rfl dL_choice_3 rfl ?_
  refine V.iload_n 2 rfl dL_choice_4 rfl ?_
  refine V.perm List.perm_append_comm ?_
  refine V.callVC (F := OB g ob ff) [.int q0, .int q1] [.int 0, .ref ob] hM gL_choice_X5_choice rfl (by show _ ∧ _ ∧ _ ∧ _ = some (2 : Nat); decide +kernel) ⟨(Nat.le_of_ble_eq_true rfl), (Nat.le_of_ble_eq_true rfl)⟩ (hc := (rfl : vwCl[5]? = some (RX5, TX5, 5))) 0 he rfl rfl (Nat.le_of_ble_eq_true rfl) ⟨(Nat.le_of_ble_eq_true rfl), (Nat.le_of_ble_eq_true rfl)⟩ dL_choice_5 hQ hX (fun E w hx => ?_) (fun v w hq2 => ?_)
  · rcases hE E w hx with rfl | rfl
    · refine ⟨13, ⟨[], (0, 10, 13, 24), [(0, 10, 17, 13)], rfl, (fun z hz => absurd hz List.not_mem_nil), by decide, by decide, (List.mem_of_getElem? (i := 1) rfl), by decide, rfl⟩, fun q => ?_⟩
      refine V.astore (lv2 := [(4, .ref q), (0, .ref o), (1, .int q0), (2, .int q1), (3, .ref ob)]) dL_choice_13 (by decide) rfl ?_
      refine V.iconst (v := 1) dL_choice_15 (by decide) ?_
      refine V.perm List.perm_append_comm ?_
      exact V.iret hq XMh.r (Nat.le_of_ble_eq_true rfl) (Nat.le_of_ble_eq_true rfl) (Or.inr ⟨_, w, hx, rfl, rfl⟩) dL_choice_16
    · refine ⟨17, ⟨[(0, 10, 13, 24)], (0, 10, 17, 13), [], rfl, (by intro z hz; rw [List.mem_singleton.mp hz]; exact ⟨by decide, "java/lang/IndexOutOfBoundsException", (List.mem_of_getElem? (i := 1) rfl), by decide⟩), by decide, by decide, (List.mem_of_getElem? (i := 2) rfl), by decide, rfl⟩, fun q => ?_⟩
      refine V.astore (lv2 := [(4, .ref q), (0, .ref o), (1, .int q0), (2, .int q1), (3, .ref ob)]) dL_choice_17 (by decide) rfl ?_
      refine V.iconst (v := 2) dL_choice_19 (by decide) ?_
      refine V.perm List.perm_append_comm ?_
      exact V.iret hq XMh.r (Nat.le_of_ble_eq_true rfl) (Nat.le_of_ble_eq_true rfl) (Or.inr ⟨_, w, hx, rfl, rfl⟩) dL_choice_20
  obtain ⟨r, rfl⟩ := hV v w hq2
  refine V.perm List.perm_append_comm ?_
  refine V.eqst (st2 := [.int r, .int 0, .ref ob]) rfl ?_
  refine V.i2l dL_choice_8 ?_
  refine V.last (f := ff) (ws2 := (OB g ob (vp_updL ff 0 (Int32.toInt64 r))) ++ w) 0 0 rfl rfl (by decide) (by decide) rfl dL_choice_9 ?_
  refine V.goto (tgt := 21) dL_choice_10 (by decide) ?_
  refine V.iconst (v := 0) dL_choice_21 (by decide) ?_
  exact V.iret hq XMh.r (Nat.le_of_ble_eq_true rfl) (Nat.le_of_ble_eq_true rfl) (Or.inl ⟨r, w, hq2, rfl, rfl⟩) dL_choice_22
abbrev rmL_aim : Room := { frames := 8, cells := 1, slots := 6, locals := 123 }
set_option maxHeartbeats 4000000 in
set_option maxRecDepth 100000 in
theorem kL_aim (g : GT) (W0 : va_W) (o ob : Nat) (q0 : Int32) (ff : Nat → Int64) {Q : Option Value → va_W → Prop} {XX : String → va_W → Prop} {fs : List Value} (he : W0[0]? = some (o, .inr (5, fs))) (hM : UX g yX5_aim wsX5_aim rmX5_aim [.ref o, .int q0] W0 Q XX) (hV : ∀ v w, Q v w → ∃ r : Int32, v = some (.int r)) (hQ : ∀ v w, Q v w → FST W0 w) (hX : ∀ E w, XX E w → FST W0 w) (hE : ∀ E w, XX E w → E = IOB) : UC g yL_aim wsL_aim rmL_aim [.ref o, .int q0, .ref ob] (OB g ob ff ++ W0) (LQ g ob ff Q XX (cd2 IOB IOB)) := by
  refine UX.toUC ?_
  refine UX.ofVH (cc := cL_aim) (maxL := 4) (ret := some .int) (hh := [(0, 9, 12, 24)]) (lv0 := [(0, .ref o), (1, .int q0), (2, .ref ob)]) (by decide) rfl (Nat.le_of_ble_eq_true rfl) rfl ?_
  have hq : QFok g rmL_aim (LQ g ob ff Q XX (cd2 IOB IOB)) (QFx g rmL_aim (LQ g ob ff Q XX (cd2 IOB IOB)) (fun _ _ => False)) := QFx.q
  refine V.aload_n 2 rfl dL_aim_0 rfl ?_
  refine V.iconst (v := 0) dL_aim_1 (by decide) ?_
  refine V.aload_n 0 rfl dL_aim_2 rfl ?_
  refine V.iload_n 1 rfl dL_aim_3 rfl ?_
  refine V.perm List.perm_append_comm ?_
  refine V.callVC (F := OB g ob ff) [.int q0] [.int 0, .ref ob] hM gL_aim_X5_aim rfl (by show _ ∧ _ ∧ _ ∧ _ = some (1 : Nat); decide +kernel) ⟨(Nat.le_of_ble_eq_true rfl), (Nat.le_of_ble_eq_true rfl)⟩ (hc := (rfl : vwCl[5]? = some (RX5, TX5, 5))) 0 he rfl rfl (Nat.le_of_ble_eq_true rfl) ⟨(Nat.le_of_ble_eq_true rfl), (Nat.le_of_ble_eq_true rfl)⟩ dL_aim_4 hQ hX (fun E w hx => ?_) (fun v w hq2 => ?_)
  · rcases hE E w hx with rfl
    · refine ⟨12, ⟨[], (0, 9, 12, 24), [], rfl, (fun z hz => absurd hz List.not_mem_nil), by decide, by decide, (List.mem_of_getElem? (i := 1) rfl), by decide, rfl⟩, fun q => ?_⟩
      refine V.astore_n (lv2 := [(3, .ref q), (0, .ref o), (1, .int q0), (2, .ref ob)]) dL_aim_12 rfl (by decide) rfl ?_
      refine V.iconst (v := 1) dL_aim_13 (by decide) ?_
      refine V.perm List.perm_append_comm ?_
      exact V.iret hq XMh.r (Nat.le_of_ble_eq_true rfl) (Nat.le_of_ble_eq_true rfl) (Or.inr ⟨_, w, hx, rfl, rfl⟩) dL_aim_14
  obtain ⟨r, rfl⟩ := hV v w hq2
  refine V.perm List.perm_append_comm ?_
  refine V.eqst (st2 := [.int r, .int 0, .ref ob]) rfl ?_
  refine V.i2l dL_aim_7 ?_
  refine V.last (f := ff) (ws2 := (OB g ob (vp_updL ff 0 (Int32.toInt64 r))) ++ w) 0 0 rfl rfl (by decide) (by decide) rfl dL_aim_8 ?_
  refine V.goto (tgt := 15) dL_aim_9 (by decide) ?_
  refine V.iconst (v := 0) dL_aim_15 (by decide) ?_
  exact V.iret hq XMh.r (Nat.le_of_ble_eq_true rfl) (Nat.le_of_ble_eq_true rfl) (Or.inl ⟨r, w, hq2, rfl, rfl⟩) dL_aim_16
