/-! the digest, raw -/
theorem dv9 : ∀ i, i < 72 → nI i / 9 = nI (i / 9) := by decide +kernel
theorem rm9 : ∀ i, i < 72 → nI i - nI i / 9 * 9 = nI (i % 9) := by decide +kernel
abbrev DS : Type := Int64 × (Nat → Int32) × (Nat → Int32) × (Nat → Int32) × (Nat → Int32)
noncomputable def dgEF (z : Nat → Int32) (n : Nat) (s : Int64 × (Nat → Int32)) : Int64 × (Nat → Int32) := (mnZ z n (lA z s.2 n) s.1, lA z s.2)
noncomputable def dgE (z : Nat → Int32) (sn : Nat) (ai : Nat → Int32) : Int64 × (Nat → Int32) := fu (dgEF z) 0 4 (dgD z (dgC z (dgB z (dgA z sn))), ai)
noncomputable def dgFF (z : Nat → Int32) (k : Nat) (s : DS) : DS := (mx s.1 (tdV (z, s.2.1, s.2.2.1, s.2.2.2.1) 3 k).toInt64, (rTs 3 ((z, s.2.1, s.2.2.1, s.2.2.2.1), 0)).1.2.1, (rTs 3 ((z, s.2.1, s.2.2.1, s.2.2.2.1), 0)).1.2.2.1, (rTs 3 ((z, s.2.1, s.2.2.1, s.2.2.2.1), 0)).1.2.2.2, fu (cpF z) 0 248 s.2.2.2.2)
noncomputable def dgF (z : Nat → Int32) (sn : Nat) (ai pa tu ke : Nat → Int32) : DS := fu (dgFF z) 0 4 ((dgE z sn ai).1, (dgE z sn ai).2, pa, tu, ke)
noncomputable def dgGG (z : Nat → Int32) (s : DS) : DS := (mx s.1 (en (ndA (z, s.2.1, s.2.2.1, s.2.2.2.1)).1).toInt64, (ndA (z, s.2.1, s.2.2.1, s.2.2.2.1)).2.2.1, (ndA (z, s.2.1, s.2.2.1, s.2.2.2.1)).2.2.2.1, (ndA (z, s.2.1, s.2.2.1, s.2.2.2.1)).2.2.2.2, fu (cpF z) 0 248 s.2.2.2.2)
noncomputable def dgG (z : Nat → Int32) (sn : Nat) (ai pa tu ke : Nat → Int32) : DS := dgGG z (dgF z sn ai pa tu ke)
noncomputable def dgH (z : Nat → Int32) (h : Int64) : Int64 := mx (mx h (en (rmd z)).toInt64) (shr z).toInt64
noncomputable def dgI (tx : Nat → Int32) (ln : Nat) (h : Int64) : Int64 := fu (fun k h => mx h (tx k).toInt64) 0 ln (mx h (nI ln).toInt64)
/-! what a digest asks of the JDK -/
abbrev rmDN : Room := { frames := 0, cells := 0, slots := 0, locals := 0 }
theorem kDN (g : GT) (x : UInt64) (hx : Op.cmpValue (FP.dcmp x x) .l = 0) : UC g yJxe99ae_isNaN_b9ae7 wsJxe99ae_isNaN_b9ae7 rmDN [.double x] [] (Qf (some (.int 0)) []) := by
  refine UC.ofV (cc := cJxe99ae_isNaN_b9ae7) (maxL := 2) (ret := some .boolean) (lv0 := [(0, .double x)]) (by decide) rfl (Nat.le_of_ble_eq_true rfl) rfl ?_
  generalize hQF : QFr g rmDN (Qf (some (.int 0)) []) = QF
  have hq : QFok g rmDN (Qf (some (.int 0)) []) QF := hQF ▸ QFr.q
  refine V.dload_n 0 rfl dJxe99ae_isNaN_b9ae7_0 rfl ?_
  refine V.dload_n 0 rfl dJxe99ae_isNaN_b9ae7_1 rfl ?_
  refine V.dcmp dJxe99ae_isNaN_b9ae7_2 ?_
  refine V.if_eq_t (tgt := 10) hx dJxe99ae_isNaN_b9ae7_3 (by decide) ?_
  refine V.iconst (v := 0) dJxe99ae_isNaN_b9ae7_10 (by decide) ?_
  exact V.zret hq XM.r rfl (Nat.le_of_ble_eq_true rfl) (Nat.le_of_ble_eq_true rfl) ⟨rfl, rfl⟩ dJxe99ae_isNaN_b9ae7_11
abbrev rmDL : Room := { frames := 1, cells := 0, slots := 0, locals := 40 }
theorem kDL (g : GT) (x : UInt64) (hx : Op.cmpValue (FP.dcmp x x) .l = 0) : UC g yJxe99ae_doubleToLongBits_ccdee wsJxe99ae_doubleToLongBits_ccdee rmDL [.double x] [] (Qf (some (.long x.toInt64)) []) := by
  refine UC.ofV (cc := cJxe99ae_doubleToLongBits_ccdee) (maxL := 2) (ret := some .long) (lv0 := [(0, .double x)]) (by decide) rfl (Nat.le_of_ble_eq_true rfl) rfl ?_
  generalize hQF : QFr g rmDL (Qf (some (.long x.toInt64)) []) = QF
  have hq : QFok g rmDL (Qf (some (.long x.toInt64)) []) QF := hQF ▸ QFr.q
  refine V.dload_n 0 rfl dJxe99ae_doubleToLongBits_ccdee_0 rfl ?_
  refine V.callSf (ws2 := []) (st2 := [.int 0]) [.double x] [] (kDN g x hx) gJxe99ae_doubleToLongBits_ccdee_Jxe99ae_isNaN_b9ae7 rfl (by show _ ∧ _ ∧ _ = some (1 : Nat); decide +kernel) ⟨Nat.le_of_ble_eq_true rfl, Nat.le_of_ble_eq_true rfl⟩ [] (by decide) rfl rfl (Nat.le_of_ble_eq_true rfl) ⟨Nat.le_of_ble_eq_true rfl, Nat.le_of_ble_eq_true rfl⟩ dJxe99ae_doubleToLongBits_ccdee_1 rfl (List.append_nil _) rfl rfl rfl ?_
  refine V.if_ne_f (tgt := 12) (by decide) dJxe99ae_doubleToLongBits_ccdee_4 (by decide) ?_
  refine V.dload_n 0 rfl dJxe99ae_doubleToLongBits_ccdee_7 rfl ?_
  refine V.rawBits (by decide +kernel) (by decide +kernel) (by decide +kernel) (by decide +kernel) (Nat.le_of_ble_eq_true rfl) (Nat.le_of_ble_eq_true rfl) dJxe99ae_doubleToLongBits_ccdee_8 ?_
  exact V.lret hq XM.r (Nat.le_of_ble_eq_true rfl) (Nat.le_of_ble_eq_true rfl) ⟨rfl, rfl⟩ dJxe99ae_doubleToLongBits_ccdee_11
