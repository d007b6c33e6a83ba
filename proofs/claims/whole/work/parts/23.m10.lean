/-! the class: a table -/
def TW (g : GT) (t c C L : Nat) (f : Nat → Int32) : va_W := [(t, .inr (3, [.ref c, .int (nI C)])), (c, .inl (g.2.2 0, L, .inl f))]
theorem TWf {g : GT} {t c C L : Nat} {f f' : Nat → Int32} : ((TW g t c C L f).take [0, 1].length).map Prod.fst = (TW g t c C L f').map Prod.fst := rfl
abbrev rmX3_at : Room := { frames := 0, cells := 0, slots := 0, locals := 0 }
set_option maxHeartbeats 4000000 in
set_option maxRecDepth 100000 in
theorem kX3_at (g : GT) (t : Nat) (c : Nat) (C : Nat) (L : Nat) (f : Nat → Int32) (r : Nat) (k : Nat) (hL : L < 2147483648) (hC : C < 2147483648) (hk : k < C) (hr : r * C + k < L) : UC g yX3_at wsX3_at rmX3_at [.ref t, .int (nI r), .int (nI k)] (TW g t c C L f) (Qf (some (.int (f (r * C + k)))) (TW g t c C L f)) := by
  refine UC.ofV (cc := cX3_at) (maxL := 5) (ret := some .int) (lv0 := [(0, .ref t), (1, .int (nI r)), (2, .int (nI k))]) (by decide) rfl (Nat.le_of_ble_eq_true rfl) rfl ?_
  generalize hQF : QFr g rmX3_at (Qf (some (.int (f (r * C + k)))) (TW g t c C L f)) = QF
  have hq : QFok g rmX3_at (Qf (some (.int (f (r * C + k)))) (TW g t c C L f)) QF := hQF ▸ QFr.q
  refine V.iload_n 1 rfl dX3_at_0 rfl ?_
  refine V.aload_n 0 rfl dX3_at_1 rfl ?_
  refine V.get (v := .int (nI C)) (fun w H => List.mem_cons_of_mem _ (List.mem_append_right _ H)) (hc := (rfl : vwCl[3]? = some (RX3, TX3, 2))) 0 1 (by decide) (List.mem_of_getElem? (i := 1) rfl) rfl rfl dX3_at_2 ?_
  refine V.imulN (v := nI (r * C)) dX3_at_5 (pk_mul r C) ?_
  refine V.iload_n 2 rfl dX3_at_6 rfl ?_
  refine V.iaddN (v := nI (r * C + k)) dX3_at_7 (nI_add (r * C) k) ?_
  refine V.istore_n (lv2 := [(3, .int (nI (r * C + k))), (0, .ref t), (1, .int (nI r)), (2, .int (nI k))]) dX3_at_8 rfl (by decide) rfl ?_
  refine V.iload_n 3 rfl dX3_at_9 rfl ?_
  refine V.if_lt_f (tgt := 38) (by exact nI_nlt (a := k) (b := 0) (by omega) (by omega)) dX3_at_10 (by decide) ?_
  refine V.iload_n 3 rfl dX3_at_13 rfl ?_
  refine V.aload_n 1 rfl dX3_at_14 rfl ?_
  refine V.get (v := .int (nI C)) (fun w H => List.mem_cons_of_mem _ (List.mem_append_right _ H)) (hc := (rfl : vwCl[3]? = some (RX3, TX3, 2))) 0 1 (by decide) (List.mem_of_getElem? (i := 1) rfl) rfl rfl dX3_at_15 ?_
  refine V.icmp_ge_f (tgt := 38) (by exact nI_ge (a := k) (b := C) (by omega) (by omega)) dX3_at_18 (by decide) ?_
  refine V.iload_n 0 rfl dX3_at_21 rfl ?_
  refine V.if_lt_f (tgt := 38) (by exact nI_nlt (a := r * C + k) (b := 0) (by omega) (by omega)) dX3_at_22 (by decide) ?_
  refine V.iload_n 0 rfl dX3_at_25 rfl ?_
  refine V.aload_n 1 rfl dX3_at_26 rfl ?_
  refine V.get (v := .ref c) (fun w H => List.mem_cons_of_mem _ (List.mem_append_right _ H)) (hc := (rfl : vwCl[3]? = some (RX3, TX3, 2))) 0 0 (by decide) (List.mem_of_getElem? (i := 2) rfl) rfl rfl dX3_at_27 ?_
  refine V.alen (t := 0) (v := nI L) 1 rfl rfl rfl dX3_at_30 ?_
  refine V.icmp_ge_f (tgt := 38) (by exact nI_ge (a := r * C + k) (b := L) (by omega) (by omega)) dX3_at_31 (by decide) ?_
  refine V.iconst (v := 1) dX3_at_34 (by decide) ?_
  refine V.goto (tgt := 39) dX3_at_35 (by decide) ?_
  refine V.istore (lv2 := [(4, .int 1), (3, .int (nI (r * C + k))), (0, .ref t), (1, .int (nI r)), (2, .int (nI k))]) dX3_at_39 (by decide) rfl ?_
  refine V.iload 0 rfl dX3_at_41 ?_
  refine V.if_eq_f (tgt := 55) (by decide) dX3_at_43 (by decide) ?_
  refine V.aload_n 2 rfl dX3_at_46 rfl ?_
  refine V.get (v := .ref c) (fun w H => List.mem_cons_of_mem _ (List.mem_append_right _ H)) (hc := (rfl : vwCl[3]? = some (RX3, TX3, 2))) 0 0 (by decide) (List.mem_of_getElem? (i := 2) rfl) rfl rfl dX3_at_47 ?_
  refine V.iload_n 1 rfl dX3_at_50 rfl ?_
  refine V.iald (f := f) 1 (r * C + k) rfl rfl (by omega) (by omega) dX3_at_51 ?_
  refine V.goto (tgt := 56) dX3_at_52 (by decide) ?_
  exact V.iret hq XM.r (Nat.le_of_ble_eq_true rfl) (Nat.le_of_ble_eq_true rfl) ⟨rfl, rfl⟩ dX3_at_56
abbrev rmX3_put : Room := { frames := 0, cells := 0, slots := 0, locals := 0 }
set_option maxHeartbeats 4000000 in
set_option maxRecDepth 100000 in
theorem kX3_put (g : GT) (t : Nat) (c : Nat) (C : Nat) (L : Nat) (f : Nat → Int32) (r : Nat) (k : Nat) (v : Int32) (hL : L < 2147483648) (hC : C < 2147483648) (hk : k < C) (hr : r * C + k < L) : UC g yX3_put wsX3_put rmX3_put [.ref t, .int (nI r), .int (nI k), .int v] (TW g t c C L f) (Qf (none) (TW g t c C L (upd f (r * C + k) v))) := by
  refine UC.ofV (cc := cX3_put) (maxL := 6) (ret := none) (lv0 := [(0, .ref t), (1, .int (nI r)), (2, .int (nI k)), (3, .int v)]) (by decide) rfl (Nat.le_of_ble_eq_true rfl) rfl ?_
  generalize hQF : QFr g rmX3_put (Qf (none) (TW g t c C L (upd f (r * C + k) v))) = QF
  have hq : QFok g rmX3_put (Qf (none) (TW g t c C L (upd f (r * C + k) v))) QF := hQF ▸ QFr.q
  refine V.iload_n 1 rfl dX3_put_0 rfl ?_
  refine V.aload_n 0 rfl dX3_put_1 rfl ?_
  refine V.get (v := .int (nI C)) (fun w H => List.mem_cons_of_mem _ (List.mem_append_right _ H)) (hc := (rfl : vwCl[3]? = some (RX3, TX3, 2))) 0 1 (by decide) (List.mem_of_getElem? (i := 1) rfl) rfl rfl dX3_put_2 ?_
  refine V.imulN (v := nI (r * C)) dX3_put_5 (pk_mul r C) ?_
  refine V.iload_n 2 rfl dX3_put_6 rfl ?_
  refine V.iaddN (v := nI (r * C + k)) dX3_put_7 (nI_add (r * C) k) ?_
  refine V.istore (lv2 := [(4, .int (nI (r * C + k))), (0, .ref t), (1, .int (nI r)), (2, .int (nI k)), (3, .int v)]) dX3_put_8 (by decide) rfl ?_
  refine V.iload_n 3 rfl dX3_put_10 rfl ?_
  refine V.if_lt_f (tgt := 41) (by exact nI_nlt (a := k) (b := 0) (by omega) (by omega)) dX3_put_11 (by decide) ?_
  refine V.iload_n 3 rfl dX3_put_14 rfl ?_
  refine V.aload_n 1 rfl dX3_put_15 rfl ?_
  refine V.get (v := .int (nI C)) (fun w H => List.mem_cons_of_mem _ (List.mem_append_right _ H)) (hc := (rfl : vwCl[3]? = some (RX3, TX3, 2))) 0 1 (by decide) (List.mem_of_getElem? (i := 1) rfl) rfl rfl dX3_put_16 ?_
  refine V.icmp_ge_f (tgt := 41) (by exact nI_ge (a := k) (b := C) (by omega) (by omega)) dX3_put_19 (by decide) ?_
  refine V.iload 0 rfl dX3_put_22 ?_
  refine V.if_lt_f (tgt := 41) (by exact nI_nlt (a := r * C + k) (b := 0) (by omega) (by omega)) dX3_put_24 (by decide) ?_
  refine V.iload 0 rfl dX3_put_27 ?_
  refine V.aload_n 1 rfl dX3_put_29 rfl ?_
  refine V.get (v := .ref c) (fun w H => List.mem_cons_of_mem _ (List.mem_append_right _ H)) (hc := (rfl : vwCl[3]? = some (RX3, TX3, 2))) 0 0 (by decide) (List.mem_of_getElem? (i := 2) rfl) rfl rfl dX3_put_30 ?_
  refine V.alen (t := 0) (v := nI L) 1 rfl rfl rfl dX3_put_33 ?_
  refine V.icmp_ge_f (tgt := 41) (by exact nI_ge (a := r * C + k) (b := L) (by omega) (by omega)) dX3_put_34 (by decide) ?_
  refine V.iconst (v := 1) dX3_put_37 (by decide) ?_
  refine V.goto (tgt := 42) dX3_put_38 (by decide) ?_
  refine V.istore (lv2 := [(5, .int 1), (4, .int (nI (r * C + k))), (0, .ref t), (1, .int (nI r)), (2, .int (nI k)), (3, .int v)]) dX3_put_42 (by decide) rfl ?_
  refine V.iload 0 rfl dX3_put_44 ?_
  refine V.if_eq_f (tgt := 57) (by decide) dX3_put_46 (by decide) ?_
  refine V.aload_n 2 rfl dX3_put_49 rfl ?_
  refine V.get (v := .ref c) (fun w H => List.mem_cons_of_mem _ (List.mem_append_right _ H)) (hc := (rfl : vwCl[3]? = some (RX3, TX3, 2))) 0 0 (by decide) (List.mem_of_getElem? (i := 2) rfl) rfl rfl dX3_put_50 ?_
  refine V.iload 1 rfl dX3_put_53 ?_
  refine V.iload_n 5 rfl dX3_put_55 rfl ?_
  refine V.iast (f := f) (ws2 := TW g t c C L (upd f (r * C + k) v)) 1 (r * C + k) rfl rfl (by omega) (by omega) rfl dX3_put_56 ?_
  exact V.vret hq XM.r (Nat.le_of_ble_eq_true rfl) (Nat.le_of_ble_eq_true rfl) ⟨rfl, rfl⟩ dX3_put_57
abbrev rmX3_add : Room := { frames := 1, cells := 0, slots := 0, locals := 25 }
set_option maxHeartbeats 4000000 in
set_option maxRecDepth 100000 in
theorem kX3_add (g : GT) (t : Nat) (c : Nat) (C : Nat) (L : Nat) (f : Nat → Int32) (r : Nat) (k : Nat) (v : Int32) (hL : L < 2147483648) (hC : C < 2147483648) (hk : k < C) (hr : r * C + k < L) : UC g yX3_add wsX3_add rmX3_add [.ref t, .int (nI r), .int (nI k), .int v] (TW g t c C L f) (Qf (none) (TW g t c C L (upd f (r * C + k) (f (r * C + k) + v)))) := by
  refine UC.ofV (cc := cX3_add) (maxL := 4) (ret := none) (lv0 := [(0, .ref t), (1, .int (nI r)), (2, .int (nI k)), (3, .int v)]) (by decide) rfl (Nat.le_of_ble_eq_true rfl) rfl ?_
  generalize hQF : QFr g rmX3_add (Qf (none) (TW g t c C L (upd f (r * C + k) (f (r * C + k) + v)))) = QF
  have hq : QFok g rmX3_add (Qf (none) (TW g t c C L (upd f (r * C + k) (f (r * C + k) + v)))) QF := hQF ▸ QFr.q
  refine V.aload_n 0 rfl dX3_add_0 rfl ?_
  refine V.iload_n 1 rfl dX3_add_1 rfl ?_
  refine V.iload_n 2 rfl dX3_add_2 rfl ?_
  refine V.aload_n 0 rfl dX3_add_3 rfl ?_
  refine V.iload_n 1 rfl dX3_add_4 rfl ?_
  refine V.iload_n 2 rfl dX3_add_5 rfl ?_
  refine V.callVf (ws2 := TW g t c C L f) (st2 := [.int (f (r * C + k)), .int (nI k), .int (nI r), .ref t]) [.int (nI r), .int (nI k)] [.int (nI k), .int (nI r), .ref t] (kX3_at g t c C L f r k hL hC hk hr) gX3_add_X3_at rfl (by show _ ∧ _ ∧ _ ∧ _ = some (2 : Nat); decide +kernel) ⟨Nat.le_of_ble_eq_true rfl, Nat.le_of_ble_eq_true rfl⟩ (hc := (rfl : vwCl[3]? = some (RX3, TX3, 2))) 0 rfl [0, 1] (by decide) rfl rfl (Nat.le_of_ble_eq_true rfl) ⟨Nat.le_of_ble_eq_true rfl, Nat.le_of_ble_eq_true rfl⟩ dX3_add_6 TWf rfl rfl rfl rfl ?_
  refine V.iload_n 3 rfl dX3_add_9 rfl ?_
  refine V.iadd dX3_add_10 ?_
  refine V.callVf (ws2 := TW g t c C L (upd f (r * C + k) ((f (r * C + k)) + v))) (st2 := []) [.int (nI r), .int (nI k), .int ((f (r * C + k)) + v)] [] (kX3_put g t c C L f r k ((f (r * C + k)) + v) hL hC hk hr) gX3_add_X3_put rfl (by show _ ∧ _ ∧ _ ∧ _ = some (3 : Nat); decide +kernel) ⟨Nat.le_of_ble_eq_true rfl, Nat.le_of_ble_eq_true rfl⟩ (hc := (rfl : vwCl[3]? = some (RX3, TX3, 2))) 0 rfl [0, 1] (by decide) rfl rfl (Nat.le_of_ble_eq_true rfl) ⟨Nat.le_of_ble_eq_true rfl, Nat.le_of_ble_eq_true rfl⟩ dX3_add_11 TWf rfl rfl rfl rfl ?_
  exact V.vret hq XM.r (Nat.le_of_ble_eq_true rfl) (Nat.le_of_ble_eq_true rfl) ⟨rfl, rfl⟩ dX3_add_14
def tsF (f : Nat → Int32) (C k : Nat) (i : Nat) (x : Int32) : Int32 := x + f (i * C + k)
abbrev rmX3_sum : Room := { frames := 1, cells := 0, slots := 0, locals := 24 }
set_option maxHeartbeats 4000000 in
set_option maxRecDepth 100000 in
theorem kX3_sum (g : GT) (t : Nat) (c : Nat) (C : Nat) (L : Nat) (f : Nat → Int32) (m : Nat) (k : Nat) (hL : L < 2147483648) (hC : C < 2147483648) (hm : m < 2147483648) (hk : k < C) (hr : ∀ r, r < m → r * C + k < L) : UC g yX3_sum wsX3_sum rmX3_sum [.ref t, .int (nI m), .int (nI k)] (TW g t c C L f) (Qf (some (.int (fu (tsF f C k) 0 m 0))) (TW g t c C L f)) := by
  refine UC.ofV (cc := cX3_sum) (maxL := 5) (ret := some .int) (lv0 := [(0, .ref t), (1, .int (nI m)), (2, .int (nI k))]) (by decide) rfl (Nat.le_of_ble_eq_true rfl) rfl ?_
  generalize hQF : QFr g rmX3_sum (Qf (some (.int (fu (tsF f C k) 0 m 0))) (TW g t c C L f)) = QF
  have hq : QFok g rmX3_sum (Qf (some (.int (fu (tsF f C k) 0 m 0))) (TW g t c C L f)) QF := hQF ▸ QFr.q
  refine V.iconst (v := 0) dX3_sum_0 (by decide) ?_
  refine V.istore_n (lv2 := [(3, .int 0), (0, .ref t), (1, .int (nI m)), (2, .int (nI k))]) dX3_sum_1 rfl (by decide) rfl ?_
  refine V.iconst (v := 0) dX3_sum_2 (by decide) ?_
  refine V.istore (lv2 := [(4, .int 0), (3, .int 0), (0, .ref t), (1, .int (nI m)), (2, .int (nI k))]) dX3_sum_3 (by decide) rfl ?_
  have L5 : ∀ (kL : Nat) (i : Nat) (x : Int32), i + kL = m → (fu (tsF f C k) i kL x = fu (tsF f C k) 0 m 0) → V g rmX3_sum RX3 cX3_sum wsX3_sum 5 QF (XM (some .int) "sum") 0 0 (TW g t c C L f) 5 [(4, .int (nI i)), (3, .int x), (0, .ref t), (1, .int (nI m)), (2, .int (nI k))] [] := by
    intro kL
    induction kL with
    | zero =>
      intro i x hrel hfu
      rw [fu_0] at hfu
      refine V.iload 0 rfl dX3_sum_5 ?_
      refine V.iload_n 3 rfl dX3_sum_7 rfl ?_
      refine V.icmp_ge_t (tgt := 27) (by exact nI_le (a := m) (b := i) (by omega) (by omega)) dX3_sum_8 (by decide) ?_
      refine V.iload_n 1 rfl dX3_sum_27 rfl ?_
      exact V.iret hq XM.r (Nat.le_of_ble_eq_true rfl) (Nat.le_of_ble_eq_true rfl) ⟨by rw [← hfu] <;> rfl, rfl⟩ dX3_sum_28
    | succ kL ih =>
      intro i x hrel hfu
      rw [fu_s] at hfu
      refine V.iload 0 rfl dX3_sum_5 ?_
      refine V.iload_n 3 rfl dX3_sum_7 rfl ?_
      refine V.icmp_ge_f (tgt := 27) (by exact nI_ge (a := i) (b := m) (by omega) (by omega)) dX3_sum_8 (by decide) ?_
      refine V.iload_n 1 rfl dX3_sum_11 rfl ?_
      refine V.aload_n 2 rfl dX3_sum_12 rfl ?_
      refine V.iload 0 rfl dX3_sum_13 ?_
      refine V.iload_n 4 rfl dX3_sum_15 rfl ?_
      refine V.callVf (ws2 := TW g t c C L f) (st2 := [.int (f (i * C + k)), .int x]) [.int (nI i), .int (nI k)] [.int x] (kX3_at g t c C L f i k hL hC hk (hr i (by omega))) gX3_sum_X3_at rfl (by show _ ∧ _ ∧ _ ∧ _ = some (2 : Nat); decide +kernel) ⟨Nat.le_of_ble_eq_true rfl, Nat.le_of_ble_eq_true rfl⟩ (hc := (rfl : vwCl[3]? = some (RX3, TX3, 2))) 0 rfl [0, 1] (by decide) rfl rfl (Nat.le_of_ble_eq_true rfl) ⟨Nat.le_of_ble_eq_true rfl, Nat.le_of_ble_eq_true rfl⟩ dX3_sum_16 TWf rfl rfl rfl rfl ?_
      refine V.iadd dX3_sum_19 ?_
      refine V.istore_n (lv2 := [(3, .int (x + (f (i * C + k)))), (4, .int (nI i)), (0, .ref t), (1, .int (nI m)), (2, .int (nI k))]) dX3_sum_20 rfl (by decide) rfl ?_
      refine V.iinc (v := nI (i + 1)) (lv2 := [(4, .int (nI (i + 1))), (3, .int (x + (f (i * C + k)))), (0, .ref t), (1, .int (nI m)), (2, .int (nI k))]) 1 rfl dX3_sum_21 (nI_add i 1) (by decide) rfl ?_
      refine V.goto (tgt := 5) dX3_sum_24 (by decide) ?_
      refine V.eqlv (lv2 := [(4, .int (nI (i + 1))), (3, .int (x + (f (i * C + k)))), (0, .ref t), (1, .int (nI m)), (2, .int (nI k))]) [0, 1, 2, 3, 4] rfl ?_
      exact ih (i + 1) (tsF f C k i x) (by omega) hfu
  refine V.eqlv (lv2 := [(4, .int 0), (3, .int 0), (0, .ref t), (1, .int (nI m)), (2, .int (nI k))]) [0, 1, 2, 3, 4] rfl ?_
  exact L5 m 0 0 (by omega) rfl
