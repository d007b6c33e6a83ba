abbrev rmX6_choiceOf : Room := { frames := 2, cells := 0, slots := 0, locals := 46 }
set_option maxHeartbeats 4000000 in
set_option maxRecDepth 100000 in
theorem kX6_choiceOf (g : GT) (a : Nat → Nat) (z hi tx ai pa tu pt ke : Nat → Int32) (st le th re nu du : Int32) (ha : Int64) (n : Nat) (kd : Int32) (hn : n < 4) (hF : z 5 = nI (nf z)) (hF8 : nf z ≤ 8) : UC g yX6_choiceOf wsX6_choiceOf rmX6_choiceOf [.ref (a 0), .int (nI n), .int kd] (MW g a z hi tx ai pa tu pt ke st le th re nu du ha) (Qf (some (.int (en (cho z n kd)))) (MW g a z hi tx ai pa tu pt ke st le th re nu du ha)) := by
  refine UC.ofV (cc := cX6_choiceOf) (maxL := 5) (ret := some .int) (lv0 := [(0, .ref (a 0)), (1, .int (nI n)), (2, .int kd)]) (by decide) rfl (Nat.le_of_ble_eq_true rfl) rfl ?_
  generalize hQF : QFr g rmX6_choiceOf (Qf (some (.int (en (cho z n kd)))) (MW g a z hi tx ai pa tu pt ke st le th re nu du ha)) = QF
  have hq : QFok g rmX6_choiceOf (Qf (some (.int (en (cho z n kd)))) (MW g a z hi tx ai pa tu pt ke st le th re nu du ha)) QF := hQF ▸ QFr.q
  refine V.iconst (v := -1) dX6_choiceOf_0 (by decide) ?_
  refine V.istore_n (lv2 := [(3, .int (-1)), (0, .ref (a 0)), (1, .int (nI n)), (2, .int kd)]) dX6_choiceOf_1 rfl (by decide) rfl ?_
  refine V.iconst (v := 0) dX6_choiceOf_2 (by decide) ?_
  refine V.istore (lv2 := [(4, .int 0), (3, .int (-1)), (0, .ref (a 0)), (1, .int (nI n)), (2, .int kd)]) dX6_choiceOf_3 (by decide) rfl ?_
  have L5 : ∀ (kL : Nat) (i : Nat) (o : Option Nat), i + kL = nf z → ((∀ b : Nat, o = some b → b < 8)) → (fu (csF z n kd) i kL o = cho z n kd) → V g rmX6_choiceOf RX6 cX6_choiceOf wsX6_choiceOf 5 QF (XM (some .int) "choiceOf") 0 0 (MW g a z hi tx ai pa tu pt ke st le th re nu du ha) 5 [(4, .int (nI i)), (3, .int (en o)), (0, .ref (a 0)), (1, .int (nI n)), (2, .int kd)] [] := by
    intro kL
    induction kL with
    | zero =>
      intro i o hrel ho hfu
      rw [fu_0] at hfu
      refine V.iload 0 rfl dX6_choiceOf_5 ?_
      refine V.aload_n 2 rfl dX6_choiceOf_7 rfl ?_
      refine V.get (v := .ref (a 1)) (fun w H => List.mem_cons_of_mem _ (List.mem_append_right _ H)) (hc := (rfl : vwCl[6]? = some (RX6, TX6, 15))) 0 0 (by decide) (List.mem_of_getElem? (i := 1) rfl) rfl rfl dX6_choiceOf_8 ?_
      refine V.iconst (v := 5) dX6_choiceOf_11 (by decide) ?_
      refine V.iald (f := z) 1 5 rfl rfl (by decide) (by decide) dX6_choiceOf_12 ?_
      refine V.icmp_ge_t (tgt := 55) (by rw [hF, show i = nf z from by omega]; exact nI_le (Nat.le_refl _) (by omega)) dX6_choiceOf_13 (by decide) ?_
      refine V.iload_n 1 rfl dX6_choiceOf_55 rfl ?_
      exact V.iret hq XM.r (Nat.le_of_ble_eq_true rfl) (Nat.le_of_ble_eq_true rfl) ⟨by rw [← hfu] <;> rfl, rfl⟩ dX6_choiceOf_56
    | succ kL ih =>
      intro i o hrel ho hfu
      rw [fu_s] at hfu
      refine V.iload 0 rfl dX6_choiceOf_5 ?_
      refine V.aload_n 2 rfl dX6_choiceOf_7 rfl ?_
      refine V.get (v := .ref (a 1)) (fun w H => List.mem_cons_of_mem _ (List.mem_append_right _ H)) (hc := (rfl : vwCl[6]? = some (RX6, TX6, 15))) 0 0 (by decide) (List.mem_of_getElem? (i := 1) rfl) rfl rfl dX6_choiceOf_8 ?_
      refine V.iconst (v := 5) dX6_choiceOf_11 (by decide) ?_
      refine V.iald (f := z) 1 5 rfl rfl (by decide) (by decide) dX6_choiceOf_12 ?_
      refine V.icmp_ge_f (tgt := 55) (by rw [hF]; exact nI_ge (by omega) (by omega)) dX6_choiceOf_13 (by decide) ?_
      refine V.aload_n 2 rfl dX6_choiceOf_16 rfl ?_
      refine V.iload 0 rfl dX6_choiceOf_17 ?_
      refine V.iload_n 4 rfl dX6_choiceOf_19 rfl ?_
      refine V.callVf (ws2 := MW g a z hi tx ai pa tu pt ke st le th re nu du ha) (st2 := [.int (bi (gv z i kd))]) [.int (nI i), .int kd] [] (kX6_gives g a z hi tx ai pa tu pt ke st le th re nu du ha i kd (by first | omega | decide)) gX6_choiceOf_X6_gives rfl (by show _ ∧ _ ∧ _ ∧ _ = some (2 : Nat); decide +kernel) ⟨Nat.le_of_ble_eq_true rfl, Nat.le_of_ble_eq_true rfl⟩ (hc := (rfl : vwCl[6]? = some (RX6, TX6, 15))) 0 rfl [0, 1, 2, 3, 4, 5, 6, 7, 8] (by decide) rfl rfl (Nat.le_of_ble_eq_true rfl) ⟨Nat.le_of_ble_eq_true rfl, Nat.le_of_ble_eq_true rfl⟩ dX6_choiceOf_20 MWf rfl rfl rfl rfl ?_
      refine V.if_eq (tgt := 47) dX6_choiceOf_23 (by decide) (fun c23 => ?_) (fun c23 => ?_)
      · skip
        have c23 := bi_0 c23
        refine V.iload_n 1 rfl dX6_choiceOf_47 rfl ?_
        refine V.istore_n (lv2 := [(3, .int (en o)), (4, .int (nI i)), (0, .ref (a 0)), (1, .int (nI n)), (2, .int kd)]) dX6_choiceOf_48 rfl (by decide) rfl ?_
        refine V.iinc (v := nI (i + 1)) (lv2 := [(4, .int (nI (i + 1))), (3, .int (en o)), (0, .ref (a 0)), (1, .int (nI n)), (2, .int kd)]) 1 rfl dX6_choiceOf_49 (nI_add i 1) (by decide) rfl ?_
        refine V.goto (tgt := 5) dX6_choiceOf_52 (by decide) ?_
        refine V.eqlv (lv2 := [(4, .int (nI (i + 1))), (3, .int (en o)), (0, .ref (a 0)), (1, .int (nI n)), (2, .int kd)]) [0, 1, 2, 3, 4] rfl ?_
        exact ih (i + 1) o (by omega) ho (by rw [← hfu, show csF z n kd i o = o from by simp [csF, c23]])
      · skip
        have c23 := bi_1 c23
        cases o with
        | none =>
          refine V.iload_n 1 rfl dX6_choiceOf_26 rfl ?_
          refine V.iconst (v := -1) dX6_choiceOf_27 (by decide) ?_
          refine V.icmp_eq_t (tgt := 42) rfl dX6_choiceOf_28 (by decide) ?_
          refine V.iload 0 rfl dX6_choiceOf_42 ?_
          refine V.goto (tgt := 48) dX6_choiceOf_44 (by decide) ?_
          refine V.istore_n (lv2 := [(3, .int (nI i)), (4, .int (nI i)), (0, .ref (a 0)), (1, .int (nI n)), (2, .int kd)]) dX6_choiceOf_48 rfl (by decide) rfl ?_
          refine V.iinc (v := nI (i + 1)) (lv2 := [(4, .int (nI (i + 1))), (3, .int (nI i)), (0, .ref (a 0)), (1, .int (nI n)), (2, .int kd)]) 1 rfl dX6_choiceOf_49 (nI_add i 1) (by decide) rfl ?_
          refine V.goto (tgt := 5) dX6_choiceOf_52 (by decide) ?_
          refine V.eqlv (lv2 := [(4, .int (nI (i + 1))), (3, .int (nI i)), (0, .ref (a 0)), (1, .int (nI n)), (2, .int kd)]) [0, 1, 2, 3, 4] rfl ?_
          exact ih (i + 1) (some i) (by omega) (fun b h => by cases h; omega) (by rw [← hfu, show csF z n kd i none = (some i) from by simp [csF, c23]])
        | some b =>
          have hb : b < 8 := ho b rfl
          refine V.iload_n 1 rfl dX6_choiceOf_26 rfl ?_
          refine V.iconst (v := -1) dX6_choiceOf_27 (by decide) ?_
          refine V.icmp_eq_f (tgt := 42) (en_ne hb (by decide)) dX6_choiceOf_28 (by decide) ?_
          refine V.aload_n 2 rfl dX6_choiceOf_31 rfl ?_
          refine V.iload_n 3 rfl dX6_choiceOf_32 rfl ?_
          refine V.iload 0 rfl dX6_choiceOf_33 ?_
          refine V.iload_n 1 rfl dX6_choiceOf_35 rfl ?_
          refine V.callVf (ws2 := MW g a z hi tx ai pa tu pt ke st le th re nu du ha) (st2 := [.int (bi (bt z n i b))]) [.int (nI n), .int (nI i), .int (nI b)] [] (kX6_isBetter g a z hi tx ai pa tu pt ke st le th re nu du ha n i b (by first | omega | decide) (by first | omega | decide) (by first | omega | decide)) gX6_choiceOf_X6_isBetter rfl (by show _ ∧ _ ∧ _ ∧ _ = some (3 : Nat); decide +kernel) ⟨Nat.le_of_ble_eq_true rfl, Nat.le_of_ble_eq_true rfl⟩ (hc := (rfl : vwCl[6]? = some (RX6, TX6, 15))) 0 rfl [0, 1, 2, 3, 4, 5, 6, 7, 8] (by decide) rfl rfl (Nat.le_of_ble_eq_true rfl) ⟨Nat.le_of_ble_eq_true rfl, Nat.le_of_ble_eq_true rfl⟩ dX6_choiceOf_36 MWf rfl rfl rfl rfl ?_
          refine V.if_eq (tgt := 47) dX6_choiceOf_39 (by decide) (fun c39 => ?_) (fun c39 => ?_)
          · skip
            have c39 := bi_0 c39
            refine V.iload_n 1 rfl dX6_choiceOf_47 rfl ?_
            refine V.istore_n (lv2 := [(3, .int (nI b)), (4, .int (nI i)), (0, .ref (a 0)), (1, .int (nI n)), (2, .int kd)]) dX6_choiceOf_48 rfl (by decide) rfl ?_
            refine V.iinc (v := nI (i + 1)) (lv2 := [(4, .int (nI (i + 1))), (3, .int (nI b)), (0, .ref (a 0)), (1, .int (nI n)), (2, .int kd)]) 1 rfl dX6_choiceOf_49 (nI_add i 1) (by decide) rfl ?_
            refine V.goto (tgt := 5) dX6_choiceOf_52 (by decide) ?_
            refine V.eqlv (lv2 := [(4, .int (nI (i + 1))), (3, .int (nI b)), (0, .ref (a 0)), (1, .int (nI n)), (2, .int kd)]) [0, 1, 2, 3, 4] rfl ?_
            exact ih (i + 1) (some b) (by omega) ho (by rw [← hfu, show csF z n kd i (some b) = (some b) from by simp [csF, c23, c39]])
          · skip
            have c39 := bi_1 c39
            refine V.iload 0 rfl dX6_choiceOf_42 ?_
            refine V.goto (tgt := 48) dX6_choiceOf_44 (by decide) ?_
            refine V.istore_n (lv2 := [(3, .int (nI i)), (4, .int (nI i)), (0, .ref (a 0)), (1, .int (nI n)), (2, .int kd)]) dX6_choiceOf_48 rfl (by decide) rfl ?_
            refine V.iinc (v := nI (i + 1)) (lv2 := [(4, .int (nI (i + 1))), (3, .int (nI i)), (0, .ref (a 0)), (1, .int (nI n)), (2, .int kd)]) 1 rfl dX6_choiceOf_49 (nI_add i 1) (by decide) rfl ?_
            refine V.goto (tgt := 5) dX6_choiceOf_52 (by decide) ?_
            refine V.eqlv (lv2 := [(4, .int (nI (i + 1))), (3, .int (nI i)), (0, .ref (a 0)), (1, .int (nI n)), (2, .int kd)]) [0, 1, 2, 3, 4] rfl ?_
            exact ih (i + 1) (some i) (by omega) (fun b h => by cases h; omega) (by rw [← hfu, show csF z n kd i (some b) = (some i) from by simp [csF, c23, c39]])
  refine V.eqlv (lv2 := [(4, .int 0), (3, .int (-1)), (0, .ref (a 0)), (1, .int (nI n)), (2, .int kd)]) [0, 1, 2, 3, 4] rfl ?_
  exact L5 (nf z) 0 none (by omega) (fun b h => by cases h) rfl
abbrev rmX6_isAim : Room := { frames := 0, cells := 0, slots := 0, locals := 0 }
set_option maxHeartbeats 4000000 in
set_option maxRecDepth 100000 in
theorem kX6_isAim (g : GT) (a : Nat → Nat) (z hi tx ai pa tu pt ke : Nat → Int32) (st le th re nu du : Int32) (ha : Int64) (p : Nat) (n : Nat) (hn : n ≤ 4) : UC g yX6_isAim wsX6_isAim rmX6_isAim [.ref (a 0), .int (nI p), .int (nI n)] (MW g a z hi tx ai pa tu pt ke st le th re nu du ha) (Qf (some (.int (bi (isA ai n p)))) (MW g a z hi tx ai pa tu pt ke st le th re nu du ha)) := by
  refine UC.ofV (cc := cX6_isAim) (maxL := 5) (ret := some .boolean) (lv0 := [(0, .ref (a 0)), (1, .int (nI p)), (2, .int (nI n))]) (by decide) rfl (Nat.le_of_ble_eq_true rfl) rfl ?_
  generalize hQF : QFr g rmX6_isAim (Qf (some (.int (bi (isA ai n p)))) (MW g a z hi tx ai pa tu pt ke st le th re nu du ha)) = QF
  have hq : QFok g rmX6_isAim (Qf (some (.int (bi (isA ai n p)))) (MW g a z hi tx ai pa tu pt ke st le th re nu du ha)) QF := hQF ▸ QFr.q
  refine V.iconst (v := 0) dX6_isAim_0 (by decide) ?_
  refine V.istore_n (lv2 := [(3, .int 0), (0, .ref (a 0)), (1, .int (nI p)), (2, .int (nI n))]) dX6_isAim_1 rfl (by decide) rfl ?_
  refine V.iconst (v := 0) dX6_isAim_2 (by decide) ?_
  refine V.istore (lv2 := [(4, .int 0), (3, .int 0), (0, .ref (a 0)), (1, .int (nI p)), (2, .int (nI n))]) dX6_isAim_3 (by decide) rfl ?_
  have L5 : ∀ (kL : Nat) (i : Nat) (b : Bool), i + kL = n → (fu (fun m b => b || decide (ai m = nI p)) i kL b = isA ai n p) → V g rmX6_isAim RX6 cX6_isAim wsX6_isAim 5 QF (XM (some .boolean) "isAim") 0 0 (MW g a z hi tx ai pa tu pt ke st le th re nu du ha) 5 [(4, .int (nI i)), (3, .int (bi b)), (0, .ref (a 0)), (1, .int (nI p)), (2, .int (nI n))] [] := by
    intro kL
    induction kL with
    | zero =>
      intro i b hrel hfu
      rw [fu_0] at hfu
      refine V.iload 0 rfl dX6_isAim_5 ?_
      refine V.iload_n 4 rfl dX6_isAim_7 rfl ?_
      refine V.icmp_ge_t (tgt := 38) (by exact nI_le (by omega) (by omega)) dX6_isAim_8 (by decide) ?_
      refine V.iload_n 1 rfl dX6_isAim_38 rfl ?_
      exact V.zret hq XM.r (bi_nar _) (Nat.le_of_ble_eq_true rfl) (Nat.le_of_ble_eq_true rfl) ⟨by rw [← hfu] <;> rfl, rfl⟩ dX6_isAim_39
    | succ kL ih =>
      intro i b hrel hfu
      rw [fu_s] at hfu
      refine V.iload 0 rfl dX6_isAim_5 ?_
      refine V.iload_n 4 rfl dX6_isAim_7 rfl ?_
      refine V.icmp_ge_f (tgt := 38) (by exact nI_ge (by omega) (by omega)) dX6_isAim_8 (by decide) ?_
      cases b with
      | false =>
        refine V.iload_n 1 rfl dX6_isAim_11 rfl ?_
        refine V.if_ne_f (tgt := 26) (by decide) dX6_isAim_12 (by decide) ?_
        refine V.aload_n 2 rfl dX6_isAim_15 rfl ?_
        refine V.get (v := .ref (a 4)) (fun w H => List.mem_cons_of_mem _ (List.mem_append_right _ H)) (hc := (rfl : vwCl[6]? = some (RX6, TX6, 15))) 0 6 (by decide) (List.mem_of_getElem? (i := 1) rfl) rfl rfl dX6_isAim_16 ?_
        refine V.iload 0 rfl dX6_isAim_19 ?_
        refine V.iald (f := ai) 4 i rfl rfl (by omega) (by decide) dX6_isAim_21 ?_
        refine V.iload_n 3 rfl dX6_isAim_22 rfl ?_
        refine V.icmp_ne (tgt := 30) dX6_isAim_23 (by decide) (fun c23 => ?_) (fun c23 => ?_)
        · skip
          refine V.iconst (v := 0) dX6_isAim_30 (by decide) ?_
          refine V.istore_n (lv2 := [(3, .int 0), (4, .int (nI i)), (0, .ref (a 0)), (1, .int (nI p)), (2, .int (nI n))]) dX6_isAim_31 rfl (by decide) rfl ?_
          refine V.iinc (v := nI (i + 1)) (lv2 := [(4, .int (nI (i + 1))), (3, .int 0), (0, .ref (a 0)), (1, .int (nI p)), (2, .int (nI n))]) 1 rfl dX6_isAim_32 (nI_add i 1) (by decide) rfl ?_
          refine V.goto (tgt := 5) dX6_isAim_35 (by decide) ?_
          refine V.eqlv (lv2 := [(4, .int (nI (i + 1))), (3, .int 0), (0, .ref (a 0)), (1, .int (nI p)), (2, .int (nI n))]) [0, 1, 2, 3, 4] rfl ?_
          exact ih (i + 1) false (by omega) (by rw [← hfu]; congr 1 <;> simp [c23])
        · skip
          refine V.iconst (v := 1) dX6_isAim_26 (by decide) ?_
          refine V.goto (tgt := 31) dX6_isAim_27 (by decide) ?_
          refine V.istore_n (lv2 := [(3, .int 1), (4, .int (nI i)), (0, .ref (a 0)), (1, .int (nI p)), (2, .int (nI n))]) dX6_isAim_31 rfl (by decide) rfl ?_
          refine V.iinc (v := nI (i + 1)) (lv2 := [(4, .int (nI (i + 1))), (3, .int 1), (0, .ref (a 0)), (1, .int (nI p)), (2, .int (nI n))]) 1 rfl dX6_isAim_32 (nI_add i 1) (by decide) rfl ?_
          refine V.goto (tgt := 5) dX6_isAim_35 (by decide) ?_
          refine V.eqlv (lv2 := [(4, .int (nI (i + 1))), (3, .int 1), (0, .ref (a 0)), (1, .int (nI p)), (2, .int (nI n))]) [0, 1, 2, 3, 4] rfl ?_
          exact ih (i + 1) true (by omega) (by rw [← hfu]; congr 1 <;> simp [c23])
      | true =>
        refine V.iload_n 1 rfl dX6_isAim_11 rfl ?_
        refine V.if_ne_t (tgt := 26) (by decide) dX6_isAim_12 (by decide) ?_
        refine V.iconst (v := 1) dX6_isAim_26 (by decide) ?_
        refine V.goto (tgt := 31) dX6_isAim_27 (by decide) ?_
        refine V.istore_n (lv2 := [(3, .int 1), (4, .int (nI i)), (0, .ref (a 0)), (1, .int (nI p)), (2, .int (nI n))]) dX6_isAim_31 rfl (by decide) rfl ?_
        refine V.iinc (v := nI (i + 1)) (lv2 := [(4, .int (nI (i + 1))), (3, .int 1), (0, .ref (a 0)), (1, .int (nI p)), (2, .int (nI n))]) 1 rfl dX6_isAim_32 (nI_add i 1) (by decide) rfl ?_
        refine V.goto (tgt := 5) dX6_isAim_35 (by decide) ?_
        refine V.eqlv (lv2 := [(4, .int (nI (i + 1))), (3, .int 1), (0, .ref (a 0)), (1, .int (nI p)), (2, .int (nI n))]) [0, 1, 2, 3, 4] rfl ?_
        exact ih (i + 1) true (by omega) (by rw [← hfu]; congr 1 <;> simp)
  refine V.eqlv (lv2 := [(4, .int 0), (3, .int 0), (0, .ref (a 0)), (1, .int (nI p)), (2, .int (nI n))]) [0, 1, 2, 3, 4] rfl ?_
  exact L5 n 0 false (by omega) rfl
abbrev rmX6_aimOf : Room := { frames := 3, cells := 0, slots := 0, locals := 70 }
set_option maxHeartbeats 4000000 in
set_option maxRecDepth 100000 in
theorem kX6_aimOf (g : GT) (a : Nat → Nat) (z hi tx ai pa tu pt ke : Nat → Int32) (st le th re nu du : Int32) (ha : Int64) (n : Nat) (hn : n < 4) (hF : z 5 = nI (nf z)) (hF8 : nf z ≤ 8) (hP : z 6 = nI (np z)) (hP24 : np z ≤ 24) : UC g yX6_aimOf wsX6_aimOf rmX6_aimOf [.ref (a 0), .int (nI n)] (MW g a z hi tx ai pa tu pt ke st le th re nu du ha) (Qf (some (.int (en (ao z n ai)))) (MW g a z hi tx ai pa tu pt ke st le th re nu du ha)) := by
  refine UC.ofV (cc := cX6_aimOf) (maxL := 5) (ret := some .int) (lv0 := [(0, .ref (a 0)), (1, .int (nI n))]) (by decide) rfl (Nat.le_of_ble_eq_true rfl) rfl ?_
  generalize hQF : QFr g rmX6_aimOf (Qf (some (.int (en (ao z n ai)))) (MW g a z hi tx ai pa tu pt ke st le th re nu du ha)) = QF
  have hq : QFok g rmX6_aimOf (Qf (some (.int (en (ao z n ai)))) (MW g a z hi tx ai pa tu pt ke st le th re nu du ha)) QF := hQF ▸ QFr.q
  refine V.iconst (v := 0) dX6_aimOf_0 (by decide) ?_
  refine V.istore_n (lv2 := [(2, .int 0), (0, .ref (a 0)), (1, .int (nI n))]) dX6_aimOf_1 rfl (by decide) rfl ?_
  have L2 : ∀ (kL : Nat) (i : Nat), i + kL = np z → (ff (apr z n ai) i kL = ao z n ai) → V g rmX6_aimOf RX6 cX6_aimOf wsX6_aimOf 5 QF (XM (some .int) "aimOf") 0 0 (MW g a z hi tx ai pa tu pt ke st le th re nu du ha) 2 [(2, .int (nI i)), (0, .ref (a 0)), (1, .int (nI n))] [] := by
    intro kL
    induction kL with
    | zero =>
      intro i hrel hfu
      refine V.iload_n 0 rfl dX6_aimOf_2 rfl ?_
      refine V.aload_n 1 rfl dX6_aimOf_3 rfl ?_
      refine V.get (v := .ref (a 1)) (fun w H => List.mem_cons_of_mem _ (List.mem_append_right _ H)) (hc := (rfl : vwCl[6]? = some (RX6, TX6, 15))) 0 0 (by decide) (List.mem_of_getElem? (i := 1) rfl) rfl rfl dX6_aimOf_4 ?_
      refine V.bipush (v := 6) dX6_aimOf_7 (by decide) ?_
      refine V.iald (f := z) 1 6 rfl rfl (by decide) (by decide) dX6_aimOf_9 ?_
      refine V.icmp_ge_t (tgt := 82) (by rw [hP, show i = np z from by omega]; exact nI_le (Nat.le_refl _) (by omega)) dX6_aimOf_10 (by decide) ?_
      refine V.iconst (v := -1) dX6_aimOf_82 (by decide) ?_
      exact V.iret hq XM.r (Nat.le_of_ble_eq_true rfl) (Nat.le_of_ble_eq_true rfl) ⟨by rw [← hfu] <;> rfl, rfl⟩ dX6_aimOf_83
    | succ kL ih =>
      intro i hrel hfu
      refine V.iload_n 0 rfl dX6_aimOf_2 rfl ?_
      refine V.aload_n 1 rfl dX6_aimOf_3 rfl ?_
      refine V.get (v := .ref (a 1)) (fun w H => List.mem_cons_of_mem _ (List.mem_append_right _ H)) (hc := (rfl : vwCl[6]? = some (RX6, TX6, 15))) 0 0 (by decide) (List.mem_of_getElem? (i := 1) rfl) rfl rfl dX6_aimOf_4 ?_
      refine V.bipush (v := 6) dX6_aimOf_7 (by decide) ?_
      refine V.iald (f := z) 1 6 rfl rfl (by decide) (by decide) dX6_aimOf_9 ?_
      refine V.icmp_ge_f (tgt := 82) (by rw [hP]; exact nI_ge (by omega) (by omega)) dX6_aimOf_10 (by decide) ?_
      refine V.aload_n 1 rfl dX6_aimOf_13 rfl ?_
      refine V.iload_n 0 rfl dX6_aimOf_14 rfl ?_
      refine V.iconst (v := 1) dX6_aimOf_15 (by decide) ?_
      refine V.callVf (ws2 := MW g a z hi tx ai pa tu pt ke st le th re nu du ha) (st2 := [.int (z (76 + 5 * i + 1))]) [.int (nI i), .int 1] [] (kX6_ofPlace g a z hi tx ai pa tu pt ke st le th re nu du ha i 1 (by first | omega | decide) (by first | omega | decide)) gX6_aimOf_X6_ofPlace rfl (by show _ ∧ _ ∧ _ ∧ _ = some (2 : Nat); decide +kernel) ⟨Nat.le_of_ble_eq_true rfl, Nat.le_of_ble_eq_true rfl⟩ (hc := (rfl : vwCl[6]? = some (RX6, TX6, 15))) 0 rfl [0, 1, 2, 3, 4, 5, 6, 7, 8] (by decide) rfl rfl (Nat.le_of_ble_eq_true rfl) ⟨Nat.le_of_ble_eq_true rfl, Nat.le_of_ble_eq_true rfl⟩ dX6_aimOf_16 MWf rfl rfl rfl rfl ?_
      refine V.istore_n (lv2 := [(3, .int (z (76 + 5 * i + 1))), (2, .int (nI i)), (0, .ref (a 0)), (1, .int (nI n))]) dX6_aimOf_19 rfl (by decide) rfl ?_
      refine V.aload_n 2 rfl dX6_aimOf_20 rfl ?_
      refine V.iload_n 3 rfl dX6_aimOf_21 rfl ?_
      refine V.iconst (v := 0) dX6_aimOf_22 (by decide) ?_
      refine V.callVf (ws2 := MW g a z hi tx ai pa tu pt ke st le th re nu du ha) (st2 := [.int (z (196 + 5 * n + 0))]) [.int (nI n), .int 0] [] (kX6_ofNozzle g a z hi tx ai pa tu pt ke st le th re nu du ha n 0 (by first | omega | decide) (by first | omega | decide)) gX6_aimOf_X6_ofNozzle rfl (by show _ ∧ _ ∧ _ ∧ _ = some (2 : Nat); decide +kernel) ⟨Nat.le_of_ble_eq_true rfl, Nat.le_of_ble_eq_true rfl⟩ (hc := (rfl : vwCl[6]? = some (RX6, TX6, 15))) 0 rfl [0, 1, 2, 3, 4, 5, 6, 7, 8] (by decide) rfl rfl (Nat.le_of_ble_eq_true rfl) ⟨Nat.le_of_ble_eq_true rfl, Nat.le_of_ble_eq_true rfl⟩ dX6_aimOf_23 MWf rfl rfl rfl rfl ?_
      refine V.iload_n 0 rfl dX6_aimOf_26 rfl ?_
      refine V.ishr dX6_aimOf_27 ?_
      refine V.iconst (v := 1) dX6_aimOf_28 (by decide) ?_
      refine V.iand dX6_aimOf_29 ?_
      refine V.iconst (v := 1) dX6_aimOf_30 (by decide) ?_
      refine V.icmp_ne (tgt := 48) dX6_aimOf_31 (by decide) (fun c31 => ?_) (fun c31 => ?_)
      · skip
        refine V.iconst (v := 0) dX6_aimOf_48 (by decide) ?_
        refine V.istore (lv2 := [(4, .int 0), (3, .int (z (76 + 5 * i + 1))), (2, .int (nI i)), (0, .ref (a 0)), (1, .int (nI n))]) dX6_aimOf_49 (by decide) rfl ?_
        refine V.iload 0 rfl dX6_aimOf_51 ?_
        refine V.if_eq_t (tgt := 76) (by decide) dX6_aimOf_53 (by decide) ?_
        refine V.iinc (v := nI (i + 1)) (lv2 := [(2, .int (nI (i + 1))), (4, .int 0), (3, .int (z (76 + 5 * i + 1))), (0, .ref (a 0)), (1, .int (nI n))]) 2 rfl dX6_aimOf_76 (nI_add i 1) (by decide) rfl ?_
        refine V.goto (tgt := 2) dX6_aimOf_79 (by decide) ?_
        refine V.eqlv (lv2 := [(2, .int (nI (i + 1))), (0, .ref (a 0)), (1, .int (nI n))]) [0, 3, 4] rfl ?_
        exact ih (i + 1) (by omega) (by simp only [Nat.add_zero] at *; rw [← hfu]; simp [ff, apr, c31])
      · skip
        refine V.aload_n 2 rfl dX6_aimOf_34 rfl ?_
        refine V.iload_n 3 rfl dX6_aimOf_35 rfl ?_
        refine V.iload_n 0 rfl dX6_aimOf_36 rfl ?_
        refine V.callVf (ws2 := MW g a z hi tx ai pa tu pt ke st le th re nu du ha) (st2 := [.int (en (cho z n (z (76 + 5 * i + 1))))]) [.int (nI n), .int (z (76 + 5 * i + 1))] [] (kX6_choiceOf g a z hi tx ai pa tu pt ke st le th re nu du ha n (z (76 + 5 * i + 1)) (by omega) hF hF8) gX6_aimOf_X6_choiceOf rfl (by show _ ∧ _ ∧ _ ∧ _ = some (2 : Nat); decide +kernel) ⟨Nat.le_of_ble_eq_true rfl, Nat.le_of_ble_eq_true rfl⟩ (hc := (rfl : vwCl[6]? = some (RX6, TX6, 15))) 0 rfl [0, 1, 2, 3, 4, 5, 6, 7, 8] (by decide) rfl rfl (Nat.le_of_ble_eq_true rfl) ⟨Nat.le_of_ble_eq_true rfl, Nat.le_of_ble_eq_true rfl⟩ dX6_aimOf_37 MWf rfl rfl rfl rfl ?_
        refine V.iconst (v := -1) dX6_aimOf_40 (by decide) ?_
        refine V.icmp_eq (tgt := 48) dX6_aimOf_41 (by decide) (fun c41 => ?_) (fun c41 => ?_)
        · skip
          refine V.iconst (v := 0) dX6_aimOf_48 (by decide) ?_
          refine V.istore (lv2 := [(4, .int 0), (3, .int (z (76 + 5 * i + 1))), (2, .int (nI i)), (0, .ref (a 0)), (1, .int (nI n))]) dX6_aimOf_49 (by decide) rfl ?_
          refine V.iload 0 rfl dX6_aimOf_51 ?_
          refine V.if_eq_t (tgt := 76) (by decide) dX6_aimOf_53 (by decide) ?_
          refine V.iinc (v := nI (i + 1)) (lv2 := [(2, .int (nI (i + 1))), (4, .int 0), (3, .int (z (76 + 5 * i + 1))), (0, .ref (a 0)), (1, .int (nI n))]) 2 rfl dX6_aimOf_76 (nI_add i 1) (by decide) rfl ?_
          refine V.goto (tgt := 2) dX6_aimOf_79 (by decide) ?_
          refine V.eqlv (lv2 := [(2, .int (nI (i + 1))), (0, .ref (a 0)), (1, .int (nI n))]) [0, 3, 4] rfl ?_
          exact ih (i + 1) (by omega) (by simp only [Nat.add_zero] at *; rw [← hfu]; simp [ff, apr, c31, c41])
        · skip
          refine V.iconst (v := 1) dX6_aimOf_44 (by decide) ?_
          refine V.goto (tgt := 49) dX6_aimOf_45 (by decide) ?_
          refine V.istore (lv2 := [(4, .int 1), (3, .int (z (76 + 5 * i + 1))), (2, .int (nI i)), (0, .ref (a 0)), (1, .int (nI n))]) dX6_aimOf_49 (by decide) rfl ?_
          refine V.iload 0 rfl dX6_aimOf_51 ?_
          refine V.if_eq_f (tgt := 76) (by decide) dX6_aimOf_53 (by decide) ?_
          refine V.aload_n 3 rfl dX6_aimOf_56 rfl ?_
          refine V.iload_n 2 rfl dX6_aimOf_57 rfl ?_
          refine V.iconst (v := 2) dX6_aimOf_58 (by decide) ?_
          refine V.callVf (ws2 := MW g a z hi tx ai pa tu pt ke st le th re nu du ha) (st2 := [.int (z (76 + 5 * i + 2))]) [.int (nI i), .int 2] [] (kX6_ofPlace g a z hi tx ai pa tu pt ke st le th re nu du ha i 2 (by first | omega | decide) (by first | omega | decide)) gX6_aimOf_X6_ofPlace rfl (by show _ ∧ _ ∧ _ ∧ _ = some (2 : Nat); decide +kernel) ⟨Nat.le_of_ble_eq_true rfl, Nat.le_of_ble_eq_true rfl⟩ (hc := (rfl : vwCl[6]? = some (RX6, TX6, 15))) 0 rfl [0, 1, 2, 3, 4, 5, 6, 7, 8] (by decide) rfl rfl (Nat.le_of_ble_eq_true rfl) ⟨Nat.le_of_ble_eq_true rfl, Nat.le_of_ble_eq_true rfl⟩ dX6_aimOf_59 MWf rfl rfl rfl rfl ?_
          refine V.if_ne (tgt := 76) dX6_aimOf_62 (by decide) (fun c62 => ?_) (fun c62 => ?_)
          · skip
            refine V.iinc (v := nI (i + 1)) (lv2 := [(2, .int (nI (i + 1))), (4, .int 1), (3, .int (z (76 + 5 * i + 1))), (0, .ref (a 0)), (1, .int (nI n))]) 2 rfl dX6_aimOf_76 (nI_add i 1) (by decide) rfl ?_
            refine V.goto (tgt := 2) dX6_aimOf_79 (by decide) ?_
            refine V.eqlv (lv2 := [(2, .int (nI (i + 1))), (0, .ref (a 0)), (1, .int (nI n))]) [0, 3, 4] rfl ?_
            exact ih (i + 1) (by omega) (by simp only [Nat.add_zero] at *; rw [← hfu]; simp [ff, apr, c31, c41, c62])
          · skip
            refine V.aload_n 3 rfl dX6_aimOf_65 rfl ?_
            refine V.iload_n 2 rfl dX6_aimOf_66 rfl ?_
            refine V.iload_n 4 rfl dX6_aimOf_67 rfl ?_
            refine V.callVf (ws2 := MW g a z hi tx ai pa tu pt ke st le th re nu du ha) (st2 := [.int (bi (isA ai n i))]) [.int (nI i), .int (nI n)] [] (kX6_isAim g a z hi tx ai pa tu pt ke st le th re nu du ha i n (by first | omega | decide)) gX6_aimOf_X6_isAim rfl (by show _ ∧ _ ∧ _ ∧ _ = some (2 : Nat); decide +kernel) ⟨Nat.le_of_ble_eq_true rfl, Nat.le_of_ble_eq_true rfl⟩ (hc := (rfl : vwCl[6]? = some (RX6, TX6, 15))) 0 rfl [0, 1, 2, 3, 4, 5, 6, 7, 8] (by decide) rfl rfl (Nat.le_of_ble_eq_true rfl) ⟨Nat.le_of_ble_eq_true rfl, Nat.le_of_ble_eq_true rfl⟩ dX6_aimOf_68 MWf rfl rfl rfl rfl ?_
            refine V.if_ne (tgt := 76) dX6_aimOf_71 (by decide) (fun c71 => ?_) (fun c71 => ?_)
            · skip
              have c71 := bi_1 c71
              refine V.iinc (v := nI (i + 1)) (lv2 := [(2, .int (nI (i + 1))), (4, .int 1), (3, .int (z (76 + 5 * i + 1))), (0, .ref (a 0)), (1, .int (nI n))]) 2 rfl dX6_aimOf_76 (nI_add i 1) (by decide) rfl ?_
              refine V.goto (tgt := 2) dX6_aimOf_79 (by decide) ?_
              refine V.eqlv (lv2 := [(2, .int (nI (i + 1))), (0, .ref (a 0)), (1, .int (nI n))]) [0, 3, 4] rfl ?_
              exact ih (i + 1) (by omega) (by simp only [Nat.add_zero] at *; rw [← hfu]; simp [ff, apr, c31, c41, c62, c71])
            · skip
              have c71 := bi_0 c71
              refine V.iload_n 2 rfl dX6_aimOf_74 rfl ?_
              exact V.iret hq XM.r (Nat.le_of_ble_eq_true rfl) (Nat.le_of_ble_eq_true rfl) ⟨by simp only [Nat.add_zero] at *; rw [← hfu]; simp [ff, apr, c31, c41, c62, c71] <;> rfl, rfl⟩ dX6_aimOf_75
  refine V.eqlv (lv2 := [(2, .int 0), (0, .ref (a 0)), (1, .int (nI n))]) [0, 1, 2] rfl ?_
  exact L2 (np z) 0 (by omega) rfl
abbrev rmX6_layAims : Room := { frames := 4, cells := 0, slots := 0, locals := 94 }
set_option maxHeartbeats 4000000 in
set_option maxRecDepth 100000 in
theorem kX6_layAims (g : GT) (a : Nat → Nat) (z hi tx ai pa tu pt ke : Nat → Int32) (st le th re nu du : Int32) (ha : Int64) (hF : z 5 = nI (nf z)) (hF8 : nf z ≤ 8) (hP : z 6 = nI (np z)) (hP24 : np z ≤ 24) : UC g yX6_layAims wsX6_layAims rmX6_layAims [.ref (a 0)] (MW g a z hi tx ai pa tu pt ke st le th re nu du ha) (Qf (none) (MW g a z hi tx (lA z ai) pa tu pt ke st le th re nu du ha)) := by
  refine UC.ofV (cc := cX6_layAims) (maxL := 2) (ret := none) (lv0 := [(0, .ref (a 0))]) (by decide) rfl (Nat.le_of_ble_eq_true rfl) rfl ?_
  generalize hQF : QFr g rmX6_layAims (Qf (none) (MW g a z hi tx (lA z ai) pa tu pt ke st le th re nu du ha)) = QF
  have hq : QFok g rmX6_layAims (Qf (none) (MW g a z hi tx (lA z ai) pa tu pt ke st le th re nu du ha)) QF := hQF ▸ QFr.q
  refine V.iconst (v := 0) dX6_layAims_0 (by decide) ?_
  refine V.istore_n (lv2 := [(1, .int 0), (0, .ref (a 0))]) dX6_layAims_1 rfl (by decide) rfl ?_
  have L2 : ∀ (kL : Nat) (i : Nat) (y : Nat → Int32), i + kL = 4 → (fu (fun n ai => upd ai n (en (ao z n ai))) i kL y = lA z ai) → V g rmX6_layAims RX6 cX6_layAims wsX6_layAims 2 QF (XM none "layAims") 0 0 (MW g a z hi tx y pa tu pt ke st le th re nu du ha) 2 [(1, .int (nI i)), (0, .ref (a 0))] [] := by
    intro kL
    induction kL with
    | zero =>
      intro i y hrel hfu
      rw [fu_0] at hfu
      refine V.iload_n 0 rfl dX6_layAims_2 rfl ?_
      refine V.iconst (v := 4) dX6_layAims_3 (by decide) ?_
      refine V.icmp_ge_t (tgt := 24) (by rw [show i = 4 from by omega]; decide) dX6_layAims_4 (by decide) ?_
      exact V.vret hq XM.r (Nat.le_of_ble_eq_true rfl) (Nat.le_of_ble_eq_true rfl) ⟨rfl, by rw [← hfu] <;> rfl⟩ dX6_layAims_24
    | succ kL ih =>
      intro i y hrel hfu
      rw [fu_s] at hfu
      refine V.iload_n 0 rfl dX6_layAims_2 rfl ?_
      refine V.iconst (v := 4) dX6_layAims_3 (by decide) ?_
      refine V.icmp_ge_f (tgt := 24) (by exact nI_ge (a := i) (b := 4) (by omega) (by decide)) dX6_layAims_4 (by decide) ?_
      refine V.aload_n 1 rfl dX6_layAims_7 rfl ?_
      refine V.get (v := .ref (a 4)) (fun w H => List.mem_cons_of_mem _ (List.mem_append_right _ H)) (hc := (rfl : vwCl[6]? = some (RX6, TX6, 15))) 0 6 (by decide) (List.mem_of_getElem? (i := 1) rfl) rfl rfl dX6_layAims_8 ?_
      refine V.iload_n 0 rfl dX6_layAims_11 rfl ?_
      refine V.aload_n 1 rfl dX6_layAims_12 rfl ?_
      refine V.iload_n 0 rfl dX6_layAims_13 rfl ?_
      refine V.callVf (ws2 := MW g a z hi tx y pa tu pt ke st le th re nu du ha) (st2 := [.int (en (ao z i y)), .int (nI i), .ref (a 4)]) [.int (nI i)] [.int (nI i), .ref (a 4)] (kX6_aimOf g a z hi tx y pa tu pt ke st le th re nu du ha i (by omega) hF hF8 hP hP24) gX6_layAims_X6_aimOf rfl (by show _ ∧ _ ∧ _ ∧ _ = some (1 : Nat); decide +kernel) ⟨Nat.le_of_ble_eq_true rfl, Nat.le_of_ble_eq_true rfl⟩ (hc := (rfl : vwCl[6]? = some (RX6, TX6, 15))) 0 rfl [0, 1, 2, 3, 4, 5, 6, 7, 8] (by decide) rfl rfl (Nat.le_of_ble_eq_true rfl) ⟨Nat.le_of_ble_eq_true rfl, Nat.le_of_ble_eq_true rfl⟩ dX6_layAims_14 MWf rfl rfl rfl rfl ?_
      refine V.iast (f := y) (ws2 := MW g a z hi tx (upd y i (en (ao z i y))) pa tu pt ke st le th re nu du ha) 4 i rfl rfl (by omega) (by decide) rfl dX6_layAims_17 ?_
      refine V.iinc (v := nI (i + 1)) (lv2 := [(1, .int (nI (i + 1))), (0, .ref (a 0))]) 0 rfl dX6_layAims_18 (nI_add i 1) (by decide) rfl ?_
      refine V.goto (tgt := 2) dX6_layAims_21 (by decide) ?_
      refine V.eqlv (lv2 := [(1, .int (nI (i + 1))), (0, .ref (a 0))]) [0, 1] rfl ?_
      exact ih (i + 1) (upd y i (en (ao z i y))) (by omega) hfu
  refine V.eqlv (lv2 := [(1, .int 0), (0, .ref (a 0))]) [0, 1] rfl ?_
  exact L2 4 0 ai (by omega) rfl
