section NUL
variable {p : Program} {l : Launch} {e : Env} {R : Room} {s : State} {m : MethodId} {args : Array Value} {below : List Frame} {meth : Method} {c : Code} {H : Heap} {locs : List Loc} {cells slots : Nat} {Q : State → Prop} {cc : ByteArray} {pc : Nat} {ls : Array Slot} {rest : List Value}
theorem lv_nload_n (hexec : p.tables.exec = Jvm.exec) (hb : c.code = cc) {k : Fin 4} {i : Nat} (hdg : decode cc pc = .ok (.aload_n k, 1)) (hi : (k : Nat) = i) (hl : ls[i]? = some (.val .null))
    (k : W p l e R s m args below meth c H locs cells slots Q (F0 m (pc + 1) ls (.null :: rest))) : W p l e R s m args below meth c H locs cells slots Q (F0 m pc ls (rest)) := by
  subst hi
  intro T hT X
  obtain ⟨t, a, b⟩ := k T hT X
  refine ⟨t, ?_, b⟩
  jvm_step X.here [X.here.top, hexec, hb, hdg, hl, Value.isRef]
  exact a
theorem lv_nstore_n (hexec : p.tables.exec = Jvm.exec) (hb : c.code = cc) {k : Fin 4} {i nL : Nat} {lv lv' : List (Nat × Value)} (hdg : decode cc pc = .ok (.astore_n k, 1)) (hi : (k : Nat) = i) (h : lv_has ls nL lv) (hn : i < nL) (hl : (i, Value.null) :: lv.filter (fun q => !(q.1 == i) && !(q.1 + 1 == i && q.2.category == 2)) = lv')
    (kk : ∀ ls' : Array Slot, lv_has ls' nL lv' → W p l e R s m args below meth c H locs cells slots Q (F0 m (pc + 1) ls' rest)) : W p l e R s m args below meth c H locs cells slots Q (F0 m pc ls (.null :: rest)) := by
  subst hi
  obtain ⟨ls', e', h'⟩ := lv_store1 (v := .null) h hn rfl
  intro T hT X
  obtain ⟨t, a, b⟩ := kk ls' (hl ▸ h') T hT X
  refine ⟨t, ?_, b⟩
  jvm_step X.here [X.here.top, ↓top_set X.here.top, hexec, hb, hdg, e', Value.isRef]
  exact a
end NUL
section KV4
variable {g : GT} {R : Room} {own : String} {cc : ByteArray} {Ts : List Cond} {nL : Nat} {QF : QT} {X : XT} {k n : Nat} {ws : va_W} {pc : Nat} {lv : List (Nat × Value)} {st rest : List Value}
theorem V.nload_n {j : Fin 4} {i : Nat} (q : Nat) (hk : lv[q]? = some (i, .null)) (hd : decode cc pc = .ok (.aload_n j, 1)) (hi : (j : Nat) = i) (kk : V g R own cc Ts nL QF X k n ws (pc + 1) lv (.null :: st)) : V g R own cc Ts nL QF X k n ws pc lv st := V.lift (fun p e s m args below meth c H locs ls Q hx hb ho ht hl kk => lv_nload_n hx hb hd hi (lv_at hl q hk) (kk ls hl)) kk
theorem V.nstore_n {j : Fin 4} {i : Nat} {lv2 : List (Nat × Value)} (hd : decode cc pc = .ok (.astore_n j, 1)) (hi : (j : Nat) = i) (hn : i < nL) (hl2 : (i, Value.null) :: lv.filter (fun q => !(q.1 == i) && !(q.1 + 1 == i && q.2.category == 2)) = lv2) (kk : V g R own cc Ts nL QF X k n ws (pc + 1) lv2 st) : V g R own cc Ts nL QF X k n ws pc lv (.null :: st) := V.lift (fun p e s m args below meth c H locs ls Q hx hb ho ht hl kk => lv_nstore_n hx hb hd hi hl hn hl2 kk) kk
theorem V.callVPf {y : MethodName} {wy wy' : List Cond} {rm : Room} {W0 w1 F ws2 : va_W} {rv : Option Value} {C : String} {T : u_T} {N ci i maxL b k2 n2 : Nat} {bytes : ByteArray} {ret : Option FieldType} {fs : List Value} {st2 : List Value} (As rest : List Value) (hM : UC g y wy rm (.ref b :: As) W0 (Qf rv w1)) (hG : GoodIn Ts (wsV own i C y wy)) (hw : wy = Cond.code y bytes maxL ret :: wy')
    (hd1 : y.cls = C ∧ y.cls ≠ "java/lang/invoke/MethodHandle" ∧ y.cls ≠ "java/lang/invoke/VarHandle" ∧ (parseMethodDescriptor y.desc).map (fun d => d.parameters.length) = some As.length) (hRm : rm.frames + 1 ≤ R.frames ∧ 8 + (maxL + 11) + rm.locals ≤ R.locals) (hc : vwCl[ci]? = some (C, T, N)) (q0 : Nat) (he : W0[q0]? = some (b, .inr (ci, fs)))
    (hp : ws.Perm (W0 ++ F)) (hst : st = As.reverse ++ .ref b :: rest) (hcat : (rest.map fun v => v.category).sum ≤ 8) (hf : k + rm.cells ≤ R.cells ∧ n + rm.slots ≤ R.slots) (hd : decode cc pc = .ok (.invokevirtual i, 3))
    (hfst : w1.map Prod.fst = W0.map Prod.fst) (hp2 : (w1 ++ F).Perm ws2) (hrv : rv.toList ++ rest = st2) (hk2 : k + rm.cells = k2) (hn2 : n + rm.slots = n2) (kk : V g R own cc Ts nL QF X k2 n2 ws2 (pc + 3) lv st2) : V g R own cc Ts nL QF X k n ws pc lv st := by
  refine V.callVP As rest hM hG hw hd1 hRm hc q0 he hp hst hcat hf hd (fun v w h => by rw [h.2]; exact FST.of hfst) (fun v w h => ?_)
  obtain ⟨rfl, rfl⟩ := h
  rw [hrv, hk2, hn2]
  exact V.perm hp2 kk
end KV4
theorem SWm {g : GT} {b : Nat → Nat} {z z' : Nat → Int32} : (SW g b z').map Prod.fst = (SW g b z).map Prod.fst := rfl
theorem SSm {g : GT} {b c : Nat → Nat} {z z' y y' : Nat → Int32} : (SW g b z' ++ SW g c y').map Prod.fst = (SW g b z ++ SW g c y).map Prod.fst := rfl
theorem USm {g : GT} {u b : Nat → Nat} {ai pa tu ai' pa' tu' z z' : Nat → Int32} : (UW g u ai' pa' tu' ++ SW g b z').map Prod.fst = (UW g u ai pa tu ++ SW g b z).map Prod.fst := rfl
theorem setG_app {T : va_W} : ∀ (is : List Nat) (f w : va_W), (is.all fun i => Nat.ble (i + 1) f.length) = true → setG is (f ++ T) w = setG is f w ++ T
  | [], f, w, _ => rfl
  | i :: is, f, [], _ => rfl
  | i :: is, f, x :: w, h => by
    rw [List.all_cons, Bool.and_eq_true] at h
    show setG is ((f ++ T).set i x) w = setG is (f.set i x) w ++ T
    rw [List.set_append_left _ _ (Nat.le_of_ble_eq_true h.1)]
    exact setG_app is (f.set i x) w (by rw [List.length_set]; exact h.2)
theorem insW_of {is : List Nat} {f T w f2 : va_W} (h : w.length = is.length) (hb : (is.all fun i => Nat.ble (i + 1) f.length) = true) (e : setG is f w = f2) : insW (f ++ T) is w = f2 ++ T := by rw [insW_set h, setG_app is f w hb, e]
theorem SSf {g : GT} {b c : Nat → Nat} {z y z' y' : Nat → Int32} {is : List Nat} (h : is.length = 20) : ((SW g b z ++ SW g c y).take is.length).map Prod.fst = (SW g b z' ++ SW g c y').map Prod.fst := by rw [h]; rfl
theorem nI_s1 (n : Nat) : nI (n + 1) - 1 = nI n := by rw [nI_succ, Int32.add_sub_cancel]
abbrev rmX1_init : Room := { frames := 1, cells := 1, slots := 6, locals := 12 }
set_option maxHeartbeats 4000000 in
set_option maxRecDepth 100000 in
theorem kX1_init (g : GT) (o : Nat) : UC g yX1_init wsX1_init rmX1_init [.ref o] ([(o, .inr (1, [.null, .int 0]))]) (fun v w => v = none ∧ ∃ h : Nat → Nat, h 0 = o ∧ w = HW g h 0 []) := by
  refine UC.ofV (cc := cX1_init) (maxL := 1) (ret := none) (lv0 := [(0, .ref o)]) (by decide) rfl (Nat.le_of_ble_eq_true rfl) rfl ?_
  generalize hQF : QFr g rmX1_init (fun v w => v = none ∧ ∃ h : Nat → Nat, h 0 = o ∧ w = HW g h 0 []) = QF
  have hq : QFok g rmX1_init (fun v w => v = none ∧ ∃ h : Nat → Nat, h 0 = o ∧ w = HW g h 0 []) QF := hQF ▸ QFr.q
  refine V.aload_n 0 rfl dX1_init_0 rfl ?_
  refine V.objInit (by decide +kernel) (by decide +kernel) (by decide +kernel) (Nat.le_of_ble_eq_true rfl) (Nat.le_of_ble_eq_true rfl) dX1_init_1 ?_
  refine V.aload_n 0 rfl dX1_init_4 rfl ?_
  refine V.bipush (v := 6) dX1_init_5 (by decide) ?_
  refine V.newq (len := 6) (by decide +kernel) (by decide) (by decide) (by decide) (Nat.le_of_ble_eq_true rfl) (Nat.le_of_ble_eq_true rfl) dX1_init_7 (fun b1 => ?_)
  refine V.putF (v := .ref b1) (ws2 := [(o, .inr (1, [.ref b1, .int 0])), (b1, .inl (g.2.2 2, 6, .inr (.inr (.inr (.inr (fun _ => none))))))]) (fun w H => List.mem_cons_of_mem _ (List.mem_append_right _ H)) tyX1 tyX1_ok nmX1 (hc := (rfl : vwCl[1]? = some (RX1, TX1, 2))) 0 0 (by decide) (List.mem_of_getElem? (i := 5) rfl) rfl rfl rfl XM.nm (tyX1_ok 0 (by decide)) rfl rfl (Nat.le_of_ble_eq_true rfl) rfl dX1_init_10 ?_
  exact V.vret hq XM.r (Nat.le_of_ble_eq_true rfl) (Nat.le_of_ble_eq_true rfl) ⟨rfl, (fun k => match k with | 0 => o | _ => b1), rfl, rfl⟩ dX1_init_13
abbrev rmX1_dropOldest : Room := { frames := 0, cells := 0, slots := 0, locals := 0 }
set_option maxHeartbeats 4000000 in
set_option maxRecDepth 100000 in
theorem kX1_dropOldest (g : GT) (h : Nat → Nat) (x0 x1 x2 x3 x4 x5 : (Nat → Nat) × (Nat → Int32)) : UC g yX1_dropOldest wsX1_dropOldest rmX1_dropOldest [.ref (h 0)] (HW g h 6 [x0, x1, x2, x3, x4, x5]) (Qf none (HP g h (nI 5) (svf [x1, x2, x3, x4, x5, x0]) ++ SWs g [x0, x1, x2, x3, x4, x5])) := by
  refine UC.ofV (cc := cX1_dropOldest) (maxL := 3) (ret := none) (lv0 := [(0, .ref (h 0))]) (by decide) rfl (Nat.le_of_ble_eq_true rfl) rfl ?_
  generalize hQF : QFr g rmX1_dropOldest (Qf none (HP g h (nI 5) (svf [x1, x2, x3, x4, x5, x0]) ++ SWs g [x0, x1, x2, x3, x4, x5])) = QF
  have hq : QFok g rmX1_dropOldest (Qf none (HP g h (nI 5) (svf [x1, x2, x3, x4, x5, x0]) ++ SWs g [x0, x1, x2, x3, x4, x5])) QF := hQF ▸ QFr.q
  refine V.eqws (ws2 := (HP g h (nI 6) (svf [x0, x1, x2, x3, x4, x5])) ++ (SW g x0.1 x0.2) ++ (SW g x1.1 x1.2) ++ (SW g x2.1 x2.2) ++ (SW g x3.1 x3.2) ++ (SW g x4.1 x4.2) ++ (SW g x5.1 x5.2)) rfl ?_
  refine V.aload_n 0 rfl dX1_dropOldest_0 rfl ?_
  refine V.get (v := .ref (h 1)) (fun w H => List.mem_cons_of_mem _ (List.mem_append_right _ H)) (hc := (rfl : vwCl[1]? = some (RX1, TX1, 2))) 0 0 (by decide) (List.mem_of_getElem? (i := 1) rfl) rfl rfl dX1_dropOldest_1 ?_
  refine V.iconst (v := 0) dX1_dropOldest_4 (by decide) ?_
  refine V.aald (f := svf [x0, x1, x2, x3, x4, x5]) 1 0 rfl rfl (by decide) (by decide) rfl dX1_dropOldest_5 ?_
  refine V.astore_n (lv2 := [(1, .ref (x0.1 0)), (0, .ref (h 0))]) dX1_dropOldest_6 rfl (by decide) rfl ?_
  refine V.iconst (v := 1) dX1_dropOldest_7 (by decide) ?_
  refine V.istore_n (lv2 := [(2, .int 1), (1, .ref (x0.1 0)), (0, .ref (h 0))]) dX1_dropOldest_8 rfl (by decide) rfl ?_
  refine V.iload_n 0 rfl dX1_dropOldest_9 rfl ?_
  refine V.bipush (v := 6) dX1_dropOldest_10 (by decide) ?_
  refine V.icmp_ge_f (tgt := 35) (by decide) dX1_dropOldest_12 (by decide) ?_
  refine V.aload_n 2 rfl dX1_dropOldest_15 rfl ?_
  refine V.get (v := .ref (h 1)) (fun w H => List.mem_cons_of_mem _ (List.mem_append_right _ H)) (hc := (rfl : vwCl[1]? = some (RX1, TX1, 2))) 0 0 (by decide) (List.mem_of_getElem? (i := 1) rfl) rfl rfl dX1_dropOldest_16 ?_
  refine V.iload_n 0 rfl dX1_dropOldest_19 rfl ?_
  refine V.iconst (v := 1) dX1_dropOldest_20 (by decide) ?_
  refine V.isubN (v := 0) dX1_dropOldest_21 (by decide) ?_
  refine V.aload_n 2 rfl dX1_dropOldest_22 rfl ?_
  refine V.get (v := .ref (h 1)) (fun w H => List.mem_cons_of_mem _ (List.mem_append_right _ H)) (hc := (rfl : vwCl[1]? = some (RX1, TX1, 2))) 0 0 (by decide) (List.mem_of_getElem? (i := 1) rfl) rfl rfl dX1_dropOldest_23 ?_
  refine V.iload_n 0 rfl dX1_dropOldest_26 rfl ?_
  refine V.aald (f := svf [x0, x1, x2, x3, x4, x5]) 1 1 rfl rfl (by decide) (by decide) rfl dX1_dropOldest_27 ?_
  refine V.aast (ci := 0) (f := svf [x0, x1, x2, x3, x4, x5]) (ws2 := (HP g h (nI 6) (va_up (svf [x0, x1, x2, x3, x4, x5]) 0 (some (x1.1 0)))) ++ (SW g x0.1 x0.2) ++ (SW g x1.1 x1.2) ++ (SW g x2.1 x2.2) ++ (SW g x3.1 x3.2) ++ (SW g x4.1 x4.2) ++ (SW g x5.1 x5.2)) 1 0 12 rfl rfl rfl (by decide) (by decide) rfl dX1_dropOldest_28 ?_
  refine V.iinc (v := 2) (lv2 := [(2, .int 2), (1, .ref (x0.1 0)), (0, .ref (h 0))]) 0 rfl dX1_dropOldest_29 (by decide) (by decide) rfl ?_
  refine V.goto (tgt := 9) dX1_dropOldest_32 (by decide) ?_
  refine V.iload_n 0 rfl dX1_dropOldest_9 rfl ?_
  refine V.bipush (v := 6) dX1_dropOldest_10 (by decide) ?_
  refine V.icmp_ge_f (tgt := 35) (by decide) dX1_dropOldest_12 (by decide) ?_
  refine V.aload_n 2 rfl dX1_dropOldest_15 rfl ?_
  refine V.get (v := .ref (h 1)) (fun w H => List.mem_cons_of_mem _ (List.mem_append_right _ H)) (hc := (rfl : vwCl[1]? = some (RX1, TX1, 2))) 0 0 (by decide) (List.mem_of_getElem? (i := 1) rfl) rfl rfl dX1_dropOldest_16 ?_
  refine V.iload_n 0 rfl dX1_dropOldest_19 rfl ?_
  refine V.iconst (v := 1) dX1_dropOldest_20 (by decide) ?_
  refine V.isubN (v := 1) dX1_dropOldest_21 (by decide) ?_
  refine V.aload_n 2 rfl dX1_dropOldest_22 rfl ?_
  refine V.get (v := .ref (h 1)) (fun w H => List.mem_cons_of_mem _ (List.mem_append_right _ H)) (hc := (rfl : vwCl[1]? = some (RX1, TX1, 2))) 0 0 (by decide) (List.mem_of_getElem? (i := 1) rfl) rfl rfl dX1_dropOldest_23 ?_
  refine V.iload_n 0 rfl dX1_dropOldest_26 rfl ?_
  refine V.aald (f := va_up (svf [x0, x1, x2, x3, x4, x5]) 0 (some (x1.1 0))) 1 2 rfl rfl (by decide) (by decide) rfl dX1_dropOldest_27 ?_
  refine V.aast (ci := 0) (f := va_up (svf [x0, x1, x2, x3, x4, x5]) 0 (some (x1.1 0))) (ws2 := (HP g h (nI 6) (va_up (va_up (svf [x0, x1, x2, x3, x4, x5]) 0 (some (x1.1 0))) 1 (some (x2.1 0)))) ++ (SW g x0.1 x0.2) ++ (SW g x1.1 x1.2) ++ (SW g x2.1 x2.2) ++ (SW g x3.1 x3.2) ++ (SW g x4.1 x4.2) ++ (SW g x5.1 x5.2)) 1 1 22 rfl rfl rfl (by decide) (by decide) rfl dX1_dropOldest_28 ?_
  refine V.iinc (v := 3) (lv2 := [(2, .int 3), (1, .ref (x0.1 0)), (0, .ref (h 0))]) 0 rfl dX1_dropOldest_29 (by decide) (by decide) rfl ?_
  refine V.goto (tgt := 9) dX1_dropOldest_32 (by decide) ?_
  refine V.iload_n 0 rfl dX1_dropOldest_9 rfl ?_
  refine V.bipush (v := 6) dX1_dropOldest_10 (by decide) ?_
  refine V.icmp_ge_f (tgt := 35) (by decide) dX1_dropOldest_12 (by decide) ?_
  refine V.aload_n 2 rfl dX1_dropOldest_15 rfl ?_
  refine V.get (v := .ref (h 1)) (fun w H => List.mem_cons_of_mem _ (List.mem_append_right _ H)) (hc := (rfl : vwCl[1]? = some (RX1, TX1, 2))) 0 0 (by decide) (List.mem_of_getElem? (i := 1) rfl) rfl rfl dX1_dropOldest_16 ?_
  refine V.iload_n 0 rfl dX1_dropOldest_19 rfl ?_
  refine V.iconst (v := 1) dX1_dropOldest_20 (by decide) ?_
  refine V.isubN (v := 2) dX1_dropOldest_21 (by decide) ?_
  refine V.aload_n 2 rfl dX1_dropOldest_22 rfl ?_
  refine V.get (v := .ref (h 1)) (fun w H => List.mem_cons_of_mem _ (List.mem_append_right _ H)) (hc := (rfl : vwCl[1]? = some (RX1, TX1, 2))) 0 0 (by decide) (List.mem_of_getElem? (i := 1) rfl) rfl rfl dX1_dropOldest_23 ?_
  refine V.iload_n 0 rfl dX1_dropOldest_26 rfl ?_
  refine V.aald (f := va_up (va_up (svf [x0, x1, x2, x3, x4, x5]) 0 (some (x1.1 0))) 1 (some (x2.1 0))) 1 3 rfl rfl (by decide) (by decide) rfl dX1_dropOldest_27 ?_
  refine V.aast (ci := 0) (f := va_up (va_up (svf [x0, x1, x2, x3, x4, x5]) 0 (some (x1.1 0))) 1 (some (x2.1 0))) (ws2 := (HP g h (nI 6) (va_up (va_up (va_up (svf [x0, x1, x2, x3, x4, x5]) 0 (some (x1.1 0))) 1 (some (x2.1 0))) 2 (some (x3.1 0)))) ++ (SW g x0.1 x0.2) ++ (SW g x1.1 x1.2) ++ (SW g x2.1 x2.2) ++ (SW g x3.1 x3.2) ++ (SW g x4.1 x4.2) ++ (SW g x5.1 x5.2)) 1 2 32 rfl rfl rfl (by decide) (by decide) rfl dX1_dropOldest_28 ?_
  refine V.iinc (v := 4) (lv2 := [(2, .int 4), (1, .ref (x0.1 0)), (0, .ref (h 0))]) 0 rfl dX1_dropOldest_29 (by decide) (by decide) rfl ?_
  refine V.goto (tgt := 9) dX1_dropOldest_32 (by decide) ?_
  refine V.iload_n 0 rfl dX1_dropOldest_9 rfl ?_
  refine V.bipush (v := 6) dX1_dropOldest_10 (by decide) ?_
  refine V.icmp_ge_f (tgt := 35) (by decide) dX1_dropOldest_12 (by decide) ?_
  refine V.aload_n 2 rfl dX1_dropOldest_15 rfl ?_
  refine V.get (v := .ref (h 1)) (fun w H => List.mem_cons_of_mem _ (List.mem_append_right _ H)) (hc := (rfl : vwCl[1]? = some (RX1, TX1, 2))) 0 0 (by decide) (List.mem_of_getElem? (i := 1) rfl) rfl rfl dX1_dropOldest_16 ?_
  refine V.iload_n 0 rfl dX1_dropOldest_19 rfl ?_
  refine V.iconst (v := 1) dX1_dropOldest_20 (by decide) ?_
  refine V.isubN (v := 3) dX1_dropOldest_21 (by decide) ?_
  refine V.aload_n 2 rfl dX1_dropOldest_22 rfl ?_
  refine V.get (v := .ref (h 1)) (fun w H => List.mem_cons_of_mem _ (List.mem_append_right _ H)) (hc := (rfl : vwCl[1]? = some (RX1, TX1, 2))) 0 0 (by decide) (List.mem_of_getElem? (i := 1) rfl) rfl rfl dX1_dropOldest_23 ?_
  refine V.iload_n 0 rfl dX1_dropOldest_26 rfl ?_
  refine V.aald (f := va_up (va_up (va_up (svf [x0, x1, x2, x3, x4, x5]) 0 (some (x1.1 0))) 1 (some (x2.1 0))) 2 (some (x3.1 0))) 1 4 rfl rfl (by decide) (by decide) rfl dX1_dropOldest_27 ?_
  refine V.aast (ci := 0) (f := va_up (va_up (va_up (svf [x0, x1, x2, x3, x4, x5]) 0 (some (x1.1 0))) 1 (some (x2.1 0))) 2 (some (x3.1 0))) (ws2 := (HP g h (nI 6) (va_up (va_up (va_up (va_up (svf [x0, x1, x2, x3, x4, x5]) 0 (some (x1.1 0))) 1 (some (x2.1 0))) 2 (some (x3.1 0))) 3 (some (x4.1 0)))) ++ (SW g x0.1 x0.2) ++ (SW g x1.1 x1.2) ++ (SW g x2.1 x2.2) ++ (SW g x3.1 x3.2) ++ (SW g x4.1 x4.2) ++ (SW g x5.1 x5.2)) 1 3 42 rfl rfl rfl (by decide) (by decide) rfl dX1_dropOldest_28 ?_
  refine V.iinc (v := 5) (lv2 := [(2, .int 5), (1, .ref (x0.1 0)), (0, .ref (h 0))]) 0 rfl dX1_dropOldest_29 (by decide) (by decide) rfl ?_
  refine V.goto (tgt := 9) dX1_dropOldest_32 (by decide) ?_
  refine V.iload_n 0 rfl dX1_dropOldest_9 rfl ?_
  refine V.bipush (v := 6) dX1_dropOldest_10 (by decide) ?_
  refine V.icmp_ge_f (tgt := 35) (by decide) dX1_dropOldest_12 (by decide) ?_
  refine V.aload_n 2 rfl dX1_dropOldest_15 rfl ?_
  refine V.get (v := .ref (h 1)) (fun w H => List.mem_cons_of_mem _ (List.mem_append_right _ H)) (hc := (rfl : vwCl[1]? = some (RX1, TX1, 2))) 0 0 (by decide) (List.mem_of_getElem? (i := 1) rfl) rfl rfl dX1_dropOldest_16 ?_
  refine V.iload_n 0 rfl dX1_dropOldest_19 rfl ?_
  refine V.iconst (v := 1) dX1_dropOldest_20 (by decide) ?_
  refine V.isubN (v := 4) dX1_dropOldest_21 (by decide) ?_
  refine V.aload_n 2 rfl dX1_dropOldest_22 rfl ?_
  refine V.get (v := .ref (h 1)) (fun w H => List.mem_cons_of_mem _ (List.mem_append_right _ H)) (hc := (rfl : vwCl[1]? = some (RX1, TX1, 2))) 0 0 (by decide) (List.mem_of_getElem? (i := 1) rfl) rfl rfl dX1_dropOldest_23 ?_
  refine V.iload_n 0 rfl dX1_dropOldest_26 rfl ?_
  refine V.aald (f := va_up (va_up (va_up (va_up (svf [x0, x1, x2, x3, x4, x5]) 0 (some (x1.1 0))) 1 (some (x2.1 0))) 2 (some (x3.1 0))) 3 (some (x4.1 0))) 1 5 rfl rfl (by decide) (by decide) rfl dX1_dropOldest_27 ?_
  refine V.aast (ci := 0) (f := va_up (va_up (va_up (va_up (svf [x0, x1, x2, x3, x4, x5]) 0 (some (x1.1 0))) 1 (some (x2.1 0))) 2 (some (x3.1 0))) 3 (some (x4.1 0))) (ws2 := (HP g h (nI 6) (va_up (va_up (va_up (va_up (va_up (svf [x0, x1, x2, x3, x4, x5]) 0 (some (x1.1 0))) 1 (some (x2.1 0))) 2 (some (x3.1 0))) 3 (some (x4.1 0))) 4 (some (x5.1 0)))) ++ (SW g x0.1 x0.2) ++ (SW g x1.1 x1.2) ++ (SW g x2.1 x2.2) ++ (SW g x3.1 x3.2) ++ (SW g x4.1 x4.2) ++ (SW g x5.1 x5.2)) 1 4 52 rfl rfl rfl (by decide) (by decide) rfl dX1_dropOldest_28 ?_
  refine V.iinc (v := 6) (lv2 := [(2, .int 6), (1, .ref (x0.1 0)), (0, .ref (h 0))]) 0 rfl dX1_dropOldest_29 (by decide) (by decide) rfl ?_
  refine V.goto (tgt := 9) dX1_dropOldest_32 (by decide) ?_
  refine V.iload_n 0 rfl dX1_dropOldest_9 rfl ?_
  refine V.bipush (v := 6) dX1_dropOldest_10 (by decide) ?_
  refine V.icmp_ge_t (tgt := 35) (by decide) dX1_dropOldest_12 (by decide) ?_
  refine V.aload_n 2 rfl dX1_dropOldest_35 rfl ?_
  refine V.get (v := .ref (h 1)) (fun w H => List.mem_cons_of_mem _ (List.mem_append_right _ H)) (hc := (rfl : vwCl[1]? = some (RX1, TX1, 2))) 0 0 (by decide) (List.mem_of_getElem? (i := 1) rfl) rfl rfl dX1_dropOldest_36 ?_
  refine V.iconst (v := 5) dX1_dropOldest_39 (by decide) ?_
  refine V.aload_n 1 rfl dX1_dropOldest_40 rfl ?_
  refine V.aast (ci := 0) (f := va_up (va_up (va_up (va_up (va_up (svf [x0, x1, x2, x3, x4, x5]) 0 (some (x1.1 0))) 1 (some (x2.1 0))) 2 (some (x3.1 0))) 3 (some (x4.1 0))) 4 (some (x5.1 0))) (ws2 := (HP g h (nI 6) (va_up (va_up (va_up (va_up (va_up (va_up (svf [x0, x1, x2, x3, x4, x5]) 0 (some (x1.1 0))) 1 (some (x2.1 0))) 2 (some (x3.1 0))) 3 (some (x4.1 0))) 4 (some (x5.1 0))) 5 (some (x0.1 0)))) ++ (SW g x0.1 x0.2) ++ (SW g x1.1 x1.2) ++ (SW g x2.1 x2.2) ++ (SW g x3.1 x3.2) ++ (SW g x4.1 x4.2) ++ (SW g x5.1 x5.2)) 1 5 2 rfl rfl rfl (by decide) (by decide) rfl dX1_dropOldest_41 ?_
  refine V.aload_n 2 rfl dX1_dropOldest_42 rfl ?_
  refine V.iconst (v := 5) dX1_dropOldest_43 (by decide) ?_
  refine V.put (v := .int 5) (ws2 := (HP g h 5 (va_up (va_up (va_up (va_up (va_up (va_up (svf [x0, x1, x2, x3, x4, x5]) 0 (some (x1.1 0))) 1 (some (x2.1 0))) 2 (some (x3.1 0))) 3 (some (x4.1 0))) 4 (some (x5.1 0))) 5 (some (x0.1 0)))) ++ (SW g x0.1 x0.2) ++ (SW g x1.1 x1.2) ++ (SW g x2.1 x2.2) ++ (SW g x3.1 x3.2) ++ (SW g x4.1 x4.2) ++ (SW g x5.1 x5.2)) (fun w H => List.mem_cons_of_mem _ (List.mem_append_right _ H)) tyX1 tyX1_ok nmX1 (hc := (rfl : vwCl[1]? = some (RX1, TX1, 2))) 0 1 (by decide) (List.mem_of_getElem? (i := 2) rfl) rfl rfl (tyX1_ok 1 (by decide)) rfl rfl (Nat.le_of_ble_eq_true rfl) rfl dX1_dropOldest_44 ?_
  refine V.eqws (ws2 := HP g h (nI 5) (svf [x1, x2, x3, x4, x5, x0]) ++ (SW g x0.1 x0.2 ++ (SW g x1.1 x1.2 ++ (SW g x2.1 x2.2 ++ (SW g x3.1 x3.2 ++ (SW g x4.1 x4.2 ++ (SW g x5.1 x5.2 ++ []))))))) (by rw [← svf_rot (x0 := x0) (x1 := x1) (x2 := x2) (x3 := x3) (x4 := x4) (x5 := x5)] <;> rfl) ?_
  refine V.eqws (ws2 := HP g h (nI 5) (svf [x1, x2, x3, x4, x5, x0]) ++ SWs g [x0, x1, x2, x3, x4, x5]) rfl ?_
  exact V.vret hq XM.r (Nat.le_of_ble_eq_true rfl) (Nat.le_of_ble_eq_true rfl) ⟨rfl, rfl⟩ dX1_dropOldest_47
abbrev rmX1_restore_b1 : Room := { frames := 0, cells := 0, slots := 0, locals := 0 }
set_option maxHeartbeats 4000000 in
set_option maxRecDepth 100000 in
theorem kX1_restore_b1 (g : GT) (h : Nat → Nat) (sv : SV) (b : Nat → Nat) (z : Nat → Int32) : UC g yX1_restore wsX1_restore rmX1_restore_b1 [.ref (h 0), .ref (b 0)] (HW g h 0 sv ++ SW g b z) (Qf (some (.int 0)) (HW g h 0 sv ++ SW g b z)) := by
  refine UC.ofV (cc := cX1_restore) (maxL := 3) (ret := some .boolean) (lv0 := [(0, .ref (h 0)), (1, .ref (b 0))]) (by decide) rfl (Nat.le_of_ble_eq_true rfl) rfl ?_
  generalize hQF : QFr g rmX1_restore_b1 (Qf (some (.int 0)) (HW g h 0 sv ++ SW g b z)) = QF
  have hq : QFok g rmX1_restore_b1 (Qf (some (.int 0)) (HW g h 0 sv ++ SW g b z)) QF := hQF ▸ QFr.q
  refine V.perm pm_1 ?_
  refine V.aload_n 0 rfl dX1_restore_0 rfl ?_
  refine V.get (v := .int 0) (fun w H => List.mem_cons_of_mem _ (List.mem_append_left _ (List.mem_append_left _ (List.mem_append_right _ H)))) (hc := (rfl : vwCl[1]? = some (RX1, TX1, 2))) 0 1 (by decide) (List.mem_of_getElem? (i := 1) rfl) rfl rfl dX1_restore_1 ?_
  refine V.if_le_t (tgt := 21) (by decide) dX1_restore_4 (by decide) ?_
  refine V.null dX1_restore_21 ?_
  refine V.nstore_n (lv2 := [(2, .null), (0, .ref (h 0)), (1, .ref (b 0))]) dX1_restore_22 rfl (by decide) rfl ?_
  refine V.nload_n 0 rfl dX1_restore_23 rfl ?_
  refine V.ifnonnullN dX1_restore_24 ?_
  refine V.iconst (v := 0) dX1_restore_27 (by decide) ?_
  refine V.perm pm_1 ?_
  exact V.zret hq XM.r rfl (Nat.le_of_ble_eq_true rfl) (Nat.le_of_ble_eq_true rfl) ⟨rfl, rfl⟩ dX1_restore_28
theorem pv4_2_1 {α : Type} {A0 A1 A2 A3 : List α} : ((((A0 ++ A1) ++ A2) ++ A3)).Perm (((A2 ++ A1)) ++ ((A0 ++ A3))) := by
  classical
  exact List.perm_iff_count.mpr (fun a => by simp only [List.count_append, List.count_nil]; omega)
abbrev rmX1_restore_ok : Room := { frames := 3, cells := 0, slots := 0, locals := 102 }
set_option maxHeartbeats 4000000 in
set_option maxRecDepth 100000 in
theorem kX1_restore_ok (g : GT) (h : Nat → Nat) (n : Nat) (sv : SV) (x : (Nat → Nat) × (Nat → Int32)) (b : Nat → Nat) (z : Nat → Int32) (hn : n < 6) (hx : sv[n]? = some x) : UC g yX1_restore wsX1_restore rmX1_restore_ok [.ref (h 0), .ref (b 0)] (HW g h (n + 1) sv ++ SW g b z) (Qf (some (.int 1)) (HW g h n sv ++ SW g b x.2)) := by
  refine UC.ofV (cc := cX1_restore) (maxL := 3) (ret := some .boolean) (lv0 := [(0, .ref (h 0)), (1, .ref (b 0))]) (by decide) rfl (Nat.le_of_ble_eq_true rfl) rfl ?_
  generalize hQF : QFr g rmX1_restore_ok (Qf (some (.int 1)) (HW g h n sv ++ SW g b x.2)) = QF
  have hq : QFok g rmX1_restore_ok (Qf (some (.int 1)) (HW g h n sv ++ SW g b x.2)) QF := hQF ▸ QFr.q
  refine V.perm pm_1 ?_
  refine V.aload_n 0 rfl dX1_restore_0 rfl ?_
  refine V.get (v := .int (nI (n + 1))) (fun w H => List.mem_cons_of_mem _ (List.mem_append_left _ (List.mem_append_left _ (List.mem_append_right _ H)))) (hc := (rfl : vwCl[1]? = some (RX1, TX1, 2))) 0 1 (by decide) (List.mem_of_getElem? (i := 1) rfl) rfl rfl dX1_restore_1 ?_
  refine V.if_le_f (tgt := 21) (by exact nI_ge (a := 0) (b := n + 1) (by omega) (by omega)) dX1_restore_4 (by decide) ?_
  refine V.aload_n 0 rfl dX1_restore_7 rfl ?_
  refine V.get (v := .ref (h 1)) (fun w H => List.mem_cons_of_mem _ (List.mem_append_left _ (List.mem_append_left _ (List.mem_append_right _ H)))) (hc := (rfl : vwCl[1]? = some (RX1, TX1, 2))) 0 0 (by decide) (List.mem_of_getElem? (i := 2) rfl) rfl rfl dX1_restore_8 ?_
  refine V.aload_n 0 rfl dX1_restore_11 rfl ?_
  refine V.get (v := .int (nI (n + 1))) (fun w H => List.mem_cons_of_mem _ (List.mem_append_left _ (List.mem_append_left _ (List.mem_append_right _ H)))) (hc := (rfl : vwCl[1]? = some (RX1, TX1, 2))) 0 1 (by decide) (List.mem_of_getElem? (i := 1) rfl) rfl rfl dX1_restore_12 ?_
  refine V.iconst (v := 1) dX1_restore_15 (by decide) ?_
  refine V.isubN (v := nI n) dX1_restore_16 (nI_s1 _) ?_
  refine V.aald (f := svf sv) 1 n rfl rfl (by omega) (by decide) (by rw [svf, hx] <;> rfl) dX1_restore_17 ?_
  refine V.goto (tgt := 22) dX1_restore_18 (by decide) ?_
  refine V.astore_n (lv2 := [(2, .ref (x.1 0)), (0, .ref (h 0)), (1, .ref (b 0))]) dX1_restore_22 rfl (by decide) rfl ?_
  refine V.aload_n 0 rfl dX1_restore_23 rfl ?_
  refine V.ifnonnull (tgt := 29) dX1_restore_24 (by decide) ?_
  obtain ⟨l, r, hs, hl⟩ := sv_at hx
  refine V.eqws (ws2 := (HP g h (nI (n + 1)) (svf sv) ++ SW g b z) ++ (SWs g l ++ (SW g x.1 x.2 ++ SWs g r))) (by rw [hs, SWs_app] <;> rfl) ?_
  refine V.perm pm_2 ?_
  refine V.aload_n 2 rfl dX1_restore_29 rfl ?_
  refine V.aload_n 0 rfl dX1_restore_30 rfl ?_
  refine V.callVPf (ws2 := (HP g h (nI (n + 1)) (svf sv)) ++ (SW g x.1 x.2) ++ (SW g b x.2) ++ (SWs g l ++ SWs g r)) (st2 := []) [.ref (x.1 0)] [] (kX2_copyFrom g b z x.1 x.2 ) gX1_restore_X2_copyFrom rfl (by show _ ∧ _ ∧ _ ∧ _ = some (1 : Nat); decide +kernel) ⟨Nat.le_of_ble_eq_true rfl, Nat.le_of_ble_eq_true rfl⟩ (hc := (rfl : vwCl[2]? = some (RX2, TX2, 12))) 0 rfl pv4_2_1 rfl (Nat.le_of_ble_eq_true rfl) ⟨Nat.le_of_ble_eq_true rfl, Nat.le_of_ble_eq_true rfl⟩ dX1_restore_31 SSm pv4_2_1.symm rfl rfl rfl ?_
  refine V.aload_n 1 rfl dX1_restore_34 rfl ?_
  refine V.dup dX1_restore_35 rfl ?_
  refine V.get (v := .int (nI (n + 1))) (fun w H => List.mem_cons_of_mem _ (List.mem_append_left _ (List.mem_append_left _ (List.mem_append_right _ H)))) (hc := (rfl : vwCl[1]? = some (RX1, TX1, 2))) 0 1 (by decide) (List.mem_of_getElem? (i := 1) rfl) rfl rfl dX1_restore_36 ?_
  refine V.iconst (v := 1) dX1_restore_39 (by decide) ?_
  refine V.isubN (v := nI n) dX1_restore_40 (nI_s1 _) ?_
  refine V.put (v := .int (nI n)) (ws2 := (HP g h (nI n) (svf sv)) ++ (SW g x.1 x.2) ++ (SW g b x.2) ++ (SWs g l ++ SWs g r)) (fun w H => List.mem_cons_of_mem _ (List.mem_append_left _ (List.mem_append_left _ (List.mem_append_right _ H)))) tyX1 tyX1_ok nmX1 (hc := (rfl : vwCl[1]? = some (RX1, TX1, 2))) 0 1 (by decide) (List.mem_of_getElem? (i := 1) rfl) rfl rfl (tyX1_ok 1 (by decide)) rfl rfl (Nat.le_of_ble_eq_true rfl) rfl dX1_restore_41 ?_
  refine V.iconst (v := 1) dX1_restore_44 (by decide) ?_
  refine V.perm pm_3 ?_
  refine V.eqws (ws2 := HW g h n sv ++ SW g b x.2) (by rw [HW, hs, SWs_app] <;> rfl) ?_
  exact V.zret hq XM.r rfl (Nat.le_of_ble_eq_true rfl) (Nat.le_of_ble_eq_true rfl) ⟨rfl, rfl⟩ dX1_restore_45
theorem pv4_1_2 {α : Type} {A0 A1 A2 A3 : List α} : ((((A0 ++ A1) ++ A2) ++ A3)).Perm (((A1 ++ A2)) ++ ((A0 ++ A3))) := by
  classical
  exact List.perm_iff_count.mpr (fun a => by simp only [List.count_append, List.count_nil]; omega)
abbrev rmX1_save : Room := { frames := 3, cells := 10, slots := 261, locals := 102 }
set_option maxHeartbeats 4000000 in
set_option maxRecDepth 100000 in
theorem kX1_save (g : GT) (h : Nat → Nat) (n : Nat) (sv : SV) (b : Nat → Nat) (z : Nat → Int32) (hn : n ≤ 6) (hnl : n ≤ sv.length) (hl6 : sv.length ≤ 6) : UC g yX1_save wsX1_save rmX1_save [.ref (h 0), .ref (b 0)] (HW g h n sv ++ SW g b z) (fun v w => v = none ∧ ∃ sv2 : SV, svQ (svM n) (svR n sv) sv2 z ∧ w = HW g h (svM n + 1) sv2 ++ SW g b z) := by
  refine UC.ofV (cc := cX1_save) (maxL := 3) (ret := none) (lv0 := [(0, .ref (h 0)), (1, .ref (b 0))]) (by decide) rfl (Nat.le_of_ble_eq_true rfl) rfl ?_
  generalize hQF : QFr g rmX1_save (fun v w => v = none ∧ ∃ sv2 : SV, svQ (svM n) (svR n sv) sv2 z ∧ w = HW g h (svM n + 1) sv2 ++ SW g b z) = QF
  have hq : QFok g rmX1_save (fun v w => v = none ∧ ∃ sv2 : SV, svQ (svM n) (svR n sv) sv2 z ∧ w = HW g h (svM n + 1) sv2 ++ SW g b z) QF := hQF ▸ QFr.q
  have J13 : ∀ (m : Nat) (sv1 : SV), m ≤ 5 → m ≤ sv1.length → sv1.length ≤ 6 → (∀ sv2, svQ m sv1 sv2 z → svQ (svM n) (svR n sv) sv2 z) → (m + 1 = svM n + 1) → V g rmX1_save RX1 cX1_save wsX1_save 3 QF (XM none "save") 0 0 (HW g h m sv1 ++ SW g b z) 13 [(0, .ref (h 0)), (1, .ref (b 0))] [] := by
    intro m sv1 hm hml hl6 hR hmn
    refine V.perm pm_1 ?_
    refine V.aload_n 0 rfl dX1_save_13 rfl ?_
    refine V.get (v := .ref (h 1)) (fun w H => List.mem_cons_of_mem _ (List.mem_append_left _ (List.mem_append_left _ (List.mem_append_right _ H)))) (hc := (rfl : vwCl[1]? = some (RX1, TX1, 2))) 0 0 (by decide) (List.mem_of_getElem? (i := 2) rfl) rfl rfl dX1_save_14 ?_
    refine V.aload_n 0 rfl dX1_save_17 rfl ?_
    refine V.get (v := .int (nI m)) (fun w H => List.mem_cons_of_mem _ (List.mem_append_left _ (List.mem_append_left _ (List.mem_append_right _ H)))) (hc := (rfl : vwCl[1]? = some (RX1, TX1, 2))) 0 1 (by decide) (List.mem_of_getElem? (i := 1) rfl) rfl rfl dX1_save_18 ?_
    rcases hx : sv1[m]? with _ | x
    · skip
      have hlen : sv1.length = m := by have := List.getElem?_eq_none_iff.mp hx; omega
      refine V.aald (f := svf sv1) 1 m rfl rfl (by omega) (by decide) (by rw [svf, hx] <;> rfl) dX1_save_21 ?_
      refine V.nstore_n (lv2 := [(2, .null), (0, .ref (h 0)), (1, .ref (b 0))]) dX1_save_22 rfl (by decide) rfl ?_
      refine V.nload_n 0 rfl dX1_save_23 rfl ?_
      refine V.ifnonnullN dX1_save_24 ?_
      refine V.new (fs := [.int 0, .int 0, .int 0, .int 0, .int 0, .int 0, .int 0, .null, .null, .null, .null, .null]) (fun w H => List.mem_cons_of_mem _ (List.mem_append_left _ (List.mem_append_right _ H))) tyX2 tyX2_ok (by decide +kernel) (by decide +kernel) (by decide +kernel) (hc := (rfl : vwCl[2]? = some (RX2, TX2, 12))) (by decide +kernel) (Nat.le_of_ble_eq_true rfl) (Nat.le_of_ble_eq_true rfl) dX1_save_27 (fun b1 => ?_)
      refine V.dup dX1_save_30 rfl ?_
      refine V.callIP (F := ((HP g h (nI m) (svf sv1) ++ SW g b z) ++ SWs g sv1)) [] [.ref b1] (kX2_init g b1) ggX1_save_X2_init rfl (by decide +kernel) (by decide +kernel) (by decide +kernel) rfl (by show _ ∧ _ ∧ _ = some (0 : Nat); decide +kernel) ⟨(Nat.le_of_ble_eq_true rfl), (Nat.le_of_ble_eq_true rfl)⟩ List.perm_append_comm rfl (Nat.le_of_ble_eq_true rfl) ⟨(Nat.le_of_ble_eq_true rfl), (Nat.le_of_ble_eq_true rfl)⟩ dX1_save_31 (fun v w hq2 => ?_) (fun v w hq2 => ?_)
      · obtain ⟨-, b2, rfl, rfl⟩ := hq2; exact rfl
      obtain ⟨rfl, b2, hb2, rfl⟩ := hq2
      subst hb2
      refine V.perm pm_4 ?_
      refine V.eqst (st2 := [.ref (b2 0)]) rfl ?_
      refine V.astore_n (lv2 := [(2, .ref (b2 0)), (0, .ref (h 0)), (1, .ref (b 0))]) dX1_save_34 rfl (by decide) rfl ?_
      refine V.aload_n 1 rfl dX1_save_35 rfl ?_
      refine V.get (v := .ref (h 1)) (fun w H => List.mem_cons_of_mem _ (List.mem_append_left _ (List.mem_append_left _ (List.mem_append_right _ H)))) (hc := (rfl : vwCl[1]? = some (RX1, TX1, 2))) 0 0 (by decide) (List.mem_of_getElem? (i := 2) rfl) rfl rfl dX1_save_36 ?_
      refine V.aload_n 1 rfl dX1_save_39 rfl ?_
      refine V.get (v := .int (nI m)) (fun w H => List.mem_cons_of_mem _ (List.mem_append_left _ (List.mem_append_left _ (List.mem_append_right _ H)))) (hc := (rfl : vwCl[1]? = some (RX1, TX1, 2))) 0 1 (by decide) (List.mem_of_getElem? (i := 1) rfl) rfl rfl dX1_save_40 ?_
      refine V.aload_n 0 rfl dX1_save_43 rfl ?_
      refine V.aast (ci := 0) (f := svf sv1) (ws2 := (HP g h (nI m) (va_up (svf sv1) m (some (b2 0)))) ++ (SW g b2 ziZ) ++ (SW g b z) ++ (SWs g sv1)) 1 m 2 rfl rfl rfl (by omega) (by decide) rfl dX1_save_44 ?_
      refine V.aload_n 0 rfl dX1_save_45 rfl ?_
      refine V.aload_n 2 rfl dX1_save_46 rfl ?_
      refine V.callVPf (ws2 := (HP g h (nI m) (va_up (svf sv1) m (some (b2 0)))) ++ (SW g b2 z) ++ (SW g b z) ++ (SWs g sv1)) (st2 := []) [.ref (b 0)] [] (kX2_copyFrom g b2 ziZ b z ) gX1_save_X2_copyFrom rfl (by show _ ∧ _ ∧ _ ∧ _ = some (1 : Nat); decide +kernel) ⟨Nat.le_of_ble_eq_true rfl, Nat.le_of_ble_eq_true rfl⟩ (hc := (rfl : vwCl[2]? = some (RX2, TX2, 12))) 0 rfl pv4_1_2 rfl (Nat.le_of_ble_eq_true rfl) ⟨Nat.le_of_ble_eq_true rfl, Nat.le_of_ble_eq_true rfl⟩ dX1_save_47 SSm pv4_1_2.symm rfl rfl rfl ?_
      refine V.aload_n 1 rfl dX1_save_50 rfl ?_
      refine V.dup dX1_save_51 rfl ?_
      refine V.get (v := .int (nI m)) (fun w H => List.mem_cons_of_mem _ (List.mem_append_left _ (List.mem_append_left _ (List.mem_append_right _ H)))) (hc := (rfl : vwCl[1]? = some (RX1, TX1, 2))) 0 1 (by decide) (List.mem_of_getElem? (i := 1) rfl) rfl rfl dX1_save_52 ?_
      refine V.iconst (v := 1) dX1_save_55 (by decide) ?_
      refine V.iaddN (v := nI (m + 1)) dX1_save_56 (nI_add m 1) ?_
      refine V.put (v := .int (nI (m + 1))) (ws2 := (HP g h (nI (m + 1)) (va_up (svf sv1) m (some (b2 0)))) ++ (SW g b2 z) ++ (SW g b z) ++ (SWs g sv1)) (fun w H => List.mem_cons_of_mem _ (List.mem_append_left _ (List.mem_append_left _ (List.mem_append_right _ H)))) tyX1 tyX1_ok nmX1 (hc := (rfl : vwCl[1]? = some (RX1, TX1, 2))) 0 1 (by decide) (List.mem_of_getElem? (i := 1) rfl) rfl rfl (tyX1_ok 1 (by decide)) rfl rfl (Nat.le_of_ble_eq_true rfl) rfl dX1_save_57 ?_
      refine V.perm pm_5 ?_
      refine V.eqws (ws2 := HW g h (m + 1) (sv1 ++ [(b2, z)]) ++ SW g b z) (by rw [HW, SWs_app, ← svf_add hlen] <;> rfl) ?_
      exact V.vret hq XM.r (Nat.le_of_ble_eq_true rfl) (Nat.le_of_ble_eq_true rfl) ⟨rfl, sv1 ++ [(b2, z)], hR _ ⟨by rw [List.length_append]; show sv1.length + 1 ≤ 6; omega, by rw [List.length_append]; show m + 1 ≤ sv1.length + 1; omega, ⟨(b2, z), by rw [List.getElem?_append_right (by omega), show m - sv1.length = 0 by omega]; rfl, rfl⟩, fun k hk => by rw [List.getElem?_append_left (by omega)], [b2], by rw [List.map_append]; exact List.Perm.refl _⟩, by rw [hmn]⟩ dX1_save_60
    · skip
      refine V.aald (f := svf sv1) 1 m rfl rfl (by omega) (by decide) (by rw [svf, hx] <;> rfl) dX1_save_21 ?_
      refine V.astore_n (lv2 := [(2, .ref (x.1 0)), (0, .ref (h 0)), (1, .ref (b 0))]) dX1_save_22 rfl (by decide) rfl ?_
      refine V.aload_n 0 rfl dX1_save_23 rfl ?_
      refine V.ifnonnull (tgt := 45) dX1_save_24 (by decide) ?_
      obtain ⟨l, r, hs, hl⟩ := sv_at hx
      refine V.eqws (ws2 := (HP g h (nI m) (svf sv1) ++ SW g b z) ++ (SWs g l ++ (SW g x.1 x.2 ++ SWs g r))) (by rw [hs, SWs_app] <;> rfl) ?_
      refine V.perm pm_2 ?_
      refine V.aload_n 0 rfl dX1_save_45 rfl ?_
      refine V.aload_n 2 rfl dX1_save_46 rfl ?_
      refine V.callVPf (ws2 := (HP g h (nI m) (svf sv1)) ++ (SW g x.1 z) ++ (SW g b z) ++ (SWs g l ++ SWs g r)) (st2 := []) [.ref (b 0)] [] (kX2_copyFrom g x.1 x.2 b z ) gX1_save_X2_copyFrom rfl (by show _ ∧ _ ∧ _ ∧ _ = some (1 : Nat); decide +kernel) ⟨Nat.le_of_ble_eq_true rfl, Nat.le_of_ble_eq_true rfl⟩ (hc := (rfl : vwCl[2]? = some (RX2, TX2, 12))) 0 rfl pv4_1_2 rfl (Nat.le_of_ble_eq_true rfl) ⟨Nat.le_of_ble_eq_true rfl, Nat.le_of_ble_eq_true rfl⟩ dX1_save_47 SSm pv4_1_2.symm rfl rfl rfl ?_
      refine V.aload_n 1 rfl dX1_save_50 rfl ?_
      refine V.dup dX1_save_51 rfl ?_
      refine V.get (v := .int (nI m)) (fun w H => List.mem_cons_of_mem _ (List.mem_append_left _ (List.mem_append_left _ (List.mem_append_right _ H)))) (hc := (rfl : vwCl[1]? = some (RX1, TX1, 2))) 0 1 (by decide) (List.mem_of_getElem? (i := 1) rfl) rfl rfl dX1_save_52 ?_
      refine V.iconst (v := 1) dX1_save_55 (by decide) ?_
      refine V.iaddN (v := nI (m + 1)) dX1_save_56 (nI_add m 1) ?_
      refine V.put (v := .int (nI (m + 1))) (ws2 := (HP g h (nI (m + 1)) (svf sv1)) ++ (SW g x.1 z) ++ (SW g b z) ++ (SWs g l ++ SWs g r)) (fun w H => List.mem_cons_of_mem _ (List.mem_append_left _ (List.mem_append_left _ (List.mem_append_right _ H)))) tyX1 tyX1_ok nmX1 (hc := (rfl : vwCl[1]? = some (RX1, TX1, 2))) 0 1 (by decide) (List.mem_of_getElem? (i := 1) rfl) rfl rfl (tyX1_ok 1 (by decide)) rfl rfl (Nat.le_of_ble_eq_true rfl) rfl dX1_save_57 ?_
      refine V.perm pm_3 ?_
      refine V.eqws (ws2 := HW g h (m + 1) (l ++ (x.1, z) :: r) ++ SW g b z) (by rw [HW, SWs_app, hs, svf_set (z := z)] <;> rfl) ?_
      exact V.vret hq XM.r (Nat.le_of_ble_eq_true rfl) (Nat.le_of_ble_eq_true rfl) ⟨rfl, l ++ (x.1, z) :: r, hR _ ⟨by rw [hs] at hl6; simpa using hl6, by rw [List.length_append]; show m + 1 ≤ l.length + (r.length + 1); omega, ⟨(x.1, z), by rw [List.getElem?_append_right (by omega), show m - l.length = 0 by omega]; rfl, rfl⟩, fun k hk => by rw [hs, List.getElem?_append_left (by omega), List.getElem?_append_left (by omega)], [], by rw [hs, List.append_nil, List.map_append, List.map_append]; exact List.Perm.refl _⟩, by rw [hmn]⟩ dX1_save_60
  by_cases hn6 : n = 6
  · subst hn6
    obtain ⟨x0, x1, x2, x3, x4, x5, rfl⟩ := sv_6 (by omega : sv.length = 6)
    refine V.aload_n 0 rfl dX1_save_0 rfl ?_
    refine V.get (v := .int (nI 6)) (fun w H => List.mem_cons_of_mem _ (List.mem_append_left _ (List.mem_append_left _ (List.mem_append_right _ H)))) (hc := (rfl : vwCl[1]? = some (RX1, TX1, 2))) 0 1 (by decide) (List.mem_of_getElem? (i := 1) rfl) rfl rfl dX1_save_1 ?_
    refine V.bipush (v := 6) dX1_save_4 (by decide) ?_
    refine V.icmp_lt_f (tgt := 13) (by decide) dX1_save_6 (by decide) ?_
    refine V.aload_n 0 rfl dX1_save_9 rfl ?_
    refine V.callVP (F := SW g b z) [] [] (kX1_dropOldest g h x0 x1 x2 x3 x4 x5) gX1_save_X1_dropOldest rfl (by show _ ∧ _ ∧ _ ∧ _ = some (0 : Nat); decide +kernel) ⟨(Nat.le_of_ble_eq_true rfl), (Nat.le_of_ble_eq_true rfl)⟩ (hc := (rfl : vwCl[1]? = some (RX1, TX1, 2))) 0 rfl (List.Perm.refl _) rfl (Nat.le_of_ble_eq_true rfl) ⟨(Nat.le_of_ble_eq_true rfl), (Nat.le_of_ble_eq_true rfl)⟩ dX1_save_10 (fun v w hq2 => by rw [hq2.2]; exact FST.of rfl) (fun v w hq2 => ?_)
    obtain ⟨rfl, rfl⟩ := hq2
    refine V.perm (List.Perm.append_right _ pm_6) ?_
    exact J13 5 [x1, x2, x3, x4, x5, x0] (by decide) (by show 5 ≤ 6; decide) (by show 6 ≤ 6; decide) (fun _ h => h) rfl
  · skip
    refine V.aload_n 0 rfl dX1_save_0 rfl ?_
    refine V.get (v := .int (nI n)) (fun w H => List.mem_cons_of_mem _ (List.mem_append_left _ (List.mem_append_left _ (List.mem_append_right _ H)))) (hc := (rfl : vwCl[1]? = some (RX1, TX1, 2))) 0 1 (by decide) (List.mem_of_getElem? (i := 1) rfl) rfl rfl dX1_save_1 ?_
    refine V.bipush (v := 6) dX1_save_4 (by decide) ?_
    refine V.icmp_lt_t (tgt := 13) (by exact nI_lt (a := n) (b := 6) (by omega) (by decide)) dX1_save_6 (by decide) ?_
    exact J13 n sv (by omega) hnl hl6 (fun sv2 h => by rw [svM, if_neg hn6, svR, if_neg hn6]; exact h) (by rw [svM, if_neg hn6])
