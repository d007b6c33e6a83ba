/-! the law from its entry to its loop -/
theorem pvZ {G M O : va_W} : ((G ++ M) ++ O).Perm (((([] : va_W) ++ O) ++ G) ++ M) := by
  refine List.perm_append_comm.trans ?_
  show (O ++ (G ++ M)).Perm ((O ++ G) ++ M)
  rw [List.append_assoc]
theorem LI_0 {hi tx : Nat → Int32} {f : Nat → Int32} : LI 0 ziZ 0 [] hi tx 0 (f, none, 0, false) :=
  ⟨IV.z0, ⟨by omega, Nat.le_refl 0, by show (0 : Nat) ≤ 6; omega, fun k hk => absurd hk (Nat.not_lt_zero _)⟩, by omega, fun j hj => absurd hj (Nat.not_lt_zero _), by show (0 : Nat) ≤ 60; omega⟩
set_option maxHeartbeats 4000000 in
set_option maxRecDepth 100000 in
theorem law_V (g : GT) (hst : g.1.stackTraces = false) (QF : QT) (sa L : Nat) (hL : L ≤ 3072) (sc : Nat → Int32) (hend : ∀ (k n : Nat) (ws : va_W) (lv : List (Nat × Value)), k ≤ 601024 → n ≤ 7293034 → V g rmL_law RL cL_law wsL_law 9 QF (XL sa L sc) k n ws 1535 lv []) : V g rmL_law RL cL_law wsL_law 9 QF (XL sa L sc) 0 0 [] 0 [(0, .ref sa)] [] := by
  refine V.new (fs := [.null, .null, .null, .null, .null]) (fun w H => (gL_law_X5_init w (List.mem_cons_of_mem _ (List.mem_append_left _ (List.mem_append_left _ (List.mem_append_left _ (List.mem_append_left _ (List.mem_append_right _ H))))))).1) tyX5 tyX5_ok (List.mem_of_getElem? (i := 0) rfl) (List.mem_of_getElem? (i := 1) rfl) (List.mem_of_getElem? (i := 2) rfl) (hc := (rfl : vwCl[5]? = some (RX5, TX5, 5))) (by decide +kernel) (Nat.le_of_ble_eq_true rfl) (Nat.le_of_ble_eq_true rfl) dL_law_0 (fun o => ?_)
  refine V.dup dL_law_3 rfl ?_
  refine V.callIP (F := []) [] [.ref o] (kX5_init g o) gL_law_X5_init rfl (List.mem_of_getElem? (i := 2) rfl) (List.mem_of_getElem? (i := 7) rfl) (List.mem_of_getElem? (i := 8) rfl) rfl (by show _ ∧ _ ∧ _ = some (0 : Nat); decide +kernel) ⟨(Nat.le_of_ble_eq_true rfl), (Nat.le_of_ble_eq_true rfl)⟩ (List.Perm.refl _) rfl (Nat.le_of_ble_eq_true rfl) ⟨(Nat.le_of_ble_eq_true rfl), (Nat.le_of_ble_eq_true rfl)⟩ dL_law_4 (fun r w hq2 => ?_) (fun r w hq2 => ?_)
  · obtain ⟨-, b, c, u, h, x, rfl⟩ := hq2; exact rfl
  obtain ⟨rfl, b, c, u, h, x, rfl⟩ := hq2
  refine V.eqws (ws2 := GW g o b c u h x ziZ ziZ (fun _ => 0) (fun _ => 0) (fun _ => 0) (fun _ => 0) 0 ((fun _ => 0), none, 0, false) 0 []) (List.append_nil _) ?_
  refine V.eqst (st2 := [.ref o]) rfl ?_
  refine V.astore_n (lv2 := [(1, .ref o), (0, .ref sa)]) dL_law_7 rfl (by decide) rfl ?_
  refine V.new (fs := [.null, .int 0, .null, .int 0, .null, .int 0, .null, .null, .null, .null, .int 0, .int 0, .int 0, .null, .long 0]) (fun w H => (gL_law_X6_init w (List.mem_cons_of_mem _ (List.mem_append_right _ H))).1) tyX6 tyX6_ok (List.mem_of_getElem? (i := 3) rfl) (List.mem_of_getElem? (i := 4) rfl) (List.mem_of_getElem? (i := 5) rfl) (hc := (rfl : vwCl[6]? = some (RX6, TX6, 15))) (by decide +kernel) (Nat.le_of_ble_eq_true rfl) (Nat.le_of_ble_eq_true rfl) dL_law_8 (fun m => ?_)
  refine V.dup dL_law_11 rfl ?_
  refine V.callIP (F := GW g o b c u h x ziZ ziZ (fun _ => 0) (fun _ => 0) (fun _ => 0) (fun _ => 0) 0 ((fun _ => 0), none, 0, false) 0 []) [] [.ref m] (kX6_init g m) gL_law_X6_init rfl (List.mem_of_getElem? (i := 5) rfl) (List.mem_of_getElem? (i := 75) rfl) (List.mem_of_getElem? (i := 76) rfl) rfl (by show _ ∧ _ ∧ _ = some (0 : Nat); decide +kernel) ⟨(Nat.le_of_ble_eq_true rfl), (Nat.le_of_ble_eq_true rfl)⟩ List.perm_append_comm rfl (Nat.le_of_ble_eq_true rfl) ⟨(Nat.le_of_ble_eq_true rfl), (Nat.le_of_ble_eq_true rfl)⟩ dL_law_12 (fun r w hq2 => ?_) (fun r w hq2 => ?_)
  · obtain ⟨-, a, rfl, rfl⟩ := hq2; exact rfl
  obtain ⟨rfl, a, rfl, rfl⟩ := hq2
  refine V.perm List.perm_append_comm ?_
  refine V.eqst (st2 := [.ref (a 0)]) rfl ?_
  refine V.astore_n (lv2 := [(2, .ref (a 0)), (1, .ref o), (0, .ref sa)]) dL_law_15 rfl (by decide) rfl ?_
  refine V.iconst (v := 1) dL_law_16 (by decide) ?_
  refine V.newa (ty := .long) (len := 1) (t := 3) (a0 := (1, .inr (.inl (fun _ => 0)))) (List.mem_of_getElem? (i := 6) rfl) rfl rfl (by decide) (fun cA => rfl) (by decide) rfl (Nat.le_of_ble_eq_true rfl) (Nat.le_of_ble_eq_true rfl) (Nat.le_of_ble_eq_true rfl) dL_law_17 (fun ob => ?_)
  refine V.perm (ws2 := (SCW g sa L sc ++ OB g ob (fun _ => 0) ++ GW g o b c u h x ziZ ziZ (fun _ => 0) (fun _ => 0) (fun _ => 0) (fun _ => 0) 0 ((fun _ => 0), none, 0, false) 0 []) ++ MW g a ziZ (fun _ => 0) (fun _ => 0) (fun _ => 0) (fun _ => 0) (fun _ => 0) (fun _ => 0) (fun _ => 0) (nI 0) (nI 0) 0 0 0 0 0) pvZ ?_
  refine V.astore_n (lv2 := [(3, .ref ob), (2, .ref (a 0)), (1, .ref o), (0, .ref sa)]) dL_law_19 rfl (by decide) rfl ?_
  refine V.iconst (v := 0) dL_law_20 (by decide) ?_
  refine V.istore (lv2 := [(4, .int (nI (6 * 0))), (3, .ref ob), (2, .ref (a 0)), (1, .ref o), (0, .ref sa)]) dL_law_21 (by decide) rfl ?_
  refine V.widen (k2 := 40) (n2 := 3000) (Nat.le_of_ble_eq_true rfl) (Nat.le_of_ble_eq_true rfl) ?_
  exact law_loop g hst QF sa ob o b c u h x a L hL sc hend 513 0 40 3000 (by omega) (by omega) (by omega) (fun _ => 0) ziZ ziZ (fun _ => 0) (fun _ => 0) (fun _ => 0) (fun _ => 0) 0 ((fun _ => 0), none, 0, false) 0 [] (fun _ => 0) (fun _ => 0) (fun _ => 0) (fun _ => 0) (fun _ => 0) (fun _ => 0) 0 0 0 0 0 LI_0
