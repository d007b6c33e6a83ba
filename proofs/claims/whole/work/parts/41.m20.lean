theorem IX.ly {z : Nat → Int32} {n p : Nat} {o : Option Nat} {t : Int32} (h : IX z) (hn : n < 4) (hp : ∀ f, o = some f → p < 24) : IX (lyZ n p o z t) := by
  cases o with
  | none => exact h
  | some f =>
    have hp := hp f rfl
    have h1 : IX (lya z p) := h.gz (h.2.1 p hp)
    have h2 : IX (lyb z p t) := h1.up (by omega) (by omega) (by omega) (by omega) (fun _ _ => by omega) (fun _ _ => by omega) (by omega)
    have h3 : IX (lyc z p t n) := h2.up (by omega) (by omega) (by omega) (by omega) (fun _ _ => by omega) (fun _ _ => by omega) (by omega)
    have h4 : IX (lyd z p t n f) := h3.up (by omega) (by omega) (by omega) (by omega) (fun _ _ => by omega) (fun _ _ => by omega) (by omega)
    exact h4.up (by omega) (by omega) (by omega) (by omega) (fun _ _ => by omega) (fun _ _ => by omega) (by omega)
abbrev rmX4_placeParts : Room := { frames := 3, cells := 0, slots := 0, locals := 71 }
set_option maxHeartbeats 4000000 in
set_option maxRecDepth 100000 in
theorem kX4_placeParts (g : GT) (u : Nat → Nat) (ai : Nat → Int32) (pa : Nat → Int32) (tu : Nat → Int32) (b : Nat → Nat) (z : Nat → Int32) (hX : IX z) (hqo : ∀ k, k < 4 → okN 8 (pa k)) (hai : ∀ k, k < 4 → ∀ f, de (pa k) = some f → ai k = nI (ai k).toNatClampNeg ∧ (ai k).toNatClampNeg < 24) (htu : ∀ n, n < 4 → tu n = 0 ∨ tu n = 1) : UC g yX4_placeParts wsX4_placeParts rmX4_placeParts [.ref (u 0), .ref (b 0)] ((UW g u ai pa tu) ++ (SW g b z)) (Qf (some (.int ((fu (rYF ai pa tu) 0 4 (z, 0)).2))) ((UW g u ai pa tu) ++ (SW g b ((fu (rYF ai pa tu) 0 4 (z, 0)).1)))) := by
  refine UC.ofV (cc := cX4_placeParts) (maxL := 4) (ret := some .int) (lv0 := [(0, .ref (u 0)), (1, .ref (b 0))]) (by decide) rfl (Nat.le_of_ble_eq_true rfl) rfl ?_
  generalize hQF : QFr g rmX4_placeParts (Qf (some (.int ((fu (rYF ai pa tu) 0 4 (z, 0)).2))) ((UW g u ai pa tu) ++ (SW g b ((fu (rYF ai pa tu) 0 4 (z, 0)).1)))) = QF
  have hq : QFok g rmX4_placeParts (Qf (some (.int ((fu (rYF ai pa tu) 0 4 (z, 0)).2))) ((UW g u ai pa tu) ++ (SW g b ((fu (rYF ai pa tu) 0 4 (z, 0)).1)))) QF := hQF ▸ QFr.q
  refine V.iconst (v := 0) dX4_placeParts_0 (by decide) ?_
  refine V.istore_n (lv2 := [(2, .int 0), (0, .ref (u 0)), (1, .ref (b 0))]) dX4_placeParts_1 rfl (by decide) rfl ?_
  refine V.iconst (v := 0) dX4_placeParts_2 (by decide) ?_
  refine V.istore_n (lv2 := [(3, .int 0), (2, .int 0), (0, .ref (u 0)), (1, .ref (b 0))]) dX4_placeParts_3 rfl (by decide) rfl ?_
  have L4 : ∀ (kL : Nat) (i : Nat) (s : (Nat → Int32) × Int32), i + kL = 4 → (IX s.1) → (fu (rYF ai pa tu) i kL s = fu (rYF ai pa tu) 0 4 (z, 0)) → V g rmX4_placeParts RX4 cX4_placeParts wsX4_placeParts 4 QF (XM (some .int) "placeParts") 0 0 ((UW g u ai pa tu) ++ (SW g b s.1)) 4 [(3, .int (nI i)), (2, .int s.2), (0, .ref (u 0)), (1, .ref (b 0))] [] := by
    intro kL
    induction kL with
    | zero =>
      intro i s hrel hXs hfu
      rw [fu_0] at hfu
      refine V.iload_n 0 rfl dX4_placeParts_4 rfl ?_
      refine V.iconst (v := 4) dX4_placeParts_5 (by decide) ?_
      refine V.icmp_ge_t (tgt := 34) (by rw [show i = 4 from by omega]; decide) dX4_placeParts_6 (by decide) ?_
      refine V.iload_n 1 rfl dX4_placeParts_34 rfl ?_
      exact V.iret hq XM.r (Nat.le_of_ble_eq_true rfl) (Nat.le_of_ble_eq_true rfl) ⟨by rw [← hfu] <;> rfl, by rw [← hfu] <;> rfl⟩ dX4_placeParts_35
    | succ kL ih =>
      intro i s hrel hXs hfu
      rw [fu_s] at hfu
      refine V.iload_n 0 rfl dX4_placeParts_4 rfl ?_
      refine V.iconst (v := 4) dX4_placeParts_5 (by decide) ?_
      refine V.icmp_ge_f (tgt := 34) (by exact nI_ge (a := i) (b := 4) (by omega) (by decide)) dX4_placeParts_6 (by decide) ?_
      refine V.aload_n 2 rfl dX4_placeParts_9 rfl ?_
      refine V.get (v := .ref (u 2)) (fun w H => List.mem_cons_of_mem _ (List.mem_append_left _ (List.mem_append_left _ (List.mem_append_right _ H)))) (hc := (rfl : vwCl[4]? = some (RX4, TX4, 3))) 0 1 (by decide) (List.mem_of_getElem? (i := 1) rfl) rfl rfl dX4_placeParts_10 ?_
      obtain ⟨ho1, hok⟩ := hqo i (by omega)
      have hai1 := hai i (by omega)
      have hr : rYF ai pa tu i s = (lyZ i (ai i).toNatClampNeg (de (pa i)) s.1 (tu i), s.2 + lyR (de (pa i))) := rfl
      generalize de (pa i) = o at ho1 hok hai1 hr
      refine V.iload_n 0 rfl dX4_placeParts_13 rfl ?_
      refine V.iald (f := pa) 2 i rfl rfl (by omega) (by decide) dX4_placeParts_14 ?_
      rw [ho1]
      refine V.iconst (v := -1) dX4_placeParts_15 (by decide) ?_
      cases o with
      | none =>
        refine V.icmp_eq_t (tgt := 28) (by decide) dX4_placeParts_16 (by decide) ?_
        refine V.eqws (ws2 := (UW g u ai pa tu) ++ (SW g b ((rYF ai pa tu i s).1))) (by rw [hr] <;> rfl) ?_
        rw [show s.2 = (rYF ai pa tu i s).2 from by rw [hr]; show s.2 = s.2 + 0; rw [Int32.add_zero]]
        refine V.iinc (v := nI (i + 1)) (lv2 := [(3, .int (nI (i + 1))), (2, .int ((rYF ai pa tu i s).2)), (0, .ref (u 0)), (1, .ref (b 0))]) 0 rfl dX4_placeParts_28 (nI_add i 1) (by decide) rfl ?_
        refine V.goto (tgt := 4) dX4_placeParts_31 (by decide) ?_
        refine V.eqlv (lv2 := [(3, .int (nI (i + 1))), (2, .int ((rYF ai pa tu i s).2)), (0, .ref (u 0)), (1, .ref (b 0))]) [0, 1, 2, 3] rfl ?_
        exact ih (i + 1) (rYF ai pa tu i s) (by omega) (hXs.ly (by omega) (fun f h => (hai i (by omega) f h).2)) hfu
      | some f =>
        have hf : f < 8 := hok f rfl
        obtain ⟨hai2, hp⟩ := hai1 f rfl
        refine V.icmp_eq_f (tgt := 28) (en_ne hf (by decide)) dX4_placeParts_16 (by decide) ?_
        refine V.aload_n 2 rfl dX4_placeParts_19 rfl ?_
        refine V.aload_n 3 rfl dX4_placeParts_20 rfl ?_
        refine V.iload_n 0 rfl dX4_placeParts_21 rfl ?_
        refine V.callVf (ws2 := (UW g u ai pa tu) ++ (SW g b (lyZ i ((ai i).toNatClampNeg) (some f) s.1 (tu i)))) (st2 := []) [.ref (b 0), .int (nI i)] [] (kX4_placePart g u ai pa tu b s.1 i ((ai i).toNatClampNeg) f (by omega) hp hf hai2 (show pa i = nI f from ho1) (htu i (by omega)) hXs) gX4_placeParts_X4_placePart rfl (by show _ ∧ _ ∧ _ ∧ _ = some (2 : Nat); decide +kernel) ⟨Nat.le_of_ble_eq_true rfl, Nat.le_of_ble_eq_true rfl⟩ (hc := (rfl : vwCl[4]? = some (RX4, TX4, 3))) 0 rfl [0, 1, 2, 3, 4, 5, 6, 7, 8, 9, 10, 11, 12, 13] (by decide) rfl rfl (Nat.le_of_ble_eq_true rfl) ⟨Nat.le_of_ble_eq_true rfl, Nat.le_of_ble_eq_true rfl⟩ dX4_placeParts_22 (USf rfl) rfl rfl rfl rfl ?_
        refine V.iinc (v := s.2 + 1) (lv2 := [(2, .int (s.2 + 1)), (3, .int (nI i)), (0, .ref (u 0)), (1, .ref (b 0))]) 1 rfl dX4_placeParts_25 rfl (by decide) rfl ?_
        refine V.eqws (ws2 := (UW g u ai pa tu) ++ (SW g b ((rYF ai pa tu i s).1))) (by rw [hr] <;> rfl) ?_
        rw [show s.2 + 1 = (rYF ai pa tu i s).2 from by rw [hr] <;> rfl]
        refine V.iinc (v := nI (i + 1)) (lv2 := [(3, .int (nI (i + 1))), (2, .int ((rYF ai pa tu i s).2)), (0, .ref (u 0)), (1, .ref (b 0))]) 1 rfl dX4_placeParts_28 (nI_add i 1) (by decide) rfl ?_
        refine V.goto (tgt := 4) dX4_placeParts_31 (by decide) ?_
        refine V.eqlv (lv2 := [(3, .int (nI (i + 1))), (2, .int ((rYF ai pa tu i s).2)), (0, .ref (u 0)), (1, .ref (b 0))]) [0, 1, 2, 3] rfl ?_
        exact ih (i + 1) (rYF ai pa tu i s) (by omega) (hXs.ly (by omega) (fun f h => (hai i (by omega) f h).2)) hfu
  refine V.eqlv (lv2 := [(3, .int 0), (2, .int 0), (0, .ref (u 0)), (1, .ref (b 0))]) [0, 1, 2, 3] rfl ?_
  exact L4 4 0 (z, 0) (by omega) hX rfl
