/-! what holds at the law's entry -/
theorem arr_K {s : State} {args : Array Value} {ty : FieldType} (h : (Cond.arrayClass ty).before args s = true) (ht : ty = .int ∨ ty = .boolean ∨ ty = .long) : ∃ cA : ClassId, ArrOfT s cA ty ∧ va_RA s cA ty := by
  obtain ⟨cA, kA, comp, h1, h2, h3⟩ := Cond.arrayClass_spec h
  refine ⟨cA, fun n z => ⟨(fun k q => by cases q), kA, h2, comp, h3⟩, ?_⟩
  rcases ht with rfl | rfl | rfl <;> exact h1
theorem arr_O {s : State} {args : Array Value} {C : String} (h : (Cond.arrayOver (.object C)).before args s = true) : ∃ cA : ClassId, ArrOfT s cA (.object C) ∧ va_RA s cA (.object C) := by
  obtain ⟨comp, cA, kA, h1, h2, h3, h4, h5⟩ := Cond.arrayOver_spec h
  exact ⟨cA, fun n z => ⟨(fun k q => by cases q), kA, h3, comp, h4⟩, kA, comp, h3, h4, h1, h5⟩
set_option maxRecDepth 100000 in
theorem st_S {s : State} {args : Array Value} {A : Nat → Prop} (hts : ∀ w ∈ lw_tbl, w.before args s = true) (hgv : (Jvm.Cond.and given_1 narrow_1).before args s = true) (hA : ∀ a : Nat, a < s.heap.size → ¬ A a) : ∃ t : Nat, va_Z "GossipHead" "GREATEST_SETTING" "[I" (.ref t) A s s.heap ∧ va_T .int t 5 (fun j => .int (gsT j)) A s s.heap := by
  have hn := flat_of_before _ hgv
  obtain ⟨t, ht, hT⟩ := va_Tof (tm := (.static "GossipHead" "GREATEST_SETTING" "[I")) (ty := .int) (N := 5) (f := fun j => .int (gsT j)) (A := A) (by decide) (hn (.arrayOf (.static "GossipHead" "GREATEST_SETTING" "[I") .int) (by decide +kernel)) (va_eqt (hn (.eq (.length (.static "GossipHead" "GREATEST_SETTING" "[I")) (.int 5)) (by decide +kernel))) (fun j hj => by
    rcases (show j = 0 ∨ j = 1 ∨ j = 2 ∨ j = 3 ∨ j = 4 by omega) with rfl | rfl | rfl | rfl | rfl
    · exact va_eqt (hn (.eq (.elem (.static "GossipHead" "GREATEST_SETTING" "[I") (.int 0)) (.int 5)) (by decide +kernel))
    · exact va_eqt (hn (.eq (.elem (.static "GossipHead" "GREATEST_SETTING" "[I") (.int 1)) (.int 50)) (by decide +kernel))
    · exact va_eqt (hn (.eq (.elem (.static "GossipHead" "GREATEST_SETTING" "[I") (.int 2)) (.int 50)) (by decide +kernel))
    · exact va_eqt (hn (.eq (.elem (.static "GossipHead" "GREATEST_SETTING" "[I") (.int 3)) (.int 100)) (by decide +kernel))
    · exact va_eqt (hn (.eq (.elem (.static "GossipHead" "GREATEST_SETTING" "[I") (.int 4)) (.int 100)) (by decide +kernel))) hA
  exact ⟨t, va_Zref (hts (.laysStatic "GossipHead" "GREATEST_SETTING" "[I") (by decide +kernel)) (hts (.initialized "GossipHead") (by decide +kernel)) ht hA, hT⟩
set_option maxRecDepth 100000 in
theorem st_N {s : State} {args : Array Value} {A : Nat → Prop} (hts : ∀ w ∈ lw_tbl, w.before args s = true) (hgv : (Jvm.Cond.and given_1 narrow_1).before args s = true) (hA : ∀ a : Nat, a < s.heap.size → ¬ A a) : ∃ t : Nat, va_Z "GossipHead$BoardText" "GREATEST_NUMBER" "[I" (.ref t) A s s.heap ∧ va_T .int t 3 (fun j => .int (gnT j)) A s s.heap := by
  have hn := flat_of_before _ hgv
  obtain ⟨t, ht, hT⟩ := va_Tof (tm := (.static "GossipHead$BoardText" "GREATEST_NUMBER" "[I")) (ty := .int) (N := 3) (f := fun j => .int (gnT j)) (A := A) (by decide) (hn (.arrayOf (.static "GossipHead$BoardText" "GREATEST_NUMBER" "[I") .int) (by decide +kernel)) (va_eqt (hn (.eq (.length (.static "GossipHead$BoardText" "GREATEST_NUMBER" "[I")) (.int 3)) (by decide +kernel))) (fun j hj => by
    rcases (show j = 0 ∨ j = 1 ∨ j = 2 by omega) with rfl | rfl | rfl
    · exact va_eqt (hn (.eq (.elem (.static "GossipHead$BoardText" "GREATEST_NUMBER" "[I") (.int 0)) (.int 99)) (by decide +kernel))
    · exact va_eqt (hn (.eq (.elem (.static "GossipHead$BoardText" "GREATEST_NUMBER" "[I") (.int 1)) (.int 5)) (by decide +kernel))
    · exact va_eqt (hn (.eq (.elem (.static "GossipHead$BoardText" "GREATEST_NUMBER" "[I") (.int 2)) (.int 500)) (by decide +kernel))) hA
  exact ⟨t, va_Zref (hts (.laysStatic "GossipHead$BoardText" "GREATEST_NUMBER" "[I") (by decide +kernel)) (hts (.initialized "GossipHead$BoardText") (by decide +kernel)) ht hA, hT⟩
set_option maxRecDepth 100000 in
theorem st_K {s : State} {args : Array Value} (hts : ∀ w ∈ lw_tbl, w.before args s = true) (hgv : (Jvm.Cond.and given_1 narrow_1).before args s = true) : ∀ q ∈ ksG, ∃ a : Nat, vk_R q.1 q.2.1 q.2.2 a s := by
  have hn := flat_of_before _ hgv
  intro q hq
  rcases (List.mem_cons.mp hq) with rfl | hq
  · obtain ⟨a, _, _, _, ha, _⟩ := Cond.exactly_spec (hn (.exactly (.string "GossipHead" 50) "java/lang/String") (by decide +kernel))
    exact ⟨a, vk_R.of (hts (.stringRef "GossipHead" 50 "too many feeders") (by decide +kernel)) ha⟩
  rcases (List.mem_cons.mp hq) with rfl | hq
  · obtain ⟨a, _, _, _, ha, _⟩ := Cond.exactly_spec (hn (.exactly (.string "GossipHead" 66) "java/lang/String") (by decide +kernel))
    exact ⟨a, vk_R.of (hts (.stringRef "GossipHead" 66 "too many places") (by decide +kernel)) ha⟩
  rcases (List.mem_cons.mp hq) with rfl | hq
  · obtain ⟨a, _, _, _, ha, _⟩ := Cond.exactly_spec (hn (.exactly (.string "GossipHead" 85) "java/lang/String") (by decide +kernel))
    exact ⟨a, vk_R.of (hts (.stringRef "GossipHead" 85 "too many parts") (by decide +kernel)) ha⟩
  rcases (List.mem_cons.mp hq) with rfl | hq
  · obtain ⟨a, _, _, _, ha, _⟩ := Cond.exactly_spec (hn (.exactly (.string "GossipHead" 124) "java/lang/String") (by decide +kernel))
    exact ⟨a, vk_R.of (hts (.stringRef "GossipHead" 124 "the buffer is full") (by decide +kernel)) ha⟩
  rcases (List.mem_cons.mp hq) with rfl | hq
  · obtain ⟨a, _, _, _, ha, _⟩ := Cond.exactly_spec (hn (.exactly (.string "GossipHead" 138) "java/lang/String") (by decide +kernel))
    exact ⟨a, vk_R.of (hts (.stringRef "GossipHead" 138 "no complete board") (by decide +kernel)) ha⟩
  rcases (List.mem_cons.mp hq) with rfl | hq
  · obtain ⟨a, _, _, _, ha, _⟩ := Cond.exactly_spec (hn (.exactly (.string "GossipHead" 148) "java/lang/String") (by decide +kernel))
    exact ⟨a, vk_R.of (hts (.stringRef "GossipHead" 148 "no saved state") (by decide +kernel)) ha⟩
  rcases (List.mem_cons.mp hq) with rfl | hq
  · obtain ⟨a, _, _, _, ha, _⟩ := Cond.exactly_spec (hn (.exactly (.string "GossipHead" 161) "java/lang/String") (by decide +kernel))
    exact ⟨a, vk_R.of (hts (.stringRef "GossipHead" 161 "no such place") (by decide +kernel)) ha⟩
  rcases (List.mem_cons.mp hq) with rfl | hq
  · obtain ⟨a, _, _, _, ha, _⟩ := Cond.exactly_spec (hn (.exactly (.string "GossipHead" 185) "java/lang/String") (by decide +kernel))
    exact ⟨a, vk_R.of (hts (.stringRef "GossipHead" 185 "no such number") (by decide +kernel)) ha⟩
  rcases (List.mem_cons.mp hq) with rfl | hq
  · obtain ⟨a, _, _, _, ha, _⟩ := Cond.exactly_spec (hn (.exactly (.string "GossipHead" 270) "java/lang/String") (by decide +kernel))
    exact ⟨a, vk_R.of (hts (.stringRef "GossipHead" 270 "no such feeder") (by decide +kernel)) ha⟩
  rcases (List.mem_cons.mp hq) with rfl | hq
  · obtain ⟨a, _, _, _, ha, _⟩ := Cond.exactly_spec (hn (.exactly (.string "GossipHead" 272) "java/lang/String") (by decide +kernel))
    exact ⟨a, vk_R.of (hts (.stringRef "GossipHead" 272 "no such nozzle") (by decide +kernel)) ha⟩
  rcases (List.mem_cons.mp hq) with rfl | hq
  · obtain ⟨a, _, _, _, ha, _⟩ := Cond.exactly_spec (hn (.exactly (.string "GossipHead" 274) "java/lang/String") (by decide +kernel))
    exact ⟨a, vk_R.of (hts (.stringRef "GossipHead" 274 "no such setting") (by decide +kernel)) ha⟩
  rcases (List.mem_cons.mp hq) with rfl | hq
  · obtain ⟨a, _, _, _, ha, _⟩ := Cond.exactly_spec (hn (.exactly (.string "GossipHead" 276) "java/lang/String") (by decide +kernel))
    exact ⟨a, vk_R.of (hts (.stringRef "GossipHead" 276 "out of range") (by decide +kernel)) ha⟩
  exact absurd hq List.not_mem_nil
set_option maxRecDepth 100000 in
theorem st_N2 {s : State} {args : Array Value} (hgv : (Jvm.Cond.and given_1 narrow_1).before args s = true) : ∀ q ∈ knG, va_Nc q.1 q.2 s := by
  have hn := flat_of_before _ hgv
  intro q hq
  rcases (List.mem_cons.mp hq) with rfl | hq
  · exact va_Nc.of (hn (.not (.castable "java/lang/IllegalArgumentException" "java/lang/IndexOutOfBoundsException")) (by decide +kernel))
  rcases (List.mem_cons.mp hq) with rfl | hq
  · exact va_Nc.of (hn (.not (.castable "java/lang/IllegalStateException" "java/lang/IllegalArgumentException")) (by decide +kernel))
  rcases (List.mem_cons.mp hq) with rfl | hq
  · exact va_Nc.of (hn (.not (.castable "java/lang/IllegalStateException" "java/lang/IndexOutOfBoundsException")) (by decide +kernel))
  exact absurd hq List.not_mem_nil
set_option maxRecDepth 100000 in
theorem st_D {s : State} {args : Array Value} (hts : ∀ w ∈ lw_tbl, w.before args s = true) : ∀ y ∈ kdG, va_Nw (.declares y) s := by
  intro q hq
  rcases (List.mem_cons.mp hq) with rfl | hq
  · exact va_Nw.of rfl (hts (.declares ⟨"java/lang/RuntimeException", "<init>", "(Ljava/lang/String;)V"⟩) (by decide +kernel))
  rcases (List.mem_cons.mp hq) with rfl | hq
  · exact va_Nw.of rfl (hts (.declares ⟨"java/lang/Exception", "<init>", "(Ljava/lang/String;)V"⟩) (by decide +kernel))
  rcases (List.mem_cons.mp hq) with rfl | hq
  · exact va_Nw.of rfl (hts (.declares ⟨"java/lang/Throwable", "<init>", "(Ljava/lang/String;)V"⟩) (by decide +kernel))
  exact absurd hq List.not_mem_nil
set_option maxRecDepth 100000 in
theorem st_C {s : State} {args : Array Value} (hts : ∀ w ∈ lw_tbl, w.before args s = true) : ∀ y ∈ kcG, va_Nw (.castable y y) s := by
  intro q hq
  rcases (List.mem_cons.mp hq) with rfl | hq
  · exact va_Nw.of rfl (hts (.castable "java/lang/IllegalArgumentException" "java/lang/IllegalArgumentException") (by decide +kernel))
  rcases (List.mem_cons.mp hq) with rfl | hq
  · exact va_Nw.of rfl (hts (.castable "java/lang/IllegalStateException" "java/lang/IllegalStateException") (by decide +kernel))
  rcases (List.mem_cons.mp hq) with rfl | hq
  · exact va_Nw.of rfl (hts (.castable "java/lang/IndexOutOfBoundsException" "java/lang/IndexOutOfBoundsException") (by decide +kernel))
  exact absurd hq List.not_mem_nil
set_option maxRecDepth 100000 in
theorem st_E {s : State} {args : Array Value} {A : Nat → Prop} (hts : ∀ w ∈ lw_tbl, w.before args s = true) (hgv : (Jvm.Cond.and given_1 narrow_1).before args s = true) (hA : ∀ a : Nat, a < s.heap.size → ¬ A a) : EG A s s.heap := by
  have hn := flat_of_before _ hgv
  exact ⟨st_S hts hgv hA, st_N hts hgv hA, vx_Zqof (hts (.laysStatic Bundle.tN "UNASSIGNED_STACK" Bundle.steD) (by decide +kernel)) (hts (.initialized Bundle.tN) (by decide +kernel)) (hn (.isRef (.static Bundle.tN "UNASSIGNED_STACK" Bundle.steD)) (by decide +kernel)) hA, vx_Zqof (hts (.laysStatic Bundle.tN "SUPPRESSED_SENTINEL" Bundle.listD) (by decide +kernel)) (hts (.initialized Bundle.tN) (by decide +kernel)) (hn (.isRef (.static Bundle.tN "SUPPRESSED_SENTINEL" Bundle.listD)) (by decide +kernel)) hA, st_K hts hgv, st_N2 hgv, st_D hts, st_C hts, va_AO.of (hts (.arrayOver (.object RX2)) (by decide +kernel))⟩
set_option maxRecDepth 100000 in
theorem st_G {s : State} {args : Array Value} (l : Launch) (hts : ∀ w ∈ lw_tbl, w.before args s = true) : ∃ D : va_G × (Nat → ClassId), va_K D.1 vwCl (gT (l, D.1, D.2)) s := by
  have hw : ∀ w ∈ wsL_law, w.before args s = true := fun w h => hts w (wsL_law_in w h)
  obtain ⟨c0, i0, k0⟩ := u_known (C := RX0) (T := TX0) (N := 6) (n := 6) hw (fun w H => (gL_law_X5_init w (List.mem_cons_of_mem _ (List.mem_append_left _ (List.mem_append_right _ H)))).1) (hts (.instantiable RX0 6) (by decide +kernel))
  obtain ⟨c1, i1, k1⟩ := u_known (C := RX1) (T := TX1) (N := 2) (n := 2) hw (fun w H => (gL_law_X5_init w (List.mem_cons_of_mem _ (List.mem_append_left _ (List.mem_append_left _ (List.mem_append_right _ H))))).1) (hts (.instantiable RX1 2) (by decide +kernel))
  obtain ⟨c2, i2, k2⟩ := u_known (C := RX2) (T := TX2) (N := 12) (n := 12) hw (fun w H => (gL_law_X5_init w (List.mem_cons_of_mem _ (List.mem_append_left _ (List.mem_append_left _ (List.mem_append_left _ (List.mem_append_left _ (List.mem_append_left _ (List.mem_append_right _ H)))))))).1) (hts (.instantiable RX2 12) (by decide +kernel))
  obtain ⟨c3, i3, k3⟩ := u_known (C := RX3) (T := TX3) (N := 2) (n := 2) hw (fun w H => (gL_law_X5_init w (List.mem_cons_of_mem _ (List.mem_append_right _ H))).1) (hts (.instantiable RX3 2) (by decide +kernel))
  obtain ⟨c4, i4, k4⟩ := u_known (C := RX4) (T := TX4) (N := 3) (n := 3) hw (fun w H => (gL_law_X5_init w (List.mem_cons_of_mem _ (List.mem_append_left _ (List.mem_append_left _ (List.mem_append_left _ (List.mem_append_right _ H)))))).1) (hts (.instantiable RX4 3) (by decide +kernel))
  obtain ⟨c5, i5, k5⟩ := u_known (C := RX5) (T := TX5) (N := 5) (n := 5) hw (fun w H => (gL_law_X5_init w (List.mem_cons_of_mem _ (List.mem_append_left _ (List.mem_append_left _ (List.mem_append_left _ (List.mem_append_left _ (List.mem_append_right _ H))))))).1) (hts (.instantiable RX5 5) (by decide +kernel))
  obtain ⟨c6, i6, k6⟩ := u_known (C := RX6) (T := TX6) (N := 15) (n := 15) hw (fun w H => (gL_law_X6_init w (List.mem_cons_of_mem _ (List.mem_append_right _ H))).1) (hts (.instantiable RX6 15) (by decide +kernel))
  obtain ⟨e0, a0, b0⟩ := arr_K (hts (.arrayClass .int) (by decide +kernel)) (Or.inl rfl)
  obtain ⟨e1, a1, b1⟩ := arr_K (hts (.arrayClass .boolean) (by decide +kernel)) (Or.inr (Or.inl rfl))
  obtain ⟨e2, a2, b2⟩ := arr_O (hts (.arrayOver (.object RX2)) (by decide +kernel))
  obtain ⟨e3, a3, b3⟩ := arr_K (hts (.arrayClass .long) (by decide +kernel)) (Or.inr (Or.inr rfl))
  refine ⟨((fun k => match k with | 0 => c0 | 1 => c1 | 2 => c2 | 3 => c3 | 4 => c4 | 5 => c5 | _ => c6, fun k => match k with | 0 => i0 | 1 => i1 | 2 => i2 | 3 => i3 | 4 => i4 | 5 => i5 | _ => i6), fun k => match k with | 0 => e0 | 1 => e1 | 2 => e2 | _ => e3), fun c q h => ?_, fun k q h => ?_⟩
  · match c, h with
    | 0, h => cases h; exact k0
    | 1, h => cases h; exact k1
    | 2, h => cases h; exact k2
    | 3, h => cases h; exact k3
    | 4, h => cases h; exact k4
    | 5, h => cases h; exact k5
    | 6, h => cases h; exact k6
    | c + 7, h => simp at h
  · match k, h with
    | 0, h => cases h; exact ⟨a0, b0⟩
    | 1, h => cases h; exact ⟨a1, b1⟩
    | 2, h => cases h; exact ⟨a2, b2⟩
    | 3, h => cases h; exact ⟨a3, b3⟩
    | k + 4, h => simp [gT] at h
