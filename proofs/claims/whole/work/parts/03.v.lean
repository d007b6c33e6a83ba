/-! THE JUDGEMENT V: a method's walk said of its world, its locals and its stack alone (no heap, no state in sight); contracts UC (returns), UX (returns or throws) -/
abbrev GT : Type := Launch × va_G × (Nat → ClassId)
abbrev gT (g : GT) : List (ClassId × FieldType) := [(g.2.2 0, .int), (g.2.2 1, .boolean), (g.2.2 2, .object RX2), (g.2.2 3, .long)]
def gsT : Nat → Int32 := fun j => [5, 50, 50, 100, 100].getD j 0
def gnT : Nat → Int32 := fun j => [99, 5, 500].getD j 0
def ksG : List (String × Nat × String) := [("GossipHead", 50, "too many feeders"), ("GossipHead", 66, "too many places"), ("GossipHead", 85, "too many parts"), ("GossipHead", 124, "the buffer is full"), ("GossipHead", 138, "no complete board"), ("GossipHead", 148, "no saved state"), ("GossipHead", 161, "no such place"), ("GossipHead", 185, "no such number"), ("GossipHead", 270, "no such feeder"), ("GossipHead", 272, "no such nozzle"), ("GossipHead", 274, "no such setting"), ("GossipHead", 276, "out of range")]
def knG : List (String × String) := [("java/lang/IllegalArgumentException", "java/lang/IndexOutOfBoundsException"), ("java/lang/IllegalStateException", "java/lang/IllegalArgumentException"), ("java/lang/IllegalStateException", "java/lang/IndexOutOfBoundsException")]
def kdG : List MethodName := [⟨"java/lang/RuntimeException", "<init>", "(Ljava/lang/String;)V"⟩, ⟨"java/lang/Exception", "<init>", "(Ljava/lang/String;)V"⟩, ⟨"java/lang/Throwable", "<init>", "(Ljava/lang/String;)V"⟩]
def kcG : List String := ["java/lang/IllegalArgumentException", "java/lang/IllegalStateException", "java/lang/IndexOutOfBoundsException"]
/-- what stays through the whole run beside the worlds: two static rows, what a throw needs, the texts of the throws -/
def EG (A : Nat → Prop) (U : State) (H : Heap) : Prop :=
  (∃ t : Nat, va_Z "GossipHead" "GREATEST_SETTING" "[I" (.ref t) A U H ∧ va_T .int t 5 (fun j => .int (gsT j)) A U H) ∧
  (∃ t : Nat, va_Z "GossipHead$BoardText" "GREATEST_NUMBER" "[I" (.ref t) A U H ∧ va_T .int t 3 (fun j => .int (gnT j)) A U H) ∧
  vx_Zq Bundle.tN "UNASSIGNED_STACK" Bundle.steD A U H ∧ vx_Zq Bundle.tN "SUPPRESSED_SENTINEL" Bundle.listD A U H ∧
  (∀ q ∈ ksG, ∃ a : Nat, vk_R q.1 q.2.1 q.2.2 a U) ∧ (∀ q ∈ knG, va_Nc q.1 q.2 U) ∧ (∀ x ∈ kdG, va_Nw (.declares x) U) ∧ (∀ x ∈ kcG, va_Nw (.castable x x) U) ∧ va_AO RX2 U
theorem EG.go {A B : Nat → Prop} {s U : State} {locs : List Loc} (h : EG A s s.heap) (hW : s.WarmedH U.vm) (hS : va_S A s.heap U.heap locs) (hAB : ∀ q, B q → A q) : EG B U U.heap := by
  obtain ⟨⟨t1, a1, a2⟩, ⟨t2, b1, b2⟩, c1, c2, d1, d2, d3, d4, d5⟩ := h
  have hk : ∀ a : Nat, a < s.heap.size → ¬ A a → U.heap[a]? = s.heap[a]? := hS.2.1
  have hv := hW.alike
  exact ⟨⟨t1, va_Z.narrow (va_Z.moved hv (a1.kept hk)) hAB, va_T.narrow (va_T.moved hv (a2.kept hk)) hAB⟩, ⟨t2, va_Z.narrow (va_Z.moved hv (b1.kept hk)) hAB, va_T.narrow (va_T.moved hv (b2.kept hk)) hAB⟩, vx_Zq.narrow (vx_Zq.moved hv (c1.kept hk)) hAB, vx_Zq.narrow (vx_Zq.moved hv (c2.kept hk)) hAB, fun q hq => (d1 q hq).elim fun a ha => ⟨a, vk_R.warm hW ha⟩, fun q hq => va_Nc.moved hv (d2 q hq), fun x hx => (d3 x hx).warmD hW, fun x hx => (d4 x hx).warmC hW, va_AO.moved hv d5⟩
theorem EG.calling {A : Nat → Prop} {U : State} (gg : JFrame) (mk : MethodId) (a : Array Value) (h : EG A U U.heap) : EG A (U.calling gg mk a) (U.calling gg mk a).heap := by
  obtain ⟨⟨t1, a1, a2⟩, ⟨t2, b1, b2⟩, c1, c2, d1, d2, d3, d4, d5⟩ := h
  have hv : U.vm.Alike (U.calling gg mk a).vm := Vm.Alike.refl U.vm
  exact ⟨⟨t1, va_Z.moved hv a1, va_T.moved hv a2⟩, ⟨t2, va_Z.moved hv b1, va_T.moved hv b2⟩, vx_Zq.moved hv c1, vx_Zq.moved hv c2, fun q hq => (d1 q hq).elim fun y hy => ⟨y, vk_R.same rfl hy⟩, fun q hq => va_Nc.moved hv (d2 q hq), fun x hx => (d3 x hx).same rfl rfl, fun x hx => (d4 x hx).same rfl rfl, va_AO.moved hv d5⟩
/-! a world with some of its cells put anew, and new ones behind -/
def insG : List Nat → va_W → va_W → va_W
  | [], ws, w => ws ++ w
  | i :: is, ws, w => match w with
    | [] => ws
    | x :: w' => insG is (ws.set i x) w'
abbrev insW (ws : va_W) (is : List Nat) (w : va_W) : va_W := insG is ws w
theorem insW_at : ∀ (is : List Nat) (ws w : va_W), is.length ≤ w.length → ∀ (j : Nat) (x : Nat × va_E), (insW ws is w)[j]? = some x → x ∈ w ∨ (j ∉ is ∧ ws[j]? = some x)
  | [], ws, w, _, j, x, h => by
    rcases Nat.lt_or_ge j ws.length with hj | hj
    · have h : (ws ++ w)[j]? = some x := h
      rw [List.getElem?_append_left hj] at h
      exact Or.inr ⟨List.not_mem_nil, h⟩
    · have h : (ws ++ w)[j]? = some x := h
      rw [List.getElem?_append_right hj] at h
      exact Or.inl (List.mem_of_getElem? h)
  | i :: is, ws, [], hl, j, x, h => absurd hl (by simp)
  | i :: is, ws, y :: w, hl, j, x, h => by
    rcases insW_at is (ws.set i y) w (by simpa using hl) j x h with h1 | ⟨h1, h2⟩
    · exact Or.inl (List.mem_cons_of_mem _ h1)
    · by_cases hji : j = i
      · subst hji
        have hlt : j < ws.length := by
          have := (List.getElem?_eq_some_iff.mp h2).1
          simpa using this
        rw [List.getElem?_set_self hlt] at h2
        cases h2
        exact Or.inl List.mem_cons_self
      · rw [List.getElem?_set_ne (Ne.symm hji)] at h2
        exact Or.inr ⟨fun hm => (List.mem_cons.mp hm).elim hji h1, h2⟩
theorem insW_fst : ∀ (is : List Nat) (ws w : va_W), is.length ≤ w.length → is.map (fun i => (ws[i]?).map Prod.fst) = (w.take is.length).map (fun x => some x.1) → (insW ws is w).map Prod.fst = ws.map Prod.fst ++ (w.drop is.length).map Prod.fst
  | [], ws, w, _, _ => by simp [insG]
  | i :: is, ws, [], hl, _ => absurd hl (by simp)
  | i :: is, ws, y :: w, hl, h => by
    simp only [List.map_cons, List.length_cons, List.take_succ_cons, List.cons.injEq] at h
    obtain ⟨h1, h2⟩ := h
    have key : ∀ j : Nat, ((ws.set i y)[j]?).map Prod.fst = (ws[j]?).map Prod.fst := by
      intro j
      by_cases hji : j = i
      · subst hji
        cases hw : ws[j]? with
        | none => rw [hw] at h1; cases h1
        | some z =>
          rw [hw] at h1
          rw [List.getElem?_set_self (List.getElem?_eq_some_iff.mp hw).1]
          exact h1.symm
      · rw [List.getElem?_set_ne (Ne.symm hji)]
    have hset : (ws.set i y).map Prod.fst = ws.map Prod.fst := by
      apply List.ext_getElem?
      intro j
      rw [List.getElem?_map, List.getElem?_map, key]
    show (insW (ws.set i y) is w).map Prod.fst = _
    rw [insW_fst is (ws.set i y) w (by simpa using hl) ?_, hset]
    · rfl
    · rw [← h2]
      exact List.map_congr_left fun j _ => key j
theorem insW_ok {A0 : Nat → Prop} {D : va_G} {cl : List vw_C} {ws wc w1 : va_W} {H H1 : Heap} (hP : va_P D cl ws H) (hD : va_D A0 ws) (is : List Nat) (hC : is.map (fun i => ws[i]?) = wc.map some)
    (hk : ∀ q : Nat, q < H.size → ¬ va_A wc H.size q → H1[q]? = H[q]?) (hF : ∀ q, va_A wc H.size q → A0 q) (hP1 : va_P D cl w1 H1) (hD1 : va_D (va_A wc H.size) w1) (ha : (w1.take is.length).map Prod.fst = wc.map Prod.fst) : va_P D cl (insW ws is w1) H1 ∧ va_D A0 (insW ws is w1) := by
  have hlen : is.length = wc.length := by
    have := congrArg List.length hC
    simpa using this
  have hle : is.length ≤ w1.length := by
    have := congrArg List.length ha
    rw [List.length_map, List.length_map, List.length_take] at this
    omega
  have hCat : ∀ (k : Nat) (q : Nat × va_E), wc[k]? = some q → ∃ i, is[k]? = some i ∧ ws[i]? = some q := by
    intro k q hq
    have h1 : (is.map (fun i => ws[i]?))[k]? = some (some q) := by rw [hC, List.getElem?_map, hq]; rfl
    rw [List.getElem?_map] at h1
    cases hi : is[k]? with
    | none => rw [hi] at h1; cases h1
    | some i => rw [hi] at h1; exact ⟨i, rfl, Option.some.inj h1⟩
  have apart : ∀ (j : Nat) (q : Nat × va_E), j ∉ is → ws[j]? = some q → q.1 < H.size ∧ ¬ va_A wc H.size q.1 := by
    intro j q hj hq
    have hl := (hP j q hq).lt
    refine ⟨hl, fun h => ?_⟩
    rcases h with ⟨k2, e, h⟩ | h
    · obtain ⟨i, h3, h4⟩ := hCat k2 (q.1, e) h
      have hij := hD.1 j i q (q.1, e) hq h4 rfl
      subst hij
      exact hj (List.mem_of_getElem? h3)
    · omega
  have hfst : (insW ws is w1).map Prod.fst = ws.map Prod.fst ++ (w1.drop is.length).map Prod.fst := by
    refine insW_fst is ws w1 hle ?_
    have h1 : is.map (fun i => (ws[i]?).map Prod.fst) = (is.map (fun i => ws[i]?)).map (fun o => o.map Prod.fst) := by rw [List.map_map]; rfl
    have h2 : (w1.take is.length).map (fun x => some x.1) = ((w1.take is.length).map Prod.fst).map some := by rw [List.map_map]; rfl
    rw [h1, hC, h2, ha, List.map_map, List.map_map]; rfl
  refine ⟨fun k q hq => ?_, fun i j x y hi hj hxy => ?_, fun k q hq => ?_⟩
  · rcases insW_at is ws w1 hle k q hq with h | ⟨h1, h2⟩
    · obtain ⟨j, hj⟩ := List.getElem?_of_mem h
      exact hP1 j q hj
    · obtain ⟨g1, g2⟩ := apart k q h1 h2
      exact (hP k q h2).kept (hk q.1 g1 g2)
  · have ex : ∀ (i : Nat) (x : Nat × va_E), (insW ws is w1)[i]? = some x → (i < ws.length ∧ ∃ x0, ws[i]? = some x0 ∧ x0.1 = x.1) ∨ (ws.length ≤ i ∧ ∃ x0, w1[is.length + (i - ws.length)]? = some x0 ∧ x0.1 = x.1) := by
      intro i x hi
      have h1 : ((insW ws is w1).map Prod.fst)[i]? = some x.1 := by rw [List.getElem?_map, hi]; rfl
      rw [hfst] at h1
      rcases Nat.lt_or_ge i ws.length with hl | hl
      · rw [List.getElem?_append_left (by simpa using hl), List.getElem?_map] at h1
        cases hw : ws[i]? with
        | none => rw [hw] at h1; cases h1
        | some x0 => rw [hw] at h1; exact Or.inl ⟨hl, x0, rfl, Option.some.inj h1⟩
      · rw [List.getElem?_append_right (by simpa using hl), List.getElem?_map, List.getElem?_drop, List.length_map] at h1
        cases hw : w1[is.length + (i - ws.length)]? with
        | none => rw [hw] at h1; cases h1
        | some x0 => rw [hw] at h1; exact Or.inr ⟨hl, x0, rfl, Option.some.inj h1⟩
    have big : ∀ (k : Nat) (x0 : Nat × va_E), is.length ≤ k → w1[k]? = some x0 → H.size ≤ x0.1 := by
      intro k x0 hk0 hx0
      rcases hD1.2 k x0 hx0 with ⟨k2, e, h⟩ | h
      · exfalso
        have hk2 : k2 < wc.length := (List.getElem?_eq_some_iff.mp h).1
        have h3 : ((w1.take is.length).map Prod.fst)[k2]? = some x0.1 := by rw [ha, List.getElem?_map, h]; rfl
        rw [List.getElem?_map, List.getElem?_take_of_lt (by omega)] at h3
        cases hw : w1[k2]? with
        | none => rw [hw] at h3; cases h3
        | some z =>
          rw [hw] at h3
          have := hD1.1 k2 k z x0 hw hx0 (Option.some.inj h3)
          omega
      · exact h
    rcases ex i x hi with ⟨l1, x0, g1, g2⟩ | ⟨l1, x0, g1, g2⟩ <;> rcases ex j y hj with ⟨l2, y0, g3, g4⟩ | ⟨l2, y0, g3, g4⟩
    · exact hD.1 i j x0 y0 g1 g3 (g2.trans (hxy.trans g4.symm))
    · have h1 := (hP i x0 g1).lt
      have h2 := big _ y0 (Nat.le_add_right _ _) g3
      omega
    · have h1 := (hP j y0 g3).lt
      have h2 := big _ x0 (Nat.le_add_right _ _) g1
      omega
    · have := hD1.1 _ _ x0 y0 g1 g3 (g2.trans (hxy.trans g4.symm))
      omega
  · rcases insW_at is ws w1 hle k q hq with h | ⟨h1, h2⟩
    · obtain ⟨j, hj⟩ := List.getElem?_of_mem h
      exact hF q.1 (hD1.2 j q hj)
    · exact hD.2 k q h2
/-! contracts: what a call answers and leaves behind, for a world of cells -/
def QU (g : GT) (Q : Option Value → va_W → Prop) (A : Nat → Prop) : Array Value → State → Outcome → State → Prop := fun _ st oc t => (∃ (v : Option Value) (w : va_W), oc = .returned v ∧ Q v w ∧ va_P g.2.1 vwCl w t.heap ∧ va_D A w) ∧ va_F A st t
def XU (g : GT) (X : String → va_W → Prop) (A : Nat → Prop) : String → State → State → Prop := fun E st t => (∃ w : va_W, X E w ∧ va_P g.2.1 vwCl w t.heap ∧ va_D A w) ∧ va_F A st t
def PU (g : GT) (av : List Value) (W0 : va_W) (sz : Nat) : Array Value → State → Prop := va_Pc av (fun U => U.heap.size = sz ∧ va_P g.2.1 vwCl W0 U.heap ∧ va_K g.2.1 vwCl (gT g) U ∧ va_D (fun _ => True) W0 ∧ EG (va_A W0 sz) U U.heap)
def UC (g : GT) (y : MethodName) (wy : List Cond) (rm : Room) (av : List Value) (W0 : va_W) (Q : Option Value → va_W → Prop) : Prop := ∀ sz : Nat, Met g.1 y wy rm (PU g av W0 sz) (QU g Q (va_A W0 sz)) rm.cells rm.slots (va_A W0 sz)
def UX (g : GT) (y : MethodName) (wy : List Cond) (rm : Room) (av : List Value) (W0 : va_W) (Q : Option Value → va_W → Prop) (X : String → va_W → Prop) : Prop := ∀ sz : Nat, vx_Met g.1 y wy rm (PU g av W0 sz) (QU g Q (va_A W0 sz)) (XU g X (va_A W0 sz)) rm.cells rm.slots (va_A W0 sz)
abbrev XT : Type := Program → State → MethodId → Array Value → Method → Code → (Nat → Prop) → Prop
abbrev QT : Type := List Frame → Array Value → State → (Nat → Prop) → State → Prop
def V (g : GT) (R : Room) (own : String) (cc : ByteArray) (Ts : List Cond) (nL : Nat) (QF : QT) (X : XT) (k n : Nat) (ws : va_W) (pc : Nat) (lv : List (Nat × Value)) (st : List Value) : Prop :=
  ∀ (p : Program) (e : Env) (s : State) (m : MethodId) (args : Array Value) (below : List Frame) (meth : Method) (c : Code) (A : Nat → Prop), p.tables.exec = Jvm.exec → c.code = cc → c.maxLocals = nL → s.vm.findClass own = some m.cls → (∀ w ∈ Ts, w.before args s = true) → (∀ q : Nat, s.heap.size ≤ q → A q) → EG A s s.heap → X p s m args meth c A →
    ∀ (H : Heap) (locs : List Loc) (ls : Array Slot), va_P g.2.1 vwCl ws H → va_K g.2.1 vwCl (gT g) s → va_D A ws → va_S A s.heap H locs → lv_has ls nL lv → W p g.1 e R s m args below meth c H locs k n (QF below args s A) (F0 m pc ls st)
def QFr (g : GT) (rm : Room) (Q : Option Value → va_W → Prop) : QT := fun below args s A => MQ below (QU g Q A) args s rm.cells rm.slots A
def QFx (g : GT) (rm : Room) (Q : Option Value → va_W → Prop) (X : String → va_W → Prop) : QT := fun below args s A => vx_MQ below (QU g Q A) (XU g X A) args s rm.cells rm.slots A
/-- what a method's walk knows of its own method: what it answers, no lock, its name, its table of handlers -/
def XM (ret : Option FieldType) (nm : String) : XT := fun _ _ _ _ meth _ _ => meth.sig.returnType = ret ∧ meth.locks = false ∧ meth.name = nm
def XMx (ret : Option FieldType) (nm : String) : XT := fun _ _ _ _ meth c _ => meth.sig.returnType = ret ∧ meth.locks = false ∧ meth.name = nm ∧ ∀ x ∈ c.exceptionTable.toList, False
def XMh (ret : Option FieldType) (hh : List (Nat × Nat × Nat × Nat)) : XT := fun _ _ _ _ meth c _ => meth.sig.returnType = ret ∧ meth.locks = false ∧ c.exceptionTable.toList = tableOf hh
section KV
variable {g : GT} {R : Room} {own : String} {cc : ByteArray} {Ts : List Cond} {nL : Nat} {QF : QT} {X : XT} {k n : Nat} {ws : va_W} {pc : Nat} {lv : List (Nat × Value)} {st rest : List Value}
theorem UC.ofV {y : MethodName} {wy ws' : List Cond} {rm : Room} {av : List Value} {W0 : va_W} {Q : Option Value → va_W → Prop} {maxL : Nat} {ret : Option FieldType} {lv0 : List (Nat × Value)} (hy : plainName y.cls = true) (hw : wy = Cond.code y cc maxL ret :: ws') (hn : (lg_sl av).length ≤ maxL) (hlv : lv_args 0 av = lv0)
    (hv : V g rm y.cls cc wy maxL (QFr g rm Q) (XM ret y.name) 0 0 W0 0 lv0 []) : UC g y wy rm av W0 Q := by
  intro sz
  refine Met.ofW (cc := cc) (maxL := maxL) (ret := ret) hy hw ?_
  intro p e s m args below meth c s₁ B hml hv0
  obtain ⟨rfl, hsz, hP, hK, hD, hE⟩ := hv0
  subst hsz
  have hl := lv_entry av (n := maxL) hn
  rw [hlv] at hl
  rw [lg_entry_eq]
  exact hv p e s m _ below meth c (va_A W0 s.heap.size) B.exec B.bytes hml (findClass_of_methodNamed B.named) (atoms_spec (ws := wy) B.pre) (fun q h => Or.inr h) hE ⟨B.returns, B.notSynchronized, (name_of_methodNamed B.named B.method).1⟩ s.heap [] _ hP hK hD.self va_S.rf hl
theorem UX.ofV {y : MethodName} {wy ws' : List Cond} {rm : Room} {av : List Value} {W0 : va_W} {Q : Option Value → va_W → Prop} {XX : String → va_W → Prop} {maxL : Nat} {ret : Option FieldType} {lv0 : List (Nat × Value)} (hy : plainName y.cls = true) (hw : wy = Cond.code y cc maxL ret :: ws') (hn : (lg_sl av).length ≤ maxL) (hlv : lv_args 0 av = lv0)
    (hv : V g rm y.cls cc wy maxL (QFx g rm Q XX) (XMx ret y.name) 0 0 W0 0 lv0 []) : UX g y wy rm av W0 Q XX := by
  intro sz
  refine vx_ofW (cc := cc) (maxL := maxL) (ret := ret) hy hw ?_
  intro p e s m args below meth c s₁ B hml htab hv0
  obtain ⟨rfl, hsz, hP, hK, hD, hE⟩ := hv0
  subst hsz
  have hl := lv_entry av (n := maxL) hn
  rw [hlv] at hl
  rw [lg_entry_eq]
  exact hv p e s m _ below meth c (va_A W0 s.heap.size) B.exec B.bytes hml (findClass_of_methodNamed B.named) (atoms_spec (ws := wy) B.pre) (fun q h => Or.inr h) hE ⟨B.returns, B.notSynchronized, (name_of_methodNamed B.named B.method).1, htab⟩ s.heap [] _ hP hK hD.self va_S.rf hl
theorem UX.ofVH {y : MethodName} {wy ws' : List Cond} {rm : Room} {av : List Value} {W0 : va_W} {Q : Option Value → va_W → Prop} {XX : String → va_W → Prop} {maxL : Nat} {ret : Option FieldType} {hh : List (Nat × Nat × Nat × Nat)} {lv0 : List (Nat × Value)} (hy : plainName y.cls = true) (hw : wy = Cond.codeWith y cc maxL ret hh :: ws') (hn : (lg_sl av).length ≤ maxL) (hlv : lv_args 0 av = lv0)
    (hv : V g rm y.cls cc wy maxL (QFx g rm Q XX) (XMh ret hh) 0 0 W0 0 lv0 []) : UX g y wy rm av W0 Q XX := by
  intro sz
  refine vx_ofWH (cc := cc) (maxL := maxL) (ret := ret) (hh := hh) hy hw ?_
  intro p e s m args below meth c s₁ B hml hv0
  obtain ⟨rfl, hsz, hP, hK, hD, hE⟩ := hv0
  subst hsz
  have hl := lv_entry av (n := maxL) hn
  rw [hlv] at hl
  rw [lg_entry_eq]
  have hts := atoms_spec (ws := wy) B.pre
  exact hv p e s m _ below meth c (va_A W0 s.heap.size) B.exec B.bytes hml (findClass_of_methodNamed B.named) hts (fun q h => Or.inr h) hE ⟨B.returns, B.notSynchronized, vx_table (x := y) B (hts _ (by rw [hw]; exact List.mem_cons_self))⟩ s.heap [] _ hP hK hD.self va_S.rf hl
theorem V.eqst {st2 : List Value} (h : st = st2) (kk : V g R own cc Ts nL QF X k n ws pc lv st2) : V g R own cc Ts nL QF X k n ws pc lv st := h ▸ kk
theorem V.eqws {ws2 : va_W} (h : ws = ws2) (kk : V g R own cc Ts nL QF X k n ws2 pc lv st) : V g R own cc Ts nL QF X k n ws pc lv st := h ▸ kk
theorem V.eqlv {lv2 : List (Nat × Value)} (ks : List Nat) (h : lv_pick lv ks = lv2) (kk : V g R own cc Ts nL QF X k n ws pc lv2 st) : V g R own cc Ts nL QF X k n ws pc lv st :=
  fun p e s m args below meth c A hx hb hml ho ht hA hE hX H locs ls hP hK hD hS hl => kk p e s m args below meth c A hx hb hml ho ht hA hE hX H locs ls hP hK hD hS (lv_sub hl ks h)
theorem V.widen {k2 n2 : Nat} (h1 : k ≤ k2) (h2 : n ≤ n2) (kk : V g R own cc Ts nL QF X k2 n2 ws pc lv st) : V g R own cc Ts nL QF X k n ws pc lv st :=
  fun p e s m args below meth c A hx hb hml ho ht hA hE hX H locs ls hP hK hD hS hl => W.widen h1 h2 (kk p e s m args below meth c A hx hb hml ho ht hA hE hX H locs ls hP hK hD hS hl)
/-- an instruction that touches locals and stack alone -/
theorem V.lift {pc2 : Nat} {lv2 : List (Nat × Value)} {st2 : List Value} (h : ∀ (p : Program) (e : Env) (s : State) (m : MethodId) (args : Array Value) (below : List Frame) (meth : Method) (c : Code) (H : Heap) (locs : List Loc) (ls : Array Slot) (Q : State → Prop), p.tables.exec = Jvm.exec → c.code = cc → s.vm.findClass own = some m.cls → (∀ w ∈ Ts, w.before args s = true) → lv_has ls nL lv → (∀ ls2 : Array Slot, lv_has ls2 nL lv2 → W p g.1 e R s m args below meth c H locs k n Q (F0 m pc2 ls2 st2)) → W p g.1 e R s m args below meth c H locs k n Q (F0 m pc ls st))
    (kk : V g R own cc Ts nL QF X k n ws pc2 lv2 st2) : V g R own cc Ts nL QF X k n ws pc lv st :=
  fun p e s m args below meth c A hx hb hml ho ht hA hE hX H locs ls hP hK hD hS hl => h p e s m args below meth c H locs ls _ hx hb ho ht hl (fun ls2 hl2 => kk p e s m args below meth c A hx hb hml ho ht hA hE hX H locs ls2 hP hK hD hS hl2)
theorem V.iload_n {j : Fin 4} {i : Nat} {x : Int32} (q : Nat) (hk : lv[q]? = some (i, .int x)) (hd : decode cc pc = .ok (.iload_n j, 1)) (hi : (j : Nat) = i) (kk : V g R own cc Ts nL QF X k n ws (pc + 1) lv (.int x :: st)) : V g R own cc Ts nL QF X k n ws pc lv (st) := V.lift (fun p e s m args below meth c H locs ls Q hx hb ho ht hl kk => lv_iload_n hx hb hd hi (lv_at hl q hk) (kk ls hl)) kk
theorem V.iload {i : Nat} {x : Int32} (q : Nat) (hk : lv[q]? = some (i, .int x)) (hd : decode cc pc = .ok (.iload i, 2)) (kk : V g R own cc Ts nL QF X k n ws (pc + 2) lv (.int x :: st)) : V g R own cc Ts nL QF X k n ws pc lv (st) := V.lift (fun p e s m args below meth c H locs ls Q hx hb ho ht hl kk => lv_iload hx hb hd (lv_at hl q hk) (kk ls hl)) kk
theorem V.aload_n {j : Fin 4} {i : Nat} {x : Nat} (q : Nat) (hk : lv[q]? = some (i, .ref x)) (hd : decode cc pc = .ok (.aload_n j, 1)) (hi : (j : Nat) = i) (kk : V g R own cc Ts nL QF X k n ws (pc + 1) lv (.ref x :: st)) : V g R own cc Ts nL QF X k n ws pc lv (st) := V.lift (fun p e s m args below meth c H locs ls Q hx hb ho ht hl kk => lv_aload_n hx hb hd hi (lv_at hl q hk) (kk ls hl)) kk
theorem V.aload {i : Nat} {x : Nat} (q : Nat) (hk : lv[q]? = some (i, .ref x)) (hd : decode cc pc = .ok (.aload i, 2)) (kk : V g R own cc Ts nL QF X k n ws (pc + 2) lv (.ref x :: st)) : V g R own cc Ts nL QF X k n ws pc lv (st) := V.lift (fun p e s m args below meth c H locs ls Q hx hb ho ht hl kk => lv_aload hx hb hd (lv_at hl q hk) (kk ls hl)) kk
theorem V.lload_n {j : Fin 4} {i : Nat} {x : Int64} (q : Nat) (hk : lv[q]? = some (i, .long x)) (hd : decode cc pc = .ok (.lload_n j, 1)) (hi : (j : Nat) = i) (kk : V g R own cc Ts nL QF X k n ws (pc + 1) lv (.long x :: st)) : V g R own cc Ts nL QF X k n ws pc lv (st) := V.lift (fun p e s m args below meth c H locs ls Q hx hb ho ht hl kk => lv_lload_n hx hb hd hi (lv_at hl q hk) (kk ls hl)) kk
theorem V.lload {i : Nat} {x : Int64} (q : Nat) (hk : lv[q]? = some (i, .long x)) (hd : decode cc pc = .ok (.lload i, 2)) (kk : V g R own cc Ts nL QF X k n ws (pc + 2) lv (.long x :: st)) : V g R own cc Ts nL QF X k n ws pc lv (st) := V.lift (fun p e s m args below meth c H locs ls Q hx hb ho ht hl kk => lv_lload hx hb hd (lv_at hl q hk) (kk ls hl)) kk
theorem V.dload_n {j : Fin 4} {i : Nat} {x : UInt64} (q : Nat) (hk : lv[q]? = some (i, .double x)) (hd : decode cc pc = .ok (.dload_n j, 1)) (hi : (j : Nat) = i) (kk : V g R own cc Ts nL QF X k n ws (pc + 1) lv (.double x :: st)) : V g R own cc Ts nL QF X k n ws pc lv (st) := V.lift (fun p e s m args below meth c H locs ls Q hx hb ho ht hl kk => lv_dload_n hx hb hd hi (lv_at hl q hk) (kk ls hl)) kk
theorem V.dload {i : Nat} {x : UInt64} (q : Nat) (hk : lv[q]? = some (i, .double x)) (hd : decode cc pc = .ok (.dload i, 2)) (kk : V g R own cc Ts nL QF X k n ws (pc + 2) lv (.double x :: st)) : V g R own cc Ts nL QF X k n ws pc lv (st) := V.lift (fun p e s m args below meth c H locs ls Q hx hb ho ht hl kk => lv_dload hx hb hd (lv_at hl q hk) (kk ls hl)) kk
theorem V.istore_n {j : Fin 4} {i : Nat} {x : Int32} {lv2 : List (Nat × Value)} (hd : decode cc pc = .ok (.istore_n j, 1)) (hi : (j : Nat) = i) (hn : i < nL) (hl2 : (i, Value.int x) :: lv.filter (fun q => !(q.1 == i) && !(q.1 + 1 == i && q.2.category == 2)) = lv2) (kk : V g R own cc Ts nL QF X k n ws (pc + 1) lv2 (st)) : V g R own cc Ts nL QF X k n ws pc lv (.int x :: st) := V.lift (fun p e s m args below meth c H locs ls Q hx hb ho ht hl kk => lv_istore_n hx hb hd hi hl hn hl2 kk) kk
theorem V.istore {i : Nat} {x : Int32} {lv2 : List (Nat × Value)} (hd : decode cc pc = .ok (.istore i, 2)) (hn : i < nL) (hl2 : (i, Value.int x) :: lv.filter (fun q => !(q.1 == i) && !(q.1 + 1 == i && q.2.category == 2)) = lv2) (kk : V g R own cc Ts nL QF X k n ws (pc + 2) lv2 (st)) : V g R own cc Ts nL QF X k n ws pc lv (.int x :: st) := V.lift (fun p e s m args below meth c H locs ls Q hx hb ho ht hl kk => lv_istore hx hb hd hl hn hl2 kk) kk
theorem V.astore_n {j : Fin 4} {i : Nat} {x : Nat} {lv2 : List (Nat × Value)} (hd : decode cc pc = .ok (.astore_n j, 1)) (hi : (j : Nat) = i) (hn : i < nL) (hl2 : (i, Value.ref x) :: lv.filter (fun q => !(q.1 == i) && !(q.1 + 1 == i && q.2.category == 2)) = lv2) (kk : V g R own cc Ts nL QF X k n ws (pc + 1) lv2 (st)) : V g R own cc Ts nL QF X k n ws pc lv (.ref x :: st) := V.lift (fun p e s m args below meth c H locs ls Q hx hb ho ht hl kk => lv_astore_n hx hb hd hi hl hn hl2 kk) kk
theorem V.astore {i : Nat} {x : Nat} {lv2 : List (Nat × Value)} (hd : decode cc pc = .ok (.astore i, 2)) (hn : i < nL) (hl2 : (i, Value.ref x) :: lv.filter (fun q => !(q.1 == i) && !(q.1 + 1 == i && q.2.category == 2)) = lv2) (kk : V g R own cc Ts nL QF X k n ws (pc + 2) lv2 (st)) : V g R own cc Ts nL QF X k n ws pc lv (.ref x :: st) := V.lift (fun p e s m args below meth c H locs ls Q hx hb ho ht hl kk => lv_astore hx hb hd hl hn hl2 kk) kk
theorem V.lstore_n {j : Fin 4} {i : Nat} {x : Int64} {lv2 : List (Nat × Value)} (hd : decode cc pc = .ok (.lstore_n j, 1)) (hi : (j : Nat) = i) (hn : i + 1 < nL) (hl2 : (i, Value.long x) :: lv.filter (fun q => !(q.1 == i) && (!(q.1 == i + 1) && !(q.1 + 1 == i && q.2.category == 2))) = lv2) (kk : V g R own cc Ts nL QF X k n ws (pc + 1) lv2 (st)) : V g R own cc Ts nL QF X k n ws pc lv (.long x :: st) := V.lift (fun p e s m args below meth c H locs ls Q hx hb ho ht hl kk => lv_lstore_n hx hb hd hi hl hn hl2 kk) kk
theorem V.lstore {i : Nat} {x : Int64} {lv2 : List (Nat × Value)} (hd : decode cc pc = .ok (.lstore i, 2)) (hn : i + 1 < nL) (hl2 : (i, Value.long x) :: lv.filter (fun q => !(q.1 == i) && (!(q.1 == i + 1) && !(q.1 + 1 == i && q.2.category == 2))) = lv2) (kk : V g R own cc Ts nL QF X k n ws (pc + 2) lv2 (st)) : V g R own cc Ts nL QF X k n ws pc lv (.long x :: st) := V.lift (fun p e s m args below meth c H locs ls Q hx hb ho ht hl kk => lv_lstore hx hb hd hl hn hl2 kk) kk
theorem V.dstore_n {j : Fin 4} {i : Nat} {x : UInt64} {lv2 : List (Nat × Value)} (hd : decode cc pc = .ok (.dstore_n j, 1)) (hi : (j : Nat) = i) (hn : i + 1 < nL) (hl2 : (i, Value.double x) :: lv.filter (fun q => !(q.1 == i) && (!(q.1 == i + 1) && !(q.1 + 1 == i && q.2.category == 2))) = lv2) (kk : V g R own cc Ts nL QF X k n ws (pc + 1) lv2 (st)) : V g R own cc Ts nL QF X k n ws pc lv (.double x :: st) := V.lift (fun p e s m args below meth c H locs ls Q hx hb ho ht hl kk => lv_dstore_n hx hb hd hi hl hn hl2 kk) kk
theorem V.dstore {i : Nat} {x : UInt64} {lv2 : List (Nat × Value)} (hd : decode cc pc = .ok (.dstore i, 2)) (hn : i + 1 < nL) (hl2 : (i, Value.double x) :: lv.filter (fun q => !(q.1 == i) && (!(q.1 == i + 1) && !(q.1 + 1 == i && q.2.category == 2))) = lv2) (kk : V g R own cc Ts nL QF X k n ws (pc + 2) lv2 (st)) : V g R own cc Ts nL QF X k n ws pc lv (.double x :: st) := V.lift (fun p e s m args below meth c H locs ls Q hx hb ho ht hl kk => lv_dstore hx hb hd hl hn hl2 kk) kk
theorem V.iinc {i : Nat} {z : Int} {x v : Int32} {lv2 : List (Nat × Value)} (q : Nat) (hk : lv[q]? = some (i, .int x)) (hd : decode cc pc = .ok (.iinc i z, 3)) (hv : x + Int32.ofInt z = v) (hn : i < nL) (hl2 : (i, Value.int v) :: lv.filter (fun q => !(q.1 == i) && !(q.1 + 1 == i && q.2.category == 2)) = lv2) (kk : V g R own cc Ts nL QF X k n ws (pc + 3) lv2 (st)) : V g R own cc Ts nL QF X k n ws pc lv (st) := V.lift (fun p e s m args below meth c H locs ls Q hx hb ho ht hl kk => lv_iinc hx hb hd hl hk hv hn hl2 kk) kk
theorem V.iconst {z : Int} {v : Int32} (hd : decode cc pc = .ok (.iconst z, 1)) (hv : Int32.ofInt z = v) (kk : V g R own cc Ts nL QF X k n ws (pc + 1) lv (.int v :: st)) : V g R own cc Ts nL QF X k n ws pc lv (st) := V.lift (fun p e s m args below meth c H locs ls Q hx hb ho ht hl kk => lv_iconst hx hb hd hv (kk ls hl)) kk
theorem V.bipush {z : Int} {v : Int32} (hd : decode cc pc = .ok (.bipush z, 2)) (hv : (Int8.ofInt z).toInt32 = v) (kk : V g R own cc Ts nL QF X k n ws (pc + 2) lv (.int v :: st)) : V g R own cc Ts nL QF X k n ws pc lv (st) := V.lift (fun p e s m args below meth c H locs ls Q hx hb ho ht hl kk => lv_bipush hx hb hd hv (kk ls hl)) kk
theorem V.sipush {z : Int} {v : Int32} (hd : decode cc pc = .ok (.sipush z, 3)) (hv : (Int16.ofInt z).toInt32 = v) (kk : V g R own cc Ts nL QF X k n ws (pc + 3) lv (.int v :: st)) : V g R own cc Ts nL QF X k n ws pc lv (st) := V.lift (fun p e s m args below meth c H locs ls Q hx hb ho ht hl kk => lv_sipush hx hb hd hv (kk ls hl)) kk
theorem V.lconst {z : Fin 2} {v : Int64} (hd : decode cc pc = .ok (.lconst z, 1)) (hv : Int64.ofNat (z : Nat) = v) (kk : V g R own cc Ts nL QF X k n ws (pc + 1) lv (.long v :: st)) : V g R own cc Ts nL QF X k n ws pc lv (st) := V.lift (fun p e s m args below meth c H locs ls Q hx hb ho ht hl kk => lv_lconst hx hb hd hv (kk ls hl)) kk
theorem V.ldci {i : Nat} {v : Int32} (hw : Cond.constant own i v ∈ Ts) (hd : decode cc pc = .ok (.ldc i, 2)) (kk : V g R own cc Ts nL QF X k n ws (pc + 2) lv (.int v :: st)) : V g R own cc Ts nL QF X k n ws pc lv (st) := V.lift (fun p e s m args below meth c H locs ls Q hx hb ho ht hl kk => lv_ldc hx hb ho (ht _ hw) hd (kk ls hl)) kk
theorem V.ldc2 {i : Nat} {v : Int64} (hw : Cond.constantLong own i v ∈ Ts) (hd : decode cc pc = .ok (.ldc2_w i, 3)) (kk : V g R own cc Ts nL QF X k n ws (pc + 3) lv (.long v :: st)) : V g R own cc Ts nL QF X k n ws pc lv (st) := V.lift (fun p e s m args below meth c H locs ls Q hx hb ho ht hl kk => lv_ldc2 hx hb ho (ht _ hw) hd (kk ls hl)) kk
theorem V.iadd {x y : Int32} (hd : decode cc pc = .ok (.iadd, 1)) (kk : V g R own cc Ts nL QF X k n ws (pc + 1) lv (.int (x + y) :: st)) : V g R own cc Ts nL QF X k n ws pc lv (.int y :: .int x :: st) := V.lift (fun p e s m args below meth c H locs ls Q hx hb ho ht hl kk => lv_iadd hx hb hd (kk ls hl)) kk
theorem V.iaddN {x y v : Int32} (hd : decode cc pc = .ok (.iadd, 1)) (hv : x + y = v) (kk : V g R own cc Ts nL QF X k n ws (pc + 1) lv (.int v :: st)) : V g R own cc Ts nL QF X k n ws pc lv (.int y :: .int x :: st) := V.lift (fun p e s m args below meth c H locs ls Q hx hb ho ht hl kk => lv_iadd hx hb hd (hv ▸ kk ls hl)) kk
theorem V.isub {x y : Int32} (hd : decode cc pc = .ok (.isub, 1)) (kk : V g R own cc Ts nL QF X k n ws (pc + 1) lv (.int (x - y) :: st)) : V g R own cc Ts nL QF X k n ws pc lv (.int y :: .int x :: st) := V.lift (fun p e s m args below meth c H locs ls Q hx hb ho ht hl kk => lv_isub hx hb hd (kk ls hl)) kk
theorem V.isubN {x y v : Int32} (hd : decode cc pc = .ok (.isub, 1)) (hv : x - y = v) (kk : V g R own cc Ts nL QF X k n ws (pc + 1) lv (.int v :: st)) : V g R own cc Ts nL QF X k n ws pc lv (.int y :: .int x :: st) := V.lift (fun p e s m args below meth c H locs ls Q hx hb ho ht hl kk => lv_isub hx hb hd (hv ▸ kk ls hl)) kk
theorem V.imul {x y : Int32} (hd : decode cc pc = .ok (.imul, 1)) (kk : V g R own cc Ts nL QF X k n ws (pc + 1) lv (.int (x * y) :: st)) : V g R own cc Ts nL QF X k n ws pc lv (.int y :: .int x :: st) := V.lift (fun p e s m args below meth c H locs ls Q hx hb ho ht hl kk => lv_imul hx hb hd (kk ls hl)) kk
theorem V.imulN {x y v : Int32} (hd : decode cc pc = .ok (.imul, 1)) (hv : x * y = v) (kk : V g R own cc Ts nL QF X k n ws (pc + 1) lv (.int v :: st)) : V g R own cc Ts nL QF X k n ws pc lv (.int y :: .int x :: st) := V.lift (fun p e s m args below meth c H locs ls Q hx hb ho ht hl kk => lv_imul hx hb hd (hv ▸ kk ls hl)) kk
theorem V.iand {x y : Int32} (hd : decode cc pc = .ok (.iand, 1)) (kk : V g R own cc Ts nL QF X k n ws (pc + 1) lv (.int (x &&& y) :: st)) : V g R own cc Ts nL QF X k n ws pc lv (.int y :: .int x :: st) := V.lift (fun p e s m args below meth c H locs ls Q hx hb ho ht hl kk => lv_iand hx hb hd (kk ls hl)) kk
theorem V.iandN {x y v : Int32} (hd : decode cc pc = .ok (.iand, 1)) (hv : x &&& y = v) (kk : V g R own cc Ts nL QF X k n ws (pc + 1) lv (.int v :: st)) : V g R own cc Ts nL QF X k n ws pc lv (.int y :: .int x :: st) := V.lift (fun p e s m args below meth c H locs ls Q hx hb ho ht hl kk => lv_iand hx hb hd (hv ▸ kk ls hl)) kk
theorem V.ior {x y : Int32} (hd : decode cc pc = .ok (.ior, 1)) (kk : V g R own cc Ts nL QF X k n ws (pc + 1) lv (.int (x ||| y) :: st)) : V g R own cc Ts nL QF X k n ws pc lv (.int y :: .int x :: st) := V.lift (fun p e s m args below meth c H locs ls Q hx hb ho ht hl kk => lv_ior hx hb hd (kk ls hl)) kk
theorem V.iorN {x y v : Int32} (hd : decode cc pc = .ok (.ior, 1)) (hv : x ||| y = v) (kk : V g R own cc Ts nL QF X k n ws (pc + 1) lv (.int v :: st)) : V g R own cc Ts nL QF X k n ws pc lv (.int y :: .int x :: st) := V.lift (fun p e s m args below meth c H locs ls Q hx hb ho ht hl kk => lv_ior hx hb hd (hv ▸ kk ls hl)) kk
theorem V.idiv {x y : Int32} (hd : decode cc pc = .ok (.idiv, 1)) (hne : ¬ y = 0) (kk : V g R own cc Ts nL QF X k n ws (pc + 1) lv (.int (x / y) :: st)) : V g R own cc Ts nL QF X k n ws pc lv (.int y :: .int x :: st) := V.lift (fun p e s m args below meth c H locs ls Q hx hb ho ht hl kk => lv_idiv hx hb hd hne (kk ls hl)) kk
theorem V.irem {x y : Int32} (hd : decode cc pc = .ok (.irem, 1)) (hne : ¬ y = 0) (kk : V g R own cc Ts nL QF X k n ws (pc + 1) lv (.int (x - x / y * y) :: st)) : V g R own cc Ts nL QF X k n ws pc lv (.int y :: .int x :: st) := V.lift (fun p e s m args below meth c H locs ls Q hx hb ho ht hl kk => lv_irem hx hb hd hne (kk ls hl)) kk
theorem V.ishl {x y : Int32} (hd : decode cc pc = .ok (.ishl, 1)) (kk : V g R own cc Ts nL QF X k n ws (pc + 1) lv (.int (x <<< (y &&& 31)) :: st)) : V g R own cc Ts nL QF X k n ws pc lv (.int y :: .int x :: st) := V.lift (fun p e s m args below meth c H locs ls Q hx hb ho ht hl kk => lv_ishl hx hb hd (kk ls hl)) kk
theorem V.ishr {x y : Int32} (hd : decode cc pc = .ok (.ishr, 1)) (kk : V g R own cc Ts nL QF X k n ws (pc + 1) lv (.int (x >>> (y &&& 31)) :: st)) : V g R own cc Ts nL QF X k n ws pc lv (.int y :: .int x :: st) := V.lift (fun p e s m args below meth c H locs ls Q hx hb ho ht hl kk => lv_ishr hx hb hd (kk ls hl)) kk
theorem V.ineg {x : Int32} (hd : decode cc pc = .ok (.ineg, 1)) (kk : V g R own cc Ts nL QF X k n ws (pc + 1) lv (.int (-x) :: st)) : V g R own cc Ts nL QF X k n ws pc lv (.int x :: st) := V.lift (fun p e s m args below meth c H locs ls Q hx hb ho ht hl kk => lv_ineg hx hb hd (kk ls hl)) kk
theorem V.ladd {x y : Int64} (hd : decode cc pc = .ok (.ladd, 1)) (kk : V g R own cc Ts nL QF X k n ws (pc + 1) lv (.long (x + y) :: st)) : V g R own cc Ts nL QF X k n ws pc lv (.long y :: .long x :: st) := V.lift (fun p e s m args below meth c H locs ls Q hx hb ho ht hl kk => lv_ladd hx hb hd (kk ls hl)) kk
theorem V.lsub {x y : Int64} (hd : decode cc pc = .ok (.lsub, 1)) (kk : V g R own cc Ts nL QF X k n ws (pc + 1) lv (.long (x - y) :: st)) : V g R own cc Ts nL QF X k n ws pc lv (.long y :: .long x :: st) := V.lift (fun p e s m args below meth c H locs ls Q hx hb ho ht hl kk => lv_lsub hx hb hd (kk ls hl)) kk
theorem V.lmul {x y : Int64} (hd : decode cc pc = .ok (.lmul, 1)) (kk : V g R own cc Ts nL QF X k n ws (pc + 1) lv (.long (x * y) :: st)) : V g R own cc Ts nL QF X k n ws pc lv (.long y :: .long x :: st) := V.lift (fun p e s m args below meth c H locs ls Q hx hb ho ht hl kk => lv_lmul hx hb hd (kk ls hl)) kk
theorem V.land {x y : Int64} (hd : decode cc pc = .ok (.land, 1)) (kk : V g R own cc Ts nL QF X k n ws (pc + 1) lv (.long (x &&& y) :: st)) : V g R own cc Ts nL QF X k n ws pc lv (.long y :: .long x :: st) := V.lift (fun p e s m args below meth c H locs ls Q hx hb ho ht hl kk => lv_land hx hb hd (kk ls hl)) kk
theorem V.lrem {x y : Int64} (hd : decode cc pc = .ok (.lrem, 1)) (hne : ¬ y = 0) (kk : V g R own cc Ts nL QF X k n ws (pc + 1) lv (.long (x - x / y * y) :: st)) : V g R own cc Ts nL QF X k n ws pc lv (.long y :: .long x :: st) := V.lift (fun p e s m args below meth c H locs ls Q hx hb ho ht hl kk => lv_lrem hx hb hd hne (kk ls hl)) kk
theorem V.i2l {x : Int32} (hd : decode cc pc = .ok (.i2l, 1)) (kk : V g R own cc Ts nL QF X k n ws (pc + 1) lv (.long x.toInt64 :: st)) : V g R own cc Ts nL QF X k n ws pc lv (.int x :: st) := V.lift (fun p e s m args below meth c H locs ls Q hx hb ho ht hl kk => lv_i2l hx hb hd rfl (kk ls hl)) kk
theorem V.l2i {x : Int64} (hd : decode cc pc = .ok (.l2i, 1)) (kk : V g R own cc Ts nL QF X k n ws (pc + 1) lv (.int x.toInt32 :: st)) : V g R own cc Ts nL QF X k n ws pc lv (.long x :: st) := V.lift (fun p e s m args below meth c H locs ls Q hx hb ho ht hl kk => lv_l2i hx hb hd rfl (kk ls hl)) kk
theorem V.i2d {x : Int32} (hd : decode cc pc = .ok (.i2d, 1)) (kk : V g R own cc Ts nL QF X k n ws (pc + 1) lv (.double (FP.i2d x) :: st)) : V g R own cc Ts nL QF X k n ws pc lv (.int x :: st) := V.lift (fun p e s m args below meth c H locs ls Q hx hb ho ht hl kk => lv_i2d hx hb hd (kk ls hl)) kk
theorem V.l2d {x : Int64} (hd : decode cc pc = .ok (.l2d, 1)) (kk : V g R own cc Ts nL QF X k n ws (pc + 1) lv (.double (FP.l2d x) :: st)) : V g R own cc Ts nL QF X k n ws pc lv (.long x :: st) := V.lift (fun p e s m args below meth c H locs ls Q hx hb ho ht hl kk => lv_l2d hx hb hd (kk ls hl)) kk
theorem V.d2l {x : UInt64} (hd : decode cc pc = .ok (.d2l, 1)) (kk : V g R own cc Ts nL QF X k n ws (pc + 1) lv (.long (FP.d2l x) :: st)) : V g R own cc Ts nL QF X k n ws pc lv (.double x :: st) := V.lift (fun p e s m args below meth c H locs ls Q hx hb ho ht hl kk => lv_d2l hx hb hd (kk ls hl)) kk
theorem V.ddiv {x y : UInt64} (hd : decode cc pc = .ok (.ddiv, 1)) (hne : vf_n64 (FP.ddiv x y)) (kk : V g R own cc Ts nL QF X k n ws (pc + 1) lv (.double (FP.ddiv x y) :: st)) : V g R own cc Ts nL QF X k n ws pc lv (.double y :: .double x :: st) := V.lift (fun p e s m args below meth c H locs ls Q hx hb ho ht hl kk => lv_ddiv hx hb hd hne (kk ls hl)) kk
theorem V.dmul {x y : UInt64} (hd : decode cc pc = .ok (.dmul, 1)) (hne : vf_n64 (FP.dmul x y)) (kk : V g R own cc Ts nL QF X k n ws (pc + 1) lv (.double (FP.dmul x y) :: st)) : V g R own cc Ts nL QF X k n ws pc lv (.double y :: .double x :: st) := V.lift (fun p e s m args below meth c H locs ls Q hx hb ho ht hl kk => lv_dmul hx hb hd hne (kk ls hl)) kk
theorem V.dcmp {x y : UInt64} {op : CmpOp} (hd : decode cc pc = .ok (.dcmp op, 1)) (kk : V g R own cc Ts nL QF X k n ws (pc + 1) lv (.int (Op.cmpValue (FP.dcmp x y) op) :: st)) : V g R own cc Ts nL QF X k n ws pc lv (.double y :: .double x :: st) := V.lift (fun p e s m args below meth c H locs ls Q hx hb ho ht hl kk => lv_dcmp hx hb hd (kk ls hl)) kk
theorem V.dup {a : Value} (hd : decode cc pc = .ok (.dup, 1)) (ha : a.category = 1) (kk : V g R own cc Ts nL QF X k n ws (pc + 1) lv (a :: a :: st)) : V g R own cc Ts nL QF X k n ws pc lv (a :: st) := V.lift (fun p e s m args below meth c H locs ls Q hx hb ho ht hl kk => lv_dup hx hb hd ha (kk ls hl)) kk
theorem V.dup_x1 {a b : Value} (hd : decode cc pc = .ok (.dup_x1, 1)) (ha : a.category = 1) (hb2 : b.category = 1) (kk : V g R own cc Ts nL QF X k n ws (pc + 1) lv (a :: b :: a :: st)) : V g R own cc Ts nL QF X k n ws pc lv (a :: b :: st) := V.lift (fun p e s m args below meth c H locs ls Q hx hb ho ht hl kk => lv_dup_x1 hx hb hd ha hb2 (kk ls hl)) kk
theorem V.dup2 {a b : Value} (hd : decode cc pc = .ok (.dup2, 1)) (ha : a.category = 1) (hb2 : b.category = 1) (kk : V g R own cc Ts nL QF X k n ws (pc + 1) lv (a :: b :: a :: b :: st)) : V g R own cc Ts nL QF X k n ws pc lv (a :: b :: st) := V.lift (fun p e s m args below meth c H locs ls Q hx hb ho ht hl kk => lv_dup2_11 hx hb hd ha hb2 (kk ls hl)) kk
theorem V.pop {a : Value} (hd : decode cc pc = .ok (.pop, 1)) (ha : a.category = 1) (kk : V g R own cc Ts nL QF X k n ws (pc + 1) lv (st)) : V g R own cc Ts nL QF X k n ws pc lv (a :: st) := V.lift (fun p e s m args below meth c H locs ls Q hx hb ho ht hl kk => lv_pop hx hb hd ha (kk ls hl)) kk
theorem V.goto {off : Int} {tgt : Nat} (hd : decode cc pc = .ok (.goto off, 3)) (ht2 : (pc : Int) + off = (tgt : Int)) (kk : V g R own cc Ts nL QF X k n ws tgt lv (st)) : V g R own cc Ts nL QF X k n ws pc lv (st) := V.lift (fun p e s m args below meth c H locs ls Q hx hb ho ht hl kk => lv_goto hx hb hd ht2 (kk ls hl)) kk
theorem V.icmp_eq {x y : Int32} {off : Int} {tgt : Nat} (hd : decode cc pc = .ok (.if_icmp .eq off, 3)) (ht2 : (pc : Int) + off = (tgt : Int)) (kt : x = y → V g R own cc Ts nL QF X k n ws tgt lv st) (kf : ¬ x = y → V g R own cc Ts nL QF X k n ws (pc + 3) lv st) : V g R own cc Ts nL QF X k n ws pc lv (.int y :: .int x :: st) := fun p e s m args below meth c A hx hb hml ho ht hA hE hX H locs ls hP hK hD hS hl => lv_icmp_eq hx hb hd ht2 (fun q => kt q p e s m args below meth c A hx hb hml ho ht hA hE hX H locs ls hP hK hD hS hl) (fun q => kf q p e s m args below meth c A hx hb hml ho ht hA hE hX H locs ls hP hK hD hS hl)
theorem V.icmp_eq_t {x y : Int32} {off : Int} {tgt : Nat} (hc : x = y) (hd : decode cc pc = .ok (.if_icmp .eq off, 3)) (ht2 : (pc : Int) + off = (tgt : Int)) (kt : V g R own cc Ts nL QF X k n ws tgt lv st) : V g R own cc Ts nL QF X k n ws pc lv (.int y :: .int x :: st) := V.icmp_eq hd ht2 (fun _ => kt) (fun q => absurd hc (by first | exact q | exact not_not_intro q))
theorem V.icmp_eq_f {x y : Int32} {off : Int} {tgt : Nat} (hc : ¬ x = y) (hd : decode cc pc = .ok (.if_icmp .eq off, 3)) (ht2 : (pc : Int) + off = (tgt : Int)) (kf : V g R own cc Ts nL QF X k n ws (pc + 3) lv st) : V g R own cc Ts nL QF X k n ws pc lv (.int y :: .int x :: st) := V.icmp_eq hd ht2 (fun q => absurd q (by first | exact hc | exact not_not_intro hc)) (fun _ => kf)
theorem V.if_eq {x : Int32} {off : Int} {tgt : Nat} (hd : decode cc pc = .ok (.ifCond .eq off, 3)) (ht2 : (pc : Int) + off = (tgt : Int)) (kt : x = 0 → V g R own cc Ts nL QF X k n ws tgt lv st) (kf : ¬ x = 0 → V g R own cc Ts nL QF X k n ws (pc + 3) lv st) : V g R own cc Ts nL QF X k n ws pc lv (.int x :: st) := fun p e s m args below meth c A hx hb hml ho ht hA hE hX H locs ls hP hK hD hS hl => lv_if_eq hx hb hd ht2 (fun q => kt q p e s m args below meth c A hx hb hml ho ht hA hE hX H locs ls hP hK hD hS hl) (fun q => kf q p e s m args below meth c A hx hb hml ho ht hA hE hX H locs ls hP hK hD hS hl)
theorem V.if_eq_t {x : Int32} {off : Int} {tgt : Nat} (hc : x = 0) (hd : decode cc pc = .ok (.ifCond .eq off, 3)) (ht2 : (pc : Int) + off = (tgt : Int)) (kt : V g R own cc Ts nL QF X k n ws tgt lv st) : V g R own cc Ts nL QF X k n ws pc lv (.int x :: st) := V.if_eq hd ht2 (fun _ => kt) (fun q => absurd hc (by first | exact q | exact not_not_intro q))
theorem V.if_eq_f {x : Int32} {off : Int} {tgt : Nat} (hc : ¬ x = 0) (hd : decode cc pc = .ok (.ifCond .eq off, 3)) (ht2 : (pc : Int) + off = (tgt : Int)) (kf : V g R own cc Ts nL QF X k n ws (pc + 3) lv st) : V g R own cc Ts nL QF X k n ws pc lv (.int x :: st) := V.if_eq hd ht2 (fun q => absurd q (by first | exact hc | exact not_not_intro hc)) (fun _ => kf)
theorem V.icmp_ne {x y : Int32} {off : Int} {tgt : Nat} (hd : decode cc pc = .ok (.if_icmp .ne off, 3)) (ht2 : (pc : Int) + off = (tgt : Int)) (kt : ¬ x = y → V g R own cc Ts nL QF X k n ws tgt lv st) (kf : x = y → V g R own cc Ts nL QF X k n ws (pc + 3) lv st) : V g R own cc Ts nL QF X k n ws pc lv (.int y :: .int x :: st) := fun p e s m args below meth c A hx hb hml ho ht hA hE hX H locs ls hP hK hD hS hl => lv_icmp_ne hx hb hd ht2 (fun q => kt q p e s m args below meth c A hx hb hml ho ht hA hE hX H locs ls hP hK hD hS hl) (fun q => kf q p e s m args below meth c A hx hb hml ho ht hA hE hX H locs ls hP hK hD hS hl)
theorem V.icmp_ne_t {x y : Int32} {off : Int} {tgt : Nat} (hc : ¬ x = y) (hd : decode cc pc = .ok (.if_icmp .ne off, 3)) (ht2 : (pc : Int) + off = (tgt : Int)) (kt : V g R own cc Ts nL QF X k n ws tgt lv st) : V g R own cc Ts nL QF X k n ws pc lv (.int y :: .int x :: st) := V.icmp_ne hd ht2 (fun _ => kt) (fun q => absurd hc (by first | exact q | exact not_not_intro q))
theorem V.icmp_ne_f {x y : Int32} {off : Int} {tgt : Nat} (hc : x = y) (hd : decode cc pc = .ok (.if_icmp .ne off, 3)) (ht2 : (pc : Int) + off = (tgt : Int)) (kf : V g R own cc Ts nL QF X k n ws (pc + 3) lv st) : V g R own cc Ts nL QF X k n ws pc lv (.int y :: .int x :: st) := V.icmp_ne hd ht2 (fun q => absurd q (by first | exact hc | exact not_not_intro hc)) (fun _ => kf)
theorem V.if_ne {x : Int32} {off : Int} {tgt : Nat} (hd : decode cc pc = .ok (.ifCond .ne off, 3)) (ht2 : (pc : Int) + off = (tgt : Int)) (kt : ¬ x = 0 → V g R own cc Ts nL QF X k n ws tgt lv st) (kf : x = 0 → V g R own cc Ts nL QF X k n ws (pc + 3) lv st) : V g R own cc Ts nL QF X k n ws pc lv (.int x :: st) := fun p e s m args below meth c A hx hb hml ho ht hA hE hX H locs ls hP hK hD hS hl => lv_if_ne hx hb hd ht2 (fun q => kt q p e s m args below meth c A hx hb hml ho ht hA hE hX H locs ls hP hK hD hS hl) (fun q => kf q p e s m args below meth c A hx hb hml ho ht hA hE hX H locs ls hP hK hD hS hl)
theorem V.if_ne_t {x : Int32} {off : Int} {tgt : Nat} (hc : ¬ x = 0) (hd : decode cc pc = .ok (.ifCond .ne off, 3)) (ht2 : (pc : Int) + off = (tgt : Int)) (kt : V g R own cc Ts nL QF X k n ws tgt lv st) : V g R own cc Ts nL QF X k n ws pc lv (.int x :: st) := V.if_ne hd ht2 (fun _ => kt) (fun q => absurd hc (by first | exact q | exact not_not_intro q))
theorem V.if_ne_f {x : Int32} {off : Int} {tgt : Nat} (hc : x = 0) (hd : decode cc pc = .ok (.ifCond .ne off, 3)) (ht2 : (pc : Int) + off = (tgt : Int)) (kf : V g R own cc Ts nL QF X k n ws (pc + 3) lv st) : V g R own cc Ts nL QF X k n ws pc lv (.int x :: st) := V.if_ne hd ht2 (fun q => absurd q (by first | exact hc | exact not_not_intro hc)) (fun _ => kf)
theorem V.icmp_lt {x y : Int32} {off : Int} {tgt : Nat} (hd : decode cc pc = .ok (.if_icmp .lt off, 3)) (ht2 : (pc : Int) + off = (tgt : Int)) (kt : x < y → V g R own cc Ts nL QF X k n ws tgt lv st) (kf : ¬ x < y → V g R own cc Ts nL QF X k n ws (pc + 3) lv st) : V g R own cc Ts nL QF X k n ws pc lv (.int y :: .int x :: st) := fun p e s m args below meth c A hx hb hml ho ht hA hE hX H locs ls hP hK hD hS hl => lv_icmp_lt hx hb hd ht2 (fun q => kt q p e s m args below meth c A hx hb hml ho ht hA hE hX H locs ls hP hK hD hS hl) (fun q => kf q p e s m args below meth c A hx hb hml ho ht hA hE hX H locs ls hP hK hD hS hl)
theorem V.icmp_lt_t {x y : Int32} {off : Int} {tgt : Nat} (hc : x < y) (hd : decode cc pc = .ok (.if_icmp .lt off, 3)) (ht2 : (pc : Int) + off = (tgt : Int)) (kt : V g R own cc Ts nL QF X k n ws tgt lv st) : V g R own cc Ts nL QF X k n ws pc lv (.int y :: .int x :: st) := V.icmp_lt hd ht2 (fun _ => kt) (fun q => absurd hc (by first | exact q | exact not_not_intro q))
theorem V.icmp_lt_f {x y : Int32} {off : Int} {tgt : Nat} (hc : ¬ x < y) (hd : decode cc pc = .ok (.if_icmp .lt off, 3)) (ht2 : (pc : Int) + off = (tgt : Int)) (kf : V g R own cc Ts nL QF X k n ws (pc + 3) lv st) : V g R own cc Ts nL QF X k n ws pc lv (.int y :: .int x :: st) := V.icmp_lt hd ht2 (fun q => absurd q (by first | exact hc | exact not_not_intro hc)) (fun _ => kf)
theorem V.if_lt {x : Int32} {off : Int} {tgt : Nat} (hd : decode cc pc = .ok (.ifCond .lt off, 3)) (ht2 : (pc : Int) + off = (tgt : Int)) (kt : x < 0 → V g R own cc Ts nL QF X k n ws tgt lv st) (kf : ¬ x < 0 → V g R own cc Ts nL QF X k n ws (pc + 3) lv st) : V g R own cc Ts nL QF X k n ws pc lv (.int x :: st) := fun p e s m args below meth c A hx hb hml ho ht hA hE hX H locs ls hP hK hD hS hl => lv_if_lt hx hb hd ht2 (fun q => kt q p e s m args below meth c A hx hb hml ho ht hA hE hX H locs ls hP hK hD hS hl) (fun q => kf q p e s m args below meth c A hx hb hml ho ht hA hE hX H locs ls hP hK hD hS hl)
theorem V.if_lt_t {x : Int32} {off : Int} {tgt : Nat} (hc : x < 0) (hd : decode cc pc = .ok (.ifCond .lt off, 3)) (ht2 : (pc : Int) + off = (tgt : Int)) (kt : V g R own cc Ts nL QF X k n ws tgt lv st) : V g R own cc Ts nL QF X k n ws pc lv (.int x :: st) := V.if_lt hd ht2 (fun _ => kt) (fun q => absurd hc (by first | exact q | exact not_not_intro q))
theorem V.if_lt_f {x : Int32} {off : Int} {tgt : Nat} (hc : ¬ x < 0) (hd : decode cc pc = .ok (.ifCond .lt off, 3)) (ht2 : (pc : Int) + off = (tgt : Int)) (kf : V g R own cc Ts nL QF X k n ws (pc + 3) lv st) : V g R own cc Ts nL QF X k n ws pc lv (.int x :: st) := V.if_lt hd ht2 (fun q => absurd q (by first | exact hc | exact not_not_intro hc)) (fun _ => kf)
theorem V.icmp_ge {x y : Int32} {off : Int} {tgt : Nat} (hd : decode cc pc = .ok (.if_icmp .ge off, 3)) (ht2 : (pc : Int) + off = (tgt : Int)) (kt : y ≤ x → V g R own cc Ts nL QF X k n ws tgt lv st) (kf : ¬ y ≤ x → V g R own cc Ts nL QF X k n ws (pc + 3) lv st) : V g R own cc Ts nL QF X k n ws pc lv (.int y :: .int x :: st) := fun p e s m args below meth c A hx hb hml ho ht hA hE hX H locs ls hP hK hD hS hl => lv_icmp_ge hx hb hd ht2 (fun q => kt q p e s m args below meth c A hx hb hml ho ht hA hE hX H locs ls hP hK hD hS hl) (fun q => kf q p e s m args below meth c A hx hb hml ho ht hA hE hX H locs ls hP hK hD hS hl)
theorem V.icmp_ge_t {x y : Int32} {off : Int} {tgt : Nat} (hc : y ≤ x) (hd : decode cc pc = .ok (.if_icmp .ge off, 3)) (ht2 : (pc : Int) + off = (tgt : Int)) (kt : V g R own cc Ts nL QF X k n ws tgt lv st) : V g R own cc Ts nL QF X k n ws pc lv (.int y :: .int x :: st) := V.icmp_ge hd ht2 (fun _ => kt) (fun q => absurd hc (by first | exact q | exact not_not_intro q))
theorem V.icmp_ge_f {x y : Int32} {off : Int} {tgt : Nat} (hc : ¬ y ≤ x) (hd : decode cc pc = .ok (.if_icmp .ge off, 3)) (ht2 : (pc : Int) + off = (tgt : Int)) (kf : V g R own cc Ts nL QF X k n ws (pc + 3) lv st) : V g R own cc Ts nL QF X k n ws pc lv (.int y :: .int x :: st) := V.icmp_ge hd ht2 (fun q => absurd q (by first | exact hc | exact not_not_intro hc)) (fun _ => kf)
theorem V.if_ge {x : Int32} {off : Int} {tgt : Nat} (hd : decode cc pc = .ok (.ifCond .ge off, 3)) (ht2 : (pc : Int) + off = (tgt : Int)) (kt : 0 ≤ x → V g R own cc Ts nL QF X k n ws tgt lv st) (kf : ¬ 0 ≤ x → V g R own cc Ts nL QF X k n ws (pc + 3) lv st) : V g R own cc Ts nL QF X k n ws pc lv (.int x :: st) := fun p e s m args below meth c A hx hb hml ho ht hA hE hX H locs ls hP hK hD hS hl => lv_if_ge hx hb hd ht2 (fun q => kt q p e s m args below meth c A hx hb hml ho ht hA hE hX H locs ls hP hK hD hS hl) (fun q => kf q p e s m args below meth c A hx hb hml ho ht hA hE hX H locs ls hP hK hD hS hl)
theorem V.if_ge_t {x : Int32} {off : Int} {tgt : Nat} (hc : 0 ≤ x) (hd : decode cc pc = .ok (.ifCond .ge off, 3)) (ht2 : (pc : Int) + off = (tgt : Int)) (kt : V g R own cc Ts nL QF X k n ws tgt lv st) : V g R own cc Ts nL QF X k n ws pc lv (.int x :: st) := V.if_ge hd ht2 (fun _ => kt) (fun q => absurd hc (by first | exact q | exact not_not_intro q))
theorem V.if_ge_f {x : Int32} {off : Int} {tgt : Nat} (hc : ¬ 0 ≤ x) (hd : decode cc pc = .ok (.ifCond .ge off, 3)) (ht2 : (pc : Int) + off = (tgt : Int)) (kf : V g R own cc Ts nL QF X k n ws (pc + 3) lv st) : V g R own cc Ts nL QF X k n ws pc lv (.int x :: st) := V.if_ge hd ht2 (fun q => absurd q (by first | exact hc | exact not_not_intro hc)) (fun _ => kf)
theorem V.icmp_gt {x y : Int32} {off : Int} {tgt : Nat} (hd : decode cc pc = .ok (.if_icmp .gt off, 3)) (ht2 : (pc : Int) + off = (tgt : Int)) (kt : y < x → V g R own cc Ts nL QF X k n ws tgt lv st) (kf : ¬ y < x → V g R own cc Ts nL QF X k n ws (pc + 3) lv st) : V g R own cc Ts nL QF X k n ws pc lv (.int y :: .int x :: st) := fun p e s m args below meth c A hx hb hml ho ht hA hE hX H locs ls hP hK hD hS hl => lv_icmp_gt hx hb hd ht2 (fun q => kt q p e s m args below meth c A hx hb hml ho ht hA hE hX H locs ls hP hK hD hS hl) (fun q => kf q p e s m args below meth c A hx hb hml ho ht hA hE hX H locs ls hP hK hD hS hl)
theorem V.icmp_gt_t {x y : Int32} {off : Int} {tgt : Nat} (hc : y < x) (hd : decode cc pc = .ok (.if_icmp .gt off, 3)) (ht2 : (pc : Int) + off = (tgt : Int)) (kt : V g R own cc Ts nL QF X k n ws tgt lv st) : V g R own cc Ts nL QF X k n ws pc lv (.int y :: .int x :: st) := V.icmp_gt hd ht2 (fun _ => kt) (fun q => absurd hc (by first | exact q | exact not_not_intro q))
theorem V.icmp_gt_f {x y : Int32} {off : Int} {tgt : Nat} (hc : ¬ y < x) (hd : decode cc pc = .ok (.if_icmp .gt off, 3)) (ht2 : (pc : Int) + off = (tgt : Int)) (kf : V g R own cc Ts nL QF X k n ws (pc + 3) lv st) : V g R own cc Ts nL QF X k n ws pc lv (.int y :: .int x :: st) := V.icmp_gt hd ht2 (fun q => absurd q (by first | exact hc | exact not_not_intro hc)) (fun _ => kf)
theorem V.if_gt {x : Int32} {off : Int} {tgt : Nat} (hd : decode cc pc = .ok (.ifCond .gt off, 3)) (ht2 : (pc : Int) + off = (tgt : Int)) (kt : 0 < x → V g R own cc Ts nL QF X k n ws tgt lv st) (kf : ¬ 0 < x → V g R own cc Ts nL QF X k n ws (pc + 3) lv st) : V g R own cc Ts nL QF X k n ws pc lv (.int x :: st) := fun p e s m args below meth c A hx hb hml ho ht hA hE hX H locs ls hP hK hD hS hl => lv_if_gt hx hb hd ht2 (fun q => kt q p e s m args below meth c A hx hb hml ho ht hA hE hX H locs ls hP hK hD hS hl) (fun q => kf q p e s m args below meth c A hx hb hml ho ht hA hE hX H locs ls hP hK hD hS hl)
theorem V.if_gt_t {x : Int32} {off : Int} {tgt : Nat} (hc : 0 < x) (hd : decode cc pc = .ok (.ifCond .gt off, 3)) (ht2 : (pc : Int) + off = (tgt : Int)) (kt : V g R own cc Ts nL QF X k n ws tgt lv st) : V g R own cc Ts nL QF X k n ws pc lv (.int x :: st) := V.if_gt hd ht2 (fun _ => kt) (fun q => absurd hc (by first | exact q | exact not_not_intro q))
theorem V.if_gt_f {x : Int32} {off : Int} {tgt : Nat} (hc : ¬ 0 < x) (hd : decode cc pc = .ok (.ifCond .gt off, 3)) (ht2 : (pc : Int) + off = (tgt : Int)) (kf : V g R own cc Ts nL QF X k n ws (pc + 3) lv st) : V g R own cc Ts nL QF X k n ws pc lv (.int x :: st) := V.if_gt hd ht2 (fun q => absurd q (by first | exact hc | exact not_not_intro hc)) (fun _ => kf)
theorem V.icmp_le {x y : Int32} {off : Int} {tgt : Nat} (hd : decode cc pc = .ok (.if_icmp .le off, 3)) (ht2 : (pc : Int) + off = (tgt : Int)) (kt : x ≤ y → V g R own cc Ts nL QF X k n ws tgt lv st) (kf : ¬ x ≤ y → V g R own cc Ts nL QF X k n ws (pc + 3) lv st) : V g R own cc Ts nL QF X k n ws pc lv (.int y :: .int x :: st) := fun p e s m args below meth c A hx hb hml ho ht hA hE hX H locs ls hP hK hD hS hl => lv_icmp_le hx hb hd ht2 (fun q => kt q p e s m args below meth c A hx hb hml ho ht hA hE hX H locs ls hP hK hD hS hl) (fun q => kf q p e s m args below meth c A hx hb hml ho ht hA hE hX H locs ls hP hK hD hS hl)
theorem V.icmp_le_t {x y : Int32} {off : Int} {tgt : Nat} (hc : x ≤ y) (hd : decode cc pc = .ok (.if_icmp .le off, 3)) (ht2 : (pc : Int) + off = (tgt : Int)) (kt : V g R own cc Ts nL QF X k n ws tgt lv st) : V g R own cc Ts nL QF X k n ws pc lv (.int y :: .int x :: st) := V.icmp_le hd ht2 (fun _ => kt) (fun q => absurd hc (by first | exact q | exact not_not_intro q))
theorem V.icmp_le_f {x y : Int32} {off : Int} {tgt : Nat} (hc : ¬ x ≤ y) (hd : decode cc pc = .ok (.if_icmp .le off, 3)) (ht2 : (pc : Int) + off = (tgt : Int)) (kf : V g R own cc Ts nL QF X k n ws (pc + 3) lv st) : V g R own cc Ts nL QF X k n ws pc lv (.int y :: .int x :: st) := V.icmp_le hd ht2 (fun q => absurd q (by first | exact hc | exact not_not_intro hc)) (fun _ => kf)
theorem V.if_le {x : Int32} {off : Int} {tgt : Nat} (hd : decode cc pc = .ok (.ifCond .le off, 3)) (ht2 : (pc : Int) + off = (tgt : Int)) (kt : x ≤ 0 → V g R own cc Ts nL QF X k n ws tgt lv st) (kf : ¬ x ≤ 0 → V g R own cc Ts nL QF X k n ws (pc + 3) lv st) : V g R own cc Ts nL QF X k n ws pc lv (.int x :: st) := fun p e s m args below meth c A hx hb hml ho ht hA hE hX H locs ls hP hK hD hS hl => lv_if_le hx hb hd ht2 (fun q => kt q p e s m args below meth c A hx hb hml ho ht hA hE hX H locs ls hP hK hD hS hl) (fun q => kf q p e s m args below meth c A hx hb hml ho ht hA hE hX H locs ls hP hK hD hS hl)
theorem V.if_le_t {x : Int32} {off : Int} {tgt : Nat} (hc : x ≤ 0) (hd : decode cc pc = .ok (.ifCond .le off, 3)) (ht2 : (pc : Int) + off = (tgt : Int)) (kt : V g R own cc Ts nL QF X k n ws tgt lv st) : V g R own cc Ts nL QF X k n ws pc lv (.int x :: st) := V.if_le hd ht2 (fun _ => kt) (fun q => absurd hc (by first | exact q | exact not_not_intro q))
theorem V.if_le_f {x : Int32} {off : Int} {tgt : Nat} (hc : ¬ x ≤ 0) (hd : decode cc pc = .ok (.ifCond .le off, 3)) (ht2 : (pc : Int) + off = (tgt : Int)) (kf : V g R own cc Ts nL QF X k n ws (pc + 3) lv st) : V g R own cc Ts nL QF X k n ws pc lv (.int x :: st) := V.if_le hd ht2 (fun q => absurd q (by first | exact hc | exact not_not_intro hc)) (fun _ => kf)
theorem V.dconst0 (hd : decode cc pc = .ok (.dconst 0, 1)) (kk : V g R own cc Ts nL QF X k n ws (pc + 1) lv (.double FP.dconst0 :: st)) : V g R own cc Ts nL QF X k n ws pc lv st := V.lift (fun p e s m args below meth c H locs ls Q hx hb ho ht hl kk => lv_dconst0 hx hb hd (kk ls hl)) kk
theorem V.dconst1 (hd : decode cc pc = .ok (.dconst 1, 1)) (kk : V g R own cc Ts nL QF X k n ws (pc + 1) lv (.double FP.dconst1 :: st)) : V g R own cc Ts nL QF X k n ws pc lv st := V.lift (fun p e s m args below meth c H locs ls Q hx hb ho ht hl kk => lv_dconst1 hx hb hd (kk ls hl)) kk
theorem V.ldc2d {i : Nat} {v : UInt64} (hw : Cond.constantDouble own i v ∈ Ts) (hd : decode cc pc = .ok (.ldc2_w i, 3)) (kk : V g R own cc Ts nL QF X k n ws (pc + 3) lv (.double v :: st)) : V g R own cc Ts nL QF X k n ws pc lv st := V.lift (fun p e s m args below meth c H locs ls Q hx hb ho ht hl kk => lv_ldc2d hx hb ho (ht _ hw) hd (kk ls hl)) kk
theorem V.lcmp {x y : Int64} (hd : decode cc pc = .ok (.lcmp, 1)) (kk : V g R own cc Ts nL QF X k n ws (pc + 1) lv (.int (lg_cmp x y) :: st)) : V g R own cc Ts nL QF X k n ws pc lv (.long y :: .long x :: st) := V.lift (fun p e s m args below meth c H locs ls Q hx hb ho ht hl kk => W.lcmp hx hb hd (kk ls hl)) kk
theorem V.lshl {x v : Int64} {y : Int32} (hd : decode cc pc = .ok (.lshl, 1)) (hv : x <<< (y.toInt64 &&& 63) = v) (kk : V g R own cc Ts nL QF X k n ws (pc + 1) lv (.long v :: st)) : V g R own cc Ts nL QF X k n ws pc lv (.int y :: .long x :: st) := V.lift (fun p e s m args below meth c H locs ls Q hx hb ho ht hl kk => lv_lshl hx hb hd hv (kk ls hl)) kk
theorem V.null (hd : decode cc pc = .ok (.aconst_null, 1)) (kk : V g R own cc Ts nL QF X k n ws (pc + 1) lv (.null :: st)) : V g R own cc Ts nL QF X k n ws pc lv st := V.lift (fun p e s m args below meth c H locs ls Q hx hb ho ht hl kk => lv_null hx hb hd (kk ls hl)) kk
theorem V.ifnonnull {a : Nat} {off : Int} {tgt : Nat} (hd : decode cc pc = .ok (.ifnonnull off, 3)) (ht2 : (pc : Int) + off = (tgt : Int)) (kk : V g R own cc Ts nL QF X k n ws tgt lv st) : V g R own cc Ts nL QF X k n ws pc lv (.ref a :: st) := V.lift (fun p e s m args below meth c H locs ls Q hx hb ho ht hl kk => lv_ifnonnull hx hb hd ht2 (kk ls hl)) kk
theorem V.ifnonnullN {off : Int} (hd : decode cc pc = .ok (.ifnonnull off, 3)) (kk : V g R own cc Ts nL QF X k n ws (pc + 3) lv st) : V g R own cc Ts nL QF X k n ws pc lv (.null :: st) := V.lift (fun p e s m args below meth c H locs ls Q hx hb ho ht hl kk => lv_ifnonnullN hx hb hd (kk ls hl)) kk
theorem V.tableIn {dflt lo hi : Int} {offs : Array Int} {len : Nat} {x : Int32} {off : Int} {tgt : Nat} (h1 : ¬ x.toInt < lo) (h2 : ¬ hi < x.toInt) (ho2 : offs[(x.toInt - lo).toNat]? = some off) (hd : decode cc pc = .ok (.tableswitch dflt lo hi offs, len)) (ht2 : (pc : Int) + off = (tgt : Int)) (kk : V g R own cc Ts nL QF X k n ws tgt lv st) : V g R own cc Ts nL QF X k n ws pc lv (.int x :: st) := V.lift (fun p e s m args below meth c H locs ls Q hx hb ho ht hl kk => lv_tableIn hx hb hd h1 h2 ho2 ht2 (kk ls hl)) kk
theorem V.tableOut {dflt lo hi : Int} {offs : Array Int} {len : Nat} {x : Int32} {tgt : Nat} (h1 : x.toInt < lo ∨ hi < x.toInt) (hd : decode cc pc = .ok (.tableswitch dflt lo hi offs, len)) (ht2 : (pc : Int) + dflt = (tgt : Int)) (kk : V g R own cc Ts nL QF X k n ws tgt lv st) : V g R own cc Ts nL QF X k n ws pc lv (.int x :: st) := V.lift (fun p e s m args below meth c H locs ls Q hx hb ho ht hl kk => lv_tableOut hx hb hd h1 ht2 (kk ls hl)) kk
/-! heap rows -/
theorem V.get {C : String} {T : u_T} {N ci i : Nat} {a : Nat} {fs : List Value} {v : Value} (hin : ∀ w ∈ u_ws C T N, w ∈ Ts) (hc : vwCl[ci]? = some (C, T, N)) (q0 f : Nat) (hf : f < N) (hlk : Cond.fieldLink own i (T f).1 (T f).2.1 (T f).2.2.1 ∈ Ts) (he : ws[q0]? = some (a, .inr (ci, fs))) (hv : fs[f]? = some v) (hd : decode cc pc = .ok (.getfield i, 3)) (kk : V g R own cc Ts nL QF X k n ws (pc + 3) lv (v :: st)) : V g R own cc Ts nL QF X k n ws pc lv (.ref a :: st) :=
  fun p e s m args below meth c A hx hb hml ho ht hA hE hX H locs ls hP hK hD hS hl => va_get hx hb ht hin ho hK hP q0 he hc f hf (ht _ hlk) (fun _ h9 => h9) hv hd (kk p e s m args below meth c A hx hb hml ho ht hA hE hX H locs ls hP hK hD hS hl)
theorem V.put {C : String} {T : u_T} {N ci i : Nat} {a : Nat} {fs : List Value} {v : Value} {ty : FieldType} {ws2 : va_W} (hin : ∀ w ∈ u_ws C T N, w ∈ Ts) (ty0 : Nat → FieldType) (hty : ∀ k, k < N → parseFieldDescriptor (T k).2.2.1 = some (ty0 k)) (hnm : ∀ a, a < N → ∀ b, b < N → a ≠ b → (T a).2.1 ≠ (T b).2.1) (hc : vwCl[ci]? = some (C, T, N)) (q0 f : Nat) (hf : f < N) (hlk : Cond.fieldLink own i (T f).1 (T f).2.1 (T f).2.2.1 ∈ Ts) (he : ws[q0]? = some (a, .inr (ci, fs))) (hfin : (T f).2.2.2 = false) (hd0 : parseFieldDescriptor (T f).2.2.1 = some ty) (hn : narrow ty v = v) (hfit : fits ty v = true) (hfl : f < fs.length) (hws : ws.set q0 (a, .inr (ci, fs.set f v)) = ws2) (hd : decode cc pc = .ok (.putfield i, 3)) (kk : V g R own cc Ts nL QF X k n ws2 (pc + 3) lv st) : V g R own cc Ts nL QF X k n ws pc lv (v :: .ref a :: st) :=
  fun p e s m args below meth c A hx hb hml ho ht hA hE hX H locs ls hP hK hD hS hl => va_put hx hb ht hin ty0 hty hnm ho hK hP hD hS q0 he hc f hf (ht _ hlk) (fun _ h9 => h9) hfin hd0 hn hfit hfl hd (fun H1 locs1 hP hD hS => kk p e s m args below meth c A hx hb hml ho ht hA hE hX H1 locs1 ls (hws ▸ hP) hK (hws ▸ hD) hS hl)
theorem V.putF {C : String} {T : u_T} {N ci i : Nat} {a : Nat} {fs : List Value} {v : Value} {ty : FieldType} {ws2 : va_W} (hin : ∀ w ∈ u_ws C T N, w ∈ Ts) (ty0 : Nat → FieldType) (hty : ∀ k, k < N → parseFieldDescriptor (T k).2.2.1 = some (ty0 k)) (hnm : ∀ a, a < N → ∀ b, b < N → a ≠ b → (T a).2.1 ≠ (T b).2.1) (hc : vwCl[ci]? = some (C, T, N)) (q0 f : Nat) (hf : f < N) (hlk : Cond.fieldLink own i (T f).1 (T f).2.1 (T f).2.2.1 ∈ Ts) (he : ws[q0]? = some (a, .inr (ci, fs))) (hfin : (T f).2.2.2 = true) (hdecl : (T f).1 = own) (hXn : ∀ p s m args meth c A, X p s m args meth c A → meth.name = "<init>") (hd0 : parseFieldDescriptor (T f).2.2.1 = some ty) (hn : narrow ty v = v) (hfit : fits ty v = true) (hfl : f < fs.length) (hws : ws.set q0 (a, .inr (ci, fs.set f v)) = ws2) (hd : decode cc pc = .ok (.putfield i, 3)) (kk : V g R own cc Ts nL QF X k n ws2 (pc + 3) lv st) : V g R own cc Ts nL QF X k n ws pc lv (v :: .ref a :: st) :=
  fun p e s m args below meth c A hx hb hml ho ht hA hE hX H locs ls hP hK hD hS hl => va_putF hx hb ht hin ty0 hty hnm ho hK hP hD hS q0 he hc f hf (ht _ hlk) (fun _ h9 => h9) hfin (hXn _ _ _ _ _ _ _ hX) hdecl hd0 hn hfit hfl hd (fun H1 locs1 hP hD hS => kk p e s m args below meth c A hx hb hml ho ht hA hE hX H1 locs1 ls (hws ▸ hP) hK (hws ▸ hD) hS hl)
theorem V.iald {a len : Nat} {f : Nat → Int32} {x : Int32} (q0 j : Nat) (ha : ws[q0]? = some (a, .inl (g.2.2 0, len, .inl f))) (hi : x = nI j) (hj : j < len) (hL : len < 2 ^ 31) (hd : decode cc pc = .ok (.iaload, 1)) (kk : V g R own cc Ts nL QF X k n ws (pc + 1) lv (.int (f j) :: st)) : V g R own cc Ts nL QF X k n ws pc lv (.int x :: .ref a :: st) :=
  fun p e s m args below meth c A hx hb hml ho ht hA hE hX H locs ls hP hK hD hS hl => va_iald hx hb hK hP q0 0 ha rfl (i := x) (by rw [hi]; exact vp_in_nI hj hL) hd (by rw [hi, nI_clamp (by omega)]; exact kk p e s m args below meth c A hx hb hml ho ht hA hE hX H locs ls hP hK hD hS hl)
theorem V.iast {a len : Nat} {f : Nat → Int32} {x v : Int32} {ws2 : va_W} (q0 j : Nat) (ha : ws[q0]? = some (a, .inl (g.2.2 0, len, .inl f))) (hi : x = nI j) (hj : j < len) (hL : len < 2 ^ 31) (hws : ws.set q0 (a, .inl (g.2.2 0, len, .inl (upd f j v))) = ws2) (hd : decode cc pc = .ok (.iastore, 1)) (kk : V g R own cc Ts nL QF X k n ws2 (pc + 1) lv st) : V g R own cc Ts nL QF X k n ws pc lv (.int v :: .int x :: .ref a :: st) := by
  intro p e s m args below meth c A hx hb hml ho ht hA hE hX H locs ls hP hK hD hS hl
  subst hi
  refine va_iast hx hb hK hP hD hS q0 0 ha rfl (vp_in_nI hj hL) hd (fun H1 locs1 hP hD hS => ?_)
  rw [nI_clamp (by omega)] at hP hD
  exact kk p e s m args below meth c A hx hb hml ho ht hA hE hX H1 locs1 ls (hws ▸ hP) hK (hws ▸ hD) hS hl
theorem V.zald {a len : Nat} {f : Nat → Int32} {x : Int32} (q0 j : Nat) (ha : ws[q0]? = some (a, .inl (g.2.2 1, len, .inl f))) (hi : x = nI j) (hj : j < len) (hL : len < 2 ^ 31) (hd : decode cc pc = .ok (.baload, 1)) (kk : V g R own cc Ts nL QF X k n ws (pc + 1) lv (.int (f j) :: st)) : V g R own cc Ts nL QF X k n ws pc lv (.int x :: .ref a :: st) :=
  fun p e s m args below meth c A hx hb hml ho ht hA hE hX H locs ls hP hK hD hS hl => va_zald hx hb hK hP q0 1 ha rfl (i := x) (by rw [hi]; exact vp_in_nI hj hL) hd (by rw [hi, nI_clamp (by omega)]; exact kk p e s m args below meth c A hx hb hml ho ht hA hE hX H locs ls hP hK hD hS hl)
theorem V.zast {a len : Nat} {f : Nat → Int32} {x v : Int32} {ws2 : va_W} (q0 j : Nat) (ha : ws[q0]? = some (a, .inl (g.2.2 1, len, .inl f))) (hi : x = nI j) (hj : j < len) (hL : len < 2 ^ 31) (hv : vp_nar .boolean v = v) (hws : ws.set q0 (a, .inl (g.2.2 1, len, .inl (upd f j v))) = ws2) (hd : decode cc pc = .ok (.bastore, 1)) (kk : V g R own cc Ts nL QF X k n ws2 (pc + 1) lv st) : V g R own cc Ts nL QF X k n ws pc lv (.int v :: .int x :: .ref a :: st) := by
  intro p e s m args below meth c A hx hb hml ho ht hA hE hX H locs ls hP hK hD hS hl
  subst hi
  refine va_zast hx hb hK hP hD hS q0 1 ha rfl (vp_in_nI hj hL) hd (fun H1 locs1 hP hD hS => ?_)
  rw [nI_clamp (by omega), hv] at hP hD
  exact kk p e s m args below meth c A hx hb hml ho ht hA hE hX H1 locs1 ls (hws ▸ hP) hK (hws ▸ hD) hS hl
theorem V.lald {a len : Nat} {f : Nat → Int64} {x : Int32} (q0 j : Nat) (ha : ws[q0]? = some (a, .inl (g.2.2 3, len, .inr (.inl f)))) (hi : x = nI j) (hj : j < len) (hL : len < 2 ^ 31) (hd : decode cc pc = .ok (.laload, 1)) (kk : V g R own cc Ts nL QF X k n ws (pc + 1) lv (.long (f j) :: st)) : V g R own cc Ts nL QF X k n ws pc lv (.int x :: .ref a :: st) :=
  fun p e s m args below meth c A hx hb hml ho ht hA hE hX H locs ls hP hK hD hS hl => va_lald hx hb hK hP q0 3 ha rfl (i := x) (by rw [hi]; exact vp_in_nI hj hL) hd (by rw [hi, nI_clamp (by omega)]; exact kk p e s m args below meth c A hx hb hml ho ht hA hE hX H locs ls hP hK hD hS hl)
theorem V.last {a len : Nat} {f : Nat → Int64} {x : Int32} {v : Int64} {ws2 : va_W} (q0 j : Nat) (ha : ws[q0]? = some (a, .inl (g.2.2 3, len, .inr (.inl f)))) (hi : x = nI j) (hj : j < len) (hL : len < 2 ^ 31) (hws : ws.set q0 (a, .inl (g.2.2 3, len, .inr (.inl (vp_updL f j v)))) = ws2) (hd : decode cc pc = .ok (.lastore, 1)) (kk : V g R own cc Ts nL QF X k n ws2 (pc + 1) lv st) : V g R own cc Ts nL QF X k n ws pc lv (.long v :: .int x :: .ref a :: st) := by
  intro p e s m args below meth c A hx hb hml ho ht hA hE hX H locs ls hP hK hD hS hl
  subst hi
  refine va_last hx hb hK hP hD hS q0 3 ha rfl (vp_in_nI hj hL) hd (fun H1 locs1 hP hD hS => ?_)
  rw [nI_clamp (by omega)] at hP hD
  exact kk p e s m args below meth c A hx hb hml ho ht hA hE hX H1 locs1 ls (hws ▸ hP) hK (hws ▸ hD) hS hl
theorem V.aald {a len : Nat} {f : Nat → Option Nat} {x : Int32} {v : Value} (q0 j : Nat) (ha : ws[q0]? = some (a, .inl (g.2.2 2, len, .inr (.inr (.inr (.inr f)))))) (hi : x = nI j) (hj : j < len) (hL : len < 2 ^ 31) (hv : va_rf (f j) = v) (hd : decode cc pc = .ok (.aaload, 1)) (kk : V g R own cc Ts nL QF X k n ws (pc + 1) lv (v :: st)) : V g R own cc Ts nL QF X k n ws pc lv (.int x :: .ref a :: st) :=
  fun p e s m args below meth c A hx hb hml ho ht hA hE hX H locs ls hP hK hD hS hl => va_aldq hx hb hK hP q0 2 ha rfl (i := x) (by rw [hi]; exact vp_in_nI hj hL) hd (by rw [hi, nI_clamp (by omega), hv]; exact kk p e s m args below meth c A hx hb hml ho ht hA hE hX H locs ls hP hK hD hS hl)
theorem V.aast {a len b ci : Nat} {vs : List Value} {f : Nat → Option Nat} {x : Int32} {ws2 : va_W} (q0 j qk : Nat) (ha : ws[q0]? = some (a, .inl (g.2.2 2, len, .inr (.inr (.inr (.inr f)))))) (hv : ws[qk]? = some (b, .inr (2, vs))) (hi : x = nI j) (hj : j < len) (hL : len < 2 ^ 31) (hws : ws.set q0 (a, .inl (g.2.2 2, len, .inr (.inr (.inr (.inr (va_up f j (some b))))))) = ws2) (hd : decode cc pc = .ok (.aastore, 1)) (kk : V g R own cc Ts nL QF X k n ws2 (pc + 1) lv st) : V g R own cc Ts nL QF X k n ws pc lv (.ref b :: .int x :: .ref a :: st) := by
  intro p e s m args below meth c A hx hb hml ho ht hA hE hX H locs ls hP hK hD hS hl
  subst hi
  refine va_astq hx hb hK hP hD hS q0 2 qk 2 (r := (RX2, TX2, 12)) ha rfl hv rfl (vp_in_nI hj hL) hd (fun H1 locs1 hP hD hS => ?_)
  rw [nI_clamp (by omega)] at hP hD
  exact kk p e s m args below meth c A hx hb hml ho ht hA hE hX H1 locs1 ls (hws ▸ hP) hK (hws ▸ hD) hS hl
theorem V.alen {a : Nat} {x : vp_A} {t : Nat} {ty : FieldType} {v : Int32} (q0 : Nat) (ha : ws[q0]? = some (a, .inl (g.2.2 t, x))) (ht0 : (gT g)[t]? = some (g.2.2 t, ty)) (hv : Int32.ofNat x.1 = v) (hd : decode cc pc = .ok (.arraylength, 1)) (kk : V g R own cc Ts nL QF X k n ws (pc + 1) lv (.int v :: st)) : V g R own cc Ts nL QF X k n ws pc lv (.ref a :: st) :=
  fun p e s m args below meth c A hx hb hml ho ht hA hE hX H locs ls hP hK hD hS hl => va_alen hx hb hK hP q0 t ha ht0 hv hd (kk p e s m args below meth c A hx hb hml ho ht hA hE hX H locs ls hP hK hD hS hl)
theorem V.new {C : String} {T : u_T} {N ci i : Nat} {fs : List Value} (hin : ∀ w ∈ u_ws C T N, w ∈ Ts) (ty : Nat → FieldType) (hty : ∀ k, k < N → parseFieldDescriptor (T k).2.2.1 = some (ty k)) (hcl : Cond.classLink own i C ∈ Ts) (hinst : Cond.instantiable C N ∈ Ts) (hini : Cond.initialized C ∈ Ts) (hc : vwCl[ci]? = some (C, T, N)) (hfs : ∀ j, j < N → defaultValue (ty j) = vp_V fs j) (hk1 : k + 1 ≤ R.cells) (hn1 : n + N ≤ R.slots) (hd : decode cc pc = .ok (.new i, 3)) (kk : ∀ q : Nat, V g R own cc Ts nL QF X (k + 1) (n + N) (ws ++ [(q, .inr (ci, fs))]) (pc + 3) lv (.ref q :: st)) : V g R own cc Ts nL QF X k n ws pc lv st :=
  fun p e s m args below meth c A hx hb hml ho ht hA hE hX H locs ls hP hK hD hS hl => va_new hx hb ht hin ty hty ho (ht _ hcl) (ht _ hinst) (ht _ hini) hK hP hD hS hA hc hfs hk1 hn1 hd (fun q H1 hP hD hS => kk q p e s m args below meth c A hx hb hml ho ht hA hE hX H1 locs ls hP hK hD hS hl)
theorem va_Ku {D : va_G} {cl : List vw_C} {tys : List (ClassId × FieldType)} {U : State} {t : Nat} {c0 cA : ClassId} {ty : FieldType} (h1 : va_K D cl (tys ++ [(cA, ty)]) U) (ht : tys[t]? = some (c0, ty)) (hlt : t < tys.length) : cA = c0 := by
  have a1 := (h1.2 t (c0, ty) (by rw [List.getElem?_append_left hlt]; exact ht)).2
  have a2 := (h1.2 tys.length (cA, ty) (by rw [List.getElem?_append_right (Nat.le_refl _)]; simp)).2
  cases ty with
  | object C =>
    obtain ⟨_, _, _, _, _, b1⟩ := a1
    obtain ⟨_, _, _, _, _, b2⟩ := a2
    exact Option.some.inj (b2.symm.trans b1)
  | _ => exact Option.some.inj (Eq.trans (Eq.symm a2) a1)
theorem V.newa {atype : ArrayType} {ty : FieldType} {x : Int32} {len t : Nat} {a0 : vp_A} (harr : Cond.arrayClass (newarray.typeOf atype) ∈ Ts) (hty : newarray.typeOf atype = ty) (ht0 : (gT g)[t]? = some (g.2.2 t, ty)) (htl : t < 4) (ha : ∀ cA : ClassId, vp_cell cA a0 = arrV cA len (fun _ => defaultValue ty)) (hx0 : ¬ x < 0) (hN : x.toNatClampNeg = len) (hby : len * componentBytes ty ≤ 536870912) (hk1 : k + 1 ≤ R.cells) (hn1 : n + len ≤ R.slots) (hd : decode cc pc = .ok (.newarray atype, 2)) (kk : ∀ q : Nat, V g R own cc Ts nL QF X (k + 1) (n + len) (ws ++ [(q, .inl (g.2.2 t, a0))]) (pc + 2) lv (.ref q :: st)) : V g R own cc Ts nL QF X k n ws pc lv (.int x :: st) :=
  fun p e s m args below meth c A hx hb hml ho ht hA hE hX H locs ls hP hK hD hS hl => va_newa hx hb (ht _ harr) hty hK hP hD hS hA ha hx0 hN hby hk1 hn1 hd (fun q cA H1 hK1 hP hD hS => by
    have e9 := va_Ku hK1 ht0 htl
    subst e9
    exact kk q p e s m args below meth c A hx hb hml ho ht hA hE hX H1 locs ls hP hK hD hS hl)
/-! returns -/
theorem QFr.q {g : GT} {rm : Room} {Q : Option Value → va_W → Prop} : ∀ (below : List Frame) (args : Array Value) (s : State) (A : Nat → Prop) (t : State), MQ below (QU g Q A) args s rm.cells rm.slots A t → QFr g rm Q below args s A t := fun _ _ _ _ _ h => h
theorem QFx.q {g : GT} {rm : Room} {Q : Option Value → va_W → Prop} {XX : String → va_W → Prop} : ∀ (below : List Frame) (args : Array Value) (s : State) (A : Nat → Prop) (t : State), MQ below (QU g Q A) args s rm.cells rm.slots A t → QFx g rm Q XX below args s A t := by
  intro below args s A t h
  obtain ⟨o, b1, b2, b3, b4⟩ := h
  exact ⟨o, b1, b2, Or.inl ⟨b3, b4⟩⟩
theorem XM.r {ret : Option FieldType} {nm : String} : ∀ (p : Program) (s : State) (m : MethodId) (args : Array Value) (meth : Method) (c : Code) (A : Nat → Prop), XM ret nm p s m args meth c A → meth.sig.returnType = ret ∧ meth.locks = false := fun _ _ _ _ _ _ _ h => ⟨h.1, h.2.1⟩
theorem XMx.r {ret : Option FieldType} {nm : String} : ∀ (p : Program) (s : State) (m : MethodId) (args : Array Value) (meth : Method) (c : Code) (A : Nat → Prop), XMx ret nm p s m args meth c A → meth.sig.returnType = ret ∧ meth.locks = false := fun _ _ _ _ _ _ _ h => ⟨h.1, h.2.1⟩
theorem XMh.r {ret : Option FieldType} {hh : List (Nat × Nat × Nat × Nat)} : ∀ (p : Program) (s : State) (m : MethodId) (args : Array Value) (meth : Method) (c : Code) (A : Nat → Prop), XMh ret hh p s m args meth c A → meth.sig.returnType = ret ∧ meth.locks = false := fun _ _ _ _ _ _ _ h => ⟨h.1, h.2.1⟩
theorem XM.nm {ret : Option FieldType} : ∀ (p : Program) (s : State) (m : MethodId) (args : Array Value) (meth : Method) (c : Code) (A : Nat → Prop), XM ret "<init>" p s m args meth c A → meth.name = "<init>" := fun _ _ _ _ _ _ _ h => h.2.2
abbrev QFok (g : GT) (rm : Room) (Q : Option Value → va_W → Prop) (QF : QT) : Prop := ∀ (below : List Frame) (args : Array Value) (s : State) (A : Nat → Prop) (t : State), MQ below (QU g Q A) args s rm.cells rm.slots A t → QF below args s A t
abbrev XRok (ret : Option FieldType) (X : XT) : Prop := ∀ (p : Program) (s : State) (m : MethodId) (args : Array Value) (meth : Method) (c : Code) (A : Nat → Prop), X p s m args meth c A → meth.sig.returnType = ret ∧ meth.locks = false
theorem W.post {p : Program} {l : Launch} {e : Env} {s : State} {m : MethodId} {args : Array Value} {below : List Frame} {meth : Method} {c : Code} {H : Heap} {locs : List Loc} {Q Q2 : State → Prop} {f : JFrame} (h : ∀ t, Q t → Q2 t) (kk : W p l e R s m args below meth c H locs k n Q f) : W p l e R s m args below meth c H locs k n Q2 f := fun T hT Y => (kk T hT Y).elim fun t a => ⟨t, a.1, h t a.2⟩
theorem V.iret {rm : Room} {Q : Option Value → va_W → Prop} {x : Int32} (hq : QFok g rm Q QF) (hr : XRok (some .int) X) (hk : k ≤ rm.cells) (hn : n ≤ rm.slots) (hQ : Q (some (.int x)) ws) (hd : decode cc pc = .ok (.ireturn, 1)) : V g R own cc Ts nL QF X k n ws pc lv [.int x] :=
  fun p e s m args below meth c A hx hb hml ho ht hA hE hX H locs ls hP hK hD hS hl => W.post (hq below args s A) (W.widen hk hn (W.iret hx hb (hr _ _ _ _ _ _ _ hX).1 (fun t ht2 _ => ⟨⟨_, ws, rfl, hQ, by rw [ht2]; exact hP, hD⟩, hS.F ht2⟩) hS.2.2 hd (hlocks := (hr _ _ _ _ _ _ _ hX).2)))
theorem V.zret {rm : Room} {Q : Option Value → va_W → Prop} {x : Int32} {ty : FieldType} (hq : QFok g rm Q QF) (hr : XRok (some ty) X) (hnar : narrow ty (.int x) = .int x) (hk : k ≤ rm.cells) (hn : n ≤ rm.slots) (hQ : Q (some (.int x)) ws) (hd : decode cc pc = .ok (.ireturn, 1)) : V g R own cc Ts nL QF X k n ws pc lv [.int x] :=
  fun p e s m args below meth c A hx hb hml ho ht hA hE hX H locs ls hP hK hD hS hl => W.post (hq below args s A) (W.widen hk hn (W.zret hx hb (hr _ _ _ _ _ _ _ hX).1 hnar (fun t ht2 _ => ⟨⟨_, ws, rfl, hQ, by rw [ht2]; exact hP, hD⟩, hS.F ht2⟩) hS.2.2 hd (hlocks := (hr _ _ _ _ _ _ _ hX).2)))
theorem V.vret {rm : Room} {Q : Option Value → va_W → Prop} (hq : QFok g rm Q QF) (hr : XRok none X) (hk : k ≤ rm.cells) (hn : n ≤ rm.slots) (hQ : Q none ws) (hd : decode cc pc = .ok (.return_, 1)) : V g R own cc Ts nL QF X k n ws pc lv [] :=
  fun p e s m args below meth c A hx hb hml ho ht hA hE hX H locs ls hP hK hD hS hl => W.post (hq below args s A) (W.widen hk hn (W.vret hx hb (hr _ _ _ _ _ _ _ hX).1 (fun t ht2 _ => ⟨⟨_, ws, rfl, hQ, by rw [ht2]; exact hP, hD⟩, hS.F ht2⟩) hS.2.2 hd (hlocks := (hr _ _ _ _ _ _ _ hX).2)))
theorem V.lret {rm : Room} {Q : Option Value → va_W → Prop} {x : Int64} (hq : QFok g rm Q QF) (hr : XRok (some .long) X) (hk : k ≤ rm.cells) (hn : n ≤ rm.slots) (hQ : Q (some (.long x)) ws) (hd : decode cc pc = .ok (.lreturn, 1)) : V g R own cc Ts nL QF X k n ws pc lv [.long x] :=
  fun p e s m args below meth c A hx hb hml ho ht hA hE hX H locs ls hP hK hD hS hl => W.post (hq below args s A) (W.widen hk hn (W.lret hx hb (hr _ _ _ _ _ _ _ hX).1 (fun t ht2 _ => ⟨⟨_, ws, rfl, hQ, by rw [ht2]; exact hP, hD⟩, hS.F ht2⟩) hS.2.2 hd (hlocks := (hr _ _ _ _ _ _ _ hX).2)))
theorem V.dret {rm : Room} {Q : Option Value → va_W → Prop} {x : UInt64} (hq : QFok g rm Q QF) (hr : XRok (some .double) X) (hk : k ≤ rm.cells) (hn : n ≤ rm.slots) (hQ : Q (some (.double x)) ws) (hd : decode cc pc = .ok (.dreturn, 1)) : V g R own cc Ts nL QF X k n ws pc lv [.double x] :=
  fun p e s m args below meth c A hx hb hml ho ht hA hE hX H locs ls hP hK hD hS hl => W.post (hq below args s A) (W.widen hk hn (W.dret hx hb (hr _ _ _ _ _ _ _ hX).1 (fun t ht2 _ => ⟨⟨_, ws, rfl, hQ, by rw [ht2]; exact hP, hD⟩, hS.F ht2⟩) hS.2.2 hd (hlocks := (hr _ _ _ _ _ _ _ hX).2)))
/-! calls -/
theorem PU.blind {g : GT} {av : List Value} {W0 : va_W} {sz : Nat} : FrameBlind (PU g av W0 sz) := fun a U gg mk h => by
  obtain ⟨h0, h1, h2, h3, h4, h5⟩ := h
  exact ⟨h0, h1, h2, va_K.moved (u := U) (U := U.calling gg mk a) (Vm.Alike.refl U.vm) h3, h4, h5.calling gg mk a⟩
theorem is_W0 {ws W0 : va_W} {is : List Nat} (hC : is.map (fun i => ws[i]?) = W0.map some) : is.filterMap (fun i => ws[i]?) = W0 := by
  have h1 : is.filterMap (fun i => ws[i]?) = (is.map (fun i => ws[i]?)).filterMap id := by rw [List.filterMap_map]; rfl
  rw [h1, hC, List.filterMap_map]
  simp
theorem PU.at {g : GT} {s U : State} {H : Heap} {locs : List Loc} {A : Nat → Prop} {W0 : va_W} {av : List Value} {is : List Nat} (hA : ∀ q : Nat, s.heap.size ≤ q → A q) (hE : EG A s s.heap) (hP : va_P g.2.1 vwCl ws H) (hK : va_K g.2.1 vwCl (gT g) s) (hD : va_D A ws) (hS : va_S A s.heap H locs) (hnd : va_nd is = true) (hC : is.map (fun i => ws[i]?) = W0.map some) (hU : U.heap = H) (hW : s.WarmedH U.vm) : PU g av W0 H.size av.toArray U := by
  subst hU
  exact ⟨rfl, rfl, hP.sub is (is_W0 hC), va_K.moved hW.alike hK, (hD.sub is hnd hC).weaken (fun _ _ _ _ => trivial), hE.go hW hS (va_free hD hS hA is hC)⟩
theorem va_callU {p : Program} {l : Launch} {e : Env} {s : State} {m : MethodId} {args : Array Value} {below : List Frame} {meth : Method} {c : Code} {H H0 : Heap} {locs : List Loc} {mc ms : Nat} {QQ : State → Prop} {Q : Option Value → va_W → Prop} {A0 A1 : Nat → Prop} {a : Array Value} {ls : Array Slot} {st0 : List Value} {free : Addr → Prop}
    (hr : va_Run p l e R s m args below meth c H locs k n mc ms (F0 m pc ls st0) rest (QU g Q A1 a) free) (hS : va_S A0 H0 H locs) (hA : ∀ q, q < H.size → A1 q → A0 q) (hf : ∀ q, free q → A0 q)
    (kk : ∀ (v : Option Value) (w : va_W) (H1 : Heap) (locs1 : List Loc), Q v w → va_P g.2.1 vwCl w H1 → va_D A1 w → (∀ q : Nat, q < H.size → ¬ A1 q → H1[q]? = H[q]?) → va_S A0 H0 H1 locs1 → W p l e R s m args below meth c H1 locs1 (k + mc) (n + ms) QQ (F0 m (pc + 3) ls (v.toList ++ rest))) : W p l e R s m args below meth c H locs k n QQ (F0 m pc ls st0) := by
  intro T hT X
  obtain ⟨v, st₀, t, T', L, h0, X', hL, e1, e2, ⟨⟨v2, w, hv, hq, hp, hd⟩, hz, hk⟩, st⟩ := hr T hT X
  cases hv
  rw [h0] at hz hk
  obtain ⟨t2, a1, b1⟩ := kk v w T'.heap (locs ++ L) hq (by rw [e1]; exact hp) hd (fun q h1 h2 => by rw [e1]; exact hk q h1 h2)
    ⟨Nat.le_trans hS.1 (by rw [e1]; exact hz), fun q h1 h2 => by rw [e1, hk q (Nat.lt_of_lt_of_le h1 hS.1) (fun z => h2 (hA q (Nat.lt_of_lt_of_le h1 hS.1) z))]; exact hS.2.1 q h1 h2, fun q hq => by
      rcases List.mem_append.mp hq with h | h
      · exact hS.2.2 q h
      · exact hf _ (hL q h)⟩ T' rfl X'
  exact ⟨t2, st t2 a1, b1⟩
theorem V.callV {y : MethodName} {wy wy' : List Cond} {rm : Room} {W0 : va_W} {Q : Option Value → va_W → Prop} {C : String} {T : u_T} {N ci i maxL b : Nat} {bytes : ByteArray} {ret : Option FieldType} {fs : List Value} (As rest : List Value) (hM : UC g y wy rm (.ref b :: As) W0 Q) (hG : GoodIn Ts (wsV own i C y wy)) (hw : wy = Cond.code y bytes maxL ret :: wy')
    (hd1 : y.cls = C ∧ y.cls ≠ "java/lang/invoke/MethodHandle" ∧ y.cls ≠ "java/lang/invoke/VarHandle" ∧ (parseMethodDescriptor y.desc).map (fun d => d.parameters.length) = some As.length) (hRm : rm.frames + 1 ≤ R.frames ∧ 8 + (maxL + 11) + rm.locals ≤ R.locals) (hc : vwCl[ci]? = some (C, T, N)) (q0 : Nat) (he : ws[q0]? = some (b, .inr (ci, fs)))
    (is : List Nat) (hnd : va_nd is = true) (hC : is.map (fun i => ws[i]?) = W0.map some) (hst : st = As.reverse ++ .ref b :: rest) (hcat : (rest.map fun v => v.category).sum ≤ 8) (hf : k + rm.cells ≤ R.cells ∧ n + rm.slots ≤ R.slots) (hd : decode cc pc = .ok (.invokevirtual i, 3)) (hQa : ∀ v w, Q v w → (w.take is.length).map Prod.fst = W0.map Prod.fst)
    (kk : ∀ v w, Q v w → V g R own cc Ts nL QF X (k + rm.cells) (n + rm.slots) (insW ws is w) (pc + 3) lv (v.toList ++ rest)) : V g R own cc Ts nL QF X k n ws pc lv st := by
  intro p e s m args below meth c A hx hb hml ho ht hA hE hX H locs ls hP hK hD hS hl
  have hF := va_free hD hS hA is hC
  refine va_callU (va_runV (As := As) (rest := rest) ⟨hx, hb, hml, ho, ht⟩ (hM H.size) (cwV As.length ht hG hw rfl rfl hd1 hRm) ⟨PU.blind, va_recv hK hP hc he, fun U hU hW => PU.at hA hE hP hK hD hS hnd hC hU hW⟩ rfl rfl hl.1 hst (lv_room hcat) hd hf) hS (fun q _ h => hF q h) hF (fun v w H1 locs1 hq hP1 hD1 hk1 hS => ?_)
  obtain ⟨hP2, hD2⟩ := insW_ok hP hD is hC hk1 hF hP1 hD1 (hQa v w hq)
  exact kk v w hq p e s m args below meth c A hx hb hml ho ht hA hE hX H1 locs1 ls hP2 hK hD2 hS hl
theorem V.callS {y : MethodName} {wy wy' : List Cond} {rm : Room} {W0 : va_W} {Q : Option Value → va_W → Prop} {i maxL : Nat} {bytes : ByteArray} {ret : Option FieldType} (As rest : List Value) (hM : UC g y wy rm As W0 Q) (hG : GoodIn Ts (va_wsS own i y wy)) (hw : wy = Cond.code y bytes maxL ret :: wy')
    (hd1 : y.cls ≠ "java/lang/invoke/MethodHandle" ∧ y.cls ≠ "java/lang/invoke/VarHandle" ∧ (parseMethodDescriptor y.desc).map (fun d => d.parameters.length) = some As.length) (hRm : rm.frames + 1 ≤ R.frames ∧ 8 + (maxL + 11) + rm.locals ≤ R.locals)
    (is : List Nat) (hnd : va_nd is = true) (hC : is.map (fun i => ws[i]?) = W0.map some) (hst : st = As.reverse ++ rest) (hcat : (rest.map fun v => v.category).sum ≤ 8) (hf : k + rm.cells ≤ R.cells ∧ n + rm.slots ≤ R.slots) (hd : decode cc pc = .ok (.invokestatic i, 3)) (hQa : ∀ v w, Q v w → (w.take is.length).map Prod.fst = W0.map Prod.fst)
    (kk : ∀ v w, Q v w → V g R own cc Ts nL QF X (k + rm.cells) (n + rm.slots) (insW ws is w) (pc + 3) lv (v.toList ++ rest)) : V g R own cc Ts nL QF X k n ws pc lv st := by
  intro p e s m args below meth c A hx hb hml ho ht hA hE hX H locs ls hP hK hD hS hl
  have hF := va_free hD hS hA is hC
  refine va_callU (va_runS (As := As) (rest := rest) ⟨hx, hb, hml, ho, ht⟩ (hM H.size) (va_cwS As.length ht hG hw rfl rfl hd1 hRm) ⟨PU.blind, fun U hU hW => PU.at hA hE hP hK hD hS hnd hC hU hW⟩ rfl rfl hl.1 hst (lv_room hcat) hd hf) hS (fun q _ h => hF q h) hF (fun v w H1 locs1 hq hP1 hD1 hk1 hS => ?_)
  obtain ⟨hP2, hD2⟩ := insW_ok hP hD is hC hk1 hF hP1 hD1 (hQa v w hq)
  exact kk v w hq p e s m args below meth c A hx hb hml ho ht hA hE hX H1 locs1 ls hP2 hK hD2 hS hl
theorem V.callI {y : MethodName} {wy wy' : List Cond} {rm : Room} {W0 : va_W} {Q : Option Value → va_W → Prop} {i maxL b : Nat} {bytes : ByteArray} (As rest : List Value) (hM : UC g y wy rm (.ref b :: As) W0 Q) (hG : GoodIn Ts wy) (hw : wy = Cond.code y bytes maxL none :: wy') (hini : Cond.initialized y.cls ∈ Ts) (hlk : Cond.methodLink own i y ∈ Ts) (hins : Cond.instanceMethod y ∈ Ts) (hy1 : y.name = "<init>")
    (hd1 : y.cls ≠ "java/lang/invoke/MethodHandle" ∧ y.cls ≠ "java/lang/invoke/VarHandle" ∧ (parseMethodDescriptor y.desc).map (fun d => d.parameters.length) = some As.length) (hRm : rm.frames + 1 ≤ R.frames ∧ 8 + (maxL + 11) + rm.locals ≤ R.locals)
    (is : List Nat) (hnd : va_nd is = true) (hC : is.map (fun i => ws[i]?) = W0.map some) (hst : st = As.reverse ++ .ref b :: rest) (hcat : (rest.map fun v => v.category).sum ≤ 8) (hf : k + rm.cells ≤ R.cells ∧ n + rm.slots ≤ R.slots) (hd : decode cc pc = .ok (.invokespecial i, 3)) (hQa : ∀ v w, Q v w → (w.take is.length).map Prod.fst = W0.map Prod.fst)
    (kk : ∀ v w, Q v w → V g R own cc Ts nL QF X (k + rm.cells) (n + rm.slots) (insW ws is w) (pc + 3) lv (v.toList ++ rest)) : V g R own cc Ts nL QF X k n ws pc lv st := by
  intro p e s m args below meth c A hx hb hml ho ht hA hE hX H locs ls hP hK hD hS hl
  have hF := va_free hD hS hA is hC
  refine va_callU (va_runI (As := As) (rest := rest) ⟨hx, hb, hml, ho, ht⟩ (hM H.size) (cwI As.length ht hG hw rfl rfl (ht _ hini) (ht _ hlk) (ht _ hins) hy1 hd1 hRm) ⟨PU.blind, fun U hU hW => PU.at hA hE hP hK hD hS hnd hC hU hW⟩ rfl rfl hl.1 hst (lv_room hcat) hd hf) hS (fun q _ h => hF q h) hF (fun v w H1 locs1 hq hP1 hD1 hk1 hS => ?_)
  obtain ⟨hP2, hD2⟩ := insW_ok hP hD is hC hk1 hF hP1 hD1 (hQa v w hq)
  exact kk v w hq p e s m args below meth c A hx hb hml ho ht hA hE hX H1 locs1 ls hP2 hK hD2 hS hl
/-- a contract that says answer and world behind outright -/
def Qf (rv : Option Value) (w1 : va_W) : Option Value → va_W → Prop := fun v w => v = rv ∧ w = w1
theorem V.callVf {y : MethodName} {wy wy' : List Cond} {rm : Room} {W0 w1 ws2 : va_W} {rv : Option Value} {C : String} {T : u_T} {N ci i maxL b k2 n2 : Nat} {bytes : ByteArray} {ret : Option FieldType} {fs : List Value} {st2 : List Value} (As rest : List Value) (hM : UC g y wy rm (.ref b :: As) W0 (Qf rv w1)) (hG : GoodIn Ts (wsV own i C y wy)) (hw : wy = Cond.code y bytes maxL ret :: wy')
    (hd1 : y.cls = C ∧ y.cls ≠ "java/lang/invoke/MethodHandle" ∧ y.cls ≠ "java/lang/invoke/VarHandle" ∧ (parseMethodDescriptor y.desc).map (fun d => d.parameters.length) = some As.length) (hRm : rm.frames + 1 ≤ R.frames ∧ 8 + (maxL + 11) + rm.locals ≤ R.locals) (hc : vwCl[ci]? = some (C, T, N)) (q0 : Nat) (he : ws[q0]? = some (b, .inr (ci, fs)))
    (is : List Nat) (hnd : va_nd is = true) (hC : is.map (fun i => ws[i]?) = W0.map some) (hst : st = As.reverse ++ .ref b :: rest) (hcat : (rest.map fun v => v.category).sum ≤ 8) (hf : k + rm.cells ≤ R.cells ∧ n + rm.slots ≤ R.slots) (hd : decode cc pc = .ok (.invokevirtual i, 3))
    (hfst : (w1.take is.length).map Prod.fst = W0.map Prod.fst) (hins : insW ws is w1 = ws2) (hrv : rv.toList ++ rest = st2) (hk2 : k + rm.cells = k2) (hn2 : n + rm.slots = n2) (kk : V g R own cc Ts nL QF X k2 n2 ws2 (pc + 3) lv st2) : V g R own cc Ts nL QF X k n ws pc lv st := by
  refine V.callV As rest hM hG hw hd1 hRm hc q0 he is hnd hC hst hcat hf hd (fun v w h => by rw [h.2]; exact hfst) (fun v w h => ?_)
  obtain ⟨rfl, rfl⟩ := h
  rw [hins, hrv, hk2, hn2]
  exact kk
theorem V.callSf {y : MethodName} {wy wy' : List Cond} {rm : Room} {W0 w1 ws2 : va_W} {rv : Option Value} {i maxL k2 n2 : Nat} {bytes : ByteArray} {ret : Option FieldType} {st2 : List Value} (As rest : List Value) (hM : UC g y wy rm As W0 (Qf rv w1)) (hG : GoodIn Ts (va_wsS own i y wy)) (hw : wy = Cond.code y bytes maxL ret :: wy')
    (hd1 : y.cls ≠ "java/lang/invoke/MethodHandle" ∧ y.cls ≠ "java/lang/invoke/VarHandle" ∧ (parseMethodDescriptor y.desc).map (fun d => d.parameters.length) = some As.length) (hRm : rm.frames + 1 ≤ R.frames ∧ 8 + (maxL + 11) + rm.locals ≤ R.locals)
    (is : List Nat) (hnd : va_nd is = true) (hC : is.map (fun i => ws[i]?) = W0.map some) (hst : st = As.reverse ++ rest) (hcat : (rest.map fun v => v.category).sum ≤ 8) (hf : k + rm.cells ≤ R.cells ∧ n + rm.slots ≤ R.slots) (hd : decode cc pc = .ok (.invokestatic i, 3))
    (hfst : (w1.take is.length).map Prod.fst = W0.map Prod.fst) (hins : insW ws is w1 = ws2) (hrv : rv.toList ++ rest = st2) (hk2 : k + rm.cells = k2) (hn2 : n + rm.slots = n2) (kk : V g R own cc Ts nL QF X k2 n2 ws2 (pc + 3) lv st2) : V g R own cc Ts nL QF X k n ws pc lv st := by
  refine V.callS As rest hM hG hw hd1 hRm is hnd hC hst hcat hf hd (fun v w h => by rw [h.2]; exact hfst) (fun v w h => ?_)
  obtain ⟨rfl, rfl⟩ := h
  rw [hins, hrv, hk2, hn2]
  exact kk
theorem UC.post {y : MethodName} {wy : List Cond} {rm : Room} {av : List Value} {W0 : va_W} {Q Q2 : Option Value → va_W → Prop} (h : UC g y wy rm av W0 Q) (hq : ∀ v w, Q v w → Q2 v w) : UC g y wy rm av W0 Q2 := fun sz => MetFree.mono (h sz) (fun _ _ q => q) (fun _ _ _ _ _ q => q) (fun _ _ _ _ _ q => by
  obtain ⟨⟨⟨v, w, h1, h2, h3⟩, h4⟩, h5⟩ := q
  exact ⟨⟨⟨v, w, h1, hq v w h2, h3⟩, h4⟩, h5⟩)
theorem UX.toUC {y : MethodName} {wy : List Cond} {rm : Room} {av : List Value} {W0 : va_W} {Q : Option Value → va_W → Prop} (h : UX g y wy rm av W0 Q (fun _ _ => False)) : UC g y wy rm av W0 Q := fun sz => MetFree.mono (h sz) (fun _ _ q => q) (fun _ _ _ _ _ q => q) (fun _ _ _ _ _ q => by
  rcases q with q | ⟨q9, _, E, ce, L, ⟨⟨w, hw, _⟩, _⟩, _⟩
  · exact q
  · exact hw.elim)
/-! the JDK's own -/
theorem V.mabs {i : Nat} {x : Int32} (h1 : Cond.methodLink own i Lib.Math.abs.name ∈ Ts) (h2 : Cond.static Lib.Math.abs.name ∈ Ts) (h3 : Cond.initialized "java/lang/Math" ∈ Ts) (h4 : Cond.code Lib.Math.abs.name Lib.Math.abs.code 1 (some .int) ∈ Ts) (hfr : 1 ≤ R.frames) (hlo : (st.map fun v => v.category).sum + 13 ≤ R.locals) (hk1 : k ≤ R.cells) (hn1 : n ≤ R.slots) (hd : decode cc pc = .ok (.invokestatic i, 3)) (kk : V g R own cc Ts nL QF X k n ws (pc + 3) lv (.int (if 0 ≤ x then x else 0 - x) :: st)) : V g R own cc Ts nL QF X k n ws pc lv (.int x :: st) :=
  fun p e s m args below meth c A hx hb hml ho ht hA hE hX H locs ls hP hK hD hS hl => va_mabs hx hb (hml.trans hl.1.symm) ho (ht _ h1) (ht _ h2) (ht _ h3) (ht _ h4) hfr hlo hk1 hn1 hd (kk p e s m args below meth c A hx hb hml ho ht hA hE hX H locs ls hP hK hD hS hl)
theorem V.mmax {i : Nat} {x y : Int32} (h1 : Cond.methodLink own i Lib.Math.max.name ∈ Ts) (h2 : Cond.static Lib.Math.max.name ∈ Ts) (h3 : Cond.initialized "java/lang/Math" ∈ Ts) (h4 : Cond.code Lib.Math.max.name Lib.Math.max.code 2 (some .int) ∈ Ts) (hfr : 1 ≤ R.frames) (hlo : (st.map fun v => v.category).sum + 13 ≤ R.locals) (hk1 : k ≤ R.cells) (hn1 : n ≤ R.slots) (hd : decode cc pc = .ok (.invokestatic i, 3)) (kk : V g R own cc Ts nL QF X k n ws (pc + 3) lv (.int (if x < y then y else x) :: st)) : V g R own cc Ts nL QF X k n ws pc lv (.int y :: .int x :: st) :=
  fun p e s m args below meth c A hx hb hml ho ht hA hE hX H locs ls hP hK hD hS hl => va_mmax hx hb (hml.trans hl.1.symm) ho (ht _ h1) (ht _ h2) (ht _ h3) (ht _ h4) hfr hlo hk1 hn1 hd (kk p e s m args below meth c A hx hb hml ho ht hA hE hX H locs ls hP hK hD hS hl)
theorem V.mmin {i : Nat} {x y : Int32} (h1 : Cond.methodLink own i Lib.Math.min.name ∈ Ts) (h2 : Cond.static Lib.Math.min.name ∈ Ts) (h3 : Cond.initialized "java/lang/Math" ∈ Ts) (h4 : Cond.code Lib.Math.min.name Lib.Math.min.code 2 (some .int) ∈ Ts) (hfr : 1 ≤ R.frames) (hlo : (st.map fun v => v.category).sum + 13 ≤ R.locals) (hk1 : k ≤ R.cells) (hn1 : n ≤ R.slots) (hd : decode cc pc = .ok (.invokestatic i, 3)) (kk : V g R own cc Ts nL QF X k n ws (pc + 3) lv (.int (if y < x then y else x) :: st)) : V g R own cc Ts nL QF X k n ws pc lv (.int y :: .int x :: st) :=
  fun p e s m args below meth c A hx hb hml ho ht hA hE hX H locs ls hP hK hD hS hl => va_mmin hx hb (hml.trans hl.1.symm) ho (ht _ h1) (ht _ h2) (ht _ h3) (ht _ h4) hfr hlo hk1 hn1 hd (kk p e s m args below meth c A hx hb hml ho ht hA hE hX H locs ls hP hK hD hS hl)
theorem V.copyi {i a0 a1 n0 n1 j : Nat} {f h : Nat → Int32} {x : Int32} {ws2 : va_W} (h1 : Cond.methodLink own i arraycopyName ∈ Ts) (h2 : Cond.native arraycopyName ∈ Ts) (h3 : Cond.static arraycopyName ∈ Ts) (h4 : Cond.initialized "java/lang/System" ∈ Ts) (q0 q1 : Nat) (ha0 : ws[q0]? = some (a0, .inl (g.2.2 0, n0, .inl f))) (ha1 : ws[q1]? = some (a1, .inl (g.2.2 0, n1, .inl h))) (hx0 : x = nI j) (hj : j < 2 ^ 31) (hj0 : j ≤ n0) (hj1 : j ≤ n1) (hfr : 1 ≤ R.frames) (hlo : (st.map fun v => v.category).sum + (nativeFrameWords "java/lang/System" "arraycopy" 5 + 11) ≤ R.locals) (hws : ws.set q1 (a1, .inl (g.2.2 0, n1, .inl (va_cpy f h 0 0 j))) = ws2) (hd : decode cc pc = .ok (.invokestatic i, 3)) (kk : V g R own cc Ts nL QF X k n ws2 (pc + 3) lv st) : V g R own cc Ts nL QF X k n ws pc lv (.int x :: .int 0 :: .ref a1 :: .int 0 :: .ref a0 :: st) := by
  intro p e s m args below meth c A hx hb hml ho ht hA hE hX H locs ls hP hK hD hS hl
  subst hx0
  have hc := nI_clamp hj
  refine va_copyi hx hb (hml.trans hl.1.symm) ho (ht _ h1) (ht _ h2) (ht _ h3) (ht _ h4) hK hP hD hS q0 q1 0 0 ha0 ha1 rfl rfl rfl (by decide) (by decide) (nI_pos hj) (by rw [hc]; simpa using hj0) (by rw [hc]; simpa using hj1) (fun _ _ => rfl) hfr hlo hd (fun H1 locs1 hP hD hS => ?_)
  rw [hc] at hP hD
  exact kk p e s m args below meth c A hx hb hml ho ht hA hE hX H1 locs1 ls (hws ▸ hP) hK (hws ▸ hD) hS hl
theorem V.objInit {i a : Nat} (h1 : Cond.methodLink own i objectInit ∈ Ts) (h2 : Cond.instanceMethod objectInit ∈ Ts) (h3 : Cond.code objectInit ⟨#[0xb1]⟩ 1 none ∈ Ts) (hfr : 1 ≤ R.frames) (hlo : 12 ≤ R.locals) (hd : decode cc pc = .ok (.invokespecial i, 3)) (kk : V g R own cc Ts nL QF X k n ws (pc + 3) lv []) : V g R own cc Ts nL QF X k n ws pc lv [.ref a] :=
  fun p e s m args below meth c A hx hb hml ho ht hA hE hX H locs ls hP hK hD hS hl => W.objInit hx hb ho (ht _ h1) (ht _ h2) (ht _ h3) rfl (by rw [hml]; exact hl.1) rfl hd hfr hlo (W.eq (g2 := F0 m (pc + 3) ls []) rfl (kk p e s m args below meth c A hx hb hml ho ht hA hE hX H locs ls hP hK hD hS hl))
end KV
