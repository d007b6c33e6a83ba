/-! more of V: worlds put in another order, calls by blocks, arrays of references, static rows, throws caught -/
theorem va_P_perm {D : va_G} {cl : List vw_C} {ws ws2 : va_W} {H : Heap} (hp : ws.Perm ws2) (h : va_P D cl ws H) : va_P D cl ws2 H := by
  intro k q hq
  obtain ⟨j, hj⟩ := List.getElem?_of_mem (hp.mem_iff.mpr (List.mem_of_getElem? hq))
  exact h j q hj
theorem va_nd_map {ws : va_W} : (∀ (i j : Nat) (p q : Nat × va_E), ws[i]? = some p → ws[j]? = some q → p.1 = q.1 → i = j) ↔ (ws.map Prod.fst).Nodup := by
  rw [List.nodup_iff_pairwise_ne, List.pairwise_iff_getElem]
  constructor
  · intro h i j hi hj hij e
    rw [List.getElem_map, List.getElem_map] at e
    have hi' : i < ws.length := by simpa using hi
    have hj' : j < ws.length := by simpa using hj
    have := h i j ws[i] ws[j] (List.getElem?_eq_getElem hi') (List.getElem?_eq_getElem hj') e
    omega
  · intro h i j p q hi hj e
    obtain ⟨hi1, rfl⟩ := List.getElem?_eq_some_iff.mp hi
    obtain ⟨hj1, rfl⟩ := List.getElem?_eq_some_iff.mp hj
    rcases Nat.lt_trichotomy i j with w | w | w
    · exact absurd (by rw [List.getElem_map, List.getElem_map]; exact e) (h i j (by simpa using hi1) (by simpa using hj1) w)
    · exact w
    · exact absurd (by rw [List.getElem_map, List.getElem_map]; exact e.symm) (h j i (by simpa using hj1) (by simpa using hi1) w)
theorem va_D_perm {A : Nat → Prop} {ws ws2 : va_W} (hp : ws.Perm ws2) (h : va_D A ws) : va_D A ws2 :=
  ⟨va_nd_map.mpr ((hp.map Prod.fst).nodup (va_nd_map.mp h.1)), fun k q hq => by
    obtain ⟨j, hj⟩ := List.getElem?_of_mem (hp.mem_iff.mpr (List.mem_of_getElem? hq))
    exact h.2 j q hj⟩
def setG : List Nat → va_W → va_W → va_W
  | [], ws, _ => ws
  | i :: is, ws, w => match w with
    | [] => ws
    | x :: w' => setG is (ws.set i x) w'
theorem insW_setG : ∀ (is : List Nat) (ws w : va_W), w.length = is.length → insG is ws w = setG is ws w
  | [], ws, [], _ => List.append_nil _
  | [], ws, _ :: _, h => absurd h (by simp)
  | i :: is, ws, [], h => rfl
  | i :: is, ws, x :: w, h => insW_setG is (ws.set i x) w (by simpa using h)
theorem insW_set {is : List Nat} {ws w : va_W} (h : w.length = is.length) : insW ws is w = setG is ws w := insW_setG is ws w h
theorem nd_range : ∀ (n k : Nat), va_nd (List.range' k n) = true
  | 0, k => rfl
  | n + 1, k => by
    show (decide (k ∉ List.range' (k + 1) n) && va_nd (List.range' (k + 1) n)) = true
    rw [nd_range n (k + 1), Bool.and_true]
    refine decide_eq_true (fun h => ?_)
    have := (List.mem_range'_1.mp h).1
    omega
theorem map_range {F : va_W} : ∀ (W0 P : va_W), (List.range' P.length W0.length).map (fun i => (P ++ (W0 ++ F))[i]?) = W0.map some
  | [], P => rfl
  | x :: W0, P => by
    show (P ++ (x :: (W0 ++ F)))[P.length]? :: (List.range' (P.length + 1) W0.length).map (fun i => (P ++ (x :: (W0 ++ F)))[i]?) = some x :: W0.map some
    have h := map_range (F := F) W0 (P ++ [x])
    rw [List.length_append, List.append_assoc] at h
    have e : (P ++ (x :: (W0 ++ F)))[P.length]? = some x := by rw [List.getElem?_append_right (Nat.le_refl _), Nat.sub_self]; rfl
    rw [e]
    exact congrArg (List.cons (some x)) h
theorem insG_range {F : va_W} : ∀ (W0 P w : va_W), W0.length ≤ w.length → insG (List.range' P.length W0.length) (P ++ (W0 ++ F)) w = P ++ (w.take W0.length ++ F) ++ w.drop W0.length
  | [], P, w, _ => rfl
  | x :: W0, P, [], h => absurd h (by simp)
  | x :: W0, P, y :: w, h => by
    show insG (List.range' (P.length + 1) W0.length) ((P ++ (x :: (W0 ++ F))).set P.length y) w = P ++ (y :: (w.take W0.length ++ F)) ++ w.drop W0.length
    have e : (P ++ (x :: (W0 ++ F))).set P.length y = (P ++ [y]) ++ (W0 ++ F) := by
      rw [List.set_append_right _ _ (Nat.le_refl _), Nat.sub_self, List.append_assoc]; rfl
    have h2 := insG_range (F := F) W0 (P ++ [y]) w (by simpa using h)
    rw [List.length_append] at h2
    rw [e]
    refine h2.trans ?_
    rw [List.append_assoc P [y]]
    rfl
theorem insW_perm {W0 F w : va_W} (h : W0.length ≤ w.length) : (insW (W0 ++ F) (List.range' 0 W0.length) w).Perm (w ++ F) := by
  have e := insG_range (F := F) W0 [] w h
  show (insG (List.range' 0 W0.length) (W0 ++ F) w).Perm (w ++ F)
  rw [show insG (List.range' 0 W0.length) (W0 ++ F) w = _ from e, List.nil_append, List.append_assoc]
  refine (List.Perm.append_left _ List.perm_append_comm).trans ?_
  rw [← List.append_assoc, List.take_append_drop]
theorem insW_eq {W0 F w : va_W} (h : w.length = W0.length) : insW (W0 ++ F) (List.range' 0 W0.length) w = w ++ F := by
  have e := insG_range (F := F) W0 [] w (Nat.le_of_eq h.symm)
  show insG (List.range' 0 W0.length) (W0 ++ F) w = w ++ F
  rw [show insG (List.range' 0 W0.length) (W0 ++ F) w = _ from e, List.nil_append, ← h, List.take_length, List.drop_length, List.append_nil]
/-- the cells of W0 stay where they are -/
def FST (W0 w : va_W) : Prop := (w.take W0.length).map Prod.fst = W0.map Prod.fst
theorem FST.len {W0 w : va_W} (h : FST W0 w) : W0.length ≤ w.length := by
  have := congrArg List.length h
  rw [List.length_map, List.length_map, List.length_take] at this
  omega
theorem FST.rf {W0 : va_W} : FST W0 W0 := by unfold FST; rw [List.take_length]
theorem FST.of {W0 w : va_W} (h : w.map Prod.fst = W0.map Prod.fst) : FST W0 w := by
  have hl : w.length = W0.length := by have := congrArg List.length h; simpa using this
  unfold FST; rw [← hl, List.take_length]; exact h
section KV3
variable {g : GT} {R : Room} {own : String} {cc : ByteArray} {Ts : List Cond} {nL : Nat} {QF : QT} {X : XT} {k n : Nat} {ws : va_W} {pc : Nat} {lv : List (Nat × Value)} {st rest : List Value}
theorem V.perm {ws2 : va_W} (hp : ws.Perm ws2) (kk : V g R own cc Ts nL QF X k n ws2 pc lv st) : V g R own cc Ts nL QF X k n ws pc lv st :=
  fun p e s m args below meth c A hx hb hml ho ht hA hE hX H locs ls hP hK hD hS hl => kk p e s m args below meth c A hx hb hml ho ht hA hE hX H locs ls (va_P_perm hp hP) hK (va_D_perm hp hD) hS hl
theorem V.xw {X' : XT} (h : ∀ p s m args meth c A, X' p s m args meth c A → X p s m args meth c A) (kk : V g R own cc Ts nL QF X k n ws pc lv st) : V g R own cc Ts nL QF X' k n ws pc lv st :=
  fun p e s m args below meth c A hx hb hml ho ht hA hE hX => kk p e s m args below meth c A hx hb hml ho ht hA hE (h _ _ _ _ _ _ _ hX)
theorem V.callVP {y : MethodName} {wy wy' : List Cond} {rm : Room} {W0 F : va_W} {Q : Option Value → va_W → Prop} {C : String} {T : u_T} {N ci i maxL b : Nat} {bytes : ByteArray} {ret : Option FieldType} {fs : List Value} (As rest : List Value) (hM : UC g y wy rm (.ref b :: As) W0 Q) (hG : GoodIn Ts (wsV own i C y wy)) (hw : wy = Cond.code y bytes maxL ret :: wy')
    (hd1 : y.cls = C ∧ y.cls ≠ "java/lang/invoke/MethodHandle" ∧ y.cls ≠ "java/lang/invoke/VarHandle" ∧ (parseMethodDescriptor y.desc).map (fun d => d.parameters.length) = some As.length) (hRm : rm.frames + 1 ≤ R.frames ∧ 8 + (maxL + 11) + rm.locals ≤ R.locals) (hc : vwCl[ci]? = some (C, T, N)) (q0 : Nat) (he : W0[q0]? = some (b, .inr (ci, fs)))
    (hp : ws.Perm (W0 ++ F)) (hst : st = As.reverse ++ .ref b :: rest) (hcat : (rest.map fun v => v.category).sum ≤ 8) (hf : k + rm.cells ≤ R.cells ∧ n + rm.slots ≤ R.slots) (hd : decode cc pc = .ok (.invokevirtual i, 3)) (hQa : ∀ v w, Q v w → FST W0 w)
    (kk : ∀ v w, Q v w → V g R own cc Ts nL QF X (k + rm.cells) (n + rm.slots) (w ++ F) (pc + 3) lv (v.toList ++ rest)) : V g R own cc Ts nL QF X k n ws pc lv st := by
  refine V.perm hp ?_
  have hl := (List.getElem?_eq_some_iff.mp he).1
  refine V.callV As rest hM hG hw hd1 hRm hc q0 (by rw [List.getElem?_append_left hl]; exact he) (List.range' 0 W0.length) (nd_range _ _) (map_range W0 []) hst hcat hf hd (fun v w h => ?_) (fun v w h => V.perm (insW_perm (hQa v w h).len) (kk v w h))
  rw [List.length_range']; exact hQa v w h
theorem V.callSP {y : MethodName} {wy wy' : List Cond} {rm : Room} {W0 F : va_W} {Q : Option Value → va_W → Prop} {i maxL : Nat} {bytes : ByteArray} {ret : Option FieldType} (As rest : List Value) (hM : UC g y wy rm As W0 Q) (hG : GoodIn Ts (va_wsS own i y wy)) (hw : wy = Cond.code y bytes maxL ret :: wy')
    (hd1 : y.cls ≠ "java/lang/invoke/MethodHandle" ∧ y.cls ≠ "java/lang/invoke/VarHandle" ∧ (parseMethodDescriptor y.desc).map (fun d => d.parameters.length) = some As.length) (hRm : rm.frames + 1 ≤ R.frames ∧ 8 + (maxL + 11) + rm.locals ≤ R.locals)
    (hp : ws.Perm (W0 ++ F)) (hst : st = As.reverse ++ rest) (hcat : (rest.map fun v => v.category).sum ≤ 8) (hf : k + rm.cells ≤ R.cells ∧ n + rm.slots ≤ R.slots) (hd : decode cc pc = .ok (.invokestatic i, 3)) (hQa : ∀ v w, Q v w → FST W0 w)
    (kk : ∀ v w, Q v w → V g R own cc Ts nL QF X (k + rm.cells) (n + rm.slots) (w ++ F) (pc + 3) lv (v.toList ++ rest)) : V g R own cc Ts nL QF X k n ws pc lv st := by
  refine V.perm hp ?_
  refine V.callS As rest hM hG hw hd1 hRm (List.range' 0 W0.length) (nd_range _ _) (map_range W0 []) hst hcat hf hd (fun v w h => ?_) (fun v w h => V.perm (insW_perm (hQa v w h).len) (kk v w h))
  rw [List.length_range']; exact hQa v w h
theorem V.callIP {y : MethodName} {wy wy' : List Cond} {rm : Room} {W0 F : va_W} {Q : Option Value → va_W → Prop} {i maxL b : Nat} {bytes : ByteArray} (As rest : List Value) (hM : UC g y wy rm (.ref b :: As) W0 Q) (hG : GoodIn Ts wy) (hw : wy = Cond.code y bytes maxL none :: wy') (hini : Cond.initialized y.cls ∈ Ts) (hlk : Cond.methodLink own i y ∈ Ts) (hins : Cond.instanceMethod y ∈ Ts) (hy1 : y.name = "<init>")
    (hd1 : y.cls ≠ "java/lang/invoke/MethodHandle" ∧ y.cls ≠ "java/lang/invoke/VarHandle" ∧ (parseMethodDescriptor y.desc).map (fun d => d.parameters.length) = some As.length) (hRm : rm.frames + 1 ≤ R.frames ∧ 8 + (maxL + 11) + rm.locals ≤ R.locals)
    (hp : ws.Perm (W0 ++ F)) (hst : st = As.reverse ++ .ref b :: rest) (hcat : (rest.map fun v => v.category).sum ≤ 8) (hf : k + rm.cells ≤ R.cells ∧ n + rm.slots ≤ R.slots) (hd : decode cc pc = .ok (.invokespecial i, 3)) (hQa : ∀ v w, Q v w → FST W0 w)
    (kk : ∀ v w, Q v w → V g R own cc Ts nL QF X (k + rm.cells) (n + rm.slots) (w ++ F) (pc + 3) lv (v.toList ++ rest)) : V g R own cc Ts nL QF X k n ws pc lv st := by
  refine V.perm hp ?_
  refine V.callI As rest hM hG hw hini hlk hins hy1 hd1 hRm (List.range' 0 W0.length) (nd_range _ _) (map_range W0 []) hst hcat hf hd (fun v w h => ?_) (fun v w h => V.perm (insW_perm (hQa v w h).len) (kk v w h))
  rw [List.length_range']; exact hQa v w h
theorem V.callVXP {y : MethodName} {wy wy' : List Cond} {rm rm0 : Room} {W0 F : va_W} {Q Q0 : Option Value → va_W → Prop} {XX XX0 : String → va_W → Prop} {C : String} {T : u_T} {N ci i maxL b : Nat} {bytes : ByteArray} {ret r0 : Option FieldType} {nm : String} {fs : List Value} (As rest : List Value) (hM : UX g y wy rm (.ref b :: As) W0 Q XX) (hG : GoodIn Ts (wsV own i C y wy)) (hw : wy = Cond.code y bytes maxL ret :: wy')
    (hd1 : y.cls = C ∧ y.cls ≠ "java/lang/invoke/MethodHandle" ∧ y.cls ≠ "java/lang/invoke/VarHandle" ∧ (parseMethodDescriptor y.desc).map (fun d => d.parameters.length) = some As.length) (hRm : rm.frames + 1 ≤ R.frames ∧ 8 + (maxL + 11) + rm.locals ≤ R.locals) (hc : vwCl[ci]? = some (C, T, N)) (q0 : Nat) (he : W0[q0]? = some (b, .inr (ci, fs)))
    (hp : ws.Perm (W0 ++ F)) (hst : st = As.reverse ++ .ref b :: rest) (hcat : (rest.map fun v => v.category).sum ≤ 8) (hf : k + rm.cells ≤ R.cells ∧ n + rm.slots ≤ R.slots) (hf0 : k + rm.cells ≤ rm0.cells ∧ n + rm.slots ≤ rm0.slots) (hd : decode cc pc = .ok (.invokevirtual i, 3)) (hQa : ∀ v w, Q v w → FST W0 w) (hXa : ∀ E w, XX E w → FST W0 w) (hXl : ∀ E w, XX E w → w.length = W0.length) (hx : ∀ E w, XX E w → XX0 E (w ++ F))
    (kk : ∀ v w, Q v w → V g R own cc Ts nL (QFx g rm0 Q0 XX0) (XMx r0 nm) (k + rm.cells) (n + rm.slots) (w ++ F) (pc + 3) lv (v.toList ++ rest)) : V g R own cc Ts nL (QFx g rm0 Q0 XX0) (XMx r0 nm) k n ws pc lv st := by
  refine V.perm hp ?_
  have hl := (List.getElem?_eq_some_iff.mp he).1
  refine V.callVX As rest hM hG hw hd1 hRm hc q0 (by rw [List.getElem?_append_left hl]; exact he) (List.range' 0 W0.length) (nd_range _ _) (map_range W0 []) hst hcat hf hf0 hd (fun v w h => ?_) (fun E w h => ?_) (fun E w h => by rw [insW_eq (hXl E w h)]; exact hx E w h) (fun v w h => V.perm (insW_perm (hQa v w h).len) (kk v w h))
  · rw [List.length_range']; exact hQa v w h
  · rw [List.length_range']; exact hXa E w h
/-- a static check that may throw, and touches nothing -/
theorem V.callSX0 {y : MethodName} {wy wy' : List Cond} {rm rm0 : Room} {Q Q0 : Option Value → va_W → Prop} {XX XX0 : String → va_W → Prop} {i maxL : Nat} {bytes : ByteArray} {ret r0 : Option FieldType} {nm : String} (As rest : List Value) (hM : UX g y wy rm As [] Q XX) (hG : GoodIn Ts (va_wsS own i y wy)) (hw : wy = Cond.code y bytes maxL ret :: wy')
    (hd1 : y.cls ≠ "java/lang/invoke/MethodHandle" ∧ y.cls ≠ "java/lang/invoke/VarHandle" ∧ (parseMethodDescriptor y.desc).map (fun d => d.parameters.length) = some As.length) (hRm : rm.frames + 1 ≤ R.frames ∧ 8 + (maxL + 11) + rm.locals ≤ R.locals)
    (hst : st = As.reverse ++ rest) (hcat : (rest.map fun v => v.category).sum ≤ 8) (hf : k + rm.cells ≤ R.cells ∧ n + rm.slots ≤ R.slots) (hf0 : k + rm.cells ≤ rm0.cells ∧ n + rm.slots ≤ rm0.slots) (hd : decode cc pc = .ok (.invokestatic i, 3)) (hx : ∀ E w, XX E w → w = [] ∧ XX0 E ws)
    (kk : ∀ v w, Q v w → w = [] ∧ V g R own cc Ts nL (QFx g rm0 Q0 XX0) (XMx r0 nm) (k + rm.cells) (n + rm.slots) ws (pc + 3) lv (v.toList ++ rest)) : V g R own cc Ts nL (QFx g rm0 Q0 XX0) (XMx r0 nm) k n ws pc lv st := by
  refine V.callSX As rest hM hG hw hd1 hRm [] rfl rfl hst hcat hf hf0 hd (fun v w h => rfl) (fun E w h => rfl) (fun E w h => ?_) (fun v w h => ?_)
  · obtain ⟨rfl, h2⟩ := hx E w h
    show XX0 E (ws ++ []); rw [List.append_nil]; exact h2
  · obtain ⟨rfl, h2⟩ := kk v w h
    show V g R own cc Ts nL (QFx g rm0 Q0 XX0) (XMx r0 nm) (k + rm.cells) (n + rm.slots) (ws ++ []) (pc + 3) lv (v.toList ++ rest)
    rw [List.append_nil]; exact h2
theorem V.newq {i : Nat} {x : Int32} {len : Nat} (hcl : Cond.classLink own i RX2 ∈ Ts) (hx0 : ¬ x < 0) (hN : x.toNatClampNeg = len) (hby : len * 4 ≤ 536870912) (hk1 : k + 1 ≤ R.cells) (hn1 : n + len ≤ R.slots) (hd : decode cc pc = .ok (.anewarray i, 3)) (kk : ∀ q : Nat, V g R own cc Ts nL QF X (k + 1) (n + len) (ws ++ [(q, .inl (g.2.2 2, len, .inr (.inr (.inr (.inr (fun _ => none))))))]) (pc + 3) lv (.ref q :: st)) : V g R own cc Ts nL QF X k n ws pc lv (.int x :: st) :=
  fun p e s m args below meth c A hx hb hml ho ht hA hE hX H locs ls hP hK hD hS hl => va_newq hx hb ho (ht _ hcl) hE.2.2.2.2.2.2.2.2 hK hP hD hS hA hx0 hN hby hk1 hn1 hd (fun q cA H1 hK1 hP hD hS => by
    have e9 := va_Ku hK1 (t := 2) (c0 := g.2.2 2) rfl (by show 2 < 4; decide)
    subst e9
    exact kk q p e s m args below meth c A hx hb hml ho ht hA hE hX H1 locs ls hP hK hD hS hl)
/-- what a walk knows beside, while a static row is read: its address's cell -/
def XT2 (X : XT) (t N : Nat) (f : Nat → Int32) : XT := fun p s m args meth c A => X p s m args meth c A ∧ va_T .int t N (fun j => .int (f j)) A s s.heap
theorem V.getsS {i : Nat} (hlk : Cond.fieldLink own i "GossipHead" "GREATEST_SETTING" "[I" ∈ Ts) (hd : decode cc pc = .ok (.getstatic i, 3)) (kk : ∀ t : Nat, V g R own cc Ts nL QF (XT2 X t 5 gsT) k n ws (pc + 3) lv (.ref t :: st)) : V g R own cc Ts nL QF X k n ws pc lv st :=
  fun p e s m args below meth c A hx hb hml ho ht hA hE hX H locs ls hP hK hD hS hl => by
    obtain ⟨⟨t, a1, a2⟩, _⟩ := id hE
    exact va_gets hx hb a1 hS ho (ht _ hlk) (fun _ h => h) hd (kk t p e s m args below meth c A hx hb hml ho ht hA hE ⟨hX, a2⟩ H locs ls hP hK hD hS hl)
theorem V.getsN {i : Nat} (hlk : Cond.fieldLink own i "GossipHead$BoardText" "GREATEST_NUMBER" "[I" ∈ Ts) (hd : decode cc pc = .ok (.getstatic i, 3)) (kk : ∀ t : Nat, V g R own cc Ts nL QF (XT2 X t 3 gnT) k n ws (pc + 3) lv (.ref t :: st)) : V g R own cc Ts nL QF X k n ws pc lv st :=
  fun p e s m args below meth c A hx hb hml ho ht hA hE hX H locs ls hP hK hD hS hl => by
    obtain ⟨_, ⟨t, a1, a2⟩, _⟩ := id hE
    exact va_gets hx hb a1 hS ho (ht _ hlk) (fun _ h => h) hd (kk t p e s m args below meth c A hx hb hml ho ht hA hE ⟨hX, a2⟩ H locs ls hP hK hD hS hl)
theorem V.ialdT {t N j : Nat} {f : Nat → Int32} {x v : Int32} (hx0 : x = nI j) (hj : j < N) (hL : N < 2 ^ 31) (hv : f j = v) (hd : decode cc pc = .ok (.iaload, 1)) (kk : V g R own cc Ts nL QF X k n ws (pc + 1) lv (.int v :: st)) : V g R own cc Ts nL QF (XT2 X t N f) k n ws pc lv (.int x :: .ref t :: st) :=
  fun p e s m args below meth c A hx hb hml ho ht hA hE hX H locs ls hP hK hD hS hl => va_ti hx hb hX.2 hS (i := x) (by rw [hx0]; exact vp_in_nI hj hL) (by rw [hx0, nI_clamp (by omega), hv]) hd (kk p e s m args below meth c A hx hb hml ho ht hA hE hX.1 H locs ls hP hK hD hS hl)
/-- one call, caught: a row of the table takes each throw -/
def CAT (own : String) (Ts : List Cond) (hh : List (Nat × Nat × Nat × Nat)) (pc : Nat) (E : String) (h : Nat) : Prop := ∃ (pre : List (Nat × Nat × Nat × Nat)) (x : Nat × Nat × Nat × Nat) (suf : List (Nat × Nat × Nat × Nat)), hh = pre ++ x :: suf ∧ (∀ z ∈ pre, z.2.2.2 ≠ 0 ∧ ∃ nm : String, Cond.classLink own z.2.2.2 nm ∈ Ts ∧ (E, nm) ∈ knG) ∧ covers ⟨x.1, x.2.1, x.2.2.1, x.2.2.2⟩ pc = true ∧ x.2.2.2 ≠ 0 ∧ Cond.classLink own x.2.2.2 E ∈ Ts ∧ E ∈ kcG ∧ x.2.2.1 = h
theorem V.callVC {y : MethodName} {wy wy' : List Cond} {rm : Room} {W0 F : va_W} {Q : Option Value → va_W → Prop} {XX : String → va_W → Prop} {C : String} {T : u_T} {N ci i maxL b : Nat} {bytes : ByteArray} {ret r0 : Option FieldType} {hh : List (Nat × Nat × Nat × Nat)} {fs : List Value} (As rest : List Value) (hM : UX g y wy rm (.ref b :: As) W0 Q XX) (hG : GoodIn Ts (wsV own i C y wy)) (hw : wy = Cond.code y bytes maxL ret :: wy')
    (hd1 : y.cls = C ∧ y.cls ≠ "java/lang/invoke/MethodHandle" ∧ y.cls ≠ "java/lang/invoke/VarHandle" ∧ (parseMethodDescriptor y.desc).map (fun d => d.parameters.length) = some As.length) (hRm : rm.frames + 1 ≤ R.frames ∧ 8 + (maxL + 11) + rm.locals ≤ R.locals) (hc : vwCl[ci]? = some (C, T, N)) (q0 : Nat) (he : W0[q0]? = some (b, .inr (ci, fs)))
    (hp : ws = W0 ++ F) (hst : st = As.reverse ++ .ref b :: rest) (hcat : (rest.map fun v => v.category).sum ≤ 8) (hf : k + rm.cells ≤ R.cells ∧ n + rm.slots ≤ R.slots) (hd : decode cc pc = .ok (.invokevirtual i, 3)) (hQa : ∀ v w, Q v w → FST W0 w) (hXa : ∀ E w, XX E w → FST W0 w)
    (kx : ∀ E w, XX E w → ∃ h, CAT own Ts hh pc E h ∧ ∀ q : Nat, V g R own cc Ts nL QF (XMh r0 hh) (k + rm.cells) (n + rm.slots) (w ++ F) h lv [.ref q])
    (kk : ∀ v w, Q v w → V g R own cc Ts nL QF (XMh r0 hh) (k + rm.cells) (n + rm.slots) (w ++ F) (pc + 3) lv (v.toList ++ rest)) : V g R own cc Ts nL QF (XMh r0 hh) k n ws pc lv st := by
  intro p e s m args below meth c A hx1 hb hml ho ht hA hE hX H locs ls hP hK hD hS hl
  subst hp
  have hl0 := (List.getElem?_eq_some_iff.mp he).1
  have he' : (W0 ++ F)[q0]? = some (b, .inr (ci, fs)) := by rw [List.getElem?_append_left hl0]; exact he
  have hC := map_range (F := F) W0 []
  have hF := va_free hD hS hA _ hC
  have hlen : (List.range' ([] : va_W).length W0.length).length = W0.length := List.length_range'
  refine vx_callU (vx_runV (As := As) (rest := rest) ⟨hx1, hb, hml, ho, ht⟩ (hM H.size) (cwV As.length ht hG hw rfl rfl hd1 hRm) ⟨PU.blind, va_recv hK hP hc he', fun U hU hW => PU.at hA hE hP hK hD hS (nd_range _ _) hC hU hW⟩ rfl rfl hl.1 hst (lv_room hcat) hd hf) hS (fun q _ h => hF q h) hF (fun E ce q9 w H1 locs1 hxe hP1 hD1 hk1 hS => ?_) (fun v w H1 locs1 hq hP1 hD1 hk1 hS => ?_)
  · intro hce hcv hcl
    have hfs := hXa E w hxe
    obtain ⟨hP2, hD2⟩ := insW_ok hP hD _ hC hk1 hF hP1 hD1 (by rw [hlen]; exact hfs)
    obtain ⟨h, ⟨pre, x, suf, e1, e2, e3, e4, e5, e6, e7⟩, kv⟩ := kx E w hxe
    subst e7
    refine vx_catch (E := E) (name := E) (ce := ce) ho (tableOf pre) ⟨x.1, x.2.1, x.2.2.1, x.2.2.2⟩ (tableOf suf) (by rw [hX.2.2, e1]; unfold tableOf; rw [List.map_append]; rfl) (fun z hz => ?_) e3 e4 (ht _ e5) (va_Nw.use rfl (hE.2.2.2.2.2.2.2.1 E e6)) hce hcv hcl ?_
    · obtain ⟨z0, hz0, rfl⟩ := List.mem_map.mp hz
      obtain ⟨g1, nm, g2, g3⟩ := e2 z0 hz0
      exact Or.inr ⟨g1, nm, ht _ g2, hE.2.2.2.2.2.1 (E, nm) g3⟩
    · exact kv q9 p e s m args below meth c A hx1 hb hml ho ht hA hE hX H1 locs1 ls (va_P_perm (insW_perm hfs.len) hP2) hK (va_D_perm (insW_perm hfs.len) hD2) hS hl
  · have hfs := hQa v w hq
    obtain ⟨hP2, hD2⟩ := insW_ok hP hD _ hC hk1 hF hP1 hD1 (by rw [hlen]; exact hfs)
    exact kk v w hq p e s m args below meth c A hx1 hb hml ho ht hA hE hX H1 locs1 ls (va_P_perm (insW_perm hfs.len) hP2) hK (va_D_perm (insW_perm hfs.len) hD2) hS hl
/-- a static call of a method that has a table of handlers -/
theorem V.callSHP {y : MethodName} {wy wy' : List Cond} {rm : Room} {W0 F : va_W} {Q : Option Value → va_W → Prop} {i maxL : Nat} {bytes : ByteArray} {ret : Option FieldType} {hh : List (Nat × Nat × Nat × Nat)} (As rest : List Value) (hM : UC g y wy rm As W0 Q) (hG : GoodIn Ts (va_wsS own i y wy)) (hw : wy = Cond.codeWith y bytes maxL ret hh :: wy')
    (hd1 : y.cls ≠ "java/lang/invoke/MethodHandle" ∧ y.cls ≠ "java/lang/invoke/VarHandle" ∧ (parseMethodDescriptor y.desc).map (fun d => d.parameters.length) = some As.length) (hRm : rm.frames + 1 ≤ R.frames ∧ 8 + (maxL + 11) + rm.locals ≤ R.locals)
    (hp : ws.Perm (W0 ++ F)) (hst : st = As.reverse ++ rest) (hcat : (rest.map fun v => v.category).sum ≤ 8) (hf : k + rm.cells ≤ R.cells ∧ n + rm.slots ≤ R.slots) (hd : decode cc pc = .ok (.invokestatic i, 3)) (hQa : ∀ v w, Q v w → FST W0 w)
    (kk : ∀ v w, Q v w → V g R own cc Ts nL QF X (k + rm.cells) (n + rm.slots) (w ++ F) (pc + 3) lv (v.toList ++ rest)) : V g R own cc Ts nL QF X k n ws pc lv st := by
  refine V.perm hp ?_
  intro p e s m args below meth c A hx hb hml ho ht hA hE hX H locs ls hP hK hD hS hl
  have hC := map_range (F := F) W0 []
  have hF := va_free hD hS hA _ hC
  have hlen : (List.range' ([] : va_W).length W0.length).length = W0.length := List.length_range'
  refine va_callU (vx_runSW (As := As) (rest := rest) ⟨hx, hb, hml, ho, ht⟩ (hM H.size) (vx_cwSW As.length ht hG hw rfl rfl hd1 hRm) ⟨PU.blind, fun U hU hW => PU.at hA hE hP hK hD hS (nd_range _ _) hC hU hW⟩ rfl rfl hl.1 hst (lv_room hcat) hd hf) hS (fun q _ h => hF q h) hF (fun v w H1 locs1 hq hP1 hD1 hk1 hS => ?_)
  have hfs := hQa v w hq
  obtain ⟨hP2, hD2⟩ := insW_ok hP hD _ hC hk1 hF hP1 hD1 (by rw [hlen]; exact hfs)
  exact kk v w hq p e s m args below meth c A hx hb hml ho ht hA hE hX H1 locs1 ls (va_P_perm (insW_perm hfs.len) hP2) hK (va_D_perm (insW_perm hfs.len) hD2) hS hl
theorem UX.mono {y : MethodName} {wy : List Cond} {rm : Room} {av : List Value} {W0 : va_W} {Q Q2 : Option Value → va_W → Prop} {XX XX2 : String → va_W → Prop} (h : UX g y wy rm av W0 Q XX) (hq : ∀ v w, Q v w → Q2 v w) (hx : ∀ E w, XX E w → XX2 E w) : UX g y wy rm av W0 Q2 XX2 := fun sz => MetFree.mono (h sz) (fun _ _ q => q) (fun _ _ _ _ _ q => q) (fun _ _ _ _ _ q => by
  rcases q with ⟨⟨⟨v, w, h1, h2, h3⟩, h4⟩, h5⟩ | ⟨q9, e1, E, ce, L, ⟨⟨w, hw, h6⟩, h7⟩, h8⟩
  · exact Or.inl ⟨⟨⟨v, w, h1, hq v w h2, h3⟩, h4⟩, h5⟩
  · exact Or.inr ⟨q9, e1, E, ce, L, ⟨⟨w, hx E w hw, h6⟩, h7⟩, h8⟩)
theorem UX.ok {y : MethodName} {wy : List Cond} {rm : Room} {av : List Value} {W0 : va_W} {Q Q2 : Option Value → va_W → Prop} {XX : String → va_W → Prop} (h : UX g y wy rm av W0 Q XX) (hx : ∀ E w, ¬ XX E w) (hq : ∀ v w, Q v w → Q2 v w) : UC g y wy rm av W0 Q2 := UX.toUC (h.mono hq (fun E w q => absurd q (hx E w)))
end KV3
