/-! throws, over V -/
def kbG : List Cond := kdG.map (fun x => .declares x) ++ kcG.map (fun x => .castable x x)
def vx_gd (ic : Nat) (X : String) : Bool := (vx_atS RX5 ic X ["java/lang/RuntimeException", "java/lang/Exception"]).all (fun w => vx_ot w && (goodWord w || decide (w ∈ kbG)))
theorem vx_gd1 : vx_gd 52 "java/lang/IllegalStateException" = true := by decide +kernel
theorem vx_gd2 : vx_gd 140 "java/lang/IllegalArgumentException" = true := by decide +kernel
theorem vx_gd3 : vx_gd 163 "java/lang/IndexOutOfBoundsException" = true := by decide +kernel
theorem kb_at {A : Nat → Prop} {s : State} {args : Array Value} (h : EG A s s.heap) : ∀ w ∈ kbG, w.before args s = true := by
  intro w hw
  rcases List.mem_append.mp hw with hw | hw
  · obtain ⟨x, hx, rfl⟩ := List.mem_map.mp hw
    exact va_Nw.use rfl (h.2.2.2.2.2.2.1 x hx)
  · obtain ⟨x, hx, rfl⟩ := List.mem_map.mp hw
    exact va_Nw.use rfl (h.2.2.2.2.2.2.2.1 x hx)
theorem vx_all {args : Array Value} {s : State} {A : Nat → Prop} {ic : Nat} {X : String} {Ts : List Cond} (hE : EG A s s.heap) (ht : ∀ w ∈ Ts, w.before args s = true) (h0 : vx_gd ic X = true) (h : ∀ w ∈ (vx_atS RX5 ic X ["java/lang/RuntimeException", "java/lang/Exception"]).filter goodWord, w ∈ Ts) : ∀ w ∈ vx_atS RX5 ic X ["java/lang/RuntimeException", "java/lang/Exception"], w.before args s = true ∧ vx_ot w = true := by
  intro w hw
  have h1 := List.all_eq_true.mp h0 w hw
  simp only [Bool.and_eq_true, Bool.or_eq_true, decide_eq_true_eq] at h1
  refine ⟨?_, h1.1⟩
  rcases h1.2 with hg | hg
  · exact ht w (h w (List.mem_filter.mpr ⟨hw, hg⟩))
  · exact kb_at hE w hg
section KX
variable {g : GT} {R : Room} {own : String} {cc : ByteArray} {Ts : List Cond} {nL : Nat} {QF : QT} {X : XT} {k n : Nat} {ws : va_W} {pc : Nat} {lv : List (Nat × Value)} {st rest : List Value}
theorem vx_callU {p : Program} {l : Launch} {e : Env} {s : State} {m : MethodId} {args : Array Value} {below : List Frame} {meth : Method} {c : Code} {H H0 : Heap} {locs : List Loc} {mc ms : Nat} {QQ : State → Prop} {Q : Option Value → va_W → Prop} {XX : String → va_W → Prop} {A0 A1 : Nat → Prop} {a : Array Value} {ls : Array Slot} {st0 : List Value} {free : Addr → Prop}
    (hr : vx_Run p l e R s m args below meth c H locs k n mc ms (F0 m pc ls st0) rest (QU g Q A1 a) (XU g XX A1) free) (hS : va_S A0 H0 H locs) (hA : ∀ q, q < H.size → A1 q → A0 q) (hf : ∀ q, free q → A0 q)
    (kx : ∀ (E : String) (ce : Cell) (q9 : Addr) (w : va_W) (H1 : Heap) (locs1 : List Loc), XX E w → va_P g.2.1 vwCl w H1 → va_D A1 w → (∀ q : Nat, q < H.size → ¬ A1 q → H1[q]? = H[q]?) → va_S A0 H0 H1 locs1 → H1[q9]? = some ce → ce.vm = .none → s.vm.findClass E = some ce.cls → vx_W p l e R s m args below meth c H1 locs1 (k + mc) (n + ms) QQ (F0 m pc ls rest) q9)
    (kk : ∀ (v : Option Value) (w : va_W) (H1 : Heap) (locs1 : List Loc), Q v w → va_P g.2.1 vwCl w H1 → va_D A1 w → (∀ q : Nat, q < H.size → ¬ A1 q → H1[q]? = H[q]?) → va_S A0 H0 H1 locs1 → W p l e R s m args below meth c H1 locs1 (k + mc) (n + ms) QQ (F0 m (pc + 3) ls (v.toList ++ rest))) : W p l e R s m args below meth c H locs k n QQ (F0 m pc ls st0) := by
  intro T hT Y
  rcases hr T hT Y with ⟨v, st₀, t, T', L, h0, X', hL, e1, e2, ⟨⟨v2, w, hv, hq, hp, hd⟩, hF⟩, st⟩ | ⟨q, st₀, t, T', L, E, ce, h0, X', hL, e1, e2, ⟨⟨w, hx, hp, hd⟩, hF⟩, hce, hcv, hcl, st⟩
  · cases hv
    obtain ⟨k1, k2, k3⟩ := vx_keep h0 e1 hS hA hf hL hF
    obtain ⟨t2, a1, b1⟩ := kk v w T'.heap (locs ++ L) hq (by rw [e1]; exact hp) hd k2 k3 T' rfl X'
    exact ⟨t2, st t2 a1, b1⟩
  · obtain ⟨k1, k2, k3⟩ := vx_keep h0 e1 hS hA hf hL hF
    obtain ⟨t2, a1, b1⟩ := kx E ce q w T'.heap (locs ++ L) hx (by rw [e1]; exact hp) hd k2 k3 (by rw [e1]; exact hce) hcv hcl T' rfl X'
    exact ⟨t2, st.trans a1, b1⟩
/-- a call of a method that may throw, from one that hands the throw on -/
theorem V.callVX {y : MethodName} {wy wy' : List Cond} {rm rm0 : Room} {W0 : va_W} {Q Q0 : Option Value → va_W → Prop} {XX XX0 : String → va_W → Prop} {C : String} {T : u_T} {N ci i maxL b : Nat} {bytes : ByteArray} {ret r0 : Option FieldType} {nm : String} {fs : List Value} (As rest : List Value) (hM : UX g y wy rm (.ref b :: As) W0 Q XX) (hG : GoodIn Ts (wsV own i C y wy)) (hw : wy = Cond.code y bytes maxL ret :: wy')
    (hd1 : y.cls = C ∧ y.cls ≠ "java/lang/invoke/MethodHandle" ∧ y.cls ≠ "java/lang/invoke/VarHandle" ∧ (parseMethodDescriptor y.desc).map (fun d => d.parameters.length) = some As.length) (hRm : rm.frames + 1 ≤ R.frames ∧ 8 + (maxL + 11) + rm.locals ≤ R.locals) (hc : vwCl[ci]? = some (C, T, N)) (q0 : Nat) (he : ws[q0]? = some (b, .inr (ci, fs)))
    (is : List Nat) (hnd : va_nd is = true) (hC : is.map (fun i => ws[i]?) = W0.map some) (hst : st = As.reverse ++ .ref b :: rest) (hcat : (rest.map fun v => v.category).sum ≤ 8) (hf : k + rm.cells ≤ R.cells ∧ n + rm.slots ≤ R.slots) (hf0 : k + rm.cells ≤ rm0.cells ∧ n + rm.slots ≤ rm0.slots) (hd : decode cc pc = .ok (.invokevirtual i, 3)) (hQa : ∀ v w, Q v w → (w.take is.length).map Prod.fst = W0.map Prod.fst) (hXa : ∀ E w, XX E w → (w.take is.length).map Prod.fst = W0.map Prod.fst) (hx : ∀ E w, XX E w → XX0 E (insW ws is w))
    (kk : ∀ v w, Q v w → V g R own cc Ts nL (QFx g rm0 Q0 XX0) (XMx r0 nm) (k + rm.cells) (n + rm.slots) (insW ws is w) (pc + 3) lv (v.toList ++ rest)) : V g R own cc Ts nL (QFx g rm0 Q0 XX0) (XMx r0 nm) k n ws pc lv st := by
  intro p e s m args below meth c A hx1 hb hml ho ht hA hE hX H locs ls hP hK hD hS hl
  have hF := va_free hD hS hA is hC
  refine vx_callU (vx_runV (As := As) (rest := rest) ⟨hx1, hb, hml, ho, ht⟩ (hM H.size) (cwV As.length ht hG hw rfl rfl hd1 hRm) ⟨PU.blind, va_recv hK hP hc he, fun U hU hW => PU.at hA hE hP hK hD hS hnd hC hU hW⟩ rfl rfl hl.1 hst (lv_room hcat) hd hf) hS (fun q _ h => hF q h) hF (fun E ce q9 w H1 locs1 hxe hP1 hD1 hk1 hS hce hcv hcl => ?_) (fun v w H1 locs1 hq hP1 hD1 hk1 hS => ?_)
  · obtain ⟨hP2, hD2⟩ := insW_ok hP hD is hC hk1 hF hP1 hD1 (hXa E w hxe)
    exact vx_out (fun x h => (hX.2.2.2 x h).elim) hX.2.1 hce hcv hcl (fun t ht2 _ => ⟨⟨_, hx E w hxe, by rw [ht2]; exact hP2, hD2⟩, hS.F ht2⟩) hS.2.2 hf0.1 hf0.2
  · obtain ⟨hP2, hD2⟩ := insW_ok hP hD is hC hk1 hF hP1 hD1 (hQa v w hq)
    exact kk v w hq p e s m args below meth c A hx1 hb hml ho ht hA hE hX H1 locs1 ls hP2 hK hD2 hS hl
theorem V.callSX {y : MethodName} {wy wy' : List Cond} {rm rm0 : Room} {W0 : va_W} {Q Q0 : Option Value → va_W → Prop} {XX XX0 : String → va_W → Prop} {i maxL : Nat} {bytes : ByteArray} {ret r0 : Option FieldType} {nm : String} (As rest : List Value) (hM : UX g y wy rm As W0 Q XX) (hG : GoodIn Ts (va_wsS own i y wy)) (hw : wy = Cond.code y bytes maxL ret :: wy')
    (hd1 : y.cls ≠ "java/lang/invoke/MethodHandle" ∧ y.cls ≠ "java/lang/invoke/VarHandle" ∧ (parseMethodDescriptor y.desc).map (fun d => d.parameters.length) = some As.length) (hRm : rm.frames + 1 ≤ R.frames ∧ 8 + (maxL + 11) + rm.locals ≤ R.locals)
    (is : List Nat) (hnd : va_nd is = true) (hC : is.map (fun i => ws[i]?) = W0.map some) (hst : st = As.reverse ++ rest) (hcat : (rest.map fun v => v.category).sum ≤ 8) (hf : k + rm.cells ≤ R.cells ∧ n + rm.slots ≤ R.slots) (hf0 : k + rm.cells ≤ rm0.cells ∧ n + rm.slots ≤ rm0.slots) (hd : decode cc pc = .ok (.invokestatic i, 3)) (hQa : ∀ v w, Q v w → (w.take is.length).map Prod.fst = W0.map Prod.fst) (hXa : ∀ E w, XX E w → (w.take is.length).map Prod.fst = W0.map Prod.fst) (hx : ∀ E w, XX E w → XX0 E (insW ws is w))
    (kk : ∀ v w, Q v w → V g R own cc Ts nL (QFx g rm0 Q0 XX0) (XMx r0 nm) (k + rm.cells) (n + rm.slots) (insW ws is w) (pc + 3) lv (v.toList ++ rest)) : V g R own cc Ts nL (QFx g rm0 Q0 XX0) (XMx r0 nm) k n ws pc lv st := by
  intro p e s m args below meth c A hx1 hb hml ho ht hA hE hX H locs ls hP hK hD hS hl
  have hF := va_free hD hS hA is hC
  refine vx_callU (vx_runS (As := As) (rest := rest) ⟨hx1, hb, hml, ho, ht⟩ (hM H.size) (va_cwS As.length ht hG hw rfl rfl hd1 hRm) ⟨PU.blind, fun U hU hW => PU.at hA hE hP hK hD hS hnd hC hU hW⟩ rfl rfl hl.1 hst (lv_room hcat) hd hf) hS (fun q _ h => hF q h) hF (fun E ce q9 w H1 locs1 hxe hP1 hD1 hk1 hS hce hcv hcl => ?_) (fun v w H1 locs1 hq hP1 hD1 hk1 hS => ?_)
  · obtain ⟨hP2, hD2⟩ := insW_ok hP hD is hC hk1 hF hP1 hD1 (hXa E w hxe)
    exact vx_out (fun x h => (hX.2.2.2 x h).elim) hX.2.1 hce hcv hcl (fun t ht2 _ => ⟨⟨_, hx E w hxe, by rw [ht2]; exact hP2, hD2⟩, hS.F ht2⟩) hS.2.2 hf0.1 hf0.2
  · obtain ⟨hP2, hD2⟩ := insW_ok hP hD is hC hk1 hF hP1 hD1 (hQa v w hq)
    exact kk v w hq p e s m args below meth c A hx1 hb hml ho ht hA hE hX H1 locs1 ls hP2 hK hD2 hS hl
theorem va_Ps {D : va_G} {cl : List vw_C} {H H1 : Heap} (h : va_P D cl ws H) (hk : ∀ q : Nat, q < H.size → H1[q]? = H[q]?) : va_P D cl ws H1 := h.kept fun _ _ hq => hk _ (h _ _ hq).lt
/-- new X(text), thrown -/
theorem V.throwS {rm0 : Room} {Q0 : Option Value → va_W → Prop} {XX0 : String → va_W → Prop} {r0 : Option FieldType} {nm cls text : String} {ik is ic : Nat} (hst : g.1.stackTraces = false) (hcls : Bundle.fit cls = true) (hk : Cond.classLink RX5 ik cls ∈ Ts) (hini : Cond.initialized cls ∈ Ts) (hks : (RX5, is, text) ∈ ksG) (h0 : vx_gd ic cls = true) (hat : ∀ w ∈ (vx_atS RX5 ic cls ["java/lang/RuntimeException", "java/lang/Exception"]).filter goodWord, w ∈ Ts)
    (d0 : decode cc pc = .ok (.new ik, 3)) (d3 : decode cc (pc + 3) = .ok (.dup, 1)) (d4 : decode cc (pc + 4) = .ok (.ldc is, 2)) (d6 : decode cc (pc + 6) = .ok (.invokespecial ic, 3)) (d9 : decode cc (pc + 9) = .ok (.athrow, 1)) (hRf : 5 < R.frames) (hRl : (st.map fun v => v.category).sum + 82 ≤ R.locals) (hRc : k + 1 ≤ R.cells) (hRs : n + 6 ≤ R.slots) (hXX : XX0 cls ws) (hc : k + 1 ≤ rm0.cells) (hs : n + 6 ≤ rm0.slots) : V g R RX5 cc Ts nL (QFx g rm0 Q0 XX0) (XMx r0 nm) k n ws pc lv st := by
  intro p e s m args below meth c A hx1 hb hml ho ht hA hE hX H locs ls hP hK hD hS hl
  obtain ⟨sa, hsa⟩ := hE.2.2.2.2.1 _ hks
  have hall := vx_all hE ht h0 hat
  refine vx_throwS (A := A) hx1 hb hst ho hcls (by decide +kernel) (ht _ hk) (ht _ hini) hsa (fun w hw => (hall w hw).1) (fun w hw => ?_) hE.2.2.1 hE.2.2.2.1 hS (hl.1.trans hml.symm) d0 d3 d4 d6 d9 (fun x h => (hX.2.2.2 x h).elim) hRf hRl hRc hRs hX.2.1 (fun t _ hz hkeep => ⟨⟨ws, hXX, va_Ps hP hkeep, hD⟩, ⟨Nat.le_trans hS.1 hz, fun q h1 h2 => (hkeep q (Nat.lt_of_lt_of_le h1 hS.1)).trans (hS.2.1 q h1 h2)⟩⟩) hS.2.2 hc hs
  rcases List.mem_cons.mp hw with rfl | hw
  · rfl
  rcases List.mem_cons.mp hw with rfl | hw
  · rfl
  exact (hall w hw).2
theorem V.throwSW {rm0 : Room} {Q0 : Option Value → va_W → Prop} {XX0 : String → va_W → Prop} {r0 : Option FieldType} {nm cls text : String} {ik is ic : Nat} (hst : g.1.stackTraces = false) (hcls : Bundle.fit cls = true) (hk : Cond.classLink RX5 ik cls ∈ Ts) (hini : Cond.initialized cls ∈ Ts) (hks : (RX5, is, text) ∈ ksG) (h0 : vx_gd ic cls = true) (hat : ∀ w ∈ (vx_atS RX5 ic cls ["java/lang/RuntimeException", "java/lang/Exception"]).filter goodWord, w ∈ Ts)
    (d0 : decode cc pc = .ok (.new ik, 3)) (d3 : decode cc (pc + 3) = .ok (.dup, 1)) (d4 : decode cc (pc + 4) = .ok (.ldc_w is, 3)) (d6 : decode cc (pc + 7) = .ok (.invokespecial ic, 3)) (d9 : decode cc (pc + 10) = .ok (.athrow, 1)) (hRf : 5 < R.frames) (hRl : (st.map fun v => v.category).sum + 82 ≤ R.locals) (hRc : k + 1 ≤ R.cells) (hRs : n + 6 ≤ R.slots) (hXX : XX0 cls ws) (hc : k + 1 ≤ rm0.cells) (hs : n + 6 ≤ rm0.slots) : V g R RX5 cc Ts nL (QFx g rm0 Q0 XX0) (XMx r0 nm) k n ws pc lv st := by
  intro p e s m args below meth c A hx1 hb hml ho ht hA hE hX H locs ls hP hK hD hS hl
  obtain ⟨sa, hsa⟩ := hE.2.2.2.2.1 _ hks
  have hall := vx_all hE ht h0 hat
  refine vx_throwSW (A := A) hx1 hb hst ho hcls (by decide +kernel) (ht _ hk) (ht _ hini) hsa (fun w hw => (hall w hw).1) (fun w hw => ?_) hE.2.2.1 hE.2.2.2.1 hS (hl.1.trans hml.symm) d0 d3 d4 d6 d9 (fun x h => (hX.2.2.2 x h).elim) hRf hRl hRc hRs hX.2.1 (fun t _ hz hkeep => ⟨⟨ws, hXX, va_Ps hP hkeep, hD⟩, ⟨Nat.le_trans hS.1 hz, fun q h1 h2 => (hkeep q (Nat.lt_of_lt_of_le h1 hS.1)).trans (hS.2.1 q h1 h2)⟩⟩) hS.2.2 hc hs
  rcases List.mem_cons.mp hw with rfl | hw
  · rfl
  rcases List.mem_cons.mp hw with rfl | hw
  · rfl
  exact (hall w hw).2
end KX
