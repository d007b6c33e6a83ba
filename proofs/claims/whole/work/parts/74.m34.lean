set_option maxHeartbeats 4000000 in
set_option maxRecDepth 100000 in
theorem cs_addFeeder (g : GT) (hst : g.1.stackTraces = false) (QF : QT) (sa ob o : Nat) (b c u h x a : Nat → Nat) (L i K : Nat) (sc : Nat → Int32) (kc nc : Nat) (hkc : kc + 20 ≤ 601024) (hnc : nc + 400 ≤ 7293034) (hiL : i + 6 ≤ L) (hL : L < 2147483648) (hK : K ≤ 590) (ff : Nat → Int64) (z y ai pa tu tx : Nat → Int32) (len : Nat) (s : BS) (n : Nat) (sv : SV) (hi aj pj tj pt ke : Nat → Int32) (th re nu du : Int32) (ha : Int64) (hI : LI K z n sv hi tx len s) (hk : ∀ (ff : Nat → Int64) (z y ai pa tu tx : Nat → Int32) (len : Nat) (s : BS) (n : Nat) (sv : SV) (hi aj pj tj pt ke : Nat → Int32) (th re nu du : Int32) (ha : Int64), LI (K + 1) z n sv hi tx len s → V g rmL_law RL cL_law wsL_law 9 QF (XL sa L sc) (kc + 20) (nc + 400) (SCW g sa L sc ++ OB g ob ff ++ GW g o b c u h x z y ai pa tu tx len s n sv ++ MW g a z hi tx aj pj tj pt ke (nI n) (nI len) th re nu du ha) 1529 [(4, .int (nI i)), (3, .ref ob), (2, .ref (a 0)), (1, .ref o), (0, .ref sa)] []) : V g rmL_law RL cL_law wsL_law 9 QF (XL sa L sc) kc nc ((SCW g sa L sc) ++ (OB g ob ff) ++ (GW g o b c u h x z y ai pa tu tx len s n sv) ++ (MW g a z hi tx aj pj tj pt ke (nI n) (nI len) th re nu du ha)) 164 [(4, .int (nI i)), (3, .ref ob), (2, .ref (a 0)), (1, .ref o), (0, .ref sa)] [] := by
  obtain ⟨hz, hh, hl, hT, hD⟩ := hI
  have hV : TV z := hz.1
  have hF : z 5 = nI (nf z) := hV.1.1
  have hF8 : nf z ≤ 8 := hV.nf
  have hP : z 6 = nI (np z) := hV.1.2.2.1
  have hP24 : np z ≤ 24 := hV.np
  have hn6 : n ≤ 6 := hh.1
  have hnl : n ≤ sv.length := hh.2.1
  have hl6 : sv.length ≤ 6 := hh.2.2.1
  obtain ⟨q0, hq0⟩ : ∃ q, sc (i + 1) = q := ⟨_, rfl⟩
  obtain ⟨q1, hq1⟩ : ∃ q, sc (i + 2) = q := ⟨_, rfl⟩
  obtain ⟨q2, hq2⟩ : ∃ q, sc (i + 3) = q := ⟨_, rfl⟩
  obtain ⟨q3, hq3⟩ : ∃ q, sc (i + 4) = q := ⟨_, rfl⟩
  obtain ⟨q4, hq4⟩ : ∃ q, sc (i + 5) = q := ⟨_, rfl⟩
  refine V.aload_n 3 rfl dL_law_164 rfl ?_
  refine V.aload_n 4 rfl dL_law_165 rfl ?_
  refine V.iload 0 rfl dL_law_166 ?_
  refine V.iconst (v := 1) dL_law_168 (by decide) ?_
  refine V.iaddN (v := nI (i + 1)) dL_law_169 (nI_add i 1) ?_
  refine V.ialdL (i + 1) (by omega) hL dL_law_170 ?_
  rw [hq0]
  refine V.aload_n 4 rfl dL_law_171 rfl ?_
  refine V.iload 0 rfl dL_law_172 ?_
  refine V.iconst (v := 2) dL_law_174 (by decide) ?_
  refine V.iaddN (v := nI (i + 2)) dL_law_175 (nI_add i 2) ?_
  refine V.ialdL (i + 2) (by omega) hL dL_law_176 ?_
  rw [hq1]
  refine V.aload_n 4 rfl dL_law_177 rfl ?_
  refine V.iload 0 rfl dL_law_178 ?_
  refine V.iconst (v := 3) dL_law_180 (by decide) ?_
  refine V.iaddN (v := nI (i + 3)) dL_law_181 (nI_add i 3) ?_
  refine V.ialdL (i + 3) (by omega) hL dL_law_182 ?_
  rw [hq2]
  refine V.aload_n 4 rfl dL_law_183 rfl ?_
  refine V.iload 0 rfl dL_law_184 ?_
  refine V.iconst (v := 4) dL_law_186 (by decide) ?_
  refine V.iaddN (v := nI (i + 4)) dL_law_187 (nI_add i 4) ?_
  refine V.ialdL (i + 4) (by omega) hL dL_law_188 ?_
  rw [hq3]
  refine V.aload_n 4 rfl dL_law_189 rfl ?_
  refine V.iload 0 rfl dL_law_190 ?_
  refine V.iconst (v := 5) dL_law_192 (by decide) ?_
  refine V.iaddN (v := nI (i + 5)) dL_law_193 (nI_add i 5) ?_
  refine V.ialdL (i + 5) (by omega) hL dL_law_194 ?_
  rw [hq4]
  refine V.aload_n 1 rfl dL_law_195 rfl ?_
  have hM := kX5_addFeeder g hst o b c u h x z y ai pa tu tx len s n sv q0 q1 q2 q3 q4 hF hF8 hn6 hnl hl6
  refine V.callSHP (F := (SCW g sa L sc) ++ (MW g a z hi tx aj pj tj pt ke (nI n) (nI len) th re nu du ha)) [.ref o, .int q0, .int q1, .int q2, .int q3, .int q4, .ref ob] [] (kL_addFeeder g (GW g o b c u h x z y ai pa tu tx len s n sv) o ob q0 q1 q2 q3 q4 ff rfl hM (fun v w q => by obtain ⟨_, e, sv2, hs, hG⟩ := q; exact ⟨_, e⟩) (fun v w q => by obtain ⟨_, e, sv2, hs, hG⟩ := q; exact hG.1) (fun E w q => by rw [q.1]; exact FST.rf) (fun E w q => by (rcases q.2 with ⟨d0, q⟩ | ⟨d0, d1, q⟩ | ⟨d0, d1, d2, q⟩ | ⟨d0, d1, d2, d3, q⟩ | ⟨d0, d1, d2, d3, d4, q⟩ | ⟨d0, d1, d2, d3, d4, d5, q⟩ <;> first | exact q | exact Or.inl q | exact Or.inr q | exact Or.inr (Or.inl q) | exact Or.inr (Or.inr q)))) gL_law_L_addFeeder rfl (by show _ ∧ _ ∧ _ = some (7 : Nat); decide +kernel) ⟨(Nat.le_of_ble_eq_true rfl), (Nat.le_of_ble_eq_true rfl)⟩ pvW rfl (Nat.le_of_ble_eq_true rfl) ⟨(by have : rmL_addFeeder.cells ≤ 20 := Nat.le_of_ble_eq_true rfl; show kc + rmL_addFeeder.cells ≤ 601024; omega), (by have : rmL_addFeeder.slots ≤ 400 := Nat.le_of_ble_eq_true rfl; show nc + rmL_addFeeder.slots ≤ 7293034; omega)⟩ dL_law_196 (LQ.fst (fun v w q => by obtain ⟨_, e, sv2, hs, hG⟩ := q; exact hG.1) (fun E w q => by rw [q.1]; exact FST.rf)) (fun v w hq => ?_)
  rcases hq with ⟨r, w1, hQ1, rfl, rfl⟩ | ⟨E, w1, hX1, rfl, rfl⟩
  · skip
    obtain ⟨⟨d0, d1, d2, d3, d4, d5⟩, e, sv2, hs, hG⟩ := hQ1
    injection e with e; injection e with e; subst e
    refine V.perm (pvL hG.2.symm) ?_
    refine V.eqws (ws2 := (SCW g sa L sc) ++ (OB g ob (vp_updL ff 0 (nI (nf z)).toInt64)) ++ (GW g o b c u h x (nfI z q0 q1 q2 q3 q4) y ai pa tu tx len s (svM n + 1) sv2) ++ (MW g a z hi tx aj pj tj pt ke (nI n) (nI len) th re nu du ha)) rfl ?_
    refine V.eqst (st2 := [.int 0]) rfl ?_
    refine V.istore (lv2 := [(5, .int 0), (4, .int (nI i)), (3, .ref ob), (2, .ref (a 0)), (1, .ref o), (0, .ref sa)]) dL_law_199 (by decide) rfl ?_
    refine V.aload_n 3 rfl dL_law_201 rfl ?_
    refine V.aload_n 5 rfl dL_law_202 rfl ?_
    refine V.iload 1 rfl dL_law_203 ?_
    refine V.iconst (v := 1) dL_law_205 (by decide) ?_
    refine V.iaddN (v := nI (i + 1)) dL_law_206 (nI_add i 1) ?_
    refine V.ialdL (i + 1) (by omega) hL dL_law_207 ?_
    rw [hq0]
    refine V.aload_n 5 rfl dL_law_208 rfl ?_
    refine V.iload 1 rfl dL_law_209 ?_
    refine V.iconst (v := 2) dL_law_211 (by decide) ?_
    refine V.iaddN (v := nI (i + 2)) dL_law_212 (nI_add i 2) ?_
    refine V.ialdL (i + 2) (by omega) hL dL_law_213 ?_
    rw [hq1]
    refine V.aload_n 5 rfl dL_law_214 rfl ?_
    refine V.iload 1 rfl dL_law_215 ?_
    refine V.iconst (v := 3) dL_law_217 (by decide) ?_
    refine V.iaddN (v := nI (i + 3)) dL_law_218 (nI_add i 3) ?_
    refine V.ialdL (i + 3) (by omega) hL dL_law_219 ?_
    rw [hq2]
    refine V.aload_n 5 rfl dL_law_220 rfl ?_
    refine V.iload 1 rfl dL_law_221 ?_
    refine V.iconst (v := 4) dL_law_223 (by decide) ?_
    refine V.iaddN (v := nI (i + 4)) dL_law_224 (nI_add i 4) ?_
    refine V.ialdL (i + 4) (by omega) hL dL_law_225 ?_
    rw [hq3]
    refine V.aload_n 5 rfl dL_law_226 rfl ?_
    refine V.iload 1 rfl dL_law_227 ?_
    refine V.iconst (v := 5) dL_law_229 (by decide) ?_
    refine V.iaddN (v := nI (i + 5)) dL_law_230 (nI_add i 5) ?_
    refine V.ialdL (i + 5) (by omega) hL dL_law_231 ?_
    rw [hq4]
    refine V.callVPf (F := ((SCW g sa L sc) ++ (OB g ob (vp_updL ff 0 (nI (nf z)).toInt64))) ++ (GW g o b c u h x (nfI z q0 q1 q2 q3 q4) y ai pa tu tx len s (svM n + 1) sv2)) (ws2 := (SCW g sa L sc) ++ (OB g ob (vp_updL ff 0 (nI (nf z)).toInt64)) ++ (GW g o b c u h x (nfI z q0 q1 q2 q3 q4) y ai pa tu tx len s (svM n + 1) sv2) ++ (MW g a (afC z q0 q1 q2 q3 q4) (svA n z hi) tx aj pj tj pt ke (nI (svM n + 1)) (nI len) 0 re nu du ha)) (st2 := [.int (nI (nf z))]) [.int q0, .int q1, .int q2, .int q3, .int q4] [] (kX6_addFeeder_ok g a z hi tx aj pj tj pt ke (nI len) th re nu du ha q0 q1 q2 q3 q4 n d0 d1 d2 d3 d4 hF d5 hn6) gL_law_X6_addFeeder rfl (by show _ ∧ _ ∧ _ ∧ _ = some (5 : Nat); decide +kernel) ⟨(Nat.le_of_ble_eq_true rfl), (Nat.le_of_ble_eq_true rfl)⟩ (hc := (rfl : vwCl[6]? = some (RX6, TX6, 15))) 0 rfl pvM rfl (Nat.le_of_ble_eq_true rfl) ⟨(by have : rmL_addFeeder.cells ≤ 20 := Nat.le_of_ble_eq_true rfl; show kc + rmL_addFeeder.cells + 0 ≤ 601024; omega), (by have : rmL_addFeeder.slots ≤ 400 := Nat.le_of_ble_eq_true rfl; show nc + rmL_addFeeder.slots + 0 ≤ 7293034; omega)⟩ dL_law_232 MWm pvM.symm rfl rfl rfl ?_
    refine V.istore (lv2 := [(6, .int (nI (nf z))), (5, .int 0), (4, .int (nI i)), (3, .ref ob), (2, .ref (a 0)), (1, .ref o), (0, .ref sa)]) dL_law_235 (by decide) rfl ?_
    refine V.aload_n 4 rfl dL_law_237 rfl ?_
    refine V.callVPf (F := ((SCW g sa L sc) ++ (OB g ob (vp_updL ff 0 (nI (nf z)).toInt64))) ++ (GW g o b c u h x (nfI z q0 q1 q2 q3 q4) y ai pa tu tx len s (svM n + 1) sv2)) (ws2 := (SCW g sa L sc) ++ (OB g ob (vp_updL ff 0 (nI (nf z)).toInt64)) ++ (GW g o b c u h x (nfI z q0 q1 q2 q3 q4) y ai pa tu tx len s (svM n + 1) sv2) ++ (MW g a (afC z q0 q1 q2 q3 q4) (svA n z hi) tx aj pj tj pt ke (nI (svM n + 1)) (nI len) 0 re nu du ha)) (st2 := [.int 0]) [] [] (kX6_thrown g a (afC z q0 q1 q2 q3 q4) (svA n z hi) tx aj pj tj pt ke (nI (svM n + 1)) (nI len) 0 re nu du ha) gL_law_X6_thrown rfl (by show _ ∧ _ ∧ _ ∧ _ = some (0 : Nat); decide +kernel) ⟨(Nat.le_of_ble_eq_true rfl), (Nat.le_of_ble_eq_true rfl)⟩ (hc := (rfl : vwCl[6]? = some (RX6, TX6, 15))) 0 rfl pvM rfl (Nat.le_of_ble_eq_true rfl) ⟨(by have : rmL_addFeeder.cells ≤ 20 := Nat.le_of_ble_eq_true rfl; show kc + rmL_addFeeder.cells + 0 ≤ 601024; omega), (by have : rmL_addFeeder.slots ≤ 400 := Nat.le_of_ble_eq_true rfl; show nc + rmL_addFeeder.slots + 0 ≤ 7293034; omega)⟩ dL_law_238 MWm pvM.symm rfl rfl rfl ?_
    refine V.iload 1 rfl dL_law_241 ?_
    refine V.icmp_eq_t (tgt := 248) rfl dL_law_243 (by decide) ?_
    refine V.iload 1 rfl dL_law_248 ?_
    refine V.if_ne_f (tgt := 265) rfl dL_law_250 (by decide) ?_
    refine V.aload_n 3 rfl dL_law_253 rfl ?_
    refine V.iconst (v := 0) dL_law_254 (by decide) ?_
    refine V.lald (f := vp_updL ff 0 (nI (nf z)).toInt64) 0 0 rfl rfl (by decide) (by decide) dL_law_255 ?_
    refine V.eqst (st2 := [.long (nI (nf z)).toInt64]) rfl ?_
    refine V.iload 0 rfl dL_law_256 ?_
    refine V.i2l dL_law_258 ?_
    refine V.lcmp dL_law_259 ?_
    refine V.eqst (st2 := [.int 0]) (by rw [cmp_0] <;> rfl) ?_
    refine V.if_eq_t (tgt := 265) (by decide) dL_law_260 (by decide) ?_
    refine V.goto (tgt := 1529) dL_law_265 (by decide) ?_
    rw [nfI_eq hz.2.1 d5]
    refine V.eqlv (lv2 := [(4, .int (nI i)), (3, .ref ob), (2, .ref (a 0)), (1, .ref o), (0, .ref sa)]) [2, 3, 4, 5, 6] rfl ?_
    refine V.widen (k2 := kc + 20) (n2 := nc + 400) (by have : rmL_addFeeder.cells ≤ 20 := Nat.le_of_ble_eq_true rfl; show kc + rmL_addFeeder.cells ≤ kc + 20; omega) (by have : rmL_addFeeder.slots ≤ 400 := Nat.le_of_ble_eq_true rfl; show nc + rmL_addFeeder.slots ≤ nc + 400; omega) ?_
    exact hk _ _ _ _ _ _ _ _ _ _ _ _ _ _ _ _ _ _ _ _ _ _ ⟨by rw [← nfI_eq hz.2.1 d5]; exact (hz.af d5 (wi_IN d0) (wi_nat d1 (show (5 : Int32) = nI 6 - 1 from by decide) (by decide) (by decide))).mo, (hh.save hz hs).mo, hl, hT, hD⟩
  · skip
    obtain ⟨rfl, hX1⟩ := hX1
    rcases hX1 with ⟨d0, rfl⟩ | ⟨d0, d1, rfl⟩ | ⟨d0, d1, d2, rfl⟩ | ⟨d0, d1, d2, d3, rfl⟩ | ⟨d0, d1, d2, d3, d4, rfl⟩ | ⟨d0, d1, d2, d3, d4, d5, rfl⟩
    · skip
      refine V.perm (pvL (List.Perm.refl _)) ?_
      refine V.eqws (ws2 := (SCW g sa L sc) ++ (OB g ob ff) ++ (GW g o b c u h x z y ai pa tu tx len s n sv) ++ (MW g a z hi tx aj pj tj pt ke (nI n) (nI len) th re nu du ha)) rfl ?_
      rw [show (cd2 IAE ISE) IAE = 1 from by decide +kernel]
      refine V.eqst (st2 := [.int 1]) rfl ?_
      refine V.istore (lv2 := [(5, .int 1), (4, .int (nI i)), (3, .ref ob), (2, .ref (a 0)), (1, .ref o), (0, .ref sa)]) dL_law_199 (by decide) rfl ?_
      refine V.aload_n 3 rfl dL_law_201 rfl ?_
      refine V.aload_n 5 rfl dL_law_202 rfl ?_
      refine V.iload 1 rfl dL_law_203 ?_
      refine V.iconst (v := 1) dL_law_205 (by decide) ?_
      refine V.iaddN (v := nI (i + 1)) dL_law_206 (nI_add i 1) ?_
      refine V.ialdL (i + 1) (by omega) hL dL_law_207 ?_
      rw [hq0]
      refine V.aload_n 5 rfl dL_law_208 rfl ?_
      refine V.iload 1 rfl dL_law_209 ?_
      refine V.iconst (v := 2) dL_law_211 (by decide) ?_
      refine V.iaddN (v := nI (i + 2)) dL_law_212 (nI_add i 2) ?_
      refine V.ialdL (i + 2) (by omega) hL dL_law_213 ?_
      rw [hq1]
      refine V.aload_n 5 rfl dL_law_214 rfl ?_
      refine V.iload 1 rfl dL_law_215 ?_
      refine V.iconst (v := 3) dL_law_217 (by decide) ?_
      refine V.iaddN (v := nI (i + 3)) dL_law_218 (nI_add i 3) ?_
      refine V.ialdL (i + 3) (by omega) hL dL_law_219 ?_
      rw [hq2]
      refine V.aload_n 5 rfl dL_law_220 rfl ?_
      refine V.iload 1 rfl dL_law_221 ?_
      refine V.iconst (v := 4) dL_law_223 (by decide) ?_
      refine V.iaddN (v := nI (i + 4)) dL_law_224 (nI_add i 4) ?_
      refine V.ialdL (i + 4) (by omega) hL dL_law_225 ?_
      rw [hq3]
      refine V.aload_n 5 rfl dL_law_226 rfl ?_
      refine V.iload 1 rfl dL_law_227 ?_
      refine V.iconst (v := 5) dL_law_229 (by decide) ?_
      refine V.iaddN (v := nI (i + 5)) dL_law_230 (nI_add i 5) ?_
      refine V.ialdL (i + 5) (by omega) hL dL_law_231 ?_
      rw [hq4]
      refine V.callVPf (F := ((SCW g sa L sc) ++ (OB g ob ff)) ++ (GW g o b c u h x z y ai pa tu tx len s n sv)) (ws2 := (SCW g sa L sc) ++ (OB g ob ff) ++ (GW g o b c u h x z y ai pa tu tx len s n sv) ++ (MW g a z hi tx aj pj tj pt ke (nI n) (nI len) 1 re nu du ha)) (st2 := [.int 0]) [.int q0, .int q1, .int q2, .int q3, .int q4] [] (kX6_addFeeder_b10 g a z hi tx aj pj tj pt ke (nI n) (nI len) th re nu du ha q0 q1 q2 q3 q4 d0) gL_law_X6_addFeeder rfl (by show _ ∧ _ ∧ _ ∧ _ = some (5 : Nat); decide +kernel) ⟨(Nat.le_of_ble_eq_true rfl), (Nat.le_of_ble_eq_true rfl)⟩ (hc := (rfl : vwCl[6]? = some (RX6, TX6, 15))) 0 rfl pvM rfl (Nat.le_of_ble_eq_true rfl) ⟨(by have : rmL_addFeeder.cells ≤ 20 := Nat.le_of_ble_eq_true rfl; show kc + rmL_addFeeder.cells + 0 ≤ 601024; omega), (by have : rmL_addFeeder.slots ≤ 400 := Nat.le_of_ble_eq_true rfl; show nc + rmL_addFeeder.slots + 0 ≤ 7293034; omega)⟩ dL_law_232 MWm pvM.symm rfl rfl rfl ?_
      refine V.istore (lv2 := [(6, .int 0), (5, .int 1), (4, .int (nI i)), (3, .ref ob), (2, .ref (a 0)), (1, .ref o), (0, .ref sa)]) dL_law_235 (by decide) rfl ?_
      refine V.aload_n 4 rfl dL_law_237 rfl ?_
      refine V.callVPf (F := ((SCW g sa L sc) ++ (OB g ob ff)) ++ (GW g o b c u h x z y ai pa tu tx len s n sv)) (ws2 := (SCW g sa L sc) ++ (OB g ob ff) ++ (GW g o b c u h x z y ai pa tu tx len s n sv) ++ (MW g a z hi tx aj pj tj pt ke (nI n) (nI len) 1 re nu du ha)) (st2 := [.int 1]) [] [] (kX6_thrown g a z hi tx aj pj tj pt ke (nI n) (nI len) 1 re nu du ha) gL_law_X6_thrown rfl (by show _ ∧ _ ∧ _ ∧ _ = some (0 : Nat); decide +kernel) ⟨(Nat.le_of_ble_eq_true rfl), (Nat.le_of_ble_eq_true rfl)⟩ (hc := (rfl : vwCl[6]? = some (RX6, TX6, 15))) 0 rfl pvM rfl (Nat.le_of_ble_eq_true rfl) ⟨(by have : rmL_addFeeder.cells ≤ 20 := Nat.le_of_ble_eq_true rfl; show kc + rmL_addFeeder.cells + 0 ≤ 601024; omega), (by have : rmL_addFeeder.slots ≤ 400 := Nat.le_of_ble_eq_true rfl; show nc + rmL_addFeeder.slots + 0 ≤ 7293034; omega)⟩ dL_law_238 MWm pvM.symm rfl rfl rfl ?_
      refine V.iload 1 rfl dL_law_241 ?_
      refine V.icmp_eq_t (tgt := 248) rfl dL_law_243 (by decide) ?_
      refine V.iload 1 rfl dL_law_248 ?_
      refine V.if_ne_t (tgt := 265) (by decide) dL_law_250 (by decide) ?_
      refine V.goto (tgt := 1529) dL_law_265 (by decide) ?_
      refine V.eqlv (lv2 := [(4, .int (nI i)), (3, .ref ob), (2, .ref (a 0)), (1, .ref o), (0, .ref sa)]) [2, 3, 4, 5, 6] rfl ?_
      refine V.widen (k2 := kc + 20) (n2 := nc + 400) (by have : rmL_addFeeder.cells ≤ 20 := Nat.le_of_ble_eq_true rfl; show kc + rmL_addFeeder.cells ≤ kc + 20; omega) (by have : rmL_addFeeder.slots ≤ 400 := Nat.le_of_ble_eq_true rfl; show nc + rmL_addFeeder.slots ≤ nc + 400; omega) ?_
      exact hk _ _ _ _ _ _ _ _ _ _ _ _ _ _ _ _ _ _ _ _ _ _ ⟨hz.mo, hh.mo, hl, hT, hD⟩
    · skip
      refine V.perm (pvL (List.Perm.refl _)) ?_
      refine V.eqws (ws2 := (SCW g sa L sc) ++ (OB g ob ff) ++ (GW g o b c u h x z y ai pa tu tx len s n sv) ++ (MW g a z hi tx aj pj tj pt ke (nI n) (nI len) th re nu du ha)) rfl ?_
      rw [show (cd2 IAE ISE) IAE = 1 from by decide +kernel]
      refine V.eqst (st2 := [.int 1]) rfl ?_
      refine V.istore (lv2 := [(5, .int 1), (4, .int (nI i)), (3, .ref ob), (2, .ref (a 0)), (1, .ref o), (0, .ref sa)]) dL_law_199 (by decide) rfl ?_
      refine V.aload_n 3 rfl dL_law_201 rfl ?_
      refine V.aload_n 5 rfl dL_law_202 rfl ?_
      refine V.iload 1 rfl dL_law_203 ?_
      refine V.iconst (v := 1) dL_law_205 (by decide) ?_
      refine V.iaddN (v := nI (i + 1)) dL_law_206 (nI_add i 1) ?_
      refine V.ialdL (i + 1) (by omega) hL dL_law_207 ?_
      rw [hq0]
      refine V.aload_n 5 rfl dL_law_208 rfl ?_
      refine V.iload 1 rfl dL_law_209 ?_
      refine V.iconst (v := 2) dL_law_211 (by decide) ?_
      refine V.iaddN (v := nI (i + 2)) dL_law_212 (nI_add i 2) ?_
      refine V.ialdL (i + 2) (by omega) hL dL_law_213 ?_
      rw [hq1]
      refine V.aload_n 5 rfl dL_law_214 rfl ?_
      refine V.iload 1 rfl dL_law_215 ?_
      refine V.iconst (v := 3) dL_law_217 (by decide) ?_
      refine V.iaddN (v := nI (i + 3)) dL_law_218 (nI_add i 3) ?_
      refine V.ialdL (i + 3) (by omega) hL dL_law_219 ?_
      rw [hq2]
      refine V.aload_n 5 rfl dL_law_220 rfl ?_
      refine V.iload 1 rfl dL_law_221 ?_
      refine V.iconst (v := 4) dL_law_223 (by decide) ?_
      refine V.iaddN (v := nI (i + 4)) dL_law_224 (nI_add i 4) ?_
      refine V.ialdL (i + 4) (by omega) hL dL_law_225 ?_
      rw [hq3]
      refine V.aload_n 5 rfl dL_law_226 rfl ?_
      refine V.iload 1 rfl dL_law_227 ?_
      refine V.iconst (v := 5) dL_law_229 (by decide) ?_
      refine V.iaddN (v := nI (i + 5)) dL_law_230 (nI_add i 5) ?_
      refine V.ialdL (i + 5) (by omega) hL dL_law_231 ?_
      rw [hq4]
      refine V.callVPf (F := ((SCW g sa L sc) ++ (OB g ob ff)) ++ (GW g o b c u h x z y ai pa tu tx len s n sv)) (ws2 := (SCW g sa L sc) ++ (OB g ob ff) ++ (GW g o b c u h x z y ai pa tu tx len s n sv) ++ (MW g a z hi tx aj pj tj pt ke (nI n) (nI len) 1 re nu du ha)) (st2 := [.int 0]) [.int q0, .int q1, .int q2, .int q3, .int q4] [] (kX6_addFeeder_b11 g a z hi tx aj pj tj pt ke (nI n) (nI len) th re nu du ha q0 q1 q2 q3 q4 d0 d1) gL_law_X6_addFeeder rfl (by show _ ∧ _ ∧ _ ∧ _ = some (5 : Nat); decide +kernel) ⟨(Nat.le_of_ble_eq_true rfl), (Nat.le_of_ble_eq_true rfl)⟩ (hc := (rfl : vwCl[6]? = some (RX6, TX6, 15))) 0 rfl pvM rfl (Nat.le_of_ble_eq_true rfl) ⟨(by have : rmL_addFeeder.cells ≤ 20 := Nat.le_of_ble_eq_true rfl; show kc + rmL_addFeeder.cells + 0 ≤ 601024; omega), (by have : rmL_addFeeder.slots ≤ 400 := Nat.le_of_ble_eq_true rfl; show nc + rmL_addFeeder.slots + 0 ≤ 7293034; omega)⟩ dL_law_232 MWm pvM.symm rfl rfl rfl ?_
      refine V.istore (lv2 := [(6, .int 0), (5, .int 1), (4, .int (nI i)), (3, .ref ob), (2, .ref (a 0)), (1, .ref o), (0, .ref sa)]) dL_law_235 (by decide) rfl ?_
      refine V.aload_n 4 rfl dL_law_237 rfl ?_
      refine V.callVPf (F := ((SCW g sa L sc) ++ (OB g ob ff)) ++ (GW g o b c u h x z y ai pa tu tx len s n sv)) (ws2 := (SCW g sa L sc) ++ (OB g ob ff) ++ (GW g o b c u h x z y ai pa tu tx len s n sv) ++ (MW g a z hi tx aj pj tj pt ke (nI n) (nI len) 1 re nu du ha)) (st2 := [.int 1]) [] [] (kX6_thrown g a z hi tx aj pj tj pt ke (nI n) (nI len) 1 re nu du ha) gL_law_X6_thrown rfl (by show _ ∧ _ ∧ _ ∧ _ = some (0 : Nat); decide +kernel) ⟨(Nat.le_of_ble_eq_true rfl), (Nat.le_of_ble_eq_true rfl)⟩ (hc := (rfl : vwCl[6]? = some (RX6, TX6, 15))) 0 rfl pvM rfl (Nat.le_of_ble_eq_true rfl) ⟨(by have : rmL_addFeeder.cells ≤ 20 := Nat.le_of_ble_eq_true rfl; show kc + rmL_addFeeder.cells + 0 ≤ 601024; omega), (by have : rmL_addFeeder.slots ≤ 400 := Nat.le_of_ble_eq_true rfl; show nc + rmL_addFeeder.slots + 0 ≤ 7293034; omega)⟩ dL_law_238 MWm pvM.symm rfl rfl rfl ?_
      refine V.iload 1 rfl dL_law_241 ?_
      refine V.icmp_eq_t (tgt := 248) rfl dL_law_243 (by decide) ?_
      refine V.iload 1 rfl dL_law_248 ?_
      refine V.if_ne_t (tgt := 265) (by decide) dL_law_250 (by decide) ?_
      refine V.goto (tgt := 1529) dL_law_265 (by decide) ?_
      refine V.eqlv (lv2 := [(4, .int (nI i)), (3, .ref ob), (2, .ref (a 0)), (1, .ref o), (0, .ref sa)]) [2, 3, 4, 5, 6] rfl ?_
      refine V.widen (k2 := kc + 20) (n2 := nc + 400) (by have : rmL_addFeeder.cells ≤ 20 := Nat.le_of_ble_eq_true rfl; show kc + rmL_addFeeder.cells ≤ kc + 20; omega) (by have : rmL_addFeeder.slots ≤ 400 := Nat.le_of_ble_eq_true rfl; show nc + rmL_addFeeder.slots ≤ nc + 400; omega) ?_
      exact hk _ _ _ _ _ _ _ _ _ _ _ _ _ _ _ _ _ _ _ _ _ _ ⟨hz.mo, hh.mo, hl, hT, hD⟩
    · skip
      refine V.perm (pvL (List.Perm.refl _)) ?_
      refine V.eqws (ws2 := (SCW g sa L sc) ++ (OB g ob ff) ++ (GW g o b c u h x z y ai pa tu tx len s n sv) ++ (MW g a z hi tx aj pj tj pt ke (nI n) (nI len) th re nu du ha)) rfl ?_
      rw [show (cd2 IAE ISE) IAE = 1 from by decide +kernel]
      refine V.eqst (st2 := [.int 1]) rfl ?_
      refine V.istore (lv2 := [(5, .int 1), (4, .int (nI i)), (3, .ref ob), (2, .ref (a 0)), (1, .ref o), (0, .ref sa)]) dL_law_199 (by decide) rfl ?_
      refine V.aload_n 3 rfl dL_law_201 rfl ?_
      refine V.aload_n 5 rfl dL_law_202 rfl ?_
      refine V.iload 1 rfl dL_law_203 ?_
      refine V.iconst (v := 1) dL_law_205 (by decide) ?_
      refine V.iaddN (v := nI (i + 1)) dL_law_206 (nI_add i 1) ?_
      refine V.ialdL (i + 1) (by omega) hL dL_law_207 ?_
      rw [hq0]
      refine V.aload_n 5 rfl dL_law_208 rfl ?_
      refine V.iload 1 rfl dL_law_209 ?_
      refine V.iconst (v := 2) dL_law_211 (by decide) ?_
      refine V.iaddN (v := nI (i + 2)) dL_law_212 (nI_add i 2) ?_
      refine V.ialdL (i + 2) (by omega) hL dL_law_213 ?_
      rw [hq1]
      refine V.aload_n 5 rfl dL_law_214 rfl ?_
      refine V.iload 1 rfl dL_law_215 ?_
      refine V.iconst (v := 3) dL_law_217 (by decide) ?_
      refine V.iaddN (v := nI (i + 3)) dL_law_218 (nI_add i 3) ?_
      refine V.ialdL (i + 3) (by omega) hL dL_law_219 ?_
      rw [hq2]
      refine V.aload_n 5 rfl dL_law_220 rfl ?_
      refine V.iload 1 rfl dL_law_221 ?_
      refine V.iconst (v := 4) dL_law_223 (by decide) ?_
      refine V.iaddN (v := nI (i + 4)) dL_law_224 (nI_add i 4) ?_
      refine V.ialdL (i + 4) (by omega) hL dL_law_225 ?_
      rw [hq3]
      refine V.aload_n 5 rfl dL_law_226 rfl ?_
      refine V.iload 1 rfl dL_law_227 ?_
      refine V.iconst (v := 5) dL_law_229 (by decide) ?_
      refine V.iaddN (v := nI (i + 5)) dL_law_230 (nI_add i 5) ?_
      refine V.ialdL (i + 5) (by omega) hL dL_law_231 ?_
      rw [hq4]
      refine V.callVPf (F := ((SCW g sa L sc) ++ (OB g ob ff)) ++ (GW g o b c u h x z y ai pa tu tx len s n sv)) (ws2 := (SCW g sa L sc) ++ (OB g ob ff) ++ (GW g o b c u h x z y ai pa tu tx len s n sv) ++ (MW g a z hi tx aj pj tj pt ke (nI n) (nI len) 1 re nu du ha)) (st2 := [.int 0]) [.int q0, .int q1, .int q2, .int q3, .int q4] [] (kX6_addFeeder_b12 g a z hi tx aj pj tj pt ke (nI n) (nI len) th re nu du ha q0 q1 q2 q3 q4 d0 d1 d2) gL_law_X6_addFeeder rfl (by show _ ∧ _ ∧ _ ∧ _ = some (5 : Nat); decide +kernel) ⟨(Nat.le_of_ble_eq_true rfl), (Nat.le_of_ble_eq_true rfl)⟩ (hc := (rfl : vwCl[6]? = some (RX6, TX6, 15))) 0 rfl pvM rfl (Nat.le_of_ble_eq_true rfl) ⟨(by have : rmL_addFeeder.cells ≤ 20 := Nat.le_of_ble_eq_true rfl; show kc + rmL_addFeeder.cells + 0 ≤ 601024; omega), (by have : rmL_addFeeder.slots ≤ 400 := Nat.le_of_ble_eq_true rfl; show nc + rmL_addFeeder.slots + 0 ≤ 7293034; omega)⟩ dL_law_232 MWm pvM.symm rfl rfl rfl ?_
      refine V.istore (lv2 := [(6, .int 0), (5, .int 1), (4, .int (nI i)), (3, .ref ob), (2, .ref (a 0)), (1, .ref o), (0, .ref sa)]) dL_law_235 (by decide) rfl ?_
      refine V.aload_n 4 rfl dL_law_237 rfl ?_
      refine V.callVPf (F := ((SCW g sa L sc) ++ (OB g ob ff)) ++ (GW g o b c u h x z y ai pa tu tx len s n sv)) (ws2 := (SCW g sa L sc) ++ (OB g ob ff) ++ (GW g o b c u h x z y ai pa tu tx len s n sv) ++ (MW g a z hi tx aj pj tj pt ke (nI n) (nI len) 1 re nu du ha)) (st2 := [.int 1]) [] [] (kX6_thrown g a z hi tx aj pj tj pt ke (nI n) (nI len) 1 re nu du ha) gL_law_X6_thrown rfl (by show _ ∧ _ ∧ _ ∧ _ = some (0 : Nat); decide +kernel) ⟨(Nat.le_of_ble_eq_true rfl), (Nat.le_of_ble_eq_true rfl)⟩ (hc := (rfl : vwCl[6]? = some (RX6, TX6, 15))) 0 rfl pvM rfl (Nat.le_of_ble_eq_true rfl) ⟨(by have : rmL_addFeeder.cells ≤ 20 := Nat.le_of_ble_eq_true rfl; show kc + rmL_addFeeder.cells + 0 ≤ 601024; omega), (by have : rmL_addFeeder.slots ≤ 400 := Nat.le_of_ble_eq_true rfl; show nc + rmL_addFeeder.slots + 0 ≤ 7293034; omega)⟩ dL_law_238 MWm pvM.symm rfl rfl rfl ?_
      refine V.iload 1 rfl dL_law_241 ?_
      refine V.icmp_eq_t (tgt := 248) rfl dL_law_243 (by decide) ?_
      refine V.iload 1 rfl dL_law_248 ?_
      refine V.if_ne_t (tgt := 265) (by decide) dL_law_250 (by decide) ?_
      refine V.goto (tgt := 1529) dL_law_265 (by decide) ?_
      refine V.eqlv (lv2 := [(4, .int (nI i)), (3, .ref ob), (2, .ref (a 0)), (1, .ref o), (0, .ref sa)]) [2, 3, 4, 5, 6] rfl ?_
      refine V.widen (k2 := kc + 20) (n2 := nc + 400) (by have : rmL_addFeeder.cells ≤ 20 := Nat.le_of_ble_eq_true rfl; show kc + rmL_addFeeder.cells ≤ kc + 20; omega) (by have : rmL_addFeeder.slots ≤ 400 := Nat.le_of_ble_eq_true rfl; show nc + rmL_addFeeder.slots ≤ nc + 400; omega) ?_
      exact hk _ _ _ _ _ _ _ _ _ _ _ _ _ _ _ _ _ _ _ _ _ _ ⟨hz.mo, hh.mo, hl, hT, hD⟩
    · skip
      refine V.perm (pvL (List.Perm.refl _)) ?_
      refine V.eqws (ws2 := (SCW g sa L sc) ++ (OB g ob ff) ++ (GW g o b c u h x z y ai pa tu tx len s n sv) ++ (MW g a z hi tx aj pj tj pt ke (nI n) (nI len) th re nu du ha)) rfl ?_
      rw [show (cd2 IAE ISE) IAE = 1 from by decide +kernel]
      refine V.eqst (st2 := [.int 1]) rfl ?_
      refine V.istore (lv2 := [(5, .int 1), (4, .int (nI i)), (3, .ref ob), (2, .ref (a 0)), (1, .ref o), (0, .ref sa)]) dL_law_199 (by decide) rfl ?_
      refine V.aload_n 3 rfl dL_law_201 rfl ?_
      refine V.aload_n 5 rfl dL_law_202 rfl ?_
      refine V.iload 1 rfl dL_law_203 ?_
      refine V.iconst (v := 1) dL_law_205 (by decide) ?_
      refine V.iaddN (v := nI (i + 1)) dL_law_206 (nI_add i 1) ?_
      refine V.ialdL (i + 1) (by omega) hL dL_law_207 ?_
      rw [hq0]
      refine V.aload_n 5 rfl dL_law_208 rfl ?_
      refine V.iload 1 rfl dL_law_209 ?_
      refine V.iconst (v := 2) dL_law_211 (by decide) ?_
      refine V.iaddN (v := nI (i + 2)) dL_law_212 (nI_add i 2) ?_
      refine V.ialdL (i + 2) (by omega) hL dL_law_213 ?_
      rw [hq1]
      refine V.aload_n 5 rfl dL_law_214 rfl ?_
      refine V.iload 1 rfl dL_law_215 ?_
      refine V.iconst (v := 3) dL_law_217 (by decide) ?_
      refine V.iaddN (v := nI (i + 3)) dL_law_218 (nI_add i 3) ?_
      refine V.ialdL (i + 3) (by omega) hL dL_law_219 ?_
      rw [hq2]
      refine V.aload_n 5 rfl dL_law_220 rfl ?_
      refine V.iload 1 rfl dL_law_221 ?_
      refine V.iconst (v := 4) dL_law_223 (by decide) ?_
      refine V.iaddN (v := nI (i + 4)) dL_law_224 (nI_add i 4) ?_
      refine V.ialdL (i + 4) (by omega) hL dL_law_225 ?_
      rw [hq3]
      refine V.aload_n 5 rfl dL_law_226 rfl ?_
      refine V.iload 1 rfl dL_law_227 ?_
      refine V.iconst (v := 5) dL_law_229 (by decide) ?_
      refine V.iaddN (v := nI (i + 5)) dL_law_230 (nI_add i 5) ?_
      refine V.ialdL (i + 5) (by omega) hL dL_law_231 ?_
      rw [hq4]
      refine V.callVPf (F := ((SCW g sa L sc) ++ (OB g ob ff)) ++ (GW g o b c u h x z y ai pa tu tx len s n sv)) (ws2 := (SCW g sa L sc) ++ (OB g ob ff) ++ (GW g o b c u h x z y ai pa tu tx len s n sv) ++ (MW g a z hi tx aj pj tj pt ke (nI n) (nI len) 1 re nu du ha)) (st2 := [.int 0]) [.int q0, .int q1, .int q2, .int q3, .int q4] [] (kX6_addFeeder_b13 g a z hi tx aj pj tj pt ke (nI n) (nI len) th re nu du ha q0 q1 q2 q3 q4 d0 d1 d2 d3) gL_law_X6_addFeeder rfl (by show _ ∧ _ ∧ _ ∧ _ = some (5 : Nat); decide +kernel) ⟨(Nat.le_of_ble_eq_true rfl), (Nat.le_of_ble_eq_true rfl)⟩ (hc := (rfl : vwCl[6]? = some (RX6, TX6, 15))) 0 rfl pvM rfl (Nat.le_of_ble_eq_true rfl) ⟨(by have : rmL_addFeeder.cells ≤ 20 := Nat.le_of_ble_eq_true rfl; show kc + rmL_addFeeder.cells + 0 ≤ 601024; omega), (by have : rmL_addFeeder.slots ≤ 400 := Nat.le_of_ble_eq_true rfl; show nc + rmL_addFeeder.slots + 0 ≤ 7293034; omega)⟩ dL_law_232 MWm pvM.symm rfl rfl rfl ?_
      refine V.istore (lv2 := [(6, .int 0), (5, .int 1), (4, .int (nI i)), (3, .ref ob), (2, .ref (a 0)), (1, .ref o), (0, .ref sa)]) dL_law_235 (by decide) rfl ?_
      refine V.aload_n 4 rfl dL_law_237 rfl ?_
      refine V.callVPf (F := ((SCW g sa L sc) ++ (OB g ob ff)) ++ (GW g o b c u h x z y ai pa tu tx len s n sv)) (ws2 := (SCW g sa L sc) ++ (OB g ob ff) ++ (GW g o b c u h x z y ai pa tu tx len s n sv) ++ (MW g a z hi tx aj pj tj pt ke (nI n) (nI len) 1 re nu du ha)) (st2 := [.int 1]) [] [] (kX6_thrown g a z hi tx aj pj tj pt ke (nI n) (nI len) 1 re nu du ha) gL_law_X6_thrown rfl (by show _ ∧ _ ∧ _ ∧ _ = some (0 : Nat); decide +kernel) ⟨(Nat.le_of_ble_eq_true rfl), (Nat.le_of_ble_eq_true rfl)⟩ (hc := (rfl : vwCl[6]? = some (RX6, TX6, 15))) 0 rfl pvM rfl (Nat.le_of_ble_eq_true rfl) ⟨(by have : rmL_addFeeder.cells ≤ 20 := Nat.le_of_ble_eq_true rfl; show kc + rmL_addFeeder.cells + 0 ≤ 601024; omega), (by have : rmL_addFeeder.slots ≤ 400 := Nat.le_of_ble_eq_true rfl; show nc + rmL_addFeeder.slots + 0 ≤ 7293034; omega)⟩ dL_law_238 MWm pvM.symm rfl rfl rfl ?_
      refine V.iload 1 rfl dL_law_241 ?_
      refine V.icmp_eq_t (tgt := 248) rfl dL_law_243 (by decide) ?_
      refine V.iload 1 rfl dL_law_248 ?_
      refine V.if_ne_t (tgt := 265) (by decide) dL_law_250 (by decide) ?_
      refine V.goto (tgt := 1529) dL_law_265 (by decide) ?_
      refine V.eqlv (lv2 := [(4, .int (nI i)), (3, .ref ob), (2, .ref (a 0)), (1, .ref o), (0, .ref sa)]) [2, 3, 4, 5, 6] rfl ?_
      refine V.widen (k2 := kc + 20) (n2 := nc + 400) (by have : rmL_addFeeder.cells ≤ 20 := Nat.le_of_ble_eq_true rfl; show kc + rmL_addFeeder.cells ≤ kc + 20; omega) (by have : rmL_addFeeder.slots ≤ 400 := Nat.le_of_ble_eq_true rfl; show nc + rmL_addFeeder.slots ≤ nc + 400; omega) ?_
      exact hk _ _ _ _ _ _ _ _ _ _ _ _ _ _ _ _ _ _ _ _ _ _ ⟨hz.mo, hh.mo, hl, hT, hD⟩
    · skip
      refine V.perm (pvL (List.Perm.refl _)) ?_
      refine V.eqws (ws2 := (SCW g sa L sc) ++ (OB g ob ff) ++ (GW g o b c u h x z y ai pa tu tx len s n sv) ++ (MW g a z hi tx aj pj tj pt ke (nI n) (nI len) th re nu du ha)) rfl ?_
      rw [show (cd2 IAE ISE) IAE = 1 from by decide +kernel]
      refine V.eqst (st2 := [.int 1]) rfl ?_
      refine V.istore (lv2 := [(5, .int 1), (4, .int (nI i)), (3, .ref ob), (2, .ref (a 0)), (1, .ref o), (0, .ref sa)]) dL_law_199 (by decide) rfl ?_
      refine V.aload_n 3 rfl dL_law_201 rfl ?_
      refine V.aload_n 5 rfl dL_law_202 rfl ?_
      refine V.iload 1 rfl dL_law_203 ?_
      refine V.iconst (v := 1) dL_law_205 (by decide) ?_
      refine V.iaddN (v := nI (i + 1)) dL_law_206 (nI_add i 1) ?_
      refine V.ialdL (i + 1) (by omega) hL dL_law_207 ?_
      rw [hq0]
      refine V.aload_n 5 rfl dL_law_208 rfl ?_
      refine V.iload 1 rfl dL_law_209 ?_
      refine V.iconst (v := 2) dL_law_211 (by decide) ?_
      refine V.iaddN (v := nI (i + 2)) dL_law_212 (nI_add i 2) ?_
      refine V.ialdL (i + 2) (by omega) hL dL_law_213 ?_
      rw [hq1]
      refine V.aload_n 5 rfl dL_law_214 rfl ?_
      refine V.iload 1 rfl dL_law_215 ?_
      refine V.iconst (v := 3) dL_law_217 (by decide) ?_
      refine V.iaddN (v := nI (i + 3)) dL_law_218 (nI_add i 3) ?_
      refine V.ialdL (i + 3) (by omega) hL dL_law_219 ?_
      rw [hq2]
      refine V.aload_n 5 rfl dL_law_220 rfl ?_
      refine V.iload 1 rfl dL_law_221 ?_
      refine V.iconst (v := 4) dL_law_223 (by decide) ?_
      refine V.iaddN (v := nI (i + 4)) dL_law_224 (nI_add i 4) ?_
      refine V.ialdL (i + 4) (by omega) hL dL_law_225 ?_
      rw [hq3]
      refine V.aload_n 5 rfl dL_law_226 rfl ?_
      refine V.iload 1 rfl dL_law_227 ?_
      refine V.iconst (v := 5) dL_law_229 (by decide) ?_
      refine V.iaddN (v := nI (i + 5)) dL_law_230 (nI_add i 5) ?_
      refine V.ialdL (i + 5) (by omega) hL dL_law_231 ?_
      rw [hq4]
      refine V.callVPf (F := ((SCW g sa L sc) ++ (OB g ob ff)) ++ (GW g o b c u h x z y ai pa tu tx len s n sv)) (ws2 := (SCW g sa L sc) ++ (OB g ob ff) ++ (GW g o b c u h x z y ai pa tu tx len s n sv) ++ (MW g a z hi tx aj pj tj pt ke (nI n) (nI len) 1 re nu du ha)) (st2 := [.int 0]) [.int q0, .int q1, .int q2, .int q3, .int q4] [] (kX6_addFeeder_b14 g a z hi tx aj pj tj pt ke (nI n) (nI len) th re nu du ha q0 q1 q2 q3 q4 d0 d1 d2 d3 d4) gL_law_X6_addFeeder rfl (by show _ ∧ _ ∧ _ ∧ _ = some (5 : Nat); decide +kernel) ⟨(Nat.le_of_ble_eq_true rfl), (Nat.le_of_ble_eq_true rfl)⟩ (hc := (rfl : vwCl[6]? = some (RX6, TX6, 15))) 0 rfl pvM rfl (Nat.le_of_ble_eq_true rfl) ⟨(by have : rmL_addFeeder.cells ≤ 20 := Nat.le_of_ble_eq_true rfl; show kc + rmL_addFeeder.cells + 0 ≤ 601024; omega), (by have : rmL_addFeeder.slots ≤ 400 := Nat.le_of_ble_eq_true rfl; show nc + rmL_addFeeder.slots + 0 ≤ 7293034; omega)⟩ dL_law_232 MWm pvM.symm rfl rfl rfl ?_
      refine V.istore (lv2 := [(6, .int 0), (5, .int 1), (4, .int (nI i)), (3, .ref ob), (2, .ref (a 0)), (1, .ref o), (0, .ref sa)]) dL_law_235 (by decide) rfl ?_
      refine V.aload_n 4 rfl dL_law_237 rfl ?_
      refine V.callVPf (F := ((SCW g sa L sc) ++ (OB g ob ff)) ++ (GW g o b c u h x z y ai pa tu tx len s n sv)) (ws2 := (SCW g sa L sc) ++ (OB g ob ff) ++ (GW g o b c u h x z y ai pa tu tx len s n sv) ++ (MW g a z hi tx aj pj tj pt ke (nI n) (nI len) 1 re nu du ha)) (st2 := [.int 1]) [] [] (kX6_thrown g a z hi tx aj pj tj pt ke (nI n) (nI len) 1 re nu du ha) gL_law_X6_thrown rfl (by show _ ∧ _ ∧ _ ∧ _ = some (0 : Nat); decide +kernel) ⟨(Nat.le_of_ble_eq_true rfl), (Nat.le_of_ble_eq_true rfl)⟩ (hc := (rfl : vwCl[6]? = some (RX6, TX6, 15))) 0 rfl pvM rfl (Nat.le_of_ble_eq_true rfl) ⟨(by have : rmL_addFeeder.cells ≤ 20 := Nat.le_of_ble_eq_true rfl; show kc + rmL_addFeeder.cells + 0 ≤ 601024; omega), (by have : rmL_addFeeder.slots ≤ 400 := Nat.le_of_ble_eq_true rfl; show nc + rmL_addFeeder.slots + 0 ≤ 7293034; omega)⟩ dL_law_238 MWm pvM.symm rfl rfl rfl ?_
      refine V.iload 1 rfl dL_law_241 ?_
      refine V.icmp_eq_t (tgt := 248) rfl dL_law_243 (by decide) ?_
      refine V.iload 1 rfl dL_law_248 ?_
      refine V.if_ne_t (tgt := 265) (by decide) dL_law_250 (by decide) ?_
      refine V.goto (tgt := 1529) dL_law_265 (by decide) ?_
      refine V.eqlv (lv2 := [(4, .int (nI i)), (3, .ref ob), (2, .ref (a 0)), (1, .ref o), (0, .ref sa)]) [2, 3, 4, 5, 6] rfl ?_
      refine V.widen (k2 := kc + 20) (n2 := nc + 400) (by have : rmL_addFeeder.cells ≤ 20 := Nat.le_of_ble_eq_true rfl; show kc + rmL_addFeeder.cells ≤ kc + 20; omega) (by have : rmL_addFeeder.slots ≤ 400 := Nat.le_of_ble_eq_true rfl; show nc + rmL_addFeeder.slots ≤ nc + 400; omega) ?_
      exact hk _ _ _ _ _ _ _ _ _ _ _ _ _ _ _ _ _ _ _ _ _ _ ⟨hz.mo, hh.mo, hl, hT, hD⟩
    · skip
      refine V.perm (pvL (List.Perm.refl _)) ?_
      refine V.eqws (ws2 := (SCW g sa L sc) ++ (OB g ob ff) ++ (GW g o b c u h x z y ai pa tu tx len s n sv) ++ (MW g a z hi tx aj pj tj pt ke (nI n) (nI len) th re nu du ha)) rfl ?_
      rw [show (cd2 IAE ISE) ISE = 2 from by decide +kernel]
      refine V.eqst (st2 := [.int 2]) rfl ?_
      refine V.istore (lv2 := [(5, .int 2), (4, .int (nI i)), (3, .ref ob), (2, .ref (a 0)), (1, .ref o), (0, .ref sa)]) dL_law_199 (by decide) rfl ?_
      refine V.aload_n 3 rfl dL_law_201 rfl ?_
      refine V.aload_n 5 rfl dL_law_202 rfl ?_
      refine V.iload 1 rfl dL_law_203 ?_
      refine V.iconst (v := 1) dL_law_205 (by decide) ?_
      refine V.iaddN (v := nI (i + 1)) dL_law_206 (nI_add i 1) ?_
      refine V.ialdL (i + 1) (by omega) hL dL_law_207 ?_
      rw [hq0]
      refine V.aload_n 5 rfl dL_law_208 rfl ?_
      refine V.iload 1 rfl dL_law_209 ?_
      refine V.iconst (v := 2) dL_law_211 (by decide) ?_
      refine V.iaddN (v := nI (i + 2)) dL_law_212 (nI_add i 2) ?_
      refine V.ialdL (i + 2) (by omega) hL dL_law_213 ?_
      rw [hq1]
      refine V.aload_n 5 rfl dL_law_214 rfl ?_
      refine V.iload 1 rfl dL_law_215 ?_
      refine V.iconst (v := 3) dL_law_217 (by decide) ?_
      refine V.iaddN (v := nI (i + 3)) dL_law_218 (nI_add i 3) ?_
      refine V.ialdL (i + 3) (by omega) hL dL_law_219 ?_
      rw [hq2]
      refine V.aload_n 5 rfl dL_law_220 rfl ?_
      refine V.iload 1 rfl dL_law_221 ?_
      refine V.iconst (v := 4) dL_law_223 (by decide) ?_
      refine V.iaddN (v := nI (i + 4)) dL_law_224 (nI_add i 4) ?_
      refine V.ialdL (i + 4) (by omega) hL dL_law_225 ?_
      rw [hq3]
      refine V.aload_n 5 rfl dL_law_226 rfl ?_
      refine V.iload 1 rfl dL_law_227 ?_
      refine V.iconst (v := 5) dL_law_229 (by decide) ?_
      refine V.iaddN (v := nI (i + 5)) dL_law_230 (nI_add i 5) ?_
      refine V.ialdL (i + 5) (by omega) hL dL_law_231 ?_
      rw [hq4]
      refine V.callVPf (F := ((SCW g sa L sc) ++ (OB g ob ff)) ++ (GW g o b c u h x z y ai pa tu tx len s n sv)) (ws2 := (SCW g sa L sc) ++ (OB g ob ff) ++ (GW g o b c u h x z y ai pa tu tx len s n sv) ++ (MW g a z hi tx aj pj tj pt ke (nI n) (nI len) 2 re nu du ha)) (st2 := [.int 0]) [.int q0, .int q1, .int q2, .int q3, .int q4] [] (kX6_addFeeder_b2 g a z hi tx aj pj tj pt ke (nI n) (nI len) th re nu du ha q0 q1 q2 q3 q4 d0 d1 d2 d3 d4 hF (by omega)) gL_law_X6_addFeeder rfl (by show _ ∧ _ ∧ _ ∧ _ = some (5 : Nat); decide +kernel) ⟨(Nat.le_of_ble_eq_true rfl), (Nat.le_of_ble_eq_true rfl)⟩ (hc := (rfl : vwCl[6]? = some (RX6, TX6, 15))) 0 rfl pvM rfl (Nat.le_of_ble_eq_true rfl) ⟨(by have : rmL_addFeeder.cells ≤ 20 := Nat.le_of_ble_eq_true rfl; show kc + rmL_addFeeder.cells + 0 ≤ 601024; omega), (by have : rmL_addFeeder.slots ≤ 400 := Nat.le_of_ble_eq_true rfl; show nc + rmL_addFeeder.slots + 0 ≤ 7293034; omega)⟩ dL_law_232 MWm pvM.symm rfl rfl rfl ?_
      refine V.istore (lv2 := [(6, .int 0), (5, .int 2), (4, .int (nI i)), (3, .ref ob), (2, .ref (a 0)), (1, .ref o), (0, .ref sa)]) dL_law_235 (by decide) rfl ?_
      refine V.aload_n 4 rfl dL_law_237 rfl ?_
      refine V.callVPf (F := ((SCW g sa L sc) ++ (OB g ob ff)) ++ (GW g o b c u h x z y ai pa tu tx len s n sv)) (ws2 := (SCW g sa L sc) ++ (OB g ob ff) ++ (GW g o b c u h x z y ai pa tu tx len s n sv) ++ (MW g a z hi tx aj pj tj pt ke (nI n) (nI len) 2 re nu du ha)) (st2 := [.int 2]) [] [] (kX6_thrown g a z hi tx aj pj tj pt ke (nI n) (nI len) 2 re nu du ha) gL_law_X6_thrown rfl (by show _ ∧ _ ∧ _ ∧ _ = some (0 : Nat); decide +kernel) ⟨(Nat.le_of_ble_eq_true rfl), (Nat.le_of_ble_eq_true rfl)⟩ (hc := (rfl : vwCl[6]? = some (RX6, TX6, 15))) 0 rfl pvM rfl (Nat.le_of_ble_eq_true rfl) ⟨(by have : rmL_addFeeder.cells ≤ 20 := Nat.le_of_ble_eq_true rfl; show kc + rmL_addFeeder.cells + 0 ≤ 601024; omega), (by have : rmL_addFeeder.slots ≤ 400 := Nat.le_of_ble_eq_true rfl; show nc + rmL_addFeeder.slots + 0 ≤ 7293034; omega)⟩ dL_law_238 MWm pvM.symm rfl rfl rfl ?_
      refine V.iload 1 rfl dL_law_241 ?_
      refine V.icmp_eq_t (tgt := 248) rfl dL_law_243 (by decide) ?_
      refine V.iload 1 rfl dL_law_248 ?_
      refine V.if_ne_t (tgt := 265) (by decide) dL_law_250 (by decide) ?_
      refine V.goto (tgt := 1529) dL_law_265 (by decide) ?_
      refine V.eqlv (lv2 := [(4, .int (nI i)), (3, .ref ob), (2, .ref (a 0)), (1, .ref o), (0, .ref sa)]) [2, 3, 4, 5, 6] rfl ?_
      refine V.widen (k2 := kc + 20) (n2 := nc + 400) (by have : rmL_addFeeder.cells ≤ 20 := Nat.le_of_ble_eq_true rfl; show kc + rmL_addFeeder.cells ≤ kc + 20; omega) (by have : rmL_addFeeder.slots ≤ 400 := Nat.le_of_ble_eq_true rfl; show nc + rmL_addFeeder.slots ≤ nc + 400; omega) ?_
      exact hk _ _ _ _ _ _ _ _ _ _ _ _ _ _ _ _ _ _ _ _ _ _ ⟨hz.mo, hh.mo, hl, hT, hD⟩
set_option maxHeartbeats 4000000 in
set_option maxRecDepth 100000 in
theorem cs_addPlace (g : GT) (hst : g.1.stackTraces = false) (QF : QT) (sa ob o : Nat) (b c u h x a : Nat → Nat) (L i K : Nat) (sc : Nat → Int32) (kc nc : Nat) (hkc : kc + 20 ≤ 601024) (hnc : nc + 400 ≤ 7293034) (hiL : i + 6 ≤ L) (hL : L < 2147483648) (hK : K ≤ 590) (ff : Nat → Int64) (z y ai pa tu tx : Nat → Int32) (len : Nat) (s : BS) (n : Nat) (sv : SV) (hi aj pj tj pt ke : Nat → Int32) (th re nu du : Int32) (ha : Int64) (hI : LI K z n sv hi tx len s) (hk : ∀ (ff : Nat → Int64) (z y ai pa tu tx : Nat → Int32) (len : Nat) (s : BS) (n : Nat) (sv : SV) (hi aj pj tj pt ke : Nat → Int32) (th re nu du : Int32) (ha : Int64), LI (K + 1) z n sv hi tx len s → V g rmL_law RL cL_law wsL_law 9 QF (XL sa L sc) (kc + 20) (nc + 400) (SCW g sa L sc ++ OB g ob ff ++ GW g o b c u h x z y ai pa tu tx len s n sv ++ MW g a z hi tx aj pj tj pt ke (nI n) (nI len) th re nu du ha) 1529 [(4, .int (nI i)), (3, .ref ob), (2, .ref (a 0)), (1, .ref o), (0, .ref sa)] []) : V g rmL_law RL cL_law wsL_law 9 QF (XL sa L sc) kc nc ((SCW g sa L sc) ++ (OB g ob ff) ++ (GW g o b c u h x z y ai pa tu tx len s n sv) ++ (MW g a z hi tx aj pj tj pt ke (nI n) (nI len) th re nu du ha)) 268 [(4, .int (nI i)), (3, .ref ob), (2, .ref (a 0)), (1, .ref o), (0, .ref sa)] [] := by
  obtain ⟨hz, hh, hl, hT, hD⟩ := hI
  have hV : TV z := hz.1
  have hF : z 5 = nI (nf z) := hV.1.1
  have hF8 : nf z ≤ 8 := hV.nf
  have hP : z 6 = nI (np z) := hV.1.2.2.1
  have hP24 : np z ≤ 24 := hV.np
  have hn6 : n ≤ 6 := hh.1
  have hnl : n ≤ sv.length := hh.2.1
  have hl6 : sv.length ≤ 6 := hh.2.2.1
  obtain ⟨q0, hq0⟩ : ∃ q, sc (i + 1) = q := ⟨_, rfl⟩
  obtain ⟨q1, hq1⟩ : ∃ q, sc (i + 2) = q := ⟨_, rfl⟩
  refine V.aload_n 3 rfl dL_law_268 rfl ?_
  refine V.aload_n 4 rfl dL_law_269 rfl ?_
  refine V.iload 0 rfl dL_law_270 ?_
  refine V.iconst (v := 1) dL_law_272 (by decide) ?_
  refine V.iaddN (v := nI (i + 1)) dL_law_273 (nI_add i 1) ?_
  refine V.ialdL (i + 1) (by omega) hL dL_law_274 ?_
  rw [hq0]
  refine V.aload_n 4 rfl dL_law_275 rfl ?_
  refine V.iload 0 rfl dL_law_276 ?_
  refine V.iconst (v := 2) dL_law_278 (by decide) ?_
  refine V.iaddN (v := nI (i + 2)) dL_law_279 (nI_add i 2) ?_
  refine V.ialdL (i + 2) (by omega) hL dL_law_280 ?_
  rw [hq1]
  refine V.aload_n 1 rfl dL_law_281 rfl ?_
  have hM := kX5_addPlace g hst o b c u h x z y ai pa tu tx len s n sv q0 q1 hP hP24 hn6 hnl hl6
  refine V.callSHP (F := (SCW g sa L sc) ++ (MW g a z hi tx aj pj tj pt ke (nI n) (nI len) th re nu du ha)) [.ref o, .int q0, .int q1, .ref ob] [] (kL_addPlace g (GW g o b c u h x z y ai pa tu tx len s n sv) o ob q0 q1 ff rfl hM (fun v w q => by obtain ⟨_, e, sv2, hs, hG⟩ := q; exact ⟨_, e⟩) (fun v w q => by obtain ⟨_, e, sv2, hs, hG⟩ := q; exact hG.1) (fun E w q => by rw [q.1]; exact FST.rf) (fun E w q => by (rcases q.2 with ⟨d0, q⟩ | ⟨d0, d1, q⟩ | ⟨d0, d1, d2, q⟩ <;> first | exact q | exact Or.inl q | exact Or.inr q | exact Or.inr (Or.inl q) | exact Or.inr (Or.inr q)))) gL_law_L_addPlace rfl (by show _ ∧ _ ∧ _ = some (4 : Nat); decide +kernel) ⟨(Nat.le_of_ble_eq_true rfl), (Nat.le_of_ble_eq_true rfl)⟩ pvW rfl (Nat.le_of_ble_eq_true rfl) ⟨(by have : rmL_addPlace.cells ≤ 20 := Nat.le_of_ble_eq_true rfl; show kc + rmL_addPlace.cells ≤ 601024; omega), (by have : rmL_addPlace.slots ≤ 400 := Nat.le_of_ble_eq_true rfl; show nc + rmL_addPlace.slots ≤ 7293034; omega)⟩ dL_law_282 (LQ.fst (fun v w q => by obtain ⟨_, e, sv2, hs, hG⟩ := q; exact hG.1) (fun E w q => by rw [q.1]; exact FST.rf)) (fun v w hq => ?_)
  rcases hq with ⟨r, w1, hQ1, rfl, rfl⟩ | ⟨E, w1, hX1, rfl, rfl⟩
  · skip
    obtain ⟨⟨d0, d1, d2⟩, e, sv2, hs, hG⟩ := hQ1
    injection e with e; injection e with e; subst e
    refine V.perm (pvL hG.2.symm) ?_
    refine V.eqws (ws2 := (SCW g sa L sc) ++ (OB g ob (vp_updL ff 0 (nI (np z)).toInt64)) ++ (GW g o b c u h x (apA z q0 q1) y ai pa tu tx len s (svM n + 1) sv2) ++ (MW g a z hi tx aj pj tj pt ke (nI n) (nI len) th re nu du ha)) rfl ?_
    refine V.eqst (st2 := [.int 0]) rfl ?_
    refine V.istore (lv2 := [(5, .int 0), (4, .int (nI i)), (3, .ref ob), (2, .ref (a 0)), (1, .ref o), (0, .ref sa)]) dL_law_285 (by decide) rfl ?_
    refine V.aload_n 3 rfl dL_law_287 rfl ?_
    refine V.aload_n 5 rfl dL_law_288 rfl ?_
    refine V.iload 1 rfl dL_law_289 ?_
    refine V.iconst (v := 1) dL_law_291 (by decide) ?_
    refine V.iaddN (v := nI (i + 1)) dL_law_292 (nI_add i 1) ?_
    refine V.ialdL (i + 1) (by omega) hL dL_law_293 ?_
    rw [hq0]
    refine V.aload_n 5 rfl dL_law_294 rfl ?_
    refine V.iload 1 rfl dL_law_295 ?_
    refine V.iconst (v := 2) dL_law_297 (by decide) ?_
    refine V.iaddN (v := nI (i + 2)) dL_law_298 (nI_add i 2) ?_
    refine V.ialdL (i + 2) (by omega) hL dL_law_299 ?_
    rw [hq1]
    refine V.callVPf (F := ((SCW g sa L sc) ++ (OB g ob (vp_updL ff 0 (nI (np z)).toInt64))) ++ (GW g o b c u h x (apA z q0 q1) y ai pa tu tx len s (svM n + 1) sv2)) (ws2 := (SCW g sa L sc) ++ (OB g ob (vp_updL ff 0 (nI (np z)).toInt64)) ++ (GW g o b c u h x (apA z q0 q1) y ai pa tu tx len s (svM n + 1) sv2) ++ (MW g a (apA z q0 q1) (svA n z hi) tx aj pj tj pt ke (nI (svM n + 1)) (nI len) 0 re nu du ha)) (st2 := [.int (nI (np z))]) [.int q0, .int q1] [] (kX6_addPlace_ok g a z hi tx aj pj tj pt ke (nI len) th re nu du ha q0 q1 n d0 d1 hP d2 hn6) gL_law_X6_addPlace rfl (by show _ ∧ _ ∧ _ ∧ _ = some (2 : Nat); decide +kernel) ⟨(Nat.le_of_ble_eq_true rfl), (Nat.le_of_ble_eq_true rfl)⟩ (hc := (rfl : vwCl[6]? = some (RX6, TX6, 15))) 0 rfl pvM rfl (Nat.le_of_ble_eq_true rfl) ⟨(by have : rmL_addPlace.cells ≤ 20 := Nat.le_of_ble_eq_true rfl; show kc + rmL_addPlace.cells + 0 ≤ 601024; omega), (by have : rmL_addPlace.slots ≤ 400 := Nat.le_of_ble_eq_true rfl; show nc + rmL_addPlace.slots + 0 ≤ 7293034; omega)⟩ dL_law_300 MWm pvM.symm rfl rfl rfl ?_
    refine V.istore (lv2 := [(6, .int (nI (np z))), (5, .int 0), (4, .int (nI i)), (3, .ref ob), (2, .ref (a 0)), (1, .ref o), (0, .ref sa)]) dL_law_303 (by decide) rfl ?_
    refine V.aload_n 4 rfl dL_law_305 rfl ?_
    refine V.callVPf (F := ((SCW g sa L sc) ++ (OB g ob (vp_updL ff 0 (nI (np z)).toInt64))) ++ (GW g o b c u h x (apA z q0 q1) y ai pa tu tx len s (svM n + 1) sv2)) (ws2 := (SCW g sa L sc) ++ (OB g ob (vp_updL ff 0 (nI (np z)).toInt64)) ++ (GW g o b c u h x (apA z q0 q1) y ai pa tu tx len s (svM n + 1) sv2) ++ (MW g a (apA z q0 q1) (svA n z hi) tx aj pj tj pt ke (nI (svM n + 1)) (nI len) 0 re nu du ha)) (st2 := [.int 0]) [] [] (kX6_thrown g a (apA z q0 q1) (svA n z hi) tx aj pj tj pt ke (nI (svM n + 1)) (nI len) 0 re nu du ha) gL_law_X6_thrown rfl (by show _ ∧ _ ∧ _ ∧ _ = some (0 : Nat); decide +kernel) ⟨(Nat.le_of_ble_eq_true rfl), (Nat.le_of_ble_eq_true rfl)⟩ (hc := (rfl : vwCl[6]? = some (RX6, TX6, 15))) 0 rfl pvM rfl (Nat.le_of_ble_eq_true rfl) ⟨(by have : rmL_addPlace.cells ≤ 20 := Nat.le_of_ble_eq_true rfl; show kc + rmL_addPlace.cells + 0 ≤ 601024; omega), (by have : rmL_addPlace.slots ≤ 400 := Nat.le_of_ble_eq_true rfl; show nc + rmL_addPlace.slots + 0 ≤ 7293034; omega)⟩ dL_law_306 MWm pvM.symm rfl rfl rfl ?_
    refine V.iload 1 rfl dL_law_309 ?_
    refine V.icmp_eq_t (tgt := 316) rfl dL_law_311 (by decide) ?_
    refine V.iload 1 rfl dL_law_316 ?_
    refine V.if_ne_f (tgt := 333) rfl dL_law_318 (by decide) ?_
    refine V.aload_n 3 rfl dL_law_321 rfl ?_
    refine V.iconst (v := 0) dL_law_322 (by decide) ?_
    refine V.lald (f := vp_updL ff 0 (nI (np z)).toInt64) 0 0 rfl rfl (by decide) (by decide) dL_law_323 ?_
    refine V.eqst (st2 := [.long (nI (np z)).toInt64]) rfl ?_
    refine V.iload 0 rfl dL_law_324 ?_
    refine V.i2l dL_law_326 ?_
    refine V.lcmp dL_law_327 ?_
    refine V.eqst (st2 := [.int 0]) (by rw [cmp_0] <;> rfl) ?_
    refine V.if_eq_t (tgt := 333) (by decide) dL_law_328 (by decide) ?_
    refine V.goto (tgt := 1529) dL_law_333 (by decide) ?_
    refine V.eqlv (lv2 := [(4, .int (nI i)), (3, .ref ob), (2, .ref (a 0)), (1, .ref o), (0, .ref sa)]) [2, 3, 4, 5, 6] rfl ?_
    refine V.widen (k2 := kc + 20) (n2 := nc + 400) (by have : rmL_addPlace.cells ≤ 20 := Nat.le_of_ble_eq_true rfl; show kc + rmL_addPlace.cells ≤ kc + 20; omega) (by have : rmL_addPlace.slots ≤ 400 := Nat.le_of_ble_eq_true rfl; show nc + rmL_addPlace.slots ≤ nc + 400; omega) ?_
    exact hk _ _ _ _ _ _ _ _ _ _ _ _ _ _ _ _ _ _ _ _ _ _ ⟨(hz.ap d2 (wi_IN d0) (wi_nat d1 (show (5 : Int32) = nI 6 - 1 from by decide) (by decide) (by decide))).mo, (hh.save hz hs).mo, hl, hT, hD⟩
  · skip
    obtain ⟨rfl, hX1⟩ := hX1
    rcases hX1 with ⟨d0, rfl⟩ | ⟨d0, d1, rfl⟩ | ⟨d0, d1, d2, rfl⟩
    · skip
      refine V.perm (pvL (List.Perm.refl _)) ?_
      refine V.eqws (ws2 := (SCW g sa L sc) ++ (OB g ob ff) ++ (GW g o b c u h x z y ai pa tu tx len s n sv) ++ (MW g a z hi tx aj pj tj pt ke (nI n) (nI len) th re nu du ha)) rfl ?_
      rw [show (cd2 IAE ISE) IAE = 1 from by decide +kernel]
      refine V.eqst (st2 := [.int 1]) rfl ?_
      refine V.istore (lv2 := [(5, .int 1), (4, .int (nI i)), (3, .ref ob), (2, .ref (a 0)), (1, .ref o), (0, .ref sa)]) dL_law_285 (by decide) rfl ?_
      refine V.aload_n 3 rfl dL_law_287 rfl ?_
      refine V.aload_n 5 rfl dL_law_288 rfl ?_
      refine V.iload 1 rfl dL_law_289 ?_
      refine V.iconst (v := 1) dL_law_291 (by decide) ?_
      refine V.iaddN (v := nI (i + 1)) dL_law_292 (nI_add i 1) ?_
      refine V.ialdL (i + 1) (by omega) hL dL_law_293 ?_
      rw [hq0]
      refine V.aload_n 5 rfl dL_law_294 rfl ?_
      refine V.iload 1 rfl dL_law_295 ?_
      refine V.iconst (v := 2) dL_law_297 (by decide) ?_
      refine V.iaddN (v := nI (i + 2)) dL_law_298 (nI_add i 2) ?_
      refine V.ialdL (i + 2) (by omega) hL dL_law_299 ?_
      rw [hq1]
      refine V.callVPf (F := ((SCW g sa L sc) ++ (OB g ob ff)) ++ (GW g o b c u h x z y ai pa tu tx len s n sv)) (ws2 := (SCW g sa L sc) ++ (OB g ob ff) ++ (GW g o b c u h x z y ai pa tu tx len s n sv) ++ (MW g a z hi tx aj pj tj pt ke (nI n) (nI len) 1 re nu du ha)) (st2 := [.int 0]) [.int q0, .int q1] [] (kX6_addPlace_b10 g a z hi tx aj pj tj pt ke (nI n) (nI len) th re nu du ha q0 q1 d0) gL_law_X6_addPlace rfl (by show _ ∧ _ ∧ _ ∧ _ = some (2 : Nat); decide +kernel) ⟨(Nat.le_of_ble_eq_true rfl), (Nat.le_of_ble_eq_true rfl)⟩ (hc := (rfl : vwCl[6]? = some (RX6, TX6, 15))) 0 rfl pvM rfl (Nat.le_of_ble_eq_true rfl) ⟨(by have : rmL_addPlace.cells ≤ 20 := Nat.le_of_ble_eq_true rfl; show kc + rmL_addPlace.cells + 0 ≤ 601024; omega), (by have : rmL_addPlace.slots ≤ 400 := Nat.le_of_ble_eq_true rfl; show nc + rmL_addPlace.slots + 0 ≤ 7293034; omega)⟩ dL_law_300 MWm pvM.symm rfl rfl rfl ?_
      refine V.istore (lv2 := [(6, .int 0), (5, .int 1), (4, .int (nI i)), (3, .ref ob), (2, .ref (a 0)), (1, .ref o), (0, .ref sa)]) dL_law_303 (by decide) rfl ?_
      refine V.aload_n 4 rfl dL_law_305 rfl ?_
      refine V.callVPf (F := ((SCW g sa L sc) ++ (OB g ob ff)) ++ (GW g o b c u h x z y ai pa tu tx len s n sv)) (ws2 := (SCW g sa L sc) ++ (OB g ob ff) ++ (GW g o b c u h x z y ai pa tu tx len s n sv) ++ (MW g a z hi tx aj pj tj pt ke (nI n) (nI len) 1 re nu du ha)) (st2 := [.int 1]) [] [] (kX6_thrown g a z hi tx aj pj tj pt ke (nI n) (nI len) 1 re nu du ha) gL_law_X6_thrown rfl (by show _ ∧ _ ∧ _ ∧ _ = some (0 : Nat); decide +kernel) ⟨(Nat.le_of_ble_eq_true rfl), (Nat.le_of_ble_eq_true rfl)⟩ (hc := (rfl : vwCl[6]? = some (RX6, TX6, 15))) 0 rfl pvM rfl (Nat.le_of_ble_eq_true rfl) ⟨(by have : rmL_addPlace.cells ≤ 20 := Nat.le_of_ble_eq_true rfl; show kc + rmL_addPlace.cells + 0 ≤ 601024; omega), (by have : rmL_addPlace.slots ≤ 400 := Nat.le_of_ble_eq_true rfl; show nc + rmL_addPlace.slots + 0 ≤ 7293034; omega)⟩ dL_law_306 MWm pvM.symm rfl rfl rfl ?_
      refine V.iload 1 rfl dL_law_309 ?_
      refine V.icmp_eq_t (tgt := 316) rfl dL_law_311 (by decide) ?_
      refine V.iload 1 rfl dL_law_316 ?_
      refine V.if_ne_t (tgt := 333) (by decide) dL_law_318 (by decide) ?_
      refine V.goto (tgt := 1529) dL_law_333 (by decide) ?_
      refine V.eqlv (lv2 := [(4, .int (nI i)), (3, .ref ob), (2, .ref (a 0)), (1, .ref o), (0, .ref sa)]) [2, 3, 4, 5, 6] rfl ?_
      refine V.widen (k2 := kc + 20) (n2 := nc + 400) (by have : rmL_addPlace.cells ≤ 20 := Nat.le_of_ble_eq_true rfl; show kc + rmL_addPlace.cells ≤ kc + 20; omega) (by have : rmL_addPlace.slots ≤ 400 := Nat.le_of_ble_eq_true rfl; show nc + rmL_addPlace.slots ≤ nc + 400; omega) ?_
      exact hk _ _ _ _ _ _ _ _ _ _ _ _ _ _ _ _ _ _ _ _ _ _ ⟨hz.mo, hh.mo, hl, hT, hD⟩
    · skip
      refine V.perm (pvL (List.Perm.refl _)) ?_
      refine V.eqws (ws2 := (SCW g sa L sc) ++ (OB g ob ff) ++ (GW g o b c u h x z y ai pa tu tx len s n sv) ++ (MW g a z hi tx aj pj tj pt ke (nI n) (nI len) th re nu du ha)) rfl ?_
      rw [show (cd2 IAE ISE) IAE = 1 from by decide +kernel]
      refine V.eqst (st2 := [.int 1]) rfl ?_
      refine V.istore (lv2 := [(5, .int 1), (4, .int (nI i)), (3, .ref ob), (2, .ref (a 0)), (1, .ref o), (0, .ref sa)]) dL_law_285 (by decide) rfl ?_
      refine V.aload_n 3 rfl dL_law_287 rfl ?_
      refine V.aload_n 5 rfl dL_law_288 rfl ?_
      refine V.iload 1 rfl dL_law_289 ?_
      refine V.iconst (v := 1) dL_law_291 (by decide) ?_
      refine V.iaddN (v := nI (i + 1)) dL_law_292 (nI_add i 1) ?_
      refine V.ialdL (i + 1) (by omega) hL dL_law_293 ?_
      rw [hq0]
      refine V.aload_n 5 rfl dL_law_294 rfl ?_
      refine V.iload 1 rfl dL_law_295 ?_
      refine V.iconst (v := 2) dL_law_297 (by decide) ?_
      refine V.iaddN (v := nI (i + 2)) dL_law_298 (nI_add i 2) ?_
      refine V.ialdL (i + 2) (by omega) hL dL_law_299 ?_
      rw [hq1]
      refine V.callVPf (F := ((SCW g sa L sc) ++ (OB g ob ff)) ++ (GW g o b c u h x z y ai pa tu tx len s n sv)) (ws2 := (SCW g sa L sc) ++ (OB g ob ff) ++ (GW g o b c u h x z y ai pa tu tx len s n sv) ++ (MW g a z hi tx aj pj tj pt ke (nI n) (nI len) 1 re nu du ha)) (st2 := [.int 0]) [.int q0, .int q1] [] (kX6_addPlace_b11 g a z hi tx aj pj tj pt ke (nI n) (nI len) th re nu du ha q0 q1 d0 d1) gL_law_X6_addPlace rfl (by show _ ∧ _ ∧ _ ∧ _ = some (2 : Nat); decide +kernel) ⟨(Nat.le_of_ble_eq_true rfl), (Nat.le_of_ble_eq_true rfl)⟩ (hc := (rfl : vwCl[6]? = some (RX6, TX6, 15))) 0 rfl pvM rfl (Nat.le_of_ble_eq_true rfl) ⟨(by have : rmL_addPlace.cells ≤ 20 := Nat.le_of_ble_eq_true rfl; show kc + rmL_addPlace.cells + 0 ≤ 601024; omega), (by have : rmL_addPlace.slots ≤ 400 := Nat.le_of_ble_eq_true rfl; show nc + rmL_addPlace.slots + 0 ≤ 7293034; omega)⟩ dL_law_300 MWm pvM.symm rfl rfl rfl ?_
      refine V.istore (lv2 := [(6, .int 0), (5, .int 1), (4, .int (nI i)), (3, .ref ob), (2, .ref (a 0)), (1, .ref o), (0, .ref sa)]) dL_law_303 (by decide) rfl ?_
      refine V.aload_n 4 rfl dL_law_305 rfl ?_
      refine V.callVPf (F := ((SCW g sa L sc) ++ (OB g ob ff)) ++ (GW g o b c u h x z y ai pa tu tx len s n sv)) (ws2 := (SCW g sa L sc) ++ (OB g ob ff) ++ (GW g o b c u h x z y ai pa tu tx len s n sv) ++ (MW g a z hi tx aj pj tj pt ke (nI n) (nI len) 1 re nu du ha)) (st2 := [.int 1]) [] [] (kX6_thrown g a z hi tx aj pj tj pt ke (nI n) (nI len) 1 re nu du ha) gL_law_X6_thrown rfl (by show _ ∧ _ ∧ _ ∧ _ = some (0 : Nat); decide +kernel) ⟨(Nat.le_of_ble_eq_true rfl), (Nat.le_of_ble_eq_true rfl)⟩ (hc := (rfl : vwCl[6]? = some (RX6, TX6, 15))) 0 rfl pvM rfl (Nat.le_of_ble_eq_true rfl) ⟨(by have : rmL_addPlace.cells ≤ 20 := Nat.le_of_ble_eq_true rfl; show kc + rmL_addPlace.cells + 0 ≤ 601024; omega), (by have : rmL_addPlace.slots ≤ 400 := Nat.le_of_ble_eq_true rfl; show nc + rmL_addPlace.slots + 0 ≤ 7293034; omega)⟩ dL_law_306 MWm pvM.symm rfl rfl rfl ?_
      refine V.iload 1 rfl dL_law_309 ?_
      refine V.icmp_eq_t (tgt := 316) rfl dL_law_311 (by decide) ?_
      refine V.iload 1 rfl dL_law_316 ?_
      refine V.if_ne_t (tgt := 333) (by decide) dL_law_318 (by decide) ?_
      refine V.goto (tgt := 1529) dL_law_333 (by decide) ?_
      refine V.eqlv (lv2 := [(4, .int (nI i)), (3, .ref ob), (2, .ref (a 0)), (1, .ref o), (0, .ref sa)]) [2, 3, 4, 5, 6] rfl ?_
      refine V.widen (k2 := kc + 20) (n2 := nc + 400) (by have : rmL_addPlace.cells ≤ 20 := Nat.le_of_ble_eq_true rfl; show kc + rmL_addPlace.cells ≤ kc + 20; omega) (by have : rmL_addPlace.slots ≤ 400 := Nat.le_of_ble_eq_true rfl; show nc + rmL_addPlace.slots ≤ nc + 400; omega) ?_
      exact hk _ _ _ _ _ _ _ _ _ _ _ _ _ _ _ _ _ _ _ _ _ _ ⟨hz.mo, hh.mo, hl, hT, hD⟩
    · skip
      refine V.perm (pvL (List.Perm.refl _)) ?_
      refine V.eqws (ws2 := (SCW g sa L sc) ++ (OB g ob ff) ++ (GW g o b c u h x z y ai pa tu tx len s n sv) ++ (MW g a z hi tx aj pj tj pt ke (nI n) (nI len) th re nu du ha)) rfl ?_
      rw [show (cd2 IAE ISE) ISE = 2 from by decide +kernel]
      refine V.eqst (st2 := [.int 2]) rfl ?_
      refine V.istore (lv2 := [(5, .int 2), (4, .int (nI i)), (3, .ref ob), (2, .ref (a 0)), (1, .ref o), (0, .ref sa)]) dL_law_285 (by decide) rfl ?_
      refine V.aload_n 3 rfl dL_law_287 rfl ?_
      refine V.aload_n 5 rfl dL_law_288 rfl ?_
      refine V.iload 1 rfl dL_law_289 ?_
      refine V.iconst (v := 1) dL_law_291 (by decide) ?_
      refine V.iaddN (v := nI (i + 1)) dL_law_292 (nI_add i 1) ?_
      refine V.ialdL (i + 1) (by omega) hL dL_law_293 ?_
      rw [hq0]
      refine V.aload_n 5 rfl dL_law_294 rfl ?_
      refine V.iload 1 rfl dL_law_295 ?_
      refine V.iconst (v := 2) dL_law_297 (by decide) ?_
      refine V.iaddN (v := nI (i + 2)) dL_law_298 (nI_add i 2) ?_
      refine V.ialdL (i + 2) (by omega) hL dL_law_299 ?_
      rw [hq1]
      refine V.callVPf (F := ((SCW g sa L sc) ++ (OB g ob ff)) ++ (GW g o b c u h x z y ai pa tu tx len s n sv)) (ws2 := (SCW g sa L sc) ++ (OB g ob ff) ++ (GW g o b c u h x z y ai pa tu tx len s n sv) ++ (MW g a z hi tx aj pj tj pt ke (nI n) (nI len) 2 re nu du ha)) (st2 := [.int 0]) [.int q0, .int q1] [] (kX6_addPlace_b2 g a z hi tx aj pj tj pt ke (nI n) (nI len) th re nu du ha q0 q1 d0 d1 hP (by omega)) gL_law_X6_addPlace rfl (by show _ ∧ _ ∧ _ ∧ _ = some (2 : Nat); decide +kernel) ⟨(Nat.le_of_ble_eq_true rfl), (Nat.le_of_ble_eq_true rfl)⟩ (hc := (rfl : vwCl[6]? = some (RX6, TX6, 15))) 0 rfl pvM rfl (Nat.le_of_ble_eq_true rfl) ⟨(by have : rmL_addPlace.cells ≤ 20 := Nat.le_of_ble_eq_true rfl; show kc + rmL_addPlace.cells + 0 ≤ 601024; omega), (by have : rmL_addPlace.slots ≤ 400 := Nat.le_of_ble_eq_true rfl; show nc + rmL_addPlace.slots + 0 ≤ 7293034; omega)⟩ dL_law_300 MWm pvM.symm rfl rfl rfl ?_
      refine V.istore (lv2 := [(6, .int 0), (5, .int 2), (4, .int (nI i)), (3, .ref ob), (2, .ref (a 0)), (1, .ref o), (0, .ref sa)]) dL_law_303 (by decide) rfl ?_
      refine V.aload_n 4 rfl dL_law_305 rfl ?_
      refine V.callVPf (F := ((SCW g sa L sc) ++ (OB g ob ff)) ++ (GW g o b c u h x z y ai pa tu tx len s n sv)) (ws2 := (SCW g sa L sc) ++ (OB g ob ff) ++ (GW g o b c u h x z y ai pa tu tx len s n sv) ++ (MW g a z hi tx aj pj tj pt ke (nI n) (nI len) 2 re nu du ha)) (st2 := [.int 2]) [] [] (kX6_thrown g a z hi tx aj pj tj pt ke (nI n) (nI len) 2 re nu du ha) gL_law_X6_thrown rfl (by show _ ∧ _ ∧ _ ∧ _ = some (0 : Nat); decide +kernel) ⟨(Nat.le_of_ble_eq_true rfl), (Nat.le_of_ble_eq_true rfl)⟩ (hc := (rfl : vwCl[6]? = some (RX6, TX6, 15))) 0 rfl pvM rfl (Nat.le_of_ble_eq_true rfl) ⟨(by have : rmL_addPlace.cells ≤ 20 := Nat.le_of_ble_eq_true rfl; show kc + rmL_addPlace.cells + 0 ≤ 601024; omega), (by have : rmL_addPlace.slots ≤ 400 := Nat.le_of_ble_eq_true rfl; show nc + rmL_addPlace.slots + 0 ≤ 7293034; omega)⟩ dL_law_306 MWm pvM.symm rfl rfl rfl ?_
      refine V.iload 1 rfl dL_law_309 ?_
      refine V.icmp_eq_t (tgt := 316) rfl dL_law_311 (by decide) ?_
      refine V.iload 1 rfl dL_law_316 ?_
      refine V.if_ne_t (tgt := 333) (by decide) dL_law_318 (by decide) ?_
      refine V.goto (tgt := 1529) dL_law_333 (by decide) ?_
      refine V.eqlv (lv2 := [(4, .int (nI i)), (3, .ref ob), (2, .ref (a 0)), (1, .ref o), (0, .ref sa)]) [2, 3, 4, 5, 6] rfl ?_
      refine V.widen (k2 := kc + 20) (n2 := nc + 400) (by have : rmL_addPlace.cells ≤ 20 := Nat.le_of_ble_eq_true rfl; show kc + rmL_addPlace.cells ≤ kc + 20; omega) (by have : rmL_addPlace.slots ≤ 400 := Nat.le_of_ble_eq_true rfl; show nc + rmL_addPlace.slots ≤ nc + 400; omega) ?_
      exact hk _ _ _ _ _ _ _ _ _ _ _ _ _ _ _ _ _ _ _ _ _ _ ⟨hz.mo, hh.mo, hl, hT, hD⟩
set_option maxHeartbeats 4000000 in
set_option maxRecDepth 100000 in
theorem cs_fill (g : GT) (hst : g.1.stackTraces = false) (QF : QT) (sa ob o : Nat) (b c u h x a : Nat → Nat) (L i K : Nat) (sc : Nat → Int32) (kc nc : Nat) (hkc : kc + 20 ≤ 601024) (hnc : nc + 400 ≤ 7293034) (hiL : i + 6 ≤ L) (hL : L < 2147483648) (hK : K ≤ 590) (ff : Nat → Int64) (z y ai pa tu tx : Nat → Int32) (len : Nat) (s : BS) (n : Nat) (sv : SV) (hi aj pj tj pt ke : Nat → Int32) (th re nu du : Int32) (ha : Int64) (hI : LI K z n sv hi tx len s) (hk : ∀ (ff : Nat → Int64) (z y ai pa tu tx : Nat → Int32) (len : Nat) (s : BS) (n : Nat) (sv : SV) (hi aj pj tj pt ke : Nat → Int32) (th re nu du : Int32) (ha : Int64), LI (K + 1) z n sv hi tx len s → V g rmL_law RL cL_law wsL_law 9 QF (XL sa L sc) (kc + 20) (nc + 400) (SCW g sa L sc ++ OB g ob ff ++ GW g o b c u h x z y ai pa tu tx len s n sv ++ MW g a z hi tx aj pj tj pt ke (nI n) (nI len) th re nu du ha) 1529 [(4, .int (nI i)), (3, .ref ob), (2, .ref (a 0)), (1, .ref o), (0, .ref sa)] []) : V g rmL_law RL cL_law wsL_law 9 QF (XL sa L sc) kc nc ((SCW g sa L sc) ++ (OB g ob ff) ++ (GW g o b c u h x z y ai pa tu tx len s n sv) ++ (MW g a z hi tx aj pj tj pt ke (nI n) (nI len) th re nu du ha)) 336 [(4, .int (nI i)), (3, .ref ob), (2, .ref (a 0)), (1, .ref o), (0, .ref sa)] [] := by
  obtain ⟨hz, hh, hl, hT, hD⟩ := hI
  have hV : TV z := hz.1
  have hF : z 5 = nI (nf z) := hV.1.1
  have hF8 : nf z ≤ 8 := hV.nf
  have hP : z 6 = nI (np z) := hV.1.2.2.1
  have hP24 : np z ≤ 24 := hV.np
  have hn6 : n ≤ 6 := hh.1
  have hnl : n ≤ sv.length := hh.2.1
  have hl6 : sv.length ≤ 6 := hh.2.2.1
  obtain ⟨q0, hq0⟩ : ∃ q, sc (i + 1) = q := ⟨_, rfl⟩
  obtain ⟨q1, hq1⟩ : ∃ q, sc (i + 2) = q := ⟨_, rfl⟩
  refine V.aload_n 3 rfl dL_law_336 rfl ?_
  refine V.aload_n 4 rfl dL_law_337 rfl ?_
  refine V.iload 0 rfl dL_law_338 ?_
  refine V.iconst (v := 1) dL_law_340 (by decide) ?_
  refine V.iaddN (v := nI (i + 1)) dL_law_341 (nI_add i 1) ?_
  refine V.ialdL (i + 1) (by omega) hL dL_law_342 ?_
  rw [hq0]
  refine V.aload_n 4 rfl dL_law_343 rfl ?_
  refine V.iload 0 rfl dL_law_344 ?_
  refine V.iconst (v := 2) dL_law_346 (by decide) ?_
  refine V.iaddN (v := nI (i + 2)) dL_law_347 (nI_add i 2) ?_
  refine V.ialdL (i + 2) (by omega) hL dL_law_348 ?_
  rw [hq1]
  refine V.aload_n 1 rfl dL_law_349 rfl ?_
  have hM := kX5_fill g hst o b c u h x z y ai pa tu tx len s n sv q0 q1 hF hF8 hn6 hnl hl6
  refine V.callSHP (F := (SCW g sa L sc) ++ (MW g a z hi tx aj pj tj pt ke (nI n) (nI len) th re nu du ha)) [.ref o, .int q0, .int q1, .ref ob] [] (kL_fill g (GW g o b c u h x z y ai pa tu tx len s n sv) o ob q0 q1 ff rfl hM (fun v w q => by obtain ⟨_, _, _, _, _, e, sv2, hs, hG⟩ := q; exact ⟨_, e⟩) (fun v w q => by obtain ⟨_, _, _, _, _, e, sv2, hs, hG⟩ := q; exact hG.1) (fun E w q => by rw [q.1]; exact FST.rf) (fun E w q => by (rcases q.2 with ⟨d0, q⟩ | ⟨⟨f, hf, _⟩, d1, q⟩ | ⟨⟨f, hf, _, d2⟩, d1, q⟩ <;> first | exact q | exact Or.inl q | exact Or.inr q | exact Or.inr (Or.inl q) | exact Or.inr (Or.inr q)))) gL_law_L_fill rfl (by show _ ∧ _ ∧ _ = some (4 : Nat); decide +kernel) ⟨(Nat.le_of_ble_eq_true rfl), (Nat.le_of_ble_eq_true rfl)⟩ pvW rfl (Nat.le_of_ble_eq_true rfl) ⟨(by have : rmL_fill.cells ≤ 20 := Nat.le_of_ble_eq_true rfl; show kc + rmL_fill.cells ≤ 601024; omega), (by have : rmL_fill.slots ≤ 400 := Nat.le_of_ble_eq_true rfl; show nc + rmL_fill.slots ≤ 7293034; omega)⟩ dL_law_350 (LQ.fst (fun v w q => by obtain ⟨_, _, _, _, _, e, sv2, hs, hG⟩ := q; exact hG.1) (fun E w q => by rw [q.1]; exact FST.rf)) (fun v w hq => ?_)
  rcases hq with ⟨r, w1, hQ1, rfl, rfl⟩ | ⟨E, w1, hX1, rfl, rfl⟩
  · skip
    obtain ⟨f, hf, rfl, d1, d2, e, sv2, hs, hG⟩ := hQ1
    injection e with e; injection e with e; subst e
    refine V.perm (pvL hG.2.symm) ?_
    refine V.eqws (ws2 := (SCW g sa L sc) ++ (OB g ob (vp_updL ff 0 (z (12 + 8 * f + 2) + q1).toInt64)) ++ (GW g o b c u h x (upd z (12 + 8 * f + 2) (z (12 + 8 * f + 2) + q1)) y ai pa tu tx len s (svM n + 1) sv2) ++ (MW g a z hi tx aj pj tj pt ke (nI n) (nI len) th re nu du ha)) rfl ?_
    refine V.eqst (st2 := [.int 0]) rfl ?_
    refine V.istore (lv2 := [(5, .int 0), (4, .int (nI i)), (3, .ref ob), (2, .ref (a 0)), (1, .ref o), (0, .ref sa)]) dL_law_353 (by decide) rfl ?_
    refine V.aload_n 3 rfl dL_law_355 rfl ?_
    refine V.aload_n 5 rfl dL_law_356 rfl ?_
    refine V.iload 1 rfl dL_law_357 ?_
    refine V.iconst (v := 1) dL_law_359 (by decide) ?_
    refine V.iaddN (v := nI (i + 1)) dL_law_360 (nI_add i 1) ?_
    refine V.ialdL (i + 1) (by omega) hL dL_law_361 ?_
    rw [hq0]
    refine V.aload_n 5 rfl dL_law_362 rfl ?_
    refine V.iload 1 rfl dL_law_363 ?_
    refine V.iconst (v := 2) dL_law_365 (by decide) ?_
    refine V.iaddN (v := nI (i + 2)) dL_law_366 (nI_add i 2) ?_
    refine V.ialdL (i + 2) (by omega) hL dL_law_367 ?_
    rw [hq1]
    refine V.callVPf (F := ((SCW g sa L sc) ++ (OB g ob (vp_updL ff 0 (z (12 + 8 * f + 2) + q1).toInt64))) ++ (GW g o b c u h x (upd z (12 + 8 * f + 2) (z (12 + 8 * f + 2) + q1)) y ai pa tu tx len s (svM n + 1) sv2)) (ws2 := (SCW g sa L sc) ++ (OB g ob (vp_updL ff 0 (z (12 + 8 * f + 2) + q1).toInt64)) ++ (GW g o b c u h x (upd z (12 + 8 * f + 2) (z (12 + 8 * f + 2) + q1)) y ai pa tu tx len s (svM n + 1) sv2) ++ (MW g a (upd z (12 + 8 * f + 2) (z (12 + 8 * f + 2) + q1)) (svA n z hi) tx aj pj tj pt ke (nI (svM n + 1)) (nI len) 0 re nu du ha)) (st2 := [.int (upd z (12 + 8 * f + 2) (z (12 + 8 * f + 2) + q1) (12 + 8 * f + 2))]) [.int (nI f), .int q1] [] (kX6_fill_ok g a z hi tx aj pj tj pt ke (nI len) th re nu du ha f q1 n (by omega) (by rw [hF]; exact wi_if (by omega) hf) d1 d2 hn6) gL_law_X6_fill rfl (by show _ ∧ _ ∧ _ ∧ _ = some (2 : Nat); decide +kernel) ⟨(Nat.le_of_ble_eq_true rfl), (Nat.le_of_ble_eq_true rfl)⟩ (hc := (rfl : vwCl[6]? = some (RX6, TX6, 15))) 0 rfl pvM rfl (Nat.le_of_ble_eq_true rfl) ⟨(by have : rmL_fill.cells ≤ 20 := Nat.le_of_ble_eq_true rfl; show kc + rmL_fill.cells + 0 ≤ 601024; omega), (by have : rmL_fill.slots ≤ 400 := Nat.le_of_ble_eq_true rfl; show nc + rmL_fill.slots + 0 ≤ 7293034; omega)⟩ dL_law_368 MWm pvM.symm rfl rfl rfl ?_
    refine V.istore (lv2 := [(6, .int (upd z (12 + 8 * f + 2) (z (12 + 8 * f + 2) + q1) (12 + 8 * f + 2))), (5, .int 0), (4, .int (nI i)), (3, .ref ob), (2, .ref (a 0)), (1, .ref o), (0, .ref sa)]) dL_law_371 (by decide) rfl ?_
    refine V.aload_n 4 rfl dL_law_373 rfl ?_
    refine V.callVPf (F := ((SCW g sa L sc) ++ (OB g ob (vp_updL ff 0 (z (12 + 8 * f + 2) + q1).toInt64))) ++ (GW g o b c u h x (upd z (12 + 8 * f + 2) (z (12 + 8 * f + 2) + q1)) y ai pa tu tx len s (svM n + 1) sv2)) (ws2 := (SCW g sa L sc) ++ (OB g ob (vp_updL ff 0 (z (12 + 8 * f + 2) + q1).toInt64)) ++ (GW g o b c u h x (upd z (12 + 8 * f + 2) (z (12 + 8 * f + 2) + q1)) y ai pa tu tx len s (svM n + 1) sv2) ++ (MW g a (upd z (12 + 8 * f + 2) (z (12 + 8 * f + 2) + q1)) (svA n z hi) tx aj pj tj pt ke (nI (svM n + 1)) (nI len) 0 re nu du ha)) (st2 := [.int 0]) [] [] (kX6_thrown g a (upd z (12 + 8 * f + 2) (z (12 + 8 * f + 2) + q1)) (svA n z hi) tx aj pj tj pt ke (nI (svM n + 1)) (nI len) 0 re nu du ha) gL_law_X6_thrown rfl (by show _ ∧ _ ∧ _ ∧ _ = some (0 : Nat); decide +kernel) ⟨(Nat.le_of_ble_eq_true rfl), (Nat.le_of_ble_eq_true rfl)⟩ (hc := (rfl : vwCl[6]? = some (RX6, TX6, 15))) 0 rfl pvM rfl (Nat.le_of_ble_eq_true rfl) ⟨(by have : rmL_fill.cells ≤ 20 := Nat.le_of_ble_eq_true rfl; show kc + rmL_fill.cells + 0 ≤ 601024; omega), (by have : rmL_fill.slots ≤ 400 := Nat.le_of_ble_eq_true rfl; show nc + rmL_fill.slots + 0 ≤ 7293034; omega)⟩ dL_law_374 MWm pvM.symm rfl rfl rfl ?_
    refine V.iload 1 rfl dL_law_377 ?_
    refine V.icmp_eq_t (tgt := 384) rfl dL_law_379 (by decide) ?_
    refine V.iload 1 rfl dL_law_384 ?_
    refine V.if_ne_f (tgt := 401) rfl dL_law_386 (by decide) ?_
    refine V.aload_n 3 rfl dL_law_389 rfl ?_
    refine V.iconst (v := 0) dL_law_390 (by decide) ?_
    refine V.lald (f := vp_updL ff 0 (z (12 + 8 * f + 2) + q1).toInt64) 0 0 rfl rfl (by decide) (by decide) dL_law_391 ?_
    refine V.eqst (st2 := [.long (z (12 + 8 * f + 2) + q1).toInt64]) rfl ?_
    refine V.iload 0 rfl dL_law_392 ?_
    refine V.i2l dL_law_394 ?_
    rw [upd_eq]
    refine V.lcmp dL_law_395 ?_
    refine V.eqst (st2 := [.int 0]) (by rw [cmp_0] <;> rfl) ?_
    refine V.if_eq_t (tgt := 401) (by decide) dL_law_396 (by decide) ?_
    refine V.goto (tgt := 1529) dL_law_401 (by decide) ?_
    refine V.eqlv (lv2 := [(4, .int (nI i)), (3, .ref ob), (2, .ref (a 0)), (1, .ref o), (0, .ref sa)]) [2, 3, 4, 5, 6] rfl ?_
    refine V.widen (k2 := kc + 20) (n2 := nc + 400) (by have : rmL_fill.cells ≤ 20 := Nat.le_of_ble_eq_true rfl; show kc + rmL_fill.cells ≤ kc + 20; omega) (by have : rmL_fill.slots ≤ 400 := Nat.le_of_ble_eq_true rfl; show nc + rmL_fill.slots ≤ nc + 400; omega) ?_
    exact hk _ _ _ _ _ _ _ _ _ _ _ _ _ _ _ _ _ _ _ _ _ _ ⟨(hz.up (by omega) (by omega) (fun _ _ => by omega) (by omega) (fun _ _ => by omega)).mo, (hh.save hz hs).mo, hl, hT, hD⟩
  · skip
    obtain ⟨rfl, hX1⟩ := hX1
    rcases hX1 with ⟨d0, rfl⟩ | ⟨⟨f, hf, rfl⟩, d1, rfl⟩ | ⟨⟨f, hf, rfl, d2⟩, d1, rfl⟩
    · skip
      refine V.perm (pvL (List.Perm.refl _)) ?_
      refine V.eqws (ws2 := (SCW g sa L sc) ++ (OB g ob ff) ++ (GW g o b c u h x z y ai pa tu tx len s n sv) ++ (MW g a z hi tx aj pj tj pt ke (nI n) (nI len) th re nu du ha)) rfl ?_
      rw [show (cd2 IOB IAE) IOB = 1 from by decide +kernel]
      refine V.eqst (st2 := [.int 1]) rfl ?_
      refine V.istore (lv2 := [(5, .int 1), (4, .int (nI i)), (3, .ref ob), (2, .ref (a 0)), (1, .ref o), (0, .ref sa)]) dL_law_353 (by decide) rfl ?_
      refine V.aload_n 3 rfl dL_law_355 rfl ?_
      refine V.aload_n 5 rfl dL_law_356 rfl ?_
      refine V.iload 1 rfl dL_law_357 ?_
      refine V.iconst (v := 1) dL_law_359 (by decide) ?_
      refine V.iaddN (v := nI (i + 1)) dL_law_360 (nI_add i 1) ?_
      refine V.ialdL (i + 1) (by omega) hL dL_law_361 ?_
      rw [hq0]
      refine V.aload_n 5 rfl dL_law_362 rfl ?_
      refine V.iload 1 rfl dL_law_363 ?_
      refine V.iconst (v := 2) dL_law_365 (by decide) ?_
      refine V.iaddN (v := nI (i + 2)) dL_law_366 (nI_add i 2) ?_
      refine V.ialdL (i + 2) (by omega) hL dL_law_367 ?_
      rw [hq1]
      refine V.callVPf (F := ((SCW g sa L sc) ++ (OB g ob ff)) ++ (GW g o b c u h x z y ai pa tu tx len s n sv)) (ws2 := (SCW g sa L sc) ++ (OB g ob ff) ++ (GW g o b c u h x z y ai pa tu tx len s n sv) ++ (MW g a z hi tx aj pj tj pt ke (nI n) (nI len) 1 re nu du ha)) (st2 := [.int 0]) [.int q0, .int q1] [] (kX6_fill_b1 g a z hi tx aj pj tj pt ke (nI n) (nI len) th re nu du ha q0 q1 d0) gL_law_X6_fill rfl (by show _ ∧ _ ∧ _ ∧ _ = some (2 : Nat); decide +kernel) ⟨(Nat.le_of_ble_eq_true rfl), (Nat.le_of_ble_eq_true rfl)⟩ (hc := (rfl : vwCl[6]? = some (RX6, TX6, 15))) 0 rfl pvM rfl (Nat.le_of_ble_eq_true rfl) ⟨(by have : rmL_fill.cells ≤ 20 := Nat.le_of_ble_eq_true rfl; show kc + rmL_fill.cells + 0 ≤ 601024; omega), (by have : rmL_fill.slots ≤ 400 := Nat.le_of_ble_eq_true rfl; show nc + rmL_fill.slots + 0 ≤ 7293034; omega)⟩ dL_law_368 MWm pvM.symm rfl rfl rfl ?_
      refine V.istore (lv2 := [(6, .int 0), (5, .int 1), (4, .int (nI i)), (3, .ref ob), (2, .ref (a 0)), (1, .ref o), (0, .ref sa)]) dL_law_371 (by decide) rfl ?_
      refine V.aload_n 4 rfl dL_law_373 rfl ?_
      refine V.callVPf (F := ((SCW g sa L sc) ++ (OB g ob ff)) ++ (GW g o b c u h x z y ai pa tu tx len s n sv)) (ws2 := (SCW g sa L sc) ++ (OB g ob ff) ++ (GW g o b c u h x z y ai pa tu tx len s n sv) ++ (MW g a z hi tx aj pj tj pt ke (nI n) (nI len) 1 re nu du ha)) (st2 := [.int 1]) [] [] (kX6_thrown g a z hi tx aj pj tj pt ke (nI n) (nI len) 1 re nu du ha) gL_law_X6_thrown rfl (by show _ ∧ _ ∧ _ ∧ _ = some (0 : Nat); decide +kernel) ⟨(Nat.le_of_ble_eq_true rfl), (Nat.le_of_ble_eq_true rfl)⟩ (hc := (rfl : vwCl[6]? = some (RX6, TX6, 15))) 0 rfl pvM rfl (Nat.le_of_ble_eq_true rfl) ⟨(by have : rmL_fill.cells ≤ 20 := Nat.le_of_ble_eq_true rfl; show kc + rmL_fill.cells + 0 ≤ 601024; omega), (by have : rmL_fill.slots ≤ 400 := Nat.le_of_ble_eq_true rfl; show nc + rmL_fill.slots + 0 ≤ 7293034; omega)⟩ dL_law_374 MWm pvM.symm rfl rfl rfl ?_
      refine V.iload 1 rfl dL_law_377 ?_
      refine V.icmp_eq_t (tgt := 384) rfl dL_law_379 (by decide) ?_
      refine V.iload 1 rfl dL_law_384 ?_
      refine V.if_ne_t (tgt := 401) (by decide) dL_law_386 (by decide) ?_
      refine V.goto (tgt := 1529) dL_law_401 (by decide) ?_
      refine V.eqlv (lv2 := [(4, .int (nI i)), (3, .ref ob), (2, .ref (a 0)), (1, .ref o), (0, .ref sa)]) [2, 3, 4, 5, 6] rfl ?_
      refine V.widen (k2 := kc + 20) (n2 := nc + 400) (by have : rmL_fill.cells ≤ 20 := Nat.le_of_ble_eq_true rfl; show kc + rmL_fill.cells ≤ kc + 20; omega) (by have : rmL_fill.slots ≤ 400 := Nat.le_of_ble_eq_true rfl; show nc + rmL_fill.slots ≤ nc + 400; omega) ?_
      exact hk _ _ _ _ _ _ _ _ _ _ _ _ _ _ _ _ _ _ _ _ _ _ ⟨hz.mo, hh.mo, hl, hT, hD⟩
    · skip
      refine V.perm (pvL (List.Perm.refl _)) ?_
      refine V.eqws (ws2 := (SCW g sa L sc) ++ (OB g ob ff) ++ (GW g o b c u h x z y ai pa tu tx len s n sv) ++ (MW g a z hi tx aj pj tj pt ke (nI n) (nI len) th re nu du ha)) rfl ?_
      rw [show (cd2 IOB IAE) IAE = 2 from by decide +kernel]
      refine V.eqst (st2 := [.int 2]) rfl ?_
      refine V.istore (lv2 := [(5, .int 2), (4, .int (nI i)), (3, .ref ob), (2, .ref (a 0)), (1, .ref o), (0, .ref sa)]) dL_law_353 (by decide) rfl ?_
      refine V.aload_n 3 rfl dL_law_355 rfl ?_
      refine V.aload_n 5 rfl dL_law_356 rfl ?_
      refine V.iload 1 rfl dL_law_357 ?_
      refine V.iconst (v := 1) dL_law_359 (by decide) ?_
      refine V.iaddN (v := nI (i + 1)) dL_law_360 (nI_add i 1) ?_
      refine V.ialdL (i + 1) (by omega) hL dL_law_361 ?_
      rw [hq0]
      refine V.aload_n 5 rfl dL_law_362 rfl ?_
      refine V.iload 1 rfl dL_law_363 ?_
      refine V.iconst (v := 2) dL_law_365 (by decide) ?_
      refine V.iaddN (v := nI (i + 2)) dL_law_366 (nI_add i 2) ?_
      refine V.ialdL (i + 2) (by omega) hL dL_law_367 ?_
      rw [hq1]
      refine V.callVPf (F := ((SCW g sa L sc) ++ (OB g ob ff)) ++ (GW g o b c u h x z y ai pa tu tx len s n sv)) (ws2 := (SCW g sa L sc) ++ (OB g ob ff) ++ (GW g o b c u h x z y ai pa tu tx len s n sv) ++ (MW g a z hi tx aj pj tj pt ke (nI n) (nI len) 2 re nu du ha)) (st2 := [.int 0]) [.int (nI f), .int q1] [] (kX6_fill_b2 g a z hi tx aj pj tj pt ke (nI n) (nI len) th re nu du ha f q1 (by rw [hF]; exact wi_if (by omega) hf) d1) gL_law_X6_fill rfl (by show _ ∧ _ ∧ _ ∧ _ = some (2 : Nat); decide +kernel) ⟨(Nat.le_of_ble_eq_true rfl), (Nat.le_of_ble_eq_true rfl)⟩ (hc := (rfl : vwCl[6]? = some (RX6, TX6, 15))) 0 rfl pvM rfl (Nat.le_of_ble_eq_true rfl) ⟨(by have : rmL_fill.cells ≤ 20 := Nat.le_of_ble_eq_true rfl; show kc + rmL_fill.cells + 0 ≤ 601024; omega), (by have : rmL_fill.slots ≤ 400 := Nat.le_of_ble_eq_true rfl; show nc + rmL_fill.slots + 0 ≤ 7293034; omega)⟩ dL_law_368 MWm pvM.symm rfl rfl rfl ?_
      refine V.istore (lv2 := [(6, .int 0), (5, .int 2), (4, .int (nI i)), (3, .ref ob), (2, .ref (a 0)), (1, .ref o), (0, .ref sa)]) dL_law_371 (by decide) rfl ?_
      refine V.aload_n 4 rfl dL_law_373 rfl ?_
      refine V.callVPf (F := ((SCW g sa L sc) ++ (OB g ob ff)) ++ (GW g o b c u h x z y ai pa tu tx len s n sv)) (ws2 := (SCW g sa L sc) ++ (OB g ob ff) ++ (GW g o b c u h x z y ai pa tu tx len s n sv) ++ (MW g a z hi tx aj pj tj pt ke (nI n) (nI len) 2 re nu du ha)) (st2 := [.int 2]) [] [] (kX6_thrown g a z hi tx aj pj tj pt ke (nI n) (nI len) 2 re nu du ha) gL_law_X6_thrown rfl (by show _ ∧ _ ∧ _ ∧ _ = some (0 : Nat); decide +kernel) ⟨(Nat.le_of_ble_eq_true rfl), (Nat.le_of_ble_eq_true rfl)⟩ (hc := (rfl : vwCl[6]? = some (RX6, TX6, 15))) 0 rfl pvM rfl (Nat.le_of_ble_eq_true rfl) ⟨(by have : rmL_fill.cells ≤ 20 := Nat.le_of_ble_eq_true rfl; show kc + rmL_fill.cells + 0 ≤ 601024; omega), (by have : rmL_fill.slots ≤ 400 := Nat.le_of_ble_eq_true rfl; show nc + rmL_fill.slots + 0 ≤ 7293034; omega)⟩ dL_law_374 MWm pvM.symm rfl rfl rfl ?_
      refine V.iload 1 rfl dL_law_377 ?_
      refine V.icmp_eq_t (tgt := 384) rfl dL_law_379 (by decide) ?_
      refine V.iload 1 rfl dL_law_384 ?_
      refine V.if_ne_t (tgt := 401) (by decide) dL_law_386 (by decide) ?_
      refine V.goto (tgt := 1529) dL_law_401 (by decide) ?_
      refine V.eqlv (lv2 := [(4, .int (nI i)), (3, .ref ob), (2, .ref (a 0)), (1, .ref o), (0, .ref sa)]) [2, 3, 4, 5, 6] rfl ?_
      refine V.widen (k2 := kc + 20) (n2 := nc + 400) (by have : rmL_fill.cells ≤ 20 := Nat.le_of_ble_eq_true rfl; show kc + rmL_fill.cells ≤ kc + 20; omega) (by have : rmL_fill.slots ≤ 400 := Nat.le_of_ble_eq_true rfl; show nc + rmL_fill.slots ≤ nc + 400; omega) ?_
      exact hk _ _ _ _ _ _ _ _ _ _ _ _ _ _ _ _ _ _ _ _ _ _ ⟨hz.mo, hh.mo, hl, hT, hD⟩
    · skip
      refine V.perm (pvL (List.Perm.refl _)) ?_
      refine V.eqws (ws2 := (SCW g sa L sc) ++ (OB g ob ff) ++ (GW g o b c u h x z y ai pa tu tx len s n sv) ++ (MW g a z hi tx aj pj tj pt ke (nI n) (nI len) th re nu du ha)) rfl ?_
      rw [show (cd2 IOB IAE) ISE = 3 from by decide +kernel]
      refine V.eqst (st2 := [.int 3]) rfl ?_
      refine V.istore (lv2 := [(5, .int 3), (4, .int (nI i)), (3, .ref ob), (2, .ref (a 0)), (1, .ref o), (0, .ref sa)]) dL_law_353 (by decide) rfl ?_
      refine V.aload_n 3 rfl dL_law_355 rfl ?_
      refine V.aload_n 5 rfl dL_law_356 rfl ?_
      refine V.iload 1 rfl dL_law_357 ?_
      refine V.iconst (v := 1) dL_law_359 (by decide) ?_
      refine V.iaddN (v := nI (i + 1)) dL_law_360 (nI_add i 1) ?_
      refine V.ialdL (i + 1) (by omega) hL dL_law_361 ?_
      rw [hq0]
      refine V.aload_n 5 rfl dL_law_362 rfl ?_
      refine V.iload 1 rfl dL_law_363 ?_
      refine V.iconst (v := 2) dL_law_365 (by decide) ?_
      refine V.iaddN (v := nI (i + 2)) dL_law_366 (nI_add i 2) ?_
      refine V.ialdL (i + 2) (by omega) hL dL_law_367 ?_
      rw [hq1]
      refine V.callVPf (F := ((SCW g sa L sc) ++ (OB g ob ff)) ++ (GW g o b c u h x z y ai pa tu tx len s n sv)) (ws2 := (SCW g sa L sc) ++ (OB g ob ff) ++ (GW g o b c u h x z y ai pa tu tx len s n sv) ++ (MW g a z hi tx aj pj tj pt ke (nI n) (nI len) 3 re nu du ha)) (st2 := [.int 0]) [.int (nI f), .int q1] [] (kX6_fill_b3 g a z hi tx aj pj tj pt ke (nI n) (nI len) th re nu du ha f q1 (by omega) (by rw [hF]; exact wi_if (by omega) hf) d1 d2) gL_law_X6_fill rfl (by show _ ∧ _ ∧ _ ∧ _ = some (2 : Nat); decide +kernel) ⟨(Nat.le_of_ble_eq_true rfl), (Nat.le_of_ble_eq_true rfl)⟩ (hc := (rfl : vwCl[6]? = some (RX6, TX6, 15))) 0 rfl pvM rfl (Nat.le_of_ble_eq_true rfl) ⟨(by have : rmL_fill.cells ≤ 20 := Nat.le_of_ble_eq_true rfl; show kc + rmL_fill.cells + 0 ≤ 601024; omega), (by have : rmL_fill.slots ≤ 400 := Nat.le_of_ble_eq_true rfl; show nc + rmL_fill.slots + 0 ≤ 7293034; omega)⟩ dL_law_368 MWm pvM.symm rfl rfl rfl ?_
      refine V.istore (lv2 := [(6, .int 0), (5, .int 3), (4, .int (nI i)), (3, .ref ob), (2, .ref (a 0)), (1, .ref o), (0, .ref sa)]) dL_law_371 (by decide) rfl ?_
      refine V.aload_n 4 rfl dL_law_373 rfl ?_
      refine V.callVPf (F := ((SCW g sa L sc) ++ (OB g ob ff)) ++ (GW g o b c u h x z y ai pa tu tx len s n sv)) (ws2 := (SCW g sa L sc) ++ (OB g ob ff) ++ (GW g o b c u h x z y ai pa tu tx len s n sv) ++ (MW g a z hi tx aj pj tj pt ke (nI n) (nI len) 3 re nu du ha)) (st2 := [.int 3]) [] [] (kX6_thrown g a z hi tx aj pj tj pt ke (nI n) (nI len) 3 re nu du ha) gL_law_X6_thrown rfl (by show _ ∧ _ ∧ _ ∧ _ = some (0 : Nat); decide +kernel) ⟨(Nat.le_of_ble_eq_true rfl), (Nat.le_of_ble_eq_true rfl)⟩ (hc := (rfl : vwCl[6]? = some (RX6, TX6, 15))) 0 rfl pvM rfl (Nat.le_of_ble_eq_true rfl) ⟨(by have : rmL_fill.cells ≤ 20 := Nat.le_of_ble_eq_true rfl; show kc + rmL_fill.cells + 0 ≤ 601024; omega), (by have : rmL_fill.slots ≤ 400 := Nat.le_of_ble_eq_true rfl; show nc + rmL_fill.slots + 0 ≤ 7293034; omega)⟩ dL_law_374 MWm pvM.symm rfl rfl rfl ?_
      refine V.iload 1 rfl dL_law_377 ?_
      refine V.icmp_eq_t (tgt := 384) rfl dL_law_379 (by decide) ?_
      refine V.iload 1 rfl dL_law_384 ?_
      refine V.if_ne_t (tgt := 401) (by decide) dL_law_386 (by decide) ?_
      refine V.goto (tgt := 1529) dL_law_401 (by decide) ?_
      refine V.eqlv (lv2 := [(4, .int (nI i)), (3, .ref ob), (2, .ref (a 0)), (1, .ref o), (0, .ref sa)]) [2, 3, 4, 5, 6] rfl ?_
      refine V.widen (k2 := kc + 20) (n2 := nc + 400) (by have : rmL_fill.cells ≤ 20 := Nat.le_of_ble_eq_true rfl; show kc + rmL_fill.cells ≤ kc + 20; omega) (by have : rmL_fill.slots ≤ 400 := Nat.le_of_ble_eq_true rfl; show nc + rmL_fill.slots ≤ nc + 400; omega) ?_
      exact hk _ _ _ _ _ _ _ _ _ _ _ _ _ _ _ _ _ _ _ _ _ _ ⟨hz.mo, hh.mo, hl, hT, hD⟩
set_option maxHeartbeats 4000000 in
set_option maxRecDepth 100000 in
theorem cs_repair (g : GT) (hst : g.1.stackTraces = false) (QF : QT) (sa ob o : Nat) (b c u h x a : Nat → Nat) (L i K : Nat) (sc : Nat → Int32) (kc nc : Nat) (hkc : kc + 20 ≤ 601024) (hnc : nc + 400 ≤ 7293034) (hiL : i + 6 ≤ L) (hL : L < 2147483648) (hK : K ≤ 590) (ff : Nat → Int64) (z y ai pa tu tx : Nat → Int32) (len : Nat) (s : BS) (n : Nat) (sv : SV) (hi aj pj tj pt ke : Nat → Int32) (th re nu du : Int32) (ha : Int64) (hI : LI K z n sv hi tx len s) (hk : ∀ (ff : Nat → Int64) (z y ai pa tu tx : Nat → Int32) (len : Nat) (s : BS) (n : Nat) (sv : SV) (hi aj pj tj pt ke : Nat → Int32) (th re nu du : Int32) (ha : Int64), LI (K + 1) z n sv hi tx len s → V g rmL_law RL cL_law wsL_law 9 QF (XL sa L sc) (kc + 20) (nc + 400) (SCW g sa L sc ++ OB g ob ff ++ GW g o b c u h x z y ai pa tu tx len s n sv ++ MW g a z hi tx aj pj tj pt ke (nI n) (nI len) th re nu du ha) 1529 [(4, .int (nI i)), (3, .ref ob), (2, .ref (a 0)), (1, .ref o), (0, .ref sa)] []) : V g rmL_law RL cL_law wsL_law 9 QF (XL sa L sc) kc nc ((SCW g sa L sc) ++ (OB g ob ff) ++ (GW g o b c u h x z y ai pa tu tx len s n sv) ++ (MW g a z hi tx aj pj tj pt ke (nI n) (nI len) th re nu du ha)) 404 [(4, .int (nI i)), (3, .ref ob), (2, .ref (a 0)), (1, .ref o), (0, .ref sa)] [] := by
  obtain ⟨hz, hh, hl, hT, hD⟩ := hI
  have hV : TV z := hz.1
  have hF : z 5 = nI (nf z) := hV.1.1
  have hF8 : nf z ≤ 8 := hV.nf
  have hP : z 6 = nI (np z) := hV.1.2.2.1
  have hP24 : np z ≤ 24 := hV.np
  have hn6 : n ≤ 6 := hh.1
  have hnl : n ≤ sv.length := hh.2.1
  have hl6 : sv.length ≤ 6 := hh.2.2.1
  obtain ⟨q0, hq0⟩ : ∃ q, sc (i + 1) = q := ⟨_, rfl⟩
  obtain ⟨q1, hq1⟩ : ∃ q, sc (i + 2) = q := ⟨_, rfl⟩
  obtain ⟨q2, hq2⟩ : ∃ q, sc (i + 3) = q := ⟨_, rfl⟩
  refine V.aload_n 3 rfl dL_law_404 rfl ?_
  refine V.aload_n 4 rfl dL_law_405 rfl ?_
  refine V.iload 0 rfl dL_law_406 ?_
  refine V.iconst (v := 1) dL_law_408 (by decide) ?_
  refine V.iaddN (v := nI (i + 1)) dL_law_409 (nI_add i 1) ?_
  refine V.ialdL (i + 1) (by omega) hL dL_law_410 ?_
  rw [hq0]
  refine V.aload_n 4 rfl dL_law_411 rfl ?_
  refine V.iload 0 rfl dL_law_412 ?_
  refine V.iconst (v := 2) dL_law_414 (by decide) ?_
  refine V.iaddN (v := nI (i + 2)) dL_law_415 (nI_add i 2) ?_
  refine V.ialdL (i + 2) (by omega) hL dL_law_416 ?_
  rw [hq1]
  refine V.aload_n 4 rfl dL_law_417 rfl ?_
  refine V.iload 0 rfl dL_law_418 ?_
  refine V.iconst (v := 3) dL_law_420 (by decide) ?_
  refine V.iaddN (v := nI (i + 3)) dL_law_421 (nI_add i 3) ?_
  refine V.ialdL (i + 3) (by omega) hL dL_law_422 ?_
  rw [hq2]
  refine V.aload_n 1 rfl dL_law_423 rfl ?_
  have hM := kX5_repair g hst o b c u h x z y ai pa tu tx len s n sv q0 q1 q2 hF hF8 hn6 hnl hl6
  refine V.callSHP (F := (SCW g sa L sc) ++ (MW g a z hi tx aj pj tj pt ke (nI n) (nI len) th re nu du ha)) [.ref o, .int q0, .int q1, .int q2, .ref ob] [] (kL_repair g (GW g o b c u h x z y ai pa tu tx len s n sv) o ob q0 q1 q2 ff rfl hM (fun v w q => by obtain ⟨_, _, _, _, _, e, sv2, hs, hG⟩ := q; exact ⟨_, e⟩) (fun v w q => by obtain ⟨_, _, _, _, _, e, sv2, hs, hG⟩ := q; exact hG.1) (fun E w q => by rw [q.1]; exact FST.rf) (fun E w q => by (rcases q.2 with ⟨d0, q⟩ | ⟨⟨f, hf, _⟩, d1, q⟩ | ⟨⟨f, hf, _⟩, d1, d2, q⟩ <;> first | exact q | exact Or.inl q | exact Or.inr q | exact Or.inr (Or.inl q) | exact Or.inr (Or.inr q)))) gL_law_L_repair rfl (by show _ ∧ _ ∧ _ = some (5 : Nat); decide +kernel) ⟨(Nat.le_of_ble_eq_true rfl), (Nat.le_of_ble_eq_true rfl)⟩ pvW rfl (Nat.le_of_ble_eq_true rfl) ⟨(by have : rmL_repair.cells ≤ 20 := Nat.le_of_ble_eq_true rfl; show kc + rmL_repair.cells ≤ 601024; omega), (by have : rmL_repair.slots ≤ 400 := Nat.le_of_ble_eq_true rfl; show nc + rmL_repair.slots ≤ 7293034; omega)⟩ dL_law_424 (LQ.fst (fun v w q => by obtain ⟨_, _, _, _, _, e, sv2, hs, hG⟩ := q; exact hG.1) (fun E w q => by rw [q.1]; exact FST.rf)) (fun v w hq => ?_)
  rcases hq with ⟨r, w1, hQ1, rfl, rfl⟩ | ⟨E, w1, hX1, rfl, rfl⟩
  · skip
    obtain ⟨f, hf, rfl, d1, d2, e, sv2, hs, hG⟩ := hQ1
    injection e with e; injection e with e; subst e
    refine V.perm (pvL hG.2.symm) ?_
    refine V.eqws (ws2 := (SCW g sa L sc) ++ (OB g ob (vp_updL ff 0 (z (12 + 8 * f + 3)).toInt64)) ++ (GW g o b c u h x (upd (upd z (12 + 8 * f + 3) q1) (12 + 8 * f + 4) q2) y ai pa tu tx len s (svM n + 1) sv2) ++ (MW g a z hi tx aj pj tj pt ke (nI n) (nI len) th re nu du ha)) rfl ?_
    refine V.eqst (st2 := [.int 0]) rfl ?_
    refine V.istore (lv2 := [(5, .int 0), (4, .int (nI i)), (3, .ref ob), (2, .ref (a 0)), (1, .ref o), (0, .ref sa)]) dL_law_427 (by decide) rfl ?_
    refine V.aload_n 3 rfl dL_law_429 rfl ?_
    refine V.aload_n 5 rfl dL_law_430 rfl ?_
    refine V.iload 1 rfl dL_law_431 ?_
    refine V.iconst (v := 1) dL_law_433 (by decide) ?_
    refine V.iaddN (v := nI (i + 1)) dL_law_434 (nI_add i 1) ?_
    refine V.ialdL (i + 1) (by omega) hL dL_law_435 ?_
    rw [hq0]
    refine V.aload_n 5 rfl dL_law_436 rfl ?_
    refine V.iload 1 rfl dL_law_437 ?_
    refine V.iconst (v := 2) dL_law_439 (by decide) ?_
    refine V.iaddN (v := nI (i + 2)) dL_law_440 (nI_add i 2) ?_
    refine V.ialdL (i + 2) (by omega) hL dL_law_441 ?_
    rw [hq1]
    refine V.aload_n 5 rfl dL_law_442 rfl ?_
    refine V.iload 1 rfl dL_law_443 ?_
    refine V.iconst (v := 3) dL_law_445 (by decide) ?_
    refine V.iaddN (v := nI (i + 3)) dL_law_446 (nI_add i 3) ?_
    refine V.ialdL (i + 3) (by omega) hL dL_law_447 ?_
    rw [hq2]
    refine V.callVPf (F := ((SCW g sa L sc) ++ (OB g ob (vp_updL ff 0 (z (12 + 8 * f + 3)).toInt64))) ++ (GW g o b c u h x (upd (upd z (12 + 8 * f + 3) q1) (12 + 8 * f + 4) q2) y ai pa tu tx len s (svM n + 1) sv2)) (ws2 := (SCW g sa L sc) ++ (OB g ob (vp_updL ff 0 (z (12 + 8 * f + 3)).toInt64)) ++ (GW g o b c u h x (upd (upd z (12 + 8 * f + 3) q1) (12 + 8 * f + 4) q2) y ai pa tu tx len s (svM n + 1) sv2) ++ (MW g a (upd (upd z (12 + 8 * f + 3) q1) (12 + 8 * f + 4) q2) (svA n z hi) tx aj pj tj pt ke (nI (svM n + 1)) (nI len) 0 re nu du ha)) (st2 := [.int (z (12 + 8 * f + 3))]) [.int (nI f), .int q1, .int q2] [] (kX6_repair_ok g a z hi tx aj pj tj pt ke (nI len) th re nu du ha f q1 q2 n (by omega) (by rw [hF]; exact wi_if (by omega) hf) d1 d2 hn6) gL_law_X6_repair rfl (by show _ ∧ _ ∧ _ ∧ _ = some (3 : Nat); decide +kernel) ⟨(Nat.le_of_ble_eq_true rfl), (Nat.le_of_ble_eq_true rfl)⟩ (hc := (rfl : vwCl[6]? = some (RX6, TX6, 15))) 0 rfl pvM rfl (Nat.le_of_ble_eq_true rfl) ⟨(by have : rmL_repair.cells ≤ 20 := Nat.le_of_ble_eq_true rfl; show kc + rmL_repair.cells + 0 ≤ 601024; omega), (by have : rmL_repair.slots ≤ 400 := Nat.le_of_ble_eq_true rfl; show nc + rmL_repair.slots + 0 ≤ 7293034; omega)⟩ dL_law_448 MWm pvM.symm rfl rfl rfl ?_
    refine V.istore (lv2 := [(6, .int (z (12 + 8 * f + 3))), (5, .int 0), (4, .int (nI i)), (3, .ref ob), (2, .ref (a 0)), (1, .ref o), (0, .ref sa)]) dL_law_451 (by decide) rfl ?_
    refine V.aload_n 4 rfl dL_law_453 rfl ?_
    refine V.callVPf (F := ((SCW g sa L sc) ++ (OB g ob (vp_updL ff 0 (z (12 + 8 * f + 3)).toInt64))) ++ (GW g o b c u h x (upd (upd z (12 + 8 * f + 3) q1) (12 + 8 * f + 4) q2) y ai pa tu tx len s (svM n + 1) sv2)) (ws2 := (SCW g sa L sc) ++ (OB g ob (vp_updL ff 0 (z (12 + 8 * f + 3)).toInt64)) ++ (GW g o b c u h x (upd (upd z (12 + 8 * f + 3) q1) (12 + 8 * f + 4) q2) y ai pa tu tx len s (svM n + 1) sv2) ++ (MW g a (upd (upd z (12 + 8 * f + 3) q1) (12 + 8 * f + 4) q2) (svA n z hi) tx aj pj tj pt ke (nI (svM n + 1)) (nI len) 0 re nu du ha)) (st2 := [.int 0]) [] [] (kX6_thrown g a (upd (upd z (12 + 8 * f + 3) q1) (12 + 8 * f + 4) q2) (svA n z hi) tx aj pj tj pt ke (nI (svM n + 1)) (nI len) 0 re nu du ha) gL_law_X6_thrown rfl (by show _ ∧ _ ∧ _ ∧ _ = some (0 : Nat); decide +kernel) ⟨(Nat.le_of_ble_eq_true rfl), (Nat.le_of_ble_eq_true rfl)⟩ (hc := (rfl : vwCl[6]? = some (RX6, TX6, 15))) 0 rfl pvM rfl (Nat.le_of_ble_eq_true rfl) ⟨(by have : rmL_repair.cells ≤ 20 := Nat.le_of_ble_eq_true rfl; show kc + rmL_repair.cells + 0 ≤ 601024; omega), (by have : rmL_repair.slots ≤ 400 := Nat.le_of_ble_eq_true rfl; show nc + rmL_repair.slots + 0 ≤ 7293034; omega)⟩ dL_law_454 MWm pvM.symm rfl rfl rfl ?_
    refine V.iload 1 rfl dL_law_457 ?_
    refine V.icmp_eq_t (tgt := 464) rfl dL_law_459 (by decide) ?_
    refine V.iload 1 rfl dL_law_464 ?_
    refine V.if_ne_f (tgt := 481) rfl dL_law_466 (by decide) ?_
    refine V.aload_n 3 rfl dL_law_469 rfl ?_
    refine V.iconst (v := 0) dL_law_470 (by decide) ?_
    refine V.lald (f := vp_updL ff 0 (z (12 + 8 * f + 3)).toInt64) 0 0 rfl rfl (by decide) (by decide) dL_law_471 ?_
    refine V.eqst (st2 := [.long (z (12 + 8 * f + 3)).toInt64]) rfl ?_
    refine V.iload 0 rfl dL_law_472 ?_
    refine V.i2l dL_law_474 ?_
    refine V.lcmp dL_law_475 ?_
    refine V.eqst (st2 := [.int 0]) (by rw [cmp_0] <;> rfl) ?_
    refine V.if_eq_t (tgt := 481) (by decide) dL_law_476 (by decide) ?_
    refine V.goto (tgt := 1529) dL_law_481 (by decide) ?_
    refine V.eqlv (lv2 := [(4, .int (nI i)), (3, .ref ob), (2, .ref (a 0)), (1, .ref o), (0, .ref sa)]) [2, 3, 4, 5, 6] rfl ?_
    refine V.widen (k2 := kc + 20) (n2 := nc + 400) (by have : rmL_repair.cells ≤ 20 := Nat.le_of_ble_eq_true rfl; show kc + rmL_repair.cells ≤ kc + 20; omega) (by have : rmL_repair.slots ≤ 400 := Nat.le_of_ble_eq_true rfl; show nc + rmL_repair.slots ≤ nc + 400; omega) ?_
    exact hk _ _ _ _ _ _ _ _ _ _ _ _ _ _ _ _ _ _ _ _ _ _ ⟨((hz.up (by omega) (by omega) (fun _ _ => by omega) (by omega) (fun _ _ => by omega)).up (by omega) (by omega) (fun _ _ => by omega) (by omega) (fun _ _ => by omega)).mo, (hh.save hz hs).mo, hl, hT, hD⟩
  · skip
    obtain ⟨rfl, hX1⟩ := hX1
    rcases hX1 with ⟨d0, rfl⟩ | ⟨⟨f, hf, rfl⟩, d1, rfl⟩ | ⟨⟨f, hf, rfl⟩, d1, d2, rfl⟩
    · skip
      refine V.perm (pvL (List.Perm.refl _)) ?_
      refine V.eqws (ws2 := (SCW g sa L sc) ++ (OB g ob ff) ++ (GW g o b c u h x z y ai pa tu tx len s n sv) ++ (MW g a z hi tx aj pj tj pt ke (nI n) (nI len) th re nu du ha)) rfl ?_
      rw [show (cd2 IOB IAE) IOB = 1 from by decide +kernel]
      refine V.eqst (st2 := [.int 1]) rfl ?_
      refine V.istore (lv2 := [(5, .int 1), (4, .int (nI i)), (3, .ref ob), (2, .ref (a 0)), (1, .ref o), (0, .ref sa)]) dL_law_427 (by decide) rfl ?_
      refine V.aload_n 3 rfl dL_law_429 rfl ?_
      refine V.aload_n 5 rfl dL_law_430 rfl ?_
      refine V.iload 1 rfl dL_law_431 ?_
      refine V.iconst (v := 1) dL_law_433 (by decide) ?_
      refine V.iaddN (v := nI (i + 1)) dL_law_434 (nI_add i 1) ?_
      refine V.ialdL (i + 1) (by omega) hL dL_law_435 ?_
      rw [hq0]
      refine V.aload_n 5 rfl dL_law_436 rfl ?_
      refine V.iload 1 rfl dL_law_437 ?_
      refine V.iconst (v := 2) dL_law_439 (by decide) ?_
      refine V.iaddN (v := nI (i + 2)) dL_law_440 (nI_add i 2) ?_
      refine V.ialdL (i + 2) (by omega) hL dL_law_441 ?_
      rw [hq1]
      refine V.aload_n 5 rfl dL_law_442 rfl ?_
      refine V.iload 1 rfl dL_law_443 ?_
      refine V.iconst (v := 3) dL_law_445 (by decide) ?_
      refine V.iaddN (v := nI (i + 3)) dL_law_446 (nI_add i 3) ?_
      refine V.ialdL (i + 3) (by omega) hL dL_law_447 ?_
      rw [hq2]
      refine V.callVPf (F := ((SCW g sa L sc) ++ (OB g ob ff)) ++ (GW g o b c u h x z y ai pa tu tx len s n sv)) (ws2 := (SCW g sa L sc) ++ (OB g ob ff) ++ (GW g o b c u h x z y ai pa tu tx len s n sv) ++ (MW g a z hi tx aj pj tj pt ke (nI n) (nI len) 1 re nu du ha)) (st2 := [.int 0]) [.int q0, .int q1, .int q2] [] (kX6_repair_b1 g a z hi tx aj pj tj pt ke (nI n) (nI len) th re nu du ha q0 q1 q2 d0) gL_law_X6_repair rfl (by show _ ∧ _ ∧ _ ∧ _ = some (3 : Nat); decide +kernel) ⟨(Nat.le_of_ble_eq_true rfl), (Nat.le_of_ble_eq_true rfl)⟩ (hc := (rfl : vwCl[6]? = some (RX6, TX6, 15))) 0 rfl pvM rfl (Nat.le_of_ble_eq_true rfl) ⟨(by have : rmL_repair.cells ≤ 20 := Nat.le_of_ble_eq_true rfl; show kc + rmL_repair.cells + 0 ≤ 601024; omega), (by have : rmL_repair.slots ≤ 400 := Nat.le_of_ble_eq_true rfl; show nc + rmL_repair.slots + 0 ≤ 7293034; omega)⟩ dL_law_448 MWm pvM.symm rfl rfl rfl ?_
      refine V.istore (lv2 := [(6, .int 0), (5, .int 1), (4, .int (nI i)), (3, .ref ob), (2, .ref (a 0)), (1, .ref o), (0, .ref sa)]) dL_law_451 (by decide) rfl ?_
      refine V.aload_n 4 rfl dL_law_453 rfl ?_
      refine V.callVPf (F := ((SCW g sa L sc) ++ (OB g ob ff)) ++ (GW g o b c u h x z y ai pa tu tx len s n sv)) (ws2 := (SCW g sa L sc) ++ (OB g ob ff) ++ (GW g o b c u h x z y ai pa tu tx len s n sv) ++ (MW g a z hi tx aj pj tj pt ke (nI n) (nI len) 1 re nu du ha)) (st2 := [.int 1]) [] [] (kX6_thrown g a z hi tx aj pj tj pt ke (nI n) (nI len) 1 re nu du ha) gL_law_X6_thrown rfl (by show _ ∧ _ ∧ _ ∧ _ = some (0 : Nat); decide +kernel) ⟨(Nat.le_of_ble_eq_true rfl), (Nat.le_of_ble_eq_true rfl)⟩ (hc := (rfl : vwCl[6]? = some (RX6, TX6, 15))) 0 rfl pvM rfl (Nat.le_of_ble_eq_true rfl) ⟨(by have : rmL_repair.cells ≤ 20 := Nat.le_of_ble_eq_true rfl; show kc + rmL_repair.cells + 0 ≤ 601024; omega), (by have : rmL_repair.slots ≤ 400 := Nat.le_of_ble_eq_true rfl; show nc + rmL_repair.slots + 0 ≤ 7293034; omega)⟩ dL_law_454 MWm pvM.symm rfl rfl rfl ?_
      refine V.iload 1 rfl dL_law_457 ?_
      refine V.icmp_eq_t (tgt := 464) rfl dL_law_459 (by decide) ?_
      refine V.iload 1 rfl dL_law_464 ?_
      refine V.if_ne_t (tgt := 481) (by decide) dL_law_466 (by decide) ?_
      refine V.goto (tgt := 1529) dL_law_481 (by decide) ?_
      refine V.eqlv (lv2 := [(4, .int (nI i)), (3, .ref ob), (2, .ref (a 0)), (1, .ref o), (0, .ref sa)]) [2, 3, 4, 5, 6] rfl ?_
      refine V.widen (k2 := kc + 20) (n2 := nc + 400) (by have : rmL_repair.cells ≤ 20 := Nat.le_of_ble_eq_true rfl; show kc + rmL_repair.cells ≤ kc + 20; omega) (by have : rmL_repair.slots ≤ 400 := Nat.le_of_ble_eq_true rfl; show nc + rmL_repair.slots ≤ nc + 400; omega) ?_
      exact hk _ _ _ _ _ _ _ _ _ _ _ _ _ _ _ _ _ _ _ _ _ _ ⟨hz.mo, hh.mo, hl, hT, hD⟩
    · skip
      refine V.perm (pvL (List.Perm.refl _)) ?_
      refine V.eqws (ws2 := (SCW g sa L sc) ++ (OB g ob ff) ++ (GW g o b c u h x z y ai pa tu tx len s n sv) ++ (MW g a z hi tx aj pj tj pt ke (nI n) (nI len) th re nu du ha)) rfl ?_
      rw [show (cd2 IOB IAE) IAE = 2 from by decide +kernel]
      refine V.eqst (st2 := [.int 2]) rfl ?_
      refine V.istore (lv2 := [(5, .int 2), (4, .int (nI i)), (3, .ref ob), (2, .ref (a 0)), (1, .ref o), (0, .ref sa)]) dL_law_427 (by decide) rfl ?_
      refine V.aload_n 3 rfl dL_law_429 rfl ?_
      refine V.aload_n 5 rfl dL_law_430 rfl ?_
      refine V.iload 1 rfl dL_law_431 ?_
      refine V.iconst (v := 1) dL_law_433 (by decide) ?_
      refine V.iaddN (v := nI (i + 1)) dL_law_434 (nI_add i 1) ?_
      refine V.ialdL (i + 1) (by omega) hL dL_law_435 ?_
      rw [hq0]
      refine V.aload_n 5 rfl dL_law_436 rfl ?_
      refine V.iload 1 rfl dL_law_437 ?_
      refine V.iconst (v := 2) dL_law_439 (by decide) ?_
      refine V.iaddN (v := nI (i + 2)) dL_law_440 (nI_add i 2) ?_
      refine V.ialdL (i + 2) (by omega) hL dL_law_441 ?_
      rw [hq1]
      refine V.aload_n 5 rfl dL_law_442 rfl ?_
      refine V.iload 1 rfl dL_law_443 ?_
      refine V.iconst (v := 3) dL_law_445 (by decide) ?_
      refine V.iaddN (v := nI (i + 3)) dL_law_446 (nI_add i 3) ?_
      refine V.ialdL (i + 3) (by omega) hL dL_law_447 ?_
      rw [hq2]
      refine V.callVPf (F := ((SCW g sa L sc) ++ (OB g ob ff)) ++ (GW g o b c u h x z y ai pa tu tx len s n sv)) (ws2 := (SCW g sa L sc) ++ (OB g ob ff) ++ (GW g o b c u h x z y ai pa tu tx len s n sv) ++ (MW g a z hi tx aj pj tj pt ke (nI n) (nI len) 2 re nu du ha)) (st2 := [.int 0]) [.int (nI f), .int q1, .int q2] [] (kX6_repair_b20 g a z hi tx aj pj tj pt ke (nI n) (nI len) th re nu du ha f q1 q2 (by rw [hF]; exact wi_if (by omega) hf) d1) gL_law_X6_repair rfl (by show _ ∧ _ ∧ _ ∧ _ = some (3 : Nat); decide +kernel) ⟨(Nat.le_of_ble_eq_true rfl), (Nat.le_of_ble_eq_true rfl)⟩ (hc := (rfl : vwCl[6]? = some (RX6, TX6, 15))) 0 rfl pvM rfl (Nat.le_of_ble_eq_true rfl) ⟨(by have : rmL_repair.cells ≤ 20 := Nat.le_of_ble_eq_true rfl; show kc + rmL_repair.cells + 0 ≤ 601024; omega), (by have : rmL_repair.slots ≤ 400 := Nat.le_of_ble_eq_true rfl; show nc + rmL_repair.slots + 0 ≤ 7293034; omega)⟩ dL_law_448 MWm pvM.symm rfl rfl rfl ?_
      refine V.istore (lv2 := [(6, .int 0), (5, .int 2), (4, .int (nI i)), (3, .ref ob), (2, .ref (a 0)), (1, .ref o), (0, .ref sa)]) dL_law_451 (by decide) rfl ?_
      refine V.aload_n 4 rfl dL_law_453 rfl ?_
      refine V.callVPf (F := ((SCW g sa L sc) ++ (OB g ob ff)) ++ (GW g o b c u h x z y ai pa tu tx len s n sv)) (ws2 := (SCW g sa L sc) ++ (OB g ob ff) ++ (GW g o b c u h x z y ai pa tu tx len s n sv) ++ (MW g a z hi tx aj pj tj pt ke (nI n) (nI len) 2 re nu du ha)) (st2 := [.int 2]) [] [] (kX6_thrown g a z hi tx aj pj tj pt ke (nI n) (nI len) 2 re nu du ha) gL_law_X6_thrown rfl (by show _ ∧ _ ∧ _ ∧ _ = some (0 : Nat); decide +kernel) ⟨(Nat.le_of_ble_eq_true rfl), (Nat.le_of_ble_eq_true rfl)⟩ (hc := (rfl : vwCl[6]? = some (RX6, TX6, 15))) 0 rfl pvM rfl (Nat.le_of_ble_eq_true rfl) ⟨(by have : rmL_repair.cells ≤ 20 := Nat.le_of_ble_eq_true rfl; show kc + rmL_repair.cells + 0 ≤ 601024; omega), (by have : rmL_repair.slots ≤ 400 := Nat.le_of_ble_eq_true rfl; show nc + rmL_repair.slots + 0 ≤ 7293034; omega)⟩ dL_law_454 MWm pvM.symm rfl rfl rfl ?_
      refine V.iload 1 rfl dL_law_457 ?_
      refine V.icmp_eq_t (tgt := 464) rfl dL_law_459 (by decide) ?_
      refine V.iload 1 rfl dL_law_464 ?_
      refine V.if_ne_t (tgt := 481) (by decide) dL_law_466 (by decide) ?_
      refine V.goto (tgt := 1529) dL_law_481 (by decide) ?_
      refine V.eqlv (lv2 := [(4, .int (nI i)), (3, .ref ob), (2, .ref (a 0)), (1, .ref o), (0, .ref sa)]) [2, 3, 4, 5, 6] rfl ?_
      refine V.widen (k2 := kc + 20) (n2 := nc + 400) (by have : rmL_repair.cells ≤ 20 := Nat.le_of_ble_eq_true rfl; show kc + rmL_repair.cells ≤ kc + 20; omega) (by have : rmL_repair.slots ≤ 400 := Nat.le_of_ble_eq_true rfl; show nc + rmL_repair.slots ≤ nc + 400; omega) ?_
      exact hk _ _ _ _ _ _ _ _ _ _ _ _ _ _ _ _ _ _ _ _ _ _ ⟨hz.mo, hh.mo, hl, hT, hD⟩
    · skip
      refine V.perm (pvL (List.Perm.refl _)) ?_
      refine V.eqws (ws2 := (SCW g sa L sc) ++ (OB g ob ff) ++ (GW g o b c u h x z y ai pa tu tx len s n sv) ++ (MW g a z hi tx aj pj tj pt ke (nI n) (nI len) th re nu du ha)) rfl ?_
      rw [show (cd2 IOB IAE) IAE = 2 from by decide +kernel]
      refine V.eqst (st2 := [.int 2]) rfl ?_
      refine V.istore (lv2 := [(5, .int 2), (4, .int (nI i)), (3, .ref ob), (2, .ref (a 0)), (1, .ref o), (0, .ref sa)]) dL_law_427 (by decide) rfl ?_
      refine V.aload_n 3 rfl dL_law_429 rfl ?_
      refine V.aload_n 5 rfl dL_law_430 rfl ?_
      refine V.iload 1 rfl dL_law_431 ?_
      refine V.iconst (v := 1) dL_law_433 (by decide) ?_
      refine V.iaddN (v := nI (i + 1)) dL_law_434 (nI_add i 1) ?_
      refine V.ialdL (i + 1) (by omega) hL dL_law_435 ?_
      rw [hq0]
      refine V.aload_n 5 rfl dL_law_436 rfl ?_
      refine V.iload 1 rfl dL_law_437 ?_
      refine V.iconst (v := 2) dL_law_439 (by decide) ?_
      refine V.iaddN (v := nI (i + 2)) dL_law_440 (nI_add i 2) ?_
      refine V.ialdL (i + 2) (by omega) hL dL_law_441 ?_
      rw [hq1]
      refine V.aload_n 5 rfl dL_law_442 rfl ?_
      refine V.iload 1 rfl dL_law_443 ?_
      refine V.iconst (v := 3) dL_law_445 (by decide) ?_
      refine V.iaddN (v := nI (i + 3)) dL_law_446 (nI_add i 3) ?_
      refine V.ialdL (i + 3) (by omega) hL dL_law_447 ?_
      rw [hq2]
      refine V.callVPf (F := ((SCW g sa L sc) ++ (OB g ob ff)) ++ (GW g o b c u h x z y ai pa tu tx len s n sv)) (ws2 := (SCW g sa L sc) ++ (OB g ob ff) ++ (GW g o b c u h x z y ai pa tu tx len s n sv) ++ (MW g a z hi tx aj pj tj pt ke (nI n) (nI len) 2 re nu du ha)) (st2 := [.int 0]) [.int (nI f), .int q1, .int q2] [] (kX6_repair_b21 g a z hi tx aj pj tj pt ke (nI n) (nI len) th re nu du ha f q1 q2 (by rw [hF]; exact wi_if (by omega) hf) d1 d2) gL_law_X6_repair rfl (by show _ ∧ _ ∧ _ ∧ _ = some (3 : Nat); decide +kernel) ⟨(Nat.le_of_ble_eq_true rfl), (Nat.le_of_ble_eq_true rfl)⟩ (hc := (rfl : vwCl[6]? = some (RX6, TX6, 15))) 0 rfl pvM rfl (Nat.le_of_ble_eq_true rfl) ⟨(by have : rmL_repair.cells ≤ 20 := Nat.le_of_ble_eq_true rfl; show kc + rmL_repair.cells + 0 ≤ 601024; omega), (by have : rmL_repair.slots ≤ 400 := Nat.le_of_ble_eq_true rfl; show nc + rmL_repair.slots + 0 ≤ 7293034; omega)⟩ dL_law_448 MWm pvM.symm rfl rfl rfl ?_
      refine V.istore (lv2 := [(6, .int 0), (5, .int 2), (4, .int (nI i)), (3, .ref ob), (2, .ref (a 0)), (1, .ref o), (0, .ref sa)]) dL_law_451 (by decide) rfl ?_
      refine V.aload_n 4 rfl dL_law_453 rfl ?_
      refine V.callVPf (F := ((SCW g sa L sc) ++ (OB g ob ff)) ++ (GW g o b c u h x z y ai pa tu tx len s n sv)) (ws2 := (SCW g sa L sc) ++ (OB g ob ff) ++ (GW g o b c u h x z y ai pa tu tx len s n sv) ++ (MW g a z hi tx aj pj tj pt ke (nI n) (nI len) 2 re nu du ha)) (st2 := [.int 2]) [] [] (kX6_thrown g a z hi tx aj pj tj pt ke (nI n) (nI len) 2 re nu du ha) gL_law_X6_thrown rfl (by show _ ∧ _ ∧ _ ∧ _ = some (0 : Nat); decide +kernel) ⟨(Nat.le_of_ble_eq_true rfl), (Nat.le_of_ble_eq_true rfl)⟩ (hc := (rfl : vwCl[6]? = some (RX6, TX6, 15))) 0 rfl pvM rfl (Nat.le_of_ble_eq_true rfl) ⟨(by have : rmL_repair.cells ≤ 20 := Nat.le_of_ble_eq_true rfl; show kc + rmL_repair.cells + 0 ≤ 601024; omega), (by have : rmL_repair.slots ≤ 400 := Nat.le_of_ble_eq_true rfl; show nc + rmL_repair.slots + 0 ≤ 7293034; omega)⟩ dL_law_454 MWm pvM.symm rfl rfl rfl ?_
      refine V.iload 1 rfl dL_law_457 ?_
      refine V.icmp_eq_t (tgt := 464) rfl dL_law_459 (by decide) ?_
      refine V.iload 1 rfl dL_law_464 ?_
      refine V.if_ne_t (tgt := 481) (by decide) dL_law_466 (by decide) ?_
      refine V.goto (tgt := 1529) dL_law_481 (by decide) ?_
      refine V.eqlv (lv2 := [(4, .int (nI i)), (3, .ref ob), (2, .ref (a 0)), (1, .ref o), (0, .ref sa)]) [2, 3, 4, 5, 6] rfl ?_
      refine V.widen (k2 := kc + 20) (n2 := nc + 400) (by have : rmL_repair.cells ≤ 20 := Nat.le_of_ble_eq_true rfl; show kc + rmL_repair.cells ≤ kc + 20; omega) (by have : rmL_repair.slots ≤ 400 := Nat.le_of_ble_eq_true rfl; show nc + rmL_repair.slots ≤ nc + 400; omega) ?_
      exact hk _ _ _ _ _ _ _ _ _ _ _ _ _ _ _ _ _ _ _ _ _ _ ⟨hz.mo, hh.mo, hl, hT, hD⟩
set_option maxHeartbeats 4000000 in
set_option maxRecDepth 100000 in
theorem cs_fit (g : GT) (hst : g.1.stackTraces = false) (QF : QT) (sa ob o : Nat) (b c u h x a : Nat → Nat) (L i K : Nat) (sc : Nat → Int32) (kc nc : Nat) (hkc : kc + 20 ≤ 601024) (hnc : nc + 400 ≤ 7293034) (hiL : i + 6 ≤ L) (hL : L < 2147483648) (hK : K ≤ 590) (ff : Nat → Int64) (z y ai pa tu tx : Nat → Int32) (len : Nat) (s : BS) (n : Nat) (sv : SV) (hi aj pj tj pt ke : Nat → Int32) (th re nu du : Int32) (ha : Int64) (hI : LI K z n sv hi tx len s) (hk : ∀ (ff : Nat → Int64) (z y ai pa tu tx : Nat → Int32) (len : Nat) (s : BS) (n : Nat) (sv : SV) (hi aj pj tj pt ke : Nat → Int32) (th re nu du : Int32) (ha : Int64), LI (K + 1) z n sv hi tx len s → V g rmL_law RL cL_law wsL_law 9 QF (XL sa L sc) (kc + 20) (nc + 400) (SCW g sa L sc ++ OB g ob ff ++ GW g o b c u h x z y ai pa tu tx len s n sv ++ MW g a z hi tx aj pj tj pt ke (nI n) (nI len) th re nu du ha) 1529 [(4, .int (nI i)), (3, .ref ob), (2, .ref (a 0)), (1, .ref o), (0, .ref sa)] []) : V g rmL_law RL cL_law wsL_law 9 QF (XL sa L sc) kc nc ((SCW g sa L sc) ++ (OB g ob ff) ++ (GW g o b c u h x z y ai pa tu tx len s n sv) ++ (MW g a z hi tx aj pj tj pt ke (nI n) (nI len) th re nu du ha)) 484 [(4, .int (nI i)), (3, .ref ob), (2, .ref (a 0)), (1, .ref o), (0, .ref sa)] [] := by
  obtain ⟨hz, hh, hl, hT, hD⟩ := hI
  have hV : TV z := hz.1
  have hF : z 5 = nI (nf z) := hV.1.1
  have hF8 : nf z ≤ 8 := hV.nf
  have hP : z 6 = nI (np z) := hV.1.2.2.1
  have hP24 : np z ≤ 24 := hV.np
  have hn6 : n ≤ 6 := hh.1
  have hnl : n ≤ sv.length := hh.2.1
  have hl6 : sv.length ≤ 6 := hh.2.2.1
  obtain ⟨q0, hq0⟩ : ∃ q, sc (i + 1) = q := ⟨_, rfl⟩
  obtain ⟨q1, hq1⟩ : ∃ q, sc (i + 2) = q := ⟨_, rfl⟩
  refine V.aload_n 3 rfl dL_law_484 rfl ?_
  refine V.aload_n 4 rfl dL_law_485 rfl ?_
  refine V.iload 0 rfl dL_law_486 ?_
  refine V.iconst (v := 1) dL_law_488 (by decide) ?_
  refine V.iaddN (v := nI (i + 1)) dL_law_489 (nI_add i 1) ?_
  refine V.ialdL (i + 1) (by omega) hL dL_law_490 ?_
  rw [hq0]
  refine V.aload_n 4 rfl dL_law_491 rfl ?_
  refine V.iload 0 rfl dL_law_492 ?_
  refine V.iconst (v := 2) dL_law_494 (by decide) ?_
  refine V.iaddN (v := nI (i + 2)) dL_law_495 (nI_add i 2) ?_
  refine V.ialdL (i + 2) (by omega) hL dL_law_496 ?_
  rw [hq1]
  refine V.aload_n 1 rfl dL_law_497 rfl ?_
  have hM := kX5_fit g hst o b c u h x z y ai pa tu tx len s n sv q0 q1 hn6 hnl hl6
  refine V.callSHP (F := (SCW g sa L sc) ++ (MW g a z hi tx aj pj tj pt ke (nI n) (nI len) th re nu du ha)) [.ref o, .int q0, .int q1, .ref ob] [] (kL_fit g (GW g o b c u h x z y ai pa tu tx len s n sv) o ob q0 q1 ff rfl hM (fun v w q => by obtain ⟨_, _, _, _, e, sv2, hs, hG⟩ := q; exact ⟨_, e⟩) (fun v w q => by obtain ⟨_, _, _, _, e, sv2, hs, hG⟩ := q; exact hG.1) (fun E w q => by rw [q.1]; exact FST.rf) (fun E w q => by (rcases q.2 with ⟨d0, q⟩ | ⟨⟨j, hj, _⟩, d1, q⟩ <;> first | exact q | exact Or.inl q | exact Or.inr q | exact Or.inr (Or.inl q) | exact Or.inr (Or.inr q)))) gL_law_L_fit rfl (by show _ ∧ _ ∧ _ = some (4 : Nat); decide +kernel) ⟨(Nat.le_of_ble_eq_true rfl), (Nat.le_of_ble_eq_true rfl)⟩ pvW rfl (Nat.le_of_ble_eq_true rfl) ⟨(by have : rmL_fit.cells ≤ 20 := Nat.le_of_ble_eq_true rfl; show kc + rmL_fit.cells ≤ 601024; omega), (by have : rmL_fit.slots ≤ 400 := Nat.le_of_ble_eq_true rfl; show nc + rmL_fit.slots ≤ 7293034; omega)⟩ dL_law_498 (LQ.fst (fun v w q => by obtain ⟨_, _, _, _, e, sv2, hs, hG⟩ := q; exact hG.1) (fun E w q => by rw [q.1]; exact FST.rf)) (fun v w hq => ?_)
  rcases hq with ⟨r, w1, hQ1, rfl, rfl⟩ | ⟨E, w1, hX1, rfl, rfl⟩
  · skip
    obtain ⟨j, hj, rfl, d1, e, sv2, hs, hG⟩ := hQ1
    injection e with e; injection e with e; subst e
    refine V.perm (pvL hG.2.symm) ?_
    refine V.eqws (ws2 := (SCW g sa L sc) ++ (OB g ob (vp_updL ff 0 (z (196 + 5 * j + 0)).toInt64)) ++ (GW g o b c u h x (upd z (196 + 5 * j + 0) q1) y ai pa tu tx len s (svM n + 1) sv2) ++ (MW g a z hi tx aj pj tj pt ke (nI n) (nI len) th re nu du ha)) rfl ?_
    refine V.eqst (st2 := [.int 0]) rfl ?_
    refine V.istore (lv2 := [(5, .int 0), (4, .int (nI i)), (3, .ref ob), (2, .ref (a 0)), (1, .ref o), (0, .ref sa)]) dL_law_501 (by decide) rfl ?_
    refine V.aload_n 3 rfl dL_law_503 rfl ?_
    refine V.aload_n 5 rfl dL_law_504 rfl ?_
    refine V.iload 1 rfl dL_law_505 ?_
    refine V.iconst (v := 1) dL_law_507 (by decide) ?_
    refine V.iaddN (v := nI (i + 1)) dL_law_508 (nI_add i 1) ?_
    refine V.ialdL (i + 1) (by omega) hL dL_law_509 ?_
    rw [hq0]
    refine V.aload_n 5 rfl dL_law_510 rfl ?_
    refine V.iload 1 rfl dL_law_511 ?_
    refine V.iconst (v := 2) dL_law_513 (by decide) ?_
    refine V.iaddN (v := nI (i + 2)) dL_law_514 (nI_add i 2) ?_
    refine V.ialdL (i + 2) (by omega) hL dL_law_515 ?_
    rw [hq1]
    refine V.callVPf (F := ((SCW g sa L sc) ++ (OB g ob (vp_updL ff 0 (z (196 + 5 * j + 0)).toInt64))) ++ (GW g o b c u h x (upd z (196 + 5 * j + 0) q1) y ai pa tu tx len s (svM n + 1) sv2)) (ws2 := (SCW g sa L sc) ++ (OB g ob (vp_updL ff 0 (z (196 + 5 * j + 0)).toInt64)) ++ (GW g o b c u h x (upd z (196 + 5 * j + 0) q1) y ai pa tu tx len s (svM n + 1) sv2) ++ (MW g a (upd z (196 + 5 * j + 0) q1) (svA n z hi) tx aj pj tj pt ke (nI (svM n + 1)) (nI len) 0 re nu du ha)) (st2 := [.int (z (196 + 5 * j + 0))]) [.int (nI j), .int q1] [] (kX6_fit_ok g a z hi tx aj pj tj pt ke (nI len) th re nu du ha j q1 n hj (show wi (nI j) 0 3 = true from wi_in (m := 3) (by decide) (by omega)) d1 hn6) gL_law_X6_fit rfl (by show _ ∧ _ ∧ _ ∧ _ = some (2 : Nat); decide +kernel) ⟨(Nat.le_of_ble_eq_true rfl), (Nat.le_of_ble_eq_true rfl)⟩ (hc := (rfl : vwCl[6]? = some (RX6, TX6, 15))) 0 rfl pvM rfl (Nat.le_of_ble_eq_true rfl) ⟨(by have : rmL_fit.cells ≤ 20 := Nat.le_of_ble_eq_true rfl; show kc + rmL_fit.cells + 0 ≤ 601024; omega), (by have : rmL_fit.slots ≤ 400 := Nat.le_of_ble_eq_true rfl; show nc + rmL_fit.slots + 0 ≤ 7293034; omega)⟩ dL_law_516 MWm pvM.symm rfl rfl rfl ?_
    refine V.istore (lv2 := [(6, .int (z (196 + 5 * j + 0))), (5, .int 0), (4, .int (nI i)), (3, .ref ob), (2, .ref (a 0)), (1, .ref o), (0, .ref sa)]) dL_law_519 (by decide) rfl ?_
    refine V.aload_n 4 rfl dL_law_521 rfl ?_
    refine V.callVPf (F := ((SCW g sa L sc) ++ (OB g ob (vp_updL ff 0 (z (196 + 5 * j + 0)).toInt64))) ++ (GW g o b c u h x (upd z (196 + 5 * j + 0) q1) y ai pa tu tx len s (svM n + 1) sv2)) (ws2 := (SCW g sa L sc) ++ (OB g ob (vp_updL ff 0 (z (196 + 5 * j + 0)).toInt64)) ++ (GW g o b c u h x (upd z (196 + 5 * j + 0) q1) y ai pa tu tx len s (svM n + 1) sv2) ++ (MW g a (upd z (196 + 5 * j + 0) q1) (svA n z hi) tx aj pj tj pt ke (nI (svM n + 1)) (nI len) 0 re nu du ha)) (st2 := [.int 0]) [] [] (kX6_thrown g a (upd z (196 + 5 * j + 0) q1) (svA n z hi) tx aj pj tj pt ke (nI (svM n + 1)) (nI len) 0 re nu du ha) gL_law_X6_thrown rfl (by show _ ∧ _ ∧ _ ∧ _ = some (0 : Nat); decide +kernel) ⟨(Nat.le_of_ble_eq_true rfl), (Nat.le_of_ble_eq_true rfl)⟩ (hc := (rfl : vwCl[6]? = some (RX6, TX6, 15))) 0 rfl pvM rfl (Nat.le_of_ble_eq_true rfl) ⟨(by have : rmL_fit.cells ≤ 20 := Nat.le_of_ble_eq_true rfl; show kc + rmL_fit.cells + 0 ≤ 601024; omega), (by have : rmL_fit.slots ≤ 400 := Nat.le_of_ble_eq_true rfl; show nc + rmL_fit.slots + 0 ≤ 7293034; omega)⟩ dL_law_522 MWm pvM.symm rfl rfl rfl ?_
    refine V.iload 1 rfl dL_law_525 ?_
    refine V.icmp_eq_t (tgt := 532) rfl dL_law_527 (by decide) ?_
    refine V.iload 1 rfl dL_law_532 ?_
    refine V.if_ne_f (tgt := 549) rfl dL_law_534 (by decide) ?_
    refine V.aload_n 3 rfl dL_law_537 rfl ?_
    refine V.iconst (v := 0) dL_law_538 (by decide) ?_
    refine V.lald (f := vp_updL ff 0 (z (196 + 5 * j + 0)).toInt64) 0 0 rfl rfl (by decide) (by decide) dL_law_539 ?_
    refine V.eqst (st2 := [.long (z (196 + 5 * j + 0)).toInt64]) rfl ?_
    refine V.iload 0 rfl dL_law_540 ?_
    refine V.i2l dL_law_542 ?_
    refine V.lcmp dL_law_543 ?_
    refine V.eqst (st2 := [.int 0]) (by rw [cmp_0] <;> rfl) ?_
    refine V.if_eq_t (tgt := 549) (by decide) dL_law_544 (by decide) ?_
    refine V.goto (tgt := 1529) dL_law_549 (by decide) ?_
    refine V.eqlv (lv2 := [(4, .int (nI i)), (3, .ref ob), (2, .ref (a 0)), (1, .ref o), (0, .ref sa)]) [2, 3, 4, 5, 6] rfl ?_
    refine V.widen (k2 := kc + 20) (n2 := nc + 400) (by have : rmL_fit.cells ≤ 20 := Nat.le_of_ble_eq_true rfl; show kc + rmL_fit.cells ≤ kc + 20; omega) (by have : rmL_fit.slots ≤ 400 := Nat.le_of_ble_eq_true rfl; show nc + rmL_fit.slots ≤ nc + 400; omega) ?_
    exact hk _ _ _ _ _ _ _ _ _ _ _ _ _ _ _ _ _ _ _ _ _ _ ⟨(hz.up (by omega) (by omega) (fun _ _ => by omega) (by omega) (fun _ _ => by omega)).mo, (hh.save hz hs).mo, hl, hT, hD⟩
  · skip
    obtain ⟨rfl, hX1⟩ := hX1
    rcases hX1 with ⟨d0, rfl⟩ | ⟨⟨j, hj, rfl⟩, d1, rfl⟩
    · skip
      refine V.perm (pvL (List.Perm.refl _)) ?_
      refine V.eqws (ws2 := (SCW g sa L sc) ++ (OB g ob ff) ++ (GW g o b c u h x z y ai pa tu tx len s n sv) ++ (MW g a z hi tx aj pj tj pt ke (nI n) (nI len) th re nu du ha)) rfl ?_
      rw [show (cd2 IOB IAE) IOB = 1 from by decide +kernel]
      refine V.eqst (st2 := [.int 1]) rfl ?_
      refine V.istore (lv2 := [(5, .int 1), (4, .int (nI i)), (3, .ref ob), (2, .ref (a 0)), (1, .ref o), (0, .ref sa)]) dL_law_501 (by decide) rfl ?_
      refine V.aload_n 3 rfl dL_law_503 rfl ?_
      refine V.aload_n 5 rfl dL_law_504 rfl ?_
      refine V.iload 1 rfl dL_law_505 ?_
      refine V.iconst (v := 1) dL_law_507 (by decide) ?_
      refine V.iaddN (v := nI (i + 1)) dL_law_508 (nI_add i 1) ?_
      refine V.ialdL (i + 1) (by omega) hL dL_law_509 ?_
      rw [hq0]
      refine V.aload_n 5 rfl dL_law_510 rfl ?_
      refine V.iload 1 rfl dL_law_511 ?_
      refine V.iconst (v := 2) dL_law_513 (by decide) ?_
      refine V.iaddN (v := nI (i + 2)) dL_law_514 (nI_add i 2) ?_
      refine V.ialdL (i + 2) (by omega) hL dL_law_515 ?_
      rw [hq1]
      refine V.callVPf (F := ((SCW g sa L sc) ++ (OB g ob ff)) ++ (GW g o b c u h x z y ai pa tu tx len s n sv)) (ws2 := (SCW g sa L sc) ++ (OB g ob ff) ++ (GW g o b c u h x z y ai pa tu tx len s n sv) ++ (MW g a z hi tx aj pj tj pt ke (nI n) (nI len) 1 re nu du ha)) (st2 := [.int 0]) [.int q0, .int q1] [] (kX6_fit_b1 g a z hi tx aj pj tj pt ke (nI n) (nI len) th re nu du ha q0 q1 d0) gL_law_X6_fit rfl (by show _ ∧ _ ∧ _ ∧ _ = some (2 : Nat); decide +kernel) ⟨(Nat.le_of_ble_eq_true rfl), (Nat.le_of_ble_eq_true rfl)⟩ (hc := (rfl : vwCl[6]? = some (RX6, TX6, 15))) 0 rfl pvM rfl (Nat.le_of_ble_eq_true rfl) ⟨(by have : rmL_fit.cells ≤ 20 := Nat.le_of_ble_eq_true rfl; show kc + rmL_fit.cells + 0 ≤ 601024; omega), (by have : rmL_fit.slots ≤ 400 := Nat.le_of_ble_eq_true rfl; show nc + rmL_fit.slots + 0 ≤ 7293034; omega)⟩ dL_law_516 MWm pvM.symm rfl rfl rfl ?_
      refine V.istore (lv2 := [(6, .int 0), (5, .int 1), (4, .int (nI i)), (3, .ref ob), (2, .ref (a 0)), (1, .ref o), (0, .ref sa)]) dL_law_519 (by decide) rfl ?_
      refine V.aload_n 4 rfl dL_law_521 rfl ?_
      refine V.callVPf (F := ((SCW g sa L sc) ++ (OB g ob ff)) ++ (GW g o b c u h x z y ai pa tu tx len s n sv)) (ws2 := (SCW g sa L sc) ++ (OB g ob ff) ++ (GW g o b c u h x z y ai pa tu tx len s n sv) ++ (MW g a z hi tx aj pj tj pt ke (nI n) (nI len) 1 re nu du ha)) (st2 := [.int 1]) [] [] (kX6_thrown g a z hi tx aj pj tj pt ke (nI n) (nI len) 1 re nu du ha) gL_law_X6_thrown rfl (by show _ ∧ _ ∧ _ ∧ _ = some (0 : Nat); decide +kernel) ⟨(Nat.le_of_ble_eq_true rfl), (Nat.le_of_ble_eq_true rfl)⟩ (hc := (rfl : vwCl[6]? = some (RX6, TX6, 15))) 0 rfl pvM rfl (Nat.le_of_ble_eq_true rfl) ⟨(by have : rmL_fit.cells ≤ 20 := Nat.le_of_ble_eq_true rfl; show kc + rmL_fit.cells + 0 ≤ 601024; omega), (by have : rmL_fit.slots ≤ 400 := Nat.le_of_ble_eq_true rfl; show nc + rmL_fit.slots + 0 ≤ 7293034; omega)⟩ dL_law_522 MWm pvM.symm rfl rfl rfl ?_
      refine V.iload 1 rfl dL_law_525 ?_
      refine V.icmp_eq_t (tgt := 532) rfl dL_law_527 (by decide) ?_
      refine V.iload 1 rfl dL_law_532 ?_
      refine V.if_ne_t (tgt := 549) (by decide) dL_law_534 (by decide) ?_
      refine V.goto (tgt := 1529) dL_law_549 (by decide) ?_
      refine V.eqlv (lv2 := [(4, .int (nI i)), (3, .ref ob), (2, .ref (a 0)), (1, .ref o), (0, .ref sa)]) [2, 3, 4, 5, 6] rfl ?_
      refine V.widen (k2 := kc + 20) (n2 := nc + 400) (by have : rmL_fit.cells ≤ 20 := Nat.le_of_ble_eq_true rfl; show kc + rmL_fit.cells ≤ kc + 20; omega) (by have : rmL_fit.slots ≤ 400 := Nat.le_of_ble_eq_true rfl; show nc + rmL_fit.slots ≤ nc + 400; omega) ?_
      exact hk _ _ _ _ _ _ _ _ _ _ _ _ _ _ _ _ _ _ _ _ _ _ ⟨hz.mo, hh.mo, hl, hT, hD⟩
    · skip
      refine V.perm (pvL (List.Perm.refl _)) ?_
      refine V.eqws (ws2 := (SCW g sa L sc) ++ (OB g ob ff) ++ (GW g o b c u h x z y ai pa tu tx len s n sv) ++ (MW g a z hi tx aj pj tj pt ke (nI n) (nI len) th re nu du ha)) rfl ?_
      rw [show (cd2 IOB IAE) IAE = 2 from by decide +kernel]
      refine V.eqst (st2 := [.int 2]) rfl ?_
      refine V.istore (lv2 := [(5, .int 2), (4, .int (nI i)), (3, .ref ob), (2, .ref (a 0)), (1, .ref o), (0, .ref sa)]) dL_law_501 (by decide) rfl ?_
      refine V.aload_n 3 rfl dL_law_503 rfl ?_
      refine V.aload_n 5 rfl dL_law_504 rfl ?_
      refine V.iload 1 rfl dL_law_505 ?_
      refine V.iconst (v := 1) dL_law_507 (by decide) ?_
      refine V.iaddN (v := nI (i + 1)) dL_law_508 (nI_add i 1) ?_
      refine V.ialdL (i + 1) (by omega) hL dL_law_509 ?_
      rw [hq0]
      refine V.aload_n 5 rfl dL_law_510 rfl ?_
      refine V.iload 1 rfl dL_law_511 ?_
      refine V.iconst (v := 2) dL_law_513 (by decide) ?_
      refine V.iaddN (v := nI (i + 2)) dL_law_514 (nI_add i 2) ?_
      refine V.ialdL (i + 2) (by omega) hL dL_law_515 ?_
      rw [hq1]
      refine V.callVPf (F := ((SCW g sa L sc) ++ (OB g ob ff)) ++ (GW g o b c u h x z y ai pa tu tx len s n sv)) (ws2 := (SCW g sa L sc) ++ (OB g ob ff) ++ (GW g o b c u h x z y ai pa tu tx len s n sv) ++ (MW g a z hi tx aj pj tj pt ke (nI n) (nI len) 2 re nu du ha)) (st2 := [.int 0]) [.int (nI j), .int q1] [] (kX6_fit_b2 g a z hi tx aj pj tj pt ke (nI n) (nI len) th re nu du ha j q1 (show wi (nI j) 0 3 = true from wi_in (m := 3) (by decide) (by omega)) d1) gL_law_X6_fit rfl (by show _ ∧ _ ∧ _ ∧ _ = some (2 : Nat); decide +kernel) ⟨(Nat.le_of_ble_eq_true rfl), (Nat.le_of_ble_eq_true rfl)⟩ (hc := (rfl : vwCl[6]? = some (RX6, TX6, 15))) 0 rfl pvM rfl (Nat.le_of_ble_eq_true rfl) ⟨(by have : rmL_fit.cells ≤ 20 := Nat.le_of_ble_eq_true rfl; show kc + rmL_fit.cells + 0 ≤ 601024; omega), (by have : rmL_fit.slots ≤ 400 := Nat.le_of_ble_eq_true rfl; show nc + rmL_fit.slots + 0 ≤ 7293034; omega)⟩ dL_law_516 MWm pvM.symm rfl rfl rfl ?_
      refine V.istore (lv2 := [(6, .int 0), (5, .int 2), (4, .int (nI i)), (3, .ref ob), (2, .ref (a 0)), (1, .ref o), (0, .ref sa)]) dL_law_519 (by decide) rfl ?_
      refine V.aload_n 4 rfl dL_law_521 rfl ?_
      refine V.callVPf (F := ((SCW g sa L sc) ++ (OB g ob ff)) ++ (GW g o b c u h x z y ai pa tu tx len s n sv)) (ws2 := (SCW g sa L sc) ++ (OB g ob ff) ++ (GW g o b c u h x z y ai pa tu tx len s n sv) ++ (MW g a z hi tx aj pj tj pt ke (nI n) (nI len) 2 re nu du ha)) (st2 := [.int 2]) [] [] (kX6_thrown g a z hi tx aj pj tj pt ke (nI n) (nI len) 2 re nu du ha) gL_law_X6_thrown rfl (by show _ ∧ _ ∧ _ ∧ _ = some (0 : Nat); decide +kernel) ⟨(Nat.le_of_ble_eq_true rfl), (Nat.le_of_ble_eq_true rfl)⟩ (hc := (rfl : vwCl[6]? = some (RX6, TX6, 15))) 0 rfl pvM rfl (Nat.le_of_ble_eq_true rfl) ⟨(by have : rmL_fit.cells ≤ 20 := Nat.le_of_ble_eq_true rfl; show kc + rmL_fit.cells + 0 ≤ 601024; omega), (by have : rmL_fit.slots ≤ 400 := Nat.le_of_ble_eq_true rfl; show nc + rmL_fit.slots + 0 ≤ 7293034; omega)⟩ dL_law_522 MWm pvM.symm rfl rfl rfl ?_
      refine V.iload 1 rfl dL_law_525 ?_
      refine V.icmp_eq_t (tgt := 532) rfl dL_law_527 (by decide) ?_
      refine V.iload 1 rfl dL_law_532 ?_
      refine V.if_ne_t (tgt := 549) (by decide) dL_law_534 (by decide) ?_
      refine V.goto (tgt := 1529) dL_law_549 (by decide) ?_
      refine V.eqlv (lv2 := [(4, .int (nI i)), (3, .ref ob), (2, .ref (a 0)), (1, .ref o), (0, .ref sa)]) [2, 3, 4, 5, 6] rfl ?_
      refine V.widen (k2 := kc + 20) (n2 := nc + 400) (by have : rmL_fit.cells ≤ 20 := Nat.le_of_ble_eq_true rfl; show kc + rmL_fit.cells ≤ kc + 20; omega) (by have : rmL_fit.slots ≤ 400 := Nat.le_of_ble_eq_true rfl; show nc + rmL_fit.slots ≤ nc + 400; omega) ?_
      exact hk _ _ _ _ _ _ _ _ _ _ _ _ _ _ _ _ _ _ _ _ _ _ ⟨hz.mo, hh.mo, hl, hT, hD⟩
set_option maxHeartbeats 4000000 in
set_option maxRecDepth 100000 in
theorem cs_set (g : GT) (hst : g.1.stackTraces = false) (QF : QT) (sa ob o : Nat) (b c u h x a : Nat → Nat) (L i K : Nat) (sc : Nat → Int32) (kc nc : Nat) (hkc : kc + 20 ≤ 601024) (hnc : nc + 400 ≤ 7293034) (hiL : i + 6 ≤ L) (hL : L < 2147483648) (hK : K ≤ 590) (ff : Nat → Int64) (z y ai pa tu tx : Nat → Int32) (len : Nat) (s : BS) (n : Nat) (sv : SV) (hi aj pj tj pt ke : Nat → Int32) (th re nu du : Int32) (ha : Int64) (hI : LI K z n sv hi tx len s) (hk : ∀ (ff : Nat → Int64) (z y ai pa tu tx : Nat → Int32) (len : Nat) (s : BS) (n : Nat) (sv : SV) (hi aj pj tj pt ke : Nat → Int32) (th re nu du : Int32) (ha : Int64), LI (K + 1) z n sv hi tx len s → V g rmL_law RL cL_law wsL_law 9 QF (XL sa L sc) (kc + 20) (nc + 400) (SCW g sa L sc ++ OB g ob ff ++ GW g o b c u h x z y ai pa tu tx len s n sv ++ MW g a z hi tx aj pj tj pt ke (nI n) (nI len) th re nu du ha) 1529 [(4, .int (nI i)), (3, .ref ob), (2, .ref (a 0)), (1, .ref o), (0, .ref sa)] []) : V g rmL_law RL cL_law wsL_law 9 QF (XL sa L sc) kc nc ((SCW g sa L sc) ++ (OB g ob ff) ++ (GW g o b c u h x z y ai pa tu tx len s n sv) ++ (MW g a z hi tx aj pj tj pt ke (nI n) (nI len) th re nu du ha)) 565 [(4, .int (nI i)), (3, .ref ob), (2, .ref (a 0)), (1, .ref o), (0, .ref sa)] [] := by
  obtain ⟨hz, hh, hl, hT, hD⟩ := hI
  have hV : TV z := hz.1
  have hF : z 5 = nI (nf z) := hV.1.1
  have hF8 : nf z ≤ 8 := hV.nf
  have hP : z 6 = nI (np z) := hV.1.2.2.1
  have hP24 : np z ≤ 24 := hV.np
  have hn6 : n ≤ 6 := hh.1
  have hnl : n ≤ sv.length := hh.2.1
  have hl6 : sv.length ≤ 6 := hh.2.2.1
  obtain ⟨q0, hq0⟩ : ∃ q, sc (i + 1) = q := ⟨_, rfl⟩
  obtain ⟨q1, hq1⟩ : ∃ q, sc (i + 2) = q := ⟨_, rfl⟩
  refine V.aload_n 3 rfl dL_law_565 rfl ?_
  refine V.aload_n 4 rfl dL_law_566 rfl ?_
  refine V.iload 0 rfl dL_law_567 ?_
  refine V.iconst (v := 1) dL_law_569 (by decide) ?_
  refine V.iaddN (v := nI (i + 1)) dL_law_570 (nI_add i 1) ?_
  refine V.ialdL (i + 1) (by omega) hL dL_law_571 ?_
  rw [hq0]
  refine V.aload_n 4 rfl dL_law_572 rfl ?_
  refine V.iload 0 rfl dL_law_573 ?_
  refine V.iconst (v := 2) dL_law_575 (by decide) ?_
  refine V.iaddN (v := nI (i + 2)) dL_law_576 (nI_add i 2) ?_
  refine V.ialdL (i + 2) (by omega) hL dL_law_577 ?_
  rw [hq1]
  refine V.aload_n 1 rfl dL_law_578 rfl ?_
  have hM := kX5_set g hst o b c u h x z y ai pa tu tx len s n sv q0 q1 hn6 hnl hl6
  refine V.callSHP (F := (SCW g sa L sc) ++ (MW g a z hi tx aj pj tj pt ke (nI n) (nI len) th re nu du ha)) [.ref o, .int q0, .int q1, .ref ob] [] (kL_set g (GW g o b c u h x z y ai pa tu tx len s n sv) o ob q0 q1 ff rfl hM (fun v w q => by obtain ⟨_, _, _, _, e, sv2, hs, hG⟩ := q; exact ⟨_, e⟩) (fun v w q => by obtain ⟨_, _, _, _, e, sv2, hs, hG⟩ := q; exact hG.1) (fun E w q => by rw [q.1]; exact FST.rf) (fun E w q => by (rcases q.2 with ⟨d0, q⟩ | ⟨⟨j, hj, _, d1⟩, q⟩ <;> first | exact q | exact Or.inl q | exact Or.inr q | exact Or.inr (Or.inl q) | exact Or.inr (Or.inr q)))) gL_law_L_set rfl (by show _ ∧ _ ∧ _ = some (4 : Nat); decide +kernel) ⟨(Nat.le_of_ble_eq_true rfl), (Nat.le_of_ble_eq_true rfl)⟩ pvW rfl (Nat.le_of_ble_eq_true rfl) ⟨(by have : rmL_set.cells ≤ 20 := Nat.le_of_ble_eq_true rfl; show kc + rmL_set.cells ≤ 601024; omega), (by have : rmL_set.slots ≤ 400 := Nat.le_of_ble_eq_true rfl; show nc + rmL_set.slots ≤ 7293034; omega)⟩ dL_law_579 (LQ.fst (fun v w q => by obtain ⟨_, _, _, _, e, sv2, hs, hG⟩ := q; exact hG.1) (fun E w q => by rw [q.1]; exact FST.rf)) (fun v w hq => ?_)
  rcases hq with ⟨r, w1, hQ1, rfl, rfl⟩ | ⟨E, w1, hX1, rfl, rfl⟩
  · skip
    obtain ⟨j, hj, rfl, d1, e, sv2, hs, hG⟩ := hQ1
    injection e with e; injection e with e; subst e
    refine V.perm (pvL hG.2.symm) ?_
    refine V.eqws (ws2 := (SCW g sa L sc) ++ (OB g ob (vp_updL ff 0 (z (0 + j)).toInt64)) ++ (GW g o b c u h x (upd z (0 + j) q1) y ai pa tu tx len s (svM n + 1) sv2) ++ (MW g a z hi tx aj pj tj pt ke (nI n) (nI len) th re nu du ha)) rfl ?_
    refine V.eqst (st2 := [.int 0]) rfl ?_
    refine V.istore (lv2 := [(5, .int 0), (4, .int (nI i)), (3, .ref ob), (2, .ref (a 0)), (1, .ref o), (0, .ref sa)]) dL_law_582 (by decide) rfl ?_
    refine V.aload_n 3 rfl dL_law_584 rfl ?_
    refine V.aload_n 5 rfl dL_law_585 rfl ?_
    refine V.iload 1 rfl dL_law_586 ?_
    refine V.iconst (v := 1) dL_law_588 (by decide) ?_
    refine V.iaddN (v := nI (i + 1)) dL_law_589 (nI_add i 1) ?_
    refine V.ialdL (i + 1) (by omega) hL dL_law_590 ?_
    rw [hq0]
    refine V.aload_n 5 rfl dL_law_591 rfl ?_
    refine V.iload 1 rfl dL_law_592 ?_
    refine V.iconst (v := 2) dL_law_594 (by decide) ?_
    refine V.iaddN (v := nI (i + 2)) dL_law_595 (nI_add i 2) ?_
    refine V.ialdL (i + 2) (by omega) hL dL_law_596 ?_
    rw [hq1]
    refine V.callVPf (F := ((SCW g sa L sc) ++ (OB g ob (vp_updL ff 0 (z (0 + j)).toInt64))) ++ (GW g o b c u h x (upd z (0 + j) q1) y ai pa tu tx len s (svM n + 1) sv2)) (ws2 := (SCW g sa L sc) ++ (OB g ob (vp_updL ff 0 (z (0 + j)).toInt64)) ++ (GW g o b c u h x (upd z (0 + j) q1) y ai pa tu tx len s (svM n + 1) sv2) ++ (MW g a (upd z (0 + j) q1) (svA n z hi) tx aj pj tj pt ke (nI (svM n + 1)) (nI len) 0 re nu du ha)) (st2 := [.int (z (0 + j))]) [.int (nI j), .int q1] [] (kX6_set_ok g a z hi tx aj pj tj pt ke (nI len) th re nu du ha j q1 n hj (show wi (nI j) 0 4 = true from wi_in (m := 4) (by decide) (by omega)) (by rw [gre_eq hj]; exact d1) hn6) gL_law_X6_set rfl (by show _ ∧ _ ∧ _ ∧ _ = some (2 : Nat); decide +kernel) ⟨(Nat.le_of_ble_eq_true rfl), (Nat.le_of_ble_eq_true rfl)⟩ (hc := (rfl : vwCl[6]? = some (RX6, TX6, 15))) 0 rfl pvM rfl (Nat.le_of_ble_eq_true rfl) ⟨(by have : rmL_set.cells ≤ 20 := Nat.le_of_ble_eq_true rfl; show kc + rmL_set.cells + 0 ≤ 601024; omega), (by have : rmL_set.slots ≤ 400 := Nat.le_of_ble_eq_true rfl; show nc + rmL_set.slots + 0 ≤ 7293034; omega)⟩ dL_law_597 MWm pvM.symm rfl rfl rfl ?_
    refine V.istore (lv2 := [(6, .int (z (0 + j))), (5, .int 0), (4, .int (nI i)), (3, .ref ob), (2, .ref (a 0)), (1, .ref o), (0, .ref sa)]) dL_law_600 (by decide) rfl ?_
    refine V.aload_n 4 rfl dL_law_602 rfl ?_
    refine V.callVPf (F := ((SCW g sa L sc) ++ (OB g ob (vp_updL ff 0 (z (0 + j)).toInt64))) ++ (GW g o b c u h x (upd z (0 + j) q1) y ai pa tu tx len s (svM n + 1) sv2)) (ws2 := (SCW g sa L sc) ++ (OB g ob (vp_updL ff 0 (z (0 + j)).toInt64)) ++ (GW g o b c u h x (upd z (0 + j) q1) y ai pa tu tx len s (svM n + 1) sv2) ++ (MW g a (upd z (0 + j) q1) (svA n z hi) tx aj pj tj pt ke (nI (svM n + 1)) (nI len) 0 re nu du ha)) (st2 := [.int 0]) [] [] (kX6_thrown g a (upd z (0 + j) q1) (svA n z hi) tx aj pj tj pt ke (nI (svM n + 1)) (nI len) 0 re nu du ha) gL_law_X6_thrown rfl (by show _ ∧ _ ∧ _ ∧ _ = some (0 : Nat); decide +kernel) ⟨(Nat.le_of_ble_eq_true rfl), (Nat.le_of_ble_eq_true rfl)⟩ (hc := (rfl : vwCl[6]? = some (RX6, TX6, 15))) 0 rfl pvM rfl (Nat.le_of_ble_eq_true rfl) ⟨(by have : rmL_set.cells ≤ 20 := Nat.le_of_ble_eq_true rfl; show kc + rmL_set.cells + 0 ≤ 601024; omega), (by have : rmL_set.slots ≤ 400 := Nat.le_of_ble_eq_true rfl; show nc + rmL_set.slots + 0 ≤ 7293034; omega)⟩ dL_law_603 MWm pvM.symm rfl rfl rfl ?_
    refine V.iload 1 rfl dL_law_606 ?_
    refine V.icmp_eq_t (tgt := 613) rfl dL_law_608 (by decide) ?_
    refine V.iload 1 rfl dL_law_613 ?_
    refine V.if_ne_f (tgt := 630) rfl dL_law_615 (by decide) ?_
    refine V.aload_n 3 rfl dL_law_618 rfl ?_
    refine V.iconst (v := 0) dL_law_619 (by decide) ?_
    refine V.lald (f := vp_updL ff 0 (z (0 + j)).toInt64) 0 0 rfl rfl (by decide) (by decide) dL_law_620 ?_
    refine V.eqst (st2 := [.long (z (0 + j)).toInt64]) rfl ?_
    refine V.iload 0 rfl dL_law_621 ?_
    refine V.i2l dL_law_623 ?_
    refine V.lcmp dL_law_624 ?_
    refine V.eqst (st2 := [.int 0]) (by rw [cmp_0] <;> rfl) ?_
    refine V.if_eq_t (tgt := 630) (by decide) dL_law_625 (by decide) ?_
    refine V.goto (tgt := 1529) dL_law_630 (by decide) ?_
    refine V.eqlv (lv2 := [(4, .int (nI i)), (3, .ref ob), (2, .ref (a 0)), (1, .ref o), (0, .ref sa)]) [2, 3, 4, 5, 6] rfl ?_
    refine V.widen (k2 := kc + 20) (n2 := nc + 400) (by have : rmL_set.cells ≤ 20 := Nat.le_of_ble_eq_true rfl; show kc + rmL_set.cells ≤ kc + 20; omega) (by have : rmL_set.slots ≤ 400 := Nat.le_of_ble_eq_true rfl; show nc + rmL_set.slots ≤ nc + 400; omega) ?_
    exact hk _ _ _ _ _ _ _ _ _ _ _ _ _ _ _ _ _ _ _ _ _ _ ⟨(hz.set hj d1).mo, (hh.save hz hs).mo, hl, hT, hD⟩
  · skip
    obtain ⟨rfl, hX1⟩ := hX1
    rcases hX1 with ⟨d0, rfl⟩ | ⟨⟨j, hj, rfl, d1⟩, rfl⟩
    · skip
      refine V.perm (pvL (List.Perm.refl _)) ?_
      refine V.eqws (ws2 := (SCW g sa L sc) ++ (OB g ob ff) ++ (GW g o b c u h x z y ai pa tu tx len s n sv) ++ (MW g a z hi tx aj pj tj pt ke (nI n) (nI len) th re nu du ha)) rfl ?_
      rw [show (cd2 IOB IAE) IOB = 1 from by decide +kernel]
      refine V.eqst (st2 := [.int 1]) rfl ?_
      refine V.istore (lv2 := [(5, .int 1), (4, .int (nI i)), (3, .ref ob), (2, .ref (a 0)), (1, .ref o), (0, .ref sa)]) dL_law_582 (by decide) rfl ?_
      refine V.aload_n 3 rfl dL_law_584 rfl ?_
      refine V.aload_n 5 rfl dL_law_585 rfl ?_
      refine V.iload 1 rfl dL_law_586 ?_
      refine V.iconst (v := 1) dL_law_588 (by decide) ?_
      refine V.iaddN (v := nI (i + 1)) dL_law_589 (nI_add i 1) ?_
      refine V.ialdL (i + 1) (by omega) hL dL_law_590 ?_
      rw [hq0]
      refine V.aload_n 5 rfl dL_law_591 rfl ?_
      refine V.iload 1 rfl dL_law_592 ?_
      refine V.iconst (v := 2) dL_law_594 (by decide) ?_
      refine V.iaddN (v := nI (i + 2)) dL_law_595 (nI_add i 2) ?_
      refine V.ialdL (i + 2) (by omega) hL dL_law_596 ?_
      rw [hq1]
      refine V.callVPf (F := ((SCW g sa L sc) ++ (OB g ob ff)) ++ (GW g o b c u h x z y ai pa tu tx len s n sv)) (ws2 := (SCW g sa L sc) ++ (OB g ob ff) ++ (GW g o b c u h x z y ai pa tu tx len s n sv) ++ (MW g a z hi tx aj pj tj pt ke (nI n) (nI len) 1 re nu du ha)) (st2 := [.int 0]) [.int q0, .int q1] [] (kX6_set_b1 g a z hi tx aj pj tj pt ke (nI n) (nI len) th re nu du ha q0 q1 d0) gL_law_X6_set rfl (by show _ ∧ _ ∧ _ ∧ _ = some (2 : Nat); decide +kernel) ⟨(Nat.le_of_ble_eq_true rfl), (Nat.le_of_ble_eq_true rfl)⟩ (hc := (rfl : vwCl[6]? = some (RX6, TX6, 15))) 0 rfl pvM rfl (Nat.le_of_ble_eq_true rfl) ⟨(by have : rmL_set.cells ≤ 20 := Nat.le_of_ble_eq_true rfl; show kc + rmL_set.cells + 0 ≤ 601024; omega), (by have : rmL_set.slots ≤ 400 := Nat.le_of_ble_eq_true rfl; show nc + rmL_set.slots + 0 ≤ 7293034; omega)⟩ dL_law_597 MWm pvM.symm rfl rfl rfl ?_
      refine V.istore (lv2 := [(6, .int 0), (5, .int 1), (4, .int (nI i)), (3, .ref ob), (2, .ref (a 0)), (1, .ref o), (0, .ref sa)]) dL_law_600 (by decide) rfl ?_
      refine V.aload_n 4 rfl dL_law_602 rfl ?_
      refine V.callVPf (F := ((SCW g sa L sc) ++ (OB g ob ff)) ++ (GW g o b c u h x z y ai pa tu tx len s n sv)) (ws2 := (SCW g sa L sc) ++ (OB g ob ff) ++ (GW g o b c u h x z y ai pa tu tx len s n sv) ++ (MW g a z hi tx aj pj tj pt ke (nI n) (nI len) 1 re nu du ha)) (st2 := [.int 1]) [] [] (kX6_thrown g a z hi tx aj pj tj pt ke (nI n) (nI len) 1 re nu du ha) gL_law_X6_thrown rfl (by show _ ∧ _ ∧ _ ∧ _ = some (0 : Nat); decide +kernel) ⟨(Nat.le_of_ble_eq_true rfl), (Nat.le_of_ble_eq_true rfl)⟩ (hc := (rfl : vwCl[6]? = some (RX6, TX6, 15))) 0 rfl pvM rfl (Nat.le_of_ble_eq_true rfl) ⟨(by have : rmL_set.cells ≤ 20 := Nat.le_of_ble_eq_true rfl; show kc + rmL_set.cells + 0 ≤ 601024; omega), (by have : rmL_set.slots ≤ 400 := Nat.le_of_ble_eq_true rfl; show nc + rmL_set.slots + 0 ≤ 7293034; omega)⟩ dL_law_603 MWm pvM.symm rfl rfl rfl ?_
      refine V.iload 1 rfl dL_law_606 ?_
      refine V.icmp_eq_t (tgt := 613) rfl dL_law_608 (by decide) ?_
      refine V.iload 1 rfl dL_law_613 ?_
      refine V.if_ne_t (tgt := 630) (by decide) dL_law_615 (by decide) ?_
      refine V.goto (tgt := 1529) dL_law_630 (by decide) ?_
      refine V.eqlv (lv2 := [(4, .int (nI i)), (3, .ref ob), (2, .ref (a 0)), (1, .ref o), (0, .ref sa)]) [2, 3, 4, 5, 6] rfl ?_
      refine V.widen (k2 := kc + 20) (n2 := nc + 400) (by have : rmL_set.cells ≤ 20 := Nat.le_of_ble_eq_true rfl; show kc + rmL_set.cells ≤ kc + 20; omega) (by have : rmL_set.slots ≤ 400 := Nat.le_of_ble_eq_true rfl; show nc + rmL_set.slots ≤ nc + 400; omega) ?_
      exact hk _ _ _ _ _ _ _ _ _ _ _ _ _ _ _ _ _ _ _ _ _ _ ⟨hz.mo, hh.mo, hl, hT, hD⟩
    · skip
      refine V.perm (pvL (List.Perm.refl _)) ?_
      refine V.eqws (ws2 := (SCW g sa L sc) ++ (OB g ob ff) ++ (GW g o b c u h x z y ai pa tu tx len s n sv) ++ (MW g a z hi tx aj pj tj pt ke (nI n) (nI len) th re nu du ha)) rfl ?_
      rw [show (cd2 IOB IAE) IAE = 2 from by decide +kernel]
      refine V.eqst (st2 := [.int 2]) rfl ?_
      refine V.istore (lv2 := [(5, .int 2), (4, .int (nI i)), (3, .ref ob), (2, .ref (a 0)), (1, .ref o), (0, .ref sa)]) dL_law_582 (by decide) rfl ?_
      refine V.aload_n 3 rfl dL_law_584 rfl ?_
      refine V.aload_n 5 rfl dL_law_585 rfl ?_
      refine V.iload 1 rfl dL_law_586 ?_
      refine V.iconst (v := 1) dL_law_588 (by decide) ?_
      refine V.iaddN (v := nI (i + 1)) dL_law_589 (nI_add i 1) ?_
      refine V.ialdL (i + 1) (by omega) hL dL_law_590 ?_
      rw [hq0]
      refine V.aload_n 5 rfl dL_law_591 rfl ?_
      refine V.iload 1 rfl dL_law_592 ?_
      refine V.iconst (v := 2) dL_law_594 (by decide) ?_
      refine V.iaddN (v := nI (i + 2)) dL_law_595 (nI_add i 2) ?_
      refine V.ialdL (i + 2) (by omega) hL dL_law_596 ?_
      rw [hq1]
      refine V.callVPf (F := ((SCW g sa L sc) ++ (OB g ob ff)) ++ (GW g o b c u h x z y ai pa tu tx len s n sv)) (ws2 := (SCW g sa L sc) ++ (OB g ob ff) ++ (GW g o b c u h x z y ai pa tu tx len s n sv) ++ (MW g a z hi tx aj pj tj pt ke (nI n) (nI len) 2 re nu du ha)) (st2 := [.int 0]) [.int (nI j), .int q1] [] (kX6_set_b2 g a z hi tx aj pj tj pt ke (nI n) (nI len) th re nu du ha j q1 hj (show wi (nI j) 0 4 = true from wi_in (m := 4) (by decide) (by omega)) (by rw [gre_eq hj]; exact d1)) gL_law_X6_set rfl (by show _ ∧ _ ∧ _ ∧ _ = some (2 : Nat); decide +kernel) ⟨(Nat.le_of_ble_eq_true rfl), (Nat.le_of_ble_eq_true rfl)⟩ (hc := (rfl : vwCl[6]? = some (RX6, TX6, 15))) 0 rfl pvM rfl (Nat.le_of_ble_eq_true rfl) ⟨(by have : rmL_set.cells ≤ 20 := Nat.le_of_ble_eq_true rfl; show kc + rmL_set.cells + 0 ≤ 601024; omega), (by have : rmL_set.slots ≤ 400 := Nat.le_of_ble_eq_true rfl; show nc + rmL_set.slots + 0 ≤ 7293034; omega)⟩ dL_law_597 MWm pvM.symm rfl rfl rfl ?_
      refine V.istore (lv2 := [(6, .int 0), (5, .int 2), (4, .int (nI i)), (3, .ref ob), (2, .ref (a 0)), (1, .ref o), (0, .ref sa)]) dL_law_600 (by decide) rfl ?_
      refine V.aload_n 4 rfl dL_law_602 rfl ?_
      refine V.callVPf (F := ((SCW g sa L sc) ++ (OB g ob ff)) ++ (GW g o b c u h x z y ai pa tu tx len s n sv)) (ws2 := (SCW g sa L sc) ++ (OB g ob ff) ++ (GW g o b c u h x z y ai pa tu tx len s n sv) ++ (MW g a z hi tx aj pj tj pt ke (nI n) (nI len) 2 re nu du ha)) (st2 := [.int 2]) [] [] (kX6_thrown g a z hi tx aj pj tj pt ke (nI n) (nI len) 2 re nu du ha) gL_law_X6_thrown rfl (by show _ ∧ _ ∧ _ ∧ _ = some (0 : Nat); decide +kernel) ⟨(Nat.le_of_ble_eq_true rfl), (Nat.le_of_ble_eq_true rfl)⟩ (hc := (rfl : vwCl[6]? = some (RX6, TX6, 15))) 0 rfl pvM rfl (Nat.le_of_ble_eq_true rfl) ⟨(by have : rmL_set.cells ≤ 20 := Nat.le_of_ble_eq_true rfl; show kc + rmL_set.cells + 0 ≤ 601024; omega), (by have : rmL_set.slots ≤ 400 := Nat.le_of_ble_eq_true rfl; show nc + rmL_set.slots + 0 ≤ 7293034; omega)⟩ dL_law_603 MWm pvM.symm rfl rfl rfl ?_
      refine V.iload 1 rfl dL_law_606 ?_
      refine V.icmp_eq_t (tgt := 613) rfl dL_law_608 (by decide) ?_
      refine V.iload 1 rfl dL_law_613 ?_
      refine V.if_ne_t (tgt := 630) (by decide) dL_law_615 (by decide) ?_
      refine V.goto (tgt := 1529) dL_law_630 (by decide) ?_
      refine V.eqlv (lv2 := [(4, .int (nI i)), (3, .ref ob), (2, .ref (a 0)), (1, .ref o), (0, .ref sa)]) [2, 3, 4, 5, 6] rfl ?_
      refine V.widen (k2 := kc + 20) (n2 := nc + 400) (by have : rmL_set.cells ≤ 20 := Nat.le_of_ble_eq_true rfl; show kc + rmL_set.cells ≤ kc + 20; omega) (by have : rmL_set.slots ≤ 400 := Nat.le_of_ble_eq_true rfl; show nc + rmL_set.slots ≤ nc + 400; omega) ?_
      exact hk _ _ _ _ _ _ _ _ _ _ _ _ _ _ _ _ _ _ _ _ _ _ ⟨hz.mo, hh.mo, hl, hT, hD⟩
set_option maxHeartbeats 4000000 in
set_option maxRecDepth 100000 in
theorem cs_tour (g : GT) (hst : g.1.stackTraces = false) (QF : QT) (sa ob o : Nat) (b c u h x a : Nat → Nat) (L i K : Nat) (sc : Nat → Int32) (kc nc : Nat) (hkc : kc + 20 ≤ 601024) (hnc : nc + 400 ≤ 7293034) (hiL : i + 6 ≤ L) (hL : L < 2147483648) (hK : K ≤ 590) (ff : Nat → Int64) (z y ai pa tu tx : Nat → Int32) (len : Nat) (s : BS) (n : Nat) (sv : SV) (hi aj pj tj pt ke : Nat → Int32) (th re nu du : Int32) (ha : Int64) (hI : LI K z n sv hi tx len s) (hk : ∀ (ff : Nat → Int64) (z y ai pa tu tx : Nat → Int32) (len : Nat) (s : BS) (n : Nat) (sv : SV) (hi aj pj tj pt ke : Nat → Int32) (th re nu du : Int32) (ha : Int64), LI (K + 1) z n sv hi tx len s → V g rmL_law RL cL_law wsL_law 9 QF (XL sa L sc) (kc + 20) (nc + 400) (SCW g sa L sc ++ OB g ob ff ++ GW g o b c u h x z y ai pa tu tx len s n sv ++ MW g a z hi tx aj pj tj pt ke (nI n) (nI len) th re nu du ha) 1529 [(4, .int (nI i)), (3, .ref ob), (2, .ref (a 0)), (1, .ref o), (0, .ref sa)] []) : V g rmL_law RL cL_law wsL_law 9 QF (XL sa L sc) kc nc ((SCW g sa L sc) ++ (OB g ob ff) ++ (GW g o b c u h x z y ai pa tu tx len s n sv) ++ (MW g a z hi tx aj pj tj pt ke (nI n) (nI len) th re nu du ha)) 633 [(4, .int (nI i)), (3, .ref ob), (2, .ref (a 0)), (1, .ref o), (0, .ref sa)] [] := by
  obtain ⟨hz, hh, hl, hT, hD⟩ := hI
  have hV : TV z := hz.1
  have hF : z 5 = nI (nf z) := hV.1.1
  have hF8 : nf z ≤ 8 := hV.nf
  have hP : z 6 = nI (np z) := hV.1.2.2.1
  have hP24 : np z ≤ 24 := hV.np
  have hn6 : n ≤ 6 := hh.1
  have hnl : n ≤ sv.length := hh.2.1
  have hl6 : sv.length ≤ 6 := hh.2.2.1
  obtain ⟨q0, hq0⟩ : ∃ q, sc (i + 1) = q := ⟨_, rfl⟩
  refine V.aload_n 3 rfl dL_law_633 rfl ?_
  refine V.aload_n 4 rfl dL_law_634 rfl ?_
  refine V.iload 0 rfl dL_law_635 ?_
  refine V.iconst (v := 1) dL_law_637 (by decide) ?_
  refine V.iaddN (v := nI (i + 1)) dL_law_638 (nI_add i 1) ?_
  refine V.ialdL (i + 1) (by omega) hL dL_law_639 ?_
  rw [hq0]
  refine V.aload_n 1 rfl dL_law_640 rfl ?_
  have hM := kX5_tour g hst o b c u h x z y ai pa tu tx len s n sv q0 hV hn6 hnl hl6
  refine V.callSHP (F := (SCW g sa L sc) ++ (MW g a z hi tx aj pj tj pt ke (nI n) (nI len) th re nu du ha)) [.ref o, .int q0, .ref ob] [] (kL_tour g (GW g o b c u h x z y ai pa tu tx len s n sv) o ob q0 ff rfl hM (fun v w q => by obtain ⟨_, _, _, _, e, sv2, hs, hG⟩ := q; exact ⟨_, e⟩) (fun v w q => by obtain ⟨_, _, _, _, e, sv2, hs, hG⟩ := q; exact hG.1) (fun E w q => by rw [q.1]; exact FST.rf) (fun E w q => by (rcases q.2 with ⟨d0, q⟩ <;> first | exact q | exact Or.inl q | exact Or.inr q | exact Or.inr (Or.inl q) | exact Or.inr (Or.inr q)))) gL_law_L_tour rfl (by show _ ∧ _ ∧ _ = some (3 : Nat); decide +kernel) ⟨(Nat.le_of_ble_eq_true rfl), (Nat.le_of_ble_eq_true rfl)⟩ pvW rfl (Nat.le_of_ble_eq_true rfl) ⟨(by have : rmL_tour.cells ≤ 20 := Nat.le_of_ble_eq_true rfl; show kc + rmL_tour.cells ≤ 601024; omega), (by have : rmL_tour.slots ≤ 400 := Nat.le_of_ble_eq_true rfl; show nc + rmL_tour.slots ≤ 7293034; omega)⟩ dL_law_641 (LQ.fst (fun v w q => by obtain ⟨_, _, _, _, e, sv2, hs, hG⟩ := q; exact hG.1) (fun E w q => by rw [q.1]; exact FST.rf)) (fun v w hq => ?_)
  rcases hq with ⟨r, w1, hQ1, rfl, rfl⟩ | ⟨E, w1, hX1, rfl, rfl⟩
  · skip
    obtain ⟨j, hj, rfl, d0, e, sv2, hs, hG⟩ := hQ1
    injection e with e; injection e with e; subst e
    refine V.perm (pvL hG.2.symm) ?_
    refine V.eqws (ws2 := (SCW g sa L sc) ++ (OB g ob (vp_updL ff 0 ((cTs j ((z, ai, pa, tu), 0)).2).toInt64)) ++ (GW g o b c u h x ((cTs j ((z, ai, pa, tu), 0)).1.1) y ((cTs j ((z, ai, pa, tu), 0)).1.2.1) ((cTs j ((z, ai, pa, tu), 0)).1.2.2.1) ((cTs j ((z, ai, pa, tu), 0)).1.2.2.2) tx len s (svM n + 1) sv2) ++ (MW g a z hi tx aj pj tj pt ke (nI n) (nI len) th re nu du ha)) rfl ?_
    refine V.eqst (st2 := [.int 0]) rfl ?_
    refine V.istore (lv2 := [(5, .int 0), (4, .int (nI i)), (3, .ref ob), (2, .ref (a 0)), (1, .ref o), (0, .ref sa)]) dL_law_644 (by decide) rfl ?_
    refine V.aload_n 3 rfl dL_law_646 rfl ?_
    refine V.aload_n 5 rfl dL_law_647 rfl ?_
    refine V.iload 1 rfl dL_law_648 ?_
    refine V.iconst (v := 1) dL_law_650 (by decide) ?_
    refine V.iaddN (v := nI (i + 1)) dL_law_651 (nI_add i 1) ?_
    refine V.ialdL (i + 1) (by omega) hL dL_law_652 ?_
    rw [hq0]
    refine V.callVPf (F := ((SCW g sa L sc) ++ (OB g ob (vp_updL ff 0 ((cTs j ((z, ai, pa, tu), 0)).2).toInt64))) ++ (GW g o b c u h x ((cTs j ((z, ai, pa, tu), 0)).1.1) y ((cTs j ((z, ai, pa, tu), 0)).1.2.1) ((cTs j ((z, ai, pa, tu), 0)).1.2.2.1) ((cTs j ((z, ai, pa, tu), 0)).1.2.2.2) tx len s (svM n + 1) sv2)) (ws2 := (SCW g sa L sc) ++ (OB g ob (vp_updL ff 0 ((cTs j ((z, ai, pa, tu), 0)).2).toInt64)) ++ (GW g o b c u h x ((cTs j ((z, ai, pa, tu), 0)).1.1) y ((cTs j ((z, ai, pa, tu), 0)).1.2.1) ((cTs j ((z, ai, pa, tu), 0)).1.2.2.1) ((cTs j ((z, ai, pa, tu), 0)).1.2.2.2) tx len s (svM n + 1) sv2) ++ (MW g a ((rTs j ((z, aj, pj, tj), 0)).1.1) (svA n z hi) tx ((rTs j ((z, aj, pj, tj), 0)).1.2.1) ((rTs j ((z, aj, pj, tj), 0)).1.2.2.1) ((rTs j ((z, aj, pj, tj), 0)).1.2.2.2) pt ke (nI (svM n + 1)) (nI len) 0 re nu du ha)) (st2 := [.int ((rTs j ((z, aj, pj, tj), 0)).2)]) [.int (nI j)] [] (kX6_tour_ok g a z hi tx aj pj tj pt ke (nI len) th re nu du ha j n hj d0 hV.1 hn6) gL_law_X6_tour rfl (by show _ ∧ _ ∧ _ ∧ _ = some (1 : Nat); decide +kernel) ⟨(Nat.le_of_ble_eq_true rfl), (Nat.le_of_ble_eq_true rfl)⟩ (hc := (rfl : vwCl[6]? = some (RX6, TX6, 15))) 0 rfl pvM rfl (Nat.le_of_ble_eq_true rfl) ⟨(by have : rmL_tour.cells ≤ 20 := Nat.le_of_ble_eq_true rfl; show kc + rmL_tour.cells + 0 ≤ 601024; omega), (by have : rmL_tour.slots ≤ 400 := Nat.le_of_ble_eq_true rfl; show nc + rmL_tour.slots + 0 ≤ 7293034; omega)⟩ dL_law_653 MWm pvM.symm rfl rfl rfl ?_
    refine V.istore (lv2 := [(6, .int ((rTs j ((z, aj, pj, tj), 0)).2)), (5, .int 0), (4, .int (nI i)), (3, .ref ob), (2, .ref (a 0)), (1, .ref o), (0, .ref sa)]) dL_law_656 (by decide) rfl ?_
    refine V.aload_n 4 rfl dL_law_658 rfl ?_
    refine V.callVPf (F := ((SCW g sa L sc) ++ (OB g ob (vp_updL ff 0 ((cTs j ((z, ai, pa, tu), 0)).2).toInt64))) ++ (GW g o b c u h x ((cTs j ((z, ai, pa, tu), 0)).1.1) y ((cTs j ((z, ai, pa, tu), 0)).1.2.1) ((cTs j ((z, ai, pa, tu), 0)).1.2.2.1) ((cTs j ((z, ai, pa, tu), 0)).1.2.2.2) tx len s (svM n + 1) sv2)) (ws2 := (SCW g sa L sc) ++ (OB g ob (vp_updL ff 0 ((cTs j ((z, ai, pa, tu), 0)).2).toInt64)) ++ (GW g o b c u h x ((cTs j ((z, ai, pa, tu), 0)).1.1) y ((cTs j ((z, ai, pa, tu), 0)).1.2.1) ((cTs j ((z, ai, pa, tu), 0)).1.2.2.1) ((cTs j ((z, ai, pa, tu), 0)).1.2.2.2) tx len s (svM n + 1) sv2) ++ (MW g a ((rTs j ((z, aj, pj, tj), 0)).1.1) (svA n z hi) tx ((rTs j ((z, aj, pj, tj), 0)).1.2.1) ((rTs j ((z, aj, pj, tj), 0)).1.2.2.1) ((rTs j ((z, aj, pj, tj), 0)).1.2.2.2) pt ke (nI (svM n + 1)) (nI len) 0 re nu du ha)) (st2 := [.int 0]) [] [] (kX6_thrown g a ((rTs j ((z, aj, pj, tj), 0)).1.1) (svA n z hi) tx ((rTs j ((z, aj, pj, tj), 0)).1.2.1) ((rTs j ((z, aj, pj, tj), 0)).1.2.2.1) ((rTs j ((z, aj, pj, tj), 0)).1.2.2.2) pt ke (nI (svM n + 1)) (nI len) 0 re nu du ha) gL_law_X6_thrown rfl (by show _ ∧ _ ∧ _ ∧ _ = some (0 : Nat); decide +kernel) ⟨(Nat.le_of_ble_eq_true rfl), (Nat.le_of_ble_eq_true rfl)⟩ (hc := (rfl : vwCl[6]? = some (RX6, TX6, 15))) 0 rfl pvM rfl (Nat.le_of_ble_eq_true rfl) ⟨(by have : rmL_tour.cells ≤ 20 := Nat.le_of_ble_eq_true rfl; show kc + rmL_tour.cells + 0 ≤ 601024; omega), (by have : rmL_tour.slots ≤ 400 := Nat.le_of_ble_eq_true rfl; show nc + rmL_tour.slots + 0 ≤ 7293034; omega)⟩ dL_law_659 MWm pvM.symm rfl rfl rfl ?_
    refine V.iload 1 rfl dL_law_662 ?_
    refine V.icmp_eq_t (tgt := 669) rfl dL_law_664 (by decide) ?_
    refine V.iload 1 rfl dL_law_669 ?_
    refine V.if_ne_f (tgt := 686) rfl dL_law_671 (by decide) ?_
    refine V.aload_n 3 rfl dL_law_674 rfl ?_
    refine V.iconst (v := 0) dL_law_675 (by decide) ?_
    refine V.lald (f := vp_updL ff 0 ((cTs j ((z, ai, pa, tu), 0)).2).toInt64) 0 0 rfl rfl (by decide) (by decide) dL_law_676 ?_
    refine V.eqst (st2 := [.long ((cTs j ((z, ai, pa, tu), 0)).2).toInt64]) rfl ?_
    refine V.iload 0 rfl dL_law_677 ?_
    refine V.i2l dL_law_679 ?_
    rw [← (cTs_rel (t := j) (s := (z, ai, pa, tu)) (s' := (z, aj, pj, tj)) (c := 0) rfl).2]
    refine V.lcmp dL_law_680 ?_
    refine V.eqst (st2 := [.int 0]) (by rw [cmp_0] <;> rfl) ?_
    refine V.if_eq_t (tgt := 686) (by decide) dL_law_681 (by decide) ?_
    refine V.goto (tgt := 1529) dL_law_686 (by decide) ?_
    rw [← (cTs_rel (t := j) (s := (z, ai, pa, tu)) (s' := (z, aj, pj, tj)) (c := 0) rfl).1]
    refine V.eqlv (lv2 := [(4, .int (nI i)), (3, .ref ob), (2, .ref (a 0)), (1, .ref o), (0, .ref sa)]) [2, 3, 4, 5, 6] rfl ?_
    refine V.widen (k2 := kc + 20) (n2 := nc + 400) (by have : rmL_tour.cells ≤ 20 := Nat.le_of_ble_eq_true rfl; show kc + rmL_tour.cells ≤ kc + 20; omega) (by have : rmL_tour.slots ≤ 400 := Nat.le_of_ble_eq_true rfl; show nc + rmL_tour.slots ≤ nc + 400; omega) ?_
    exact hk _ _ _ _ _ _ _ _ _ _ _ _ _ _ _ _ _ _ _ _ _ _ ⟨hz.cTs (s := (z, ai, pa, tu)) hj (by omega), (hh.save hz hs).mo, hl, hT, hD⟩
  · skip
    obtain ⟨rfl, hX1⟩ := hX1
    rcases hX1 with ⟨d0, rfl⟩
    · skip
      refine V.perm (pvL (List.Perm.refl _)) ?_
      refine V.eqws (ws2 := (SCW g sa L sc) ++ (OB g ob ff) ++ (GW g o b c u h x z y ai pa tu tx len s n sv) ++ (MW g a z hi tx aj pj tj pt ke (nI n) (nI len) th re nu du ha)) rfl ?_
      rw [show (cd2 IAE IAE) IAE = 1 from by decide +kernel]
      refine V.eqst (st2 := [.int 1]) rfl ?_
      refine V.istore (lv2 := [(5, .int 1), (4, .int (nI i)), (3, .ref ob), (2, .ref (a 0)), (1, .ref o), (0, .ref sa)]) dL_law_644 (by decide) rfl ?_
      refine V.aload_n 3 rfl dL_law_646 rfl ?_
      refine V.aload_n 5 rfl dL_law_647 rfl ?_
      refine V.iload 1 rfl dL_law_648 ?_
      refine V.iconst (v := 1) dL_law_650 (by decide) ?_
      refine V.iaddN (v := nI (i + 1)) dL_law_651 (nI_add i 1) ?_
      refine V.ialdL (i + 1) (by omega) hL dL_law_652 ?_
      rw [hq0]
      refine V.callVPf (F := ((SCW g sa L sc) ++ (OB g ob ff)) ++ (GW g o b c u h x z y ai pa tu tx len s n sv)) (ws2 := (SCW g sa L sc) ++ (OB g ob ff) ++ (GW g o b c u h x z y ai pa tu tx len s n sv) ++ (MW g a z hi tx aj pj tj pt ke (nI n) (nI len) 1 re nu du ha)) (st2 := [.int 0]) [.int q0] [] (kX6_tour_b1 g a z hi tx aj pj tj pt ke (nI n) (nI len) th re nu du ha q0 d0) gL_law_X6_tour rfl (by show _ ∧ _ ∧ _ ∧ _ = some (1 : Nat); decide +kernel) ⟨(Nat.le_of_ble_eq_true rfl), (Nat.le_of_ble_eq_true rfl)⟩ (hc := (rfl : vwCl[6]? = some (RX6, TX6, 15))) 0 rfl pvM rfl (Nat.le_of_ble_eq_true rfl) ⟨(by have : rmL_tour.cells ≤ 20 := Nat.le_of_ble_eq_true rfl; show kc + rmL_tour.cells + 0 ≤ 601024; omega), (by have : rmL_tour.slots ≤ 400 := Nat.le_of_ble_eq_true rfl; show nc + rmL_tour.slots + 0 ≤ 7293034; omega)⟩ dL_law_653 MWm pvM.symm rfl rfl rfl ?_
      refine V.istore (lv2 := [(6, .int 0), (5, .int 1), (4, .int (nI i)), (3, .ref ob), (2, .ref (a 0)), (1, .ref o), (0, .ref sa)]) dL_law_656 (by decide) rfl ?_
      refine V.aload_n 4 rfl dL_law_658 rfl ?_
      refine V.callVPf (F := ((SCW g sa L sc) ++ (OB g ob ff)) ++ (GW g o b c u h x z y ai pa tu tx len s n sv)) (ws2 := (SCW g sa L sc) ++ (OB g ob ff) ++ (GW g o b c u h x z y ai pa tu tx len s n sv) ++ (MW g a z hi tx aj pj tj pt ke (nI n) (nI len) 1 re nu du ha)) (st2 := [.int 1]) [] [] (kX6_thrown g a z hi tx aj pj tj pt ke (nI n) (nI len) 1 re nu du ha) gL_law_X6_thrown rfl (by show _ ∧ _ ∧ _ ∧ _ = some (0 : Nat); decide +kernel) ⟨(Nat.le_of_ble_eq_true rfl), (Nat.le_of_ble_eq_true rfl)⟩ (hc := (rfl : vwCl[6]? = some (RX6, TX6, 15))) 0 rfl pvM rfl (Nat.le_of_ble_eq_true rfl) ⟨(by have : rmL_tour.cells ≤ 20 := Nat.le_of_ble_eq_true rfl; show kc + rmL_tour.cells + 0 ≤ 601024; omega), (by have : rmL_tour.slots ≤ 400 := Nat.le_of_ble_eq_true rfl; show nc + rmL_tour.slots + 0 ≤ 7293034; omega)⟩ dL_law_659 MWm pvM.symm rfl rfl rfl ?_
      refine V.iload 1 rfl dL_law_662 ?_
      refine V.icmp_eq_t (tgt := 669) rfl dL_law_664 (by decide) ?_
      refine V.iload 1 rfl dL_law_669 ?_
      refine V.if_ne_t (tgt := 686) (by decide) dL_law_671 (by decide) ?_
      refine V.goto (tgt := 1529) dL_law_686 (by decide) ?_
      refine V.eqlv (lv2 := [(4, .int (nI i)), (3, .ref ob), (2, .ref (a 0)), (1, .ref o), (0, .ref sa)]) [2, 3, 4, 5, 6] rfl ?_
      refine V.widen (k2 := kc + 20) (n2 := nc + 400) (by have : rmL_tour.cells ≤ 20 := Nat.le_of_ble_eq_true rfl; show kc + rmL_tour.cells ≤ kc + 20; omega) (by have : rmL_tour.slots ≤ 400 := Nat.le_of_ble_eq_true rfl; show nc + rmL_tour.slots ≤ nc + 400; omega) ?_
      exact hk _ _ _ _ _ _ _ _ _ _ _ _ _ _ _ _ _ _ _ _ _ _ ⟨hz.mo, hh.mo, hl, hT, hD⟩
set_option maxHeartbeats 4000000 in
set_option maxRecDepth 100000 in
theorem cs_append (g : GT) (hst : g.1.stackTraces = false) (QF : QT) (sa ob o : Nat) (b c u h x a : Nat → Nat) (L i K : Nat) (sc : Nat → Int32) (kc nc : Nat) (hkc : kc + 20 ≤ 601024) (hnc : nc + 400 ≤ 7293034) (hiL : i + 6 ≤ L) (hL : L < 2147483648) (hK : K ≤ 590) (ff : Nat → Int64) (z y ai pa tu tx : Nat → Int32) (len : Nat) (s : BS) (n : Nat) (sv : SV) (hi aj pj tj pt ke : Nat → Int32) (th re nu du : Int32) (ha : Int64) (hI : LI K z n sv hi tx len s) (hk : ∀ (ff : Nat → Int64) (z y ai pa tu tx : Nat → Int32) (len : Nat) (s : BS) (n : Nat) (sv : SV) (hi aj pj tj pt ke : Nat → Int32) (th re nu du : Int32) (ha : Int64), LI (K + 1) z n sv hi tx len s → V g rmL_law RL cL_law wsL_law 9 QF (XL sa L sc) (kc + 20) (nc + 400) (SCW g sa L sc ++ OB g ob ff ++ GW g o b c u h x z y ai pa tu tx len s n sv ++ MW g a z hi tx aj pj tj pt ke (nI n) (nI len) th re nu du ha) 1529 [(4, .int (nI i)), (3, .ref ob), (2, .ref (a 0)), (1, .ref o), (0, .ref sa)] []) : V g rmL_law RL cL_law wsL_law 9 QF (XL sa L sc) kc nc ((SCW g sa L sc) ++ (OB g ob ff) ++ (GW g o b c u h x z y ai pa tu tx len s n sv) ++ (MW g a z hi tx aj pj tj pt ke (nI n) (nI len) th re nu du ha)) 702 [(4, .int (nI i)), (3, .ref ob), (2, .ref (a 0)), (1, .ref o), (0, .ref sa)] [] := by
  obtain ⟨hz, hh, hl, hT, hD⟩ := hI
  have hV : TV z := hz.1
  have hF : z 5 = nI (nf z) := hV.1.1
  have hF8 : nf z ≤ 8 := hV.nf
  have hP : z 6 = nI (np z) := hV.1.2.2.1
  have hP24 : np z ≤ 24 := hV.np
  have hn6 : n ≤ 6 := hh.1
  have hnl : n ≤ sv.length := hh.2.1
  have hl6 : sv.length ≤ 6 := hh.2.2.1
  obtain ⟨q0, hq0⟩ : ∃ q, sc (i + 1) = q := ⟨_, rfl⟩
  refine V.aload_n 3 rfl dL_law_702 rfl ?_
  refine V.aload_n 4 rfl dL_law_703 rfl ?_
  refine V.iload 0 rfl dL_law_704 ?_
  refine V.iconst (v := 1) dL_law_706 (by decide) ?_
  refine V.iaddN (v := nI (i + 1)) dL_law_707 (nI_add i 1) ?_
  refine V.ialdL (i + 1) (by omega) hL dL_law_708 ?_
  rw [hq0]
  refine V.aload_n 1 rfl dL_law_709 rfl ?_
  have hM := kX5_append g hst o b c u h x z y ai pa tu tx len s n sv q0 hl
  refine V.callSHP (F := (SCW g sa L sc) ++ (MW g a z hi tx aj pj tj pt ke (nI n) (nI len) th re nu du ha)) [.ref o, .int q0, .ref ob] [] (kL_append g (GW g o b c u h x z y ai pa tu tx len s n sv) o ob q0 ff rfl hM (fun v w q => by obtain ⟨_, e, hG⟩ := q; exact ⟨_, e⟩) (fun v w q => by obtain ⟨_, e, hG⟩ := q; exact by rw [hG]; exact FST.of GW_fe) (fun E w q => by rw [q.1]; exact FST.rf) (fun E w q => by (rcases q.2 with ⟨d0, q⟩ | ⟨d0, d1, q⟩ <;> first | exact q | exact Or.inl q | exact Or.inr q | exact Or.inr (Or.inl q) | exact Or.inr (Or.inr q)))) gL_law_L_append rfl (by show _ ∧ _ ∧ _ = some (3 : Nat); decide +kernel) ⟨(Nat.le_of_ble_eq_true rfl), (Nat.le_of_ble_eq_true rfl)⟩ pvW rfl (Nat.le_of_ble_eq_true rfl) ⟨(by have : rmL_append.cells ≤ 20 := Nat.le_of_ble_eq_true rfl; show kc + rmL_append.cells ≤ 601024; omega), (by have : rmL_append.slots ≤ 400 := Nat.le_of_ble_eq_true rfl; show nc + rmL_append.slots ≤ 7293034; omega)⟩ dL_law_710 (LQ.fst (fun v w q => by obtain ⟨_, e, hG⟩ := q; exact by rw [hG]; exact FST.of GW_fe) (fun E w q => by rw [q.1]; exact FST.rf)) (fun v w hq => ?_)
  rcases hq with ⟨r, w1, hQ1, rfl, rfl⟩ | ⟨E, w1, hX1, rfl, rfl⟩
  · skip
    obtain ⟨⟨d0, d1⟩, e, hG⟩ := hQ1
    injection e with e; injection e with e; subst e
    subst hG
    refine V.perm (pvL (List.Perm.refl _)) ?_
    refine V.eqws (ws2 := (SCW g sa L sc) ++ (OB g ob (vp_updL ff 0 (nI (len + 1)).toInt64)) ++ (GW g o b c u h x z y ai pa tu (upd tx len q0) (len + 1) s n sv) ++ (MW g a z hi tx aj pj tj pt ke (nI n) (nI len) th re nu du ha)) rfl ?_
    refine V.eqst (st2 := [.int 0]) rfl ?_
    refine V.istore (lv2 := [(5, .int 0), (4, .int (nI i)), (3, .ref ob), (2, .ref (a 0)), (1, .ref o), (0, .ref sa)]) dL_law_713 (by decide) rfl ?_
    refine V.aload_n 3 rfl dL_law_715 rfl ?_
    refine V.aload_n 5 rfl dL_law_716 rfl ?_
    refine V.iload 1 rfl dL_law_717 ?_
    refine V.iconst (v := 1) dL_law_719 (by decide) ?_
    refine V.iaddN (v := nI (i + 1)) dL_law_720 (nI_add i 1) ?_
    refine V.ialdL (i + 1) (by omega) hL dL_law_721 ?_
    rw [hq0]
    refine V.callVPf (F := ((SCW g sa L sc) ++ (OB g ob (vp_updL ff 0 (nI (len + 1)).toInt64))) ++ (GW g o b c u h x z y ai pa tu (upd tx len q0) (len + 1) s n sv)) (ws2 := (SCW g sa L sc) ++ (OB g ob (vp_updL ff 0 (nI (len + 1)).toInt64)) ++ (GW g o b c u h x z y ai pa tu (upd tx len q0) (len + 1) s n sv) ++ (MW g a z hi (upd tx len q0) aj pj tj pt ke (nI n) (nI (len + 1)) 0 re nu du ha)) (st2 := [.int (nI (len + 1))]) [.int q0] [] (kX6_append_ok g a z hi tx aj pj tj pt ke (nI n) th re nu du ha q0 len d0 d1) gL_law_X6_append rfl (by show _ ∧ _ ∧ _ ∧ _ = some (1 : Nat); decide +kernel) ⟨(Nat.le_of_ble_eq_true rfl), (Nat.le_of_ble_eq_true rfl)⟩ (hc := (rfl : vwCl[6]? = some (RX6, TX6, 15))) 0 rfl pvM rfl (Nat.le_of_ble_eq_true rfl) ⟨(by have : rmL_append.cells ≤ 20 := Nat.le_of_ble_eq_true rfl; show kc + rmL_append.cells + 0 ≤ 601024; omega), (by have : rmL_append.slots ≤ 400 := Nat.le_of_ble_eq_true rfl; show nc + rmL_append.slots + 0 ≤ 7293034; omega)⟩ dL_law_722 MWm pvM.symm rfl rfl rfl ?_
    refine V.istore (lv2 := [(6, .int (nI (len + 1))), (5, .int 0), (4, .int (nI i)), (3, .ref ob), (2, .ref (a 0)), (1, .ref o), (0, .ref sa)]) dL_law_725 (by decide) rfl ?_
    refine V.aload_n 4 rfl dL_law_727 rfl ?_
    refine V.callVPf (F := ((SCW g sa L sc) ++ (OB g ob (vp_updL ff 0 (nI (len + 1)).toInt64))) ++ (GW g o b c u h x z y ai pa tu (upd tx len q0) (len + 1) s n sv)) (ws2 := (SCW g sa L sc) ++ (OB g ob (vp_updL ff 0 (nI (len + 1)).toInt64)) ++ (GW g o b c u h x z y ai pa tu (upd tx len q0) (len + 1) s n sv) ++ (MW g a z hi (upd tx len q0) aj pj tj pt ke (nI n) (nI (len + 1)) 0 re nu du ha)) (st2 := [.int 0]) [] [] (kX6_thrown g a z hi (upd tx len q0) aj pj tj pt ke (nI n) (nI (len + 1)) 0 re nu du ha) gL_law_X6_thrown rfl (by show _ ∧ _ ∧ _ ∧ _ = some (0 : Nat); decide +kernel) ⟨(Nat.le_of_ble_eq_true rfl), (Nat.le_of_ble_eq_true rfl)⟩ (hc := (rfl : vwCl[6]? = some (RX6, TX6, 15))) 0 rfl pvM rfl (Nat.le_of_ble_eq_true rfl) ⟨(by have : rmL_append.cells ≤ 20 := Nat.le_of_ble_eq_true rfl; show kc + rmL_append.cells + 0 ≤ 601024; omega), (by have : rmL_append.slots ≤ 400 := Nat.le_of_ble_eq_true rfl; show nc + rmL_append.slots + 0 ≤ 7293034; omega)⟩ dL_law_728 MWm pvM.symm rfl rfl rfl ?_
    refine V.iload 1 rfl dL_law_731 ?_
    refine V.icmp_eq_t (tgt := 738) rfl dL_law_733 (by decide) ?_
    refine V.iload 1 rfl dL_law_738 ?_
    refine V.if_ne_f (tgt := 755) rfl dL_law_740 (by decide) ?_
    refine V.aload_n 3 rfl dL_law_743 rfl ?_
    refine V.iconst (v := 0) dL_law_744 (by decide) ?_
    refine V.lald (f := vp_updL ff 0 (nI (len + 1)).toInt64) 0 0 rfl rfl (by decide) (by decide) dL_law_745 ?_
    refine V.eqst (st2 := [.long (nI (len + 1)).toInt64]) rfl ?_
    refine V.iload 0 rfl dL_law_746 ?_
    refine V.i2l dL_law_748 ?_
    refine V.lcmp dL_law_749 ?_
    refine V.eqst (st2 := [.int 0]) (by rw [cmp_0] <;> rfl) ?_
    refine V.if_eq_t (tgt := 755) (by decide) dL_law_750 (by decide) ?_
    refine V.goto (tgt := 1529) dL_law_755 (by decide) ?_
    refine V.eqlv (lv2 := [(4, .int (nI i)), (3, .ref ob), (2, .ref (a 0)), (1, .ref o), (0, .ref sa)]) [2, 3, 4, 5, 6] rfl ?_
    refine V.widen (k2 := kc + 20) (n2 := nc + 400) (by have : rmL_append.cells ≤ 20 := Nat.le_of_ble_eq_true rfl; show kc + rmL_append.cells ≤ kc + 20; omega) (by have : rmL_append.slots ≤ 400 := Nat.le_of_ble_eq_true rfl; show nc + rmL_append.slots ≤ nc + 400; omega) ?_
    exact hk _ _ _ _ _ _ _ _ _ _ _ _ _ _ _ _ _ _ _ _ _ _ ⟨hz.mo, hh.mo, by omega, fun j hj => if w : j = len then (by subst w; rw [upd_eq]; exact wi_IN d0) else (by rw [upd_ne w]; exact hT j (by omega)), hD⟩
  · skip
    obtain ⟨rfl, hX1⟩ := hX1
    rcases hX1 with ⟨d0, rfl⟩ | ⟨d0, d1, rfl⟩
    · skip
      refine V.perm (pvL (List.Perm.refl _)) ?_
      refine V.eqws (ws2 := (SCW g sa L sc) ++ (OB g ob ff) ++ (GW g o b c u h x z y ai pa tu tx len s n sv) ++ (MW g a z hi tx aj pj tj pt ke (nI n) (nI len) th re nu du ha)) rfl ?_
      rw [show (cd2 IAE ISE) IAE = 1 from by decide +kernel]
      refine V.eqst (st2 := [.int 1]) rfl ?_
      refine V.istore (lv2 := [(5, .int 1), (4, .int (nI i)), (3, .ref ob), (2, .ref (a 0)), (1, .ref o), (0, .ref sa)]) dL_law_713 (by decide) rfl ?_
      refine V.aload_n 3 rfl dL_law_715 rfl ?_
      refine V.aload_n 5 rfl dL_law_716 rfl ?_
      refine V.iload 1 rfl dL_law_717 ?_
      refine V.iconst (v := 1) dL_law_719 (by decide) ?_
      refine V.iaddN (v := nI (i + 1)) dL_law_720 (nI_add i 1) ?_
      refine V.ialdL (i + 1) (by omega) hL dL_law_721 ?_
      rw [hq0]
      refine V.callVPf (F := ((SCW g sa L sc) ++ (OB g ob ff)) ++ (GW g o b c u h x z y ai pa tu tx len s n sv)) (ws2 := (SCW g sa L sc) ++ (OB g ob ff) ++ (GW g o b c u h x z y ai pa tu tx len s n sv) ++ (MW g a z hi tx aj pj tj pt ke (nI n) (nI len) 1 re nu du ha)) (st2 := [.int 0]) [.int q0] [] (kX6_append_b1 g a z hi tx aj pj tj pt ke (nI n) (nI len) th re nu du ha q0 d0) gL_law_X6_append rfl (by show _ ∧ _ ∧ _ ∧ _ = some (1 : Nat); decide +kernel) ⟨(Nat.le_of_ble_eq_true rfl), (Nat.le_of_ble_eq_true rfl)⟩ (hc := (rfl : vwCl[6]? = some (RX6, TX6, 15))) 0 rfl pvM rfl (Nat.le_of_ble_eq_true rfl) ⟨(by have : rmL_append.cells ≤ 20 := Nat.le_of_ble_eq_true rfl; show kc + rmL_append.cells + 0 ≤ 601024; omega), (by have : rmL_append.slots ≤ 400 := Nat.le_of_ble_eq_true rfl; show nc + rmL_append.slots + 0 ≤ 7293034; omega)⟩ dL_law_722 MWm pvM.symm rfl rfl rfl ?_
      refine V.istore (lv2 := [(6, .int 0), (5, .int 1), (4, .int (nI i)), (3, .ref ob), (2, .ref (a 0)), (1, .ref o), (0, .ref sa)]) dL_law_725 (by decide) rfl ?_
      refine V.aload_n 4 rfl dL_law_727 rfl ?_
      refine V.callVPf (F := ((SCW g sa L sc) ++ (OB g ob ff)) ++ (GW g o b c u h x z y ai pa tu tx len s n sv)) (ws2 := (SCW g sa L sc) ++ (OB g ob ff) ++ (GW g o b c u h x z y ai pa tu tx len s n sv) ++ (MW g a z hi tx aj pj tj pt ke (nI n) (nI len) 1 re nu du ha)) (st2 := [.int 1]) [] [] (kX6_thrown g a z hi tx aj pj tj pt ke (nI n) (nI len) 1 re nu du ha) gL_law_X6_thrown rfl (by show _ ∧ _ ∧ _ ∧ _ = some (0 : Nat); decide +kernel) ⟨(Nat.le_of_ble_eq_true rfl), (Nat.le_of_ble_eq_true rfl)⟩ (hc := (rfl : vwCl[6]? = some (RX6, TX6, 15))) 0 rfl pvM rfl (Nat.le_of_ble_eq_true rfl) ⟨(by have : rmL_append.cells ≤ 20 := Nat.le_of_ble_eq_true rfl; show kc + rmL_append.cells + 0 ≤ 601024; omega), (by have : rmL_append.slots ≤ 400 := Nat.le_of_ble_eq_true rfl; show nc + rmL_append.slots + 0 ≤ 7293034; omega)⟩ dL_law_728 MWm pvM.symm rfl rfl rfl ?_
      refine V.iload 1 rfl dL_law_731 ?_
      refine V.icmp_eq_t (tgt := 738) rfl dL_law_733 (by decide) ?_
      refine V.iload 1 rfl dL_law_738 ?_
      refine V.if_ne_t (tgt := 755) (by decide) dL_law_740 (by decide) ?_
      refine V.goto (tgt := 1529) dL_law_755 (by decide) ?_
      refine V.eqlv (lv2 := [(4, .int (nI i)), (3, .ref ob), (2, .ref (a 0)), (1, .ref o), (0, .ref sa)]) [2, 3, 4, 5, 6] rfl ?_
      refine V.widen (k2 := kc + 20) (n2 := nc + 400) (by have : rmL_append.cells ≤ 20 := Nat.le_of_ble_eq_true rfl; show kc + rmL_append.cells ≤ kc + 20; omega) (by have : rmL_append.slots ≤ 400 := Nat.le_of_ble_eq_true rfl; show nc + rmL_append.slots ≤ nc + 400; omega) ?_
      exact hk _ _ _ _ _ _ _ _ _ _ _ _ _ _ _ _ _ _ _ _ _ _ ⟨hz.mo, hh.mo, hl, hT, hD⟩
    · skip
      refine V.perm (pvL (List.Perm.refl _)) ?_
      refine V.eqws (ws2 := (SCW g sa L sc) ++ (OB g ob ff) ++ (GW g o b c u h x z y ai pa tu tx len s n sv) ++ (MW g a z hi tx aj pj tj pt ke (nI n) (nI len) th re nu du ha)) rfl ?_
      rw [show (cd2 IAE ISE) ISE = 2 from by decide +kernel]
      refine V.eqst (st2 := [.int 2]) rfl ?_
      refine V.istore (lv2 := [(5, .int 2), (4, .int (nI i)), (3, .ref ob), (2, .ref (a 0)), (1, .ref o), (0, .ref sa)]) dL_law_713 (by decide) rfl ?_
      refine V.aload_n 3 rfl dL_law_715 rfl ?_
      refine V.aload_n 5 rfl dL_law_716 rfl ?_
      refine V.iload 1 rfl dL_law_717 ?_
      refine V.iconst (v := 1) dL_law_719 (by decide) ?_
      refine V.iaddN (v := nI (i + 1)) dL_law_720 (nI_add i 1) ?_
      refine V.ialdL (i + 1) (by omega) hL dL_law_721 ?_
      rw [hq0]
      refine V.callVPf (F := ((SCW g sa L sc) ++ (OB g ob ff)) ++ (GW g o b c u h x z y ai pa tu tx len s n sv)) (ws2 := (SCW g sa L sc) ++ (OB g ob ff) ++ (GW g o b c u h x z y ai pa tu tx len s n sv) ++ (MW g a z hi tx aj pj tj pt ke (nI n) (nI len) 2 re nu du ha)) (st2 := [.int 0]) [.int q0] [] (kX6_append_b2 g a z hi tx aj pj tj pt ke (nI n) th re nu du ha q0 len d0 (by omega)) gL_law_X6_append rfl (by show _ ∧ _ ∧ _ ∧ _ = some (1 : Nat); decide +kernel) ⟨(Nat.le_of_ble_eq_true rfl), (Nat.le_of_ble_eq_true rfl)⟩ (hc := (rfl : vwCl[6]? = some (RX6, TX6, 15))) 0 rfl pvM rfl (Nat.le_of_ble_eq_true rfl) ⟨(by have : rmL_append.cells ≤ 20 := Nat.le_of_ble_eq_true rfl; show kc + rmL_append.cells + 0 ≤ 601024; omega), (by have : rmL_append.slots ≤ 400 := Nat.le_of_ble_eq_true rfl; show nc + rmL_append.slots + 0 ≤ 7293034; omega)⟩ dL_law_722 MWm pvM.symm rfl rfl rfl ?_
      refine V.istore (lv2 := [(6, .int 0), (5, .int 2), (4, .int (nI i)), (3, .ref ob), (2, .ref (a 0)), (1, .ref o), (0, .ref sa)]) dL_law_725 (by decide) rfl ?_
      refine V.aload_n 4 rfl dL_law_727 rfl ?_
      refine V.callVPf (F := ((SCW g sa L sc) ++ (OB g ob ff)) ++ (GW g o b c u h x z y ai pa tu tx len s n sv)) (ws2 := (SCW g sa L sc) ++ (OB g ob ff) ++ (GW g o b c u h x z y ai pa tu tx len s n sv) ++ (MW g a z hi tx aj pj tj pt ke (nI n) (nI len) 2 re nu du ha)) (st2 := [.int 2]) [] [] (kX6_thrown g a z hi tx aj pj tj pt ke (nI n) (nI len) 2 re nu du ha) gL_law_X6_thrown rfl (by show _ ∧ _ ∧ _ ∧ _ = some (0 : Nat); decide +kernel) ⟨(Nat.le_of_ble_eq_true rfl), (Nat.le_of_ble_eq_true rfl)⟩ (hc := (rfl : vwCl[6]? = some (RX6, TX6, 15))) 0 rfl pvM rfl (Nat.le_of_ble_eq_true rfl) ⟨(by have : rmL_append.cells ≤ 20 := Nat.le_of_ble_eq_true rfl; show kc + rmL_append.cells + 0 ≤ 601024; omega), (by have : rmL_append.slots ≤ 400 := Nat.le_of_ble_eq_true rfl; show nc + rmL_append.slots + 0 ≤ 7293034; omega)⟩ dL_law_728 MWm pvM.symm rfl rfl rfl ?_
      refine V.iload 1 rfl dL_law_731 ?_
      refine V.icmp_eq_t (tgt := 738) rfl dL_law_733 (by decide) ?_
      refine V.iload 1 rfl dL_law_738 ?_
      refine V.if_ne_t (tgt := 755) (by decide) dL_law_740 (by decide) ?_
      refine V.goto (tgt := 1529) dL_law_755 (by decide) ?_
      refine V.eqlv (lv2 := [(4, .int (nI i)), (3, .ref ob), (2, .ref (a 0)), (1, .ref o), (0, .ref sa)]) [2, 3, 4, 5, 6] rfl ?_
      refine V.widen (k2 := kc + 20) (n2 := nc + 400) (by have : rmL_append.cells ≤ 20 := Nat.le_of_ble_eq_true rfl; show kc + rmL_append.cells ≤ kc + 20; omega) (by have : rmL_append.slots ≤ 400 := Nat.le_of_ble_eq_true rfl; show nc + rmL_append.slots ≤ nc + 400; omega) ?_
      exact hk _ _ _ _ _ _ _ _ _ _ _ _ _ _ _ _ _ _ _ _ _ _ ⟨hz.mo, hh.mo, hl, hT, hD⟩
set_option maxHeartbeats 4000000 in
set_option maxRecDepth 100000 in
theorem cs_read (g : GT) (hst : g.1.stackTraces = false) (QF : QT) (sa ob o : Nat) (b c u h x a : Nat → Nat) (L i K : Nat) (sc : Nat → Int32) (kc nc : Nat) (hkc : kc + 20 ≤ 601024) (hnc : nc + 400 ≤ 7293034) (hiL : i + 6 ≤ L) (hL : L < 2147483648) (hK : K ≤ 590) (ff : Nat → Int64) (z y ai pa tu tx : Nat → Int32) (len : Nat) (s : BS) (n : Nat) (sv : SV) (hi aj pj tj pt ke : Nat → Int32) (th re nu du : Int32) (ha : Int64) (hI : LI K z n sv hi tx len s) (hk : ∀ (ff : Nat → Int64) (z y ai pa tu tx : Nat → Int32) (len : Nat) (s : BS) (n : Nat) (sv : SV) (hi aj pj tj pt ke : Nat → Int32) (th re nu du : Int32) (ha : Int64), LI (K + 1) z n sv hi tx len s → V g rmL_law RL cL_law wsL_law 9 QF (XL sa L sc) (kc + 20) (nc + 400) (SCW g sa L sc ++ OB g ob ff ++ GW g o b c u h x z y ai pa tu tx len s n sv ++ MW g a z hi tx aj pj tj pt ke (nI n) (nI len) th re nu du ha) 1529 [(4, .int (nI i)), (3, .ref ob), (2, .ref (a 0)), (1, .ref o), (0, .ref sa)] []) : V g rmL_law RL cL_law wsL_law 9 QF (XL sa L sc) kc nc ((SCW g sa L sc) ++ (OB g ob ff) ++ (GW g o b c u h x z y ai pa tu tx len s n sv) ++ (MW g a z hi tx aj pj tj pt ke (nI n) (nI len) th re nu du ha)) 784 [(4, .int (nI i)), (3, .ref ob), (2, .ref (a 0)), (1, .ref o), (0, .ref sa)] [] := by
  obtain ⟨hz, hh, hl, hT, hD⟩ := hI
  have hV : TV z := hz.1
  have hF : z 5 = nI (nf z) := hV.1.1
  have hF8 : nf z ≤ 8 := hV.nf
  have hP : z 6 = nI (np z) := hV.1.2.2.1
  have hP24 : np z ≤ 24 := hV.np
  have hn6 : n ≤ 6 := hh.1
  have hnl : n ≤ sv.length := hh.2.1
  have hl6 : sv.length ≤ 6 := hh.2.2.1
  refine V.aload_n 3 rfl dL_law_784 rfl ?_
  refine V.aload_n 1 rfl dL_law_785 rfl ?_
  have hM := kX5_read g hst o b c u h x z y ai pa tu tx len s n sv  ⟨hF, hF8, hP, hP24⟩ hl hD hn6 hnl hl6
  refine V.callSHP (F := (SCW g sa L sc) ++ (MW g a z hi tx aj pj tj pt ke (nI n) (nI len) th re nu du ha)) [.ref o, .ref ob] [] (kL_read g (GW g o b c u h x z y ai pa tu tx len s n sv) o ob  ff rfl hM (fun v w q => by obtain ⟨_, e, sv2, hs, hG⟩ := q; exact ⟨_, e⟩) (fun v w q => by obtain ⟨_, e, sv2, hs, hG⟩ := q; exact hG.1) (fun E w q => by rw [q.1]; exact FST.of GW_fe) (fun E w q => by (rcases q.2 with ⟨d0, q⟩ <;> first | exact q | exact Or.inl q | exact Or.inr q | exact Or.inr (Or.inl q) | exact Or.inr (Or.inr q)))) gL_law_L_read rfl (by show _ ∧ _ ∧ _ = some (2 : Nat); decide +kernel) ⟨(Nat.le_of_ble_eq_true rfl), (Nat.le_of_ble_eq_true rfl)⟩ pvW rfl (Nat.le_of_ble_eq_true rfl) ⟨(by have : rmL_read.cells ≤ 20 := Nat.le_of_ble_eq_true rfl; show kc + rmL_read.cells ≤ 601024; omega), (by have : rmL_read.slots ≤ 400 := Nat.le_of_ble_eq_true rfl; show nc + rmL_read.slots ≤ 7293034; omega)⟩ dL_law_786 (LQ.fst (fun v w q => by obtain ⟨_, e, sv2, hs, hG⟩ := q; exact hG.1) (fun E w q => by rw [q.1]; exact FST.of GW_fe)) (fun v w hq => ?_)
  rcases hq with ⟨r, w1, hQ1, rfl, rfl⟩ | ⟨E, w1, hX1, rfl, rfl⟩
  · skip
    obtain ⟨d0, e, sv2, hs, hG⟩ := hQ1
    injection e with e; injection e with e; subst e
    have hb2 : rbd len (ruA tx len pt nu) = true := by rw [← (beA_ru (s := s) (pt := pt) (nu := nu) hT).2]; exact d0
    obtain ⟨r1, r2, r3, r4⟩ := acA_rd (K := K) (pt := pt) (nu := nu) (s := (beA tx len s).2) hT hl (beA_BV hl hD).2 hz hb2
    refine V.perm (pvL hG.2.symm) ?_
    refine V.eqws (ws2 := (SCW g sa L sc) ++ (OB g ob (vp_updL ff 0 (nI (acA tx len z (beA tx len s).2).1).toInt64)) ++ (GW g o b c u h x ((acA tx len z (beA tx len s).2).2.1) y ai pa tu tx 0 ((acA tx len z (beA tx len s).2).2.2) (svM n + 1) sv2) ++ (MW g a z hi tx aj pj tj pt ke (nI n) (nI len) th re nu du ha)) rfl ?_
    refine V.eqst (st2 := [.int 0]) rfl ?_
    refine V.istore (lv2 := [(5, .int 0), (4, .int (nI i)), (3, .ref ob), (2, .ref (a 0)), (1, .ref o), (0, .ref sa)]) dL_law_789 (by decide) rfl ?_
    refine V.aload_n 3 rfl dL_law_791 rfl ?_
    refine V.callVPf (F := ((SCW g sa L sc) ++ (OB g ob (vp_updL ff 0 (nI (acA tx len z (beA tx len s).2).1).toInt64))) ++ (GW g o b c u h x ((acA tx len z (beA tx len s).2).2.1) y ai pa tu tx 0 ((acA tx len z (beA tx len s).2).2.2) (svM n + 1) sv2)) (ws2 := (SCW g sa L sc) ++ (OB g ob (vp_updL ff 0 (nI (acA tx len z (beA tx len s).2).1).toInt64)) ++ (GW g o b c u h x ((acA tx len z (beA tx len s).2).2.1) y ai pa tu tx 0 ((acA tx len z (beA tx len s).2).2.2) (svM n + 1) sv2) ++ (MW g a ((rdL (ruA tx len pt nu).2.1 ((ruA tx len pt nu).2.2.1 + 1) 0 z).2) (svA n z hi) tx aj pj tj ((ruA tx len pt nu).2.1) ke (nI (svM n + 1)) 0 0 (nI ((ruA tx len pt nu).2.2.1)) ((ruA tx len pt nu).2.2.2.1) (nI ((ruA tx len pt nu).2.2.2.2)) ha)) (st2 := [.int (nI ((rdL (ruA tx len pt nu).2.1 ((ruA tx len pt nu).2.2.1 + 1) 0 z).1))]) [] [] (kX6_read_ok g a z hi tx aj pj tj pt ke th re nu du ha len n hl hb2 hn6 (⟨hF, hF8, hP, hP24⟩)) gL_law_X6_read rfl (by show _ ∧ _ ∧ _ ∧ _ = some (0 : Nat); decide +kernel) ⟨(Nat.le_of_ble_eq_true rfl), (Nat.le_of_ble_eq_true rfl)⟩ (hc := (rfl : vwCl[6]? = some (RX6, TX6, 15))) 0 rfl pvM rfl (Nat.le_of_ble_eq_true rfl) ⟨(by have : rmL_read.cells ≤ 20 := Nat.le_of_ble_eq_true rfl; show kc + rmL_read.cells + 0 ≤ 601024; omega), (by have : rmL_read.slots ≤ 400 := Nat.le_of_ble_eq_true rfl; show nc + rmL_read.slots + 0 ≤ 7293034; omega)⟩ dL_law_792 MWm pvM.symm rfl rfl rfl ?_
    refine V.istore (lv2 := [(6, .int (nI ((rdL (ruA tx len pt nu).2.1 ((ruA tx len pt nu).2.2.1 + 1) 0 z).1))), (5, .int 0), (4, .int (nI i)), (3, .ref ob), (2, .ref (a 0)), (1, .ref o), (0, .ref sa)]) dL_law_795 (by decide) rfl ?_
    refine V.aload_n 4 rfl dL_law_797 rfl ?_
    refine V.callVPf (F := ((SCW g sa L sc) ++ (OB g ob (vp_updL ff 0 (nI (acA tx len z (beA tx len s).2).1).toInt64))) ++ (GW g o b c u h x ((acA tx len z (beA tx len s).2).2.1) y ai pa tu tx 0 ((acA tx len z (beA tx len s).2).2.2) (svM n + 1) sv2)) (ws2 := (SCW g sa L sc) ++ (OB g ob (vp_updL ff 0 (nI (acA tx len z (beA tx len s).2).1).toInt64)) ++ (GW g o b c u h x ((acA tx len z (beA tx len s).2).2.1) y ai pa tu tx 0 ((acA tx len z (beA tx len s).2).2.2) (svM n + 1) sv2) ++ (MW g a ((rdL (ruA tx len pt nu).2.1 ((ruA tx len pt nu).2.2.1 + 1) 0 z).2) (svA n z hi) tx aj pj tj ((ruA tx len pt nu).2.1) ke (nI (svM n + 1)) 0 0 (nI ((ruA tx len pt nu).2.2.1)) ((ruA tx len pt nu).2.2.2.1) (nI ((ruA tx len pt nu).2.2.2.2)) ha)) (st2 := [.int 0]) [] [] (kX6_thrown g a ((rdL (ruA tx len pt nu).2.1 ((ruA tx len pt nu).2.2.1 + 1) 0 z).2) (svA n z hi) tx aj pj tj ((ruA tx len pt nu).2.1) ke (nI (svM n + 1)) 0 0 (nI ((ruA tx len pt nu).2.2.1)) ((ruA tx len pt nu).2.2.2.1) (nI ((ruA tx len pt nu).2.2.2.2)) ha) gL_law_X6_thrown rfl (by show _ ∧ _ ∧ _ ∧ _ = some (0 : Nat); decide +kernel) ⟨(Nat.le_of_ble_eq_true rfl), (Nat.le_of_ble_eq_true rfl)⟩ (hc := (rfl : vwCl[6]? = some (RX6, TX6, 15))) 0 rfl pvM rfl (Nat.le_of_ble_eq_true rfl) ⟨(by have : rmL_read.cells ≤ 20 := Nat.le_of_ble_eq_true rfl; show kc + rmL_read.cells + 0 ≤ 601024; omega), (by have : rmL_read.slots ≤ 400 := Nat.le_of_ble_eq_true rfl; show nc + rmL_read.slots + 0 ≤ 7293034; omega)⟩ dL_law_798 MWm pvM.symm rfl rfl rfl ?_
    refine V.iload 1 rfl dL_law_801 ?_
    refine V.icmp_eq_t (tgt := 808) rfl dL_law_803 (by decide) ?_
    refine V.iload 1 rfl dL_law_808 ?_
    refine V.if_ne_f (tgt := 825) rfl dL_law_810 (by decide) ?_
    refine V.aload_n 3 rfl dL_law_813 rfl ?_
    refine V.iconst (v := 0) dL_law_814 (by decide) ?_
    refine V.lald (f := vp_updL ff 0 (nI (acA tx len z (beA tx len s).2).1).toInt64) 0 0 rfl rfl (by decide) (by decide) dL_law_815 ?_
    refine V.eqst (st2 := [.long (nI (acA tx len z (beA tx len s).2).1).toInt64]) rfl ?_
    refine V.iload 0 rfl dL_law_816 ?_
    refine V.i2l dL_law_818 ?_
    rw [← r1]
    refine V.lcmp dL_law_819 ?_
    refine V.eqst (st2 := [.int 0]) (by rw [cmp_0] <;> rfl) ?_
    refine V.if_eq_t (tgt := 825) (by decide) dL_law_820 (by decide) ?_
    refine V.goto (tgt := 1529) dL_law_825 (by decide) ?_
    rw [← r2]
    refine V.eqlv (lv2 := [(4, .int (nI i)), (3, .ref ob), (2, .ref (a 0)), (1, .ref o), (0, .ref sa)]) [2, 3, 4, 5, 6] rfl ?_
    refine V.widen (k2 := kc + 20) (n2 := nc + 400) (by have : rmL_read.cells ≤ 20 := Nat.le_of_ble_eq_true rfl; show kc + rmL_read.cells ≤ kc + 20; omega) (by have : rmL_read.slots ≤ 400 := Nat.le_of_ble_eq_true rfl; show nc + rmL_read.slots ≤ nc + 400; omega) ?_
    exact hk _ _ _ _ _ _ _ _ _ _ _ _ _ _ _ _ _ _ _ _ _ _ ⟨r3.mo, (hh.save hz hs).mo, by omega, fun j hj => absurd hj (Nat.not_lt_zero _), r4⟩
  · skip
    obtain ⟨rfl, hX1⟩ := hX1
    rcases hX1 with ⟨d0, rfl⟩
    · skip
      refine V.perm (pvL (List.Perm.refl _)) ?_
      refine V.eqws (ws2 := (SCW g sa L sc) ++ (OB g ob ff) ++ (GW g o b c u h x z y ai pa tu tx len ((beA tx len s).2) n sv) ++ (MW g a z hi tx aj pj tj pt ke (nI n) (nI len) th re nu du ha)) rfl ?_
      rw [show (cd2 IAE IAE) IAE = 1 from by decide +kernel]
      refine V.eqst (st2 := [.int 1]) rfl ?_
      refine V.istore (lv2 := [(5, .int 1), (4, .int (nI i)), (3, .ref ob), (2, .ref (a 0)), (1, .ref o), (0, .ref sa)]) dL_law_789 (by decide) rfl ?_
      refine V.aload_n 3 rfl dL_law_791 rfl ?_
      refine V.callVPf (F := ((SCW g sa L sc) ++ (OB g ob ff)) ++ (GW g o b c u h x z y ai pa tu tx len ((beA tx len s).2) n sv)) (ws2 := (SCW g sa L sc) ++ (OB g ob ff) ++ (GW g o b c u h x z y ai pa tu tx len ((beA tx len s).2) n sv) ++ (MW g a z hi tx aj pj tj ((ruA tx len pt nu).2.1) ke (nI n) (nI len) 1 (nI ((ruA tx len pt nu).2.2.1)) ((ruA tx len pt nu).2.2.2.1) (nI ((ruA tx len pt nu).2.2.2.2)) ha)) (st2 := [.int 0]) [] [] (kX6_read_b1 g a z hi tx aj pj tj pt ke (nI n) th re nu du ha len hl (by rw [← (beA_ru (s := s) (pt := pt) (nu := nu) hT).2]; exact d0)) gL_law_X6_read rfl (by show _ ∧ _ ∧ _ ∧ _ = some (0 : Nat); decide +kernel) ⟨(Nat.le_of_ble_eq_true rfl), (Nat.le_of_ble_eq_true rfl)⟩ (hc := (rfl : vwCl[6]? = some (RX6, TX6, 15))) 0 rfl pvM rfl (Nat.le_of_ble_eq_true rfl) ⟨(by have : rmL_read.cells ≤ 20 := Nat.le_of_ble_eq_true rfl; show kc + rmL_read.cells + 0 ≤ 601024; omega), (by have : rmL_read.slots ≤ 400 := Nat.le_of_ble_eq_true rfl; show nc + rmL_read.slots + 0 ≤ 7293034; omega)⟩ dL_law_792 MWm pvM.symm rfl rfl rfl ?_
      refine V.istore (lv2 := [(6, .int 0), (5, .int 1), (4, .int (nI i)), (3, .ref ob), (2, .ref (a 0)), (1, .ref o), (0, .ref sa)]) dL_law_795 (by decide) rfl ?_
      refine V.aload_n 4 rfl dL_law_797 rfl ?_
      refine V.callVPf (F := ((SCW g sa L sc) ++ (OB g ob ff)) ++ (GW g o b c u h x z y ai pa tu tx len ((beA tx len s).2) n sv)) (ws2 := (SCW g sa L sc) ++ (OB g ob ff) ++ (GW g o b c u h x z y ai pa tu tx len ((beA tx len s).2) n sv) ++ (MW g a z hi tx aj pj tj ((ruA tx len pt nu).2.1) ke (nI n) (nI len) 1 (nI ((ruA tx len pt nu).2.2.1)) ((ruA tx len pt nu).2.2.2.1) (nI ((ruA tx len pt nu).2.2.2.2)) ha)) (st2 := [.int 1]) [] [] (kX6_thrown g a z hi tx aj pj tj ((ruA tx len pt nu).2.1) ke (nI n) (nI len) 1 (nI ((ruA tx len pt nu).2.2.1)) ((ruA tx len pt nu).2.2.2.1) (nI ((ruA tx len pt nu).2.2.2.2)) ha) gL_law_X6_thrown rfl (by show _ ∧ _ ∧ _ ∧ _ = some (0 : Nat); decide +kernel) ⟨(Nat.le_of_ble_eq_true rfl), (Nat.le_of_ble_eq_true rfl)⟩ (hc := (rfl : vwCl[6]? = some (RX6, TX6, 15))) 0 rfl pvM rfl (Nat.le_of_ble_eq_true rfl) ⟨(by have : rmL_read.cells ≤ 20 := Nat.le_of_ble_eq_true rfl; show kc + rmL_read.cells + 0 ≤ 601024; omega), (by have : rmL_read.slots ≤ 400 := Nat.le_of_ble_eq_true rfl; show nc + rmL_read.slots + 0 ≤ 7293034; omega)⟩ dL_law_798 MWm pvM.symm rfl rfl rfl ?_
      refine V.iload 1 rfl dL_law_801 ?_
      refine V.icmp_eq_t (tgt := 808) rfl dL_law_803 (by decide) ?_
      refine V.iload 1 rfl dL_law_808 ?_
      refine V.if_ne_t (tgt := 825) (by decide) dL_law_810 (by decide) ?_
      refine V.goto (tgt := 1529) dL_law_825 (by decide) ?_
      refine V.eqlv (lv2 := [(4, .int (nI i)), (3, .ref ob), (2, .ref (a 0)), (1, .ref o), (0, .ref sa)]) [2, 3, 4, 5, 6] rfl ?_
      refine V.widen (k2 := kc + 20) (n2 := nc + 400) (by have : rmL_read.cells ≤ 20 := Nat.le_of_ble_eq_true rfl; show kc + rmL_read.cells ≤ kc + 20; omega) (by have : rmL_read.slots ≤ 400 := Nat.le_of_ble_eq_true rfl; show nc + rmL_read.slots ≤ nc + 400; omega) ?_
      exact hk _ _ _ _ _ _ _ _ _ _ _ _ _ _ _ _ _ _ _ _ _ _ ⟨hz.mo, hh.mo, hl, hT, (beA_BV hl hD).2⟩
