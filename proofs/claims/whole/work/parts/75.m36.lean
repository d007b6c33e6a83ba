set_option maxHeartbeats 4000000 in
set_option maxRecDepth 100000 in
theorem cs_undo (g : GT) (hst : g.1.stackTraces = false) (QF : QT) (sa ob o : Nat) (b c u h x a : Nat → Nat) (L i K : Nat) (sc : Nat → Int32) (kc nc : Nat) (hkc : kc + 20 ≤ 601024) (hnc : nc + 400 ≤ 7293034) (hiL : i + 6 ≤ L) (hL : L < 2147483648) (hK : K ≤ 590) (ff : Nat → Int64) (z y ai pa tu tx : Nat → Int32) (len : Nat) (s : BS) (n : Nat) (sv : SV) (hi aj pj tj pt ke : Nat → Int32) (th re nu du : Int32) (ha : Int64) (hI : LI K z n sv hi tx len s) (hk : ∀ (ff : Nat → Int64) (z y ai pa tu tx : Nat → Int32) (len : Nat) (s : BS) (n : Nat) (sv : SV) (hi aj pj tj pt ke : Nat → Int32) (th re nu du : Int32) (ha : Int64), LI (K + 1) z n sv hi tx len s → V g rmL_law RL cL_law wsL_law 9 QF (XL sa L sc) (kc + 20) (nc + 400) (SCW g sa L sc ++ OB g ob ff ++ GW g o b c u h x z y ai pa tu tx len s n sv ++ MW g a z hi tx aj pj tj pt ke (nI n) (nI len) th re nu du ha) 1529 [(4, .int (nI i)), (3, .ref ob), (2, .ref (a 0)), (1, .ref o), (0, .ref sa)] []) : V g rmL_law RL cL_law wsL_law 9 QF (XL sa L sc) kc nc ((SCW g sa L sc) ++ (OB g ob ff) ++ (GW g o b c u h x z y ai pa tu tx len s n sv) ++ (MW g a z hi tx aj pj tj pt ke (nI n) (nI len) th re nu du ha)) 828 [(4, .int (nI i)), (3, .ref ob), (2, .ref (a 0)), (1, .ref o), (0, .ref sa)] [] := by
  obtain ⟨hz, hh, hl, hT, hD⟩ := hI
  have hV : TV z := hz.1
  have hF : z 5 = nI (nf z) := hV.1.1
  have hF8 : nf z ≤ 8 := hV.nf
  have hP : z 6 = nI (np z) := hV.1.2.2.1
  have hP24 : np z ≤ 24 := hV.np
  have hn6 : n ≤ 6 := hh.1
  have hnl : n ≤ sv.length := hh.2.1
  have hl6 : sv.length ≤ 6 := hh.2.2.1
  refine V.aload_n 3 rfl dL_law_828 rfl ?_
  refine V.aload_n 1 rfl dL_law_829 rfl ?_
  have hM := kX5_undo g hst o b c u h x z y ai pa tu tx len s n sv  hn6 hnl hl6
  refine V.callSHP (F := (SCW g sa L sc) ++ (MW g a z hi tx aj pj tj pt ke (nI n) (nI len) th re nu du ha)) [.ref o, .ref ob] [] (kL_undo g (GW g o b c u h x z y ai pa tu tx len s n sv) o ob  ff rfl hM (fun v w q => by obtain ⟨_, _, _, _, e, hG⟩ := q; exact ⟨_, e⟩) (fun v w q => by obtain ⟨_, _, _, _, e, hG⟩ := q; exact by rw [hG]; exact FST.of GW_fe) (fun E w q => by rw [q.1]; exact FST.rf) (fun E w q => by (rcases q.2 with ⟨d0, q⟩ <;> first | exact q | exact Or.inl q | exact Or.inr q | exact Or.inr (Or.inl q) | exact Or.inr (Or.inr q)))) gL_law_L_undo rfl (by show _ ∧ _ ∧ _ = some (2 : Nat); decide +kernel) ⟨(Nat.le_of_ble_eq_true rfl), (Nat.le_of_ble_eq_true rfl)⟩ pvW rfl (Nat.le_of_ble_eq_true rfl) ⟨(by have : rmL_undo.cells ≤ 20 := Nat.le_of_ble_eq_true rfl; show kc + rmL_undo.cells ≤ 601024; omega), (by have : rmL_undo.slots ≤ 400 := Nat.le_of_ble_eq_true rfl; show nc + rmL_undo.slots ≤ 7293034; omega)⟩ dL_law_830 (LQ.fst (fun v w q => by obtain ⟨_, _, _, _, e, hG⟩ := q; exact by rw [hG]; exact FST.of GW_fe) (fun E w q => by rw [q.1]; exact FST.rf)) (fun v w hq => ?_)
  rcases hq with ⟨r, w1, hQ1, rfl, rfl⟩ | ⟨E, w1, hX1, rfl, rfl⟩
  · skip
    obtain ⟨m, xx, rfl, hx, e, hG⟩ := hQ1
    injection e with e; injection e with e; subst e
    obtain ⟨x9, g1, g2, g3⟩ := hh.2.2.2 m (by omega)
    have g4 : xx = x9 := by rw [hx] at g1; exact Option.some.inj g1
    subst g4
    have hcg : ∀ j, j < 248 → udZ m hi z j = xx.2 j := fun j hj => by rw [udZ_at hj, g2 j hj]
    subst hG
    refine V.perm (pvL (List.Perm.refl _)) ?_
    refine V.eqws (ws2 := (SCW g sa L sc) ++ (OB g ob (vp_updL ff 0 (nI m).toInt64)) ++ (GW g o b c u h x xx.2 y ai pa tu tx len s m sv) ++ (MW g a z hi tx aj pj tj pt ke (nI (m + 1)) (nI len) th re nu du ha)) rfl ?_
    refine V.eqst (st2 := [.int 0]) rfl ?_
    refine V.istore (lv2 := [(5, .int 0), (4, .int (nI i)), (3, .ref ob), (2, .ref (a 0)), (1, .ref o), (0, .ref sa)]) dL_law_833 (by decide) rfl ?_
    refine V.aload_n 3 rfl dL_law_835 rfl ?_
    refine V.callVPf (F := ((SCW g sa L sc) ++ (OB g ob (vp_updL ff 0 (nI m).toInt64))) ++ (GW g o b c u h x xx.2 y ai pa tu tx len s m sv)) (ws2 := (SCW g sa L sc) ++ (OB g ob (vp_updL ff 0 (nI m).toInt64)) ++ (GW g o b c u h x xx.2 y ai pa tu tx len s m sv) ++ (MW g a (udZ ((m + 1) - 1) hi z) hi tx aj pj tj pt ke (nI ((m + 1) - 1)) (nI len) 0 re nu du ha)) (st2 := [.int (nI ((m + 1) - 1))]) [] [] (kX6_undo_ok g a z hi tx aj pj tj pt ke (nI len) th re nu du ha (m + 1) (by omega) hn6) gL_law_X6_undo rfl (by show _ ∧ _ ∧ _ ∧ _ = some (0 : Nat); decide +kernel) ⟨(Nat.le_of_ble_eq_true rfl), (Nat.le_of_ble_eq_true rfl)⟩ (hc := (rfl : vwCl[6]? = some (RX6, TX6, 15))) 0 rfl pvM rfl (Nat.le_of_ble_eq_true rfl) ⟨(by have : rmL_undo.cells ≤ 20 := Nat.le_of_ble_eq_true rfl; show kc + rmL_undo.cells + 0 ≤ 601024; omega), (by have : rmL_undo.slots ≤ 400 := Nat.le_of_ble_eq_true rfl; show nc + rmL_undo.slots + 0 ≤ 7293034; omega)⟩ dL_law_836 MWm pvM.symm rfl rfl rfl ?_
    refine V.istore (lv2 := [(6, .int (nI ((m + 1) - 1))), (5, .int 0), (4, .int (nI i)), (3, .ref ob), (2, .ref (a 0)), (1, .ref o), (0, .ref sa)]) dL_law_839 (by decide) rfl ?_
    refine V.aload_n 4 rfl dL_law_841 rfl ?_
    refine V.callVPf (F := ((SCW g sa L sc) ++ (OB g ob (vp_updL ff 0 (nI m).toInt64))) ++ (GW g o b c u h x xx.2 y ai pa tu tx len s m sv)) (ws2 := (SCW g sa L sc) ++ (OB g ob (vp_updL ff 0 (nI m).toInt64)) ++ (GW g o b c u h x xx.2 y ai pa tu tx len s m sv) ++ (MW g a (udZ ((m + 1) - 1) hi z) hi tx aj pj tj pt ke (nI ((m + 1) - 1)) (nI len) 0 re nu du ha)) (st2 := [.int 0]) [] [] (kX6_thrown g a (udZ ((m + 1) - 1) hi z) hi tx aj pj tj pt ke (nI ((m + 1) - 1)) (nI len) 0 re nu du ha) gL_law_X6_thrown rfl (by show _ ∧ _ ∧ _ ∧ _ = some (0 : Nat); decide +kernel) ⟨(Nat.le_of_ble_eq_true rfl), (Nat.le_of_ble_eq_true rfl)⟩ (hc := (rfl : vwCl[6]? = some (RX6, TX6, 15))) 0 rfl pvM rfl (Nat.le_of_ble_eq_true rfl) ⟨(by have : rmL_undo.cells ≤ 20 := Nat.le_of_ble_eq_true rfl; show kc + rmL_undo.cells + 0 ≤ 601024; omega), (by have : rmL_undo.slots ≤ 400 := Nat.le_of_ble_eq_true rfl; show nc + rmL_undo.slots + 0 ≤ 7293034; omega)⟩ dL_law_842 MWm pvM.symm rfl rfl rfl ?_
    refine V.iload 1 rfl dL_law_845 ?_
    refine V.icmp_eq_t (tgt := 852) rfl dL_law_847 (by decide) ?_
    refine V.iload 1 rfl dL_law_852 ?_
    refine V.if_ne_f (tgt := 869) rfl dL_law_854 (by decide) ?_
    refine V.aload_n 3 rfl dL_law_857 rfl ?_
    refine V.iconst (v := 0) dL_law_858 (by decide) ?_
    refine V.lald (f := vp_updL ff 0 (nI m).toInt64) 0 0 rfl rfl (by decide) (by decide) dL_law_859 ?_
    refine V.eqst (st2 := [.long (nI m).toInt64]) rfl ?_
    refine V.iload 0 rfl dL_law_860 ?_
    refine V.i2l dL_law_862 ?_
    rw [Nat.add_sub_cancel]
    refine V.lcmp dL_law_863 ?_
    refine V.eqst (st2 := [.int 0]) (by rw [cmp_0] <;> rfl) ?_
    refine V.if_eq_t (tgt := 869) (by decide) dL_law_864 (by decide) ?_
    refine V.goto (tgt := 1529) dL_law_869 (by decide) ?_
    rw [GW_cg hcg]
    refine V.eqlv (lv2 := [(4, .int (nI i)), (3, .ref ob), (2, .ref (a 0)), (1, .ref o), (0, .ref sa)]) [2, 3, 4, 5, 6] rfl ?_
    refine V.widen (k2 := kc + 20) (n2 := nc + 400) (by have : rmL_undo.cells ≤ 20 := Nat.le_of_ble_eq_true rfl; show kc + rmL_undo.cells ≤ kc + 20; omega) (by have : rmL_undo.slots ≤ 400 := Nat.le_of_ble_eq_true rfl; show nc + rmL_undo.slots ≤ nc + 400; omega) ?_
    exact hk _ _ _ _ _ _ _ _ _ _ _ _ _ _ _ _ _ _ _ _ _ _ ⟨(g3.cg hcg).mo, hh.pop.mo, hl, hT, hD⟩
  · skip
    obtain ⟨rfl, hX1⟩ := hX1
    rcases hX1 with ⟨d0, rfl⟩
    · skip
      refine V.perm (pvL (List.Perm.refl _)) ?_
      refine V.eqws (ws2 := (SCW g sa L sc) ++ (OB g ob ff) ++ (GW g o b c u h x z y ai pa tu tx len s n sv) ++ (MW g a z hi tx aj pj tj pt ke (nI n) (nI len) th re nu du ha)) rfl ?_
      rw [show (cd2 ISE ISE) ISE = 1 from by decide +kernel]
      refine V.eqst (st2 := [.int 1]) rfl ?_
      refine V.istore (lv2 := [(5, .int 1), (4, .int (nI i)), (3, .ref ob), (2, .ref (a 0)), (1, .ref o), (0, .ref sa)]) dL_law_833 (by decide) rfl ?_
      refine V.aload_n 3 rfl dL_law_835 rfl ?_
      refine V.callVPf (F := ((SCW g sa L sc) ++ (OB g ob ff)) ++ (GW g o b c u h x z y ai pa tu tx len s n sv)) (ws2 := (SCW g sa L sc) ++ (OB g ob ff) ++ (GW g o b c u h x z y ai pa tu tx len s n sv) ++ (MW g a z hi tx aj pj tj pt ke (nI n) (nI len) 1 re nu du ha)) (st2 := [.int 0]) [] [] (kX6_undo_b1 g a z hi tx aj pj tj pt ke (nI len) th re nu du ha n d0) gL_law_X6_undo rfl (by show _ ∧ _ ∧ _ ∧ _ = some (0 : Nat); decide +kernel) ⟨(Nat.le_of_ble_eq_true rfl), (Nat.le_of_ble_eq_true rfl)⟩ (hc := (rfl : vwCl[6]? = some (RX6, TX6, 15))) 0 rfl pvM rfl (Nat.le_of_ble_eq_true rfl) ⟨(by have : rmL_undo.cells ≤ 20 := Nat.le_of_ble_eq_true rfl; show kc + rmL_undo.cells + 0 ≤ 601024; omega), (by have : rmL_undo.slots ≤ 400 := Nat.le_of_ble_eq_true rfl; show nc + rmL_undo.slots + 0 ≤ 7293034; omega)⟩ dL_law_836 MWm pvM.symm rfl rfl rfl ?_
      refine V.istore (lv2 := [(6, .int 0), (5, .int 1), (4, .int (nI i)), (3, .ref ob), (2, .ref (a 0)), (1, .ref o), (0, .ref sa)]) dL_law_839 (by decide) rfl ?_
      refine V.aload_n 4 rfl dL_law_841 rfl ?_
      refine V.callVPf (F := ((SCW g sa L sc) ++ (OB g ob ff)) ++ (GW g o b c u h x z y ai pa tu tx len s n sv)) (ws2 := (SCW g sa L sc) ++ (OB g ob ff) ++ (GW g o b c u h x z y ai pa tu tx len s n sv) ++ (MW g a z hi tx aj pj tj pt ke (nI n) (nI len) 1 re nu du ha)) (st2 := [.int 1]) [] [] (kX6_thrown g a z hi tx aj pj tj pt ke (nI n) (nI len) 1 re nu du ha) gL_law_X6_thrown rfl (by show _ ∧ _ ∧ _ ∧ _ = some (0 : Nat); decide +kernel) ⟨(Nat.le_of_ble_eq_true rfl), (Nat.le_of_ble_eq_true rfl)⟩ (hc := (rfl : vwCl[6]? = some (RX6, TX6, 15))) 0 rfl pvM rfl (Nat.le_of_ble_eq_true rfl) ⟨(by have : rmL_undo.cells ≤ 20 := Nat.le_of_ble_eq_true rfl; show kc + rmL_undo.cells + 0 ≤ 601024; omega), (by have : rmL_undo.slots ≤ 400 := Nat.le_of_ble_eq_true rfl; show nc + rmL_undo.slots + 0 ≤ 7293034; omega)⟩ dL_law_842 MWm pvM.symm rfl rfl rfl ?_
      refine V.iload 1 rfl dL_law_845 ?_
      refine V.icmp_eq_t (tgt := 852) rfl dL_law_847 (by decide) ?_
      refine V.iload 1 rfl dL_law_852 ?_
      refine V.if_ne_t (tgt := 869) (by decide) dL_law_854 (by decide) ?_
      refine V.goto (tgt := 1529) dL_law_869 (by decide) ?_
      refine V.eqlv (lv2 := [(4, .int (nI i)), (3, .ref ob), (2, .ref (a 0)), (1, .ref o), (0, .ref sa)]) [2, 3, 4, 5, 6] rfl ?_
      refine V.widen (k2 := kc + 20) (n2 := nc + 400) (by have : rmL_undo.cells ≤ 20 := Nat.le_of_ble_eq_true rfl; show kc + rmL_undo.cells ≤ kc + 20; omega) (by have : rmL_undo.slots ≤ 400 := Nat.le_of_ble_eq_true rfl; show nc + rmL_undo.slots ≤ nc + 400; omega) ?_
      exact hk _ _ _ _ _ _ _ _ _ _ _ _ _ _ _ _ _ _ _ _ _ _ ⟨hz.mo, hh.mo, hl, hT, hD⟩
set_option maxHeartbeats 4000000 in
set_option maxRecDepth 100000 in
theorem cs_feeder (g : GT) (hst : g.1.stackTraces = false) (QF : QT) (sa ob o : Nat) (b c u h x a : Nat → Nat) (L i K : Nat) (sc : Nat → Int32) (kc nc : Nat) (hkc : kc + 20 ≤ 601024) (hnc : nc + 400 ≤ 7293034) (hiL : i + 6 ≤ L) (hL : L < 2147483648) (hK : K ≤ 590) (ff : Nat → Int64) (z y ai pa tu tx : Nat → Int32) (len : Nat) (s : BS) (n : Nat) (sv : SV) (hi aj pj tj pt ke : Nat → Int32) (th re nu du : Int32) (ha : Int64) (hI : LI K z n sv hi tx len s) (hk : ∀ (ff : Nat → Int64) (z y ai pa tu tx : Nat → Int32) (len : Nat) (s : BS) (n : Nat) (sv : SV) (hi aj pj tj pt ke : Nat → Int32) (th re nu du : Int32) (ha : Int64), LI (K + 1) z n sv hi tx len s → V g rmL_law RL cL_law wsL_law 9 QF (XL sa L sc) (kc + 20) (nc + 400) (SCW g sa L sc ++ OB g ob ff ++ GW g o b c u h x z y ai pa tu tx len s n sv ++ MW g a z hi tx aj pj tj pt ke (nI n) (nI len) th re nu du ha) 1529 [(4, .int (nI i)), (3, .ref ob), (2, .ref (a 0)), (1, .ref o), (0, .ref sa)] []) : V g rmL_law RL cL_law wsL_law 9 QF (XL sa L sc) kc nc ((SCW g sa L sc) ++ (OB g ob ff) ++ (GW g o b c u h x z y ai pa tu tx len s n sv) ++ (MW g a z hi tx aj pj tj pt ke (nI n) (nI len) th re nu du ha)) 872 [(4, .int (nI i)), (3, .ref ob), (2, .ref (a 0)), (1, .ref o), (0, .ref sa)] [] := by
  obtain ⟨hz, hh, hl, hT, hD⟩ := hI
  have hV : TV z := hz.1
  have hF : z 5 = nI (nf z) := hV.1.1
  have hF8 : nf z ≤ 8 := hV.nf
  have hP : z 6 = nI (np z) := hV.1.2.2.1
  have hP24 : np z ≤ 24 := hV.np
  have hn6 : n ≤ 6 := hh.1
  have hnl : n ≤ sv.length := hh.2.1
  have hl6 : sv.length ≤ 6 := hh.2.2.1
  obtain ⟨q0, hq0⟩ : ∃ q, sc (i + 1) = q := ⟨_, rfl⟩
  obtain ⟨q1, hq1⟩ : ∃ q, sc (i + 2) = q := ⟨_, rfl⟩
  refine V.aload_n 3 rfl dL_law_872 rfl ?_
  refine V.aload_n 4 rfl dL_law_873 rfl ?_
  refine V.iload 0 rfl dL_law_874 ?_
  refine V.iconst (v := 1) dL_law_876 (by decide) ?_
  refine V.iaddN (v := nI (i + 1)) dL_law_877 (nI_add i 1) ?_
  refine V.ialdL (i + 1) (by omega) hL dL_law_878 ?_
  rw [hq0]
  refine V.aload_n 4 rfl dL_law_879 rfl ?_
  refine V.iload 0 rfl dL_law_880 ?_
  refine V.iconst (v := 2) dL_law_882 (by decide) ?_
  refine V.iaddN (v := nI (i + 2)) dL_law_883 (nI_add i 2) ?_
  refine V.ialdL (i + 2) (by omega) hL dL_law_884 ?_
  rw [hq1]
  refine V.aload_n 1 rfl dL_law_885 rfl ?_
  have hM := kX5_feeder g hst o b c u h x z y ai pa tu tx len s n sv q0 q1 hF hF8
  refine V.callSHP (F := (SCW g sa L sc) ++ (MW g a z hi tx aj pj tj pt ke (nI n) (nI len) th re nu du ha)) [.ref o, .int q0, .int q1, .ref ob] [] (kL_feeder g (GW g o b c u h x z y ai pa tu tx len s n sv) o ob q0 q1 ff rfl hM (fun v w q => by obtain ⟨_, _, _, _, _, _, _, _, e, hG⟩ := q; exact ⟨_, e⟩) (fun v w q => by obtain ⟨_, _, _, _, _, _, _, _, e, hG⟩ := q; exact by rw [hG]; exact FST.of GW_fe) (fun E w q => by rw [q.1]; exact FST.rf) (fun E w q => by (rcases q.2 with ⟨d0, q⟩ | ⟨⟨f, hf, _⟩, d1, q⟩ <;> first | exact q | exact Or.inl q | exact Or.inr q | exact Or.inr (Or.inl q) | exact Or.inr (Or.inr q)))) gL_law_L_feeder rfl (by show _ ∧ _ ∧ _ = some (4 : Nat); decide +kernel) ⟨(Nat.le_of_ble_eq_true rfl), (Nat.le_of_ble_eq_true rfl)⟩ pvW rfl (Nat.le_of_ble_eq_true rfl) ⟨(by have : rmL_feeder.cells ≤ 20 := Nat.le_of_ble_eq_true rfl; show kc + rmL_feeder.cells ≤ 601024; omega), (by have : rmL_feeder.slots ≤ 400 := Nat.le_of_ble_eq_true rfl; show nc + rmL_feeder.slots ≤ 7293034; omega)⟩ dL_law_886 (LQ.fst (fun v w q => by obtain ⟨_, _, _, _, _, _, _, _, e, hG⟩ := q; exact by rw [hG]; exact FST.of GW_fe) (fun E w q => by rw [q.1]; exact FST.rf)) (fun v w hq => ?_)
  rcases hq with ⟨r, w1, hQ1, rfl, rfl⟩ | ⟨E, w1, hX1, rfl, rfl⟩
  · skip
    obtain ⟨f, kk, hf, hkk, rfl, rfl, d0, d1, e, hG⟩ := hQ1
    injection e with e; injection e with e; subst e
    subst hG
    refine V.perm (pvL (List.Perm.refl _)) ?_
    refine V.eqws (ws2 := (SCW g sa L sc) ++ (OB g ob (vp_updL ff 0 (fN z f kk).toInt64)) ++ (GW g o b c u h x z y ai pa tu tx len s n sv) ++ (MW g a z hi tx aj pj tj pt ke (nI n) (nI len) th re nu du ha)) rfl ?_
    refine V.eqst (st2 := [.int 0]) rfl ?_
    refine V.istore (lv2 := [(5, .int 0), (4, .int (nI i)), (3, .ref ob), (2, .ref (a 0)), (1, .ref o), (0, .ref sa)]) dL_law_889 (by decide) rfl ?_
    refine V.aload_n 3 rfl dL_law_891 rfl ?_
    refine V.aload_n 5 rfl dL_law_892 rfl ?_
    refine V.iload 1 rfl dL_law_893 ?_
    refine V.iconst (v := 1) dL_law_895 (by decide) ?_
    refine V.iaddN (v := nI (i + 1)) dL_law_896 (nI_add i 1) ?_
    refine V.ialdL (i + 1) (by omega) hL dL_law_897 ?_
    rw [hq0]
    refine V.aload_n 5 rfl dL_law_898 rfl ?_
    refine V.iload 1 rfl dL_law_899 ?_
    refine V.iconst (v := 2) dL_law_901 (by decide) ?_
    refine V.iaddN (v := nI (i + 2)) dL_law_902 (nI_add i 2) ?_
    refine V.ialdL (i + 2) (by omega) hL dL_law_903 ?_
    rw [hq1]
    refine V.callVPf (F := ((SCW g sa L sc) ++ (OB g ob (vp_updL ff 0 (fN z f kk).toInt64))) ++ (GW g o b c u h x z y ai pa tu tx len s n sv)) (ws2 := (SCW g sa L sc) ++ (OB g ob (vp_updL ff 0 (fN z f kk).toInt64)) ++ (GW g o b c u h x z y ai pa tu tx len s n sv) ++ (MW g a z hi tx aj pj tj pt ke (nI n) (nI len) 0 re nu du ha)) (st2 := [.int (fN z f kk)]) [.int (nI f), .int (nI kk)] [] (kX6_feeder_ok g a z hi tx aj pj tj pt ke (nI n) (nI len) th re nu du ha f kk (by omega) (by omega) d0 d1) gL_law_X6_feeder rfl (by show _ ∧ _ ∧ _ ∧ _ = some (2 : Nat); decide +kernel) ⟨(Nat.le_of_ble_eq_true rfl), (Nat.le_of_ble_eq_true rfl)⟩ (hc := (rfl : vwCl[6]? = some (RX6, TX6, 15))) 0 rfl pvM rfl (Nat.le_of_ble_eq_true rfl) ⟨(by have : rmL_feeder.cells ≤ 20 := Nat.le_of_ble_eq_true rfl; show kc + rmL_feeder.cells + 0 ≤ 601024; omega), (by have : rmL_feeder.slots ≤ 400 := Nat.le_of_ble_eq_true rfl; show nc + rmL_feeder.slots + 0 ≤ 7293034; omega)⟩ dL_law_904 MWm pvM.symm rfl rfl rfl ?_
    refine V.istore (lv2 := [(6, .int (fN z f kk)), (5, .int 0), (4, .int (nI i)), (3, .ref ob), (2, .ref (a 0)), (1, .ref o), (0, .ref sa)]) dL_law_907 (by decide) rfl ?_
    refine V.aload_n 4 rfl dL_law_909 rfl ?_
    refine V.callVPf (F := ((SCW g sa L sc) ++ (OB g ob (vp_updL ff 0 (fN z f kk).toInt64))) ++ (GW g o b c u h x z y ai pa tu tx len s n sv)) (ws2 := (SCW g sa L sc) ++ (OB g ob (vp_updL ff 0 (fN z f kk).toInt64)) ++ (GW g o b c u h x z y ai pa tu tx len s n sv) ++ (MW g a z hi tx aj pj tj pt ke (nI n) (nI len) 0 re nu du ha)) (st2 := [.int 0]) [] [] (kX6_thrown g a z hi tx aj pj tj pt ke (nI n) (nI len) 0 re nu du ha) gL_law_X6_thrown rfl (by show _ ∧ _ ∧ _ ∧ _ = some (0 : Nat); decide +kernel) ⟨(Nat.le_of_ble_eq_true rfl), (Nat.le_of_ble_eq_true rfl)⟩ (hc := (rfl : vwCl[6]? = some (RX6, TX6, 15))) 0 rfl pvM rfl (Nat.le_of_ble_eq_true rfl) ⟨(by have : rmL_feeder.cells ≤ 20 := Nat.le_of_ble_eq_true rfl; show kc + rmL_feeder.cells + 0 ≤ 601024; omega), (by have : rmL_feeder.slots ≤ 400 := Nat.le_of_ble_eq_true rfl; show nc + rmL_feeder.slots + 0 ≤ 7293034; omega)⟩ dL_law_910 MWm pvM.symm rfl rfl rfl ?_
    refine V.iload 1 rfl dL_law_913 ?_
    refine V.icmp_eq_t (tgt := 920) rfl dL_law_915 (by decide) ?_
    refine V.iload 1 rfl dL_law_920 ?_
    refine V.if_ne_f (tgt := 937) rfl dL_law_922 (by decide) ?_
    refine V.aload_n 3 rfl dL_law_925 rfl ?_
    refine V.iconst (v := 0) dL_law_926 (by decide) ?_
    refine V.lald (f := vp_updL ff 0 (fN z f kk).toInt64) 0 0 rfl rfl (by decide) (by decide) dL_law_927 ?_
    refine V.eqst (st2 := [.long (fN z f kk).toInt64]) rfl ?_
    refine V.iload 0 rfl dL_law_928 ?_
    refine V.i2l dL_law_930 ?_
    refine V.lcmp dL_law_931 ?_
    refine V.eqst (st2 := [.int 0]) (by rw [cmp_0] <;> rfl) ?_
    refine V.if_eq_t (tgt := 937) (by decide) dL_law_932 (by decide) ?_
    refine V.goto (tgt := 1529) dL_law_937 (by decide) ?_
    refine V.eqlv (lv2 := [(4, .int (nI i)), (3, .ref ob), (2, .ref (a 0)), (1, .ref o), (0, .ref sa)]) [2, 3, 4, 5, 6] rfl ?_
    refine V.widen (k2 := kc + 20) (n2 := nc + 400) (by have : rmL_feeder.cells ≤ 20 := Nat.le_of_ble_eq_true rfl; show kc + rmL_feeder.cells ≤ kc + 20; omega) (by have : rmL_feeder.slots ≤ 400 := Nat.le_of_ble_eq_true rfl; show nc + rmL_feeder.slots ≤ nc + 400; omega) ?_
    exact hk _ _ _ _ _ _ _ _ _ _ _ _ _ _ _ _ _ _ _ _ _ _ ⟨hz.mo, hh.mo, hl, hT, hD⟩
  · skip
    obtain ⟨rfl, hX1⟩ := hX1
    rcases hX1 with ⟨d0, rfl⟩ | ⟨⟨f, hf, rfl⟩, d1, rfl⟩
    · skip
      refine V.perm (pvL (List.Perm.refl _)) ?_
      refine V.eqws (ws2 := (SCW g sa L sc) ++ (OB g ob ff) ++ (GW g o b c u h x z y ai pa tu tx len s n sv) ++ (MW g a z hi tx aj pj tj pt ke (nI n) (nI len) th re nu du ha)) rfl ?_
      rw [show (cd2 IOB IAE) IOB = 1 from by decide +kernel]
      refine V.eqst (st2 := [.int 1]) rfl ?_
      refine V.istore (lv2 := [(5, .int 1), (4, .int (nI i)), (3, .ref ob), (2, .ref (a 0)), (1, .ref o), (0, .ref sa)]) dL_law_889 (by decide) rfl ?_
      refine V.aload_n 3 rfl dL_law_891 rfl ?_
      refine V.aload_n 5 rfl dL_law_892 rfl ?_
      refine V.iload 1 rfl dL_law_893 ?_
      refine V.iconst (v := 1) dL_law_895 (by decide) ?_
      refine V.iaddN (v := nI (i + 1)) dL_law_896 (nI_add i 1) ?_
      refine V.ialdL (i + 1) (by omega) hL dL_law_897 ?_
      rw [hq0]
      refine V.aload_n 5 rfl dL_law_898 rfl ?_
      refine V.iload 1 rfl dL_law_899 ?_
      refine V.iconst (v := 2) dL_law_901 (by decide) ?_
      refine V.iaddN (v := nI (i + 2)) dL_law_902 (nI_add i 2) ?_
      refine V.ialdL (i + 2) (by omega) hL dL_law_903 ?_
      rw [hq1]
      refine V.callVPf (F := ((SCW g sa L sc) ++ (OB g ob ff)) ++ (GW g o b c u h x z y ai pa tu tx len s n sv)) (ws2 := (SCW g sa L sc) ++ (OB g ob ff) ++ (GW g o b c u h x z y ai pa tu tx len s n sv) ++ (MW g a z hi tx aj pj tj pt ke (nI n) (nI len) 1 re nu du ha)) (st2 := [.int 0]) [.int q0, .int q1] [] (kX6_feeder_b1 g a z hi tx aj pj tj pt ke (nI n) (nI len) th re nu du ha q0 q1 d0) gL_law_X6_feeder rfl (by show _ ∧ _ ∧ _ ∧ _ = some (2 : Nat); decide +kernel) ⟨(Nat.le_of_ble_eq_true rfl), (Nat.le_of_ble_eq_true rfl)⟩ (hc := (rfl : vwCl[6]? = some (RX6, TX6, 15))) 0 rfl pvM rfl (Nat.le_of_ble_eq_true rfl) ⟨(by have : rmL_feeder.cells ≤ 20 := Nat.le_of_ble_eq_true rfl; show kc + rmL_feeder.cells + 0 ≤ 601024; omega), (by have : rmL_feeder.slots ≤ 400 := Nat.le_of_ble_eq_true rfl; show nc + rmL_feeder.slots + 0 ≤ 7293034; omega)⟩ dL_law_904 MWm pvM.symm rfl rfl rfl ?_
      refine V.istore (lv2 := [(6, .int 0), (5, .int 1), (4, .int (nI i)), (3, .ref ob), (2, .ref (a 0)), (1, .ref o), (0, .ref sa)]) dL_law_907 (by decide) rfl ?_
      refine V.aload_n 4 rfl dL_law_909 rfl ?_
      refine V.callVPf (F := ((SCW g sa L sc) ++ (OB g ob ff)) ++ (GW g o b c u h x z y ai pa tu tx len s n sv)) (ws2 := (SCW g sa L sc) ++ (OB g ob ff) ++ (GW g o b c u h x z y ai pa tu tx len s n sv) ++ (MW g a z hi tx aj pj tj pt ke (nI n) (nI len) 1 re nu du ha)) (st2 := [.int 1]) [] [] (kX6_thrown g a z hi tx aj pj tj pt ke (nI n) (nI len) 1 re nu du ha) gL_law_X6_thrown rfl (by show _ ∧ _ ∧ _ ∧ _ = some (0 : Nat); decide +kernel) ⟨(Nat.le_of_ble_eq_true rfl), (Nat.le_of_ble_eq_true rfl)⟩ (hc := (rfl : vwCl[6]? = some (RX6, TX6, 15))) 0 rfl pvM rfl (Nat.le_of_ble_eq_true rfl) ⟨(by have : rmL_feeder.cells ≤ 20 := Nat.le_of_ble_eq_true rfl; show kc + rmL_feeder.cells + 0 ≤ 601024; omega), (by have : rmL_feeder.slots ≤ 400 := Nat.le_of_ble_eq_true rfl; show nc + rmL_feeder.slots + 0 ≤ 7293034; omega)⟩ dL_law_910 MWm pvM.symm rfl rfl rfl ?_
      refine V.iload 1 rfl dL_law_913 ?_
      refine V.icmp_eq_t (tgt := 920) rfl dL_law_915 (by decide) ?_
      refine V.iload 1 rfl dL_law_920 ?_
      refine V.if_ne_t (tgt := 937) (by decide) dL_law_922 (by decide) ?_
      refine V.goto (tgt := 1529) dL_law_937 (by decide) ?_
      refine V.eqlv (lv2 := [(4, .int (nI i)), (3, .ref ob), (2, .ref (a 0)), (1, .ref o), (0, .ref sa)]) [2, 3, 4, 5, 6] rfl ?_
      refine V.widen (k2 := kc + 20) (n2 := nc + 400) (by have : rmL_feeder.cells ≤ 20 := Nat.le_of_ble_eq_true rfl; show kc + rmL_feeder.cells ≤ kc + 20; omega) (by have : rmL_feeder.slots ≤ 400 := Nat.le_of_ble_eq_true rfl; show nc + rmL_feeder.slots ≤ nc + 400; omega) ?_
      exact hk _ _ _ _ _ _ _ _ _ _ _ _ _ _ _ _ _ _ _ _ _ _ ⟨hz.mo, hh.mo, hl, hT, hD⟩
    · skip
      refine V.perm (pvL (List.Perm.refl _)) ?_
      refine V.eqws (ws2 := (SCW g sa L sc) ++ (OB g ob ff) ++ (GW g o b c u h x z y ai pa tu tx len s n sv) ++ (MW g a z hi tx aj pj tj pt ke (nI n) (nI len) th re nu du ha)) rfl ?_
      rw [show (cd2 IOB IAE) IAE = 2 from by decide +kernel]
      refine V.eqst (st2 := [.int 2]) rfl ?_
      refine V.istore (lv2 := [(5, .int 2), (4, .int (nI i)), (3, .ref ob), (2, .ref (a 0)), (1, .ref o), (0, .ref sa)]) dL_law_889 (by decide) rfl ?_
      refine V.aload_n 3 rfl dL_law_891 rfl ?_
      refine V.aload_n 5 rfl dL_law_892 rfl ?_
      refine V.iload 1 rfl dL_law_893 ?_
      refine V.iconst (v := 1) dL_law_895 (by decide) ?_
      refine V.iaddN (v := nI (i + 1)) dL_law_896 (nI_add i 1) ?_
      refine V.ialdL (i + 1) (by omega) hL dL_law_897 ?_
      rw [hq0]
      refine V.aload_n 5 rfl dL_law_898 rfl ?_
      refine V.iload 1 rfl dL_law_899 ?_
      refine V.iconst (v := 2) dL_law_901 (by decide) ?_
      refine V.iaddN (v := nI (i + 2)) dL_law_902 (nI_add i 2) ?_
      refine V.ialdL (i + 2) (by omega) hL dL_law_903 ?_
      rw [hq1]
      refine V.callVPf (F := ((SCW g sa L sc) ++ (OB g ob ff)) ++ (GW g o b c u h x z y ai pa tu tx len s n sv)) (ws2 := (SCW g sa L sc) ++ (OB g ob ff) ++ (GW g o b c u h x z y ai pa tu tx len s n sv) ++ (MW g a z hi tx aj pj tj pt ke (nI n) (nI len) 2 re nu du ha)) (st2 := [.int 0]) [.int (nI f), .int q1] [] (kX6_feeder_b2 g a z hi tx aj pj tj pt ke (nI n) (nI len) th re nu du ha (nI f) q1 (by rw [hF]; exact wi_if (by omega) hf) d1) gL_law_X6_feeder rfl (by show _ ∧ _ ∧ _ ∧ _ = some (2 : Nat); decide +kernel) ⟨(Nat.le_of_ble_eq_true rfl), (Nat.le_of_ble_eq_true rfl)⟩ (hc := (rfl : vwCl[6]? = some (RX6, TX6, 15))) 0 rfl pvM rfl (Nat.le_of_ble_eq_true rfl) ⟨(by have : rmL_feeder.cells ≤ 20 := Nat.le_of_ble_eq_true rfl; show kc + rmL_feeder.cells + 0 ≤ 601024; omega), (by have : rmL_feeder.slots ≤ 400 := Nat.le_of_ble_eq_true rfl; show nc + rmL_feeder.slots + 0 ≤ 7293034; omega)⟩ dL_law_904 MWm pvM.symm rfl rfl rfl ?_
      refine V.istore (lv2 := [(6, .int 0), (5, .int 2), (4, .int (nI i)), (3, .ref ob), (2, .ref (a 0)), (1, .ref o), (0, .ref sa)]) dL_law_907 (by decide) rfl ?_
      refine V.aload_n 4 rfl dL_law_909 rfl ?_
      refine V.callVPf (F := ((SCW g sa L sc) ++ (OB g ob ff)) ++ (GW g o b c u h x z y ai pa tu tx len s n sv)) (ws2 := (SCW g sa L sc) ++ (OB g ob ff) ++ (GW g o b c u h x z y ai pa tu tx len s n sv) ++ (MW g a z hi tx aj pj tj pt ke (nI n) (nI len) 2 re nu du ha)) (st2 := [.int 2]) [] [] (kX6_thrown g a z hi tx aj pj tj pt ke (nI n) (nI len) 2 re nu du ha) gL_law_X6_thrown rfl (by show _ ∧ _ ∧ _ ∧ _ = some (0 : Nat); decide +kernel) ⟨(Nat.le_of_ble_eq_true rfl), (Nat.le_of_ble_eq_true rfl)⟩ (hc := (rfl : vwCl[6]? = some (RX6, TX6, 15))) 0 rfl pvM rfl (Nat.le_of_ble_eq_true rfl) ⟨(by have : rmL_feeder.cells ≤ 20 := Nat.le_of_ble_eq_true rfl; show kc + rmL_feeder.cells + 0 ≤ 601024; omega), (by have : rmL_feeder.slots ≤ 400 := Nat.le_of_ble_eq_true rfl; show nc + rmL_feeder.slots + 0 ≤ 7293034; omega)⟩ dL_law_910 MWm pvM.symm rfl rfl rfl ?_
      refine V.iload 1 rfl dL_law_913 ?_
      refine V.icmp_eq_t (tgt := 920) rfl dL_law_915 (by decide) ?_
      refine V.iload 1 rfl dL_law_920 ?_
      refine V.if_ne_t (tgt := 937) (by decide) dL_law_922 (by decide) ?_
      refine V.goto (tgt := 1529) dL_law_937 (by decide) ?_
      refine V.eqlv (lv2 := [(4, .int (nI i)), (3, .ref ob), (2, .ref (a 0)), (1, .ref o), (0, .ref sa)]) [2, 3, 4, 5, 6] rfl ?_
      refine V.widen (k2 := kc + 20) (n2 := nc + 400) (by have : rmL_feeder.cells ≤ 20 := Nat.le_of_ble_eq_true rfl; show kc + rmL_feeder.cells ≤ kc + 20; omega) (by have : rmL_feeder.slots ≤ 400 := Nat.le_of_ble_eq_true rfl; show nc + rmL_feeder.slots ≤ nc + 400; omega) ?_
      exact hk _ _ _ _ _ _ _ _ _ _ _ _ _ _ _ _ _ _ _ _ _ _ ⟨hz.mo, hh.mo, hl, hT, hD⟩
set_option maxHeartbeats 4000000 in
set_option maxRecDepth 100000 in
theorem cs_place (g : GT) (hst : g.1.stackTraces = false) (QF : QT) (sa ob o : Nat) (b c u h x a : Nat → Nat) (L i K : Nat) (sc : Nat → Int32) (kc nc : Nat) (hkc : kc + 20 ≤ 601024) (hnc : nc + 400 ≤ 7293034) (hiL : i + 6 ≤ L) (hL : L < 2147483648) (hK : K ≤ 590) (ff : Nat → Int64) (z y ai pa tu tx : Nat → Int32) (len : Nat) (s : BS) (n : Nat) (sv : SV) (hi aj pj tj pt ke : Nat → Int32) (th re nu du : Int32) (ha : Int64) (hI : LI K z n sv hi tx len s) (hk : ∀ (ff : Nat → Int64) (z y ai pa tu tx : Nat → Int32) (len : Nat) (s : BS) (n : Nat) (sv : SV) (hi aj pj tj pt ke : Nat → Int32) (th re nu du : Int32) (ha : Int64), LI (K + 1) z n sv hi tx len s → V g rmL_law RL cL_law wsL_law 9 QF (XL sa L sc) (kc + 20) (nc + 400) (SCW g sa L sc ++ OB g ob ff ++ GW g o b c u h x z y ai pa tu tx len s n sv ++ MW g a z hi tx aj pj tj pt ke (nI n) (nI len) th re nu du ha) 1529 [(4, .int (nI i)), (3, .ref ob), (2, .ref (a 0)), (1, .ref o), (0, .ref sa)] []) : V g rmL_law RL cL_law wsL_law 9 QF (XL sa L sc) kc nc ((SCW g sa L sc) ++ (OB g ob ff) ++ (GW g o b c u h x z y ai pa tu tx len s n sv) ++ (MW g a z hi tx aj pj tj pt ke (nI n) (nI len) th re nu du ha)) 940 [(4, .int (nI i)), (3, .ref ob), (2, .ref (a 0)), (1, .ref o), (0, .ref sa)] [] := by
  obtain ⟨hz, hh, hl, hT, hD⟩ := hI
  have hV : TV z := hz.1
  have hF : z 5 = nI (nf z) := hV.1.1
  have hF8 : nf z ≤ 8 := hV.nf
  have hP : z 6 = nI (np z) := hV.1.2.2.1
  have hP24 : np z ≤ 24 := hV.np
  have hn6 : n ≤ 6 := hh.1
  have hnl : n ≤ sv.length := hh.2.1
  have hl6 : sv.length ≤ 6 := hh.2.2.1
  obtain ⟨q0, hq0⟩ : ∃ q, sc (i + 1) = q := ⟨_, rfl⟩
  obtain ⟨q1, hq1⟩ : ∃ q, sc (i + 2) = q := ⟨_, rfl⟩
  refine V.aload_n 3 rfl dL_law_940 rfl ?_
  refine V.aload_n 4 rfl dL_law_941 rfl ?_
  refine V.iload 0 rfl dL_law_942 ?_
  refine V.iconst (v := 1) dL_law_944 (by decide) ?_
  refine V.iaddN (v := nI (i + 1)) dL_law_945 (nI_add i 1) ?_
  refine V.ialdL (i + 1) (by omega) hL dL_law_946 ?_
  rw [hq0]
  refine V.aload_n 4 rfl dL_law_947 rfl ?_
  refine V.iload 0 rfl dL_law_948 ?_
  refine V.iconst (v := 2) dL_law_950 (by decide) ?_
  refine V.iaddN (v := nI (i + 2)) dL_law_951 (nI_add i 2) ?_
  refine V.ialdL (i + 2) (by omega) hL dL_law_952 ?_
  rw [hq1]
  refine V.aload_n 1 rfl dL_law_953 rfl ?_
  have hM := kX5_place g hst o b c u h x z y ai pa tu tx len s n sv q0 q1 hP hP24
  refine V.callSHP (F := (SCW g sa L sc) ++ (MW g a z hi tx aj pj tj pt ke (nI n) (nI len) th re nu du ha)) [.ref o, .int q0, .int q1, .ref ob] [] (kL_place g (GW g o b c u h x z y ai pa tu tx len s n sv) o ob q0 q1 ff rfl hM (fun v w q => by obtain ⟨_, _, _, _, _, _, _, _, e, hG⟩ := q; exact ⟨_, e⟩) (fun v w q => by obtain ⟨_, _, _, _, _, _, _, _, e, hG⟩ := q; exact by rw [hG]; exact FST.of GW_fe) (fun E w q => by rw [q.1]; exact FST.rf) (fun E w q => by (rcases q.2 with ⟨d0, q⟩ | ⟨⟨p, hp, _⟩, d1, q⟩ <;> first | exact q | exact Or.inl q | exact Or.inr q | exact Or.inr (Or.inl q) | exact Or.inr (Or.inr q)))) gL_law_L_place rfl (by show _ ∧ _ ∧ _ = some (4 : Nat); decide +kernel) ⟨(Nat.le_of_ble_eq_true rfl), (Nat.le_of_ble_eq_true rfl)⟩ pvW rfl (Nat.le_of_ble_eq_true rfl) ⟨(by have : rmL_place.cells ≤ 20 := Nat.le_of_ble_eq_true rfl; show kc + rmL_place.cells ≤ 601024; omega), (by have : rmL_place.slots ≤ 400 := Nat.le_of_ble_eq_true rfl; show nc + rmL_place.slots ≤ 7293034; omega)⟩ dL_law_954 (LQ.fst (fun v w q => by obtain ⟨_, _, _, _, _, _, _, _, e, hG⟩ := q; exact by rw [hG]; exact FST.of GW_fe) (fun E w q => by rw [q.1]; exact FST.rf)) (fun v w hq => ?_)
  rcases hq with ⟨r, w1, hQ1, rfl, rfl⟩ | ⟨E, w1, hX1, rfl, rfl⟩
  · skip
    obtain ⟨p, kk, hp, hkk, rfl, rfl, d0, d1, e, hG⟩ := hQ1
    injection e with e; injection e with e; subst e
    subst hG
    refine V.perm (pvL (List.Perm.refl _)) ?_
    refine V.eqws (ws2 := (SCW g sa L sc) ++ (OB g ob (vp_updL ff 0 (z (76 + 5 * p + kk)).toInt64)) ++ (GW g o b c u h x z y ai pa tu tx len s n sv) ++ (MW g a z hi tx aj pj tj pt ke (nI n) (nI len) th re nu du ha)) rfl ?_
    refine V.eqst (st2 := [.int 0]) rfl ?_
    refine V.istore (lv2 := [(5, .int 0), (4, .int (nI i)), (3, .ref ob), (2, .ref (a 0)), (1, .ref o), (0, .ref sa)]) dL_law_957 (by decide) rfl ?_
    refine V.aload_n 3 rfl dL_law_959 rfl ?_
    refine V.aload_n 5 rfl dL_law_960 rfl ?_
    refine V.iload 1 rfl dL_law_961 ?_
    refine V.iconst (v := 1) dL_law_963 (by decide) ?_
    refine V.iaddN (v := nI (i + 1)) dL_law_964 (nI_add i 1) ?_
    refine V.ialdL (i + 1) (by omega) hL dL_law_965 ?_
    rw [hq0]
    refine V.aload_n 5 rfl dL_law_966 rfl ?_
    refine V.iload 1 rfl dL_law_967 ?_
    refine V.iconst (v := 2) dL_law_969 (by decide) ?_
    refine V.iaddN (v := nI (i + 2)) dL_law_970 (nI_add i 2) ?_
    refine V.ialdL (i + 2) (by omega) hL dL_law_971 ?_
    rw [hq1]
    refine V.callVPf (F := ((SCW g sa L sc) ++ (OB g ob (vp_updL ff 0 (z (76 + 5 * p + kk)).toInt64))) ++ (GW g o b c u h x z y ai pa tu tx len s n sv)) (ws2 := (SCW g sa L sc) ++ (OB g ob (vp_updL ff 0 (z (76 + 5 * p + kk)).toInt64)) ++ (GW g o b c u h x z y ai pa tu tx len s n sv) ++ (MW g a z hi tx aj pj tj pt ke (nI n) (nI len) 0 re nu du ha)) (st2 := [.int (z (76 + 5 * p + kk))]) [.int (nI p), .int (nI kk)] [] (kX6_place_ok g a z hi tx aj pj tj pt ke (nI n) (nI len) th re nu du ha p kk (by omega) hkk d0 d1) gL_law_X6_place rfl (by show _ ∧ _ ∧ _ ∧ _ = some (2 : Nat); decide +kernel) ⟨(Nat.le_of_ble_eq_true rfl), (Nat.le_of_ble_eq_true rfl)⟩ (hc := (rfl : vwCl[6]? = some (RX6, TX6, 15))) 0 rfl pvM rfl (Nat.le_of_ble_eq_true rfl) ⟨(by have : rmL_place.cells ≤ 20 := Nat.le_of_ble_eq_true rfl; show kc + rmL_place.cells + 0 ≤ 601024; omega), (by have : rmL_place.slots ≤ 400 := Nat.le_of_ble_eq_true rfl; show nc + rmL_place.slots + 0 ≤ 7293034; omega)⟩ dL_law_972 MWm pvM.symm rfl rfl rfl ?_
    refine V.istore (lv2 := [(6, .int (z (76 + 5 * p + kk))), (5, .int 0), (4, .int (nI i)), (3, .ref ob), (2, .ref (a 0)), (1, .ref o), (0, .ref sa)]) dL_law_975 (by decide) rfl ?_
    refine V.aload_n 4 rfl dL_law_977 rfl ?_
    refine V.callVPf (F := ((SCW g sa L sc) ++ (OB g ob (vp_updL ff 0 (z (76 + 5 * p + kk)).toInt64))) ++ (GW g o b c u h x z y ai pa tu tx len s n sv)) (ws2 := (SCW g sa L sc) ++ (OB g ob (vp_updL ff 0 (z (76 + 5 * p + kk)).toInt64)) ++ (GW g o b c u h x z y ai pa tu tx len s n sv) ++ (MW g a z hi tx aj pj tj pt ke (nI n) (nI len) 0 re nu du ha)) (st2 := [.int 0]) [] [] (kX6_thrown g a z hi tx aj pj tj pt ke (nI n) (nI len) 0 re nu du ha) gL_law_X6_thrown rfl (by show _ ∧ _ ∧ _ ∧ _ = some (0 : Nat); decide +kernel) ⟨(Nat.le_of_ble_eq_true rfl), (Nat.le_of_ble_eq_true rfl)⟩ (hc := (rfl : vwCl[6]? = some (RX6, TX6, 15))) 0 rfl pvM rfl (Nat.le_of_ble_eq_true rfl) ⟨(by have : rmL_place.cells ≤ 20 := Nat.le_of_ble_eq_true rfl; show kc + rmL_place.cells + 0 ≤ 601024; omega), (by have : rmL_place.slots ≤ 400 := Nat.le_of_ble_eq_true rfl; show nc + rmL_place.slots + 0 ≤ 7293034; omega)⟩ dL_law_978 MWm pvM.symm rfl rfl rfl ?_
    refine V.iload 1 rfl dL_law_981 ?_
    refine V.icmp_eq_t (tgt := 988) rfl dL_law_983 (by decide) ?_
    refine V.iload 1 rfl dL_law_988 ?_
    refine V.if_ne_f (tgt := 1005) rfl dL_law_990 (by decide) ?_
    refine V.aload_n 3 rfl dL_law_993 rfl ?_
    refine V.iconst (v := 0) dL_law_994 (by decide) ?_
    refine V.lald (f := vp_updL ff 0 (z (76 + 5 * p + kk)).toInt64) 0 0 rfl rfl (by decide) (by decide) dL_law_995 ?_
    refine V.eqst (st2 := [.long (z (76 + 5 * p + kk)).toInt64]) rfl ?_
    refine V.iload 0 rfl dL_law_996 ?_
    refine V.i2l dL_law_998 ?_
    refine V.lcmp dL_law_999 ?_
    refine V.eqst (st2 := [.int 0]) (by rw [cmp_0] <;> rfl) ?_
    refine V.if_eq_t (tgt := 1005) (by decide) dL_law_1000 (by decide) ?_
    refine V.goto (tgt := 1529) dL_law_1005 (by decide) ?_
    refine V.eqlv (lv2 := [(4, .int (nI i)), (3, .ref ob), (2, .ref (a 0)), (1, .ref o), (0, .ref sa)]) [2, 3, 4, 5, 6] rfl ?_
    refine V.widen (k2 := kc + 20) (n2 := nc + 400) (by have : rmL_place.cells ≤ 20 := Nat.le_of_ble_eq_true rfl; show kc + rmL_place.cells ≤ kc + 20; omega) (by have : rmL_place.slots ≤ 400 := Nat.le_of_ble_eq_true rfl; show nc + rmL_place.slots ≤ nc + 400; omega) ?_
    exact hk _ _ _ _ _ _ _ _ _ _ _ _ _ _ _ _ _ _ _ _ _ _ ⟨hz.mo, hh.mo, hl, hT, hD⟩
  · skip
    obtain ⟨rfl, hX1⟩ := hX1
    rcases hX1 with ⟨d0, rfl⟩ | ⟨⟨p, hp, rfl⟩, d1, rfl⟩
    · skip
      refine V.perm (pvL (List.Perm.refl _)) ?_
      refine V.eqws (ws2 := (SCW g sa L sc) ++ (OB g ob ff) ++ (GW g o b c u h x z y ai pa tu tx len s n sv) ++ (MW g a z hi tx aj pj tj pt ke (nI n) (nI len) th re nu du ha)) rfl ?_
      rw [show (cd2 IOB IAE) IOB = 1 from by decide +kernel]
      refine V.eqst (st2 := [.int 1]) rfl ?_
      refine V.istore (lv2 := [(5, .int 1), (4, .int (nI i)), (3, .ref ob), (2, .ref (a 0)), (1, .ref o), (0, .ref sa)]) dL_law_957 (by decide) rfl ?_
      refine V.aload_n 3 rfl dL_law_959 rfl ?_
      refine V.aload_n 5 rfl dL_law_960 rfl ?_
      refine V.iload 1 rfl dL_law_961 ?_
      refine V.iconst (v := 1) dL_law_963 (by decide) ?_
      refine V.iaddN (v := nI (i + 1)) dL_law_964 (nI_add i 1) ?_
      refine V.ialdL (i + 1) (by omega) hL dL_law_965 ?_
      rw [hq0]
      refine V.aload_n 5 rfl dL_law_966 rfl ?_
      refine V.iload 1 rfl dL_law_967 ?_
      refine V.iconst (v := 2) dL_law_969 (by decide) ?_
      refine V.iaddN (v := nI (i + 2)) dL_law_970 (nI_add i 2) ?_
      refine V.ialdL (i + 2) (by omega) hL dL_law_971 ?_
      rw [hq1]
      refine V.callVPf (F := ((SCW g sa L sc) ++ (OB g ob ff)) ++ (GW g o b c u h x z y ai pa tu tx len s n sv)) (ws2 := (SCW g sa L sc) ++ (OB g ob ff) ++ (GW g o b c u h x z y ai pa tu tx len s n sv) ++ (MW g a z hi tx aj pj tj pt ke (nI n) (nI len) 1 re nu du ha)) (st2 := [.int 0]) [.int q0, .int q1] [] (kX6_place_b1 g a z hi tx aj pj tj pt ke (nI n) (nI len) th re nu du ha q0 q1 d0) gL_law_X6_place rfl (by show _ ∧ _ ∧ _ ∧ _ = some (2 : Nat); decide +kernel) ⟨(Nat.le_of_ble_eq_true rfl), (Nat.le_of_ble_eq_true rfl)⟩ (hc := (rfl : vwCl[6]? = some (RX6, TX6, 15))) 0 rfl pvM rfl (Nat.le_of_ble_eq_true rfl) ⟨(by have : rmL_place.cells ≤ 20 := Nat.le_of_ble_eq_true rfl; show kc + rmL_place.cells + 0 ≤ 601024; omega), (by have : rmL_place.slots ≤ 400 := Nat.le_of_ble_eq_true rfl; show nc + rmL_place.slots + 0 ≤ 7293034; omega)⟩ dL_law_972 MWm pvM.symm rfl rfl rfl ?_
      refine V.istore (lv2 := [(6, .int 0), (5, .int 1), (4, .int (nI i)), (3, .ref ob), (2, .ref (a 0)), (1, .ref o), (0, .ref sa)]) dL_law_975 (by decide) rfl ?_
      refine V.aload_n 4 rfl dL_law_977 rfl ?_
      refine V.callVPf (F := ((SCW g sa L sc) ++ (OB g ob ff)) ++ (GW g o b c u h x z y ai pa tu tx len s n sv)) (ws2 := (SCW g sa L sc) ++ (OB g ob ff) ++ (GW g o b c u h x z y ai pa tu tx len s n sv) ++ (MW g a z hi tx aj pj tj pt ke (nI n) (nI len) 1 re nu du ha)) (st2 := [.int 1]) [] [] (kX6_thrown g a z hi tx aj pj tj pt ke (nI n) (nI len) 1 re nu du ha) gL_law_X6_thrown rfl (by show _ ∧ _ ∧ _ ∧ _ = some (0 : Nat); decide +kernel) ⟨(Nat.le_of_ble_eq_true rfl), (Nat.le_of_ble_eq_true rfl)⟩ (hc := (rfl : vwCl[6]? = some (RX6, TX6, 15))) 0 rfl pvM rfl (Nat.le_of_ble_eq_true rfl) ⟨(by have : rmL_place.cells ≤ 20 := Nat.le_of_ble_eq_true rfl; show kc + rmL_place.cells + 0 ≤ 601024; omega), (by have : rmL_place.slots ≤ 400 := Nat.le_of_ble_eq_true rfl; show nc + rmL_place.slots + 0 ≤ 7293034; omega)⟩ dL_law_978 MWm pvM.symm rfl rfl rfl ?_
      refine V.iload 1 rfl dL_law_981 ?_
      refine V.icmp_eq_t (tgt := 988) rfl dL_law_983 (by decide) ?_
      refine V.iload 1 rfl dL_law_988 ?_
      refine V.if_ne_t (tgt := 1005) (by decide) dL_law_990 (by decide) ?_
      refine V.goto (tgt := 1529) dL_law_1005 (by decide) ?_
      refine V.eqlv (lv2 := [(4, .int (nI i)), (3, .ref ob), (2, .ref (a 0)), (1, .ref o), (0, .ref sa)]) [2, 3, 4, 5, 6] rfl ?_
      refine V.widen (k2 := kc + 20) (n2 := nc + 400) (by have : rmL_place.cells ≤ 20 := Nat.le_of_ble_eq_true rfl; show kc + rmL_place.cells ≤ kc + 20; omega) (by have : rmL_place.slots ≤ 400 := Nat.le_of_ble_eq_true rfl; show nc + rmL_place.slots ≤ nc + 400; omega) ?_
      exact hk _ _ _ _ _ _ _ _ _ _ _ _ _ _ _ _ _ _ _ _ _ _ ⟨hz.mo, hh.mo, hl, hT, hD⟩
    · skip
      refine V.perm (pvL (List.Perm.refl _)) ?_
      refine V.eqws (ws2 := (SCW g sa L sc) ++ (OB g ob ff) ++ (GW g o b c u h x z y ai pa tu tx len s n sv) ++ (MW g a z hi tx aj pj tj pt ke (nI n) (nI len) th re nu du ha)) rfl ?_
      rw [show (cd2 IOB IAE) IAE = 2 from by decide +kernel]
      refine V.eqst (st2 := [.int 2]) rfl ?_
      refine V.istore (lv2 := [(5, .int 2), (4, .int (nI i)), (3, .ref ob), (2, .ref (a 0)), (1, .ref o), (0, .ref sa)]) dL_law_957 (by decide) rfl ?_
      refine V.aload_n 3 rfl dL_law_959 rfl ?_
      refine V.aload_n 5 rfl dL_law_960 rfl ?_
      refine V.iload 1 rfl dL_law_961 ?_
      refine V.iconst (v := 1) dL_law_963 (by decide) ?_
      refine V.iaddN (v := nI (i + 1)) dL_law_964 (nI_add i 1) ?_
      refine V.ialdL (i + 1) (by omega) hL dL_law_965 ?_
      rw [hq0]
      refine V.aload_n 5 rfl dL_law_966 rfl ?_
      refine V.iload 1 rfl dL_law_967 ?_
      refine V.iconst (v := 2) dL_law_969 (by decide) ?_
      refine V.iaddN (v := nI (i + 2)) dL_law_970 (nI_add i 2) ?_
      refine V.ialdL (i + 2) (by omega) hL dL_law_971 ?_
      rw [hq1]
      refine V.callVPf (F := ((SCW g sa L sc) ++ (OB g ob ff)) ++ (GW g o b c u h x z y ai pa tu tx len s n sv)) (ws2 := (SCW g sa L sc) ++ (OB g ob ff) ++ (GW g o b c u h x z y ai pa tu tx len s n sv) ++ (MW g a z hi tx aj pj tj pt ke (nI n) (nI len) 2 re nu du ha)) (st2 := [.int 0]) [.int (nI p), .int q1] [] (kX6_place_b2 g a z hi tx aj pj tj pt ke (nI n) (nI len) th re nu du ha (nI p) q1 (by rw [hP]; exact wi_if (by omega) hp) d1) gL_law_X6_place rfl (by show _ ∧ _ ∧ _ ∧ _ = some (2 : Nat); decide +kernel) ⟨(Nat.le_of_ble_eq_true rfl), (Nat.le_of_ble_eq_true rfl)⟩ (hc := (rfl : vwCl[6]? = some (RX6, TX6, 15))) 0 rfl pvM rfl (Nat.le_of_ble_eq_true rfl) ⟨(by have : rmL_place.cells ≤ 20 := Nat.le_of_ble_eq_true rfl; show kc + rmL_place.cells + 0 ≤ 601024; omega), (by have : rmL_place.slots ≤ 400 := Nat.le_of_ble_eq_true rfl; show nc + rmL_place.slots + 0 ≤ 7293034; omega)⟩ dL_law_972 MWm pvM.symm rfl rfl rfl ?_
      refine V.istore (lv2 := [(6, .int 0), (5, .int 2), (4, .int (nI i)), (3, .ref ob), (2, .ref (a 0)), (1, .ref o), (0, .ref sa)]) dL_law_975 (by decide) rfl ?_
      refine V.aload_n 4 rfl dL_law_977 rfl ?_
      refine V.callVPf (F := ((SCW g sa L sc) ++ (OB g ob ff)) ++ (GW g o b c u h x z y ai pa tu tx len s n sv)) (ws2 := (SCW g sa L sc) ++ (OB g ob ff) ++ (GW g o b c u h x z y ai pa tu tx len s n sv) ++ (MW g a z hi tx aj pj tj pt ke (nI n) (nI len) 2 re nu du ha)) (st2 := [.int 2]) [] [] (kX6_thrown g a z hi tx aj pj tj pt ke (nI n) (nI len) 2 re nu du ha) gL_law_X6_thrown rfl (by show _ ∧ _ ∧ _ ∧ _ = some (0 : Nat); decide +kernel) ⟨(Nat.le_of_ble_eq_true rfl), (Nat.le_of_ble_eq_true rfl)⟩ (hc := (rfl : vwCl[6]? = some (RX6, TX6, 15))) 0 rfl pvM rfl (Nat.le_of_ble_eq_true rfl) ⟨(by have : rmL_place.cells ≤ 20 := Nat.le_of_ble_eq_true rfl; show kc + rmL_place.cells + 0 ≤ 601024; omega), (by have : rmL_place.slots ≤ 400 := Nat.le_of_ble_eq_true rfl; show nc + rmL_place.slots + 0 ≤ 7293034; omega)⟩ dL_law_978 MWm pvM.symm rfl rfl rfl ?_
      refine V.iload 1 rfl dL_law_981 ?_
      refine V.icmp_eq_t (tgt := 988) rfl dL_law_983 (by decide) ?_
      refine V.iload 1 rfl dL_law_988 ?_
      refine V.if_ne_t (tgt := 1005) (by decide) dL_law_990 (by decide) ?_
      refine V.goto (tgt := 1529) dL_law_1005 (by decide) ?_
      refine V.eqlv (lv2 := [(4, .int (nI i)), (3, .ref ob), (2, .ref (a 0)), (1, .ref o), (0, .ref sa)]) [2, 3, 4, 5, 6] rfl ?_
      refine V.widen (k2 := kc + 20) (n2 := nc + 400) (by have : rmL_place.cells ≤ 20 := Nat.le_of_ble_eq_true rfl; show kc + rmL_place.cells ≤ kc + 20; omega) (by have : rmL_place.slots ≤ 400 := Nat.le_of_ble_eq_true rfl; show nc + rmL_place.slots ≤ nc + 400; omega) ?_
      exact hk _ _ _ _ _ _ _ _ _ _ _ _ _ _ _ _ _ _ _ _ _ _ ⟨hz.mo, hh.mo, hl, hT, hD⟩
set_option maxHeartbeats 4000000 in
set_option maxRecDepth 100000 in
theorem cs_nozzle (g : GT) (hst : g.1.stackTraces = false) (QF : QT) (sa ob o : Nat) (b c u h x a : Nat → Nat) (L i K : Nat) (sc : Nat → Int32) (kc nc : Nat) (hkc : kc + 20 ≤ 601024) (hnc : nc + 400 ≤ 7293034) (hiL : i + 6 ≤ L) (hL : L < 2147483648) (hK : K ≤ 590) (ff : Nat → Int64) (z y ai pa tu tx : Nat → Int32) (len : Nat) (s : BS) (n : Nat) (sv : SV) (hi aj pj tj pt ke : Nat → Int32) (th re nu du : Int32) (ha : Int64) (hI : LI K z n sv hi tx len s) (hk : ∀ (ff : Nat → Int64) (z y ai pa tu tx : Nat → Int32) (len : Nat) (s : BS) (n : Nat) (sv : SV) (hi aj pj tj pt ke : Nat → Int32) (th re nu du : Int32) (ha : Int64), LI (K + 1) z n sv hi tx len s → V g rmL_law RL cL_law wsL_law 9 QF (XL sa L sc) (kc + 20) (nc + 400) (SCW g sa L sc ++ OB g ob ff ++ GW g o b c u h x z y ai pa tu tx len s n sv ++ MW g a z hi tx aj pj tj pt ke (nI n) (nI len) th re nu du ha) 1529 [(4, .int (nI i)), (3, .ref ob), (2, .ref (a 0)), (1, .ref o), (0, .ref sa)] []) : V g rmL_law RL cL_law wsL_law 9 QF (XL sa L sc) kc nc ((SCW g sa L sc) ++ (OB g ob ff) ++ (GW g o b c u h x z y ai pa tu tx len s n sv) ++ (MW g a z hi tx aj pj tj pt ke (nI n) (nI len) th re nu du ha)) 1008 [(4, .int (nI i)), (3, .ref ob), (2, .ref (a 0)), (1, .ref o), (0, .ref sa)] [] := by
  obtain ⟨hz, hh, hl, hT, hD⟩ := hI
  have hV : TV z := hz.1
  have hF : z 5 = nI (nf z) := hV.1.1
  have hF8 : nf z ≤ 8 := hV.nf
  have hP : z 6 = nI (np z) := hV.1.2.2.1
  have hP24 : np z ≤ 24 := hV.np
  have hn6 : n ≤ 6 := hh.1
  have hnl : n ≤ sv.length := hh.2.1
  have hl6 : sv.length ≤ 6 := hh.2.2.1
  obtain ⟨q0, hq0⟩ : ∃ q, sc (i + 1) = q := ⟨_, rfl⟩
  obtain ⟨q1, hq1⟩ : ∃ q, sc (i + 2) = q := ⟨_, rfl⟩
  refine V.aload_n 3 rfl dL_law_1008 rfl ?_
  refine V.aload_n 4 rfl dL_law_1009 rfl ?_
  refine V.iload 0 rfl dL_law_1010 ?_
  refine V.iconst (v := 1) dL_law_1012 (by decide) ?_
  refine V.iaddN (v := nI (i + 1)) dL_law_1013 (nI_add i 1) ?_
  refine V.ialdL (i + 1) (by omega) hL dL_law_1014 ?_
  rw [hq0]
  refine V.aload_n 4 rfl dL_law_1015 rfl ?_
  refine V.iload 0 rfl dL_law_1016 ?_
  refine V.iconst (v := 2) dL_law_1018 (by decide) ?_
  refine V.iaddN (v := nI (i + 2)) dL_law_1019 (nI_add i 2) ?_
  refine V.ialdL (i + 2) (by omega) hL dL_law_1020 ?_
  rw [hq1]
  refine V.aload_n 1 rfl dL_law_1021 rfl ?_
  have hM := kX5_nozzle g hst o b c u h x z y ai pa tu tx len s n sv q0 q1 
  refine V.callSHP (F := (SCW g sa L sc) ++ (MW g a z hi tx aj pj tj pt ke (nI n) (nI len) th re nu du ha)) [.ref o, .int q0, .int q1, .ref ob] [] (kL_nozzle g (GW g o b c u h x z y ai pa tu tx len s n sv) o ob q0 q1 ff rfl hM (fun v w q => by obtain ⟨_, _, _, _, _, _, _, _, e, hG⟩ := q; exact ⟨_, e⟩) (fun v w q => by obtain ⟨_, _, _, _, _, _, _, _, e, hG⟩ := q; exact by rw [hG]; exact FST.of GW_fe) (fun E w q => by rw [q.1]; exact FST.rf) (fun E w q => by (rcases q.2 with ⟨d0, q⟩ | ⟨⟨j, hj, _⟩, d1, q⟩ <;> first | exact q | exact Or.inl q | exact Or.inr q | exact Or.inr (Or.inl q) | exact Or.inr (Or.inr q)))) gL_law_L_nozzle rfl (by show _ ∧ _ ∧ _ = some (4 : Nat); decide +kernel) ⟨(Nat.le_of_ble_eq_true rfl), (Nat.le_of_ble_eq_true rfl)⟩ pvW rfl (Nat.le_of_ble_eq_true rfl) ⟨(by have : rmL_nozzle.cells ≤ 20 := Nat.le_of_ble_eq_true rfl; show kc + rmL_nozzle.cells ≤ 601024; omega), (by have : rmL_nozzle.slots ≤ 400 := Nat.le_of_ble_eq_true rfl; show nc + rmL_nozzle.slots ≤ 7293034; omega)⟩ dL_law_1022 (LQ.fst (fun v w q => by obtain ⟨_, _, _, _, _, _, _, _, e, hG⟩ := q; exact by rw [hG]; exact FST.of GW_fe) (fun E w q => by rw [q.1]; exact FST.rf)) (fun v w hq => ?_)
  rcases hq with ⟨r, w1, hQ1, rfl, rfl⟩ | ⟨E, w1, hX1, rfl, rfl⟩
  · skip
    obtain ⟨j, kk, hj, hkk, rfl, rfl, d0, d1, e, hG⟩ := hQ1
    injection e with e; injection e with e; subst e
    subst hG
    refine V.perm (pvL (List.Perm.refl _)) ?_
    refine V.eqws (ws2 := (SCW g sa L sc) ++ (OB g ob (vp_updL ff 0 (z (196 + 5 * j + kk)).toInt64)) ++ (GW g o b c u h x z y ai pa tu tx len s n sv) ++ (MW g a z hi tx aj pj tj pt ke (nI n) (nI len) th re nu du ha)) rfl ?_
    refine V.eqst (st2 := [.int 0]) rfl ?_
    refine V.istore (lv2 := [(5, .int 0), (4, .int (nI i)), (3, .ref ob), (2, .ref (a 0)), (1, .ref o), (0, .ref sa)]) dL_law_1025 (by decide) rfl ?_
    refine V.aload_n 3 rfl dL_law_1027 rfl ?_
    refine V.aload_n 5 rfl dL_law_1028 rfl ?_
    refine V.iload 1 rfl dL_law_1029 ?_
    refine V.iconst (v := 1) dL_law_1031 (by decide) ?_
    refine V.iaddN (v := nI (i + 1)) dL_law_1032 (nI_add i 1) ?_
    refine V.ialdL (i + 1) (by omega) hL dL_law_1033 ?_
    rw [hq0]
    refine V.aload_n 5 rfl dL_law_1034 rfl ?_
    refine V.iload 1 rfl dL_law_1035 ?_
    refine V.iconst (v := 2) dL_law_1037 (by decide) ?_
    refine V.iaddN (v := nI (i + 2)) dL_law_1038 (nI_add i 2) ?_
    refine V.ialdL (i + 2) (by omega) hL dL_law_1039 ?_
    rw [hq1]
    refine V.callVPf (F := ((SCW g sa L sc) ++ (OB g ob (vp_updL ff 0 (z (196 + 5 * j + kk)).toInt64))) ++ (GW g o b c u h x z y ai pa tu tx len s n sv)) (ws2 := (SCW g sa L sc) ++ (OB g ob (vp_updL ff 0 (z (196 + 5 * j + kk)).toInt64)) ++ (GW g o b c u h x z y ai pa tu tx len s n sv) ++ (MW g a z hi tx aj pj tj pt ke (nI n) (nI len) 0 re nu du ha)) (st2 := [.int (z (196 + 5 * j + kk))]) [.int (nI j), .int (nI kk)] [] (kX6_nozzle_ok g a z hi tx aj pj tj pt ke (nI n) (nI len) th re nu du ha j kk hj hkk d0 d1) gL_law_X6_nozzle rfl (by show _ ∧ _ ∧ _ ∧ _ = some (2 : Nat); decide +kernel) ⟨(Nat.le_of_ble_eq_true rfl), (Nat.le_of_ble_eq_true rfl)⟩ (hc := (rfl : vwCl[6]? = some (RX6, TX6, 15))) 0 rfl pvM rfl (Nat.le_of_ble_eq_true rfl) ⟨(by have : rmL_nozzle.cells ≤ 20 := Nat.le_of_ble_eq_true rfl; show kc + rmL_nozzle.cells + 0 ≤ 601024; omega), (by have : rmL_nozzle.slots ≤ 400 := Nat.le_of_ble_eq_true rfl; show nc + rmL_nozzle.slots + 0 ≤ 7293034; omega)⟩ dL_law_1040 MWm pvM.symm rfl rfl rfl ?_
    refine V.istore (lv2 := [(6, .int (z (196 + 5 * j + kk))), (5, .int 0), (4, .int (nI i)), (3, .ref ob), (2, .ref (a 0)), (1, .ref o), (0, .ref sa)]) dL_law_1043 (by decide) rfl ?_
    refine V.aload_n 4 rfl dL_law_1045 rfl ?_
    refine V.callVPf (F := ((SCW g sa L sc) ++ (OB g ob (vp_updL ff 0 (z (196 + 5 * j + kk)).toInt64))) ++ (GW g o b c u h x z y ai pa tu tx len s n sv)) (ws2 := (SCW g sa L sc) ++ (OB g ob (vp_updL ff 0 (z (196 + 5 * j + kk)).toInt64)) ++ (GW g o b c u h x z y ai pa tu tx len s n sv) ++ (MW g a z hi tx aj pj tj pt ke (nI n) (nI len) 0 re nu du ha)) (st2 := [.int 0]) [] [] (kX6_thrown g a z hi tx aj pj tj pt ke (nI n) (nI len) 0 re nu du ha) gL_law_X6_thrown rfl (by show _ ∧ _ ∧ _ ∧ _ = some (0 : Nat); decide +kernel) ⟨(Nat.le_of_ble_eq_true rfl), (Nat.le_of_ble_eq_true rfl)⟩ (hc := (rfl : vwCl[6]? = some (RX6, TX6, 15))) 0 rfl pvM rfl (Nat.le_of_ble_eq_true rfl) ⟨(by have : rmL_nozzle.cells ≤ 20 := Nat.le_of_ble_eq_true rfl; show kc + rmL_nozzle.cells + 0 ≤ 601024; omega), (by have : rmL_nozzle.slots ≤ 400 := Nat.le_of_ble_eq_true rfl; show nc + rmL_nozzle.slots + 0 ≤ 7293034; omega)⟩ dL_law_1046 MWm pvM.symm rfl rfl rfl ?_
    refine V.iload 1 rfl dL_law_1049 ?_
    refine V.icmp_eq_t (tgt := 1056) rfl dL_law_1051 (by decide) ?_
    refine V.iload 1 rfl dL_law_1056 ?_
    refine V.if_ne_f (tgt := 1073) rfl dL_law_1058 (by decide) ?_
    refine V.aload_n 3 rfl dL_law_1061 rfl ?_
    refine V.iconst (v := 0) dL_law_1062 (by decide) ?_
    refine V.lald (f := vp_updL ff 0 (z (196 + 5 * j + kk)).toInt64) 0 0 rfl rfl (by decide) (by decide) dL_law_1063 ?_
    refine V.eqst (st2 := [.long (z (196 + 5 * j + kk)).toInt64]) rfl ?_
    refine V.iload 0 rfl dL_law_1064 ?_
    refine V.i2l dL_law_1066 ?_
    refine V.lcmp dL_law_1067 ?_
    refine V.eqst (st2 := [.int 0]) (by rw [cmp_0] <;> rfl) ?_
    refine V.if_eq_t (tgt := 1073) (by decide) dL_law_1068 (by decide) ?_
    refine V.goto (tgt := 1529) dL_law_1073 (by decide) ?_
    refine V.eqlv (lv2 := [(4, .int (nI i)), (3, .ref ob), (2, .ref (a 0)), (1, .ref o), (0, .ref sa)]) [2, 3, 4, 5, 6] rfl ?_
    refine V.widen (k2 := kc + 20) (n2 := nc + 400) (by have : rmL_nozzle.cells ≤ 20 := Nat.le_of_ble_eq_true rfl; show kc + rmL_nozzle.cells ≤ kc + 20; omega) (by have : rmL_nozzle.slots ≤ 400 := Nat.le_of_ble_eq_true rfl; show nc + rmL_nozzle.slots ≤ nc + 400; omega) ?_
    exact hk _ _ _ _ _ _ _ _ _ _ _ _ _ _ _ _ _ _ _ _ _ _ ⟨hz.mo, hh.mo, hl, hT, hD⟩
  · skip
    obtain ⟨rfl, hX1⟩ := hX1
    rcases hX1 with ⟨d0, rfl⟩ | ⟨⟨j, hj, rfl⟩, d1, rfl⟩
    · skip
      refine V.perm (pvL (List.Perm.refl _)) ?_
      refine V.eqws (ws2 := (SCW g sa L sc) ++ (OB g ob ff) ++ (GW g o b c u h x z y ai pa tu tx len s n sv) ++ (MW g a z hi tx aj pj tj pt ke (nI n) (nI len) th re nu du ha)) rfl ?_
      rw [show (cd2 IOB IAE) IOB = 1 from by decide +kernel]
      refine V.eqst (st2 := [.int 1]) rfl ?_
      refine V.istore (lv2 := [(5, .int 1), (4, .int (nI i)), (3, .ref ob), (2, .ref (a 0)), (1, .ref o), (0, .ref sa)]) dL_law_1025 (by decide) rfl ?_
      refine V.aload_n 3 rfl dL_law_1027 rfl ?_
      refine V.aload_n 5 rfl dL_law_1028 rfl ?_
      refine V.iload 1 rfl dL_law_1029 ?_
      refine V.iconst (v := 1) dL_law_1031 (by decide) ?_
      refine V.iaddN (v := nI (i + 1)) dL_law_1032 (nI_add i 1) ?_
      refine V.ialdL (i + 1) (by omega) hL dL_law_1033 ?_
      rw [hq0]
      refine V.aload_n 5 rfl dL_law_1034 rfl ?_
      refine V.iload 1 rfl dL_law_1035 ?_
      refine V.iconst (v := 2) dL_law_1037 (by decide) ?_
      refine V.iaddN (v := nI (i + 2)) dL_law_1038 (nI_add i 2) ?_
      refine V.ialdL (i + 2) (by omega) hL dL_law_1039 ?_
      rw [hq1]
      refine V.callVPf (F := ((SCW g sa L sc) ++ (OB g ob ff)) ++ (GW g o b c u h x z y ai pa tu tx len s n sv)) (ws2 := (SCW g sa L sc) ++ (OB g ob ff) ++ (GW g o b c u h x z y ai pa tu tx len s n sv) ++ (MW g a z hi tx aj pj tj pt ke (nI n) (nI len) 1 re nu du ha)) (st2 := [.int 0]) [.int q0, .int q1] [] (kX6_nozzle_b1 g a z hi tx aj pj tj pt ke (nI n) (nI len) th re nu du ha q0 q1 d0) gL_law_X6_nozzle rfl (by show _ ∧ _ ∧ _ ∧ _ = some (2 : Nat); decide +kernel) ⟨(Nat.le_of_ble_eq_true rfl), (Nat.le_of_ble_eq_true rfl)⟩ (hc := (rfl : vwCl[6]? = some (RX6, TX6, 15))) 0 rfl pvM rfl (Nat.le_of_ble_eq_true rfl) ⟨(by have : rmL_nozzle.cells ≤ 20 := Nat.le_of_ble_eq_true rfl; show kc + rmL_nozzle.cells + 0 ≤ 601024; omega), (by have : rmL_nozzle.slots ≤ 400 := Nat.le_of_ble_eq_true rfl; show nc + rmL_nozzle.slots + 0 ≤ 7293034; omega)⟩ dL_law_1040 MWm pvM.symm rfl rfl rfl ?_
      refine V.istore (lv2 := [(6, .int 0), (5, .int 1), (4, .int (nI i)), (3, .ref ob), (2, .ref (a 0)), (1, .ref o), (0, .ref sa)]) dL_law_1043 (by decide) rfl ?_
      refine V.aload_n 4 rfl dL_law_1045 rfl ?_
      refine V.callVPf (F := ((SCW g sa L sc) ++ (OB g ob ff)) ++ (GW g o b c u h x z y ai pa tu tx len s n sv)) (ws2 := (SCW g sa L sc) ++ (OB g ob ff) ++ (GW g o b c u h x z y ai pa tu tx len s n sv) ++ (MW g a z hi tx aj pj tj pt ke (nI n) (nI len) 1 re nu du ha)) (st2 := [.int 1]) [] [] (kX6_thrown g a z hi tx aj pj tj pt ke (nI n) (nI len) 1 re nu du ha) gL_law_X6_thrown rfl (by show _ ∧ _ ∧ _ ∧ _ = some (0 : Nat); decide +kernel) ⟨(Nat.le_of_ble_eq_true rfl), (Nat.le_of_ble_eq_true rfl)⟩ (hc := (rfl : vwCl[6]? = some (RX6, TX6, 15))) 0 rfl pvM rfl (Nat.le_of_ble_eq_true rfl) ⟨(by have : rmL_nozzle.cells ≤ 20 := Nat.le_of_ble_eq_true rfl; show kc + rmL_nozzle.cells + 0 ≤ 601024; omega), (by have : rmL_nozzle.slots ≤ 400 := Nat.le_of_ble_eq_true rfl; show nc + rmL_nozzle.slots + 0 ≤ 7293034; omega)⟩ dL_law_1046 MWm pvM.symm rfl rfl rfl ?_
      refine V.iload 1 rfl dL_law_1049 ?_
      refine V.icmp_eq_t (tgt := 1056) rfl dL_law_1051 (by decide) ?_
      refine V.iload 1 rfl dL_law_1056 ?_
      refine V.if_ne_t (tgt := 1073) (by decide) dL_law_1058 (by decide) ?_
      refine V.goto (tgt := 1529) dL_law_1073 (by decide) ?_
      refine V.eqlv (lv2 := [(4, .int (nI i)), (3, .ref ob), (2, .ref (a 0)), (1, .ref o), (0, .ref sa)]) [2, 3, 4, 5, 6] rfl ?_
      refine V.widen (k2 := kc + 20) (n2 := nc + 400) (by have : rmL_nozzle.cells ≤ 20 := Nat.le_of_ble_eq_true rfl; show kc + rmL_nozzle.cells ≤ kc + 20; omega) (by have : rmL_nozzle.slots ≤ 400 := Nat.le_of_ble_eq_true rfl; show nc + rmL_nozzle.slots ≤ nc + 400; omega) ?_
      exact hk _ _ _ _ _ _ _ _ _ _ _ _ _ _ _ _ _ _ _ _ _ _ ⟨hz.mo, hh.mo, hl, hT, hD⟩
    · skip
      refine V.perm (pvL (List.Perm.refl _)) ?_
      refine V.eqws (ws2 := (SCW g sa L sc) ++ (OB g ob ff) ++ (GW g o b c u h x z y ai pa tu tx len s n sv) ++ (MW g a z hi tx aj pj tj pt ke (nI n) (nI len) th re nu du ha)) rfl ?_
      rw [show (cd2 IOB IAE) IAE = 2 from by decide +kernel]
      refine V.eqst (st2 := [.int 2]) rfl ?_
      refine V.istore (lv2 := [(5, .int 2), (4, .int (nI i)), (3, .ref ob), (2, .ref (a 0)), (1, .ref o), (0, .ref sa)]) dL_law_1025 (by decide) rfl ?_
      refine V.aload_n 3 rfl dL_law_1027 rfl ?_
      refine V.aload_n 5 rfl dL_law_1028 rfl ?_
      refine V.iload 1 rfl dL_law_1029 ?_
      refine V.iconst (v := 1) dL_law_1031 (by decide) ?_
      refine V.iaddN (v := nI (i + 1)) dL_law_1032 (nI_add i 1) ?_
      refine V.ialdL (i + 1) (by omega) hL dL_law_1033 ?_
      rw [hq0]
      refine V.aload_n 5 rfl dL_law_1034 rfl ?_
      refine V.iload 1 rfl dL_law_1035 ?_
      refine V.iconst (v := 2) dL_law_1037 (by decide) ?_
      refine V.iaddN (v := nI (i + 2)) dL_law_1038 (nI_add i 2) ?_
      refine V.ialdL (i + 2) (by omega) hL dL_law_1039 ?_
      rw [hq1]
      refine V.callVPf (F := ((SCW g sa L sc) ++ (OB g ob ff)) ++ (GW g o b c u h x z y ai pa tu tx len s n sv)) (ws2 := (SCW g sa L sc) ++ (OB g ob ff) ++ (GW g o b c u h x z y ai pa tu tx len s n sv) ++ (MW g a z hi tx aj pj tj pt ke (nI n) (nI len) 2 re nu du ha)) (st2 := [.int 0]) [.int (nI j), .int q1] [] (kX6_nozzle_b2 g a z hi tx aj pj tj pt ke (nI n) (nI len) th re nu du ha (nI j) q1 (show wi (nI j) 0 3 = true from wi_in (m := 3) (by decide) (by omega)) d1) gL_law_X6_nozzle rfl (by show _ ∧ _ ∧ _ ∧ _ = some (2 : Nat); decide +kernel) ⟨(Nat.le_of_ble_eq_true rfl), (Nat.le_of_ble_eq_true rfl)⟩ (hc := (rfl : vwCl[6]? = some (RX6, TX6, 15))) 0 rfl pvM rfl (Nat.le_of_ble_eq_true rfl) ⟨(by have : rmL_nozzle.cells ≤ 20 := Nat.le_of_ble_eq_true rfl; show kc + rmL_nozzle.cells + 0 ≤ 601024; omega), (by have : rmL_nozzle.slots ≤ 400 := Nat.le_of_ble_eq_true rfl; show nc + rmL_nozzle.slots + 0 ≤ 7293034; omega)⟩ dL_law_1040 MWm pvM.symm rfl rfl rfl ?_
      refine V.istore (lv2 := [(6, .int 0), (5, .int 2), (4, .int (nI i)), (3, .ref ob), (2, .ref (a 0)), (1, .ref o), (0, .ref sa)]) dL_law_1043 (by decide) rfl ?_
      refine V.aload_n 4 rfl dL_law_1045 rfl ?_
      refine V.callVPf (F := ((SCW g sa L sc) ++ (OB g ob ff)) ++ (GW g o b c u h x z y ai pa tu tx len s n sv)) (ws2 := (SCW g sa L sc) ++ (OB g ob ff) ++ (GW g o b c u h x z y ai pa tu tx len s n sv) ++ (MW g a z hi tx aj pj tj pt ke (nI n) (nI len) 2 re nu du ha)) (st2 := [.int 2]) [] [] (kX6_thrown g a z hi tx aj pj tj pt ke (nI n) (nI len) 2 re nu du ha) gL_law_X6_thrown rfl (by show _ ∧ _ ∧ _ ∧ _ = some (0 : Nat); decide +kernel) ⟨(Nat.le_of_ble_eq_true rfl), (Nat.le_of_ble_eq_true rfl)⟩ (hc := (rfl : vwCl[6]? = some (RX6, TX6, 15))) 0 rfl pvM rfl (Nat.le_of_ble_eq_true rfl) ⟨(by have : rmL_nozzle.cells ≤ 20 := Nat.le_of_ble_eq_true rfl; show kc + rmL_nozzle.cells + 0 ≤ 601024; omega), (by have : rmL_nozzle.slots ≤ 400 := Nat.le_of_ble_eq_true rfl; show nc + rmL_nozzle.slots + 0 ≤ 7293034; omega)⟩ dL_law_1046 MWm pvM.symm rfl rfl rfl ?_
      refine V.iload 1 rfl dL_law_1049 ?_
      refine V.icmp_eq_t (tgt := 1056) rfl dL_law_1051 (by decide) ?_
      refine V.iload 1 rfl dL_law_1056 ?_
      refine V.if_ne_t (tgt := 1073) (by decide) dL_law_1058 (by decide) ?_
      refine V.goto (tgt := 1529) dL_law_1073 (by decide) ?_
      refine V.eqlv (lv2 := [(4, .int (nI i)), (3, .ref ob), (2, .ref (a 0)), (1, .ref o), (0, .ref sa)]) [2, 3, 4, 5, 6] rfl ?_
      refine V.widen (k2 := kc + 20) (n2 := nc + 400) (by have : rmL_nozzle.cells ≤ 20 := Nat.le_of_ble_eq_true rfl; show kc + rmL_nozzle.cells ≤ kc + 20; omega) (by have : rmL_nozzle.slots ≤ 400 := Nat.le_of_ble_eq_true rfl; show nc + rmL_nozzle.slots ≤ nc + 400; omega) ?_
      exact hk _ _ _ _ _ _ _ _ _ _ _ _ _ _ _ _ _ _ _ _ _ _ ⟨hz.mo, hh.mo, hl, hT, hD⟩
set_option maxHeartbeats 4000000 in
set_option maxRecDepth 100000 in
theorem cs_trust (g : GT) (hst : g.1.stackTraces = false) (QF : QT) (sa ob o : Nat) (b c u h x a : Nat → Nat) (L i K : Nat) (sc : Nat → Int32) (kc nc : Nat) (hkc : kc + 20 ≤ 601024) (hnc : nc + 400 ≤ 7293034) (hiL : i + 6 ≤ L) (hL : L < 2147483648) (hK : K ≤ 590) (ff : Nat → Int64) (z y ai pa tu tx : Nat → Int32) (len : Nat) (s : BS) (n : Nat) (sv : SV) (hi aj pj tj pt ke : Nat → Int32) (th re nu du : Int32) (ha : Int64) (hI : LI K z n sv hi tx len s) (hk : ∀ (ff : Nat → Int64) (z y ai pa tu tx : Nat → Int32) (len : Nat) (s : BS) (n : Nat) (sv : SV) (hi aj pj tj pt ke : Nat → Int32) (th re nu du : Int32) (ha : Int64), LI (K + 1) z n sv hi tx len s → V g rmL_law RL cL_law wsL_law 9 QF (XL sa L sc) (kc + 20) (nc + 400) (SCW g sa L sc ++ OB g ob ff ++ GW g o b c u h x z y ai pa tu tx len s n sv ++ MW g a z hi tx aj pj tj pt ke (nI n) (nI len) th re nu du ha) 1529 [(4, .int (nI i)), (3, .ref ob), (2, .ref (a 0)), (1, .ref o), (0, .ref sa)] []) : V g rmL_law RL cL_law wsL_law 9 QF (XL sa L sc) kc nc ((SCW g sa L sc) ++ (OB g ob ff) ++ (GW g o b c u h x z y ai pa tu tx len s n sv) ++ (MW g a z hi tx aj pj tj pt ke (nI n) (nI len) th re nu du ha)) 1076 [(4, .int (nI i)), (3, .ref ob), (2, .ref (a 0)), (1, .ref o), (0, .ref sa)] [] := by
  obtain ⟨hz, hh, hl, hT, hD⟩ := hI
  have hV : TV z := hz.1
  have hF : z 5 = nI (nf z) := hV.1.1
  have hF8 : nf z ≤ 8 := hV.nf
  have hP : z 6 = nI (np z) := hV.1.2.2.1
  have hP24 : np z ≤ 24 := hV.np
  have hn6 : n ≤ 6 := hh.1
  have hnl : n ≤ sv.length := hh.2.1
  have hl6 : sv.length ≤ 6 := hh.2.2.1
  obtain ⟨q0, hq0⟩ : ∃ q, sc (i + 1) = q := ⟨_, rfl⟩
  obtain ⟨q1, hq1⟩ : ∃ q, sc (i + 2) = q := ⟨_, rfl⟩
  refine V.aload_n 3 rfl dL_law_1076 rfl ?_
  refine V.aload_n 4 rfl dL_law_1077 rfl ?_
  refine V.iload 0 rfl dL_law_1078 ?_
  refine V.iconst (v := 1) dL_law_1080 (by decide) ?_
  refine V.iaddN (v := nI (i + 1)) dL_law_1081 (nI_add i 1) ?_
  refine V.ialdL (i + 1) (by omega) hL dL_law_1082 ?_
  rw [hq0]
  refine V.aload_n 4 rfl dL_law_1083 rfl ?_
  refine V.iload 0 rfl dL_law_1084 ?_
  refine V.iconst (v := 2) dL_law_1086 (by decide) ?_
  refine V.iaddN (v := nI (i + 2)) dL_law_1087 (nI_add i 2) ?_
  refine V.ialdL (i + 2) (by omega) hL dL_law_1088 ?_
  rw [hq1]
  refine V.aload_n 1 rfl dL_law_1089 rfl ?_
  have hM := kX5_trust g hst o b c u h x z y ai pa tu tx len s n sv q0 q1 hF hF8
  refine V.callSHP (F := (SCW g sa L sc) ++ (MW g a z hi tx aj pj tj pt ke (nI n) (nI len) th re nu du ha)) [.ref o, .int q0, .int q1, .ref ob] [] (kL_trust g (GW g o b c u h x z y ai pa tu tx len s n sv) o ob q0 q1 ff rfl hM (fun v w q => by obtain ⟨_, _, _, _, _, _, _, _, e, hG⟩ := q; exact ⟨_, e⟩) (fun v w q => by obtain ⟨_, _, _, _, _, _, _, _, e, hG⟩ := q; exact by rw [hG]; exact FST.of GW_fe) (fun E w q => by rw [q.1]; exact FST.rf) (fun E w q => by (rcases q.2 with ⟨d0, q⟩ | ⟨⟨j, hj, _⟩, d1, q⟩ <;> first | exact q | exact Or.inl q | exact Or.inr q | exact Or.inr (Or.inl q) | exact Or.inr (Or.inr q)))) gL_law_L_trust rfl (by show _ ∧ _ ∧ _ = some (4 : Nat); decide +kernel) ⟨(Nat.le_of_ble_eq_true rfl), (Nat.le_of_ble_eq_true rfl)⟩ pvW rfl (Nat.le_of_ble_eq_true rfl) ⟨(by have : rmL_trust.cells ≤ 20 := Nat.le_of_ble_eq_true rfl; show kc + rmL_trust.cells ≤ 601024; omega), (by have : rmL_trust.slots ≤ 400 := Nat.le_of_ble_eq_true rfl; show nc + rmL_trust.slots ≤ 7293034; omega)⟩ dL_law_1090 (LQ.fst (fun v w q => by obtain ⟨_, _, _, _, _, _, _, _, e, hG⟩ := q; exact by rw [hG]; exact FST.of GW_fe) (fun E w q => by rw [q.1]; exact FST.rf)) (fun v w hq => ?_)
  rcases hq with ⟨r, w1, hQ1, rfl, rfl⟩ | ⟨E, w1, hX1, rfl, rfl⟩
  · skip
    obtain ⟨j, f, hj, hf, rfl, rfl, d0, d1, e, hG⟩ := hQ1
    injection e with e; injection e with e; subst e
    subst hG
    refine V.perm (pvL (List.Perm.refl _)) ?_
    refine V.eqws (ws2 := (SCW g sa L sc) ++ (OB g ob (vp_updL ff 0 (z (216 + 8 * j + f)).toInt64)) ++ (GW g o b c u h x z y ai pa tu tx len s n sv) ++ (MW g a z hi tx aj pj tj pt ke (nI n) (nI len) th re nu du ha)) rfl ?_
    refine V.eqst (st2 := [.int 0]) rfl ?_
    refine V.istore (lv2 := [(5, .int 0), (4, .int (nI i)), (3, .ref ob), (2, .ref (a 0)), (1, .ref o), (0, .ref sa)]) dL_law_1093 (by decide) rfl ?_
    refine V.aload_n 3 rfl dL_law_1095 rfl ?_
    refine V.aload_n 5 rfl dL_law_1096 rfl ?_
    refine V.iload 1 rfl dL_law_1097 ?_
    refine V.iconst (v := 1) dL_law_1099 (by decide) ?_
    refine V.iaddN (v := nI (i + 1)) dL_law_1100 (nI_add i 1) ?_
    refine V.ialdL (i + 1) (by omega) hL dL_law_1101 ?_
    rw [hq0]
    refine V.aload_n 5 rfl dL_law_1102 rfl ?_
    refine V.iload 1 rfl dL_law_1103 ?_
    refine V.iconst (v := 2) dL_law_1105 (by decide) ?_
    refine V.iaddN (v := nI (i + 2)) dL_law_1106 (nI_add i 2) ?_
    refine V.ialdL (i + 2) (by omega) hL dL_law_1107 ?_
    rw [hq1]
    refine V.callVPf (F := ((SCW g sa L sc) ++ (OB g ob (vp_updL ff 0 (z (216 + 8 * j + f)).toInt64))) ++ (GW g o b c u h x z y ai pa tu tx len s n sv)) (ws2 := (SCW g sa L sc) ++ (OB g ob (vp_updL ff 0 (z (216 + 8 * j + f)).toInt64)) ++ (GW g o b c u h x z y ai pa tu tx len s n sv) ++ (MW g a z hi tx aj pj tj pt ke (nI n) (nI len) 0 re nu du ha)) (st2 := [.int (z (216 + 8 * j + f))]) [.int (nI j), .int (nI f)] [] (kX6_trust_ok g a z hi tx aj pj tj pt ke (nI n) (nI len) th re nu du ha j f hj (by omega) d0 d1) gL_law_X6_trust rfl (by show _ ∧ _ ∧ _ ∧ _ = some (2 : Nat); decide +kernel) ⟨(Nat.le_of_ble_eq_true rfl), (Nat.le_of_ble_eq_true rfl)⟩ (hc := (rfl : vwCl[6]? = some (RX6, TX6, 15))) 0 rfl pvM rfl (Nat.le_of_ble_eq_true rfl) ⟨(by have : rmL_trust.cells ≤ 20 := Nat.le_of_ble_eq_true rfl; show kc + rmL_trust.cells + 0 ≤ 601024; omega), (by have : rmL_trust.slots ≤ 400 := Nat.le_of_ble_eq_true rfl; show nc + rmL_trust.slots + 0 ≤ 7293034; omega)⟩ dL_law_1108 MWm pvM.symm rfl rfl rfl ?_
    refine V.istore (lv2 := [(6, .int (z (216 + 8 * j + f))), (5, .int 0), (4, .int (nI i)), (3, .ref ob), (2, .ref (a 0)), (1, .ref o), (0, .ref sa)]) dL_law_1111 (by decide) rfl ?_
    refine V.aload_n 4 rfl dL_law_1113 rfl ?_
    refine V.callVPf (F := ((SCW g sa L sc) ++ (OB g ob (vp_updL ff 0 (z (216 + 8 * j + f)).toInt64))) ++ (GW g o b c u h x z y ai pa tu tx len s n sv)) (ws2 := (SCW g sa L sc) ++ (OB g ob (vp_updL ff 0 (z (216 + 8 * j + f)).toInt64)) ++ (GW g o b c u h x z y ai pa tu tx len s n sv) ++ (MW g a z hi tx aj pj tj pt ke (nI n) (nI len) 0 re nu du ha)) (st2 := [.int 0]) [] [] (kX6_thrown g a z hi tx aj pj tj pt ke (nI n) (nI len) 0 re nu du ha) gL_law_X6_thrown rfl (by show _ ∧ _ ∧ _ ∧ _ = some (0 : Nat); decide +kernel) ⟨(Nat.le_of_ble_eq_true rfl), (Nat.le_of_ble_eq_true rfl)⟩ (hc := (rfl : vwCl[6]? = some (RX6, TX6, 15))) 0 rfl pvM rfl (Nat.le_of_ble_eq_true rfl) ⟨(by have : rmL_trust.cells ≤ 20 := Nat.le_of_ble_eq_true rfl; show kc + rmL_trust.cells + 0 ≤ 601024; omega), (by have : rmL_trust.slots ≤ 400 := Nat.le_of_ble_eq_true rfl; show nc + rmL_trust.slots + 0 ≤ 7293034; omega)⟩ dL_law_1114 MWm pvM.symm rfl rfl rfl ?_
    refine V.iload 1 rfl dL_law_1117 ?_
    refine V.icmp_eq_t (tgt := 1124) rfl dL_law_1119 (by decide) ?_
    refine V.iload 1 rfl dL_law_1124 ?_
    refine V.if_ne_f (tgt := 1141) rfl dL_law_1126 (by decide) ?_
    refine V.aload_n 3 rfl dL_law_1129 rfl ?_
    refine V.iconst (v := 0) dL_law_1130 (by decide) ?_
    refine V.lald (f := vp_updL ff 0 (z (216 + 8 * j + f)).toInt64) 0 0 rfl rfl (by decide) (by decide) dL_law_1131 ?_
    refine V.eqst (st2 := [.long (z (216 + 8 * j + f)).toInt64]) rfl ?_
    refine V.iload 0 rfl dL_law_1132 ?_
    refine V.i2l dL_law_1134 ?_
    refine V.lcmp dL_law_1135 ?_
    refine V.eqst (st2 := [.int 0]) (by rw [cmp_0] <;> rfl) ?_
    refine V.if_eq_t (tgt := 1141) (by decide) dL_law_1136 (by decide) ?_
    refine V.goto (tgt := 1529) dL_law_1141 (by decide) ?_
    refine V.eqlv (lv2 := [(4, .int (nI i)), (3, .ref ob), (2, .ref (a 0)), (1, .ref o), (0, .ref sa)]) [2, 3, 4, 5, 6] rfl ?_
    refine V.widen (k2 := kc + 20) (n2 := nc + 400) (by have : rmL_trust.cells ≤ 20 := Nat.le_of_ble_eq_true rfl; show kc + rmL_trust.cells ≤ kc + 20; omega) (by have : rmL_trust.slots ≤ 400 := Nat.le_of_ble_eq_true rfl; show nc + rmL_trust.slots ≤ nc + 400; omega) ?_
    exact hk _ _ _ _ _ _ _ _ _ _ _ _ _ _ _ _ _ _ _ _ _ _ ⟨hz.mo, hh.mo, hl, hT, hD⟩
  · skip
    obtain ⟨rfl, hX1⟩ := hX1
    rcases hX1 with ⟨d0, rfl⟩ | ⟨⟨j, hj, rfl⟩, d1, rfl⟩
    · skip
      refine V.perm (pvL (List.Perm.refl _)) ?_
      refine V.eqws (ws2 := (SCW g sa L sc) ++ (OB g ob ff) ++ (GW g o b c u h x z y ai pa tu tx len s n sv) ++ (MW g a z hi tx aj pj tj pt ke (nI n) (nI len) th re nu du ha)) rfl ?_
      rw [show (cd2 IOB IOB) IOB = 1 from by decide +kernel]
      refine V.eqst (st2 := [.int 1]) rfl ?_
      refine V.istore (lv2 := [(5, .int 1), (4, .int (nI i)), (3, .ref ob), (2, .ref (a 0)), (1, .ref o), (0, .ref sa)]) dL_law_1093 (by decide) rfl ?_
      refine V.aload_n 3 rfl dL_law_1095 rfl ?_
      refine V.aload_n 5 rfl dL_law_1096 rfl ?_
      refine V.iload 1 rfl dL_law_1097 ?_
      refine V.iconst (v := 1) dL_law_1099 (by decide) ?_
      refine V.iaddN (v := nI (i + 1)) dL_law_1100 (nI_add i 1) ?_
      refine V.ialdL (i + 1) (by omega) hL dL_law_1101 ?_
      rw [hq0]
      refine V.aload_n 5 rfl dL_law_1102 rfl ?_
      refine V.iload 1 rfl dL_law_1103 ?_
      refine V.iconst (v := 2) dL_law_1105 (by decide) ?_
      refine V.iaddN (v := nI (i + 2)) dL_law_1106 (nI_add i 2) ?_
      refine V.ialdL (i + 2) (by omega) hL dL_law_1107 ?_
      rw [hq1]
      refine V.callVPf (F := ((SCW g sa L sc) ++ (OB g ob ff)) ++ (GW g o b c u h x z y ai pa tu tx len s n sv)) (ws2 := (SCW g sa L sc) ++ (OB g ob ff) ++ (GW g o b c u h x z y ai pa tu tx len s n sv) ++ (MW g a z hi tx aj pj tj pt ke (nI n) (nI len) 1 re nu du ha)) (st2 := [.int 0]) [.int q0, .int q1] [] (kX6_trust_b1 g a z hi tx aj pj tj pt ke (nI n) (nI len) th re nu du ha q0 q1 d0) gL_law_X6_trust rfl (by show _ ∧ _ ∧ _ ∧ _ = some (2 : Nat); decide +kernel) ⟨(Nat.le_of_ble_eq_true rfl), (Nat.le_of_ble_eq_true rfl)⟩ (hc := (rfl : vwCl[6]? = some (RX6, TX6, 15))) 0 rfl pvM rfl (Nat.le_of_ble_eq_true rfl) ⟨(by have : rmL_trust.cells ≤ 20 := Nat.le_of_ble_eq_true rfl; show kc + rmL_trust.cells + 0 ≤ 601024; omega), (by have : rmL_trust.slots ≤ 400 := Nat.le_of_ble_eq_true rfl; show nc + rmL_trust.slots + 0 ≤ 7293034; omega)⟩ dL_law_1108 MWm pvM.symm rfl rfl rfl ?_
      refine V.istore (lv2 := [(6, .int 0), (5, .int 1), (4, .int (nI i)), (3, .ref ob), (2, .ref (a 0)), (1, .ref o), (0, .ref sa)]) dL_law_1111 (by decide) rfl ?_
      refine V.aload_n 4 rfl dL_law_1113 rfl ?_
      refine V.callVPf (F := ((SCW g sa L sc) ++ (OB g ob ff)) ++ (GW g o b c u h x z y ai pa tu tx len s n sv)) (ws2 := (SCW g sa L sc) ++ (OB g ob ff) ++ (GW g o b c u h x z y ai pa tu tx len s n sv) ++ (MW g a z hi tx aj pj tj pt ke (nI n) (nI len) 1 re nu du ha)) (st2 := [.int 1]) [] [] (kX6_thrown g a z hi tx aj pj tj pt ke (nI n) (nI len) 1 re nu du ha) gL_law_X6_thrown rfl (by show _ ∧ _ ∧ _ ∧ _ = some (0 : Nat); decide +kernel) ⟨(Nat.le_of_ble_eq_true rfl), (Nat.le_of_ble_eq_true rfl)⟩ (hc := (rfl : vwCl[6]? = some (RX6, TX6, 15))) 0 rfl pvM rfl (Nat.le_of_ble_eq_true rfl) ⟨(by have : rmL_trust.cells ≤ 20 := Nat.le_of_ble_eq_true rfl; show kc + rmL_trust.cells + 0 ≤ 601024; omega), (by have : rmL_trust.slots ≤ 400 := Nat.le_of_ble_eq_true rfl; show nc + rmL_trust.slots + 0 ≤ 7293034; omega)⟩ dL_law_1114 MWm pvM.symm rfl rfl rfl ?_
      refine V.iload 1 rfl dL_law_1117 ?_
      refine V.icmp_eq_t (tgt := 1124) rfl dL_law_1119 (by decide) ?_
      refine V.iload 1 rfl dL_law_1124 ?_
      refine V.if_ne_t (tgt := 1141) (by decide) dL_law_1126 (by decide) ?_
      refine V.goto (tgt := 1529) dL_law_1141 (by decide) ?_
      refine V.eqlv (lv2 := [(4, .int (nI i)), (3, .ref ob), (2, .ref (a 0)), (1, .ref o), (0, .ref sa)]) [2, 3, 4, 5, 6] rfl ?_
      refine V.widen (k2 := kc + 20) (n2 := nc + 400) (by have : rmL_trust.cells ≤ 20 := Nat.le_of_ble_eq_true rfl; show kc + rmL_trust.cells ≤ kc + 20; omega) (by have : rmL_trust.slots ≤ 400 := Nat.le_of_ble_eq_true rfl; show nc + rmL_trust.slots ≤ nc + 400; omega) ?_
      exact hk _ _ _ _ _ _ _ _ _ _ _ _ _ _ _ _ _ _ _ _ _ _ ⟨hz.mo, hh.mo, hl, hT, hD⟩
    · skip
      refine V.perm (pvL (List.Perm.refl _)) ?_
      refine V.eqws (ws2 := (SCW g sa L sc) ++ (OB g ob ff) ++ (GW g o b c u h x z y ai pa tu tx len s n sv) ++ (MW g a z hi tx aj pj tj pt ke (nI n) (nI len) th re nu du ha)) rfl ?_
      rw [show (cd2 IOB IOB) IOB = 1 from by decide +kernel]
      refine V.eqst (st2 := [.int 1]) rfl ?_
      refine V.istore (lv2 := [(5, .int 1), (4, .int (nI i)), (3, .ref ob), (2, .ref (a 0)), (1, .ref o), (0, .ref sa)]) dL_law_1093 (by decide) rfl ?_
      refine V.aload_n 3 rfl dL_law_1095 rfl ?_
      refine V.aload_n 5 rfl dL_law_1096 rfl ?_
      refine V.iload 1 rfl dL_law_1097 ?_
      refine V.iconst (v := 1) dL_law_1099 (by decide) ?_
      refine V.iaddN (v := nI (i + 1)) dL_law_1100 (nI_add i 1) ?_
      refine V.ialdL (i + 1) (by omega) hL dL_law_1101 ?_
      rw [hq0]
      refine V.aload_n 5 rfl dL_law_1102 rfl ?_
      refine V.iload 1 rfl dL_law_1103 ?_
      refine V.iconst (v := 2) dL_law_1105 (by decide) ?_
      refine V.iaddN (v := nI (i + 2)) dL_law_1106 (nI_add i 2) ?_
      refine V.ialdL (i + 2) (by omega) hL dL_law_1107 ?_
      rw [hq1]
      refine V.callVPf (F := ((SCW g sa L sc) ++ (OB g ob ff)) ++ (GW g o b c u h x z y ai pa tu tx len s n sv)) (ws2 := (SCW g sa L sc) ++ (OB g ob ff) ++ (GW g o b c u h x z y ai pa tu tx len s n sv) ++ (MW g a z hi tx aj pj tj pt ke (nI n) (nI len) 1 re nu du ha)) (st2 := [.int 0]) [.int (nI j), .int q1] [] (kX6_trust_b2 g a z hi tx aj pj tj pt ke (nI n) (nI len) th re nu du ha (nI j) q1 (show wi (nI j) 0 3 = true from wi_in (m := 3) (by decide) (by omega)) d1) gL_law_X6_trust rfl (by show _ ∧ _ ∧ _ ∧ _ = some (2 : Nat); decide +kernel) ⟨(Nat.le_of_ble_eq_true rfl), (Nat.le_of_ble_eq_true rfl)⟩ (hc := (rfl : vwCl[6]? = some (RX6, TX6, 15))) 0 rfl pvM rfl (Nat.le_of_ble_eq_true rfl) ⟨(by have : rmL_trust.cells ≤ 20 := Nat.le_of_ble_eq_true rfl; show kc + rmL_trust.cells + 0 ≤ 601024; omega), (by have : rmL_trust.slots ≤ 400 := Nat.le_of_ble_eq_true rfl; show nc + rmL_trust.slots + 0 ≤ 7293034; omega)⟩ dL_law_1108 MWm pvM.symm rfl rfl rfl ?_
      refine V.istore (lv2 := [(6, .int 0), (5, .int 1), (4, .int (nI i)), (3, .ref ob), (2, .ref (a 0)), (1, .ref o), (0, .ref sa)]) dL_law_1111 (by decide) rfl ?_
      refine V.aload_n 4 rfl dL_law_1113 rfl ?_
      refine V.callVPf (F := ((SCW g sa L sc) ++ (OB g ob ff)) ++ (GW g o b c u h x z y ai pa tu tx len s n sv)) (ws2 := (SCW g sa L sc) ++ (OB g ob ff) ++ (GW g o b c u h x z y ai pa tu tx len s n sv) ++ (MW g a z hi tx aj pj tj pt ke (nI n) (nI len) 1 re nu du ha)) (st2 := [.int 1]) [] [] (kX6_thrown g a z hi tx aj pj tj pt ke (nI n) (nI len) 1 re nu du ha) gL_law_X6_thrown rfl (by show _ ∧ _ ∧ _ ∧ _ = some (0 : Nat); decide +kernel) ⟨(Nat.le_of_ble_eq_true rfl), (Nat.le_of_ble_eq_true rfl)⟩ (hc := (rfl : vwCl[6]? = some (RX6, TX6, 15))) 0 rfl pvM rfl (Nat.le_of_ble_eq_true rfl) ⟨(by have : rmL_trust.cells ≤ 20 := Nat.le_of_ble_eq_true rfl; show kc + rmL_trust.cells + 0 ≤ 601024; omega), (by have : rmL_trust.slots ≤ 400 := Nat.le_of_ble_eq_true rfl; show nc + rmL_trust.slots + 0 ≤ 7293034; omega)⟩ dL_law_1114 MWm pvM.symm rfl rfl rfl ?_
      refine V.iload 1 rfl dL_law_1117 ?_
      refine V.icmp_eq_t (tgt := 1124) rfl dL_law_1119 (by decide) ?_
      refine V.iload 1 rfl dL_law_1124 ?_
      refine V.if_ne_t (tgt := 1141) (by decide) dL_law_1126 (by decide) ?_
      refine V.goto (tgt := 1529) dL_law_1141 (by decide) ?_
      refine V.eqlv (lv2 := [(4, .int (nI i)), (3, .ref ob), (2, .ref (a 0)), (1, .ref o), (0, .ref sa)]) [2, 3, 4, 5, 6] rfl ?_
      refine V.widen (k2 := kc + 20) (n2 := nc + 400) (by have : rmL_trust.cells ≤ 20 := Nat.le_of_ble_eq_true rfl; show kc + rmL_trust.cells ≤ kc + 20; omega) (by have : rmL_trust.slots ≤ 400 := Nat.le_of_ble_eq_true rfl; show nc + rmL_trust.slots ≤ nc + 400; omega) ?_
      exact hk _ _ _ _ _ _ _ _ _ _ _ _ _ _ _ _ _ _ _ _ _ _ ⟨hz.mo, hh.mo, hl, hT, hD⟩
set_option maxHeartbeats 4000000 in
set_option maxRecDepth 100000 in
theorem cs_count (g : GT) (hst : g.1.stackTraces = false) (QF : QT) (sa ob o : Nat) (b c u h x a : Nat → Nat) (L i K : Nat) (sc : Nat → Int32) (kc nc : Nat) (hkc : kc + 20 ≤ 601024) (hnc : nc + 400 ≤ 7293034) (hiL : i + 6 ≤ L) (hL : L < 2147483648) (hK : K ≤ 590) (ff : Nat → Int64) (z y ai pa tu tx : Nat → Int32) (len : Nat) (s : BS) (n : Nat) (sv : SV) (hi aj pj tj pt ke : Nat → Int32) (th re nu du : Int32) (ha : Int64) (hI : LI K z n sv hi tx len s) (hk : ∀ (ff : Nat → Int64) (z y ai pa tu tx : Nat → Int32) (len : Nat) (s : BS) (n : Nat) (sv : SV) (hi aj pj tj pt ke : Nat → Int32) (th re nu du : Int32) (ha : Int64), LI (K + 1) z n sv hi tx len s → V g rmL_law RL cL_law wsL_law 9 QF (XL sa L sc) (kc + 20) (nc + 400) (SCW g sa L sc ++ OB g ob ff ++ GW g o b c u h x z y ai pa tu tx len s n sv ++ MW g a z hi tx aj pj tj pt ke (nI n) (nI len) th re nu du ha) 1529 [(4, .int (nI i)), (3, .ref ob), (2, .ref (a 0)), (1, .ref o), (0, .ref sa)] []) : V g rmL_law RL cL_law wsL_law 9 QF (XL sa L sc) kc nc ((SCW g sa L sc) ++ (OB g ob ff) ++ (GW g o b c u h x z y ai pa tu tx len s n sv) ++ (MW g a z hi tx aj pj tj pt ke (nI n) (nI len) th re nu du ha)) 1144 [(4, .int (nI i)), (3, .ref ob), (2, .ref (a 0)), (1, .ref o), (0, .ref sa)] [] := by
  obtain ⟨hz, hh, hl, hT, hD⟩ := hI
  have hV : TV z := hz.1
  have hF : z 5 = nI (nf z) := hV.1.1
  have hF8 : nf z ≤ 8 := hV.nf
  have hP : z 6 = nI (np z) := hV.1.2.2.1
  have hP24 : np z ≤ 24 := hV.np
  have hn6 : n ≤ 6 := hh.1
  have hnl : n ≤ sv.length := hh.2.1
  have hl6 : sv.length ≤ 6 := hh.2.2.1
  obtain ⟨q0, hq0⟩ : ∃ q, sc (i + 1) = q := ⟨_, rfl⟩
  refine V.aload_n 3 rfl dL_law_1144 rfl ?_
  refine V.aload_n 4 rfl dL_law_1145 rfl ?_
  refine V.iload 0 rfl dL_law_1146 ?_
  refine V.iconst (v := 1) dL_law_1148 (by decide) ?_
  refine V.iaddN (v := nI (i + 1)) dL_law_1149 (nI_add i 1) ?_
  refine V.ialdL (i + 1) (by omega) hL dL_law_1150 ?_
  rw [hq0]
  refine V.aload_n 1 rfl dL_law_1151 rfl ?_
  have hM := kX5_count g hst o b c u h x z y ai pa tu tx len s n sv q0 hF hF8 hP hP24
  refine V.callSHP (F := (SCW g sa L sc) ++ (MW g a z hi tx aj pj tj pt ke (nI n) (nI len) th re nu du ha)) [.ref o, .int q0, .ref ob] [] (kL_count g (GW g o b c u h x z y ai pa tu tx len s n sv) o ob q0 ff rfl hM (fun v w q => by obtain ⟨_, _, _, _, e, hG⟩ := q; exact ⟨_, e⟩) (fun v w q => by obtain ⟨_, _, _, _, e, hG⟩ := q; exact by rw [hG]; exact FST.of GW_fe) (fun E w q => by rw [q.1]; exact FST.rf) (fun E w q => by (rcases q.2 with ⟨d0, q⟩ <;> first | exact q | exact Or.inl q | exact Or.inr q | exact Or.inr (Or.inl q) | exact Or.inr (Or.inr q)))) gL_law_L_count rfl (by show _ ∧ _ ∧ _ = some (3 : Nat); decide +kernel) ⟨(Nat.le_of_ble_eq_true rfl), (Nat.le_of_ble_eq_true rfl)⟩ pvW rfl (Nat.le_of_ble_eq_true rfl) ⟨(by have : rmL_count.cells ≤ 20 := Nat.le_of_ble_eq_true rfl; show kc + rmL_count.cells ≤ 601024; omega), (by have : rmL_count.slots ≤ 400 := Nat.le_of_ble_eq_true rfl; show nc + rmL_count.slots ≤ 7293034; omega)⟩ dL_law_1152 (LQ.fst (fun v w q => by obtain ⟨_, _, _, _, e, hG⟩ := q; exact by rw [hG]; exact FST.of GW_fe) (fun E w q => by rw [q.1]; exact FST.rf)) (fun v w hq => ?_)
  rcases hq with ⟨r, w1, hQ1, rfl, rfl⟩ | ⟨E, w1, hX1, rfl, rfl⟩
  · skip
    obtain ⟨kk, hkk, rfl, d0, e, hG⟩ := hQ1
    injection e with e; injection e with e; subst e
    subst hG
    refine V.perm (pvL (List.Perm.refl _)) ?_
    refine V.eqws (ws2 := (SCW g sa L sc) ++ (OB g ob (vp_updL ff 0 (ctd z n kk).toInt64)) ++ (GW g o b c u h x z y ai pa tu tx len s n sv) ++ (MW g a z hi tx aj pj tj pt ke (nI n) (nI len) th re nu du ha)) rfl ?_
    refine V.eqst (st2 := [.int 0]) rfl ?_
    refine V.istore (lv2 := [(5, .int 0), (4, .int (nI i)), (3, .ref ob), (2, .ref (a 0)), (1, .ref o), (0, .ref sa)]) dL_law_1155 (by decide) rfl ?_
    refine V.aload_n 3 rfl dL_law_1157 rfl ?_
    refine V.aload_n 5 rfl dL_law_1158 rfl ?_
    refine V.iload 1 rfl dL_law_1159 ?_
    refine V.iconst (v := 1) dL_law_1161 (by decide) ?_
    refine V.iaddN (v := nI (i + 1)) dL_law_1162 (nI_add i 1) ?_
    refine V.ialdL (i + 1) (by omega) hL dL_law_1163 ?_
    rw [hq0]
    refine V.callVPf (F := ((SCW g sa L sc) ++ (OB g ob (vp_updL ff 0 (ctd z n kk).toInt64))) ++ (GW g o b c u h x z y ai pa tu tx len s n sv)) (ws2 := (SCW g sa L sc) ++ (OB g ob (vp_updL ff 0 (ctd z n kk).toInt64)) ++ (GW g o b c u h x z y ai pa tu tx len s n sv) ++ (MW g a z hi tx aj pj tj pt ke (nI n) (nI len) 0 re nu du ha)) (st2 := [.int (ctd z n kk)]) [.int (nI kk)] [] (kX6_count_ok g a z hi tx aj pj tj pt ke (nI len) th re nu du ha kk n hkk d0 hF hF8 hP hP24) gL_law_X6_count rfl (by show _ ∧ _ ∧ _ ∧ _ = some (1 : Nat); decide +kernel) ⟨(Nat.le_of_ble_eq_true rfl), (Nat.le_of_ble_eq_true rfl)⟩ (hc := (rfl : vwCl[6]? = some (RX6, TX6, 15))) 0 rfl pvM rfl (Nat.le_of_ble_eq_true rfl) ⟨(by have : rmL_count.cells ≤ 20 := Nat.le_of_ble_eq_true rfl; show kc + rmL_count.cells + 0 ≤ 601024; omega), (by have : rmL_count.slots ≤ 400 := Nat.le_of_ble_eq_true rfl; show nc + rmL_count.slots + 0 ≤ 7293034; omega)⟩ dL_law_1164 MWm pvM.symm rfl rfl rfl ?_
    refine V.istore (lv2 := [(6, .int (ctd z n kk)), (5, .int 0), (4, .int (nI i)), (3, .ref ob), (2, .ref (a 0)), (1, .ref o), (0, .ref sa)]) dL_law_1167 (by decide) rfl ?_
    refine V.aload_n 4 rfl dL_law_1169 rfl ?_
    refine V.callVPf (F := ((SCW g sa L sc) ++ (OB g ob (vp_updL ff 0 (ctd z n kk).toInt64))) ++ (GW g o b c u h x z y ai pa tu tx len s n sv)) (ws2 := (SCW g sa L sc) ++ (OB g ob (vp_updL ff 0 (ctd z n kk).toInt64)) ++ (GW g o b c u h x z y ai pa tu tx len s n sv) ++ (MW g a z hi tx aj pj tj pt ke (nI n) (nI len) 0 re nu du ha)) (st2 := [.int 0]) [] [] (kX6_thrown g a z hi tx aj pj tj pt ke (nI n) (nI len) 0 re nu du ha) gL_law_X6_thrown rfl (by show _ ∧ _ ∧ _ ∧ _ = some (0 : Nat); decide +kernel) ⟨(Nat.le_of_ble_eq_true rfl), (Nat.le_of_ble_eq_true rfl)⟩ (hc := (rfl : vwCl[6]? = some (RX6, TX6, 15))) 0 rfl pvM rfl (Nat.le_of_ble_eq_true rfl) ⟨(by have : rmL_count.cells ≤ 20 := Nat.le_of_ble_eq_true rfl; show kc + rmL_count.cells + 0 ≤ 601024; omega), (by have : rmL_count.slots ≤ 400 := Nat.le_of_ble_eq_true rfl; show nc + rmL_count.slots + 0 ≤ 7293034; omega)⟩ dL_law_1170 MWm pvM.symm rfl rfl rfl ?_
    refine V.iload 1 rfl dL_law_1173 ?_
    refine V.icmp_eq_t (tgt := 1180) rfl dL_law_1175 (by decide) ?_
    refine V.iload 1 rfl dL_law_1180 ?_
    refine V.if_ne_f (tgt := 1197) rfl dL_law_1182 (by decide) ?_
    refine V.aload_n 3 rfl dL_law_1185 rfl ?_
    refine V.iconst (v := 0) dL_law_1186 (by decide) ?_
    refine V.lald (f := vp_updL ff 0 (ctd z n kk).toInt64) 0 0 rfl rfl (by decide) (by decide) dL_law_1187 ?_
    refine V.eqst (st2 := [.long (ctd z n kk).toInt64]) rfl ?_
    refine V.iload 0 rfl dL_law_1188 ?_
    refine V.i2l dL_law_1190 ?_
    refine V.lcmp dL_law_1191 ?_
    refine V.eqst (st2 := [.int 0]) (by rw [cmp_0] <;> rfl) ?_
    refine V.if_eq_t (tgt := 1197) (by decide) dL_law_1192 (by decide) ?_
    refine V.goto (tgt := 1529) dL_law_1197 (by decide) ?_
    refine V.eqlv (lv2 := [(4, .int (nI i)), (3, .ref ob), (2, .ref (a 0)), (1, .ref o), (0, .ref sa)]) [2, 3, 4, 5, 6] rfl ?_
    refine V.widen (k2 := kc + 20) (n2 := nc + 400) (by have : rmL_count.cells ≤ 20 := Nat.le_of_ble_eq_true rfl; show kc + rmL_count.cells ≤ kc + 20; omega) (by have : rmL_count.slots ≤ 400 := Nat.le_of_ble_eq_true rfl; show nc + rmL_count.slots ≤ nc + 400; omega) ?_
    exact hk _ _ _ _ _ _ _ _ _ _ _ _ _ _ _ _ _ _ _ _ _ _ ⟨hz.mo, hh.mo, hl, hT, hD⟩
  · skip
    obtain ⟨rfl, hX1⟩ := hX1
    rcases hX1 with ⟨d0, rfl⟩
    · skip
      refine V.perm (pvL (List.Perm.refl _)) ?_
      refine V.eqws (ws2 := (SCW g sa L sc) ++ (OB g ob ff) ++ (GW g o b c u h x z y ai pa tu tx len s n sv) ++ (MW g a z hi tx aj pj tj pt ke (nI n) (nI len) th re nu du ha)) rfl ?_
      rw [show (cd2 IAE IAE) IAE = 1 from by decide +kernel]
      refine V.eqst (st2 := [.int 1]) rfl ?_
      refine V.istore (lv2 := [(5, .int 1), (4, .int (nI i)), (3, .ref ob), (2, .ref (a 0)), (1, .ref o), (0, .ref sa)]) dL_law_1155 (by decide) rfl ?_
      refine V.aload_n 3 rfl dL_law_1157 rfl ?_
      refine V.aload_n 5 rfl dL_law_1158 rfl ?_
      refine V.iload 1 rfl dL_law_1159 ?_
      refine V.iconst (v := 1) dL_law_1161 (by decide) ?_
      refine V.iaddN (v := nI (i + 1)) dL_law_1162 (nI_add i 1) ?_
      refine V.ialdL (i + 1) (by omega) hL dL_law_1163 ?_
      rw [hq0]
      refine V.callVPf (F := ((SCW g sa L sc) ++ (OB g ob ff)) ++ (GW g o b c u h x z y ai pa tu tx len s n sv)) (ws2 := (SCW g sa L sc) ++ (OB g ob ff) ++ (GW g o b c u h x z y ai pa tu tx len s n sv) ++ (MW g a z hi tx aj pj tj pt ke (nI n) (nI len) 1 re nu du ha)) (st2 := [.int 0]) [.int q0] [] (kX6_count_b1 g a z hi tx aj pj tj pt ke (nI n) (nI len) th re nu du ha q0 d0) gL_law_X6_count rfl (by show _ ∧ _ ∧ _ ∧ _ = some (1 : Nat); decide +kernel) ⟨(Nat.le_of_ble_eq_true rfl), (Nat.le_of_ble_eq_true rfl)⟩ (hc := (rfl : vwCl[6]? = some (RX6, TX6, 15))) 0 rfl pvM rfl (Nat.le_of_ble_eq_true rfl) ⟨(by have : rmL_count.cells ≤ 20 := Nat.le_of_ble_eq_true rfl; show kc + rmL_count.cells + 0 ≤ 601024; omega), (by have : rmL_count.slots ≤ 400 := Nat.le_of_ble_eq_true rfl; show nc + rmL_count.slots + 0 ≤ 7293034; omega)⟩ dL_law_1164 MWm pvM.symm rfl rfl rfl ?_
      refine V.istore (lv2 := [(6, .int 0), (5, .int 1), (4, .int (nI i)), (3, .ref ob), (2, .ref (a 0)), (1, .ref o), (0, .ref sa)]) dL_law_1167 (by decide) rfl ?_
      refine V.aload_n 4 rfl dL_law_1169 rfl ?_
      refine V.callVPf (F := ((SCW g sa L sc) ++ (OB g ob ff)) ++ (GW g o b c u h x z y ai pa tu tx len s n sv)) (ws2 := (SCW g sa L sc) ++ (OB g ob ff) ++ (GW g o b c u h x z y ai pa tu tx len s n sv) ++ (MW g a z hi tx aj pj tj pt ke (nI n) (nI len) 1 re nu du ha)) (st2 := [.int 1]) [] [] (kX6_thrown g a z hi tx aj pj tj pt ke (nI n) (nI len) 1 re nu du ha) gL_law_X6_thrown rfl (by show _ ∧ _ ∧ _ ∧ _ = some (0 : Nat); decide +kernel) ⟨(Nat.le_of_ble_eq_true rfl), (Nat.le_of_ble_eq_true rfl)⟩ (hc := (rfl : vwCl[6]? = some (RX6, TX6, 15))) 0 rfl pvM rfl (Nat.le_of_ble_eq_true rfl) ⟨(by have : rmL_count.cells ≤ 20 := Nat.le_of_ble_eq_true rfl; show kc + rmL_count.cells + 0 ≤ 601024; omega), (by have : rmL_count.slots ≤ 400 := Nat.le_of_ble_eq_true rfl; show nc + rmL_count.slots + 0 ≤ 7293034; omega)⟩ dL_law_1170 MWm pvM.symm rfl rfl rfl ?_
      refine V.iload 1 rfl dL_law_1173 ?_
      refine V.icmp_eq_t (tgt := 1180) rfl dL_law_1175 (by decide) ?_
      refine V.iload 1 rfl dL_law_1180 ?_
      refine V.if_ne_t (tgt := 1197) (by decide) dL_law_1182 (by decide) ?_
      refine V.goto (tgt := 1529) dL_law_1197 (by decide) ?_
      refine V.eqlv (lv2 := [(4, .int (nI i)), (3, .ref ob), (2, .ref (a 0)), (1, .ref o), (0, .ref sa)]) [2, 3, 4, 5, 6] rfl ?_
      refine V.widen (k2 := kc + 20) (n2 := nc + 400) (by have : rmL_count.cells ≤ 20 := Nat.le_of_ble_eq_true rfl; show kc + rmL_count.cells ≤ kc + 20; omega) (by have : rmL_count.slots ≤ 400 := Nat.le_of_ble_eq_true rfl; show nc + rmL_count.slots ≤ nc + 400; omega) ?_
      exact hk _ _ _ _ _ _ _ _ _ _ _ _ _ _ _ _ _ _ _ _ _ _ ⟨hz.mo, hh.mo, hl, hT, hD⟩
set_option maxHeartbeats 4000000 in
set_option maxRecDepth 100000 in
theorem cs_setting (g : GT) (hst : g.1.stackTraces = false) (QF : QT) (sa ob o : Nat) (b c u h x a : Nat → Nat) (L i K : Nat) (sc : Nat → Int32) (kc nc : Nat) (hkc : kc + 20 ≤ 601024) (hnc : nc + 400 ≤ 7293034) (hiL : i + 6 ≤ L) (hL : L < 2147483648) (hK : K ≤ 590) (ff : Nat → Int64) (z y ai pa tu tx : Nat → Int32) (len : Nat) (s : BS) (n : Nat) (sv : SV) (hi aj pj tj pt ke : Nat → Int32) (th re nu du : Int32) (ha : Int64) (hI : LI K z n sv hi tx len s) (hk : ∀ (ff : Nat → Int64) (z y ai pa tu tx : Nat → Int32) (len : Nat) (s : BS) (n : Nat) (sv : SV) (hi aj pj tj pt ke : Nat → Int32) (th re nu du : Int32) (ha : Int64), LI (K + 1) z n sv hi tx len s → V g rmL_law RL cL_law wsL_law 9 QF (XL sa L sc) (kc + 20) (nc + 400) (SCW g sa L sc ++ OB g ob ff ++ GW g o b c u h x z y ai pa tu tx len s n sv ++ MW g a z hi tx aj pj tj pt ke (nI n) (nI len) th re nu du ha) 1529 [(4, .int (nI i)), (3, .ref ob), (2, .ref (a 0)), (1, .ref o), (0, .ref sa)] []) : V g rmL_law RL cL_law wsL_law 9 QF (XL sa L sc) kc nc ((SCW g sa L sc) ++ (OB g ob ff) ++ (GW g o b c u h x z y ai pa tu tx len s n sv) ++ (MW g a z hi tx aj pj tj pt ke (nI n) (nI len) th re nu du ha)) 1200 [(4, .int (nI i)), (3, .ref ob), (2, .ref (a 0)), (1, .ref o), (0, .ref sa)] [] := by
  obtain ⟨hz, hh, hl, hT, hD⟩ := hI
  have hV : TV z := hz.1
  have hF : z 5 = nI (nf z) := hV.1.1
  have hF8 : nf z ≤ 8 := hV.nf
  have hP : z 6 = nI (np z) := hV.1.2.2.1
  have hP24 : np z ≤ 24 := hV.np
  have hn6 : n ≤ 6 := hh.1
  have hnl : n ≤ sv.length := hh.2.1
  have hl6 : sv.length ≤ 6 := hh.2.2.1
  obtain ⟨q0, hq0⟩ : ∃ q, sc (i + 1) = q := ⟨_, rfl⟩
  refine V.aload_n 3 rfl dL_law_1200 rfl ?_
  refine V.aload_n 4 rfl dL_law_1201 rfl ?_
  refine V.iload 0 rfl dL_law_1202 ?_
  refine V.iconst (v := 1) dL_law_1204 (by decide) ?_
  refine V.iaddN (v := nI (i + 1)) dL_law_1205 (nI_add i 1) ?_
  refine V.ialdL (i + 1) (by omega) hL dL_law_1206 ?_
  rw [hq0]
  refine V.aload_n 1 rfl dL_law_1207 rfl ?_
  have hM := kX5_setting g hst o b c u h x z y ai pa tu tx len s n sv q0 
  refine V.callSHP (F := (SCW g sa L sc) ++ (MW g a z hi tx aj pj tj pt ke (nI n) (nI len) th re nu du ha)) [.ref o, .int q0, .ref ob] [] (kL_setting g (GW g o b c u h x z y ai pa tu tx len s n sv) o ob q0 ff rfl hM (fun v w q => by obtain ⟨_, _, _, _, e, hG⟩ := q; exact ⟨_, e⟩) (fun v w q => by obtain ⟨_, _, _, _, e, hG⟩ := q; exact by rw [hG]; exact FST.of GW_fe) (fun E w q => by rw [q.1]; exact FST.rf) (fun E w q => by (rcases q.2 with ⟨d0, q⟩ <;> first | exact q | exact Or.inl q | exact Or.inr q | exact Or.inr (Or.inl q) | exact Or.inr (Or.inr q)))) gL_law_L_setting rfl (by show _ ∧ _ ∧ _ = some (3 : Nat); decide +kernel) ⟨(Nat.le_of_ble_eq_true rfl), (Nat.le_of_ble_eq_true rfl)⟩ pvW rfl (Nat.le_of_ble_eq_true rfl) ⟨(by have : rmL_setting.cells ≤ 20 := Nat.le_of_ble_eq_true rfl; show kc + rmL_setting.cells ≤ 601024; omega), (by have : rmL_setting.slots ≤ 400 := Nat.le_of_ble_eq_true rfl; show nc + rmL_setting.slots ≤ 7293034; omega)⟩ dL_law_1208 (LQ.fst (fun v w q => by obtain ⟨_, _, _, _, e, hG⟩ := q; exact by rw [hG]; exact FST.of GW_fe) (fun E w q => by rw [q.1]; exact FST.rf)) (fun v w hq => ?_)
  rcases hq with ⟨r, w1, hQ1, rfl, rfl⟩ | ⟨E, w1, hX1, rfl, rfl⟩
  · skip
    obtain ⟨j, hj, rfl, d0, e, hG⟩ := hQ1
    injection e with e; injection e with e; subst e
    subst hG
    refine V.perm (pvL (List.Perm.refl _)) ?_
    refine V.eqws (ws2 := (SCW g sa L sc) ++ (OB g ob (vp_updL ff 0 (z (0 + j)).toInt64)) ++ (GW g o b c u h x z y ai pa tu tx len s n sv) ++ (MW g a z hi tx aj pj tj pt ke (nI n) (nI len) th re nu du ha)) rfl ?_
    refine V.eqst (st2 := [.int 0]) rfl ?_
    refine V.istore (lv2 := [(5, .int 0), (4, .int (nI i)), (3, .ref ob), (2, .ref (a 0)), (1, .ref o), (0, .ref sa)]) dL_law_1211 (by decide) rfl ?_
    refine V.aload_n 3 rfl dL_law_1213 rfl ?_
    refine V.aload_n 5 rfl dL_law_1214 rfl ?_
    refine V.iload 1 rfl dL_law_1215 ?_
    refine V.iconst (v := 1) dL_law_1217 (by decide) ?_
    refine V.iaddN (v := nI (i + 1)) dL_law_1218 (nI_add i 1) ?_
    refine V.ialdL (i + 1) (by omega) hL dL_law_1219 ?_
    rw [hq0]
    refine V.callVPf (F := ((SCW g sa L sc) ++ (OB g ob (vp_updL ff 0 (z (0 + j)).toInt64))) ++ (GW g o b c u h x z y ai pa tu tx len s n sv)) (ws2 := (SCW g sa L sc) ++ (OB g ob (vp_updL ff 0 (z (0 + j)).toInt64)) ++ (GW g o b c u h x z y ai pa tu tx len s n sv) ++ (MW g a z hi tx aj pj tj pt ke (nI n) (nI len) 0 re nu du ha)) (st2 := [.int (z (0 + j))]) [.int (nI j)] [] (kX6_setting_ok g a z hi tx aj pj tj pt ke (nI n) (nI len) th re nu du ha j hj d0) gL_law_X6_setting rfl (by show _ ∧ _ ∧ _ ∧ _ = some (1 : Nat); decide +kernel) ⟨(Nat.le_of_ble_eq_true rfl), (Nat.le_of_ble_eq_true rfl)⟩ (hc := (rfl : vwCl[6]? = some (RX6, TX6, 15))) 0 rfl pvM rfl (Nat.le_of_ble_eq_true rfl) ⟨(by have : rmL_setting.cells ≤ 20 := Nat.le_of_ble_eq_true rfl; show kc + rmL_setting.cells + 0 ≤ 601024; omega), (by have : rmL_setting.slots ≤ 400 := Nat.le_of_ble_eq_true rfl; show nc + rmL_setting.slots + 0 ≤ 7293034; omega)⟩ dL_law_1220 MWm pvM.symm rfl rfl rfl ?_
    refine V.istore (lv2 := [(6, .int (z (0 + j))), (5, .int 0), (4, .int (nI i)), (3, .ref ob), (2, .ref (a 0)), (1, .ref o), (0, .ref sa)]) dL_law_1223 (by decide) rfl ?_
    refine V.aload_n 4 rfl dL_law_1225 rfl ?_
    refine V.callVPf (F := ((SCW g sa L sc) ++ (OB g ob (vp_updL ff 0 (z (0 + j)).toInt64))) ++ (GW g o b c u h x z y ai pa tu tx len s n sv)) (ws2 := (SCW g sa L sc) ++ (OB g ob (vp_updL ff 0 (z (0 + j)).toInt64)) ++ (GW g o b c u h x z y ai pa tu tx len s n sv) ++ (MW g a z hi tx aj pj tj pt ke (nI n) (nI len) 0 re nu du ha)) (st2 := [.int 0]) [] [] (kX6_thrown g a z hi tx aj pj tj pt ke (nI n) (nI len) 0 re nu du ha) gL_law_X6_thrown rfl (by show _ ∧ _ ∧ _ ∧ _ = some (0 : Nat); decide +kernel) ⟨(Nat.le_of_ble_eq_true rfl), (Nat.le_of_ble_eq_true rfl)⟩ (hc := (rfl : vwCl[6]? = some (RX6, TX6, 15))) 0 rfl pvM rfl (Nat.le_of_ble_eq_true rfl) ⟨(by have : rmL_setting.cells ≤ 20 := Nat.le_of_ble_eq_true rfl; show kc + rmL_setting.cells + 0 ≤ 601024; omega), (by have : rmL_setting.slots ≤ 400 := Nat.le_of_ble_eq_true rfl; show nc + rmL_setting.slots + 0 ≤ 7293034; omega)⟩ dL_law_1226 MWm pvM.symm rfl rfl rfl ?_
    refine V.iload 1 rfl dL_law_1229 ?_
    refine V.icmp_eq_t (tgt := 1236) rfl dL_law_1231 (by decide) ?_
    refine V.iload 1 rfl dL_law_1236 ?_
    refine V.if_ne_f (tgt := 1253) rfl dL_law_1238 (by decide) ?_
    refine V.aload_n 3 rfl dL_law_1241 rfl ?_
    refine V.iconst (v := 0) dL_law_1242 (by decide) ?_
    refine V.lald (f := vp_updL ff 0 (z (0 + j)).toInt64) 0 0 rfl rfl (by decide) (by decide) dL_law_1243 ?_
    refine V.eqst (st2 := [.long (z (0 + j)).toInt64]) rfl ?_
    refine V.iload 0 rfl dL_law_1244 ?_
    refine V.i2l dL_law_1246 ?_
    refine V.lcmp dL_law_1247 ?_
    refine V.eqst (st2 := [.int 0]) (by rw [cmp_0] <;> rfl) ?_
    refine V.if_eq_t (tgt := 1253) (by decide) dL_law_1248 (by decide) ?_
    refine V.goto (tgt := 1529) dL_law_1253 (by decide) ?_
    refine V.eqlv (lv2 := [(4, .int (nI i)), (3, .ref ob), (2, .ref (a 0)), (1, .ref o), (0, .ref sa)]) [2, 3, 4, 5, 6] rfl ?_
    refine V.widen (k2 := kc + 20) (n2 := nc + 400) (by have : rmL_setting.cells ≤ 20 := Nat.le_of_ble_eq_true rfl; show kc + rmL_setting.cells ≤ kc + 20; omega) (by have : rmL_setting.slots ≤ 400 := Nat.le_of_ble_eq_true rfl; show nc + rmL_setting.slots ≤ nc + 400; omega) ?_
    exact hk _ _ _ _ _ _ _ _ _ _ _ _ _ _ _ _ _ _ _ _ _ _ ⟨hz.mo, hh.mo, hl, hT, hD⟩
  · skip
    obtain ⟨rfl, hX1⟩ := hX1
    rcases hX1 with ⟨d0, rfl⟩
    · skip
      refine V.perm (pvL (List.Perm.refl _)) ?_
      refine V.eqws (ws2 := (SCW g sa L sc) ++ (OB g ob ff) ++ (GW g o b c u h x z y ai pa tu tx len s n sv) ++ (MW g a z hi tx aj pj tj pt ke (nI n) (nI len) th re nu du ha)) rfl ?_
      rw [show (cd2 IOB IOB) IOB = 1 from by decide +kernel]
      refine V.eqst (st2 := [.int 1]) rfl ?_
      refine V.istore (lv2 := [(5, .int 1), (4, .int (nI i)), (3, .ref ob), (2, .ref (a 0)), (1, .ref o), (0, .ref sa)]) dL_law_1211 (by decide) rfl ?_
      refine V.aload_n 3 rfl dL_law_1213 rfl ?_
      refine V.aload_n 5 rfl dL_law_1214 rfl ?_
      refine V.iload 1 rfl dL_law_1215 ?_
      refine V.iconst (v := 1) dL_law_1217 (by decide) ?_
      refine V.iaddN (v := nI (i + 1)) dL_law_1218 (nI_add i 1) ?_
      refine V.ialdL (i + 1) (by omega) hL dL_law_1219 ?_
      rw [hq0]
      refine V.callVPf (F := ((SCW g sa L sc) ++ (OB g ob ff)) ++ (GW g o b c u h x z y ai pa tu tx len s n sv)) (ws2 := (SCW g sa L sc) ++ (OB g ob ff) ++ (GW g o b c u h x z y ai pa tu tx len s n sv) ++ (MW g a z hi tx aj pj tj pt ke (nI n) (nI len) 1 re nu du ha)) (st2 := [.int 0]) [.int q0] [] (kX6_setting_b1 g a z hi tx aj pj tj pt ke (nI n) (nI len) th re nu du ha q0 d0) gL_law_X6_setting rfl (by show _ ∧ _ ∧ _ ∧ _ = some (1 : Nat); decide +kernel) ⟨(Nat.le_of_ble_eq_true rfl), (Nat.le_of_ble_eq_true rfl)⟩ (hc := (rfl : vwCl[6]? = some (RX6, TX6, 15))) 0 rfl pvM rfl (Nat.le_of_ble_eq_true rfl) ⟨(by have : rmL_setting.cells ≤ 20 := Nat.le_of_ble_eq_true rfl; show kc + rmL_setting.cells + 0 ≤ 601024; omega), (by have : rmL_setting.slots ≤ 400 := Nat.le_of_ble_eq_true rfl; show nc + rmL_setting.slots + 0 ≤ 7293034; omega)⟩ dL_law_1220 MWm pvM.symm rfl rfl rfl ?_
      refine V.istore (lv2 := [(6, .int 0), (5, .int 1), (4, .int (nI i)), (3, .ref ob), (2, .ref (a 0)), (1, .ref o), (0, .ref sa)]) dL_law_1223 (by decide) rfl ?_
      refine V.aload_n 4 rfl dL_law_1225 rfl ?_
      refine V.callVPf (F := ((SCW g sa L sc) ++ (OB g ob ff)) ++ (GW g o b c u h x z y ai pa tu tx len s n sv)) (ws2 := (SCW g sa L sc) ++ (OB g ob ff) ++ (GW g o b c u h x z y ai pa tu tx len s n sv) ++ (MW g a z hi tx aj pj tj pt ke (nI n) (nI len) 1 re nu du ha)) (st2 := [.int 1]) [] [] (kX6_thrown g a z hi tx aj pj tj pt ke (nI n) (nI len) 1 re nu du ha) gL_law_X6_thrown rfl (by show _ ∧ _ ∧ _ ∧ _ = some (0 : Nat); decide +kernel) ⟨(Nat.le_of_ble_eq_true rfl), (Nat.le_of_ble_eq_true rfl)⟩ (hc := (rfl : vwCl[6]? = some (RX6, TX6, 15))) 0 rfl pvM rfl (Nat.le_of_ble_eq_true rfl) ⟨(by have : rmL_setting.cells ≤ 20 := Nat.le_of_ble_eq_true rfl; show kc + rmL_setting.cells + 0 ≤ 601024; omega), (by have : rmL_setting.slots ≤ 400 := Nat.le_of_ble_eq_true rfl; show nc + rmL_setting.slots + 0 ≤ 7293034; omega)⟩ dL_law_1226 MWm pvM.symm rfl rfl rfl ?_
      refine V.iload 1 rfl dL_law_1229 ?_
      refine V.icmp_eq_t (tgt := 1236) rfl dL_law_1231 (by decide) ?_
      refine V.iload 1 rfl dL_law_1236 ?_
      refine V.if_ne_t (tgt := 1253) (by decide) dL_law_1238 (by decide) ?_
      refine V.goto (tgt := 1529) dL_law_1253 (by decide) ?_
      refine V.eqlv (lv2 := [(4, .int (nI i)), (3, .ref ob), (2, .ref (a 0)), (1, .ref o), (0, .ref sa)]) [2, 3, 4, 5, 6] rfl ?_
      refine V.widen (k2 := kc + 20) (n2 := nc + 400) (by have : rmL_setting.cells ≤ 20 := Nat.le_of_ble_eq_true rfl; show kc + rmL_setting.cells ≤ kc + 20; omega) (by have : rmL_setting.slots ≤ 400 := Nat.le_of_ble_eq_true rfl; show nc + rmL_setting.slots ≤ nc + 400; omega) ?_
      exact hk _ _ _ _ _ _ _ _ _ _ _ _ _ _ _ _ _ _ _ _ _ _ ⟨hz.mo, hh.mo, hl, hT, hD⟩
set_option maxHeartbeats 4000000 in
set_option maxRecDepth 100000 in
theorem cs_ifToured (g : GT) (hst : g.1.stackTraces = false) (QF : QT) (sa ob o : Nat) (b c u h x a : Nat → Nat) (L i K : Nat) (sc : Nat → Int32) (kc nc : Nat) (hkc : kc + 20 ≤ 601024) (hnc : nc + 400 ≤ 7293034) (hiL : i + 6 ≤ L) (hL : L < 2147483648) (hK : K ≤ 590) (ff : Nat → Int64) (z y ai pa tu tx : Nat → Int32) (len : Nat) (s : BS) (n : Nat) (sv : SV) (hi aj pj tj pt ke : Nat → Int32) (th re nu du : Int32) (ha : Int64) (hI : LI K z n sv hi tx len s) (hk : ∀ (ff : Nat → Int64) (z y ai pa tu tx : Nat → Int32) (len : Nat) (s : BS) (n : Nat) (sv : SV) (hi aj pj tj pt ke : Nat → Int32) (th re nu du : Int32) (ha : Int64), LI (K + 1) z n sv hi tx len s → V g rmL_law RL cL_law wsL_law 9 QF (XL sa L sc) (kc + 20) (nc + 400) (SCW g sa L sc ++ OB g ob ff ++ GW g o b c u h x z y ai pa tu tx len s n sv ++ MW g a z hi tx aj pj tj pt ke (nI n) (nI len) th re nu du ha) 1529 [(4, .int (nI i)), (3, .ref ob), (2, .ref (a 0)), (1, .ref o), (0, .ref sa)] []) : V g rmL_law RL cL_law wsL_law 9 QF (XL sa L sc) kc nc ((SCW g sa L sc) ++ (OB g ob ff) ++ (GW g o b c u h x z y ai pa tu tx len s n sv) ++ (MW g a z hi tx aj pj tj pt ke (nI n) (nI len) th re nu du ha)) 1256 [(4, .int (nI i)), (3, .ref ob), (2, .ref (a 0)), (1, .ref o), (0, .ref sa)] [] := by
  obtain ⟨hz, hh, hl, hT, hD⟩ := hI
  have hV : TV z := hz.1
  have hF : z 5 = nI (nf z) := hV.1.1
  have hF8 : nf z ≤ 8 := hV.nf
  have hP : z 6 = nI (np z) := hV.1.2.2.1
  have hP24 : np z ≤ 24 := hV.np
  have hn6 : n ≤ 6 := hh.1
  have hnl : n ≤ sv.length := hh.2.1
  have hl6 : sv.length ≤ 6 := hh.2.2.1
  obtain ⟨q0, hq0⟩ : ∃ q, sc (i + 1) = q := ⟨_, rfl⟩
  obtain ⟨q1, hq1⟩ : ∃ q, sc (i + 2) = q := ⟨_, rfl⟩
  refine V.aload_n 3 rfl dL_law_1256 rfl ?_
  refine V.aload_n 4 rfl dL_law_1257 rfl ?_
  refine V.iload 0 rfl dL_law_1258 ?_
  refine V.iconst (v := 1) dL_law_1260 (by decide) ?_
  refine V.iaddN (v := nI (i + 1)) dL_law_1261 (nI_add i 1) ?_
  refine V.ialdL (i + 1) (by omega) hL dL_law_1262 ?_
  rw [hq0]
  refine V.aload_n 4 rfl dL_law_1263 rfl ?_
  refine V.iload 0 rfl dL_law_1264 ?_
  refine V.iconst (v := 2) dL_law_1266 (by decide) ?_
  refine V.iaddN (v := nI (i + 2)) dL_law_1267 (nI_add i 2) ?_
  refine V.ialdL (i + 2) (by omega) hL dL_law_1268 ?_
  rw [hq1]
  refine V.aload_n 1 rfl dL_law_1269 rfl ?_
  have hM := kX5_ifToured g hst o b c u h x z y ai pa tu tx len s n sv q0 q1 hV
  refine V.callSHP (F := (SCW g sa L sc) ++ (MW g a z hi tx aj pj tj pt ke (nI n) (nI len) th re nu du ha)) [.ref o, .int q0, .int q1, .ref ob] [] (kL_ifToured g (GW g o b c u h x z y ai pa tu tx len s n sv) o ob q0 q1 ff rfl hM (fun v w q => by obtain ⟨_, _, _, _, _, _, _, _, _, e, hG⟩ := q; exact ⟨_, e⟩) (fun v w q => by obtain ⟨_, _, _, _, _, _, _, _, _, e, hG⟩ := q; exact by rw [hG]; exact FST.of GW_fe) (fun E w q => by rw [q.1]; exact FST.rf) (fun E w q => by (rcases q.2 with ⟨d0, q⟩ | ⟨⟨j, hj1, hj, _⟩, d1, q⟩ <;> first | exact q | exact Or.inl q | exact Or.inr q | exact Or.inr (Or.inl q) | exact Or.inr (Or.inr q)))) gL_law_L_ifToured rfl (by show _ ∧ _ ∧ _ = some (4 : Nat); decide +kernel) ⟨(Nat.le_of_ble_eq_true rfl), (Nat.le_of_ble_eq_true rfl)⟩ pvW rfl (Nat.le_of_ble_eq_true rfl) ⟨(by have : rmL_ifToured.cells ≤ 20 := Nat.le_of_ble_eq_true rfl; show kc + rmL_ifToured.cells ≤ 601024; omega), (by have : rmL_ifToured.slots ≤ 400 := Nat.le_of_ble_eq_true rfl; show nc + rmL_ifToured.slots ≤ 7293034; omega)⟩ dL_law_1270 (LQ.fst (fun v w q => by obtain ⟨_, _, _, _, _, _, _, _, _, e, hG⟩ := q; exact by rw [hG]; exact FST.of GW_fe) (fun E w q => by rw [q.1]; exact FST.rf)) (fun v w hq => ?_)
  rcases hq with ⟨r, w1, hQ1, rfl, rfl⟩ | ⟨E, w1, hX1, rfl, rfl⟩
  · skip
    obtain ⟨j, kk, hj1, hj, hkk, rfl, rfl, d0, d1, e, hG⟩ := hQ1
    injection e with e; injection e with e; subst e
    subst hG
    refine V.perm (pvL (List.Perm.refl _)) ?_
    refine V.eqws (ws2 := (SCW g sa L sc) ++ (OB g ob (vp_updL ff 0 (tdC (z, ai, pa, tu) j kk).toInt64)) ++ (GW g o b c u h x z ((cTs j ((z, ai, pa, tu), 0)).1.1) ((cTs j ((z, ai, pa, tu), 0)).1.2.1) ((cTs j ((z, ai, pa, tu), 0)).1.2.2.1) ((cTs j ((z, ai, pa, tu), 0)).1.2.2.2) tx len s n sv) ++ (MW g a z hi tx aj pj tj pt ke (nI n) (nI len) th re nu du ha)) rfl ?_
    refine V.eqst (st2 := [.int 0]) rfl ?_
    refine V.istore (lv2 := [(5, .int 0), (4, .int (nI i)), (3, .ref ob), (2, .ref (a 0)), (1, .ref o), (0, .ref sa)]) dL_law_1273 (by decide) rfl ?_
    refine V.aload_n 3 rfl dL_law_1275 rfl ?_
    refine V.aload_n 5 rfl dL_law_1276 rfl ?_
    refine V.iload 1 rfl dL_law_1277 ?_
    refine V.iconst (v := 1) dL_law_1279 (by decide) ?_
    refine V.iaddN (v := nI (i + 1)) dL_law_1280 (nI_add i 1) ?_
    refine V.ialdL (i + 1) (by omega) hL dL_law_1281 ?_
    rw [hq0]
    refine V.aload_n 5 rfl dL_law_1282 rfl ?_
    refine V.iload 1 rfl dL_law_1283 ?_
    refine V.iconst (v := 2) dL_law_1285 (by decide) ?_
    refine V.iaddN (v := nI (i + 2)) dL_law_1286 (nI_add i 2) ?_
    refine V.ialdL (i + 2) (by omega) hL dL_law_1287 ?_
    rw [hq1]
    refine V.callVPf (F := ((SCW g sa L sc) ++ (OB g ob (vp_updL ff 0 (tdC (z, ai, pa, tu) j kk).toInt64))) ++ (GW g o b c u h x z ((cTs j ((z, ai, pa, tu), 0)).1.1) ((cTs j ((z, ai, pa, tu), 0)).1.2.1) ((cTs j ((z, ai, pa, tu), 0)).1.2.2.1) ((cTs j ((z, ai, pa, tu), 0)).1.2.2.2) tx len s n sv)) (ws2 := (SCW g sa L sc) ++ (OB g ob (vp_updL ff 0 (tdC (z, ai, pa, tu) j kk).toInt64)) ++ (GW g o b c u h x z ((cTs j ((z, ai, pa, tu), 0)).1.1) ((cTs j ((z, ai, pa, tu), 0)).1.2.1) ((cTs j ((z, ai, pa, tu), 0)).1.2.2.1) ((cTs j ((z, ai, pa, tu), 0)).1.2.2.2) tx len s n sv) ++ (MW g a z hi tx ((rTs j ((z, aj, pj, tj), 0)).1.2.1) ((rTs j ((z, aj, pj, tj), 0)).1.2.2.1) ((rTs j ((z, aj, pj, tj), 0)).1.2.2.2) pt (fu (cpF z) 0 248 ke) (nI n) (nI len) 0 re nu du ha)) (st2 := [.int (tdV (z, aj, pj, tj) j kk)]) [.int (nI j), .int (nI kk)] [] (kX6_ifToured_ok g a z hi tx aj pj tj pt ke (nI n) (nI len) th re nu du ha j kk hj hkk d0 d1 hV.1) gL_law_X6_ifToured rfl (by show _ ∧ _ ∧ _ ∧ _ = some (2 : Nat); decide +kernel) ⟨(Nat.le_of_ble_eq_true rfl), (Nat.le_of_ble_eq_true rfl)⟩ (hc := (rfl : vwCl[6]? = some (RX6, TX6, 15))) 0 rfl pvM rfl (Nat.le_of_ble_eq_true rfl) ⟨(by have : rmL_ifToured.cells ≤ 20 := Nat.le_of_ble_eq_true rfl; show kc + rmL_ifToured.cells + 0 ≤ 601024; omega), (by have : rmL_ifToured.slots ≤ 400 := Nat.le_of_ble_eq_true rfl; show nc + rmL_ifToured.slots + 0 ≤ 7293034; omega)⟩ dL_law_1288 MWm pvM.symm rfl rfl rfl ?_
    refine V.istore (lv2 := [(6, .int (tdV (z, aj, pj, tj) j kk)), (5, .int 0), (4, .int (nI i)), (3, .ref ob), (2, .ref (a 0)), (1, .ref o), (0, .ref sa)]) dL_law_1291 (by decide) rfl ?_
    refine V.aload_n 4 rfl dL_law_1293 rfl ?_
    refine V.callVPf (F := ((SCW g sa L sc) ++ (OB g ob (vp_updL ff 0 (tdC (z, ai, pa, tu) j kk).toInt64))) ++ (GW g o b c u h x z ((cTs j ((z, ai, pa, tu), 0)).1.1) ((cTs j ((z, ai, pa, tu), 0)).1.2.1) ((cTs j ((z, ai, pa, tu), 0)).1.2.2.1) ((cTs j ((z, ai, pa, tu), 0)).1.2.2.2) tx len s n sv)) (ws2 := (SCW g sa L sc) ++ (OB g ob (vp_updL ff 0 (tdC (z, ai, pa, tu) j kk).toInt64)) ++ (GW g o b c u h x z ((cTs j ((z, ai, pa, tu), 0)).1.1) ((cTs j ((z, ai, pa, tu), 0)).1.2.1) ((cTs j ((z, ai, pa, tu), 0)).1.2.2.1) ((cTs j ((z, ai, pa, tu), 0)).1.2.2.2) tx len s n sv) ++ (MW g a z hi tx ((rTs j ((z, aj, pj, tj), 0)).1.2.1) ((rTs j ((z, aj, pj, tj), 0)).1.2.2.1) ((rTs j ((z, aj, pj, tj), 0)).1.2.2.2) pt (fu (cpF z) 0 248 ke) (nI n) (nI len) 0 re nu du ha)) (st2 := [.int 0]) [] [] (kX6_thrown g a z hi tx ((rTs j ((z, aj, pj, tj), 0)).1.2.1) ((rTs j ((z, aj, pj, tj), 0)).1.2.2.1) ((rTs j ((z, aj, pj, tj), 0)).1.2.2.2) pt (fu (cpF z) 0 248 ke) (nI n) (nI len) 0 re nu du ha) gL_law_X6_thrown rfl (by show _ ∧ _ ∧ _ ∧ _ = some (0 : Nat); decide +kernel) ⟨(Nat.le_of_ble_eq_true rfl), (Nat.le_of_ble_eq_true rfl)⟩ (hc := (rfl : vwCl[6]? = some (RX6, TX6, 15))) 0 rfl pvM rfl (Nat.le_of_ble_eq_true rfl) ⟨(by have : rmL_ifToured.cells ≤ 20 := Nat.le_of_ble_eq_true rfl; show kc + rmL_ifToured.cells + 0 ≤ 601024; omega), (by have : rmL_ifToured.slots ≤ 400 := Nat.le_of_ble_eq_true rfl; show nc + rmL_ifToured.slots + 0 ≤ 7293034; omega)⟩ dL_law_1294 MWm pvM.symm rfl rfl rfl ?_
    refine V.iload 1 rfl dL_law_1297 ?_
    refine V.icmp_eq_t (tgt := 1304) rfl dL_law_1299 (by decide) ?_
    refine V.iload 1 rfl dL_law_1304 ?_
    refine V.if_ne_f (tgt := 1321) rfl dL_law_1306 (by decide) ?_
    refine V.aload_n 3 rfl dL_law_1309 rfl ?_
    refine V.iconst (v := 0) dL_law_1310 (by decide) ?_
    refine V.lald (f := vp_updL ff 0 (tdC (z, ai, pa, tu) j kk).toInt64) 0 0 rfl rfl (by decide) (by decide) dL_law_1311 ?_
    refine V.eqst (st2 := [.long (tdC (z, ai, pa, tu) j kk).toInt64]) rfl ?_
    refine V.iload 0 rfl dL_law_1312 ?_
    refine V.i2l dL_law_1314 ?_
    rw [← tdC_eq (s := (z, ai, pa, tu)) (s' := (z, aj, pj, tj)) rfl]
    refine V.lcmp dL_law_1315 ?_
    refine V.eqst (st2 := [.int 0]) (by rw [cmp_0] <;> rfl) ?_
    refine V.if_eq_t (tgt := 1321) (by decide) dL_law_1316 (by decide) ?_
    refine V.goto (tgt := 1529) dL_law_1321 (by decide) ?_
    refine V.eqlv (lv2 := [(4, .int (nI i)), (3, .ref ob), (2, .ref (a 0)), (1, .ref o), (0, .ref sa)]) [2, 3, 4, 5, 6] rfl ?_
    refine V.widen (k2 := kc + 20) (n2 := nc + 400) (by have : rmL_ifToured.cells ≤ 20 := Nat.le_of_ble_eq_true rfl; show kc + rmL_ifToured.cells ≤ kc + 20; omega) (by have : rmL_ifToured.slots ≤ 400 := Nat.le_of_ble_eq_true rfl; show nc + rmL_ifToured.slots ≤ nc + 400; omega) ?_
    exact hk _ _ _ _ _ _ _ _ _ _ _ _ _ _ _ _ _ _ _ _ _ _ ⟨hz.mo, hh.mo, hl, hT, hD⟩
  · skip
    obtain ⟨rfl, hX1⟩ := hX1
    rcases hX1 with ⟨d0, rfl⟩ | ⟨⟨j, hj1, hj, rfl⟩, d1, rfl⟩
    · skip
      refine V.perm (pvL (List.Perm.refl _)) ?_
      refine V.eqws (ws2 := (SCW g sa L sc) ++ (OB g ob ff) ++ (GW g o b c u h x z y ai pa tu tx len s n sv) ++ (MW g a z hi tx aj pj tj pt ke (nI n) (nI len) th re nu du ha)) rfl ?_
      rw [show (cd2 IAE IAE) IAE = 1 from by decide +kernel]
      refine V.eqst (st2 := [.int 1]) rfl ?_
      refine V.istore (lv2 := [(5, .int 1), (4, .int (nI i)), (3, .ref ob), (2, .ref (a 0)), (1, .ref o), (0, .ref sa)]) dL_law_1273 (by decide) rfl ?_
      refine V.aload_n 3 rfl dL_law_1275 rfl ?_
      refine V.aload_n 5 rfl dL_law_1276 rfl ?_
      refine V.iload 1 rfl dL_law_1277 ?_
      refine V.iconst (v := 1) dL_law_1279 (by decide) ?_
      refine V.iaddN (v := nI (i + 1)) dL_law_1280 (nI_add i 1) ?_
      refine V.ialdL (i + 1) (by omega) hL dL_law_1281 ?_
      rw [hq0]
      refine V.aload_n 5 rfl dL_law_1282 rfl ?_
      refine V.iload 1 rfl dL_law_1283 ?_
      refine V.iconst (v := 2) dL_law_1285 (by decide) ?_
      refine V.iaddN (v := nI (i + 2)) dL_law_1286 (nI_add i 2) ?_
      refine V.ialdL (i + 2) (by omega) hL dL_law_1287 ?_
      rw [hq1]
      refine V.callVPf (F := ((SCW g sa L sc) ++ (OB g ob ff)) ++ (GW g o b c u h x z y ai pa tu tx len s n sv)) (ws2 := (SCW g sa L sc) ++ (OB g ob ff) ++ (GW g o b c u h x z y ai pa tu tx len s n sv) ++ (MW g a z hi tx aj pj tj pt ke (nI n) (nI len) 1 re nu du ha)) (st2 := [.int 0]) [.int q0, .int q1] [] (kX6_ifToured_b1 g a z hi tx aj pj tj pt ke (nI n) (nI len) th re nu du ha q0 q1 d0) gL_law_X6_ifToured rfl (by show _ ∧ _ ∧ _ ∧ _ = some (2 : Nat); decide +kernel) ⟨(Nat.le_of_ble_eq_true rfl), (Nat.le_of_ble_eq_true rfl)⟩ (hc := (rfl : vwCl[6]? = some (RX6, TX6, 15))) 0 rfl pvM rfl (Nat.le_of_ble_eq_true rfl) ⟨(by have : rmL_ifToured.cells ≤ 20 := Nat.le_of_ble_eq_true rfl; show kc + rmL_ifToured.cells + 0 ≤ 601024; omega), (by have : rmL_ifToured.slots ≤ 400 := Nat.le_of_ble_eq_true rfl; show nc + rmL_ifToured.slots + 0 ≤ 7293034; omega)⟩ dL_law_1288 MWm pvM.symm rfl rfl rfl ?_
      refine V.istore (lv2 := [(6, .int 0), (5, .int 1), (4, .int (nI i)), (3, .ref ob), (2, .ref (a 0)), (1, .ref o), (0, .ref sa)]) dL_law_1291 (by decide) rfl ?_
      refine V.aload_n 4 rfl dL_law_1293 rfl ?_
      refine V.callVPf (F := ((SCW g sa L sc) ++ (OB g ob ff)) ++ (GW g o b c u h x z y ai pa tu tx len s n sv)) (ws2 := (SCW g sa L sc) ++ (OB g ob ff) ++ (GW g o b c u h x z y ai pa tu tx len s n sv) ++ (MW g a z hi tx aj pj tj pt ke (nI n) (nI len) 1 re nu du ha)) (st2 := [.int 1]) [] [] (kX6_thrown g a z hi tx aj pj tj pt ke (nI n) (nI len) 1 re nu du ha) gL_law_X6_thrown rfl (by show _ ∧ _ ∧ _ ∧ _ = some (0 : Nat); decide +kernel) ⟨(Nat.le_of_ble_eq_true rfl), (Nat.le_of_ble_eq_true rfl)⟩ (hc := (rfl : vwCl[6]? = some (RX6, TX6, 15))) 0 rfl pvM rfl (Nat.le_of_ble_eq_true rfl) ⟨(by have : rmL_ifToured.cells ≤ 20 := Nat.le_of_ble_eq_true rfl; show kc + rmL_ifToured.cells + 0 ≤ 601024; omega), (by have : rmL_ifToured.slots ≤ 400 := Nat.le_of_ble_eq_true rfl; show nc + rmL_ifToured.slots + 0 ≤ 7293034; omega)⟩ dL_law_1294 MWm pvM.symm rfl rfl rfl ?_
      refine V.iload 1 rfl dL_law_1297 ?_
      refine V.icmp_eq_t (tgt := 1304) rfl dL_law_1299 (by decide) ?_
      refine V.iload 1 rfl dL_law_1304 ?_
      refine V.if_ne_t (tgt := 1321) (by decide) dL_law_1306 (by decide) ?_
      refine V.goto (tgt := 1529) dL_law_1321 (by decide) ?_
      refine V.eqlv (lv2 := [(4, .int (nI i)), (3, .ref ob), (2, .ref (a 0)), (1, .ref o), (0, .ref sa)]) [2, 3, 4, 5, 6] rfl ?_
      refine V.widen (k2 := kc + 20) (n2 := nc + 400) (by have : rmL_ifToured.cells ≤ 20 := Nat.le_of_ble_eq_true rfl; show kc + rmL_ifToured.cells ≤ kc + 20; omega) (by have : rmL_ifToured.slots ≤ 400 := Nat.le_of_ble_eq_true rfl; show nc + rmL_ifToured.slots ≤ nc + 400; omega) ?_
      exact hk _ _ _ _ _ _ _ _ _ _ _ _ _ _ _ _ _ _ _ _ _ _ ⟨hz.mo, hh.mo, hl, hT, hD⟩
    · skip
      refine V.perm (pvL (List.Perm.refl _)) ?_
      refine V.eqws (ws2 := (SCW g sa L sc) ++ (OB g ob ff) ++ (GW g o b c u h x z y ai pa tu tx len s n sv) ++ (MW g a z hi tx aj pj tj pt ke (nI n) (nI len) th re nu du ha)) rfl ?_
      rw [show (cd2 IAE IAE) IAE = 1 from by decide +kernel]
      refine V.eqst (st2 := [.int 1]) rfl ?_
      refine V.istore (lv2 := [(5, .int 1), (4, .int (nI i)), (3, .ref ob), (2, .ref (a 0)), (1, .ref o), (0, .ref sa)]) dL_law_1273 (by decide) rfl ?_
      refine V.aload_n 3 rfl dL_law_1275 rfl ?_
      refine V.aload_n 5 rfl dL_law_1276 rfl ?_
      refine V.iload 1 rfl dL_law_1277 ?_
      refine V.iconst (v := 1) dL_law_1279 (by decide) ?_
      refine V.iaddN (v := nI (i + 1)) dL_law_1280 (nI_add i 1) ?_
      refine V.ialdL (i + 1) (by omega) hL dL_law_1281 ?_
      rw [hq0]
      refine V.aload_n 5 rfl dL_law_1282 rfl ?_
      refine V.iload 1 rfl dL_law_1283 ?_
      refine V.iconst (v := 2) dL_law_1285 (by decide) ?_
      refine V.iaddN (v := nI (i + 2)) dL_law_1286 (nI_add i 2) ?_
      refine V.ialdL (i + 2) (by omega) hL dL_law_1287 ?_
      rw [hq1]
      refine V.callVPf (F := ((SCW g sa L sc) ++ (OB g ob ff)) ++ (GW g o b c u h x z y ai pa tu tx len s n sv)) (ws2 := (SCW g sa L sc) ++ (OB g ob ff) ++ (GW g o b c u h x z y ai pa tu tx len s n sv) ++ (MW g a z hi tx aj pj tj pt ke (nI n) (nI len) 1 re nu du ha)) (st2 := [.int 0]) [.int (nI j), .int q1] [] (kX6_ifToured_b2 g a z hi tx aj pj tj pt ke (nI n) (nI len) th re nu du ha (nI j) q1 (wi_20 hj1 hj) d1) gL_law_X6_ifToured rfl (by show _ ∧ _ ∧ _ ∧ _ = some (2 : Nat); decide +kernel) ⟨(Nat.le_of_ble_eq_true rfl), (Nat.le_of_ble_eq_true rfl)⟩ (hc := (rfl : vwCl[6]? = some (RX6, TX6, 15))) 0 rfl pvM rfl (Nat.le_of_ble_eq_true rfl) ⟨(by have : rmL_ifToured.cells ≤ 20 := Nat.le_of_ble_eq_true rfl; show kc + rmL_ifToured.cells + 0 ≤ 601024; omega), (by have : rmL_ifToured.slots ≤ 400 := Nat.le_of_ble_eq_true rfl; show nc + rmL_ifToured.slots + 0 ≤ 7293034; omega)⟩ dL_law_1288 MWm pvM.symm rfl rfl rfl ?_
      refine V.istore (lv2 := [(6, .int 0), (5, .int 1), (4, .int (nI i)), (3, .ref ob), (2, .ref (a 0)), (1, .ref o), (0, .ref sa)]) dL_law_1291 (by decide) rfl ?_
      refine V.aload_n 4 rfl dL_law_1293 rfl ?_
      refine V.callVPf (F := ((SCW g sa L sc) ++ (OB g ob ff)) ++ (GW g o b c u h x z y ai pa tu tx len s n sv)) (ws2 := (SCW g sa L sc) ++ (OB g ob ff) ++ (GW g o b c u h x z y ai pa tu tx len s n sv) ++ (MW g a z hi tx aj pj tj pt ke (nI n) (nI len) 1 re nu du ha)) (st2 := [.int 1]) [] [] (kX6_thrown g a z hi tx aj pj tj pt ke (nI n) (nI len) 1 re nu du ha) gL_law_X6_thrown rfl (by show _ ∧ _ ∧ _ ∧ _ = some (0 : Nat); decide +kernel) ⟨(Nat.le_of_ble_eq_true rfl), (Nat.le_of_ble_eq_true rfl)⟩ (hc := (rfl : vwCl[6]? = some (RX6, TX6, 15))) 0 rfl pvM rfl (Nat.le_of_ble_eq_true rfl) ⟨(by have : rmL_ifToured.cells ≤ 20 := Nat.le_of_ble_eq_true rfl; show kc + rmL_ifToured.cells + 0 ≤ 601024; omega), (by have : rmL_ifToured.slots ≤ 400 := Nat.le_of_ble_eq_true rfl; show nc + rmL_ifToured.slots + 0 ≤ 7293034; omega)⟩ dL_law_1294 MWm pvM.symm rfl rfl rfl ?_
      refine V.iload 1 rfl dL_law_1297 ?_
      refine V.icmp_eq_t (tgt := 1304) rfl dL_law_1299 (by decide) ?_
      refine V.iload 1 rfl dL_law_1304 ?_
      refine V.if_ne_t (tgt := 1321) (by decide) dL_law_1306 (by decide) ?_
      refine V.goto (tgt := 1529) dL_law_1321 (by decide) ?_
      refine V.eqlv (lv2 := [(4, .int (nI i)), (3, .ref ob), (2, .ref (a 0)), (1, .ref o), (0, .ref sa)]) [2, 3, 4, 5, 6] rfl ?_
      refine V.widen (k2 := kc + 20) (n2 := nc + 400) (by have : rmL_ifToured.cells ≤ 20 := Nat.le_of_ble_eq_true rfl; show kc + rmL_ifToured.cells ≤ kc + 20; omega) (by have : rmL_ifToured.slots ≤ 400 := Nat.le_of_ble_eq_true rfl; show nc + rmL_ifToured.slots ≤ nc + 400; omega) ?_
      exact hk _ _ _ _ _ _ _ _ _ _ _ _ _ _ _ _ _ _ _ _ _ _ ⟨hz.mo, hh.mo, hl, hT, hD⟩
set_option maxHeartbeats 4000000 in
set_option maxRecDepth 100000 in
theorem cs_choice (g : GT) (hst : g.1.stackTraces = false) (QF : QT) (sa ob o : Nat) (b c u h x a : Nat → Nat) (L i K : Nat) (sc : Nat → Int32) (kc nc : Nat) (hkc : kc + 20 ≤ 601024) (hnc : nc + 400 ≤ 7293034) (hiL : i + 6 ≤ L) (hL : L < 2147483648) (hK : K ≤ 590) (ff : Nat → Int64) (z y ai pa tu tx : Nat → Int32) (len : Nat) (s : BS) (n : Nat) (sv : SV) (hi aj pj tj pt ke : Nat → Int32) (th re nu du : Int32) (ha : Int64) (hI : LI K z n sv hi tx len s) (hk : ∀ (ff : Nat → Int64) (z y ai pa tu tx : Nat → Int32) (len : Nat) (s : BS) (n : Nat) (sv : SV) (hi aj pj tj pt ke : Nat → Int32) (th re nu du : Int32) (ha : Int64), LI (K + 1) z n sv hi tx len s → V g rmL_law RL cL_law wsL_law 9 QF (XL sa L sc) (kc + 20) (nc + 400) (SCW g sa L sc ++ OB g ob ff ++ GW g o b c u h x z y ai pa tu tx len s n sv ++ MW g a z hi tx aj pj tj pt ke (nI n) (nI len) th re nu du ha) 1529 [(4, .int (nI i)), (3, .ref ob), (2, .ref (a 0)), (1, .ref o), (0, .ref sa)] []) : V g rmL_law RL cL_law wsL_law 9 QF (XL sa L sc) kc nc ((SCW g sa L sc) ++ (OB g ob ff) ++ (GW g o b c u h x z y ai pa tu tx len s n sv) ++ (MW g a z hi tx aj pj tj pt ke (nI n) (nI len) th re nu du ha)) 1324 [(4, .int (nI i)), (3, .ref ob), (2, .ref (a 0)), (1, .ref o), (0, .ref sa)] [] := by
  obtain ⟨hz, hh, hl, hT, hD⟩ := hI
  have hV : TV z := hz.1
  have hF : z 5 = nI (nf z) := hV.1.1
  have hF8 : nf z ≤ 8 := hV.nf
  have hP : z 6 = nI (np z) := hV.1.2.2.1
  have hP24 : np z ≤ 24 := hV.np
  have hn6 : n ≤ 6 := hh.1
  have hnl : n ≤ sv.length := hh.2.1
  have hl6 : sv.length ≤ 6 := hh.2.2.1
  obtain ⟨q0, hq0⟩ : ∃ q, sc (i + 1) = q := ⟨_, rfl⟩
  obtain ⟨q1, hq1⟩ : ∃ q, sc (i + 2) = q := ⟨_, rfl⟩
  refine V.aload_n 3 rfl dL_law_1324 rfl ?_
  refine V.aload_n 4 rfl dL_law_1325 rfl ?_
  refine V.iload 0 rfl dL_law_1326 ?_
  refine V.iconst (v := 1) dL_law_1328 (by decide) ?_
  refine V.iaddN (v := nI (i + 1)) dL_law_1329 (nI_add i 1) ?_
  refine V.ialdL (i + 1) (by omega) hL dL_law_1330 ?_
  rw [hq0]
  refine V.aload_n 4 rfl dL_law_1331 rfl ?_
  refine V.iload 0 rfl dL_law_1332 ?_
  refine V.iconst (v := 2) dL_law_1334 (by decide) ?_
  refine V.iaddN (v := nI (i + 2)) dL_law_1335 (nI_add i 2) ?_
  refine V.ialdL (i + 2) (by omega) hL dL_law_1336 ?_
  rw [hq1]
  refine V.aload_n 1 rfl dL_law_1337 rfl ?_
  have hM := kX5_choice g hst o b c u h x z y ai pa tu tx len s n sv q0 q1 hV
  refine V.callSHP (F := (SCW g sa L sc) ++ (MW g a z hi tx aj pj tj pt ke (nI n) (nI len) th re nu du ha)) [.ref o, .int q0, .int q1, .ref ob] [] (kL_choice g (GW g o b c u h x z y ai pa tu tx len s n sv) o ob q0 q1 ff rfl hM (fun v w q => by obtain ⟨_, _, _, _, _, e, hG⟩ := q; exact ⟨_, e⟩) (fun v w q => by obtain ⟨_, _, _, _, _, e, hG⟩ := q; exact by rw [hG]; exact FST.of GW_fe) (fun E w q => by rw [q.1]; exact FST.rf) (fun E w q => by (rcases q.2 with ⟨d0, q⟩ | ⟨⟨j, hj, _⟩, d1, q⟩ <;> first | exact q | exact Or.inl q | exact Or.inr q | exact Or.inr (Or.inl q) | exact Or.inr (Or.inr q)))) gL_law_L_choice rfl (by show _ ∧ _ ∧ _ = some (4 : Nat); decide +kernel) ⟨(Nat.le_of_ble_eq_true rfl), (Nat.le_of_ble_eq_true rfl)⟩ pvW rfl (Nat.le_of_ble_eq_true rfl) ⟨(by have : rmL_choice.cells ≤ 20 := Nat.le_of_ble_eq_true rfl; show kc + rmL_choice.cells ≤ 601024; omega), (by have : rmL_choice.slots ≤ 400 := Nat.le_of_ble_eq_true rfl; show nc + rmL_choice.slots ≤ 7293034; omega)⟩ dL_law_1338 (LQ.fst (fun v w q => by obtain ⟨_, _, _, _, _, e, hG⟩ := q; exact by rw [hG]; exact FST.of GW_fe) (fun E w q => by rw [q.1]; exact FST.rf)) (fun v w hq => ?_)
  rcases hq with ⟨r, w1, hQ1, rfl, rfl⟩ | ⟨E, w1, hX1, rfl, rfl⟩
  · skip
    obtain ⟨j, hj, rfl, d0, d1, e, hG⟩ := hQ1
    injection e with e; injection e with e; subst e
    subst hG
    refine V.perm (pvL (List.Perm.refl _)) ?_
    refine V.eqws (ws2 := (SCW g sa L sc) ++ (OB g ob (vp_updL ff 0 (en (cho z j q1)).toInt64)) ++ (GW g o b c u h x z y ai pa tu tx len s n sv) ++ (MW g a z hi tx aj pj tj pt ke (nI n) (nI len) th re nu du ha)) rfl ?_
    refine V.eqst (st2 := [.int 0]) rfl ?_
    refine V.istore (lv2 := [(5, .int 0), (4, .int (nI i)), (3, .ref ob), (2, .ref (a 0)), (1, .ref o), (0, .ref sa)]) dL_law_1341 (by decide) rfl ?_
    refine V.aload_n 3 rfl dL_law_1343 rfl ?_
    refine V.aload_n 5 rfl dL_law_1344 rfl ?_
    refine V.iload 1 rfl dL_law_1345 ?_
    refine V.iconst (v := 1) dL_law_1347 (by decide) ?_
    refine V.iaddN (v := nI (i + 1)) dL_law_1348 (nI_add i 1) ?_
    refine V.ialdL (i + 1) (by omega) hL dL_law_1349 ?_
    rw [hq0]
    refine V.aload_n 5 rfl dL_law_1350 rfl ?_
    refine V.iload 1 rfl dL_law_1351 ?_
    refine V.iconst (v := 2) dL_law_1353 (by decide) ?_
    refine V.iaddN (v := nI (i + 2)) dL_law_1354 (nI_add i 2) ?_
    refine V.ialdL (i + 2) (by omega) hL dL_law_1355 ?_
    rw [hq1]
    refine V.callVPf (F := ((SCW g sa L sc) ++ (OB g ob (vp_updL ff 0 (en (cho z j q1)).toInt64))) ++ (GW g o b c u h x z y ai pa tu tx len s n sv)) (ws2 := (SCW g sa L sc) ++ (OB g ob (vp_updL ff 0 (en (cho z j q1)).toInt64)) ++ (GW g o b c u h x z y ai pa tu tx len s n sv) ++ (MW g a z hi tx aj pj tj pt ke (nI n) (nI len) 0 re nu du ha)) (st2 := [.int (en (cho z j q1))]) [.int (nI j), .int q1] [] (kX6_choice_ok g a z hi tx aj pj tj pt ke (nI n) (nI len) th re nu du ha j q1 hj d0 d1 hF hF8) gL_law_X6_choice rfl (by show _ ∧ _ ∧ _ ∧ _ = some (2 : Nat); decide +kernel) ⟨(Nat.le_of_ble_eq_true rfl), (Nat.le_of_ble_eq_true rfl)⟩ (hc := (rfl : vwCl[6]? = some (RX6, TX6, 15))) 0 rfl pvM rfl (Nat.le_of_ble_eq_true rfl) ⟨(by have : rmL_choice.cells ≤ 20 := Nat.le_of_ble_eq_true rfl; show kc + rmL_choice.cells + 0 ≤ 601024; omega), (by have : rmL_choice.slots ≤ 400 := Nat.le_of_ble_eq_true rfl; show nc + rmL_choice.slots + 0 ≤ 7293034; omega)⟩ dL_law_1356 MWm pvM.symm rfl rfl rfl ?_
    refine V.istore (lv2 := [(6, .int (en (cho z j q1))), (5, .int 0), (4, .int (nI i)), (3, .ref ob), (2, .ref (a 0)), (1, .ref o), (0, .ref sa)]) dL_law_1359 (by decide) rfl ?_
    refine V.aload_n 4 rfl dL_law_1361 rfl ?_
    refine V.callVPf (F := ((SCW g sa L sc) ++ (OB g ob (vp_updL ff 0 (en (cho z j q1)).toInt64))) ++ (GW g o b c u h x z y ai pa tu tx len s n sv)) (ws2 := (SCW g sa L sc) ++ (OB g ob (vp_updL ff 0 (en (cho z j q1)).toInt64)) ++ (GW g o b c u h x z y ai pa tu tx len s n sv) ++ (MW g a z hi tx aj pj tj pt ke (nI n) (nI len) 0 re nu du ha)) (st2 := [.int 0]) [] [] (kX6_thrown g a z hi tx aj pj tj pt ke (nI n) (nI len) 0 re nu du ha) gL_law_X6_thrown rfl (by show _ ∧ _ ∧ _ ∧ _ = some (0 : Nat); decide +kernel) ⟨(Nat.le_of_ble_eq_true rfl), (Nat.le_of_ble_eq_true rfl)⟩ (hc := (rfl : vwCl[6]? = some (RX6, TX6, 15))) 0 rfl pvM rfl (Nat.le_of_ble_eq_true rfl) ⟨(by have : rmL_choice.cells ≤ 20 := Nat.le_of_ble_eq_true rfl; show kc + rmL_choice.cells + 0 ≤ 601024; omega), (by have : rmL_choice.slots ≤ 400 := Nat.le_of_ble_eq_true rfl; show nc + rmL_choice.slots + 0 ≤ 7293034; omega)⟩ dL_law_1362 MWm pvM.symm rfl rfl rfl ?_
    refine V.iload 1 rfl dL_law_1365 ?_
    refine V.icmp_eq_t (tgt := 1372) rfl dL_law_1367 (by decide) ?_
    refine V.iload 1 rfl dL_law_1372 ?_
    refine V.if_ne_f (tgt := 1389) rfl dL_law_1374 (by decide) ?_
    refine V.aload_n 3 rfl dL_law_1377 rfl ?_
    refine V.iconst (v := 0) dL_law_1378 (by decide) ?_
    refine V.lald (f := vp_updL ff 0 (en (cho z j q1)).toInt64) 0 0 rfl rfl (by decide) (by decide) dL_law_1379 ?_
    refine V.eqst (st2 := [.long (en (cho z j q1)).toInt64]) rfl ?_
    refine V.iload 0 rfl dL_law_1380 ?_
    refine V.i2l dL_law_1382 ?_
    refine V.lcmp dL_law_1383 ?_
    refine V.eqst (st2 := [.int 0]) (by rw [cmp_0] <;> rfl) ?_
    refine V.if_eq_t (tgt := 1389) (by decide) dL_law_1384 (by decide) ?_
    refine V.goto (tgt := 1529) dL_law_1389 (by decide) ?_
    refine V.eqlv (lv2 := [(4, .int (nI i)), (3, .ref ob), (2, .ref (a 0)), (1, .ref o), (0, .ref sa)]) [2, 3, 4, 5, 6] rfl ?_
    refine V.widen (k2 := kc + 20) (n2 := nc + 400) (by have : rmL_choice.cells ≤ 20 := Nat.le_of_ble_eq_true rfl; show kc + rmL_choice.cells ≤ kc + 20; omega) (by have : rmL_choice.slots ≤ 400 := Nat.le_of_ble_eq_true rfl; show nc + rmL_choice.slots ≤ nc + 400; omega) ?_
    exact hk _ _ _ _ _ _ _ _ _ _ _ _ _ _ _ _ _ _ _ _ _ _ ⟨hz.mo, hh.mo, hl, hT, hD⟩
  · skip
    obtain ⟨rfl, hX1⟩ := hX1
    rcases hX1 with ⟨d0, rfl⟩ | ⟨⟨j, hj, rfl⟩, d1, rfl⟩
    · skip
      refine V.perm (pvL (List.Perm.refl _)) ?_
      refine V.eqws (ws2 := (SCW g sa L sc) ++ (OB g ob ff) ++ (GW g o b c u h x z y ai pa tu tx len s n sv) ++ (MW g a z hi tx aj pj tj pt ke (nI n) (nI len) th re nu du ha)) rfl ?_
      rw [show (cd2 IOB IAE) IOB = 1 from by decide +kernel]
      refine V.eqst (st2 := [.int 1]) rfl ?_
      refine V.istore (lv2 := [(5, .int 1), (4, .int (nI i)), (3, .ref ob), (2, .ref (a 0)), (1, .ref o), (0, .ref sa)]) dL_law_1341 (by decide) rfl ?_
      refine V.aload_n 3 rfl dL_law_1343 rfl ?_
      refine V.aload_n 5 rfl dL_law_1344 rfl ?_
      refine V.iload 1 rfl dL_law_1345 ?_
      refine V.iconst (v := 1) dL_law_1347 (by decide) ?_
      refine V.iaddN (v := nI (i + 1)) dL_law_1348 (nI_add i 1) ?_
      refine V.ialdL (i + 1) (by omega) hL dL_law_1349 ?_
      rw [hq0]
      refine V.aload_n 5 rfl dL_law_1350 rfl ?_
      refine V.iload 1 rfl dL_law_1351 ?_
      refine V.iconst (v := 2) dL_law_1353 (by decide) ?_
      refine V.iaddN (v := nI (i + 2)) dL_law_1354 (nI_add i 2) ?_
      refine V.ialdL (i + 2) (by omega) hL dL_law_1355 ?_
      rw [hq1]
      refine V.callVPf (F := ((SCW g sa L sc) ++ (OB g ob ff)) ++ (GW g o b c u h x z y ai pa tu tx len s n sv)) (ws2 := (SCW g sa L sc) ++ (OB g ob ff) ++ (GW g o b c u h x z y ai pa tu tx len s n sv) ++ (MW g a z hi tx aj pj tj pt ke (nI n) (nI len) 1 re nu du ha)) (st2 := [.int 0]) [.int q0, .int q1] [] (kX6_choice_b1 g a z hi tx aj pj tj pt ke (nI n) (nI len) th re nu du ha q0 q1 d0) gL_law_X6_choice rfl (by show _ ∧ _ ∧ _ ∧ _ = some (2 : Nat); decide +kernel) ⟨(Nat.le_of_ble_eq_true rfl), (Nat.le_of_ble_eq_true rfl)⟩ (hc := (rfl : vwCl[6]? = some (RX6, TX6, 15))) 0 rfl pvM rfl (Nat.le_of_ble_eq_true rfl) ⟨(by have : rmL_choice.cells ≤ 20 := Nat.le_of_ble_eq_true rfl; show kc + rmL_choice.cells + 0 ≤ 601024; omega), (by have : rmL_choice.slots ≤ 400 := Nat.le_of_ble_eq_true rfl; show nc + rmL_choice.slots + 0 ≤ 7293034; omega)⟩ dL_law_1356 MWm pvM.symm rfl rfl rfl ?_
      refine V.istore (lv2 := [(6, .int 0), (5, .int 1), (4, .int (nI i)), (3, .ref ob), (2, .ref (a 0)), (1, .ref o), (0, .ref sa)]) dL_law_1359 (by decide) rfl ?_
      refine V.aload_n 4 rfl dL_law_1361 rfl ?_
      refine V.callVPf (F := ((SCW g sa L sc) ++ (OB g ob ff)) ++ (GW g o b c u h x z y ai pa tu tx len s n sv)) (ws2 := (SCW g sa L sc) ++ (OB g ob ff) ++ (GW g o b c u h x z y ai pa tu tx len s n sv) ++ (MW g a z hi tx aj pj tj pt ke (nI n) (nI len) 1 re nu du ha)) (st2 := [.int 1]) [] [] (kX6_thrown g a z hi tx aj pj tj pt ke (nI n) (nI len) 1 re nu du ha) gL_law_X6_thrown rfl (by show _ ∧ _ ∧ _ ∧ _ = some (0 : Nat); decide +kernel) ⟨(Nat.le_of_ble_eq_true rfl), (Nat.le_of_ble_eq_true rfl)⟩ (hc := (rfl : vwCl[6]? = some (RX6, TX6, 15))) 0 rfl pvM rfl (Nat.le_of_ble_eq_true rfl) ⟨(by have : rmL_choice.cells ≤ 20 := Nat.le_of_ble_eq_true rfl; show kc + rmL_choice.cells + 0 ≤ 601024; omega), (by have : rmL_choice.slots ≤ 400 := Nat.le_of_ble_eq_true rfl; show nc + rmL_choice.slots + 0 ≤ 7293034; omega)⟩ dL_law_1362 MWm pvM.symm rfl rfl rfl ?_
      refine V.iload 1 rfl dL_law_1365 ?_
      refine V.icmp_eq_t (tgt := 1372) rfl dL_law_1367 (by decide) ?_
      refine V.iload 1 rfl dL_law_1372 ?_
      refine V.if_ne_t (tgt := 1389) (by decide) dL_law_1374 (by decide) ?_
      refine V.goto (tgt := 1529) dL_law_1389 (by decide) ?_
      refine V.eqlv (lv2 := [(4, .int (nI i)), (3, .ref ob), (2, .ref (a 0)), (1, .ref o), (0, .ref sa)]) [2, 3, 4, 5, 6] rfl ?_
      refine V.widen (k2 := kc + 20) (n2 := nc + 400) (by have : rmL_choice.cells ≤ 20 := Nat.le_of_ble_eq_true rfl; show kc + rmL_choice.cells ≤ kc + 20; omega) (by have : rmL_choice.slots ≤ 400 := Nat.le_of_ble_eq_true rfl; show nc + rmL_choice.slots ≤ nc + 400; omega) ?_
      exact hk _ _ _ _ _ _ _ _ _ _ _ _ _ _ _ _ _ _ _ _ _ _ ⟨hz.mo, hh.mo, hl, hT, hD⟩
    · skip
      refine V.perm (pvL (List.Perm.refl _)) ?_
      refine V.eqws (ws2 := (SCW g sa L sc) ++ (OB g ob ff) ++ (GW g o b c u h x z y ai pa tu tx len s n sv) ++ (MW g a z hi tx aj pj tj pt ke (nI n) (nI len) th re nu du ha)) rfl ?_
      rw [show (cd2 IOB IAE) IAE = 2 from by decide +kernel]
      refine V.eqst (st2 := [.int 2]) rfl ?_
      refine V.istore (lv2 := [(5, .int 2), (4, .int (nI i)), (3, .ref ob), (2, .ref (a 0)), (1, .ref o), (0, .ref sa)]) dL_law_1341 (by decide) rfl ?_
      refine V.aload_n 3 rfl dL_law_1343 rfl ?_
      refine V.aload_n 5 rfl dL_law_1344 rfl ?_
      refine V.iload 1 rfl dL_law_1345 ?_
      refine V.iconst (v := 1) dL_law_1347 (by decide) ?_
      refine V.iaddN (v := nI (i + 1)) dL_law_1348 (nI_add i 1) ?_
      refine V.ialdL (i + 1) (by omega) hL dL_law_1349 ?_
      rw [hq0]
      refine V.aload_n 5 rfl dL_law_1350 rfl ?_
      refine V.iload 1 rfl dL_law_1351 ?_
      refine V.iconst (v := 2) dL_law_1353 (by decide) ?_
      refine V.iaddN (v := nI (i + 2)) dL_law_1354 (nI_add i 2) ?_
      refine V.ialdL (i + 2) (by omega) hL dL_law_1355 ?_
      rw [hq1]
      refine V.callVPf (F := ((SCW g sa L sc) ++ (OB g ob ff)) ++ (GW g o b c u h x z y ai pa tu tx len s n sv)) (ws2 := (SCW g sa L sc) ++ (OB g ob ff) ++ (GW g o b c u h x z y ai pa tu tx len s n sv) ++ (MW g a z hi tx aj pj tj pt ke (nI n) (nI len) 2 re nu du ha)) (st2 := [.int 0]) [.int (nI j), .int q1] [] (kX6_choice_b2 g a z hi tx aj pj tj pt ke (nI n) (nI len) th re nu du ha (nI j) q1 (show wi (nI j) 0 3 = true from wi_in (m := 3) (by decide) (by omega)) d1) gL_law_X6_choice rfl (by show _ ∧ _ ∧ _ ∧ _ = some (2 : Nat); decide +kernel) ⟨(Nat.le_of_ble_eq_true rfl), (Nat.le_of_ble_eq_true rfl)⟩ (hc := (rfl : vwCl[6]? = some (RX6, TX6, 15))) 0 rfl pvM rfl (Nat.le_of_ble_eq_true rfl) ⟨(by have : rmL_choice.cells ≤ 20 := Nat.le_of_ble_eq_true rfl; show kc + rmL_choice.cells + 0 ≤ 601024; omega), (by have : rmL_choice.slots ≤ 400 := Nat.le_of_ble_eq_true rfl; show nc + rmL_choice.slots + 0 ≤ 7293034; omega)⟩ dL_law_1356 MWm pvM.symm rfl rfl rfl ?_
      refine V.istore (lv2 := [(6, .int 0), (5, .int 2), (4, .int (nI i)), (3, .ref ob), (2, .ref (a 0)), (1, .ref o), (0, .ref sa)]) dL_law_1359 (by decide) rfl ?_
      refine V.aload_n 4 rfl dL_law_1361 rfl ?_
      refine V.callVPf (F := ((SCW g sa L sc) ++ (OB g ob ff)) ++ (GW g o b c u h x z y ai pa tu tx len s n sv)) (ws2 := (SCW g sa L sc) ++ (OB g ob ff) ++ (GW g o b c u h x z y ai pa tu tx len s n sv) ++ (MW g a z hi tx aj pj tj pt ke (nI n) (nI len) 2 re nu du ha)) (st2 := [.int 2]) [] [] (kX6_thrown g a z hi tx aj pj tj pt ke (nI n) (nI len) 2 re nu du ha) gL_law_X6_thrown rfl (by show _ ∧ _ ∧ _ ∧ _ = some (0 : Nat); decide +kernel) ⟨(Nat.le_of_ble_eq_true rfl), (Nat.le_of_ble_eq_true rfl)⟩ (hc := (rfl : vwCl[6]? = some (RX6, TX6, 15))) 0 rfl pvM rfl (Nat.le_of_ble_eq_true rfl) ⟨(by have : rmL_choice.cells ≤ 20 := Nat.le_of_ble_eq_true rfl; show kc + rmL_choice.cells + 0 ≤ 601024; omega), (by have : rmL_choice.slots ≤ 400 := Nat.le_of_ble_eq_true rfl; show nc + rmL_choice.slots + 0 ≤ 7293034; omega)⟩ dL_law_1362 MWm pvM.symm rfl rfl rfl ?_
      refine V.iload 1 rfl dL_law_1365 ?_
      refine V.icmp_eq_t (tgt := 1372) rfl dL_law_1367 (by decide) ?_
      refine V.iload 1 rfl dL_law_1372 ?_
      refine V.if_ne_t (tgt := 1389) (by decide) dL_law_1374 (by decide) ?_
      refine V.goto (tgt := 1529) dL_law_1389 (by decide) ?_
      refine V.eqlv (lv2 := [(4, .int (nI i)), (3, .ref ob), (2, .ref (a 0)), (1, .ref o), (0, .ref sa)]) [2, 3, 4, 5, 6] rfl ?_
      refine V.widen (k2 := kc + 20) (n2 := nc + 400) (by have : rmL_choice.cells ≤ 20 := Nat.le_of_ble_eq_true rfl; show kc + rmL_choice.cells ≤ kc + 20; omega) (by have : rmL_choice.slots ≤ 400 := Nat.le_of_ble_eq_true rfl; show nc + rmL_choice.slots ≤ nc + 400; omega) ?_
      exact hk _ _ _ _ _ _ _ _ _ _ _ _ _ _ _ _ _ _ _ _ _ _ ⟨hz.mo, hh.mo, hl, hT, hD⟩
set_option maxHeartbeats 4000000 in
set_option maxRecDepth 100000 in
theorem cs_aim (g : GT) (hst : g.1.stackTraces = false) (QF : QT) (sa ob o : Nat) (b c u h x a : Nat → Nat) (L i K : Nat) (sc : Nat → Int32) (kc nc : Nat) (hkc : kc + 20 ≤ 601024) (hnc : nc + 400 ≤ 7293034) (hiL : i + 6 ≤ L) (hL : L < 2147483648) (hK : K ≤ 590) (ff : Nat → Int64) (z y ai pa tu tx : Nat → Int32) (len : Nat) (s : BS) (n : Nat) (sv : SV) (hi aj pj tj pt ke : Nat → Int32) (th re nu du : Int32) (ha : Int64) (hI : LI K z n sv hi tx len s) (hk : ∀ (ff : Nat → Int64) (z y ai pa tu tx : Nat → Int32) (len : Nat) (s : BS) (n : Nat) (sv : SV) (hi aj pj tj pt ke : Nat → Int32) (th re nu du : Int32) (ha : Int64), LI (K + 1) z n sv hi tx len s → V g rmL_law RL cL_law wsL_law 9 QF (XL sa L sc) (kc + 20) (nc + 400) (SCW g sa L sc ++ OB g ob ff ++ GW g o b c u h x z y ai pa tu tx len s n sv ++ MW g a z hi tx aj pj tj pt ke (nI n) (nI len) th re nu du ha) 1529 [(4, .int (nI i)), (3, .ref ob), (2, .ref (a 0)), (1, .ref o), (0, .ref sa)] []) : V g rmL_law RL cL_law wsL_law 9 QF (XL sa L sc) kc nc ((SCW g sa L sc) ++ (OB g ob ff) ++ (GW g o b c u h x z y ai pa tu tx len s n sv) ++ (MW g a z hi tx aj pj tj pt ke (nI n) (nI len) th re nu du ha)) 1392 [(4, .int (nI i)), (3, .ref ob), (2, .ref (a 0)), (1, .ref o), (0, .ref sa)] [] := by
  obtain ⟨hz, hh, hl, hT, hD⟩ := hI
  have hV : TV z := hz.1
  have hF : z 5 = nI (nf z) := hV.1.1
  have hF8 : nf z ≤ 8 := hV.nf
  have hP : z 6 = nI (np z) := hV.1.2.2.1
  have hP24 : np z ≤ 24 := hV.np
  have hn6 : n ≤ 6 := hh.1
  have hnl : n ≤ sv.length := hh.2.1
  have hl6 : sv.length ≤ 6 := hh.2.2.1
  obtain ⟨q0, hq0⟩ : ∃ q, sc (i + 1) = q := ⟨_, rfl⟩
  refine V.aload_n 3 rfl dL_law_1392 rfl ?_
  refine V.aload_n 4 rfl dL_law_1393 rfl ?_
  refine V.iload 0 rfl dL_law_1394 ?_
  refine V.iconst (v := 1) dL_law_1396 (by decide) ?_
  refine V.iaddN (v := nI (i + 1)) dL_law_1397 (nI_add i 1) ?_
  refine V.ialdL (i + 1) (by omega) hL dL_law_1398 ?_
  rw [hq0]
  refine V.aload_n 1 rfl dL_law_1399 rfl ?_
  have hM := kX5_aim g hst o b c u h x z y ai pa tu tx len s n sv q0 hV
  refine V.callSHP (F := (SCW g sa L sc) ++ (MW g a z hi tx aj pj tj pt ke (nI n) (nI len) th re nu du ha)) [.ref o, .int q0, .ref ob] [] (kL_aim g (GW g o b c u h x z y ai pa tu tx len s n sv) o ob q0 ff rfl hM (fun v w q => by obtain ⟨_, _, _, _, e, hG⟩ := q; exact ⟨_, e⟩) (fun v w q => by obtain ⟨_, _, _, _, e, hG⟩ := q; exact by rw [hG]; exact FST.of GW_fe) (fun E w q => by rw [q.1]; exact FST.rf) (fun E w q => by (rcases q.2 with ⟨d0, q⟩ <;> first | exact q | exact Or.inl q | exact Or.inr q | exact Or.inr (Or.inl q) | exact Or.inr (Or.inr q)))) gL_law_L_aim rfl (by show _ ∧ _ ∧ _ = some (3 : Nat); decide +kernel) ⟨(Nat.le_of_ble_eq_true rfl), (Nat.le_of_ble_eq_true rfl)⟩ pvW rfl (Nat.le_of_ble_eq_true rfl) ⟨(by have : rmL_aim.cells ≤ 20 := Nat.le_of_ble_eq_true rfl; show kc + rmL_aim.cells ≤ 601024; omega), (by have : rmL_aim.slots ≤ 400 := Nat.le_of_ble_eq_true rfl; show nc + rmL_aim.slots ≤ 7293034; omega)⟩ dL_law_1400 (LQ.fst (fun v w q => by obtain ⟨_, _, _, _, e, hG⟩ := q; exact by rw [hG]; exact FST.of GW_fe) (fun E w q => by rw [q.1]; exact FST.rf)) (fun v w hq => ?_)
  rcases hq with ⟨r, w1, hQ1, rfl, rfl⟩ | ⟨E, w1, hX1, rfl, rfl⟩
  · skip
    obtain ⟨j, hj, rfl, d0, e, hG⟩ := hQ1
    injection e with e; injection e with e; subst e
    subst hG
    refine V.perm (pvL (List.Perm.refl _)) ?_
    refine V.eqws (ws2 := (SCW g sa L sc) ++ (OB g ob (vp_updL ff 0 (lA z ai j).toInt64)) ++ (GW g o b c u h x z y (lA z ai) pa tu tx len s n sv) ++ (MW g a z hi tx aj pj tj pt ke (nI n) (nI len) th re nu du ha)) rfl ?_
    refine V.eqst (st2 := [.int 0]) rfl ?_
    refine V.istore (lv2 := [(5, .int 0), (4, .int (nI i)), (3, .ref ob), (2, .ref (a 0)), (1, .ref o), (0, .ref sa)]) dL_law_1403 (by decide) rfl ?_
    refine V.aload_n 3 rfl dL_law_1405 rfl ?_
    refine V.aload_n 5 rfl dL_law_1406 rfl ?_
    refine V.iload 1 rfl dL_law_1407 ?_
    refine V.iconst (v := 1) dL_law_1409 (by decide) ?_
    refine V.iaddN (v := nI (i + 1)) dL_law_1410 (nI_add i 1) ?_
    refine V.ialdL (i + 1) (by omega) hL dL_law_1411 ?_
    rw [hq0]
    refine V.callVPf (F := ((SCW g sa L sc) ++ (OB g ob (vp_updL ff 0 (lA z ai j).toInt64))) ++ (GW g o b c u h x z y (lA z ai) pa tu tx len s n sv)) (ws2 := (SCW g sa L sc) ++ (OB g ob (vp_updL ff 0 (lA z ai j).toInt64)) ++ (GW g o b c u h x z y (lA z ai) pa tu tx len s n sv) ++ (MW g a z hi tx (lA z aj) pj tj pt ke (nI n) (nI len) 0 re nu du ha)) (st2 := [.int (lA z aj j)]) [.int (nI j)] [] (kX6_aim_ok g a z hi tx aj pj tj pt ke (nI n) (nI len) th re nu du ha j hj d0 hF hF8 hP hP24) gL_law_X6_aim rfl (by show _ ∧ _ ∧ _ ∧ _ = some (1 : Nat); decide +kernel) ⟨(Nat.le_of_ble_eq_true rfl), (Nat.le_of_ble_eq_true rfl)⟩ (hc := (rfl : vwCl[6]? = some (RX6, TX6, 15))) 0 rfl pvM rfl (Nat.le_of_ble_eq_true rfl) ⟨(by have : rmL_aim.cells ≤ 20 := Nat.le_of_ble_eq_true rfl; show kc + rmL_aim.cells + 0 ≤ 601024; omega), (by have : rmL_aim.slots ≤ 400 := Nat.le_of_ble_eq_true rfl; show nc + rmL_aim.slots + 0 ≤ 7293034; omega)⟩ dL_law_1412 MWm pvM.symm rfl rfl rfl ?_
    refine V.istore (lv2 := [(6, .int (lA z aj j)), (5, .int 0), (4, .int (nI i)), (3, .ref ob), (2, .ref (a 0)), (1, .ref o), (0, .ref sa)]) dL_law_1415 (by decide) rfl ?_
    refine V.aload_n 4 rfl dL_law_1417 rfl ?_
    refine V.callVPf (F := ((SCW g sa L sc) ++ (OB g ob (vp_updL ff 0 (lA z ai j).toInt64))) ++ (GW g o b c u h x z y (lA z ai) pa tu tx len s n sv)) (ws2 := (SCW g sa L sc) ++ (OB g ob (vp_updL ff 0 (lA z ai j).toInt64)) ++ (GW g o b c u h x z y (lA z ai) pa tu tx len s n sv) ++ (MW g a z hi tx (lA z aj) pj tj pt ke (nI n) (nI len) 0 re nu du ha)) (st2 := [.int 0]) [] [] (kX6_thrown g a z hi tx (lA z aj) pj tj pt ke (nI n) (nI len) 0 re nu du ha) gL_law_X6_thrown rfl (by show _ ∧ _ ∧ _ ∧ _ = some (0 : Nat); decide +kernel) ⟨(Nat.le_of_ble_eq_true rfl), (Nat.le_of_ble_eq_true rfl)⟩ (hc := (rfl : vwCl[6]? = some (RX6, TX6, 15))) 0 rfl pvM rfl (Nat.le_of_ble_eq_true rfl) ⟨(by have : rmL_aim.cells ≤ 20 := Nat.le_of_ble_eq_true rfl; show kc + rmL_aim.cells + 0 ≤ 601024; omega), (by have : rmL_aim.slots ≤ 400 := Nat.le_of_ble_eq_true rfl; show nc + rmL_aim.slots + 0 ≤ 7293034; omega)⟩ dL_law_1418 MWm pvM.symm rfl rfl rfl ?_
    refine V.iload 1 rfl dL_law_1421 ?_
    refine V.icmp_eq_t (tgt := 1428) rfl dL_law_1423 (by decide) ?_
    refine V.iload 1 rfl dL_law_1428 ?_
    refine V.if_ne_f (tgt := 1445) rfl dL_law_1430 (by decide) ?_
    refine V.aload_n 3 rfl dL_law_1433 rfl ?_
    refine V.iconst (v := 0) dL_law_1434 (by decide) ?_
    refine V.lald (f := vp_updL ff 0 (lA z ai j).toInt64) 0 0 rfl rfl (by decide) (by decide) dL_law_1435 ?_
    refine V.eqst (st2 := [.long (lA z ai j).toInt64]) rfl ?_
    refine V.iload 0 rfl dL_law_1436 ?_
    refine V.i2l dL_law_1438 ?_
    rw [← lA_cg (ai := ai) (ai' := aj) j hj]
    refine V.lcmp dL_law_1439 ?_
    refine V.eqst (st2 := [.int 0]) (by rw [cmp_0] <;> rfl) ?_
    refine V.if_eq_t (tgt := 1445) (by decide) dL_law_1440 (by decide) ?_
    refine V.goto (tgt := 1529) dL_law_1445 (by decide) ?_
    refine V.eqlv (lv2 := [(4, .int (nI i)), (3, .ref ob), (2, .ref (a 0)), (1, .ref o), (0, .ref sa)]) [2, 3, 4, 5, 6] rfl ?_
    refine V.widen (k2 := kc + 20) (n2 := nc + 400) (by have : rmL_aim.cells ≤ 20 := Nat.le_of_ble_eq_true rfl; show kc + rmL_aim.cells ≤ kc + 20; omega) (by have : rmL_aim.slots ≤ 400 := Nat.le_of_ble_eq_true rfl; show nc + rmL_aim.slots ≤ nc + 400; omega) ?_
    exact hk _ _ _ _ _ _ _ _ _ _ _ _ _ _ _ _ _ _ _ _ _ _ ⟨hz.mo, hh.mo, hl, hT, hD⟩
  · skip
    obtain ⟨rfl, hX1⟩ := hX1
    rcases hX1 with ⟨d0, rfl⟩
    · skip
      refine V.perm (pvL (List.Perm.refl _)) ?_
      refine V.eqws (ws2 := (SCW g sa L sc) ++ (OB g ob ff) ++ (GW g o b c u h x z y ai pa tu tx len s n sv) ++ (MW g a z hi tx aj pj tj pt ke (nI n) (nI len) th re nu du ha)) rfl ?_
      rw [show (cd2 IOB IOB) IOB = 1 from by decide +kernel]
      refine V.eqst (st2 := [.int 1]) rfl ?_
      refine V.istore (lv2 := [(5, .int 1), (4, .int (nI i)), (3, .ref ob), (2, .ref (a 0)), (1, .ref o), (0, .ref sa)]) dL_law_1403 (by decide) rfl ?_
      refine V.aload_n 3 rfl dL_law_1405 rfl ?_
      refine V.aload_n 5 rfl dL_law_1406 rfl ?_
      refine V.iload 1 rfl dL_law_1407 ?_
      refine V.iconst (v := 1) dL_law_1409 (by decide) ?_
      refine V.iaddN (v := nI (i + 1)) dL_law_1410 (nI_add i 1) ?_
      refine V.ialdL (i + 1) (by omega) hL dL_law_1411 ?_
      rw [hq0]
      refine V.callVPf (F := ((SCW g sa L sc) ++ (OB g ob ff)) ++ (GW g o b c u h x z y ai pa tu tx len s n sv)) (ws2 := (SCW g sa L sc) ++ (OB g ob ff) ++ (GW g o b c u h x z y ai pa tu tx len s n sv) ++ (MW g a z hi tx aj pj tj pt ke (nI n) (nI len) 1 re nu du ha)) (st2 := [.int 0]) [.int q0] [] (kX6_aim_b1 g a z hi tx aj pj tj pt ke (nI n) (nI len) th re nu du ha q0 d0) gL_law_X6_aim rfl (by show _ ∧ _ ∧ _ ∧ _ = some (1 : Nat); decide +kernel) ⟨(Nat.le_of_ble_eq_true rfl), (Nat.le_of_ble_eq_true rfl)⟩ (hc := (rfl : vwCl[6]? = some (RX6, TX6, 15))) 0 rfl pvM rfl (Nat.le_of_ble_eq_true rfl) ⟨(by have : rmL_aim.cells ≤ 20 := Nat.le_of_ble_eq_true rfl; show kc + rmL_aim.cells + 0 ≤ 601024; omega), (by have : rmL_aim.slots ≤ 400 := Nat.le_of_ble_eq_true rfl; show nc + rmL_aim.slots + 0 ≤ 7293034; omega)⟩ dL_law_1412 MWm pvM.symm rfl rfl rfl ?_
      refine V.istore (lv2 := [(6, .int 0), (5, .int 1), (4, .int (nI i)), (3, .ref ob), (2, .ref (a 0)), (1, .ref o), (0, .ref sa)]) dL_law_1415 (by decide) rfl ?_
      refine V.aload_n 4 rfl dL_law_1417 rfl ?_
      refine V.callVPf (F := ((SCW g sa L sc) ++ (OB g ob ff)) ++ (GW g o b c u h x z y ai pa tu tx len s n sv)) (ws2 := (SCW g sa L sc) ++ (OB g ob ff) ++ (GW g o b c u h x z y ai pa tu tx len s n sv) ++ (MW g a z hi tx aj pj tj pt ke (nI n) (nI len) 1 re nu du ha)) (st2 := [.int 1]) [] [] (kX6_thrown g a z hi tx aj pj tj pt ke (nI n) (nI len) 1 re nu du ha) gL_law_X6_thrown rfl (by show _ ∧ _ ∧ _ ∧ _ = some (0 : Nat); decide +kernel) ⟨(Nat.le_of_ble_eq_true rfl), (Nat.le_of_ble_eq_true rfl)⟩ (hc := (rfl : vwCl[6]? = some (RX6, TX6, 15))) 0 rfl pvM rfl (Nat.le_of_ble_eq_true rfl) ⟨(by have : rmL_aim.cells ≤ 20 := Nat.le_of_ble_eq_true rfl; show kc + rmL_aim.cells + 0 ≤ 601024; omega), (by have : rmL_aim.slots ≤ 400 := Nat.le_of_ble_eq_true rfl; show nc + rmL_aim.slots + 0 ≤ 7293034; omega)⟩ dL_law_1418 MWm pvM.symm rfl rfl rfl ?_
      refine V.iload 1 rfl dL_law_1421 ?_
      refine V.icmp_eq_t (tgt := 1428) rfl dL_law_1423 (by decide) ?_
      refine V.iload 1 rfl dL_law_1428 ?_
      refine V.if_ne_t (tgt := 1445) (by decide) dL_law_1430 (by decide) ?_
      refine V.goto (tgt := 1529) dL_law_1445 (by decide) ?_
      refine V.eqlv (lv2 := [(4, .int (nI i)), (3, .ref ob), (2, .ref (a 0)), (1, .ref o), (0, .ref sa)]) [2, 3, 4, 5, 6] rfl ?_
      refine V.widen (k2 := kc + 20) (n2 := nc + 400) (by have : rmL_aim.cells ≤ 20 := Nat.le_of_ble_eq_true rfl; show kc + rmL_aim.cells ≤ kc + 20; omega) (by have : rmL_aim.slots ≤ 400 := Nat.le_of_ble_eq_true rfl; show nc + rmL_aim.slots ≤ nc + 400; omega) ?_
      exact hk _ _ _ _ _ _ _ _ _ _ _ _ _ _ _ _ _ _ _ _ _ _ ⟨hz.mo, hh.mo, hl, hT, hD⟩
