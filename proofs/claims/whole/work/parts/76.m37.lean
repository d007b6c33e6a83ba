set_option maxHeartbeats 4000000 in
set_option maxRecDepth 100000 in
theorem cs_clear (g : GT) (hst : g.1.stackTraces = false) (QF : QT) (sa ob o : Nat) (b c u h x a : Nat → Nat) (L i K : Nat) (sc : Nat → Int32) (kc nc : Nat) (hkc : kc + 20 ≤ 601024) (hnc : nc + 400 ≤ 7293034) (hiL : i + 6 ≤ L) (hL : L < 2147483648) (hK : K ≤ 590) (ff : Nat → Int64) (z y ai pa tu tx : Nat → Int32) (len : Nat) (s : BS) (n : Nat) (sv : SV) (hi aj pj tj pt ke : Nat → Int32) (th re nu du : Int32) (ha : Int64) (hI : LI K z n sv hi tx len s) (hk : ∀ (ff : Nat → Int64) (z y ai pa tu tx : Nat → Int32) (len : Nat) (s : BS) (n : Nat) (sv : SV) (hi aj pj tj pt ke : Nat → Int32) (th re nu du : Int32) (ha : Int64), LI (K + 1) z n sv hi tx len s → V g rmL_law RL cL_law wsL_law 9 QF (XL sa L sc) (kc + 20) (nc + 400) (SCW g sa L sc ++ OB g ob ff ++ GW g o b c u h x z y ai pa tu tx len s n sv ++ MW g a z hi tx aj pj tj pt ke (nI n) (nI len) th re nu du ha) 1529 [(4, .int (nI i)), (3, .ref ob), (2, .ref (a 0)), (1, .ref o), (0, .ref sa)] []) : V g rmL_law RL cL_law wsL_law 9 QF (XL sa L sc) kc nc ((SCW g sa L sc) ++ (OB g ob ff) ++ (GW g o b c u h x z y ai pa tu tx len s n sv) ++ (MW g a z hi tx aj pj tj pt ke (nI n) (nI len) th re nu du ha)) 552 [(4, .int (nI i)), (3, .ref ob), (2, .ref (a 0)), (1, .ref o), (0, .ref sa)] [] := by
  obtain ⟨hz, hh, hl, hT, hD⟩ := hI
  have hV : TV z := hz.1
  have hF : z 5 = nI (nf z) := hV.1.1
  have hF8 : nf z ≤ 8 := hV.nf
  have hP : z 6 = nI (np z) := hV.1.2.2.1
  have hP24 : np z ≤ 24 := hV.np
  have hn6 : n ≤ 6 := hh.1
  have hnl : n ≤ sv.length := hh.2.1
  have hl6 : sv.length ≤ 6 := hh.2.2.1
  refine V.aload_n 3 rfl dL_law_552 rfl ?_
  refine V.callVP (F := ((SCW g sa L sc) ++ (OB g ob ff)) ++ (MW g a z hi tx aj pj tj pt ke (nI n) (nI len) th re nu du ha)) [] [] (kX5_clear g o b c u h x z y ai pa tu tx len s n sv hP hP24 hn6 hnl hl6) gL_law_X5_clear rfl (by show _ ∧ _ ∧ _ ∧ _ = some (0 : Nat); decide +kernel) ⟨(Nat.le_of_ble_eq_true rfl), (Nat.le_of_ble_eq_true rfl)⟩ (hc := (rfl : vwCl[5]? = some (RX5, TX5, 5))) 0 rfl pvG rfl (Nat.le_of_ble_eq_true rfl) ⟨(by have : rmX5_clear.cells ≤ 20 := Nat.le_of_ble_eq_true rfl; show kc + rmX5_clear.cells ≤ 601024; omega), (by have : rmX5_clear.slots ≤ 400 := Nat.le_of_ble_eq_true rfl; show nc + rmX5_clear.slots ≤ 7293034; omega)⟩ dL_law_553 (fun v w q => by obtain ⟨_, sv2, hs, hG⟩ := q; exact hG.1) (fun v w hq => ?_)
  obtain ⟨rfl, sv2, hs, hG⟩ := hq
  refine V.perm (pvH hG.2.symm) ?_
  refine V.eqws (ws2 := (SCW g sa L sc) ++ (OB g ob ff) ++ (GW g o b c u h x (clZ z) y ai pa tu tx len s (svM n + 1) sv2) ++ (MW g a z hi tx aj pj tj pt ke (nI n) (nI len) th re nu du ha)) rfl ?_
  refine V.eqst (st2 := [.int (pT z 1)]) rfl ?_
  refine V.aload_n 2 rfl dL_law_556 rfl ?_
  refine V.callVPf (F := ((SCW g sa L sc) ++ (OB g ob ff)) ++ (GW g o b c u h x (clZ z) y ai pa tu tx len s (svM n + 1) sv2)) (ws2 := (SCW g sa L sc) ++ (OB g ob ff) ++ (GW g o b c u h x (clZ z) y ai pa tu tx len s (svM n + 1) sv2) ++ (MW g a (clZ z) (svA n z hi) tx aj pj tj pt ke (nI (svM n + 1)) (nI len) 0 re nu du ha)) (st2 := [.int (pT z 1), .int (pT z 1)]) [] [.int (pT z 1)] (kX6_clear g a z hi tx aj pj tj pt ke (nI len) th re nu du ha n hP hP24 hn6) gL_law_X6_clear rfl (by show _ ∧ _ ∧ _ ∧ _ = some (0 : Nat); decide +kernel) ⟨(Nat.le_of_ble_eq_true rfl), (Nat.le_of_ble_eq_true rfl)⟩ (hc := (rfl : vwCl[6]? = some (RX6, TX6, 15))) 0 rfl pvM rfl (Nat.le_of_ble_eq_true rfl) ⟨(by have : rmX5_clear.cells ≤ 20 := Nat.le_of_ble_eq_true rfl; show kc + rmX5_clear.cells + 0 ≤ 601024; omega), (by have : rmX5_clear.slots ≤ 400 := Nat.le_of_ble_eq_true rfl; show nc + rmX5_clear.slots + 0 ≤ 7293034; omega)⟩ dL_law_557 MWm pvM.symm rfl rfl rfl ?_
  refine V.icmp_eq_t (tgt := 1529) rfl dL_law_560 (by decide) ?_
  refine V.eqlv (lv2 := [(4, .int (nI i)), (3, .ref ob), (2, .ref (a 0)), (1, .ref o), (0, .ref sa)]) [0, 1, 2, 3, 4] rfl ?_
  refine V.widen (k2 := kc + 20) (n2 := nc + 400) (by have : rmX5_clear.cells ≤ 20 := Nat.le_of_ble_eq_true rfl; show kc + rmX5_clear.cells ≤ kc + 20; omega) (by have : rmX5_clear.slots ≤ 400 := Nat.le_of_ble_eq_true rfl; show nc + rmX5_clear.slots ≤ nc + 400; omega) ?_
  exact hk _ _ _ _ _ _ _ _ _ _ _ _ _ _ _ _ _ _ _ _ _ _ ⟨hz.cl.mo, (hh.save hz hs).mo, hl, hT, hD⟩
set_option maxHeartbeats 4000000 in
set_option maxRecDepth 100000 in
theorem cs_inspect (g : GT) (hst : g.1.stackTraces = false) (QF : QT) (sa ob o : Nat) (b c u h x a : Nat → Nat) (L i K : Nat) (sc : Nat → Int32) (kc nc : Nat) (hkc : kc + 20 ≤ 601024) (hnc : nc + 400 ≤ 7293034) (hiL : i + 6 ≤ L) (hL : L < 2147483648) (hK : K ≤ 590) (ff : Nat → Int64) (z y ai pa tu tx : Nat → Int32) (len : Nat) (s : BS) (n : Nat) (sv : SV) (hi aj pj tj pt ke : Nat → Int32) (th re nu du : Int32) (ha : Int64) (hI : LI K z n sv hi tx len s) (hk : ∀ (ff : Nat → Int64) (z y ai pa tu tx : Nat → Int32) (len : Nat) (s : BS) (n : Nat) (sv : SV) (hi aj pj tj pt ke : Nat → Int32) (th re nu du : Int32) (ha : Int64), LI (K + 1) z n sv hi tx len s → V g rmL_law RL cL_law wsL_law 9 QF (XL sa L sc) (kc + 20) (nc + 400) (SCW g sa L sc ++ OB g ob ff ++ GW g o b c u h x z y ai pa tu tx len s n sv ++ MW g a z hi tx aj pj tj pt ke (nI n) (nI len) th re nu du ha) 1529 [(4, .int (nI i)), (3, .ref ob), (2, .ref (a 0)), (1, .ref o), (0, .ref sa)] []) : V g rmL_law RL cL_law wsL_law 9 QF (XL sa L sc) kc nc ((SCW g sa L sc) ++ (OB g ob ff) ++ (GW g o b c u h x z y ai pa tu tx len s n sv) ++ (MW g a z hi tx aj pj tj pt ke (nI n) (nI len) th re nu du ha)) 689 [(4, .int (nI i)), (3, .ref ob), (2, .ref (a 0)), (1, .ref o), (0, .ref sa)] [] := by
  obtain ⟨hz, hh, hl, hT, hD⟩ := hI
  have hV : TV z := hz.1
  have hF : z 5 = nI (nf z) := hV.1.1
  have hF8 : nf z ≤ 8 := hV.nf
  have hP : z 6 = nI (np z) := hV.1.2.2.1
  have hP24 : np z ≤ 24 := hV.np
  have hn6 : n ≤ 6 := hh.1
  have hnl : n ≤ sv.length := hh.2.1
  have hl6 : sv.length ≤ 6 := hh.2.2.1
  refine V.aload_n 3 rfl dL_law_689 rfl ?_
  refine V.callVP (F := ((SCW g sa L sc) ++ (OB g ob ff)) ++ (MW g a z hi tx aj pj tj pt ke (nI n) (nI len) th re nu du ha)) [] [] (kX5_inspect g o b c u h x z y ai pa tu tx len s n sv hV hn6 hnl hl6) gL_law_X5_inspect rfl (by show _ ∧ _ ∧ _ ∧ _ = some (0 : Nat); decide +kernel) ⟨(Nat.le_of_ble_eq_true rfl), (Nat.le_of_ble_eq_true rfl)⟩ (hc := (rfl : vwCl[5]? = some (RX5, TX5, 5))) 0 rfl pvG rfl (Nat.le_of_ble_eq_true rfl) ⟨(by have : rmX5_inspect.cells ≤ 20 := Nat.le_of_ble_eq_true rfl; show kc + rmX5_inspect.cells ≤ 601024; omega), (by have : rmX5_inspect.slots ≤ 400 := Nat.le_of_ble_eq_true rfl; show nc + rmX5_inspect.slots ≤ 7293034; omega)⟩ dL_law_690 (fun v w q => by obtain ⟨_, sv2, hs, hG⟩ := q; exact hG.1) (fun v w hq => ?_)
  obtain ⟨rfl, sv2, hs, hG⟩ := hq
  refine V.perm (pvH hG.2.symm) ?_
  refine V.eqws (ws2 := (SCW g sa L sc) ++ (OB g ob ff) ++ (GW g o b c u h x (inZ z) y ai pa tu tx len s (svM n + 1) sv2) ++ (MW g a z hi tx aj pj tj pt ke (nI n) (nI len) th re nu du ha)) rfl ?_
  refine V.eqst (st2 := [.int ((inL z).2)]) rfl ?_
  refine V.aload_n 2 rfl dL_law_693 rfl ?_
  refine V.callVPf (F := ((SCW g sa L sc) ++ (OB g ob ff)) ++ (GW g o b c u h x (inZ z) y ai pa tu tx len s (svM n + 1) sv2)) (ws2 := (SCW g sa L sc) ++ (OB g ob ff) ++ (GW g o b c u h x (inZ z) y ai pa tu tx len s (svM n + 1) sv2) ++ (MW g a (inZ z) (svA n z hi) tx aj pj tj pt ke (nI (svM n + 1)) (nI len) 0 re nu du ha)) (st2 := [.int ((inL z).2), .int ((inL z).2)]) [] [.int ((inL z).2)] (kX6_inspect g a z hi tx aj pj tj pt ke (nI len) th re nu du ha n hP hP24 hV.2.2.2.2 hn6) gL_law_X6_inspect rfl (by show _ ∧ _ ∧ _ ∧ _ = some (0 : Nat); decide +kernel) ⟨(Nat.le_of_ble_eq_true rfl), (Nat.le_of_ble_eq_true rfl)⟩ (hc := (rfl : vwCl[6]? = some (RX6, TX6, 15))) 0 rfl pvM rfl (Nat.le_of_ble_eq_true rfl) ⟨(by have : rmX5_inspect.cells ≤ 20 := Nat.le_of_ble_eq_true rfl; show kc + rmX5_inspect.cells + 0 ≤ 601024; omega), (by have : rmX5_inspect.slots ≤ 400 := Nat.le_of_ble_eq_true rfl; show nc + rmX5_inspect.slots + 0 ≤ 7293034; omega)⟩ dL_law_694 MWm pvM.symm rfl rfl rfl ?_
  refine V.icmp_eq_t (tgt := 1529) rfl dL_law_697 (by decide) ?_
  refine V.eqlv (lv2 := [(4, .int (nI i)), (3, .ref ob), (2, .ref (a 0)), (1, .ref o), (0, .ref sa)]) [0, 1, 2, 3, 4] rfl ?_
  refine V.widen (k2 := kc + 20) (n2 := nc + 400) (by have : rmX5_inspect.cells ≤ 20 := Nat.le_of_ble_eq_true rfl; show kc + rmX5_inspect.cells ≤ kc + 20; omega) (by have : rmX5_inspect.slots ≤ 400 := Nat.le_of_ble_eq_true rfl; show nc + rmX5_inspect.slots ≤ nc + 400; omega) ?_
  exact hk _ _ _ _ _ _ _ _ _ _ _ _ _ _ _ _ _ _ _ _ _ _ ⟨hz.inZ.mo, (hh.save hz hs).mo, hl, hT, hD⟩
set_option maxHeartbeats 4000000 in
set_option maxRecDepth 100000 in
theorem cs_clearBuffer (g : GT) (hst : g.1.stackTraces = false) (QF : QT) (sa ob o : Nat) (b c u h x a : Nat → Nat) (L i K : Nat) (sc : Nat → Int32) (kc nc : Nat) (hkc : kc + 20 ≤ 601024) (hnc : nc + 400 ≤ 7293034) (hiL : i + 6 ≤ L) (hL : L < 2147483648) (hK : K ≤ 590) (ff : Nat → Int64) (z y ai pa tu tx : Nat → Int32) (len : Nat) (s : BS) (n : Nat) (sv : SV) (hi aj pj tj pt ke : Nat → Int32) (th re nu du : Int32) (ha : Int64) (hI : LI K z n sv hi tx len s) (hk : ∀ (ff : Nat → Int64) (z y ai pa tu tx : Nat → Int32) (len : Nat) (s : BS) (n : Nat) (sv : SV) (hi aj pj tj pt ke : Nat → Int32) (th re nu du : Int32) (ha : Int64), LI (K + 1) z n sv hi tx len s → V g rmL_law RL cL_law wsL_law 9 QF (XL sa L sc) (kc + 20) (nc + 400) (SCW g sa L sc ++ OB g ob ff ++ GW g o b c u h x z y ai pa tu tx len s n sv ++ MW g a z hi tx aj pj tj pt ke (nI n) (nI len) th re nu du ha) 1529 [(4, .int (nI i)), (3, .ref ob), (2, .ref (a 0)), (1, .ref o), (0, .ref sa)] []) : V g rmL_law RL cL_law wsL_law 9 QF (XL sa L sc) kc nc ((SCW g sa L sc) ++ (OB g ob ff) ++ (GW g o b c u h x z y ai pa tu tx len s n sv) ++ (MW g a z hi tx aj pj tj pt ke (nI n) (nI len) th re nu du ha)) 758 [(4, .int (nI i)), (3, .ref ob), (2, .ref (a 0)), (1, .ref o), (0, .ref sa)] [] := by
  obtain ⟨hz, hh, hl, hT, hD⟩ := hI
  have hV : TV z := hz.1
  have hF : z 5 = nI (nf z) := hV.1.1
  have hF8 : nf z ≤ 8 := hV.nf
  have hP : z 6 = nI (np z) := hV.1.2.2.1
  have hP24 : np z ≤ 24 := hV.np
  have hn6 : n ≤ 6 := hh.1
  have hnl : n ≤ sv.length := hh.2.1
  have hl6 : sv.length ≤ 6 := hh.2.2.1
  refine V.aload_n 3 rfl dL_law_758 rfl ?_
  refine V.callVP (F := ((SCW g sa L sc) ++ (OB g ob ff)) ++ (MW g a z hi tx aj pj tj pt ke (nI n) (nI len) th re nu du ha)) [] [] (kX5_clearBuffer g o b c u h x z y ai pa tu tx len s n sv ) gL_law_X5_clearBuffer rfl (by show _ ∧ _ ∧ _ ∧ _ = some (0 : Nat); decide +kernel) ⟨(Nat.le_of_ble_eq_true rfl), (Nat.le_of_ble_eq_true rfl)⟩ (hc := (rfl : vwCl[5]? = some (RX5, TX5, 5))) 0 rfl pvG rfl (Nat.le_of_ble_eq_true rfl) ⟨(by have : rmX5_clearBuffer.cells ≤ 20 := Nat.le_of_ble_eq_true rfl; show kc + rmX5_clearBuffer.cells ≤ 601024; omega), (by have : rmX5_clearBuffer.slots ≤ 400 := Nat.le_of_ble_eq_true rfl; show nc + rmX5_clearBuffer.slots ≤ 7293034; omega)⟩ dL_law_759 (fun v w q => by obtain ⟨_, hG⟩ := q; exact by rw [hG]; exact FST.of GW_fe) (fun v w hq => ?_)
  obtain ⟨rfl, hG⟩ := hq
  subst hG
  refine V.perm (pvH (List.Perm.refl _)) ?_
  refine V.eqws (ws2 := (SCW g sa L sc) ++ (OB g ob ff) ++ (GW g o b c u h x z y ai pa tu tx 0 s n sv) ++ (MW g a z hi tx aj pj tj pt ke (nI n) (nI len) th re nu du ha)) rfl ?_
  refine V.eqst (st2 := [.int (nI len)]) rfl ?_
  refine V.aload_n 2 rfl dL_law_762 rfl ?_
  refine V.callVPf (F := ((SCW g sa L sc) ++ (OB g ob ff)) ++ (GW g o b c u h x z y ai pa tu tx 0 s n sv)) (ws2 := (SCW g sa L sc) ++ (OB g ob ff) ++ (GW g o b c u h x z y ai pa tu tx 0 s n sv) ++ (MW g a z hi tx aj pj tj pt ke (nI n) 0 0 re nu du ha)) (st2 := [.int (nI len), .int (nI len)]) [] [.int (nI len)] (kX6_clearBuffer g a z hi tx aj pj tj pt ke (nI n) th re nu du ha len) gL_law_X6_clearBuffer rfl (by show _ ∧ _ ∧ _ ∧ _ = some (0 : Nat); decide +kernel) ⟨(Nat.le_of_ble_eq_true rfl), (Nat.le_of_ble_eq_true rfl)⟩ (hc := (rfl : vwCl[6]? = some (RX6, TX6, 15))) 0 rfl pvM rfl (Nat.le_of_ble_eq_true rfl) ⟨(by have : rmX5_clearBuffer.cells ≤ 20 := Nat.le_of_ble_eq_true rfl; show kc + rmX5_clearBuffer.cells + 0 ≤ 601024; omega), (by have : rmX5_clearBuffer.slots ≤ 400 := Nat.le_of_ble_eq_true rfl; show nc + rmX5_clearBuffer.slots + 0 ≤ 7293034; omega)⟩ dL_law_763 MWm pvM.symm rfl rfl rfl ?_
  refine V.icmp_eq_t (tgt := 1529) rfl dL_law_766 (by decide) ?_
  refine V.eqlv (lv2 := [(4, .int (nI i)), (3, .ref ob), (2, .ref (a 0)), (1, .ref o), (0, .ref sa)]) [0, 1, 2, 3, 4] rfl ?_
  refine V.widen (k2 := kc + 20) (n2 := nc + 400) (by have : rmX5_clearBuffer.cells ≤ 20 := Nat.le_of_ble_eq_true rfl; show kc + rmX5_clearBuffer.cells ≤ kc + 20; omega) (by have : rmX5_clearBuffer.slots ≤ 400 := Nat.le_of_ble_eq_true rfl; show nc + rmX5_clearBuffer.slots ≤ nc + 400; omega) ?_
  exact hk _ _ _ _ _ _ _ _ _ _ _ _ _ _ _ _ _ _ _ _ _ _ ⟨hz.mo, hh.mo, by omega, fun j hj => absurd hj (Nat.not_lt_zero _), hD⟩
set_option maxHeartbeats 4000000 in
set_option maxRecDepth 100000 in
theorem cs_firstError (g : GT) (hst : g.1.stackTraces = false) (QF : QT) (sa ob o : Nat) (b c u h x a : Nat → Nat) (L i K : Nat) (sc : Nat → Int32) (kc nc : Nat) (hkc : kc + 20 ≤ 601024) (hnc : nc + 400 ≤ 7293034) (hiL : i + 6 ≤ L) (hL : L < 2147483648) (hK : K ≤ 590) (ff : Nat → Int64) (z y ai pa tu tx : Nat → Int32) (len : Nat) (s : BS) (n : Nat) (sv : SV) (hi aj pj tj pt ke : Nat → Int32) (th re nu du : Int32) (ha : Int64) (hI : LI K z n sv hi tx len s) (hk : ∀ (ff : Nat → Int64) (z y ai pa tu tx : Nat → Int32) (len : Nat) (s : BS) (n : Nat) (sv : SV) (hi aj pj tj pt ke : Nat → Int32) (th re nu du : Int32) (ha : Int64), LI (K + 1) z n sv hi tx len s → V g rmL_law RL cL_law wsL_law 9 QF (XL sa L sc) (kc + 20) (nc + 400) (SCW g sa L sc ++ OB g ob ff ++ GW g o b c u h x z y ai pa tu tx len s n sv ++ MW g a z hi tx aj pj tj pt ke (nI n) (nI len) th re nu du ha) 1529 [(4, .int (nI i)), (3, .ref ob), (2, .ref (a 0)), (1, .ref o), (0, .ref sa)] []) : V g rmL_law RL cL_law wsL_law 9 QF (XL sa L sc) kc nc ((SCW g sa L sc) ++ (OB g ob ff) ++ (GW g o b c u h x z y ai pa tu tx len s n sv) ++ (MW g a z hi tx aj pj tj pt ke (nI n) (nI len) th re nu du ha)) 771 [(4, .int (nI i)), (3, .ref ob), (2, .ref (a 0)), (1, .ref o), (0, .ref sa)] [] := by
  obtain ⟨hz, hh, hl, hT, hD⟩ := hI
  have hV : TV z := hz.1
  have hF : z 5 = nI (nf z) := hV.1.1
  have hF8 : nf z ≤ 8 := hV.nf
  have hP : z 6 = nI (np z) := hV.1.2.2.1
  have hP24 : np z ≤ 24 := hV.np
  have hn6 : n ≤ 6 := hh.1
  have hnl : n ≤ sv.length := hh.2.1
  have hl6 : sv.length ≤ 6 := hh.2.2.1
  refine V.aload_n 3 rfl dL_law_771 rfl ?_
  refine V.callVP (F := ((SCW g sa L sc) ++ (OB g ob ff)) ++ (MW g a z hi tx aj pj tj pt ke (nI n) (nI len) th re nu du ha)) [] [] (kX5_firstError g o b c u h x z y ai pa tu tx len s n sv hl hD) gL_law_X5_firstError rfl (by show _ ∧ _ ∧ _ ∧ _ = some (0 : Nat); decide +kernel) ⟨(Nat.le_of_ble_eq_true rfl), (Nat.le_of_ble_eq_true rfl)⟩ (hc := (rfl : vwCl[5]? = some (RX5, TX5, 5))) 0 rfl pvG rfl (Nat.le_of_ble_eq_true rfl) ⟨(by have : rmX5_firstError.cells ≤ 20 := Nat.le_of_ble_eq_true rfl; show kc + rmX5_firstError.cells ≤ 601024; omega), (by have : rmX5_firstError.slots ≤ 400 := Nat.le_of_ble_eq_true rfl; show nc + rmX5_firstError.slots ≤ 7293034; omega)⟩ dL_law_772 (fun v w q => by obtain ⟨_, hG⟩ := q; exact by rw [hG]; exact FST.of GW_fe) (fun v w hq => ?_)
  obtain ⟨rfl, hG⟩ := hq
  subst hG
  refine V.perm (pvH (List.Perm.refl _)) ?_
  refine V.eqws (ws2 := (SCW g sa L sc) ++ (OB g ob ff) ++ (GW g o b c u h x z y ai pa tu tx len ((beA tx len s).2) n sv) ++ (MW g a z hi tx aj pj tj pt ke (nI n) (nI len) th re nu du ha)) rfl ?_
  refine V.eqst (st2 := [.int (nI (beA tx len s).1)]) rfl ?_
  refine V.aload_n 2 rfl dL_law_775 rfl ?_
  refine V.callVPf (F := ((SCW g sa L sc) ++ (OB g ob ff)) ++ (GW g o b c u h x z y ai pa tu tx len ((beA tx len s).2) n sv)) (ws2 := (SCW g sa L sc) ++ (OB g ob ff) ++ (GW g o b c u h x z y ai pa tu tx len ((beA tx len s).2) n sv) ++ (MW g a z hi tx aj pj tj ((ruA tx len pt nu).2.1) ke (nI n) (nI len) 0 (nI ((ruA tx len pt nu).2.2.1)) ((ruA tx len pt nu).2.2.2.1) (nI ((ruA tx len pt nu).2.2.2.2)) ha)) (st2 := [.int (nI ((ruA tx len pt nu).1)), .int (nI (beA tx len s).1)]) [] [.int (nI (beA tx len s).1)] (kX6_firstError g a z hi tx aj pj tj pt ke (nI n) th re nu du ha len hl) gL_law_X6_firstError rfl (by show _ ∧ _ ∧ _ ∧ _ = some (0 : Nat); decide +kernel) ⟨(Nat.le_of_ble_eq_true rfl), (Nat.le_of_ble_eq_true rfl)⟩ (hc := (rfl : vwCl[6]? = some (RX6, TX6, 15))) 0 rfl pvM rfl (Nat.le_of_ble_eq_true rfl) ⟨(by have : rmX5_firstError.cells ≤ 20 := Nat.le_of_ble_eq_true rfl; show kc + rmX5_firstError.cells + 0 ≤ 601024; omega), (by have : rmX5_firstError.slots ≤ 400 := Nat.le_of_ble_eq_true rfl; show nc + rmX5_firstError.slots + 0 ≤ 7293034; omega)⟩ dL_law_776 MWm pvM.symm rfl rfl rfl ?_
  refine V.icmp_eq_t (tgt := 1529) (congrArg nI (beA_ru (s := s) (pt := pt) (nu := nu) hT).1) dL_law_779 (by decide) ?_
  refine V.eqlv (lv2 := [(4, .int (nI i)), (3, .ref ob), (2, .ref (a 0)), (1, .ref o), (0, .ref sa)]) [0, 1, 2, 3, 4] rfl ?_
  refine V.widen (k2 := kc + 20) (n2 := nc + 400) (by have : rmX5_firstError.cells ≤ 20 := Nat.le_of_ble_eq_true rfl; show kc + rmX5_firstError.cells ≤ kc + 20; omega) (by have : rmX5_firstError.slots ≤ 400 := Nat.le_of_ble_eq_true rfl; show nc + rmX5_firstError.slots ≤ nc + 400; omega) ?_
  exact hk _ _ _ _ _ _ _ _ _ _ _ _ _ _ _ _ _ _ _ _ _ _ ⟨hz.mo, hh.mo, hl, hT, (beA_BV hl hD).2⟩
set_option maxHeartbeats 4000000 in
set_option maxRecDepth 100000 in
theorem cs_needed (g : GT) (hst : g.1.stackTraces = false) (QF : QT) (sa ob o : Nat) (b c u h x a : Nat → Nat) (L i K : Nat) (sc : Nat → Int32) (kc nc : Nat) (hkc : kc + 20 ≤ 601024) (hnc : nc + 400 ≤ 7293034) (hiL : i + 6 ≤ L) (hL : L < 2147483648) (hK : K ≤ 590) (ff : Nat → Int64) (z y ai pa tu tx : Nat → Int32) (len : Nat) (s : BS) (n : Nat) (sv : SV) (hi aj pj tj pt ke : Nat → Int32) (th re nu du : Int32) (ha : Int64) (hI : LI K z n sv hi tx len s) (hk : ∀ (ff : Nat → Int64) (z y ai pa tu tx : Nat → Int32) (len : Nat) (s : BS) (n : Nat) (sv : SV) (hi aj pj tj pt ke : Nat → Int32) (th re nu du : Int32) (ha : Int64), LI (K + 1) z n sv hi tx len s → V g rmL_law RL cL_law wsL_law 9 QF (XL sa L sc) (kc + 20) (nc + 400) (SCW g sa L sc ++ OB g ob ff ++ GW g o b c u h x z y ai pa tu tx len s n sv ++ MW g a z hi tx aj pj tj pt ke (nI n) (nI len) th re nu du ha) 1529 [(4, .int (nI i)), (3, .ref ob), (2, .ref (a 0)), (1, .ref o), (0, .ref sa)] []) : V g rmL_law RL cL_law wsL_law 9 QF (XL sa L sc) kc nc ((SCW g sa L sc) ++ (OB g ob ff) ++ (GW g o b c u h x z y ai pa tu tx len s n sv) ++ (MW g a z hi tx aj pj tj pt ke (nI n) (nI len) th re nu du ha)) 1448 [(4, .int (nI i)), (3, .ref ob), (2, .ref (a 0)), (1, .ref o), (0, .ref sa)] [] := by
  obtain ⟨hz, hh, hl, hT, hD⟩ := hI
  have hV : TV z := hz.1
  have hF : z 5 = nI (nf z) := hV.1.1
  have hF8 : nf z ≤ 8 := hV.nf
  have hP : z 6 = nI (np z) := hV.1.2.2.1
  have hP24 : np z ≤ 24 := hV.np
  have hn6 : n ≤ 6 := hh.1
  have hnl : n ≤ sv.length := hh.2.1
  have hl6 : sv.length ≤ 6 := hh.2.2.1
  refine V.aload_n 3 rfl dL_law_1448 rfl ?_
  refine V.callVP (F := ((SCW g sa L sc) ++ (OB g ob ff)) ++ (MW g a z hi tx aj pj tj pt ke (nI n) (nI len) th re nu du ha)) [] [] (kX5_needed g o b c u h x z y ai pa tu tx len s n sv hV) gL_law_X5_needed rfl (by show _ ∧ _ ∧ _ ∧ _ = some (0 : Nat); decide +kernel) ⟨(Nat.le_of_ble_eq_true rfl), (Nat.le_of_ble_eq_true rfl)⟩ (hc := (rfl : vwCl[5]? = some (RX5, TX5, 5))) 0 rfl pvG rfl (Nat.le_of_ble_eq_true rfl) ⟨(by have : rmX5_needed.cells ≤ 20 := Nat.le_of_ble_eq_true rfl; show kc + rmX5_needed.cells ≤ 601024; omega), (by have : rmX5_needed.slots ≤ 400 := Nat.le_of_ble_eq_true rfl; show nc + rmX5_needed.slots ≤ 7293034; omega)⟩ dL_law_1449 (fun v w q => by obtain ⟨_, hG⟩ := q; exact by rw [hG]; exact FST.of GW_fe) (fun v w hq => ?_)
  obtain ⟨rfl, hG⟩ := hq
  subst hG
  refine V.perm (pvH (List.Perm.refl _)) ?_
  refine V.eqws (ws2 := (SCW g sa L sc) ++ (OB g ob ff) ++ (GW g o b c u h x z ((ncA (z, ai, pa, tu)).2.1) ((ncA (z, ai, pa, tu)).2.2.1) ((ncA (z, ai, pa, tu)).2.2.2.1) ((ncA (z, ai, pa, tu)).2.2.2.2) tx len s n sv) ++ (MW g a z hi tx aj pj tj pt ke (nI n) (nI len) th re nu du ha)) rfl ?_
  refine V.eqst (st2 := [.int (en (ncA (z, ai, pa, tu)).1)]) rfl ?_
  refine V.aload_n 2 rfl dL_law_1452 rfl ?_
  refine V.callVPf (F := ((SCW g sa L sc) ++ (OB g ob ff)) ++ (GW g o b c u h x z ((ncA (z, ai, pa, tu)).2.1) ((ncA (z, ai, pa, tu)).2.2.1) ((ncA (z, ai, pa, tu)).2.2.2.1) ((ncA (z, ai, pa, tu)).2.2.2.2) tx len s n sv)) (ws2 := (SCW g sa L sc) ++ (OB g ob ff) ++ (GW g o b c u h x z ((ncA (z, ai, pa, tu)).2.1) ((ncA (z, ai, pa, tu)).2.2.1) ((ncA (z, ai, pa, tu)).2.2.2.1) ((ncA (z, ai, pa, tu)).2.2.2.2) tx len s n sv) ++ (MW g a z hi tx ((ndA (z, aj, pj, tj)).2.2.1) ((ndA (z, aj, pj, tj)).2.2.2.1) ((ndA (z, aj, pj, tj)).2.2.2.2) pt (fu (cpF z) 0 248 ke) (nI n) (nI len) 0 re nu du ha)) (st2 := [.int (en (ndA (z, aj, pj, tj)).1), .int (en (ncA (z, ai, pa, tu)).1)]) [] [.int (en (ncA (z, ai, pa, tu)).1)] (kX6_needed g a z hi tx aj pj tj pt ke (nI n) (nI len) th re nu du ha hV.1 hV.2.2.2.2) gL_law_X6_needed rfl (by show _ ∧ _ ∧ _ ∧ _ = some (0 : Nat); decide +kernel) ⟨(Nat.le_of_ble_eq_true rfl), (Nat.le_of_ble_eq_true rfl)⟩ (hc := (rfl : vwCl[6]? = some (RX6, TX6, 15))) 0 rfl pvM rfl (Nat.le_of_ble_eq_true rfl) ⟨(by have : rmX5_needed.cells ≤ 20 := Nat.le_of_ble_eq_true rfl; show kc + rmX5_needed.cells + 0 ≤ 601024; omega), (by have : rmX5_needed.slots ≤ 400 := Nat.le_of_ble_eq_true rfl; show nc + rmX5_needed.slots + 0 ≤ 7293034; omega)⟩ dL_law_1453 MWm pvM.symm rfl rfl rfl ?_
  refine V.icmp_eq_t (tgt := 1529) (congrArg en (ncA_eq (s := (z, ai, pa, tu)) (s' := (z, aj, pj, tj)) rfl)) dL_law_1456 (by decide) ?_
  refine V.eqlv (lv2 := [(4, .int (nI i)), (3, .ref ob), (2, .ref (a 0)), (1, .ref o), (0, .ref sa)]) [0, 1, 2, 3, 4] rfl ?_
  refine V.widen (k2 := kc + 20) (n2 := nc + 400) (by have : rmX5_needed.cells ≤ 20 := Nat.le_of_ble_eq_true rfl; show kc + rmX5_needed.cells ≤ kc + 20; omega) (by have : rmX5_needed.slots ≤ 400 := Nat.le_of_ble_eq_true rfl; show nc + rmX5_needed.slots ≤ nc + 400; omega) ?_
  exact hk _ _ _ _ _ _ _ _ _ _ _ _ _ _ _ _ _ _ _ _ _ _ ⟨hz.mo, hh.mo, hl, hT, hD⟩
set_option maxHeartbeats 4000000 in
set_option maxRecDepth 100000 in
theorem cs_rumored (g : GT) (hst : g.1.stackTraces = false) (QF : QT) (sa ob o : Nat) (b c u h x a : Nat → Nat) (L i K : Nat) (sc : Nat → Int32) (kc nc : Nat) (hkc : kc + 20 ≤ 601024) (hnc : nc + 400 ≤ 7293034) (hiL : i + 6 ≤ L) (hL : L < 2147483648) (hK : K ≤ 590) (ff : Nat → Int64) (z y ai pa tu tx : Nat → Int32) (len : Nat) (s : BS) (n : Nat) (sv : SV) (hi aj pj tj pt ke : Nat → Int32) (th re nu du : Int32) (ha : Int64) (hI : LI K z n sv hi tx len s) (hk : ∀ (ff : Nat → Int64) (z y ai pa tu tx : Nat → Int32) (len : Nat) (s : BS) (n : Nat) (sv : SV) (hi aj pj tj pt ke : Nat → Int32) (th re nu du : Int32) (ha : Int64), LI (K + 1) z n sv hi tx len s → V g rmL_law RL cL_law wsL_law 9 QF (XL sa L sc) (kc + 20) (nc + 400) (SCW g sa L sc ++ OB g ob ff ++ GW g o b c u h x z y ai pa tu tx len s n sv ++ MW g a z hi tx aj pj tj pt ke (nI n) (nI len) th re nu du ha) 1529 [(4, .int (nI i)), (3, .ref ob), (2, .ref (a 0)), (1, .ref o), (0, .ref sa)] []) : V g rmL_law RL cL_law wsL_law 9 QF (XL sa L sc) kc nc ((SCW g sa L sc) ++ (OB g ob ff) ++ (GW g o b c u h x z y ai pa tu tx len s n sv) ++ (MW g a z hi tx aj pj tj pt ke (nI n) (nI len) th re nu du ha)) 1461 [(4, .int (nI i)), (3, .ref ob), (2, .ref (a 0)), (1, .ref o), (0, .ref sa)] [] := by
  obtain ⟨hz, hh, hl, hT, hD⟩ := hI
  have hV : TV z := hz.1
  have hF : z 5 = nI (nf z) := hV.1.1
  have hF8 : nf z ≤ 8 := hV.nf
  have hP : z 6 = nI (np z) := hV.1.2.2.1
  have hP24 : np z ≤ 24 := hV.np
  have hn6 : n ≤ 6 := hh.1
  have hnl : n ≤ sv.length := hh.2.1
  have hl6 : sv.length ≤ 6 := hh.2.2.1
  refine V.aload_n 3 rfl dL_law_1461 rfl ?_
  refine V.callVP (F := ((SCW g sa L sc) ++ (OB g ob ff)) ++ (MW g a z hi tx aj pj tj pt ke (nI n) (nI len) th re nu du ha)) [] [] (kX5_rumored g o b c u h x z y ai pa tu tx len s n sv hF hF8 hV.2.1.2.2.2.2) gL_law_X5_rumored rfl (by show _ ∧ _ ∧ _ ∧ _ = some (0 : Nat); decide +kernel) ⟨(Nat.le_of_ble_eq_true rfl), (Nat.le_of_ble_eq_true rfl)⟩ (hc := (rfl : vwCl[5]? = some (RX5, TX5, 5))) 0 rfl pvG rfl (Nat.le_of_ble_eq_true rfl) ⟨(by have : rmX5_rumored.cells ≤ 20 := Nat.le_of_ble_eq_true rfl; show kc + rmX5_rumored.cells ≤ 601024; omega), (by have : rmX5_rumored.slots ≤ 400 := Nat.le_of_ble_eq_true rfl; show nc + rmX5_rumored.slots ≤ 7293034; omega)⟩ dL_law_1462 (fun v w q => by obtain ⟨_, hG⟩ := q; exact by rw [hG]; exact FST.of GW_fe) (fun v w hq => ?_)
  obtain ⟨rfl, hG⟩ := hq
  subst hG
  refine V.perm (pvH (List.Perm.refl _)) ?_
  refine V.eqws (ws2 := (SCW g sa L sc) ++ (OB g ob ff) ++ (GW g o b c u h x z y ai pa tu tx len s n sv) ++ (MW g a z hi tx aj pj tj pt ke (nI n) (nI len) th re nu du ha)) rfl ?_
  refine V.eqst (st2 := [.int (en (rmd z))]) rfl ?_
  refine V.aload_n 2 rfl dL_law_1465 rfl ?_
  refine V.callVPf (F := ((SCW g sa L sc) ++ (OB g ob ff)) ++ (GW g o b c u h x z y ai pa tu tx len s n sv)) (ws2 := (SCW g sa L sc) ++ (OB g ob ff) ++ (GW g o b c u h x z y ai pa tu tx len s n sv) ++ (MW g a z hi tx aj pj tj pt ke (nI n) (nI len) 0 re nu du ha)) (st2 := [.int (en (rmd z)), .int (en (rmd z))]) [] [.int (en (rmd z))] (kX6_rumored g a z hi tx aj pj tj pt ke (nI n) (nI len) th re nu du ha hF hF8) gL_law_X6_rumored rfl (by show _ ∧ _ ∧ _ ∧ _ = some (0 : Nat); decide +kernel) ⟨(Nat.le_of_ble_eq_true rfl), (Nat.le_of_ble_eq_true rfl)⟩ (hc := (rfl : vwCl[6]? = some (RX6, TX6, 15))) 0 rfl pvM rfl (Nat.le_of_ble_eq_true rfl) ⟨(by have : rmX5_rumored.cells ≤ 20 := Nat.le_of_ble_eq_true rfl; show kc + rmX5_rumored.cells + 0 ≤ 601024; omega), (by have : rmX5_rumored.slots ≤ 400 := Nat.le_of_ble_eq_true rfl; show nc + rmX5_rumored.slots + 0 ≤ 7293034; omega)⟩ dL_law_1466 MWm pvM.symm rfl rfl rfl ?_
  refine V.icmp_eq_t (tgt := 1529) rfl dL_law_1469 (by decide) ?_
  refine V.eqlv (lv2 := [(4, .int (nI i)), (3, .ref ob), (2, .ref (a 0)), (1, .ref o), (0, .ref sa)]) [0, 1, 2, 3, 4] rfl ?_
  refine V.widen (k2 := kc + 20) (n2 := nc + 400) (by have : rmX5_rumored.cells ≤ 20 := Nat.le_of_ble_eq_true rfl; show kc + rmX5_rumored.cells ≤ kc + 20; omega) (by have : rmX5_rumored.slots ≤ 400 := Nat.le_of_ble_eq_true rfl; show nc + rmX5_rumored.slots ≤ nc + 400; omega) ?_
  exact hk _ _ _ _ _ _ _ _ _ _ _ _ _ _ _ _ _ _ _ _ _ _ ⟨hz.mo, hh.mo, hl, hT, hD⟩
set_option maxHeartbeats 4000000 in
set_option maxRecDepth 100000 in
theorem cs_missShare (g : GT) (hst : g.1.stackTraces = false) (QF : QT) (sa ob o : Nat) (b c u h x a : Nat → Nat) (L i K : Nat) (sc : Nat → Int32) (kc nc : Nat) (hkc : kc + 20 ≤ 601024) (hnc : nc + 400 ≤ 7293034) (hiL : i + 6 ≤ L) (hL : L < 2147483648) (hK : K ≤ 590) (ff : Nat → Int64) (z y ai pa tu tx : Nat → Int32) (len : Nat) (s : BS) (n : Nat) (sv : SV) (hi aj pj tj pt ke : Nat → Int32) (th re nu du : Int32) (ha : Int64) (hI : LI K z n sv hi tx len s) (hk : ∀ (ff : Nat → Int64) (z y ai pa tu tx : Nat → Int32) (len : Nat) (s : BS) (n : Nat) (sv : SV) (hi aj pj tj pt ke : Nat → Int32) (th re nu du : Int32) (ha : Int64), LI (K + 1) z n sv hi tx len s → V g rmL_law RL cL_law wsL_law 9 QF (XL sa L sc) (kc + 20) (nc + 400) (SCW g sa L sc ++ OB g ob ff ++ GW g o b c u h x z y ai pa tu tx len s n sv ++ MW g a z hi tx aj pj tj pt ke (nI n) (nI len) th re nu du ha) 1529 [(4, .int (nI i)), (3, .ref ob), (2, .ref (a 0)), (1, .ref o), (0, .ref sa)] []) : V g rmL_law RL cL_law wsL_law 9 QF (XL sa L sc) kc nc ((SCW g sa L sc) ++ (OB g ob ff) ++ (GW g o b c u h x z y ai pa tu tx len s n sv) ++ (MW g a z hi tx aj pj tj pt ke (nI n) (nI len) th re nu du ha)) 1474 [(4, .int (nI i)), (3, .ref ob), (2, .ref (a 0)), (1, .ref o), (0, .ref sa)] [] := by
  obtain ⟨hz, hh, hl, hT, hD⟩ := hI
  have hV : TV z := hz.1
  have hF : z 5 = nI (nf z) := hV.1.1
  have hF8 : nf z ≤ 8 := hV.nf
  have hP : z 6 = nI (np z) := hV.1.2.2.1
  have hP24 : np z ≤ 24 := hV.np
  have hn6 : n ≤ 6 := hh.1
  have hnl : n ≤ sv.length := hh.2.1
  have hl6 : sv.length ≤ 6 := hh.2.2.1
  have hSH := hz.SHs (by omega : K ≤ 600)
  refine V.aload_n 3 rfl dL_law_1474 rfl ?_
  refine V.callVP (F := ((SCW g sa L sc) ++ (OB g ob ff)) ++ (MW g a z hi tx aj pj tj pt ke (nI n) (nI len) th re nu du ha)) [] [] (kX5_missShare g o b c u h x z y ai pa tu tx len s n sv (hz.ne (by omega)) (hz.sh (by omega)).1) gL_law_X5_missShare rfl (by show _ ∧ _ ∧ _ ∧ _ = some (0 : Nat); decide +kernel) ⟨(Nat.le_of_ble_eq_true rfl), (Nat.le_of_ble_eq_true rfl)⟩ (hc := (rfl : vwCl[5]? = some (RX5, TX5, 5))) 0 rfl pvG rfl (Nat.le_of_ble_eq_true rfl) ⟨(by have : rmX5_missShare.cells ≤ 20 := Nat.le_of_ble_eq_true rfl; show kc + rmX5_missShare.cells ≤ 601024; omega), (by have : rmX5_missShare.slots ≤ 400 := Nat.le_of_ble_eq_true rfl; show nc + rmX5_missShare.slots ≤ 7293034; omega)⟩ dL_law_1475 (fun v w q => by obtain ⟨_, hG⟩ := q; exact by rw [hG]; exact FST.of GW_fe) (fun v w hq => ?_)
  obtain ⟨rfl, hG⟩ := hq
  subst hG
  refine V.perm (pvH (List.Perm.refl _)) ?_
  refine V.eqws (ws2 := (SCW g sa L sc) ++ (OB g ob ff) ++ (GW g o b c u h x z y ai pa tu tx len s n sv) ++ (MW g a z hi tx aj pj tj pt ke (nI n) (nI len) th re nu du ha)) rfl ?_
  refine V.eqst (st2 := [.double (shr z)]) rfl ?_
  refine V.dstore (lv2 := [(5, .double (shr z)), (4, .int (nI i)), (3, .ref ob), (2, .ref (a 0)), (1, .ref o), (0, .ref sa)]) dL_law_1478 (by decide) rfl ?_
  refine V.aload_n 3 rfl dL_law_1480 rfl ?_
  refine V.callVPf (F := ((SCW g sa L sc) ++ (OB g ob ff)) ++ (GW g o b c u h x z y ai pa tu tx len s n sv)) (ws2 := (SCW g sa L sc) ++ (OB g ob ff) ++ (GW g o b c u h x z y ai pa tu tx len s n sv) ++ (MW g a z hi tx aj pj tj pt ke (nI n) (nI len) 0 re nu du ha)) (st2 := [.double (shr z)]) [] [] (kX6_missShare g a z hi tx aj pj tj pt ke (nI n) (nI len) th re nu du ha (hz.ne (by omega))) gL_law_X6_missShare rfl (by show _ ∧ _ ∧ _ ∧ _ = some (0 : Nat); decide +kernel) ⟨(Nat.le_of_ble_eq_true rfl), (Nat.le_of_ble_eq_true rfl)⟩ (hc := (rfl : vwCl[6]? = some (RX6, TX6, 15))) 0 rfl pvM rfl (Nat.le_of_ble_eq_true rfl) ⟨(by have : rmX5_missShare.cells ≤ 20 := Nat.le_of_ble_eq_true rfl; show kc + rmX5_missShare.cells + 0 ≤ 601024; omega), (by have : rmX5_missShare.slots ≤ 400 := Nat.le_of_ble_eq_true rfl; show nc + rmX5_missShare.slots + 0 ≤ 7293034; omega)⟩ dL_law_1481 MWm pvM.symm rfl rfl rfl ?_
  refine V.dstore (lv2 := [(7, .double (shr z)), (5, .double (shr z)), (4, .int (nI i)), (3, .ref ob), (2, .ref (a 0)), (1, .ref o), (0, .ref sa)]) dL_law_1484 (by decide) rfl ?_
  refine V.dload 1 rfl dL_law_1486 ?_
  refine V.dload 0 rfl dL_law_1488 ?_
  refine V.dcmp dL_law_1490 ?_
  refine V.eqst (st2 := [.int 0]) (by rw [SH.eq hSH]) ?_
  refine V.if_eq_t (tgt := 1512) rfl dL_law_1491 (by decide) ?_
  refine V.goto (tgt := 1529) dL_law_1512 (by decide) ?_
  refine V.eqlv (lv2 := [(4, .int (nI i)), (3, .ref ob), (2, .ref (a 0)), (1, .ref o), (0, .ref sa)]) [2, 3, 4, 5, 6] rfl ?_
  refine V.widen (k2 := kc + 20) (n2 := nc + 400) (by have : rmX5_missShare.cells ≤ 20 := Nat.le_of_ble_eq_true rfl; show kc + rmX5_missShare.cells ≤ kc + 20; omega) (by have : rmX5_missShare.slots ≤ 400 := Nat.le_of_ble_eq_true rfl; show nc + rmX5_missShare.slots ≤ nc + 400; omega) ?_
  exact hk _ _ _ _ _ _ _ _ _ _ _ _ _ _ _ _ _ _ _ _ _ _ ⟨hz.mo, hh.mo, hl, hT, hD⟩
set_option maxHeartbeats 4000000 in
set_option maxRecDepth 100000 in
theorem cs_digest (g : GT) (hst : g.1.stackTraces = false) (QF : QT) (sa ob o : Nat) (b c u h x a : Nat → Nat) (L i K : Nat) (sc : Nat → Int32) (kc nc : Nat) (hkc : kc + 20 ≤ 601024) (hnc : nc + 400 ≤ 7293034) (hiL : i + 6 ≤ L) (hL : L < 2147483648) (hK : K ≤ 590) (ff : Nat → Int64) (z y ai pa tu tx : Nat → Int32) (len : Nat) (s : BS) (n : Nat) (sv : SV) (hi aj pj tj pt ke : Nat → Int32) (th re nu du : Int32) (ha : Int64) (hI : LI K z n sv hi tx len s) (hk : ∀ (ff : Nat → Int64) (z y ai pa tu tx : Nat → Int32) (len : Nat) (s : BS) (n : Nat) (sv : SV) (hi aj pj tj pt ke : Nat → Int32) (th re nu du : Int32) (ha : Int64), LI (K + 1) z n sv hi tx len s → V g rmL_law RL cL_law wsL_law 9 QF (XL sa L sc) (kc + 20) (nc + 400) (SCW g sa L sc ++ OB g ob ff ++ GW g o b c u h x z y ai pa tu tx len s n sv ++ MW g a z hi tx aj pj tj pt ke (nI n) (nI len) th re nu du ha) 1529 [(4, .int (nI i)), (3, .ref ob), (2, .ref (a 0)), (1, .ref o), (0, .ref sa)] []) : V g rmL_law RL cL_law wsL_law 9 QF (XL sa L sc) kc nc ((SCW g sa L sc) ++ (OB g ob ff) ++ (GW g o b c u h x z y ai pa tu tx len s n sv) ++ (MW g a z hi tx aj pj tj pt ke (nI n) (nI len) th re nu du ha)) 1515 [(4, .int (nI i)), (3, .ref ob), (2, .ref (a 0)), (1, .ref o), (0, .ref sa)] [] := by
  obtain ⟨hz, hh, hl, hT, hD⟩ := hI
  have hV : TV z := hz.1
  have hF : z 5 = nI (nf z) := hV.1.1
  have hF8 : nf z ≤ 8 := hV.nf
  have hP : z 6 = nI (np z) := hV.1.2.2.1
  have hP24 : np z ≤ 24 := hV.np
  have hn6 : n ≤ 6 := hh.1
  have hnl : n ≤ sv.length := hh.2.1
  have hl6 : sv.length ≤ 6 := hh.2.2.1
  have hSH := hz.SHs (by omega : K ≤ 600)
  refine V.aload_n 3 rfl dL_law_1515 rfl ?_
  refine V.callVP (F := ((SCW g sa L sc) ++ (OB g ob ff)) ++ (MW g a z hi tx aj pj tj pt ke (nI n) (nI len) th re nu du ha)) [] [] (kX5_digest g o b c u h x z y ai pa tu tx len s n sv hV hl (hz.ne (by omega)) (hz.sh (by omega)).1 hSH) gL_law_X5_digest rfl (by show _ ∧ _ ∧ _ ∧ _ = some (0 : Nat); decide +kernel) ⟨(Nat.le_of_ble_eq_true rfl), (Nat.le_of_ble_eq_true rfl)⟩ (hc := (rfl : vwCl[5]? = some (RX5, TX5, 5))) 0 rfl pvG rfl (Nat.le_of_ble_eq_true rfl) ⟨(by have : rmX5_digest.cells ≤ 20 := Nat.le_of_ble_eq_true rfl; show kc + rmX5_digest.cells ≤ 601024; omega), (by have : rmX5_digest.slots ≤ 400 := Nat.le_of_ble_eq_true rfl; show nc + rmX5_digest.slots ≤ 7293034; omega)⟩ dL_law_1516 (fun v w q => by obtain ⟨_, hG⟩ := q; exact by rw [hG]; exact FST.of GW_fe) (fun v w hq => ?_)
  obtain ⟨rfl, hG⟩ := hq
  subst hG
  refine V.perm (pvH (List.Perm.refl _)) ?_
  refine V.eqws (ws2 := (SCW g sa L sc) ++ (OB g ob ff) ++ (GW g o b c u h x z ((cG z n ai pa tu y).2.2.2.2) ((cG z n ai pa tu y).2.1) ((cG z n ai pa tu y).2.2.1) ((cG z n ai pa tu y).2.2.2.1) tx len s n sv) ++ (MW g a z hi tx aj pj tj pt ke (nI n) (nI len) th re nu du ha)) rfl ?_
  refine V.eqst (st2 := [.long (dgI tx len (dgH z (cG z n ai pa tu y).1))]) rfl ?_
  refine V.aload_n 2 rfl dL_law_1519 rfl ?_
  refine V.callVPf (F := ((SCW g sa L sc) ++ (OB g ob ff)) ++ (GW g o b c u h x z ((cG z n ai pa tu y).2.2.2.2) ((cG z n ai pa tu y).2.1) ((cG z n ai pa tu y).2.2.1) ((cG z n ai pa tu y).2.2.2.1) tx len s n sv)) (ws2 := (SCW g sa L sc) ++ (OB g ob ff) ++ (GW g o b c u h x z ((cG z n ai pa tu y).2.2.2.2) ((cG z n ai pa tu y).2.1) ((cG z n ai pa tu y).2.2.1) ((cG z n ai pa tu y).2.2.2.1) tx len s n sv) ++ (MW g a z hi tx ((dgG z n aj pj tj ke).2.1) ((dgG z n aj pj tj ke).2.2.1) ((dgG z n aj pj tj ke).2.2.2.1) pt ((dgG z n aj pj tj ke).2.2.2.2) (nI n) (nI len) 0 re nu du (dgI tx len (dgH z (dgG z n aj pj tj ke).1)))) (st2 := [.long (dgI tx len (dgH z (dgG z n aj pj tj ke).1)), .long (dgI tx len (dgH z (cG z n ai pa tu y).1))]) [] [.long (dgI tx len (dgH z (cG z n ai pa tu y).1))] (kX6_digest g a z hi tx aj pj tj pt ke th re nu du ha n len hl hV.1 hV.2.2.2.2 (hz.ne (by omega)) (SH.eq hSH)) gL_law_X6_digest rfl (by show _ ∧ _ ∧ _ ∧ _ = some (0 : Nat); decide +kernel) ⟨(Nat.le_of_ble_eq_true rfl), (Nat.le_of_ble_eq_true rfl)⟩ (hc := (rfl : vwCl[6]? = some (RX6, TX6, 15))) 0 rfl pvM rfl (Nat.le_of_ble_eq_true rfl) ⟨(by have : rmX5_digest.cells ≤ 20 := Nat.le_of_ble_eq_true rfl; show kc + rmX5_digest.cells + 0 ≤ 601024; omega), (by have : rmX5_digest.slots ≤ 400 := Nat.le_of_ble_eq_true rfl; show nc + rmX5_digest.slots + 0 ≤ 7293034; omega)⟩ dL_law_1520 MWm pvM.symm rfl rfl rfl ?_
  rw [cG_rel (ai' := aj) (pa' := pj) (tu' := tj) (ke := ke)]
  refine V.lcmp dL_law_1523 ?_
  refine V.eqst (st2 := [.int 0]) (by rw [cmp_0] <;> rfl) ?_
  refine V.if_eq_t (tgt := 1529) rfl dL_law_1524 (by decide) ?_
  refine V.eqlv (lv2 := [(4, .int (nI i)), (3, .ref ob), (2, .ref (a 0)), (1, .ref o), (0, .ref sa)]) [0, 1, 2, 3, 4] rfl ?_
  refine V.widen (k2 := kc + 20) (n2 := nc + 400) (by have : rmX5_digest.cells ≤ 20 := Nat.le_of_ble_eq_true rfl; show kc + rmX5_digest.cells ≤ kc + 20; omega) (by have : rmX5_digest.slots ≤ 400 := Nat.le_of_ble_eq_true rfl; show nc + rmX5_digest.slots ≤ nc + 400; omega) ?_
  exact hk _ _ _ _ _ _ _ _ _ _ _ _ _ _ _ _ _ _ _ _ _ _ ⟨hz.mo, hh.mo, hl, hT, hD⟩
