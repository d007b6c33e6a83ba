/-! the law's loop -/
theorem and_31 (x : Int32) : ∃ k : Nat, k < 32 ∧ x &&& 31 = nI k := by
  refine ⟨x.toBitVec.toNat % 32, Nat.mod_lt _ (by decide), ?_⟩
  rw [← Int32.toBitVec_inj]
  apply BitVec.eq_of_toNat_eq
  rw [Int32.toBitVec_and, BitVec.toNat_and, show ((31 : Int32).toBitVec.toNat) = 2 ^ 5 - 1 from rfl, Nat.and_two_pow_sub_one_eq_mod]
  have h : x.toBitVec.toNat % 32 < 32 := Nat.mod_lt _ (by decide)
  generalize x.toBitVec.toNat % 32 = k at h
  show k = (Int32.ofNat k).toBitVec.toNat
  rw [Int32.toBitVec_ofNat', BitVec.toNat_ofNat, Nat.mod_eq_of_lt (by omega)]
theorem sub_6 {L : Nat} (hL : L ≤ 3072) : (nI L - 6 : Int32).toInt = (L : Int) - 6 := by
  rw [Int32.toInt_sub, nI_toInt (by omega), show (6 : Int32).toInt = 6 from rfl, Int.bmod_eq_of_le (by omega) (by omega)]
theorem gt_6 {i L : Nat} (hi : i < 4000) (hL : L ≤ 3072) : (nI L - 6 < nI i) ↔ L < i + 6 := by
  rw [Int32.lt_iff_toInt_lt, sub_6 hL, nI_toInt (by omega)]
  omega
theorem nI_ti {k : Nat} (h : k < 1000) : (nI k).toInt = (k : Int) := nI_toInt (by omega)
set_option maxHeartbeats 4000000 in
set_option maxRecDepth 100000 in
theorem law_case (g : GT) (hst : g.1.stackTraces = false) (QF : QT) (sa ob o : Nat) (b c u h x a : Nat → Nat) (L K : Nat) (sc : Nat → Int32) (kc nc : Nat) (hkc : kc + 20 ≤ 601024) (hnc : nc + 400 ≤ 7293034) (hiL : 6 * K + 6 ≤ L) (hL : L < 2147483648) (hK : K ≤ 590) (ff : Nat → Int64) (z y ai pa tu tx : Nat → Int32) (len : Nat) (s : BS) (n : Nat) (sv : SV) (hi aj pj tj pt ke : Nat → Int32) (th re nu du : Int32) (ha : Int64) (hI : LI K z n sv hi tx len s) (hk : ∀ (ff : Nat → Int64) (z y ai pa tu tx : Nat → Int32) (len : Nat) (s : BS) (n : Nat) (sv : SV) (hi aj pj tj pt ke : Nat → Int32) (th re nu du : Int32) (ha : Int64), LI (K + 1) z n sv hi tx len s → V g rmL_law RL cL_law wsL_law 9 QF (XL sa L sc) (kc + 20) (nc + 400) (SCW g sa L sc ++ OB g ob ff ++ GW g o b c u h x z y ai pa tu tx len s n sv ++ MW g a z hi tx aj pj tj pt ke (nI n) (nI len) th re nu du ha) 1529 [(4, .int (nI (6 * K))), (3, .ref ob), (2, .ref (a 0)), (1, .ref o), (0, .ref sa)] []) : V g rmL_law RL cL_law wsL_law 9 QF (XL sa L sc) (kc) (nc) (SCW g sa L sc ++ OB g ob ff ++ GW g o b c u h x z y ai pa tu tx len s n sv ++ MW g a z hi tx aj pj tj pt ke (nI n) (nI len) th re nu du ha) 33 [(4, .int (nI (6 * K))), (3, .ref ob), (2, .ref (a 0)), (1, .ref o), (0, .ref sa)] [] := by
  refine V.aload_n 4 rfl dL_law_33 rfl ?_
  refine V.iload 0 rfl dL_law_34 ?_
  refine V.ialdL (6 * K) (by omega) hL dL_law_36 ?_
  refine V.bipush (v := 31) dL_law_37 (by decide) ?_
  obtain ⟨j, hj, ej⟩ := and_31 (sc (6 * K))
  refine V.iandN dL_law_39 ej ?_
  rcases Nat.lt_or_ge j 27 with h27 | h27
  · rcases (show j = 0 ∨ j = 1 ∨ j = 2 ∨ j = 3 ∨ j = 4 ∨ j = 5 ∨ j = 6 ∨ j = 7 ∨ j = 8 ∨ j = 9 ∨ j = 10 ∨ j = 11 ∨ j = 12 ∨ j = 13 ∨ j = 14 ∨ j = 15 ∨ j = 16 ∨ j = 17 ∨ j = 18 ∨ j = 19 ∨ j = 20 ∨ j = 21 ∨ j = 22 ∨ j = 23 ∨ j = 24 ∨ j = 25 ∨ j = 26 by omega) with rfl | rfl | rfl | rfl | rfl | rfl | rfl | rfl | rfl | rfl | rfl | rfl | rfl | rfl | rfl | rfl | rfl | rfl | rfl | rfl | rfl | rfl | rfl | rfl | rfl | rfl | rfl
    · refine V.tableIn (off := 124) (tgt := 164) (by decide) (by decide) (by decide) dL_law_40 (by decide) ?_
      exact cs_addFeeder g hst QF sa ob o b c u h x a L (6 * K) K sc kc nc hkc hnc hiL hL hK ff z y ai pa tu tx len s n sv hi aj pj tj pt ke th re nu du ha hI hk
    · refine V.tableIn (off := 228) (tgt := 268) (by decide) (by decide) (by decide) dL_law_40 (by decide) ?_
      exact cs_addPlace g hst QF sa ob o b c u h x a L (6 * K) K sc kc nc hkc hnc hiL hL hK ff z y ai pa tu tx len s n sv hi aj pj tj pt ke th re nu du ha hI hk
    · refine V.tableIn (off := 296) (tgt := 336) (by decide) (by decide) (by decide) dL_law_40 (by decide) ?_
      exact cs_fill g hst QF sa ob o b c u h x a L (6 * K) K sc kc nc hkc hnc hiL hL hK ff z y ai pa tu tx len s n sv hi aj pj tj pt ke th re nu du ha hI hk
    · refine V.tableIn (off := 364) (tgt := 404) (by decide) (by decide) (by decide) dL_law_40 (by decide) ?_
      exact cs_repair g hst QF sa ob o b c u h x a L (6 * K) K sc kc nc hkc hnc hiL hL hK ff z y ai pa tu tx len s n sv hi aj pj tj pt ke th re nu du ha hI hk
    · refine V.tableIn (off := 444) (tgt := 484) (by decide) (by decide) (by decide) dL_law_40 (by decide) ?_
      exact cs_fit g hst QF sa ob o b c u h x a L (6 * K) K sc kc nc hkc hnc hiL hL hK ff z y ai pa tu tx len s n sv hi aj pj tj pt ke th re nu du ha hI hk
    · refine V.tableIn (off := 512) (tgt := 552) (by decide) (by decide) (by decide) dL_law_40 (by decide) ?_
      exact cs_clear g hst QF sa ob o b c u h x a L (6 * K) K sc kc nc hkc hnc hiL hL hK ff z y ai pa tu tx len s n sv hi aj pj tj pt ke th re nu du ha hI hk
    · refine V.tableIn (off := 525) (tgt := 565) (by decide) (by decide) (by decide) dL_law_40 (by decide) ?_
      exact cs_set g hst QF sa ob o b c u h x a L (6 * K) K sc kc nc hkc hnc hiL hL hK ff z y ai pa tu tx len s n sv hi aj pj tj pt ke th re nu du ha hI hk
    · refine V.tableIn (off := 593) (tgt := 633) (by decide) (by decide) (by decide) dL_law_40 (by decide) ?_
      exact cs_tour g hst QF sa ob o b c u h x a L (6 * K) K sc kc nc hkc hnc hiL hL hK ff z y ai pa tu tx len s n sv hi aj pj tj pt ke th re nu du ha hI hk
    · refine V.tableIn (off := 649) (tgt := 689) (by decide) (by decide) (by decide) dL_law_40 (by decide) ?_
      exact cs_inspect g hst QF sa ob o b c u h x a L (6 * K) K sc kc nc hkc hnc hiL hL hK ff z y ai pa tu tx len s n sv hi aj pj tj pt ke th re nu du ha hI hk
    · refine V.tableIn (off := 662) (tgt := 702) (by decide) (by decide) (by decide) dL_law_40 (by decide) ?_
      exact cs_append g hst QF sa ob o b c u h x a L (6 * K) K sc kc nc hkc hnc hiL hL hK ff z y ai pa tu tx len s n sv hi aj pj tj pt ke th re nu du ha hI hk
    · refine V.tableIn (off := 718) (tgt := 758) (by decide) (by decide) (by decide) dL_law_40 (by decide) ?_
      exact cs_clearBuffer g hst QF sa ob o b c u h x a L (6 * K) K sc kc nc hkc hnc hiL hL hK ff z y ai pa tu tx len s n sv hi aj pj tj pt ke th re nu du ha hI hk
    · refine V.tableIn (off := 731) (tgt := 771) (by decide) (by decide) (by decide) dL_law_40 (by decide) ?_
      exact cs_firstError g hst QF sa ob o b c u h x a L (6 * K) K sc kc nc hkc hnc hiL hL hK ff z y ai pa tu tx len s n sv hi aj pj tj pt ke th re nu du ha hI hk
    · refine V.tableIn (off := 744) (tgt := 784) (by decide) (by decide) (by decide) dL_law_40 (by decide) ?_
      exact cs_read g hst QF sa ob o b c u h x a L (6 * K) K sc kc nc hkc hnc hiL hL hK ff z y ai pa tu tx len s n sv hi aj pj tj pt ke th re nu du ha hI hk
    · refine V.tableIn (off := 788) (tgt := 828) (by decide) (by decide) (by decide) dL_law_40 (by decide) ?_
      exact cs_undo g hst QF sa ob o b c u h x a L (6 * K) K sc kc nc hkc hnc hiL hL hK ff z y ai pa tu tx len s n sv hi aj pj tj pt ke th re nu du ha hI hk
    · refine V.tableIn (off := 832) (tgt := 872) (by decide) (by decide) (by decide) dL_law_40 (by decide) ?_
      exact cs_feeder g hst QF sa ob o b c u h x a L (6 * K) K sc kc nc hkc hnc hiL hL hK ff z y ai pa tu tx len s n sv hi aj pj tj pt ke th re nu du ha hI hk
    · refine V.tableIn (off := 900) (tgt := 940) (by decide) (by decide) (by decide) dL_law_40 (by decide) ?_
      exact cs_place g hst QF sa ob o b c u h x a L (6 * K) K sc kc nc hkc hnc hiL hL hK ff z y ai pa tu tx len s n sv hi aj pj tj pt ke th re nu du ha hI hk
    · refine V.tableIn (off := 968) (tgt := 1008) (by decide) (by decide) (by decide) dL_law_40 (by decide) ?_
      exact cs_nozzle g hst QF sa ob o b c u h x a L (6 * K) K sc kc nc hkc hnc hiL hL hK ff z y ai pa tu tx len s n sv hi aj pj tj pt ke th re nu du ha hI hk
    · refine V.tableIn (off := 1036) (tgt := 1076) (by decide) (by decide) (by decide) dL_law_40 (by decide) ?_
      exact cs_trust g hst QF sa ob o b c u h x a L (6 * K) K sc kc nc hkc hnc hiL hL hK ff z y ai pa tu tx len s n sv hi aj pj tj pt ke th re nu du ha hI hk
    · refine V.tableIn (off := 1104) (tgt := 1144) (by decide) (by decide) (by decide) dL_law_40 (by decide) ?_
      exact cs_count g hst QF sa ob o b c u h x a L (6 * K) K sc kc nc hkc hnc hiL hL hK ff z y ai pa tu tx len s n sv hi aj pj tj pt ke th re nu du ha hI hk
    · refine V.tableIn (off := 1160) (tgt := 1200) (by decide) (by decide) (by decide) dL_law_40 (by decide) ?_
      exact cs_setting g hst QF sa ob o b c u h x a L (6 * K) K sc kc nc hkc hnc hiL hL hK ff z y ai pa tu tx len s n sv hi aj pj tj pt ke th re nu du ha hI hk
    · refine V.tableIn (off := 1216) (tgt := 1256) (by decide) (by decide) (by decide) dL_law_40 (by decide) ?_
      exact cs_ifToured g hst QF sa ob o b c u h x a L (6 * K) K sc kc nc hkc hnc hiL hL hK ff z y ai pa tu tx len s n sv hi aj pj tj pt ke th re nu du ha hI hk
    · refine V.tableIn (off := 1284) (tgt := 1324) (by decide) (by decide) (by decide) dL_law_40 (by decide) ?_
      exact cs_choice g hst QF sa ob o b c u h x a L (6 * K) K sc kc nc hkc hnc hiL hL hK ff z y ai pa tu tx len s n sv hi aj pj tj pt ke th re nu du ha hI hk
    · refine V.tableIn (off := 1352) (tgt := 1392) (by decide) (by decide) (by decide) dL_law_40 (by decide) ?_
      exact cs_aim g hst QF sa ob o b c u h x a L (6 * K) K sc kc nc hkc hnc hiL hL hK ff z y ai pa tu tx len s n sv hi aj pj tj pt ke th re nu du ha hI hk
    · refine V.tableIn (off := 1408) (tgt := 1448) (by decide) (by decide) (by decide) dL_law_40 (by decide) ?_
      exact cs_needed g hst QF sa ob o b c u h x a L (6 * K) K sc kc nc hkc hnc hiL hL hK ff z y ai pa tu tx len s n sv hi aj pj tj pt ke th re nu du ha hI hk
    · refine V.tableIn (off := 1421) (tgt := 1461) (by decide) (by decide) (by decide) dL_law_40 (by decide) ?_
      exact cs_rumored g hst QF sa ob o b c u h x a L (6 * K) K sc kc nc hkc hnc hiL hL hK ff z y ai pa tu tx len s n sv hi aj pj tj pt ke th re nu du ha hI hk
    · refine V.tableIn (off := 1434) (tgt := 1474) (by decide) (by decide) (by decide) dL_law_40 (by decide) ?_
      exact cs_missShare g hst QF sa ob o b c u h x a L (6 * K) K sc kc nc hkc hnc hiL hL hK ff z y ai pa tu tx len s n sv hi aj pj tj pt ke th re nu du ha hI hk
    · refine V.tableIn (off := 1475) (tgt := 1515) (by decide) (by decide) (by decide) dL_law_40 (by decide) ?_
      exact cs_digest g hst QF sa ob o b c u h x a L (6 * K) K sc kc nc hkc hnc hiL hL hK ff z y ai pa tu tx len s n sv hi aj pj tj pt ke th re nu du ha hI hk
  · refine V.tableOut (tgt := 1529) (Or.inr (by rw [nI_ti (by omega)]; omega)) dL_law_40 (by decide) ?_
    refine V.widen (k2 := kc + 20) (n2 := nc + 400) (by omega) (by omega) ?_
    obtain ⟨hz, hh, hl, hT, hD⟩ := hI
    exact hk _ _ _ _ _ _ _ _ _ _ _ _ _ _ _ _ _ _ _ _ _ _ ⟨hz.mo, hh.mo, hl, hT, hD⟩
set_option maxHeartbeats 4000000 in
set_option maxRecDepth 100000 in
theorem law_loop (g : GT) (hst : g.1.stackTraces = false) (QF : QT) (sa ob o : Nat) (b c u h x a : Nat → Nat) (L : Nat) (hL : L ≤ 3072) (sc : Nat → Int32) (hend : ∀ (k n : Nat) (ws : va_W) (lv : List (Nat × Value)), k ≤ 601024 → n ≤ 7293034 → V g rmL_law RL cL_law wsL_law 9 QF (XL sa L sc) k n ws 1535 lv []) : ∀ (r K kc nc : Nat), K + r = 513 → kc + 20 * r ≤ 601024 → nc + 400 * r ≤ 7293034 → ∀ (ff : Nat → Int64) (z y ai pa tu tx : Nat → Int32) (len : Nat) (s : BS) (n : Nat) (sv : SV) (hi aj pj tj pt ke : Nat → Int32) (th re nu du : Int32) (ha : Int64), LI K z n sv hi tx len s → V g rmL_law RL cL_law wsL_law 9 QF (XL sa L sc) (kc) (nc) (SCW g sa L sc ++ OB g ob ff ++ GW g o b c u h x z y ai pa tu tx len s n sv ++ MW g a z hi tx aj pj tj pt ke (nI n) (nI len) th re nu du ha) 23 [(4, .int (nI (6 * K))), (3, .ref ob), (2, .ref (a 0)), (1, .ref o), (0, .ref sa)] [] := by
  intro r
  induction r with
  | zero =>
    intro K kc nc hK hkc hnc ff z y ai pa tu tx len s n sv hi aj pj tj pt ke th re nu du ha hI
    refine V.iload 0 rfl dL_law_23 ?_
    refine V.aload_n 4 rfl dL_law_25 rfl ?_
    refine V.alenL dL_law_26 ?_
    refine V.bipush (v := 6) dL_law_27 (by decide) ?_
    refine V.isub dL_law_29 ?_
    refine V.icmp_gt_t (tgt := 1535) ((gt_6 (by omega) hL).mpr (by omega)) dL_law_30 (by decide) ?_
    exact hend _ _ _ _ (by omega) (by omega)
  | succ r ih =>
    intro K kc nc hK hkc hnc ff z y ai pa tu tx len s n sv hi aj pj tj pt ke th re nu du ha hI
    refine V.iload 0 rfl dL_law_23 ?_
    refine V.aload_n 4 rfl dL_law_25 rfl ?_
    refine V.alenL dL_law_26 ?_
    refine V.bipush (v := 6) dL_law_27 (by decide) ?_
    refine V.isub dL_law_29 ?_
    refine V.icmp_gt (tgt := 1535) dL_law_30 (by decide) (fun _ => hend _ _ _ _ (by omega) (by omega)) (fun q => ?_)
    have hq : 6 * K + 6 ≤ L := by rw [gt_6 (by omega) hL] at q; omega
    refine law_case g hst QF sa ob o b c u h x a L K sc kc nc (by omega) (by omega) hq (by omega) (by omega) ff z y ai pa tu tx len s n sv hi aj pj tj pt ke th re nu du ha hI ?_
    intro ff z y ai pa tu tx len s n sv hi aj pj tj pt ke th re nu du ha hI
    refine V.iinc (v := nI (6 * (K + 1))) (lv2 := [(4, .int (nI (6 * (K + 1)))), (3, .ref ob), (2, .ref (a 0)), (1, .ref o), (0, .ref sa)]) 0 rfl dL_law_1529 (nI_add (6 * K) 6) (by decide) rfl ?_
    refine V.goto (tgt := 23) dL_law_1532 (by decide) ?_
    exact ih (K + 1) (kc + 20) (nc + 400) (by omega) (by omega) (by omega) ff z y ai pa tu tx len s n sv hi aj pj tj pt ke th re nu du ha hI
