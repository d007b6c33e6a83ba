/-! the class's digest, and that it is the reference's -/
theorem fu_add {σ : Type} {F : Nat → σ → σ} : ∀ (a b i : Nat) (x : σ), fu F i (a + b) x = fu F (i + a) b (fu F i a x)
  | 0, b, i, x => by rw [fu_0, Nat.zero_add, Nat.add_zero]
  | a + 1, b, i, x => by rw [show a + 1 + b = (a + b) + 1 by omega, fu_s, fu_s, fu_add a b (i + 1) (F i x), show i + 1 + a = i + (a + 1) by omega]
theorem fu_sh {σ : Type} {F G : Nat → σ → σ} : ∀ (k a b : Nat) (x : σ), (∀ j y, j < k → F (a + j) y = G (b + j) y) → fu F a k x = fu G b k x
  | 0, a, b, x, _ => by rw [fu_0, fu_0]
  | k + 1, a, b, x, h => by
    rw [fu_s, fu_s, show F a x = G b x from h 0 x (by omega)]
    exact fu_sh k (a + 1) (b + 1) (G b x) (fun j y hj => by rw [show a + 1 + j = a + (j + 1) by omega, show b + 1 + j = b + (j + 1) by omega]; exact h (j + 1) y (by omega))
theorem fu_nest {σ : Type} {G : Nat → Nat → σ → σ} {C : Nat} (hC : 0 < C) : ∀ (n : Nat) (x : σ), fu (fun f y => fu (G f) 0 C y) 0 n x = fu (fun k y => G (k / C) (k % C) y) 0 (C * n) x
  | 0, x => by rw [Nat.mul_zero, fu_0, fu_0]
  | n + 1, x => by
    rw [fu_e, fu_nest hC n x, show C * (n + 1) = C * n + C by rw [Nat.mul_succ], fu_add, Nat.zero_add, Nat.zero_add]
    refine (fu_sh C (C * n) 0 _ (fun j y hj => ?_)).symm
    show G ((C * n + j) / C) ((C * n + j) % C) y = G n (0 + j) y
    rw [Nat.mul_add_mod, Nat.mod_eq_of_lt hj, Nat.mul_add_div hC, Nat.div_eq_of_lt hj, Nat.add_zero, Nat.zero_add]
noncomputable def dfF (z : Nat → Int32) (f : Nat) (k : Nat) (h : Int64) : Int64 := mx h (fN z f k).toInt64
noncomputable def dfA (z : Nat → Int32) (f : Nat) (h : Int64) : Int64 := fu (dfF z f) 0 9 h
noncomputable def dcC (z : Nat → Int32) (h : Int64) : Int64 := fu (dfA z) 0 (nf z) h
def dpF (z : Nat → Int32) (p : Nat) (k : Nat) (h : Int64) : Int64 := mx h (z (76 + 5 * p + k)).toInt64
noncomputable def dpA (z : Nat → Int32) (p : Nat) (h : Int64) : Int64 := fu (dpF z p) 0 5 h
noncomputable def dcD (z : Nat → Int32) (h : Int64) : Int64 := fu (dpA z) 0 (np z) h
theorem dcC_eq {z : Nat → Int32} {h : Int64} : dcC z h = dgC z h := by
  have := fu_nest (G := dfF z) (C := 9) (by omega) (nf z) h
  exact this
theorem dcD_eq {z : Nat → Int32} {h : Int64} : dcD z h = dgD z h := by
  have := fu_nest (G := dpF z) (C := 5) (by omega) (np z) h
  refine (show dcD z h = _ from this).trans ?_
  unfold dgD
  refine fu_congr _ 0 h (fun k y _ _ => ?_)
  show mx y (z (76 + 5 * (k / 5) + k % 5)).toInt64 = mx y (z (76 + k)).toInt64
  rw [Nat.add_assoc, Nat.div_add_mod]
noncomputable def cFF (z : Nat → Int32) (k : Nat) (s : DS) : DS := (mx s.1 (tdC (z, s.2.1, s.2.2.1, s.2.2.2.1) 3 k).toInt64, (cTs 3 ((z, s.2.1, s.2.2.1, s.2.2.2.1), 0)).1.2.1, (cTs 3 ((z, s.2.1, s.2.2.1, s.2.2.2.1), 0)).1.2.2.1, (cTs 3 ((z, s.2.1, s.2.2.1, s.2.2.2.1), 0)).1.2.2.2, (cTs 3 ((z, s.2.1, s.2.2.1, s.2.2.2.1), 0)).1.1)
noncomputable def cF (z : Nat → Int32) (sn : Nat) (ai pa tu y : Nat → Int32) : DS := fu (cFF z) 0 4 ((dgE z sn ai).1, (dgE z sn ai).2, pa, tu, y)
noncomputable def cGG (z : Nat → Int32) (s : DS) : DS := (mx s.1 (en (ncA (z, s.2.1, s.2.2.1, s.2.2.2.1)).1).toInt64, (ncA (z, s.2.1, s.2.2.1, s.2.2.2.1)).2.2.1, (ncA (z, s.2.1, s.2.2.1, s.2.2.2.1)).2.2.2.1, (ncA (z, s.2.1, s.2.2.1, s.2.2.2.1)).2.2.2.2, (ncA (z, s.2.1, s.2.2.1, s.2.2.2.1)).2.1)
noncomputable def cG (z : Nat → Int32) (sn : Nat) (ai pa tu y : Nat → Int32) : DS := cGG z (cF z sn ai pa tu y)
theorem dgE_rel {z ai ai' : Nat → Int32} {sn : Nat} : (dgE z sn ai).1 = (dgE z sn ai').1 := by
  unfold dgE
  exact fu_rel (fun _ (x y : Int64 × (Nat → Int32)) => x.1 = y.1) 4 0 _ _ (fun j x y _ hj h => by
    show mnZ z j (lA z x.2 j) x.1 = mnZ z j (lA z y.2 j) y.1
    rw [h, lA_cg (ai := x.2) (ai' := y.2) j (by omega)]) rfl
theorem cF_rel {z ai ai' pa pa' tu tu' y ke : Nat → Int32} {sn : Nat} : (cF z sn ai pa tu y).1 = (dgF z sn ai' pa' tu' ke).1 := by
  unfold cF dgF
  exact fu_rel (fun _ (x y : DS) => x.1 = y.1) 4 0 _ _ (fun j x y _ hj h => by
    show mx x.1 (tdC (z, x.2.1, x.2.2.1, x.2.2.2.1) 3 j).toInt64 = mx y.1 (tdV (z, y.2.1, y.2.2.1, y.2.2.2.1) 3 j).toInt64
    rw [h, tdC_eq (s := (z, x.2.1, x.2.2.1, x.2.2.2.1)) (s' := (z, y.2.1, y.2.2.1, y.2.2.2.1)) rfl]) dgE_rel
theorem cG_rel {z ai ai' pa pa' tu tu' y ke : Nat → Int32} {sn : Nat} : (cG z sn ai pa tu y).1 = (dgG z sn ai' pa' tu' ke).1 := by
  have h := cF_rel (z := z) (ai := ai) (ai' := ai') (pa := pa) (pa' := pa') (tu := tu) (tu' := tu') (y := y) (ke := ke) (sn := sn)
  unfold cG dgG
  generalize cF z sn ai pa tu y = s at h
  generalize dgF z sn ai' pa' tu' ke = s' at h
  show mx s.1 (en (ncA (z, s.2.1, s.2.2.1, s.2.2.2.1)).1).toInt64 = mx s'.1 (en (ndA (z, s'.2.1, s'.2.2.1, s'.2.2.2.1)).1).toInt64
  rw [h, ncA_eq (s := (z, s.2.1, s.2.2.1, s.2.2.2.1)) (s' := (z, s'.2.1, s'.2.2.1, s'.2.2.2.1)) rfl]
theorem wi_in {k m : Nat} (hm : m < 1000) (h : k ≤ m) : wi (nI k) 0 (nI m) = true := by
  unfold wi
  rw [decide_eq_false (nI_pos (by omega)), decide_eq_false (nI_nlt h (by omega))]; rfl
theorem wi_if {f m : Nat} (hm : m ≤ 24) (h : f < m) : wi (nI f) 0 (nI m - 1) = true := by
  rw [wi_ct hm, decide_eq_false (nI_pos (by omega)), decide_eq_false (nI_ge h (by omega))]; rfl
theorem SH.eq {d : UInt64} (h : SH d) : Op.cmpValue (FP.dcmp d d) .l = 0 := by
  have key : ∀ a : Int, compare a a = Ordering.eq := fun a => Int.compare_eq_eq.mpr rfl
  rcases h with rfl | ⟨E, T, h1, h2, h3, rfl⟩
  · decide +kernel
  · have e : FP.dcmp (E64 E T) (E64 E T) = some .eq := by
      show FP.Core.order (FP.Core.decode FP.Core.b64 (E64 E T).toNat) (FP.Core.decode FP.Core.b64 (E64 E T).toNat) = _
      rw [E64_n (by omega) h3, dec_e (by omega) (by omega) h3]
      show some (compare _ _) = _
      rw [key]
    rw [e]; rfl
theorem i64n {n : Nat} (h : n < 18446744073709551616) : (Int64.ofNat n).toBitVec.toNat = n := by
  rw [show (Int64.ofNat n).toBitVec = BitVec.ofNat 64 n from rfl, BitVec.toNat_ofNat]; omega
theorem u64i {n : Nat} (h : n < 18446744073709551616) : (UInt64.ofNat n).toInt64.toBitVec.toNat = n := by
  rw [show (UInt64.ofNat n).toInt64.toBitVec = BitVec.ofNat 64 n from rfl, BitVec.toNat_ofNat]; omega
theorem shl52 : ∀ k : Fin 1024, Int64.ofNat k.1 <<< ((52 : Int32).toInt64 &&& 63) = Int64.ofNat (k.1 * 4503599627370496) := by decide +kernel
theorem bits_e {E T : Nat} (h2 : E ≤ 1023) (hT : T < 4503599627370496) : (Int64.ofNat E <<< ((52 : Int32).toInt64 &&& 63)) + (Int64.ofNat (4503599627370496 + T) - 4503599627370496) = (E64 E T).toInt64 := by
  rw [shl52 ⟨E, by omega⟩]
  apply Int64.toBitVec_inj.mp
  rw [Int64.toBitVec_add, Int64.toBitVec_sub]
  apply BitVec.eq_of_toNat_eq
  rw [BitVec.toNat_add, BitVec.toNat_sub, E64, u64i (by unfold e64; omega)]
  have g1 : (Int64.ofNat ((⟨E, by omega⟩ : Fin 1024).1 * 4503599627370496)).toBitVec.toNat = E * 4503599627370496 := i64n (by show E * 4503599627370496 < 18446744073709551616; omega)
  have g2 : (Int64.ofNat (4503599627370496 + T)).toBitVec.toNat = 4503599627370496 + T := i64n (by omega)
  have g3 : (4503599627370496 : Int64).toBitVec.toNat = 4503599627370496 := by decide +kernel
  rw [g1, g2, g3]
  unfold e64
  omega
theorem ex_1 {k : Nat} : (Int64.ofNat (k + 1)) - 1 = Int64.ofNat k := by
  apply Int64.toBitVec_inj.mp
  rw [Int64.toBitVec_sub]
  show BitVec.ofNat 64 (k + 1) - 1#64 = BitVec.ofNat 64 k
  rw [BitVec.ofNat_add, BitVec.add_sub_cancel]
