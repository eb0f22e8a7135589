theorem M_namePl {m : Md} {A : Nat → Nat → Nat} {ca n : Nat} (hw : Wf A ca) (hm : MW (gA m 1) A) (hn : n < A 52 0) {Q : Int32 → Md → Prop} (hQ : Q (nI (A 10 n)) m) : qX12_nameIs m (nI n) 0 Q := by
  have b2 : A 52 0 ≤ 80 := hw.1.2.2.1
  have q1 := (hm.2.2.2.2.1 n hn).1
  unfold qX12_nameIs
  rw [nl_90, nl_16, nl_0, pk_mul, nI_add, nI_add, nI_clamp (by omega), Nat.add_zero, q1]
  exact ⟨vp_in_nI (by omega) (by decide), hQ⟩
theorem M_hasName {m : Md} {A : Nat → Nat → Nat} {ca p : Nat} (hw : Wf A ca) (hm : MW (gA m 1) A) (hp : p < 40) {Q : Int32 → Md → Prop} (hQ : Q (bI (hnF A p)) m) : qX12_hasName m (nI p) Q := by
  have b1 : A 51 0 ≤ 40 := hw.1.2.1
  have b2 : A 52 0 ≤ 80 := hw.1.2.2.1
  have e2 : gA m 1 2 = nI (A 52 0) := hm.1.2.2.1
  unfold qX12_hasName
  refine pk_loop (fun f n (z : Unit) => qX12_hasName_2 Q f m (nI p) (nI n)) (fun n z => hnB A p n = false) (A 52 0) 0 () (Nat.zero_le _) rfl (fun f z hI => ?_) (fun f n z hn hI ih => ?_)
  · unfold qX12_hasName_2
    refine c_in nl_2 (by decide) (by decide) ?_
    rw [show gA m 1 (2 : Int32).toNatClampNeg = nI (A 52 0) from e2]
    refine c_y (nI_le (Nat.le_refl _) (by omega)) ?_
    rw [show hnF A p = false from hI] at hQ
    exact hQ
  · have h10 := (hw.2.2.2.2.1 n hn).1
    have e1 : hnB A p (n + 1) = (hnB A p n || (A 10 n == p)) := rfl
    unfold qX12_hasName_2
    refine c_in nl_2 (by decide) (by decide) ?_
    rw [show gA m 1 (2 : Int32).toNatClampNeg = nI (A 52 0) from e2]
    refine c_n (nI_ge hn (by omega)) (M_namePl hw hm hn (c_eq' rfl rfl (by omega) (by omega) (fun e => ?_) (fun e => ?_)))
    · have : hnF A p = true := hnB_mono (a := n + 1) (by omega) (by rw [e1, e]; simp)
      rw [this] at hQ; exact hQ
    · rw [ofI1, nI_add]
      exact ih () (by rw [e1, hI]; simpa using e)
/-- the written names, in the reference -/
def WrM (u : Md) (n : Nat) (W : Nat → List (Nat × Int32)) : Prop := ∀ i, i < n → (W i).length ≤ 24 ∧ okL (W i) ∧ gA u 39 i = nI (W i).length ∧ ∀ j, j < (W i).length → gA u 38 (24 * i + j) = nI (lch (W i) j)
theorem M_givesOf {m : Md} {A : Nat → Nat → Nat} {ca i n y pl : Nat} {W : Nat → List (Nat × Int32)} (hw : Wf A ca) (hm : MW (gA m 1) A) (hi : i < n) (n7 : n ≤ 7) (hp : pl < 40) (hy : y < 400) (h36 : gF m 36 = nI y) (hW : WrM m n W) (hnm : hnF A pl = true) {Q : Int32 → Md → Prop} (hQ : ∀ m', Fr [(0, 21), (1, 19), (1, 20), (0, 26), (1, 25), (1, 27)] m m' → Q (Int32.ofInt (gn A (W i) y pl)) m') : qX12_givesOf m (nI i) (nI pl) Q := by
  have b1 : A 51 0 ≤ 40 := hw.1.2.1
  have b2 : A 52 0 ≤ 80 := hw.1.2.2.1
  obtain ⟨w1, w2, w3, w4⟩ := hW i hi
  have e2 : gA m 1 2 = nI (A 52 0) := hm.1.2.2.1
  unfold qX12_givesOf
  refine pk_loop (fun f k (z : Md × Nat) => qX12_givesOf_7 Q f z.1 (nI i) (nI pl) (nI z.2) (nI k)) (fun k z => Fr [(0, 21), (1, 19), (1, 20), (0, 26), (1, 25), (1, 27)] m z.1 ∧ z.2 = mnE A pl (edW A (W i) y) 1000000 k) (A 52 0) 0 (m, 1000000) (Nat.zero_le _) ⟨Fr.rf, rfl⟩ (fun f z hI => ?_) (fun f k z hk hI ih => ?_)
  · obtain ⟨v, a⟩ := z
    obtain ⟨i1, i2⟩ := hI
    dsimp only at i1 i2 ⊢
    unfold qX12_givesOf_7
    refine c_in nl_2 (by decide) (by decide) ?_
    rw [show gA v 1 (2 : Int32).toNatClampNeg = nI (A 52 0) by rw [i1.2.1 1 (by decide)]; exact e2]
    refine c_y (nI_le (Nat.le_refl _) (by omega)) ?_
    obtain ⟨k, hk, hk2⟩ := hnB_ex _ hnm
    have le := (mnE_le A pl (edW A (W i) y) 1000000 (A 52 0)).2 k hk hk2
    have le2 : edW A (W i) y k ≤ (W i).length + (spl A k y).length := edD_le _ _ _ _
    have l2 := splL hw k y
    have e3 := mnE_min A pl (edW A (W i) y) (show 73 ≤ 1000000 by decide) (A 52 0)
    have e4 : a = mnE A pl (edW A (W i) y) 73 (A 52 0) := by omega
    have ez : (20 : Int32) - nI a = Int32.ofInt (gn A (W i) y pl) := by
      unfold gn; rw [Int32.ofInt_sub, e4]; rfl
    rw [ez]
    exact hQ v i1
  · obtain ⟨v, a⟩ := z
    obtain ⟨i1, i2⟩ := hI
    dsimp only at i1 i2 ⊢
    have hmv : MW (gA v 1) A := by rw [i1.2.1 1 (by decide)]; exact hm
    have hb := (mnE_le A pl (edW A (W i) y) 1000000 k).1
    have h10 := (hw.2.2.2.2.1 k hk).1
    have e1 : mnE A pl (edW A (W i) y) 1000000 (k + 1) = if A 10 k = pl then min (mnE A pl (edW A (W i) y) 1000000 k) (edW A (W i) y k) else mnE A pl (edW A (W i) y) 1000000 k := rfl
    unfold qX12_givesOf_7
    refine c_in nl_2 (by decide) (by decide) ?_
    rw [show gA v 1 (2 : Int32).toNatClampNeg = nI (A 52 0) by rw [i1.2.1 1 (by decide)]; exact e2]
    refine c_n (nI_ge hk (by omega)) (M_namePl hw hmv hk (c_eq rfl rfl (by omega) (by omega) (fun e => ?_) (fun e => ?_)))
    · rw [nI_clamp (by omega), show gA v 39 i = nI (W i).length by rw [i1.2.1 39 (by decide)]; exact w3]
      refine c_in rfl (by omega) (by decide) (fun w39 hw39 => ?_)
      have f39 : Fr [(0, 21), (1, 19), (1, 20), (0, 26), (1, 25), (1, 27)] m w39 := by rw [hw39]; exact i1.tr (Fr.sF 26 _ (by decide))
      have g26 : gF w39 26 = nI (W i).length := by rw [hw39]; simp (disch := omega) only [ofI1, nI_add, pk_mul, pk_sub, nI_clamp, imin_nI, imax_nI, nl_0, nl_1, nl_2, nl_3, nl_4, nl_5, nl_6, nl_7, nl_8, nl_9, nl_10, nl_11, nl_12, nl_13, nl_15, nl_16, nl_20, nl_24, nl_26, nl_30, nl_32, nl_36, nl_39, nl_40, nl_45, nl_48, nl_50, nl_57, nl_59, nl_60, nl_61, nl_62, nl_64, nl_72, nl_73, nl_80, nl_90, nl_97, nl_99, nl_100, nl_120, nl_122, nl_123, nl_127, nl_128, nl_199, nl_200, nl_255, nl_256, nl_290, nl_399, nl_400, nl_500, nl_512, nl_520, nl_600, nl_999, nl_1000, nl_2000, nl_9999, nl_10000, nl_14, nl_17, nl_18, nl_19, nl_21, nl_22, nl_23, nl_25, nl_27, nl_28, nl_29, nl_31, nl_33, nl_34, nl_35, nl_47, nl_51, nl_63, nl_110, nl_195, nl_240, nl_1370, nl_3710, nl_6030, nl_6690, nl_7490, nl_7610, nl_9170, nl_11570, gA_sF, gL_sF, gB_sF, gZ_sF, gO_sF, gX_sF, gF_sA, gL_sA, gB_sA, gZ_sA, gO_sA, gX_sA, gF_sL, gA_sL, gB_sL, gZ_sL, gO_sL, gX_sL, gF_sB, gA_sB, gL_sB, gZ_sB, gO_sB, gX_sB, gF_sZ, gA_sZ, gL_sZ, gB_sZ, gO_sZ, gX_sZ, gF_sO, gA_sO, gL_sO, gB_sO, gZ_sO, gX_sO, gF_sX, gA_sX, gL_sX, gB_sX, gZ_sX, gO_sX, gF_tA, gL_tA, gB_tA, gZ_tA, gO_tA, gX_tA, gF_tL, gA_tL, gB_tL, gZ_tL, gO_tL, gX_tL, gF_tB, gA_tB, gL_tB, gZ_tB, gO_tB, gX_tB, gF_tZ, gA_tZ, gL_tZ, gB_tZ, gO_tZ, gX_tZ, gF_sF, gA_sA, gL_sL, gB_sB, gZ_sZ, gO_sO, gX_sX, gA_tA, gL_tL, gB_tB, gZ_tZ, reduceIte, Nat.reduceEqDiff, Nat.zero_ne_one, Nat.one_ne_zero, Nat.succ_ne_self, forall_eq, vpT, cpyT, nI_leI, nI_ltI, nI_eq, nI_m1, oI_eqn, oI_eqm, va_up_ne', va_up_eq, eq_self_iff_true, true_or, or_true, true_implies, not_true_eq_false, not_false_eq_true, false_implies, and_true, true_and, forall_const, implies_true, ne_eq, Nat.add_sub_cancel, nI_pos, ite_self]
      clear hw39
      refine pk_loop (fun f2 j x => qX12_givesOf_45 Q (qX12_givesOf_7 Q f) f2 x (nI i) (nI pl) (nI a) (nI k) (nI j)) (fun j x => Fr [(0, 21), (1, 19), (1, 20), (0, 26), (1, 25), (1, 27)] m x ∧ gF x 26 = nI (W i).length ∧ ∀ t, t < j → gA x 25 t = nI (lch (W i) t)) (W i).length 0 w39 (Nat.zero_le _) ⟨f39, g26, fun t ht => by omega⟩ (fun f2 x hI2 => ?_) (fun f2 j x hj hI2 ih2 => ?_)
      · obtain ⟨j1, j2, j3⟩ := hI2
        unfold qX12_givesOf_45
        rw [j2]
        refine c_y (nI_le (Nat.le_refl _) (by omega)) (fun w81 hw81 => ?_)
        have f81 : Fr [(0, 21)] x w81 := by rw [hw81]; exact Fr.sF 21 _ (by decide)
        have l81 : Laid w81 [] := Laid_nil (by rw [hw81]; rfl)
        have fa : Fr [(0, 21), (1, 19), (1, 20), (0, 26), (1, 25), (1, 27)] m w81 := j1.tr (f81.mono (by decide))
        have hh : Held x (W i) := ⟨j2, j3⟩
        clear hw81
        rw [show gF w81 36 = nI y from (fa.1 36 (by decide)).trans h36]
        have l2 := splL hw k y
        refine M_spells hw (by rw [fa.2.1 1 (by decide)]; exact hm) hk hy l81 (by simp) (fun m2 f2 h2 => ?_)
        rw [List.nil_append] at h2
        refine M_apart ((hh.fr f81 (by decide) (by decide)).fr f2 (by decide) (by decide)) h2 (by omega) (by omega) w2 (splO hw hk y) (fun m3 f3 => ?_)
        have le := edD_le (lch (W i)) (lch (spl A k y)) (W i).length (spl A k y).length
        rw [imin_nI (by omega) (by omega), ofI1, nI_add]
        refine ih (m3, min a (edD (lch (W i)) (lch (spl A k y)) (W i).length (spl A k y).length)) ⟨fa.tr ((f2.mono (by decide)).tr (f3.mono (by decide))), ?_⟩
        rw [e1, if_pos e, i2]; rfl
      · obtain ⟨j1, j2, j3⟩ := hI2
        unfold qX12_givesOf_45
        rw [j2, show (24 : Int32) = nI 24 from rfl, pk_mul, nI_add, nI_clamp (by omega), show gA x 38 (24 * i + j) = nI (lch (W i) j) by rw [j1.2.1 38 (by decide)]; exact w4 j hj, ofI1, nI_add]
        refine c_n (nI_ge hj (by omega)) (c_in rfl (by omega) (by decide) (c_in rfl (by omega) (by decide) (fun w hw' => ?_)))
        subst hw'
        rw [nI_add]
        refine ih2 _ ⟨j1.tr (Fr.tA 25 _ _ (by decide)), j2, fun t ht => ?_⟩
        by_cases e : t = j
        · subst e; simp (disch := omega) only [ofI1, nI_add, pk_mul, pk_sub, nI_clamp, imin_nI, imax_nI, nl_0, nl_1, nl_2, nl_3, nl_4, nl_5, nl_6, nl_7, nl_8, nl_9, nl_10, nl_11, nl_12, nl_13, nl_15, nl_16, nl_20, nl_24, nl_26, nl_30, nl_32, nl_36, nl_39, nl_40, nl_45, nl_48, nl_50, nl_57, nl_59, nl_60, nl_61, nl_62, nl_64, nl_72, nl_73, nl_80, nl_90, nl_97, nl_99, nl_100, nl_120, nl_122, nl_123, nl_127, nl_128, nl_199, nl_200, nl_255, nl_256, nl_290, nl_399, nl_400, nl_500, nl_512, nl_520, nl_600, nl_999, nl_1000, nl_2000, nl_9999, nl_10000, nl_14, nl_17, nl_18, nl_19, nl_21, nl_22, nl_23, nl_25, nl_27, nl_28, nl_29, nl_31, nl_33, nl_34, nl_35, nl_47, nl_51, nl_63, nl_110, nl_195, nl_240, nl_1370, nl_3710, nl_6030, nl_6690, nl_7490, nl_7610, nl_9170, nl_11570, gA_sF, gL_sF, gB_sF, gZ_sF, gO_sF, gX_sF, gF_sA, gL_sA, gB_sA, gZ_sA, gO_sA, gX_sA, gF_sL, gA_sL, gB_sL, gZ_sL, gO_sL, gX_sL, gF_sB, gA_sB, gL_sB, gZ_sB, gO_sB, gX_sB, gF_sZ, gA_sZ, gL_sZ, gB_sZ, gO_sZ, gX_sZ, gF_sO, gA_sO, gL_sO, gB_sO, gZ_sO, gX_sO, gF_sX, gA_sX, gL_sX, gB_sX, gZ_sX, gO_sX, gF_tA, gL_tA, gB_tA, gZ_tA, gO_tA, gX_tA, gF_tL, gA_tL, gB_tL, gZ_tL, gO_tL, gX_tL, gF_tB, gA_tB, gL_tB, gZ_tB, gO_tB, gX_tB, gF_tZ, gA_tZ, gL_tZ, gB_tZ, gO_tZ, gX_tZ, gF_sF, gA_sA, gL_sL, gB_sB, gZ_sZ, gO_sO, gX_sX, gA_tA, gL_tL, gB_tB, gZ_tZ, reduceIte, Nat.reduceEqDiff, Nat.zero_ne_one, Nat.one_ne_zero, Nat.succ_ne_self, forall_eq, vpT, cpyT, nI_leI, nI_ltI, nI_eq, nI_m1, oI_eqn, oI_eqm, va_up_ne', va_up_eq, eq_self_iff_true, true_or, or_true, true_implies, not_true_eq_false, not_false_eq_true, false_implies, and_true, true_and, forall_const, implies_true, ne_eq, Nat.add_sub_cancel, nI_pos, ite_self]
        · have := j3 t (by omega)
          simp (disch := omega) only [this, ofI1, nI_add, pk_mul, pk_sub, nI_clamp, imin_nI, imax_nI, nl_0, nl_1, nl_2, nl_3, nl_4, nl_5, nl_6, nl_7, nl_8, nl_9, nl_10, nl_11, nl_12, nl_13, nl_15, nl_16, nl_20, nl_24, nl_26, nl_30, nl_32, nl_36, nl_39, nl_40, nl_45, nl_48, nl_50, nl_57, nl_59, nl_60, nl_61, nl_62, nl_64, nl_72, nl_73, nl_80, nl_90, nl_97, nl_99, nl_100, nl_120, nl_122, nl_123, nl_127, nl_128, nl_199, nl_200, nl_255, nl_256, nl_290, nl_399, nl_400, nl_500, nl_512, nl_520, nl_600, nl_999, nl_1000, nl_2000, nl_9999, nl_10000, nl_14, nl_17, nl_18, nl_19, nl_21, nl_22, nl_23, nl_25, nl_27, nl_28, nl_29, nl_31, nl_33, nl_34, nl_35, nl_47, nl_51, nl_63, nl_110, nl_195, nl_240, nl_1370, nl_3710, nl_6030, nl_6690, nl_7490, nl_7610, nl_9170, nl_11570, gA_sF, gL_sF, gB_sF, gZ_sF, gO_sF, gX_sF, gF_sA, gL_sA, gB_sA, gZ_sA, gO_sA, gX_sA, gF_sL, gA_sL, gB_sL, gZ_sL, gO_sL, gX_sL, gF_sB, gA_sB, gL_sB, gZ_sB, gO_sB, gX_sB, gF_sZ, gA_sZ, gL_sZ, gB_sZ, gO_sZ, gX_sZ, gF_sO, gA_sO, gL_sO, gB_sO, gZ_sO, gX_sO, gF_sX, gA_sX, gL_sX, gB_sX, gZ_sX, gO_sX, gF_tA, gL_tA, gB_tA, gZ_tA, gO_tA, gX_tA, gF_tL, gA_tL, gB_tL, gZ_tL, gO_tL, gX_tL, gF_tB, gA_tB, gL_tB, gZ_tB, gO_tB, gX_tB, gF_tZ, gA_tZ, gL_tZ, gB_tZ, gO_tZ, gX_tZ, gF_sF, gA_sA, gL_sL, gB_sB, gZ_sZ, gO_sO, gX_sX, gA_tA, gL_tL, gB_tB, gZ_tZ, reduceIte, Nat.reduceEqDiff, Nat.zero_ne_one, Nat.one_ne_zero, Nat.succ_ne_self, forall_eq, vpT, cpyT, nI_leI, nI_ltI, nI_eq, nI_m1, oI_eqn, oI_eqm, va_up_ne', va_up_eq, eq_self_iff_true, true_or, or_true, true_implies, not_true_eq_false, not_false_eq_true, false_implies, and_true, true_and, forall_const, implies_true, ne_eq, Nat.add_sub_cancel, nI_pos, ite_self]
    · rw [ofI1, nI_add]
      exact ih (v, a) ⟨i1, by rw [e1, if_neg e]; exact i2⟩
