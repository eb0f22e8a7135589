theorem N_editsOfRows {u a b : Md} {x y : List (Nat × Int32)} (ha : RowIs a x) (hb : RowIs b y) (la : x.length ≤ 73) (lb : y.length ≤ 73) (oa : okL x) (ob : okL y) {Q : Int32 → Md → Md → Md → Prop} (hQ : ∀ u', Fr [(1, 8)] u u' → Q (nI (edD (lch x) (lch y) x.length y.length)) u' a b) : qX10_editsOfRows u a b Q := by
  unfold qX10_editsOfRows
  refine pk_loop (fun k i s => qX10_editsOfRows_2 Q k s a b (nI i)) (fun i s => Fr [(1, 8)] u s ∧ ∀ j, j < i → gA s 8 j = nI j) (y.length + 1) 0 u (by omega) ⟨Fr.rf, fun j hj => by omega⟩ (fun k s hI => ?_) (fun k i s hi hI ih => ?_)
  · obtain ⟨i1, i2⟩ := hI
    unfold qX10_editsOfRows_2
    rw [hb.1]
    refine c_y (nI_lt (by omega) (by omega)) ?_
    refine pk_loop (fun k i s => qX10_editsOfRows_25 Q k s a b (nI i)) (fun i s => Fr [(1, 8)] u s ∧ ∀ j, j ≤ y.length → gA s 8 j = nI (edD (lch x) (lch y) i j)) x.length 0 s (by omega) ⟨i1, fun j hj => i2 j (by omega)⟩ (fun k s hI => ?_) (fun ko i s hi hI ih => ?_)
    · obtain ⟨i1, i2⟩ := hI
      unfold qX10_editsOfRows_25
      rw [ha.1, hb.1, nI_clamp (by omega), i2 _ (Nat.le_refl _)]
      exact c_y (nI_le (Nat.le_refl _) (by omega)) ⟨vp_in_nI (by omega) (by decide), hQ s i1⟩
    · obtain ⟨i1, i2⟩ := hI
      have c0 := i2 0 (by omega)
      rw [edD_0] at c0
      have z : ¬ x.length ≤ i := by omega
      unfold qX10_editsOfRows_25
      simp (disch := omega) only [ha.1, z, c0, ofI1, nI_add, pk_mul, pk_sub, nI_clamp, imin_nI, imax_nI, nl_0, nl_1, nl_2, nl_3, nl_4, nl_5, nl_6, nl_7, nl_8, nl_9, nl_10, nl_11, nl_12, nl_13, nl_15, nl_16, nl_20, nl_24, nl_26, nl_30, nl_32, nl_36, nl_39, nl_40, nl_45, nl_48, nl_50, nl_57, nl_59, nl_60, nl_61, nl_62, nl_64, nl_72, nl_73, nl_80, nl_90, nl_97, nl_99, nl_100, nl_120, nl_122, nl_123, nl_127, nl_128, nl_199, nl_200, nl_255, nl_256, nl_290, nl_399, nl_400, nl_500, nl_512, nl_520, nl_600, nl_999, nl_1000, nl_2000, nl_9999, nl_10000, nl_14, nl_17, nl_18, nl_19, nl_21, nl_22, nl_23, nl_25, nl_27, nl_28, nl_29, nl_31, nl_33, nl_34, nl_35, nl_47, nl_51, nl_63, nl_110, nl_195, nl_240, nl_1370, nl_3710, nl_6030, nl_6690, nl_7490, nl_7610, nl_9170, nl_11570, gA_sF, gL_sF, gB_sF, gZ_sF, gO_sF, gX_sF, gF_sA, gL_sA, gB_sA, gZ_sA, gO_sA, gX_sA, gF_sL, gA_sL, gB_sL, gZ_sL, gO_sL, gX_sL, gF_sB, gA_sB, gL_sB, gZ_sB, gO_sB, gX_sB, gF_sZ, gA_sZ, gL_sZ, gB_sZ, gO_sZ, gX_sZ, gF_sO, gA_sO, gL_sO, gB_sO, gZ_sO, gX_sO, gF_sX, gA_sX, gL_sX, gB_sX, gZ_sX, gO_sX, gF_tA, gL_tA, gB_tA, gZ_tA, gO_tA, gX_tA, gF_tL, gA_tL, gB_tL, gZ_tL, gO_tL, gX_tL, gF_tB, gA_tB, gL_tB, gZ_tB, gO_tB, gX_tB, gF_tZ, gA_tZ, gL_tZ, gB_tZ, gO_tZ, gX_tZ, gF_sF, gA_sA, gL_sL, gB_sB, gZ_sZ, gO_sO, gX_sX, gA_tA, gL_tL, gB_tB, gZ_tZ, reduceIte, Nat.reduceEqDiff, Nat.zero_ne_one, Nat.one_ne_zero, Nat.succ_ne_self, forall_eq, vpT, cpyT, nI_leI, nI_ltI, nI_eq, nI_m1, oI_eqn, oI_eqm, va_up_ne', va_up_eq, eq_self_iff_true, true_or, or_true, true_implies, not_true_eq_false, not_false_eq_true, false_implies, and_true, true_and, forall_const, implies_true, ne_eq, Nat.add_sub_cancel, nI_pos, ite_self]
      generalize hs1 : tA s 8 _ _ = s1
      have g1 : gA s1 8 = va_up (gA s 8) 0 (nI (i + 1)) := by
        rw [← hs1]; simp (disch := omega) only [ofI1, nI_add, pk_mul, pk_sub, nI_clamp, imin_nI, imax_nI, nl_0, nl_1, nl_2, nl_3, nl_4, nl_5, nl_6, nl_7, nl_8, nl_9, nl_10, nl_11, nl_12, nl_13, nl_15, nl_16, nl_20, nl_24, nl_26, nl_30, nl_32, nl_36, nl_39, nl_40, nl_45, nl_48, nl_50, nl_57, nl_59, nl_60, nl_61, nl_62, nl_64, nl_72, nl_73, nl_80, nl_90, nl_97, nl_99, nl_100, nl_120, nl_122, nl_123, nl_127, nl_128, nl_199, nl_200, nl_255, nl_256, nl_290, nl_399, nl_400, nl_500, nl_512, nl_520, nl_600, nl_999, nl_1000, nl_2000, nl_9999, nl_10000, nl_14, nl_17, nl_18, nl_19, nl_21, nl_22, nl_23, nl_25, nl_27, nl_28, nl_29, nl_31, nl_33, nl_34, nl_35, nl_47, nl_51, nl_63, nl_110, nl_195, nl_240, nl_1370, nl_3710, nl_6030, nl_6690, nl_7490, nl_7610, nl_9170, nl_11570, gA_sF, gL_sF, gB_sF, gZ_sF, gO_sF, gX_sF, gF_sA, gL_sA, gB_sA, gZ_sA, gO_sA, gX_sA, gF_sL, gA_sL, gB_sL, gZ_sL, gO_sL, gX_sL, gF_sB, gA_sB, gL_sB, gZ_sB, gO_sB, gX_sB, gF_sZ, gA_sZ, gL_sZ, gB_sZ, gO_sZ, gX_sZ, gF_sO, gA_sO, gL_sO, gB_sO, gZ_sO, gX_sO, gF_sX, gA_sX, gL_sX, gB_sX, gZ_sX, gO_sX, gF_tA, gL_tA, gB_tA, gZ_tA, gO_tA, gX_tA, gF_tL, gA_tL, gB_tL, gZ_tL, gO_tL, gX_tL, gF_tB, gA_tB, gL_tB, gZ_tB, gO_tB, gX_tB, gF_tZ, gA_tZ, gL_tZ, gB_tZ, gO_tZ, gX_tZ, gF_sF, gA_sA, gL_sL, gB_sB, gZ_sZ, gO_sO, gX_sX, gA_tA, gL_tL, gB_tB, gZ_tZ, reduceIte, Nat.reduceEqDiff, Nat.zero_ne_one, Nat.one_ne_zero, Nat.succ_ne_self, forall_eq, vpT, cpyT, nI_leI, nI_ltI, nI_eq, nI_m1, oI_eqn, oI_eqm, va_up_ne', va_up_eq, eq_self_iff_true, true_or, or_true, true_implies, not_true_eq_false, not_false_eq_true, false_implies, and_true, true_and, forall_const, implies_true, ne_eq, Nat.add_sub_cancel, nI_pos, ite_self]
      have fr1 : Fr [(1, 8)] u s1 := i1.tr (by rw [← hs1]; exact Fr.tA 8 _ _ (by decide))
      have hD := edD_le (lch x) (lch y)
      refine pk_loop (fun k j (t : Md × Nat) => qX10_editsOfRows_53 Q _ k t.1 a b (nI i) (nI t.2) (nI j)) (fun j t => Fr [(1, 8)] u t.1 ∧ t.2 = edD (lch x) (lch y) i j ∧ (∀ j', j' ≤ j → gA t.1 8 j' = nI (edD (lch x) (lch y) (i + 1) j')) ∧ ∀ j', j < j' → j' ≤ y.length → gA t.1 8 j' = nI (edD (lch x) (lch y) i j')) y.length 0 (s1, i) (by omega) ⟨fr1, (edD_0 _ _ _).symm, fun j' hj' => ?_, fun j' h1 h2 => ?_⟩ (fun k t hJ => ?_) (fun k j t hj hJ jh => ?_)
      · obtain rfl : j' = 0 := by omega
        show gA s1 8 0 = _
        rw [g1, va_up_eq, edD_0]
      · show gA s1 8 j' = _
        rw [g1, va_up_ne' _ _ (by omega)]; exact i2 j' h2
      · obtain ⟨j1, j2, j3, j4⟩ := hJ
        unfold qX10_editsOfRows_53
        rw [hb.1, ofI1, nI_add]
        exact c_y (nI_le (Nat.le_refl _) (by omega)) (ih t.1 ⟨j1, j3⟩)
      · obtain ⟨v, sl⟩ := t
        obtain ⟨j1, j2, j3, j4⟩ := hJ
        dsimp only at j1 j2 j3 j4 ⊢
        have k1 := hD i j
        have k2 := hD i (j + 1)
        have k3 := hD (i + 1) j
        have q1 := j3 j (Nat.le_refl _)
        have q2 := j4 (j + 1) (by omega) (by omega)
        have cx := lch_lt oa i
        have cy := lch_lt ob j
        have key : ∀ z0 : Nat, z0 = edD (lch x) (lch y) i j + (if lch x i = lch y j then 0 else 1) → qX10_editsOfRows_87 Q (qX10_editsOfRows_25 Q ko) (qX10_editsOfRows_53 Q (qX10_editsOfRows_25 Q ko) k) v a b (nI i) (nI j) (nI z0) := by
          intro z0 hz
          have hz2 : z0 ≤ 200 := by rw [hz]; split <;> omega
          unfold qX10_editsOfRows_87
          simp (disch := omega) only [q1, q2, ofI1, nI_add, pk_mul, pk_sub, nI_clamp, imin_nI, imax_nI, nl_0, nl_1, nl_2, nl_3, nl_4, nl_5, nl_6, nl_7, nl_8, nl_9, nl_10, nl_11, nl_12, nl_13, nl_15, nl_16, nl_20, nl_24, nl_26, nl_30, nl_32, nl_36, nl_39, nl_40, nl_45, nl_48, nl_50, nl_57, nl_59, nl_60, nl_61, nl_62, nl_64, nl_72, nl_73, nl_80, nl_90, nl_97, nl_99, nl_100, nl_120, nl_122, nl_123, nl_127, nl_128, nl_199, nl_200, nl_255, nl_256, nl_290, nl_399, nl_400, nl_500, nl_512, nl_520, nl_600, nl_999, nl_1000, nl_2000, nl_9999, nl_10000, nl_14, nl_17, nl_18, nl_19, nl_21, nl_22, nl_23, nl_25, nl_27, nl_28, nl_29, nl_31, nl_33, nl_34, nl_35, nl_47, nl_51, nl_63, nl_110, nl_195, nl_240, nl_1370, nl_3710, nl_6030, nl_6690, nl_7490, nl_7610, nl_9170, nl_11570, gA_sF, gL_sF, gB_sF, gZ_sF, gO_sF, gX_sF, gF_sA, gL_sA, gB_sA, gZ_sA, gO_sA, gX_sA, gF_sL, gA_sL, gB_sL, gZ_sL, gO_sL, gX_sL, gF_sB, gA_sB, gL_sB, gZ_sB, gO_sB, gX_sB, gF_sZ, gA_sZ, gL_sZ, gB_sZ, gO_sZ, gX_sZ, gF_sO, gA_sO, gL_sO, gB_sO, gZ_sO, gX_sO, gF_sX, gA_sX, gL_sX, gB_sX, gZ_sX, gO_sX, gF_tA, gL_tA, gB_tA, gZ_tA, gO_tA, gX_tA, gF_tL, gA_tL, gB_tL, gZ_tL, gO_tL, gX_tL, gF_tB, gA_tB, gL_tB, gZ_tB, gO_tB, gX_tB, gF_tZ, gA_tZ, gL_tZ, gB_tZ, gO_tZ, gX_tZ, gF_sF, gA_sA, gL_sL, gB_sB, gZ_sZ, gO_sO, gX_sX, gA_tA, gL_tL, gB_tB, gZ_tZ, reduceIte, Nat.reduceEqDiff, Nat.zero_ne_one, Nat.one_ne_zero, Nat.succ_ne_self, forall_eq, vpT, cpyT, nI_leI, nI_ltI, nI_eq, nI_m1, oI_eqn, oI_eqm, va_up_ne', va_up_eq, eq_self_iff_true, true_or, or_true, true_implies, not_true_eq_false, not_false_eq_true, false_implies, and_true, true_and, forall_const, implies_true, ne_eq, Nat.add_sub_cancel, nI_pos, ite_self]
          generalize hv' : tA v 8 _ _ = v'
          have g8 : gA v' 8 = va_up (gA v 8) (j + 1) (nI (min z0 (min (edD (lch x) (lch y) i (j + 1)) (edD (lch x) (lch y) (i + 1) j) + 1))) := by
            rw [← hv']; simp (disch := omega) only [ofI1, nI_add, pk_mul, pk_sub, nI_clamp, imin_nI, imax_nI, nl_0, nl_1, nl_2, nl_3, nl_4, nl_5, nl_6, nl_7, nl_8, nl_9, nl_10, nl_11, nl_12, nl_13, nl_15, nl_16, nl_20, nl_24, nl_26, nl_30, nl_32, nl_36, nl_39, nl_40, nl_45, nl_48, nl_50, nl_57, nl_59, nl_60, nl_61, nl_62, nl_64, nl_72, nl_73, nl_80, nl_90, nl_97, nl_99, nl_100, nl_120, nl_122, nl_123, nl_127, nl_128, nl_199, nl_200, nl_255, nl_256, nl_290, nl_399, nl_400, nl_500, nl_512, nl_520, nl_600, nl_999, nl_1000, nl_2000, nl_9999, nl_10000, nl_14, nl_17, nl_18, nl_19, nl_21, nl_22, nl_23, nl_25, nl_27, nl_28, nl_29, nl_31, nl_33, nl_34, nl_35, nl_47, nl_51, nl_63, nl_110, nl_195, nl_240, nl_1370, nl_3710, nl_6030, nl_6690, nl_7490, nl_7610, nl_9170, nl_11570, gA_sF, gL_sF, gB_sF, gZ_sF, gO_sF, gX_sF, gF_sA, gL_sA, gB_sA, gZ_sA, gO_sA, gX_sA, gF_sL, gA_sL, gB_sL, gZ_sL, gO_sL, gX_sL, gF_sB, gA_sB, gL_sB, gZ_sB, gO_sB, gX_sB, gF_sZ, gA_sZ, gL_sZ, gB_sZ, gO_sZ, gX_sZ, gF_sO, gA_sO, gL_sO, gB_sO, gZ_sO, gX_sO, gF_sX, gA_sX, gL_sX, gB_sX, gZ_sX, gO_sX, gF_tA, gL_tA, gB_tA, gZ_tA, gO_tA, gX_tA, gF_tL, gA_tL, gB_tL, gZ_tL, gO_tL, gX_tL, gF_tB, gA_tB, gL_tB, gZ_tB, gO_tB, gX_tB, gF_tZ, gA_tZ, gL_tZ, gB_tZ, gO_tZ, gX_tZ, gF_sF, gA_sA, gL_sL, gB_sB, gZ_sZ, gO_sO, gX_sX, gA_tA, gL_tL, gB_tB, gZ_tZ, reduceIte, Nat.reduceEqDiff, Nat.zero_ne_one, Nat.one_ne_zero, Nat.succ_ne_self, forall_eq, vpT, cpyT, nI_leI, nI_ltI, nI_eq, nI_m1, oI_eqn, oI_eqm, va_up_ne', va_up_eq, eq_self_iff_true, true_or, or_true, true_implies, not_true_eq_false, not_false_eq_true, false_implies, and_true, true_and, forall_const, implies_true, ne_eq, Nat.add_sub_cancel, nI_pos, ite_self]
          refine jh (v', edD (lch x) (lch y) i (j + 1)) ⟨j1.tr (by rw [← hv']; exact Fr.tA 8 _ _ (by decide)), rfl, fun j' hj' => ?_, fun j' h1 h2 => ?_⟩
          · show gA v' 8 j' = _
            rw [g8]
            by_cases e : j' = j + 1
            · rw [e, va_up_eq, edD_s, hz]
            · rw [va_up_ne' _ _ e]; exact j3 j' (by omega)
          · show gA v' 8 j' = _
            rw [g8, va_up_ne' _ _ (by omega)]; exact j4 j' (by omega) h2
        unfold qX10_editsOfRows_53
        rw [hb.1, nI_clamp (by omega), nI_clamp (by omega), ha.ch hi, hb.ch hj, nl_1, nI_add]
        refine c_n (nI_ge hj (by omega)) ⟨vp_in_nI (by omega) (by decide), vp_in_nI (by omega) (by decide), c_eq' rfl rfl (by omega) (by omega) (fun e => key sl (by rw [if_pos e, j2]; rfl)) (fun e => key (sl + 1) (by rw [if_neg e, j2]))⟩
  · obtain ⟨i1, i2⟩ := hI
    have z : ¬ y.length < i := by omega
    unfold qX10_editsOfRows_2
    simp (disch := omega) only [hb.1, z, ofI1, nI_add, pk_mul, pk_sub, nI_clamp, imin_nI, imax_nI, nl_0, nl_1, nl_2, nl_3, nl_4, nl_5, nl_6, nl_7, nl_8, nl_9, nl_10, nl_11, nl_12, nl_13, nl_15, nl_16, nl_20, nl_24, nl_26, nl_30, nl_32, nl_36, nl_39, nl_40, nl_45, nl_48, nl_50, nl_57, nl_59, nl_60, nl_61, nl_62, nl_64, nl_72, nl_73, nl_80, nl_90, nl_97, nl_99, nl_100, nl_120, nl_122, nl_123, nl_127, nl_128, nl_199, nl_200, nl_255, nl_256, nl_290, nl_399, nl_400, nl_500, nl_512, nl_520, nl_600, nl_999, nl_1000, nl_2000, nl_9999, nl_10000, nl_14, nl_17, nl_18, nl_19, nl_21, nl_22, nl_23, nl_25, nl_27, nl_28, nl_29, nl_31, nl_33, nl_34, nl_35, nl_47, nl_51, nl_63, nl_110, nl_195, nl_240, nl_1370, nl_3710, nl_6030, nl_6690, nl_7490, nl_7610, nl_9170, nl_11570, gA_sF, gL_sF, gB_sF, gZ_sF, gO_sF, gX_sF, gF_sA, gL_sA, gB_sA, gZ_sA, gO_sA, gX_sA, gF_sL, gA_sL, gB_sL, gZ_sL, gO_sL, gX_sL, gF_sB, gA_sB, gL_sB, gZ_sB, gO_sB, gX_sB, gF_sZ, gA_sZ, gL_sZ, gB_sZ, gO_sZ, gX_sZ, gF_sO, gA_sO, gL_sO, gB_sO, gZ_sO, gX_sO, gF_sX, gA_sX, gL_sX, gB_sX, gZ_sX, gO_sX, gF_tA, gL_tA, gB_tA, gZ_tA, gO_tA, gX_tA, gF_tL, gA_tL, gB_tL, gZ_tL, gO_tL, gX_tL, gF_tB, gA_tB, gL_tB, gZ_tB, gO_tB, gX_tB, gF_tZ, gA_tZ, gL_tZ, gB_tZ, gO_tZ, gX_tZ, gF_sF, gA_sA, gL_sL, gB_sB, gZ_sZ, gO_sO, gX_sX, gA_tA, gL_tL, gB_tB, gZ_tZ, reduceIte, Nat.reduceEqDiff, Nat.zero_ne_one, Nat.one_ne_zero, Nat.succ_ne_self, forall_eq, vpT, cpyT, nI_leI, nI_ltI, nI_eq, nI_m1, oI_eqn, oI_eqm, va_up_ne', va_up_eq, eq_self_iff_true, true_or, or_true, true_implies, not_true_eq_false, not_false_eq_true, false_implies, and_true, true_and, forall_const, implies_true, ne_eq, Nat.add_sub_cancel, nI_pos, ite_self]
    refine ih _ ⟨i1.tr (Fr.tA 8 _ _ (by decide)), fun j hj => ?_⟩
    by_cases e : j = i
    · subst e; simp (disch := omega) only [ofI1, nI_add, pk_mul, pk_sub, nI_clamp, imin_nI, imax_nI, nl_0, nl_1, nl_2, nl_3, nl_4, nl_5, nl_6, nl_7, nl_8, nl_9, nl_10, nl_11, nl_12, nl_13, nl_15, nl_16, nl_20, nl_24, nl_26, nl_30, nl_32, nl_36, nl_39, nl_40, nl_45, nl_48, nl_50, nl_57, nl_59, nl_60, nl_61, nl_62, nl_64, nl_72, nl_73, nl_80, nl_90, nl_97, nl_99, nl_100, nl_120, nl_122, nl_123, nl_127, nl_128, nl_199, nl_200, nl_255, nl_256, nl_290, nl_399, nl_400, nl_500, nl_512, nl_520, nl_600, nl_999, nl_1000, nl_2000, nl_9999, nl_10000, nl_14, nl_17, nl_18, nl_19, nl_21, nl_22, nl_23, nl_25, nl_27, nl_28, nl_29, nl_31, nl_33, nl_34, nl_35, nl_47, nl_51, nl_63, nl_110, nl_195, nl_240, nl_1370, nl_3710, nl_6030, nl_6690, nl_7490, nl_7610, nl_9170, nl_11570, gA_sF, gL_sF, gB_sF, gZ_sF, gO_sF, gX_sF, gF_sA, gL_sA, gB_sA, gZ_sA, gO_sA, gX_sA, gF_sL, gA_sL, gB_sL, gZ_sL, gO_sL, gX_sL, gF_sB, gA_sB, gL_sB, gZ_sB, gO_sB, gX_sB, gF_sZ, gA_sZ, gL_sZ, gB_sZ, gO_sZ, gX_sZ, gF_sO, gA_sO, gL_sO, gB_sO, gZ_sO, gX_sO, gF_sX, gA_sX, gL_sX, gB_sX, gZ_sX, gO_sX, gF_tA, gL_tA, gB_tA, gZ_tA, gO_tA, gX_tA, gF_tL, gA_tL, gB_tL, gZ_tL, gO_tL, gX_tL, gF_tB, gA_tB, gL_tB, gZ_tB, gO_tB, gX_tB, gF_tZ, gA_tZ, gL_tZ, gB_tZ, gO_tZ, gX_tZ, gF_sF, gA_sA, gL_sL, gB_sB, gZ_sZ, gO_sO, gX_sX, gA_tA, gL_tL, gB_tB, gZ_tZ, reduceIte, Nat.reduceEqDiff, Nat.zero_ne_one, Nat.one_ne_zero, Nat.succ_ne_self, forall_eq, vpT, cpyT, nI_leI, nI_ltI, nI_eq, nI_m1, oI_eqn, oI_eqm, va_up_ne', va_up_eq, eq_self_iff_true, true_or, or_true, true_implies, not_true_eq_false, not_false_eq_true, false_implies, and_true, true_and, forall_const, implies_true, ne_eq, Nat.add_sub_cancel, nI_pos, ite_self]
    · simp (disch := omega) only [ofI1, nI_add, pk_mul, pk_sub, nI_clamp, imin_nI, imax_nI, nl_0, nl_1, nl_2, nl_3, nl_4, nl_5, nl_6, nl_7, nl_8, nl_9, nl_10, nl_11, nl_12, nl_13, nl_15, nl_16, nl_20, nl_24, nl_26, nl_30, nl_32, nl_36, nl_39, nl_40, nl_45, nl_48, nl_50, nl_57, nl_59, nl_60, nl_61, nl_62, nl_64, nl_72, nl_73, nl_80, nl_90, nl_97, nl_99, nl_100, nl_120, nl_122, nl_123, nl_127, nl_128, nl_199, nl_200, nl_255, nl_256, nl_290, nl_399, nl_400, nl_500, nl_512, nl_520, nl_600, nl_999, nl_1000, nl_2000, nl_9999, nl_10000, nl_14, nl_17, nl_18, nl_19, nl_21, nl_22, nl_23, nl_25, nl_27, nl_28, nl_29, nl_31, nl_33, nl_34, nl_35, nl_47, nl_51, nl_63, nl_110, nl_195, nl_240, nl_1370, nl_3710, nl_6030, nl_6690, nl_7490, nl_7610, nl_9170, nl_11570, gA_sF, gL_sF, gB_sF, gZ_sF, gO_sF, gX_sF, gF_sA, gL_sA, gB_sA, gZ_sA, gO_sA, gX_sA, gF_sL, gA_sL, gB_sL, gZ_sL, gO_sL, gX_sL, gF_sB, gA_sB, gL_sB, gZ_sB, gO_sB, gX_sB, gF_sZ, gA_sZ, gL_sZ, gB_sZ, gO_sZ, gX_sZ, gF_sO, gA_sO, gL_sO, gB_sO, gZ_sO, gX_sO, gF_sX, gA_sX, gL_sX, gB_sX, gZ_sX, gO_sX, gF_tA, gL_tA, gB_tA, gZ_tA, gO_tA, gX_tA, gF_tL, gA_tL, gB_tL, gZ_tL, gO_tL, gX_tL, gF_tB, gA_tB, gL_tB, gZ_tB, gO_tB, gX_tB, gF_tZ, gA_tZ, gL_tZ, gB_tZ, gO_tZ, gX_tZ, gF_sF, gA_sA, gL_sL, gB_sB, gZ_sZ, gO_sO, gX_sX, gA_tA, gL_tL, gB_tB, gZ_tZ, reduceIte, Nat.reduceEqDiff, Nat.zero_ne_one, Nat.one_ne_zero, Nat.succ_ne_self, forall_eq, vpT, cpyT, nI_leI, nI_ltI, nI_eq, nI_m1, oI_eqn, oI_eqm, va_up_ne', va_up_eq, eq_self_iff_true, true_or, or_true, true_implies, not_true_eq_false, not_false_eq_true, false_implies, and_true, true_and, forall_const, implies_true, ne_eq, Nat.add_sub_cancel, nI_pos, ite_self]; exact i2 j (by omega)
theorem M_apart {m : Md} {x y : List (Nat × Int32)} (ha : Held m x) (hb : Laid m y) (la : x.length ≤ 73) (lb : y.length ≤ 73) (oa : okL x) (ob : okL y) {Q : Int32 → Md → Prop} (hQ : ∀ m', Fr [(1, 27)] m m' → Q (nI (edD (lch x) (lch y) x.length y.length)) m') : qX12_apart m Q := by
  have hD := edD_le (lch x) (lch y)
  unfold qX12_apart
  rw [hb.1, nl_1, nI_add]
  generalize hW : y.length + 1 = w
  refine pk_loop (fun k i s => qX12_apart_9 Q k s (nI w) (nI i)) (fun i s => Fr [(1, 27)] m s ∧ (0 < i → ∀ k, k ≤ y.length → gA s 27 (w * (i - 1) + k) = nI (edD (lch x) (lch y) (i - 1) k))) (x.length + 1) 0 m (by omega) ⟨Fr.rf, fun h => by omega⟩ (fun k s hI => ?_) (fun ko i s hi hI ih => ?_)
  · obtain ⟨i1, i2⟩ := hI
    have g21 : gF s 21 = nI y.length := (i1.1 21 (by decide)).trans hb.1
    have g26 : gF s 26 = nI x.length := (i1.1 26 (by decide)).trans ha.1
    have hm1 : w * x.length ≤ 74 * 73 := Nat.mul_le_mul (by omega) la
    unfold qX12_apart_9
    rw [g21, g26, pk_mul, nI_add, nI_clamp (by omega)]
    refine c_y (nI_lt (by omega) (by omega)) ⟨vp_in_nI (by omega) (by decide), ?_⟩
    have := i2 (by omega) y.length (Nat.le_refl _)
    rw [Nat.add_sub_cancel] at this
    rw [this]
    exact hQ s i1
  · obtain ⟨i1, i2⟩ := hI
    have g26 : gF s 26 = nI x.length := (i1.1 26 (by decide)).trans ha.1
    have hm1 : w * i ≤ 74 * 73 := Nat.mul_le_mul (by omega) (by omega)
    unfold qX12_apart_9
    rw [g26]
    refine c_n (nI_nlt (by omega) (by omega)) ?_
    refine pk_loop (fun k j t => qX12_apart_19 Q _ k t (nI w) (nI i) (nI j)) (fun j t => Fr [(1, 27)] m t ∧ (0 < i → ∀ k, k ≤ y.length → gA t 27 (w * (i - 1) + k) = nI (edD (lch x) (lch y) (i - 1) k)) ∧ ∀ k, k < j → gA t 27 (w * i + k) = nI (edD (lch x) (lch y) i k)) (y.length + 1) 0 s (by omega) ⟨i1, i2, fun k hk => by omega⟩ (fun k t hJ => ?_) (fun k j t hj hJ jh => ?_)
    · obtain ⟨j1, j2, j3⟩ := hJ
      have g21 : gF t 21 = nI y.length := (j1.1 21 (by decide)).trans hb.1
      unfold qX12_apart_19
      rw [g21, ofI1, nI_add]
      exact c_y (nI_lt (by omega) (by omega)) (ih t ⟨j1, fun _ k hk => j3 k (by omega)⟩)
    · obtain ⟨j1, j2, j3⟩ := hJ
      have g21 : gF t 21 = nI y.length := (j1.1 21 (by decide)).trans hb.1
      have g25 : gA t 25 = gA m 25 := j1.2.1 25 (by decide)
      have g19 : gA t 19 = gA m 19 := j1.2.1 19 (by decide)
      have k35 : (i = 0 ∨ j = 0) → qX12_apart_35 Q (qX12_apart_9 Q ko) (qX12_apart_19 Q (qX12_apart_9 Q ko) k) t (nI w) (nI i) (nI j) := by
        intro h0
        have hij : edD (lch x) (lch y) i j = i + j := by
          rcases h0 with h | h
          · subst h; show j = 0 + j; omega
          · subst h; rw [edD_0]; rfl
        unfold qX12_apart_35
        simp (disch := omega) only [ofI1, nI_add, pk_mul, pk_sub, nI_clamp, imin_nI, imax_nI, nl_0, nl_1, nl_2, nl_3, nl_4, nl_5, nl_6, nl_7, nl_8, nl_9, nl_10, nl_11, nl_12, nl_13, nl_15, nl_16, nl_20, nl_24, nl_26, nl_30, nl_32, nl_36, nl_39, nl_40, nl_45, nl_48, nl_50, nl_57, nl_59, nl_60, nl_61, nl_62, nl_64, nl_72, nl_73, nl_80, nl_90, nl_97, nl_99, nl_100, nl_120, nl_122, nl_123, nl_127, nl_128, nl_199, nl_200, nl_255, nl_256, nl_290, nl_399, nl_400, nl_500, nl_512, nl_520, nl_600, nl_999, nl_1000, nl_2000, nl_9999, nl_10000, nl_14, nl_17, nl_18, nl_19, nl_21, nl_22, nl_23, nl_25, nl_27, nl_28, nl_29, nl_31, nl_33, nl_34, nl_35, nl_47, nl_51, nl_63, nl_110, nl_195, nl_240, nl_1370, nl_3710, nl_6030, nl_6690, nl_7490, nl_7610, nl_9170, nl_11570, gA_sF, gL_sF, gB_sF, gZ_sF, gO_sF, gX_sF, gF_sA, gL_sA, gB_sA, gZ_sA, gO_sA, gX_sA, gF_sL, gA_sL, gB_sL, gZ_sL, gO_sL, gX_sL, gF_sB, gA_sB, gL_sB, gZ_sB, gO_sB, gX_sB, gF_sZ, gA_sZ, gL_sZ, gB_sZ, gO_sZ, gX_sZ, gF_sO, gA_sO, gL_sO, gB_sO, gZ_sO, gX_sO, gF_sX, gA_sX, gL_sX, gB_sX, gZ_sX, gO_sX, gF_tA, gL_tA, gB_tA, gZ_tA, gO_tA, gX_tA, gF_tL, gA_tL, gB_tL, gZ_tL, gO_tL, gX_tL, gF_tB, gA_tB, gL_tB, gZ_tB, gO_tB, gX_tB, gF_tZ, gA_tZ, gL_tZ, gB_tZ, gO_tZ, gX_tZ, gF_sF, gA_sA, gL_sL, gB_sB, gZ_sZ, gO_sO, gX_sX, gA_tA, gL_tL, gB_tB, gZ_tZ, reduceIte, Nat.reduceEqDiff, Nat.zero_ne_one, Nat.one_ne_zero, Nat.succ_ne_self, forall_eq, vpT, cpyT, nI_leI, nI_ltI, nI_eq, nI_m1, oI_eqn, oI_eqm, va_up_ne', va_up_eq, eq_self_iff_true, true_or, or_true, true_implies, not_true_eq_false, not_false_eq_true, false_implies, and_true, true_and, forall_const, implies_true, ne_eq, Nat.add_sub_cancel, nI_pos, ite_self]
        refine jh _ ⟨j1.tr (Fr.tA 27 _ _ (by decide)), fun hp k hk => ?_, fun k hk => ?_⟩
        · have e : w * i = w * (i - 1) + w := by
            obtain ⟨d, rfl⟩ : ∃ d, i = d + 1 := ⟨i - 1, by omega⟩
            rw [Nat.add_sub_cancel, Nat.mul_succ]
          simp (disch := omega) only [ofI1, nI_add, pk_mul, pk_sub, nI_clamp, imin_nI, imax_nI, nl_0, nl_1, nl_2, nl_3, nl_4, nl_5, nl_6, nl_7, nl_8, nl_9, nl_10, nl_11, nl_12, nl_13, nl_15, nl_16, nl_20, nl_24, nl_26, nl_30, nl_32, nl_36, nl_39, nl_40, nl_45, nl_48, nl_50, nl_57, nl_59, nl_60, nl_61, nl_62, nl_64, nl_72, nl_73, nl_80, nl_90, nl_97, nl_99, nl_100, nl_120, nl_122, nl_123, nl_127, nl_128, nl_199, nl_200, nl_255, nl_256, nl_290, nl_399, nl_400, nl_500, nl_512, nl_520, nl_600, nl_999, nl_1000, nl_2000, nl_9999, nl_10000, nl_14, nl_17, nl_18, nl_19, nl_21, nl_22, nl_23, nl_25, nl_27, nl_28, nl_29, nl_31, nl_33, nl_34, nl_35, nl_47, nl_51, nl_63, nl_110, nl_195, nl_240, nl_1370, nl_3710, nl_6030, nl_6690, nl_7490, nl_7610, nl_9170, nl_11570, gA_sF, gL_sF, gB_sF, gZ_sF, gO_sF, gX_sF, gF_sA, gL_sA, gB_sA, gZ_sA, gO_sA, gX_sA, gF_sL, gA_sL, gB_sL, gZ_sL, gO_sL, gX_sL, gF_sB, gA_sB, gL_sB, gZ_sB, gO_sB, gX_sB, gF_sZ, gA_sZ, gL_sZ, gB_sZ, gO_sZ, gX_sZ, gF_sO, gA_sO, gL_sO, gB_sO, gZ_sO, gX_sO, gF_sX, gA_sX, gL_sX, gB_sX, gZ_sX, gO_sX, gF_tA, gL_tA, gB_tA, gZ_tA, gO_tA, gX_tA, gF_tL, gA_tL, gB_tL, gZ_tL, gO_tL, gX_tL, gF_tB, gA_tB, gL_tB, gZ_tB, gO_tB, gX_tB, gF_tZ, gA_tZ, gL_tZ, gB_tZ, gO_tZ, gX_tZ, gF_sF, gA_sA, gL_sL, gB_sB, gZ_sZ, gO_sO, gX_sX, gA_tA, gL_tL, gB_tB, gZ_tZ, reduceIte, Nat.reduceEqDiff, Nat.zero_ne_one, Nat.one_ne_zero, Nat.succ_ne_self, forall_eq, vpT, cpyT, nI_leI, nI_ltI, nI_eq, nI_m1, oI_eqn, oI_eqm, va_up_ne', va_up_eq, eq_self_iff_true, true_or, or_true, true_implies, not_true_eq_false, not_false_eq_true, false_implies, and_true, true_and, forall_const, implies_true, ne_eq, Nat.add_sub_cancel, nI_pos, ite_self]; exact j2 hp k hk
        · by_cases e : k = j
          · subst e; simp (disch := omega) only [ofI1, nI_add, pk_mul, pk_sub, nI_clamp, imin_nI, imax_nI, nl_0, nl_1, nl_2, nl_3, nl_4, nl_5, nl_6, nl_7, nl_8, nl_9, nl_10, nl_11, nl_12, nl_13, nl_15, nl_16, nl_20, nl_24, nl_26, nl_30, nl_32, nl_36, nl_39, nl_40, nl_45, nl_48, nl_50, nl_57, nl_59, nl_60, nl_61, nl_62, nl_64, nl_72, nl_73, nl_80, nl_90, nl_97, nl_99, nl_100, nl_120, nl_122, nl_123, nl_127, nl_128, nl_199, nl_200, nl_255, nl_256, nl_290, nl_399, nl_400, nl_500, nl_512, nl_520, nl_600, nl_999, nl_1000, nl_2000, nl_9999, nl_10000, nl_14, nl_17, nl_18, nl_19, nl_21, nl_22, nl_23, nl_25, nl_27, nl_28, nl_29, nl_31, nl_33, nl_34, nl_35, nl_47, nl_51, nl_63, nl_110, nl_195, nl_240, nl_1370, nl_3710, nl_6030, nl_6690, nl_7490, nl_7610, nl_9170, nl_11570, gA_sF, gL_sF, gB_sF, gZ_sF, gO_sF, gX_sF, gF_sA, gL_sA, gB_sA, gZ_sA, gO_sA, gX_sA, gF_sL, gA_sL, gB_sL, gZ_sL, gO_sL, gX_sL, gF_sB, gA_sB, gL_sB, gZ_sB, gO_sB, gX_sB, gF_sZ, gA_sZ, gL_sZ, gB_sZ, gO_sZ, gX_sZ, gF_sO, gA_sO, gL_sO, gB_sO, gZ_sO, gX_sO, gF_sX, gA_sX, gL_sX, gB_sX, gZ_sX, gO_sX, gF_tA, gL_tA, gB_tA, gZ_tA, gO_tA, gX_tA, gF_tL, gA_tL, gB_tL, gZ_tL, gO_tL, gX_tL, gF_tB, gA_tB, gL_tB, gZ_tB, gO_tB, gX_tB, gF_tZ, gA_tZ, gL_tZ, gB_tZ, gO_tZ, gX_tZ, gF_sF, gA_sA, gL_sL, gB_sB, gZ_sZ, gO_sO, gX_sX, gA_tA, gL_tL, gB_tB, gZ_tZ, reduceIte, Nat.reduceEqDiff, Nat.zero_ne_one, Nat.one_ne_zero, Nat.succ_ne_self, forall_eq, vpT, cpyT, nI_leI, nI_ltI, nI_eq, nI_m1, oI_eqn, oI_eqm, va_up_ne', va_up_eq, eq_self_iff_true, true_or, or_true, true_implies, not_true_eq_false, not_false_eq_true, false_implies, and_true, true_and, forall_const, implies_true, ne_eq, Nat.add_sub_cancel, nI_pos, ite_self]; rw [hij]
          · simp (disch := omega) only [ofI1, nI_add, pk_mul, pk_sub, nI_clamp, imin_nI, imax_nI, nl_0, nl_1, nl_2, nl_3, nl_4, nl_5, nl_6, nl_7, nl_8, nl_9, nl_10, nl_11, nl_12, nl_13, nl_15, nl_16, nl_20, nl_24, nl_26, nl_30, nl_32, nl_36, nl_39, nl_40, nl_45, nl_48, nl_50, nl_57, nl_59, nl_60, nl_61, nl_62, nl_64, nl_72, nl_73, nl_80, nl_90, nl_97, nl_99, nl_100, nl_120, nl_122, nl_123, nl_127, nl_128, nl_199, nl_200, nl_255, nl_256, nl_290, nl_399, nl_400, nl_500, nl_512, nl_520, nl_600, nl_999, nl_1000, nl_2000, nl_9999, nl_10000, nl_14, nl_17, nl_18, nl_19, nl_21, nl_22, nl_23, nl_25, nl_27, nl_28, nl_29, nl_31, nl_33, nl_34, nl_35, nl_47, nl_51, nl_63, nl_110, nl_195, nl_240, nl_1370, nl_3710, nl_6030, nl_6690, nl_7490, nl_7610, nl_9170, nl_11570, gA_sF, gL_sF, gB_sF, gZ_sF, gO_sF, gX_sF, gF_sA, gL_sA, gB_sA, gZ_sA, gO_sA, gX_sA, gF_sL, gA_sL, gB_sL, gZ_sL, gO_sL, gX_sL, gF_sB, gA_sB, gL_sB, gZ_sB, gO_sB, gX_sB, gF_sZ, gA_sZ, gL_sZ, gB_sZ, gO_sZ, gX_sZ, gF_sO, gA_sO, gL_sO, gB_sO, gZ_sO, gX_sO, gF_sX, gA_sX, gL_sX, gB_sX, gZ_sX, gO_sX, gF_tA, gL_tA, gB_tA, gZ_tA, gO_tA, gX_tA, gF_tL, gA_tL, gB_tL, gZ_tL, gO_tL, gX_tL, gF_tB, gA_tB, gL_tB, gZ_tB, gO_tB, gX_tB, gF_tZ, gA_tZ, gL_tZ, gB_tZ, gO_tZ, gX_tZ, gF_sF, gA_sA, gL_sL, gB_sB, gZ_sZ, gO_sO, gX_sX, gA_tA, gL_tL, gB_tB, gZ_tZ, reduceIte, Nat.reduceEqDiff, Nat.zero_ne_one, Nat.one_ne_zero, Nat.succ_ne_self, forall_eq, vpT, cpyT, nI_leI, nI_ltI, nI_eq, nI_m1, oI_eqn, oI_eqm, va_up_ne', va_up_eq, eq_self_iff_true, true_or, or_true, true_implies, not_true_eq_false, not_false_eq_true, false_implies, and_true, true_and, forall_const, implies_true, ne_eq, Nat.add_sub_cancel, nI_pos, ite_self]; exact j3 k (by omega)
      unfold qX12_apart_19
      rw [g21]
      refine c_n (nI_nlt (by omega) (by omega)) (c_eq rfl nl_0 (by omega) (by decide) (fun e => k35 (Or.inl e)) (fun ei => c_eq' rfl nl_0 (by omega) (by decide) (fun e => k35 (Or.inr e)) (fun ej => ?_)))
      obtain ⟨i, rfl⟩ : ∃ d, i = d + 1 := ⟨i - 1, by omega⟩
      obtain ⟨j, rfl⟩ : ∃ d, j = d + 1 := ⟨j - 1, by omega⟩
      have e : w * (i + 1) = w * i + w := Nat.mul_succ w i
      rw [Nat.add_sub_cancel] at j2
      have q1 := j2 (by omega) j (by omega)
      have q2 := j2 (by omega) (j + 1) (by omega)
      have q3 := j3 j (by omega)
      have k1 := hD i j
      have k2 := hD i (j + 1)
      have k3 := hD (i + 1) j
      have cx := lch_lt oa i
      have cy := lch_lt ob j
      have hx := ha.2 i (by omega)
      have hy := hb.ch (k := j) (by omega)
      have k89 : ∀ z0 : Nat, z0 = (if lch x i = lch y j then 0 else 1) → qX12_apart_89 Q (qX12_apart_9 Q ko) (qX12_apart_19 Q (qX12_apart_9 Q ko) k) t (nI w) (nI (i + 1)) (nI (j + 1)) (nI z0) (nI (edD (lch x) (lch y) i j)) := by
        intro z0 hz
        have hz2 : z0 ≤ 1 := by rw [hz]; split <;> omega
        have e4 : w * (i + 1) + (j + 1) - 1 = w * (i + 1) + j := by omega
        have e5 : ∀ a : Nat, 1 + a = a + 1 := fun a => by omega
        unfold qX12_apart_89
        simp (disch := omega) only [q2, q3, e4, e5, ofI1, nI_add, pk_mul, pk_sub, nI_clamp, imin_nI, imax_nI, nl_0, nl_1, nl_2, nl_3, nl_4, nl_5, nl_6, nl_7, nl_8, nl_9, nl_10, nl_11, nl_12, nl_13, nl_15, nl_16, nl_20, nl_24, nl_26, nl_30, nl_32, nl_36, nl_39, nl_40, nl_45, nl_48, nl_50, nl_57, nl_59, nl_60, nl_61, nl_62, nl_64, nl_72, nl_73, nl_80, nl_90, nl_97, nl_99, nl_100, nl_120, nl_122, nl_123, nl_127, nl_128, nl_199, nl_200, nl_255, nl_256, nl_290, nl_399, nl_400, nl_500, nl_512, nl_520, nl_600, nl_999, nl_1000, nl_2000, nl_9999, nl_10000, nl_14, nl_17, nl_18, nl_19, nl_21, nl_22, nl_23, nl_25, nl_27, nl_28, nl_29, nl_31, nl_33, nl_34, nl_35, nl_47, nl_51, nl_63, nl_110, nl_195, nl_240, nl_1370, nl_3710, nl_6030, nl_6690, nl_7490, nl_7610, nl_9170, nl_11570, gA_sF, gL_sF, gB_sF, gZ_sF, gO_sF, gX_sF, gF_sA, gL_sA, gB_sA, gZ_sA, gO_sA, gX_sA, gF_sL, gA_sL, gB_sL, gZ_sL, gO_sL, gX_sL, gF_sB, gA_sB, gL_sB, gZ_sB, gO_sB, gX_sB, gF_sZ, gA_sZ, gL_sZ, gB_sZ, gO_sZ, gX_sZ, gF_sO, gA_sO, gL_sO, gB_sO, gZ_sO, gX_sO, gF_sX, gA_sX, gL_sX, gB_sX, gZ_sX, gO_sX, gF_tA, gL_tA, gB_tA, gZ_tA, gO_tA, gX_tA, gF_tL, gA_tL, gB_tL, gZ_tL, gO_tL, gX_tL, gF_tB, gA_tB, gL_tB, gZ_tB, gO_tB, gX_tB, gF_tZ, gA_tZ, gL_tZ, gB_tZ, gO_tZ, gX_tZ, gF_sF, gA_sA, gL_sL, gB_sB, gZ_sZ, gO_sO, gX_sX, gA_tA, gL_tL, gB_tB, gZ_tZ, reduceIte, Nat.reduceEqDiff, Nat.zero_ne_one, Nat.one_ne_zero, Nat.succ_ne_self, forall_eq, vpT, cpyT, nI_leI, nI_ltI, nI_eq, nI_m1, oI_eqn, oI_eqm, va_up_ne', va_up_eq, eq_self_iff_true, true_or, or_true, true_implies, not_true_eq_false, not_false_eq_true, false_implies, and_true, true_and, forall_const, implies_true, ne_eq, Nat.add_sub_cancel, nI_pos, ite_self]
        refine jh _ ⟨j1.tr (Fr.tA 27 _ _ (by decide)), fun hp k hk => ?_, fun k hk => ?_⟩
        · rw [Nat.add_sub_cancel]
          simp (disch := omega) only [ofI1, nI_add, pk_mul, pk_sub, nI_clamp, imin_nI, imax_nI, nl_0, nl_1, nl_2, nl_3, nl_4, nl_5, nl_6, nl_7, nl_8, nl_9, nl_10, nl_11, nl_12, nl_13, nl_15, nl_16, nl_20, nl_24, nl_26, nl_30, nl_32, nl_36, nl_39, nl_40, nl_45, nl_48, nl_50, nl_57, nl_59, nl_60, nl_61, nl_62, nl_64, nl_72, nl_73, nl_80, nl_90, nl_97, nl_99, nl_100, nl_120, nl_122, nl_123, nl_127, nl_128, nl_199, nl_200, nl_255, nl_256, nl_290, nl_399, nl_400, nl_500, nl_512, nl_520, nl_600, nl_999, nl_1000, nl_2000, nl_9999, nl_10000, nl_14, nl_17, nl_18, nl_19, nl_21, nl_22, nl_23, nl_25, nl_27, nl_28, nl_29, nl_31, nl_33, nl_34, nl_35, nl_47, nl_51, nl_63, nl_110, nl_195, nl_240, nl_1370, nl_3710, nl_6030, nl_6690, nl_7490, nl_7610, nl_9170, nl_11570, gA_sF, gL_sF, gB_sF, gZ_sF, gO_sF, gX_sF, gF_sA, gL_sA, gB_sA, gZ_sA, gO_sA, gX_sA, gF_sL, gA_sL, gB_sL, gZ_sL, gO_sL, gX_sL, gF_sB, gA_sB, gL_sB, gZ_sB, gO_sB, gX_sB, gF_sZ, gA_sZ, gL_sZ, gB_sZ, gO_sZ, gX_sZ, gF_sO, gA_sO, gL_sO, gB_sO, gZ_sO, gX_sO, gF_sX, gA_sX, gL_sX, gB_sX, gZ_sX, gO_sX, gF_tA, gL_tA, gB_tA, gZ_tA, gO_tA, gX_tA, gF_tL, gA_tL, gB_tL, gZ_tL, gO_tL, gX_tL, gF_tB, gA_tB, gL_tB, gZ_tB, gO_tB, gX_tB, gF_tZ, gA_tZ, gL_tZ, gB_tZ, gO_tZ, gX_tZ, gF_sF, gA_sA, gL_sL, gB_sB, gZ_sZ, gO_sO, gX_sX, gA_tA, gL_tL, gB_tB, gZ_tZ, reduceIte, Nat.reduceEqDiff, Nat.zero_ne_one, Nat.one_ne_zero, Nat.succ_ne_self, forall_eq, vpT, cpyT, nI_leI, nI_ltI, nI_eq, nI_m1, oI_eqn, oI_eqm, va_up_ne', va_up_eq, eq_self_iff_true, true_or, or_true, true_implies, not_true_eq_false, not_false_eq_true, false_implies, and_true, true_and, forall_const, implies_true, ne_eq, Nat.add_sub_cancel, nI_pos, ite_self]; exact j2 hp k hk
        · by_cases e : k = j + 1
          · subst e; simp (disch := omega) only [ofI1, nI_add, pk_mul, pk_sub, nI_clamp, imin_nI, imax_nI, nl_0, nl_1, nl_2, nl_3, nl_4, nl_5, nl_6, nl_7, nl_8, nl_9, nl_10, nl_11, nl_12, nl_13, nl_15, nl_16, nl_20, nl_24, nl_26, nl_30, nl_32, nl_36, nl_39, nl_40, nl_45, nl_48, nl_50, nl_57, nl_59, nl_60, nl_61, nl_62, nl_64, nl_72, nl_73, nl_80, nl_90, nl_97, nl_99, nl_100, nl_120, nl_122, nl_123, nl_127, nl_128, nl_199, nl_200, nl_255, nl_256, nl_290, nl_399, nl_400, nl_500, nl_512, nl_520, nl_600, nl_999, nl_1000, nl_2000, nl_9999, nl_10000, nl_14, nl_17, nl_18, nl_19, nl_21, nl_22, nl_23, nl_25, nl_27, nl_28, nl_29, nl_31, nl_33, nl_34, nl_35, nl_47, nl_51, nl_63, nl_110, nl_195, nl_240, nl_1370, nl_3710, nl_6030, nl_6690, nl_7490, nl_7610, nl_9170, nl_11570, gA_sF, gL_sF, gB_sF, gZ_sF, gO_sF, gX_sF, gF_sA, gL_sA, gB_sA, gZ_sA, gO_sA, gX_sA, gF_sL, gA_sL, gB_sL, gZ_sL, gO_sL, gX_sL, gF_sB, gA_sB, gL_sB, gZ_sB, gO_sB, gX_sB, gF_sZ, gA_sZ, gL_sZ, gB_sZ, gO_sZ, gX_sZ, gF_sO, gA_sO, gL_sO, gB_sO, gZ_sO, gX_sO, gF_sX, gA_sX, gL_sX, gB_sX, gZ_sX, gO_sX, gF_tA, gL_tA, gB_tA, gZ_tA, gO_tA, gX_tA, gF_tL, gA_tL, gB_tL, gZ_tL, gO_tL, gX_tL, gF_tB, gA_tB, gL_tB, gZ_tB, gO_tB, gX_tB, gF_tZ, gA_tZ, gL_tZ, gB_tZ, gO_tZ, gX_tZ, gF_sF, gA_sA, gL_sL, gB_sB, gZ_sZ, gO_sO, gX_sX, gA_tA, gL_tL, gB_tB, gZ_tZ, reduceIte, Nat.reduceEqDiff, Nat.zero_ne_one, Nat.one_ne_zero, Nat.succ_ne_self, forall_eq, vpT, cpyT, nI_leI, nI_ltI, nI_eq, nI_m1, oI_eqn, oI_eqm, va_up_ne', va_up_eq, eq_self_iff_true, true_or, or_true, true_implies, not_true_eq_false, not_false_eq_true, false_implies, and_true, true_and, forall_const, implies_true, ne_eq, Nat.add_sub_cancel, nI_pos, ite_self]; rw [edD_s, hz]
          · simp (disch := omega) only [ofI1, nI_add, pk_mul, pk_sub, nI_clamp, imin_nI, imax_nI, nl_0, nl_1, nl_2, nl_3, nl_4, nl_5, nl_6, nl_7, nl_8, nl_9, nl_10, nl_11, nl_12, nl_13, nl_15, nl_16, nl_20, nl_24, nl_26, nl_30, nl_32, nl_36, nl_39, nl_40, nl_45, nl_48, nl_50, nl_57, nl_59, nl_60, nl_61, nl_62, nl_64, nl_72, nl_73, nl_80, nl_90, nl_97, nl_99, nl_100, nl_120, nl_122, nl_123, nl_127, nl_128, nl_199, nl_200, nl_255, nl_256, nl_290, nl_399, nl_400, nl_500, nl_512, nl_520, nl_600, nl_999, nl_1000, nl_2000, nl_9999, nl_10000, nl_14, nl_17, nl_18, nl_19, nl_21, nl_22, nl_23, nl_25, nl_27, nl_28, nl_29, nl_31, nl_33, nl_34, nl_35, nl_47, nl_51, nl_63, nl_110, nl_195, nl_240, nl_1370, nl_3710, nl_6030, nl_6690, nl_7490, nl_7610, nl_9170, nl_11570, gA_sF, gL_sF, gB_sF, gZ_sF, gO_sF, gX_sF, gF_sA, gL_sA, gB_sA, gZ_sA, gO_sA, gX_sA, gF_sL, gA_sL, gB_sL, gZ_sL, gO_sL, gX_sL, gF_sB, gA_sB, gL_sB, gZ_sB, gO_sB, gX_sB, gF_sZ, gA_sZ, gL_sZ, gB_sZ, gO_sZ, gX_sZ, gF_sO, gA_sO, gL_sO, gB_sO, gZ_sO, gX_sO, gF_sX, gA_sX, gL_sX, gB_sX, gZ_sX, gO_sX, gF_tA, gL_tA, gB_tA, gZ_tA, gO_tA, gX_tA, gF_tL, gA_tL, gB_tL, gZ_tL, gO_tL, gX_tL, gF_tB, gA_tB, gL_tB, gZ_tB, gO_tB, gX_tB, gF_tZ, gA_tZ, gL_tZ, gB_tZ, gO_tZ, gX_tZ, gF_sF, gA_sA, gL_sL, gB_sB, gZ_sZ, gO_sO, gX_sX, gA_tA, gL_tL, gB_tB, gZ_tZ, reduceIte, Nat.reduceEqDiff, Nat.zero_ne_one, Nat.one_ne_zero, Nat.succ_ne_self, forall_eq, vpT, cpyT, nI_leI, nI_ltI, nI_eq, nI_m1, oI_eqn, oI_eqm, va_up_ne', va_up_eq, eq_self_iff_true, true_or, or_true, true_implies, not_true_eq_false, not_false_eq_true, false_implies, and_true, true_and, forall_const, implies_true, ne_eq, Nat.add_sub_cancel, nI_pos, ite_self]; exact j3 k (by omega)
      have e6 : w * i + (j + 1) - 1 = w * i + j := by omega
      rw [nl_1, pk_sub (by omega), pk_sub (by omega), Nat.add_sub_cancel, Nat.add_sub_cancel, pk_mul, nI_add, pk_sub (by omega), e6, nI_clamp (by omega), nI_clamp (by omega), nI_clamp (by omega), g25, g19, hx, hy, q1]
      refine ⟨vp_in_nI (by omega) (by decide), vp_in_nI (by omega) (by decide), vp_in_nI (by omega) (by decide), c_eq' rfl rfl (by omega) (by omega) (fun e => k89 0 (by rw [if_pos e])) (fun e => k89 1 (by rw [if_neg e]))⟩
theorem N_editsOfNames {vw o1 o2 sp : Md} {A : Nat → Nat → Nat} {c n k y : Nat} (hw : Wf A c) (hn : Nsc sp A) (hnn : n < A 52 0) (hkk : k < A 52 0) (hy : y < 400) {Q : Int32 → Md → Md → Md → Md → Prop} (hQ : ∀ vw' o1' o2', Fr [(1, 8)] vw vw' → Q (nI (edD (lch (spl A n y)) (lch (spl A k y)) (spl A n y).length (spl A k y).length)) vw' o1' o2' sp) : qX10_editsOfNames vw o1 o2 sp (nI n) (nI k) (nI y) Q := by
  unfold qX10_editsOfNames
  intro w1 hw1 w2 hw2
  have l1 := splL hw n y
  have l2 := splL hw k y
  refine N_spellInto hw hn.1 hn.2 hnn hy (RowIs_nil (u := w1) (by rw [hw1]; rfl)) (by simp) (fun v1 f1 r1 => ?_)
  refine N_spellInto hw hn.1 hn.2 hkk hy (RowIs_nil (u := w2) (by rw [hw2]; rfl)) (by simp) (fun v2 f2 r2 => ?_)
  rw [List.nil_append] at r1 r2
  exact N_editsOfRows r1 r2 (by omega) (by omega) (splO hw hnn y) (splO hw hkk y) (fun u' fu => hQ u' v1 v2 fu)
theorem M_editsOf {m : Md} {A : Nat → Nat → Nat} {c n k y : Nat} (hw : Wf A c) (hm : MW (gA m 1) A) (hnn : n < A 52 0) (hkk : k < A 52 0) (hy : y < 400) {Q : Int32 → Md → Prop} (hQ : ∀ m', Fr [(0, 21), (1, 19), (1, 20), (0, 26), (1, 25), (1, 27)] m m' → Q (nI (edD (lch (spl A n y)) (lch (spl A k y)) (spl A n y).length (spl A k y).length)) m') : qX12_editsOf m (nI n) (nI k) (nI y) Q := by
  unfold qX12_editsOf
  intro w1 hw1
  have l1 := splL hw n y
  have l2 := splL hw k y
  have f1 : Fr [(0, 21), (1, 19), (1, 20), (0, 26), (1, 25), (1, 27)] m w1 := by rw [hw1]; exact Fr.sF 21 _ (by decide)
  refine M_spells hw (by rw [f1.2.1 1 (by decide)]; exact hm) hnn hy (Laid_nil (u := w1) (by rw [hw1]; rfl)) (by simp) (fun m2 f2 h2 => ?_)
  rw [List.nil_append] at h2
  refine M_holds h2 (by omega) (fun m3 f3 h3 => ?_)
  intro w4 hw4
  have f4 : Fr [(0, 21)] m3 w4 := by rw [hw4]; exact Fr.sF 21 _ (by decide)
  have fa : Fr [(0, 21), (1, 19), (1, 20), (0, 26), (1, 25), (1, 27)] m w4 := f1.tr ((f2.mono (by decide)).tr ((f3.mono (by decide)).tr (f4.mono (by decide))))
  refine M_spells hw (by rw [fa.2.1 1 (by decide)]; exact hm) hkk hy (Laid_nil (u := w4) (by rw [hw4]; rfl)) (by simp) (fun m5 f5 h5 => ?_)
  rw [List.nil_append] at h5
  refine M_apart ((h3.fr f4 (by decide) (by decide)).fr f5 (by decide) (by decide)) h5 (by omega) (by omega) (splO hw hnn y) (splO hw hkk y) (fun m6 f6 => hQ m6 (fa.tr ((f5.mono (by decide)).tr (f6.mono (by decide)))))
theorem sim_edits {c : Nat} {nb m st la sp ac bd sg vw o1 o2 : Md} (hR : RW c m st la sp ac bd sg) {x1 x2 x3 : Int32} {Q : Int32 → Md → Md → Md → Md → Md → Md → Int32 → Md → Prop} (hQ : ∀ r vw' o1' o2' m', Fr [(0, 21), (1, 19), (1, 20), (0, 26), (1, 25), (1, 27)] m m' → Q r nb st sp vw' o1' o2' r m') : qX11_edits nb st sp vw o1 o2 x1 x2 x3 (fun r nb' st' sp' vw' o1' o2' => qX12_edits m x1 x2 x3 (fun r' m' => Q r nb' st' sp' vw' o1' o2' r' m')) := by
  obtain ⟨A, hm, hw, hs, hn⟩ := id hR
  have e2 : gA m 1 2 = nI (A 52 0) := hm.1.2.2.1
  have s2 : gF sp 0 = nI (A 52 0) := hn.2.1.1.1
  have b2 : A 52 0 ≤ 80 := hw.1.2.2.1
  unfold qX11_edits qX12_edits
  rcases ix32 x1 (n := A 52 0) (by omega) with h | ⟨n, hnn, rfl⟩
  · exact sp_has0 s2 (by omega) h (b_0' (m_isNa0 e2 (by omega) h (b_0' (hQ _ _ _ _ _ Fr.rf))))
  refine sp_has1 s2 (by omega) hnn (b_1' ?_)
  rcases ix32 x2 (n := A 52 0) (by omega) with h | ⟨k, hkk, rfl⟩
  · exact sp_has0 s2 (by omega) h (b_0' (m_isNa1 e2 (by omega) hnn (b_1' (m_isNa0 e2 (by omega) h (b_0' (hQ _ _ _ _ _ Fr.rf))))))
  refine sp_has1 s2 (by omega) hkk (b_1' ?_)
  rcases ix32 x3 (n := 400) (by omega) with h | ⟨y, hy, rfl⟩
  · exact q_yr0 h (b_0 (m_isNa1 e2 (by omega) hnn (b_1' (m_isNa1 e2 (by omega) hkk (b_1' (m_yr0 h (b_0' (hQ _ _ _ _ _ Fr.rf))))))))
  refine q_yr1 hy (b_1 (N_editsOfNames hw hn.2.1 hnn hkk hy (fun vw' o1' o2' _ => ?_)))
  exact m_isNa1 e2 (by omega) hnn (b_1' (m_isNa1 e2 (by omega) hkk (b_1' (m_yr1 hy (b_1' (M_editsOf hw hm hnn hkk hy (fun m' fm => hQ _ _ _ _ _ fm)))))))
