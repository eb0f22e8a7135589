def muF (a : Nat → Nat) (k v j : Nat) : Nat := if j < k then a j + 1 else if j = k then v + 1 else 0
theorem M_greedy {m u : Md} {A : Nat → Nat → Nat} {ca n co : Nat} {sg a : Nat → Nat} (hw : Wf A ca) (hm : MW (gA m 1) A) {FL : List (Nat × Nat)} (g1 : (1, 1) ∉ FL) (g31 : (1, 31) ∈ FL) (g35 : (4, 35) ∈ FL) (g32 : (1, 32) ∈ FL) (g33 : (1, 33) ∈ FL) (g34 : (0, 34) ∈ FL) (f : Fr FL m u) (e30 : gF u 30 = nI n) (e29 : ∀ j, j < n → gA u 29 j = nI (sg j)) (n9 : n ≤ 9) (hs : ∀ j, j < n → sg j < A 57 0) (o9 : co < 10000) (hB : Best (fun j => A 41 (sg j)) co (2 ^ n - 1) a) {Q : Int32 → Md → Prop} (hQ : ∀ m', Fr FL m m' → gF m' 34 = 1 → (∀ j, j < 40 → gA m' 33 j = plF sg a n j) → Q (nI (bs a (2 ^ n - 1) 9)) m') : ∃ n', qX12_plan_95 Q n' u (nI co) 0 := by
  have hp : 0 < 2 ^ n := Nat.two_pow_pos n
  have b7 : A 57 0 ≤ 40 := hw.1.2.2.2.2.2.2.2.1
  have a9 : ∀ j, j < n → a j < 9 := fun j hj => hB.2.1 j (by omega) (full_bit.2 hj)
  have fb : ∀ j, (2 ^ n - 1).testBit j = true → j < n := fun j hj => full_bit.1 hj
  have s72 := bs_sm hB.2.1
  have mw : ∀ v, Fr FL m v → MW (gA v 1) A := fun v fv => by rw [fv.2.1 1 g1]; exact hm
  have fm : ∀ {x y : Md}, Fr [(1, 31), (4, 35)] x y → Fr FL x y := fun h => h.mono (fun q hq => by
    rcases List.mem_cons.1 hq with rfl | hq
    · exact g31
    · rw [List.mem_singleton.1 hq]; exact g35)
  refine pk_loop (fun f i v => qX12_plan_95 Q f v (nI co) (nI i)) (fun i v => Fr FL m v ∧ gF v 30 = nI n ∧ (∀ j, j < n → gA v 29 j = nI (sg j)) ∧ ∀ j, j < i → gA v 32 j = -1) 9 0 u (by decide) ⟨f, e30, e29, fun j hj => by omega⟩ (fun f v hI => ?_) (fun f i v hi hI ih => ?_)
  rotate_left
  · obtain ⟨i1, i2, i3, i4⟩ := hI
    unfold qX12_plan_95
    refine c_n (nI_ge (b := 9) hi (by decide)) (c_in rfl hi (by decide) (fun w hw => ?_))
    subst hw
    rw [ofI1, nI_add]
    refine ih _ ⟨i1.tr (Fr.tA 32 _ _ g32), i2, i3, fun j hj => ?_⟩
    by_cases e : j = i
    · subst e; simp (disch := omega) only [ofI1, nI_add, pk_mul, pk_sub, nI_clamp, imin_nI, imax_nI, nl_0, nl_1, nl_2, nl_3, nl_4, nl_5, nl_6, nl_7, nl_8, nl_9, nl_10, nl_11, nl_12, nl_13, nl_15, nl_16, nl_20, nl_24, nl_26, nl_30, nl_32, nl_36, nl_39, nl_40, nl_45, nl_48, nl_50, nl_57, nl_59, nl_60, nl_61, nl_62, nl_64, nl_72, nl_73, nl_80, nl_90, nl_97, nl_99, nl_100, nl_120, nl_122, nl_123, nl_127, nl_128, nl_199, nl_200, nl_255, nl_256, nl_290, nl_399, nl_400, nl_500, nl_512, nl_520, nl_600, nl_999, nl_1000, nl_2000, nl_9999, nl_10000, nl_14, nl_17, nl_18, nl_19, nl_21, nl_22, nl_23, nl_25, nl_27, nl_28, nl_29, nl_31, nl_33, nl_34, nl_35, nl_47, nl_51, nl_63, nl_110, nl_195, nl_240, nl_1370, nl_3710, nl_6030, nl_6690, nl_7490, nl_7610, nl_9170, nl_11570, gA_sF, gL_sF, gB_sF, gZ_sF, gO_sF, gX_sF, gF_sA, gL_sA, gB_sA, gZ_sA, gO_sA, gX_sA, gF_sL, gA_sL, gB_sL, gZ_sL, gO_sL, gX_sL, gF_sB, gA_sB, gL_sB, gZ_sB, gO_sB, gX_sB, gF_sZ, gA_sZ, gL_sZ, gB_sZ, gO_sZ, gX_sZ, gF_sO, gA_sO, gL_sO, gB_sO, gZ_sO, gX_sO, gF_sX, gA_sX, gL_sX, gB_sX, gZ_sX, gO_sX, gF_tA, gL_tA, gB_tA, gZ_tA, gO_tA, gX_tA, gF_tL, gA_tL, gB_tL, gZ_tL, gO_tL, gX_tL, gF_tB, gA_tB, gL_tB, gZ_tB, gO_tB, gX_tB, gF_tZ, gA_tZ, gL_tZ, gB_tZ, gO_tZ, gX_tZ, gF_sF, gA_sA, gL_sL, gB_sB, gZ_sZ, gO_sO, gX_sX, gA_tA, gL_tL, gB_tB, gZ_tZ, reduceIte, Nat.reduceEqDiff, Nat.zero_ne_one, Nat.one_ne_zero, Nat.succ_ne_self, forall_eq, vpT, cpyT, nI_leI, nI_ltI, nI_eq, nI_m1, oI_eqn, oI_eqm, va_up_ne', va_up_eq, eq_self_iff_true, true_or, or_true, true_implies, not_true_eq_false, not_false_eq_true, false_implies, and_true, true_and, forall_const, implies_true, ne_eq, Nat.add_sub_cancel, nI_pos, ite_self]
    · have := i4 j (by omega)
      simp (disch := omega) only [this, ofI1, nI_add, pk_mul, pk_sub, nI_clamp, imin_nI, imax_nI, nl_0, nl_1, nl_2, nl_3, nl_4, nl_5, nl_6, nl_7, nl_8, nl_9, nl_10, nl_11, nl_12, nl_13, nl_15, nl_16, nl_20, nl_24, nl_26, nl_30, nl_32, nl_36, nl_39, nl_40, nl_45, nl_48, nl_50, nl_57, nl_59, nl_60, nl_61, nl_62, nl_64, nl_72, nl_73, nl_80, nl_90, nl_97, nl_99, nl_100, nl_120, nl_122, nl_123, nl_127, nl_128, nl_199, nl_200, nl_255, nl_256, nl_290, nl_399, nl_400, nl_500, nl_512, nl_520, nl_600, nl_999, nl_1000, nl_2000, nl_9999, nl_10000, nl_14, nl_17, nl_18, nl_19, nl_21, nl_22, nl_23, nl_25, nl_27, nl_28, nl_29, nl_31, nl_33, nl_34, nl_35, nl_47, nl_51, nl_63, nl_110, nl_195, nl_240, nl_1370, nl_3710, nl_6030, nl_6690, nl_7490, nl_7610, nl_9170, nl_11570, gA_sF, gL_sF, gB_sF, gZ_sF, gO_sF, gX_sF, gF_sA, gL_sA, gB_sA, gZ_sA, gO_sA, gX_sA, gF_sL, gA_sL, gB_sL, gZ_sL, gO_sL, gX_sL, gF_sB, gA_sB, gL_sB, gZ_sB, gO_sB, gX_sB, gF_sZ, gA_sZ, gL_sZ, gB_sZ, gO_sZ, gX_sZ, gF_sO, gA_sO, gL_sO, gB_sO, gZ_sO, gX_sO, gF_sX, gA_sX, gL_sX, gB_sX, gZ_sX, gO_sX, gF_tA, gL_tA, gB_tA, gZ_tA, gO_tA, gX_tA, gF_tL, gA_tL, gB_tL, gZ_tL, gO_tL, gX_tL, gF_tB, gA_tB, gL_tB, gZ_tB, gO_tB, gX_tB, gF_tZ, gA_tZ, gL_tZ, gB_tZ, gO_tZ, gX_tZ, gF_sF, gA_sA, gL_sL, gB_sB, gZ_sZ, gO_sO, gX_sX, gA_tA, gL_tL, gB_tB, gZ_tZ, reduceIte, Nat.reduceEqDiff, Nat.zero_ne_one, Nat.one_ne_zero, Nat.succ_ne_self, forall_eq, vpT, cpyT, nI_leI, nI_ltI, nI_eq, nI_m1, oI_eqn, oI_eqm, va_up_ne', va_up_eq, eq_self_iff_true, true_or, or_true, true_implies, not_true_eq_false, not_false_eq_true, false_implies, and_true, true_and, forall_const, implies_true, ne_eq, Nat.add_sub_cancel, nI_pos, ite_self]
  obtain ⟨i1, i2, i3, i4⟩ := hI
  unfold qX12_plan_95
  refine c_y (by decide) (M_leastOf (mu := fun _ => 0) hw ⟨mw v i1, i2, i3, fun j hj => i4 j (by omega)⟩ n9 hs (fun j hj => by omega) o9 (fun L v1 f1 hL hb => ?_))
  rw [hB.yes n9 (by omega) hL (fun k _ _ => Or.inl rfl)]
  have h29 : ∀ j, j < n → gA v1 29 j = nI (sg j) := fun j hj => by rw [f1.2.1 29 (by decide)]; exact i3 j hj
  have h30 : gF v1 30 = nI n := by rw [f1.1 30 (by decide)]; exact i2
  have h32 : ∀ j, j < 9 → gA v1 32 j = -1 := fun j hj => by rw [f1.2.1 32 (by decide)]; exact i4 j hj
  refine pk_loop (fun f i x => qX12_plan_122 Q f x (nI co) (nI (bs a (2 ^ n - 1) 9)) (nI i)) (fun i x => Fr FL m x ∧ gF x 30 = nI n ∧ gA x 29 = gA v1 29 ∧ gA x 32 = gA v1 32 ∧ ∀ j, j < i → gA x 33 j = -1) 40 0 v1 (by decide) ⟨i1.tr (fm f1), h30, rfl, rfl, fun j hj => by omega⟩ (fun f2 x hI => ?_) (fun f2 i x hi hI ih => ?_)
  rotate_left
  · obtain ⟨j1, j2, j3, j4, j5⟩ := hI
    unfold qX12_plan_122
    refine c_n (nI_ge (b := 40) hi (by decide)) (c_in rfl hi (by decide) (fun w hw => ?_))
    subst hw
    rw [ofI1, nI_add]
    refine ih _ ⟨j1.tr (Fr.tA 33 _ _ g33), j2, j3, j4, fun j hj => ?_⟩
    by_cases e : j = i
    · subst e; simp (disch := omega) only [ofI1, nI_add, pk_mul, pk_sub, nI_clamp, imin_nI, imax_nI, nl_0, nl_1, nl_2, nl_3, nl_4, nl_5, nl_6, nl_7, nl_8, nl_9, nl_10, nl_11, nl_12, nl_13, nl_15, nl_16, nl_20, nl_24, nl_26, nl_30, nl_32, nl_36, nl_39, nl_40, nl_45, nl_48, nl_50, nl_57, nl_59, nl_60, nl_61, nl_62, nl_64, nl_72, nl_73, nl_80, nl_90, nl_97, nl_99, nl_100, nl_120, nl_122, nl_123, nl_127, nl_128, nl_199, nl_200, nl_255, nl_256, nl_290, nl_399, nl_400, nl_500, nl_512, nl_520, nl_600, nl_999, nl_1000, nl_2000, nl_9999, nl_10000, nl_14, nl_17, nl_18, nl_19, nl_21, nl_22, nl_23, nl_25, nl_27, nl_28, nl_29, nl_31, nl_33, nl_34, nl_35, nl_47, nl_51, nl_63, nl_110, nl_195, nl_240, nl_1370, nl_3710, nl_6030, nl_6690, nl_7490, nl_7610, nl_9170, nl_11570, gA_sF, gL_sF, gB_sF, gZ_sF, gO_sF, gX_sF, gF_sA, gL_sA, gB_sA, gZ_sA, gO_sA, gX_sA, gF_sL, gA_sL, gB_sL, gZ_sL, gO_sL, gX_sL, gF_sB, gA_sB, gL_sB, gZ_sB, gO_sB, gX_sB, gF_sZ, gA_sZ, gL_sZ, gB_sZ, gO_sZ, gX_sZ, gF_sO, gA_sO, gL_sO, gB_sO, gZ_sO, gX_sO, gF_sX, gA_sX, gL_sX, gB_sX, gZ_sX, gO_sX, gF_tA, gL_tA, gB_tA, gZ_tA, gO_tA, gX_tA, gF_tL, gA_tL, gB_tL, gZ_tL, gO_tL, gX_tL, gF_tB, gA_tB, gL_tB, gZ_tB, gO_tB, gX_tB, gF_tZ, gA_tZ, gL_tZ, gB_tZ, gO_tZ, gX_tZ, gF_sF, gA_sA, gL_sL, gB_sB, gZ_sZ, gO_sO, gX_sX, gA_tA, gL_tL, gB_tB, gZ_tZ, reduceIte, Nat.reduceEqDiff, Nat.zero_ne_one, Nat.one_ne_zero, Nat.succ_ne_self, forall_eq, vpT, cpyT, nI_leI, nI_ltI, nI_eq, nI_m1, oI_eqn, oI_eqm, va_up_ne', va_up_eq, eq_self_iff_true, true_or, or_true, true_implies, not_true_eq_false, not_false_eq_true, false_implies, and_true, true_and, forall_const, implies_true, ne_eq, Nat.add_sub_cancel, nI_pos, ite_self]
    · have := j5 j (by omega)
      simp (disch := omega) only [this, ofI1, nI_add, pk_mul, pk_sub, nI_clamp, imin_nI, imax_nI, nl_0, nl_1, nl_2, nl_3, nl_4, nl_5, nl_6, nl_7, nl_8, nl_9, nl_10, nl_11, nl_12, nl_13, nl_15, nl_16, nl_20, nl_24, nl_26, nl_30, nl_32, nl_36, nl_39, nl_40, nl_45, nl_48, nl_50, nl_57, nl_59, nl_60, nl_61, nl_62, nl_64, nl_72, nl_73, nl_80, nl_90, nl_97, nl_99, nl_100, nl_120, nl_122, nl_123, nl_127, nl_128, nl_199, nl_200, nl_255, nl_256, nl_290, nl_399, nl_400, nl_500, nl_512, nl_520, nl_600, nl_999, nl_1000, nl_2000, nl_9999, nl_10000, nl_14, nl_17, nl_18, nl_19, nl_21, nl_22, nl_23, nl_25, nl_27, nl_28, nl_29, nl_31, nl_33, nl_34, nl_35, nl_47, nl_51, nl_63, nl_110, nl_195, nl_240, nl_1370, nl_3710, nl_6030, nl_6690, nl_7490, nl_7610, nl_9170, nl_11570, gA_sF, gL_sF, gB_sF, gZ_sF, gO_sF, gX_sF, gF_sA, gL_sA, gB_sA, gZ_sA, gO_sA, gX_sA, gF_sL, gA_sL, gB_sL, gZ_sL, gO_sL, gX_sL, gF_sB, gA_sB, gL_sB, gZ_sB, gO_sB, gX_sB, gF_sZ, gA_sZ, gL_sZ, gB_sZ, gO_sZ, gX_sZ, gF_sO, gA_sO, gL_sO, gB_sO, gZ_sO, gX_sO, gF_sX, gA_sX, gL_sX, gB_sX, gZ_sX, gO_sX, gF_tA, gL_tA, gB_tA, gZ_tA, gO_tA, gX_tA, gF_tL, gA_tL, gB_tL, gZ_tL, gO_tL, gX_tL, gF_tB, gA_tB, gL_tB, gZ_tB, gO_tB, gX_tB, gF_tZ, gA_tZ, gL_tZ, gB_tZ, gO_tZ, gX_tZ, gF_sF, gA_sA, gL_sL, gB_sB, gZ_sZ, gO_sO, gX_sX, gA_tA, gL_tL, gB_tB, gZ_tZ, reduceIte, Nat.reduceEqDiff, Nat.zero_ne_one, Nat.one_ne_zero, Nat.succ_ne_self, forall_eq, vpT, cpyT, nI_leI, nI_ltI, nI_eq, nI_m1, oI_eqn, oI_eqm, va_up_ne', va_up_eq, eq_self_iff_true, true_or, or_true, true_implies, not_true_eq_false, not_false_eq_true, false_implies, and_true, true_and, forall_const, implies_true, ne_eq, Nat.add_sub_cancel, nI_pos, ite_self]
  obtain ⟨j1, j2, j3, j4, j5⟩ := hI
  unfold qX12_plan_122
  refine c_y (by decide) ?_
  refine pk_loop (fun f k x => qX12_plan_143 Q f x (nI co) (nI (bs a (2 ^ n - 1) 9)) (nI k)) (fun k x => Fr FL m x ∧ gF x 30 = nI n ∧ (∀ j, j < n → gA x 29 j = nI (sg j)) ∧ (∀ j, j < 9 → gA x 32 j = oI (if j < k then a j + 1 else 0)) ∧ ∀ j, j < 40 → gA x 33 j = plF sg a k j) n 0 x (Nat.zero_le _) ⟨j1, j2, fun j hj => by rw [j3]; exact h29 j hj, fun j hj => by rw [j4]; exact h32 j hj, j5⟩ (fun f3 x hI => ?_) (fun f3 k x hk hI ih => ?_)
  · obtain ⟨k1, k2, k3, k4, k5⟩ := hI
    unfold qX12_plan_143
    rw [k2]
    refine c_y (nI_le (Nat.le_refl _) (by omega)) (fun w hw => ?_)
    subst hw
    refine hQ _ (k1.tr (Fr.sF 34 _ g34)) ?_ k5
    simp (disch := omega) only [ofI1, nI_add, pk_mul, pk_sub, nI_clamp, imin_nI, imax_nI, nl_0, nl_1, nl_2, nl_3, nl_4, nl_5, nl_6, nl_7, nl_8, nl_9, nl_10, nl_11, nl_12, nl_13, nl_15, nl_16, nl_20, nl_24, nl_26, nl_30, nl_32, nl_36, nl_39, nl_40, nl_45, nl_48, nl_50, nl_57, nl_59, nl_60, nl_61, nl_62, nl_64, nl_72, nl_73, nl_80, nl_90, nl_97, nl_99, nl_100, nl_120, nl_122, nl_123, nl_127, nl_128, nl_199, nl_200, nl_255, nl_256, nl_290, nl_399, nl_400, nl_500, nl_512, nl_520, nl_600, nl_999, nl_1000, nl_2000, nl_9999, nl_10000, nl_14, nl_17, nl_18, nl_19, nl_21, nl_22, nl_23, nl_25, nl_27, nl_28, nl_29, nl_31, nl_33, nl_34, nl_35, nl_47, nl_51, nl_63, nl_110, nl_195, nl_240, nl_1370, nl_3710, nl_6030, nl_6690, nl_7490, nl_7610, nl_9170, nl_11570, gA_sF, gL_sF, gB_sF, gZ_sF, gO_sF, gX_sF, gF_sA, gL_sA, gB_sA, gZ_sA, gO_sA, gX_sA, gF_sL, gA_sL, gB_sL, gZ_sL, gO_sL, gX_sL, gF_sB, gA_sB, gL_sB, gZ_sB, gO_sB, gX_sB, gF_sZ, gA_sZ, gL_sZ, gB_sZ, gO_sZ, gX_sZ, gF_sO, gA_sO, gL_sO, gB_sO, gZ_sO, gX_sO, gF_sX, gA_sX, gL_sX, gB_sX, gZ_sX, gO_sX, gF_tA, gL_tA, gB_tA, gZ_tA, gO_tA, gX_tA, gF_tL, gA_tL, gB_tL, gZ_tL, gO_tL, gX_tL, gF_tB, gA_tB, gL_tB, gZ_tB, gO_tB, gX_tB, gF_tZ, gA_tZ, gL_tZ, gB_tZ, gO_tZ, gX_tZ, gF_sF, gA_sA, gL_sL, gB_sB, gZ_sZ, gO_sO, gX_sX, gA_tA, gL_tL, gB_tB, gZ_tZ, reduceIte, Nat.reduceEqDiff, Nat.zero_ne_one, Nat.one_ne_zero, Nat.succ_ne_self, forall_eq, vpT, cpyT, nI_leI, nI_ltI, nI_eq, nI_m1, oI_eqn, oI_eqm, va_up_ne', va_up_eq, eq_self_iff_true, true_or, or_true, true_implies, not_true_eq_false, not_false_eq_true, false_implies, and_true, true_and, forall_const, implies_true, ne_eq, Nat.add_sub_cancel, nI_pos, ite_self]
  obtain ⟨k1, k2, k3, k4, k5⟩ := hI
  have ak := a9 k hk
  have sk := hs k hk
  unfold qX12_plan_143
  rw [k2]
  refine c_n (nI_ge hk (by omega)) (c_in rfl (by omega) (by decide) (fun w hw => ?_))
  subst hw
  refine pk_loop (fun f4 v y => qX12_plan_158 Q (qX12_plan_143 Q f3) f4 y (nI co) (nI (bs a (2 ^ n - 1) 9)) (nI k)) (fun v y => Fr FL m y ∧ gF y 30 = nI n ∧ (∀ j, j < n → gA y 29 j = nI (sg j)) ∧ (∀ j, j < 9 → gA y 32 j = oI (muF a k v j)) ∧ ∀ j, j < 40 → gA y 33 j = plF sg a k j) (a k) 0 _ (Nat.zero_le _) ⟨k1.tr (Fr.tA 32 _ _ g32), k2, k3, fun j hj => ?_, k5⟩ (fun f4 y hI => ?_) (fun f4 v y hv hI ih4 => ?_)
  · unfold muF
    by_cases e : j = k
    · subst e
      simp (disch := omega) only [ofI1, nI_add, pk_mul, pk_sub, nI_clamp, imin_nI, imax_nI, nl_0, nl_1, nl_2, nl_3, nl_4, nl_5, nl_6, nl_7, nl_8, nl_9, nl_10, nl_11, nl_12, nl_13, nl_15, nl_16, nl_20, nl_24, nl_26, nl_30, nl_32, nl_36, nl_39, nl_40, nl_45, nl_48, nl_50, nl_57, nl_59, nl_60, nl_61, nl_62, nl_64, nl_72, nl_73, nl_80, nl_90, nl_97, nl_99, nl_100, nl_120, nl_122, nl_123, nl_127, nl_128, nl_199, nl_200, nl_255, nl_256, nl_290, nl_399, nl_400, nl_500, nl_512, nl_520, nl_600, nl_999, nl_1000, nl_2000, nl_9999, nl_10000, nl_14, nl_17, nl_18, nl_19, nl_21, nl_22, nl_23, nl_25, nl_27, nl_28, nl_29, nl_31, nl_33, nl_34, nl_35, nl_47, nl_51, nl_63, nl_110, nl_195, nl_240, nl_1370, nl_3710, nl_6030, nl_6690, nl_7490, nl_7610, nl_9170, nl_11570, gA_sF, gL_sF, gB_sF, gZ_sF, gO_sF, gX_sF, gF_sA, gL_sA, gB_sA, gZ_sA, gO_sA, gX_sA, gF_sL, gA_sL, gB_sL, gZ_sL, gO_sL, gX_sL, gF_sB, gA_sB, gL_sB, gZ_sB, gO_sB, gX_sB, gF_sZ, gA_sZ, gL_sZ, gB_sZ, gO_sZ, gX_sZ, gF_sO, gA_sO, gL_sO, gB_sO, gZ_sO, gX_sO, gF_sX, gA_sX, gL_sX, gB_sX, gZ_sX, gO_sX, gF_tA, gL_tA, gB_tA, gZ_tA, gO_tA, gX_tA, gF_tL, gA_tL, gB_tL, gZ_tL, gO_tL, gX_tL, gF_tB, gA_tB, gL_tB, gZ_tB, gO_tB, gX_tB, gF_tZ, gA_tZ, gL_tZ, gB_tZ, gO_tZ, gX_tZ, gF_sF, gA_sA, gL_sL, gB_sB, gZ_sZ, gO_sO, gX_sX, gA_tA, gL_tL, gB_tB, gZ_tZ, reduceIte, Nat.reduceEqDiff, Nat.zero_ne_one, Nat.one_ne_zero, Nat.succ_ne_self, forall_eq, vpT, cpyT, nI_leI, nI_ltI, nI_eq, nI_m1, oI_eqn, oI_eqm, va_up_ne', va_up_eq, eq_self_iff_true, true_or, or_true, true_implies, not_true_eq_false, not_false_eq_true, false_implies, and_true, true_and, forall_const, implies_true, ne_eq, Nat.add_sub_cancel, nI_pos, ite_self]
      rw [if_neg (by omega)]; rfl
    · have := k4 j hj
      simp (disch := omega) only [this, ofI1, nI_add, pk_mul, pk_sub, nI_clamp, imin_nI, imax_nI, nl_0, nl_1, nl_2, nl_3, nl_4, nl_5, nl_6, nl_7, nl_8, nl_9, nl_10, nl_11, nl_12, nl_13, nl_15, nl_16, nl_20, nl_24, nl_26, nl_30, nl_32, nl_36, nl_39, nl_40, nl_45, nl_48, nl_50, nl_57, nl_59, nl_60, nl_61, nl_62, nl_64, nl_72, nl_73, nl_80, nl_90, nl_97, nl_99, nl_100, nl_120, nl_122, nl_123, nl_127, nl_128, nl_199, nl_200, nl_255, nl_256, nl_290, nl_399, nl_400, nl_500, nl_512, nl_520, nl_600, nl_999, nl_1000, nl_2000, nl_9999, nl_10000, nl_14, nl_17, nl_18, nl_19, nl_21, nl_22, nl_23, nl_25, nl_27, nl_28, nl_29, nl_31, nl_33, nl_34, nl_35, nl_47, nl_51, nl_63, nl_110, nl_195, nl_240, nl_1370, nl_3710, nl_6030, nl_6690, nl_7490, nl_7610, nl_9170, nl_11570, gA_sF, gL_sF, gB_sF, gZ_sF, gO_sF, gX_sF, gF_sA, gL_sA, gB_sA, gZ_sA, gO_sA, gX_sA, gF_sL, gA_sL, gB_sL, gZ_sL, gO_sL, gX_sL, gF_sB, gA_sB, gL_sB, gZ_sB, gO_sB, gX_sB, gF_sZ, gA_sZ, gL_sZ, gB_sZ, gO_sZ, gX_sZ, gF_sO, gA_sO, gL_sO, gB_sO, gZ_sO, gX_sO, gF_sX, gA_sX, gL_sX, gB_sX, gZ_sX, gO_sX, gF_tA, gL_tA, gB_tA, gZ_tA, gO_tA, gX_tA, gF_tL, gA_tL, gB_tL, gZ_tL, gO_tL, gX_tL, gF_tB, gA_tB, gL_tB, gZ_tB, gO_tB, gX_tB, gF_tZ, gA_tZ, gL_tZ, gB_tZ, gO_tZ, gX_tZ, gF_sF, gA_sA, gL_sL, gB_sB, gZ_sZ, gO_sO, gX_sX, gA_tA, gL_tL, gB_tB, gZ_tZ, reduceIte, Nat.reduceEqDiff, Nat.zero_ne_one, Nat.one_ne_zero, Nat.succ_ne_self, forall_eq, vpT, cpyT, nI_leI, nI_ltI, nI_eq, nI_m1, oI_eqn, oI_eqm, va_up_ne', va_up_eq, eq_self_iff_true, true_or, or_true, true_implies, not_true_eq_false, not_false_eq_true, false_implies, and_true, true_and, forall_const, implies_true, ne_eq, Nat.add_sub_cancel, nI_pos, ite_self]
      by_cases e2 : j < k
      · rw [if_pos e2, if_pos e2]
      · rw [if_neg e2, if_neg e2, if_neg e]
  · obtain ⟨l1, l2, l3, l4, l5⟩ := hI
    unfold qX12_plan_158
    refine M_leastOf hw ⟨mw y l1, l2, l3, fun j hj => l4 j (by omega)⟩ n9 hs (fun j hj => ?_) o9 (fun L y1 fy hL hb => ?_)
    · have := a9 j hj
      unfold muF; split
      · omega
      · split <;> omega
    rw [hB.yes n9 (by omega) hL (fun j hj hb => ?_)]
    · have q29 : gA y1 29 k = nI (sg k) := by rw [fy.2.1 29 (by decide)]; exact l3 k hk
      have q32 : gA y1 32 k = nI (a k) := by
        rw [fy.2.1 32 (by decide), l4 k (by omega)]
        unfold muF
        rw [if_neg (by omega), if_pos rfl, oI_s]
      rw [nI_clamp (by omega), q29, q32]
      refine c_y rfl (c_in rfl (by omega) (by decide) (c_in rfl (by omega) (by decide) (c_in rfl (by omega) (by decide) (fun w hw => ?_))))
      subst hw
      rw [ofI1, nI_add]
      refine ih _ ⟨(l1.tr (fm fy)).tr (Fr.tA 33 _ _ g33), ?_, fun j hj => ?_, fun j hj => ?_, fun j hj => ?_⟩
      · show gF y1 30 = _
        rw [fy.1 30 (by decide)]; exact l2
      · show gA y1 29 j = _
        rw [fy.2.1 29 (by decide)]; exact l3 j hj
      · show gA y1 32 j = _
        rw [fy.2.1 32 (by decide), l4 j hj]
        congr 1
        unfold muF
        by_cases e : j < k
        · rw [if_pos e, if_pos (by omega)]
        · by_cases e2 : j = k
          · rw [if_neg e, if_pos e2, if_pos (by omega), e2]
          · rw [if_neg e, if_neg e2, if_neg (by omega)]
      · show gA (tA y1 33 (nI (sg k)) (nI (a k))) 33 j = va_up (plF sg a k) (sg k) (nI (a k)) j
        have y33 : gA y1 33 = gA y 33 := fy.2.1 33 (by decide)
        by_cases e : j = sg k
        · rw [e, va_up_eq]
          simp (disch := omega) only [ofI1, nI_add, pk_mul, pk_sub, nI_clamp, imin_nI, imax_nI, nl_0, nl_1, nl_2, nl_3, nl_4, nl_5, nl_6, nl_7, nl_8, nl_9, nl_10, nl_11, nl_12, nl_13, nl_15, nl_16, nl_20, nl_24, nl_26, nl_30, nl_32, nl_36, nl_39, nl_40, nl_45, nl_48, nl_50, nl_57, nl_59, nl_60, nl_61, nl_62, nl_64, nl_72, nl_73, nl_80, nl_90, nl_97, nl_99, nl_100, nl_120, nl_122, nl_123, nl_127, nl_128, nl_199, nl_200, nl_255, nl_256, nl_290, nl_399, nl_400, nl_500, nl_512, nl_520, nl_600, nl_999, nl_1000, nl_2000, nl_9999, nl_10000, nl_14, nl_17, nl_18, nl_19, nl_21, nl_22, nl_23, nl_25, nl_27, nl_28, nl_29, nl_31, nl_33, nl_34, nl_35, nl_47, nl_51, nl_63, nl_110, nl_195, nl_240, nl_1370, nl_3710, nl_6030, nl_6690, nl_7490, nl_7610, nl_9170, nl_11570, gA_sF, gL_sF, gB_sF, gZ_sF, gO_sF, gX_sF, gF_sA, gL_sA, gB_sA, gZ_sA, gO_sA, gX_sA, gF_sL, gA_sL, gB_sL, gZ_sL, gO_sL, gX_sL, gF_sB, gA_sB, gL_sB, gZ_sB, gO_sB, gX_sB, gF_sZ, gA_sZ, gL_sZ, gB_sZ, gO_sZ, gX_sZ, gF_sO, gA_sO, gL_sO, gB_sO, gZ_sO, gX_sO, gF_sX, gA_sX, gL_sX, gB_sX, gZ_sX, gO_sX, gF_tA, gL_tA, gB_tA, gZ_tA, gO_tA, gX_tA, gF_tL, gA_tL, gB_tL, gZ_tL, gO_tL, gX_tL, gF_tB, gA_tB, gL_tB, gZ_tB, gO_tB, gX_tB, gF_tZ, gA_tZ, gL_tZ, gB_tZ, gO_tZ, gX_tZ, gF_sF, gA_sA, gL_sL, gB_sB, gZ_sZ, gO_sO, gX_sX, gA_tA, gL_tL, gB_tB, gZ_tZ, reduceIte, Nat.reduceEqDiff, Nat.zero_ne_one, Nat.one_ne_zero, Nat.succ_ne_self, forall_eq, vpT, cpyT, nI_leI, nI_ltI, nI_eq, nI_m1, oI_eqn, oI_eqm, va_up_ne', va_up_eq, eq_self_iff_true, true_or, or_true, true_implies, not_true_eq_false, not_false_eq_true, false_implies, and_true, true_and, forall_const, implies_true, ne_eq, Nat.add_sub_cancel, nI_pos, ite_self]
        · rw [va_up_ne' _ _ e, ← l5 j hj, ← y33]
          simp (disch := omega) only [ofI1, nI_add, pk_mul, pk_sub, nI_clamp, imin_nI, imax_nI, nl_0, nl_1, nl_2, nl_3, nl_4, nl_5, nl_6, nl_7, nl_8, nl_9, nl_10, nl_11, nl_12, nl_13, nl_15, nl_16, nl_20, nl_24, nl_26, nl_30, nl_32, nl_36, nl_39, nl_40, nl_45, nl_48, nl_50, nl_57, nl_59, nl_60, nl_61, nl_62, nl_64, nl_72, nl_73, nl_80, nl_90, nl_97, nl_99, nl_100, nl_120, nl_122, nl_123, nl_127, nl_128, nl_199, nl_200, nl_255, nl_256, nl_290, nl_399, nl_400, nl_500, nl_512, nl_520, nl_600, nl_999, nl_1000, nl_2000, nl_9999, nl_10000, nl_14, nl_17, nl_18, nl_19, nl_21, nl_22, nl_23, nl_25, nl_27, nl_28, nl_29, nl_31, nl_33, nl_34, nl_35, nl_47, nl_51, nl_63, nl_110, nl_195, nl_240, nl_1370, nl_3710, nl_6030, nl_6690, nl_7490, nl_7610, nl_9170, nl_11570, gA_sF, gL_sF, gB_sF, gZ_sF, gO_sF, gX_sF, gF_sA, gL_sA, gB_sA, gZ_sA, gO_sA, gX_sA, gF_sL, gA_sL, gB_sL, gZ_sL, gO_sL, gX_sL, gF_sB, gA_sB, gL_sB, gZ_sB, gO_sB, gX_sB, gF_sZ, gA_sZ, gL_sZ, gB_sZ, gO_sZ, gX_sZ, gF_sO, gA_sO, gL_sO, gB_sO, gZ_sO, gX_sO, gF_sX, gA_sX, gL_sX, gB_sX, gZ_sX, gO_sX, gF_tA, gL_tA, gB_tA, gZ_tA, gO_tA, gX_tA, gF_tL, gA_tL, gB_tL, gZ_tL, gO_tL, gX_tL, gF_tB, gA_tB, gL_tB, gZ_tB, gO_tB, gX_tB, gF_tZ, gA_tZ, gL_tZ, gB_tZ, gO_tZ, gX_tZ, gF_sF, gA_sA, gL_sL, gB_sB, gZ_sZ, gO_sO, gX_sX, gA_tA, gL_tL, gB_tB, gZ_tZ, reduceIte, Nat.reduceEqDiff, Nat.zero_ne_one, Nat.one_ne_zero, Nat.succ_ne_self, forall_eq, vpT, cpyT, nI_leI, nI_ltI, nI_eq, nI_m1, oI_eqn, oI_eqm, va_up_ne', va_up_eq, eq_self_iff_true, true_or, or_true, true_implies, not_true_eq_false, not_false_eq_true, false_implies, and_true, true_and, forall_const, implies_true, ne_eq, Nat.add_sub_cancel, nI_pos, ite_self]
    · unfold muF
      by_cases e : j < k
      · rw [if_pos e]; exact Or.inr rfl
      · rw [if_neg e]
        by_cases e2 : j = k
        · rw [if_pos e2, e2]; exact Or.inr rfl
        · rw [if_neg e2]; exact Or.inl rfl
  · obtain ⟨l1, l2, l3, l4, l5⟩ := hI
    unfold qX12_plan_158
    refine M_leastOf hw ⟨mw y l1, l2, l3, fun j hj => l4 j (by omega)⟩ n9 hs (fun j hj => ?_) o9 (fun L y1 fy hL hb => ?_)
    · have := a9 j hj
      unfold muF; split
      · omega
      · split <;> omega
    have hne := hB.no (n := n) (by omega) hL (j := k) (v := v) (by omega) (full_bit.2 hk) (fun j hj hb => by unfold muF; rw [if_pos hj]) (by unfold muF; rw [if_neg (by omega), if_pos rfl]) hv
    have q32 : gA y1 32 k = nI v := by
      rw [fy.2.1 32 (by decide), l4 k (by omega)]
      unfold muF
      rw [if_neg (by omega), if_pos rfl, oI_s]
    refine c_n (fun z => hne ((nI_eq (by omega) (by omega)).1 z)) (c_in rfl (by omega) (by decide) (c_in rfl (by omega) (by decide) (fun w hw => ?_)))
    subst hw
    refine ih4 _ ⟨(l1.tr (fm fy)).tr (Fr.tA 32 _ _ g32), ?_, fun j hj => ?_, fun j hj => ?_, fun j hj => ?_⟩
    · show gF y1 30 = _
      rw [fy.1 30 (by decide)]; exact l2
    · show gA y1 29 j = _
      rw [fy.2.1 29 (by decide)]; exact l3 j hj
    · have y32 : gA y1 32 j = oI (muF a k v j) := by rw [fy.2.1 32 (by decide)]; exact l4 j hj
      rw [nI_clamp (by omega), q32, nl_1, nI_add]
      unfold muF at y32 ⊢
      by_cases e : j = k
      · subst e
        simp (disch := omega) only [ofI1, nI_add, pk_mul, pk_sub, nI_clamp, imin_nI, imax_nI, nl_0, nl_1, nl_2, nl_3, nl_4, nl_5, nl_6, nl_7, nl_8, nl_9, nl_10, nl_11, nl_12, nl_13, nl_15, nl_16, nl_20, nl_24, nl_26, nl_30, nl_32, nl_36, nl_39, nl_40, nl_45, nl_48, nl_50, nl_57, nl_59, nl_60, nl_61, nl_62, nl_64, nl_72, nl_73, nl_80, nl_90, nl_97, nl_99, nl_100, nl_120, nl_122, nl_123, nl_127, nl_128, nl_199, nl_200, nl_255, nl_256, nl_290, nl_399, nl_400, nl_500, nl_512, nl_520, nl_600, nl_999, nl_1000, nl_2000, nl_9999, nl_10000, nl_14, nl_17, nl_18, nl_19, nl_21, nl_22, nl_23, nl_25, nl_27, nl_28, nl_29, nl_31, nl_33, nl_34, nl_35, nl_47, nl_51, nl_63, nl_110, nl_195, nl_240, nl_1370, nl_3710, nl_6030, nl_6690, nl_7490, nl_7610, nl_9170, nl_11570, gA_sF, gL_sF, gB_sF, gZ_sF, gO_sF, gX_sF, gF_sA, gL_sA, gB_sA, gZ_sA, gO_sA, gX_sA, gF_sL, gA_sL, gB_sL, gZ_sL, gO_sL, gX_sL, gF_sB, gA_sB, gL_sB, gZ_sB, gO_sB, gX_sB, gF_sZ, gA_sZ, gL_sZ, gB_sZ, gO_sZ, gX_sZ, gF_sO, gA_sO, gL_sO, gB_sO, gZ_sO, gX_sO, gF_sX, gA_sX, gL_sX, gB_sX, gZ_sX, gO_sX, gF_tA, gL_tA, gB_tA, gZ_tA, gO_tA, gX_tA, gF_tL, gA_tL, gB_tL, gZ_tL, gO_tL, gX_tL, gF_tB, gA_tB, gL_tB, gZ_tB, gO_tB, gX_tB, gF_tZ, gA_tZ, gL_tZ, gB_tZ, gO_tZ, gX_tZ, gF_sF, gA_sA, gL_sL, gB_sB, gZ_sZ, gO_sO, gX_sX, gA_tA, gL_tL, gB_tB, gZ_tZ, reduceIte, Nat.reduceEqDiff, Nat.zero_ne_one, Nat.one_ne_zero, Nat.succ_ne_self, forall_eq, vpT, cpyT, nI_leI, nI_ltI, nI_eq, nI_m1, oI_eqn, oI_eqm, va_up_ne', va_up_eq, eq_self_iff_true, true_or, or_true, true_implies, not_true_eq_false, not_false_eq_true, false_implies, and_true, true_and, forall_const, implies_true, ne_eq, Nat.add_sub_cancel, nI_pos, ite_self]
        rw [if_neg (by omega), oI_s]
      · rw [if_neg e] at y32 ⊢
        simp (disch := omega) only [y32, ofI1, nI_add, pk_mul, pk_sub, nI_clamp, imin_nI, imax_nI, nl_0, nl_1, nl_2, nl_3, nl_4, nl_5, nl_6, nl_7, nl_8, nl_9, nl_10, nl_11, nl_12, nl_13, nl_15, nl_16, nl_20, nl_24, nl_26, nl_30, nl_32, nl_36, nl_39, nl_40, nl_45, nl_48, nl_50, nl_57, nl_59, nl_60, nl_61, nl_62, nl_64, nl_72, nl_73, nl_80, nl_90, nl_97, nl_99, nl_100, nl_120, nl_122, nl_123, nl_127, nl_128, nl_199, nl_200, nl_255, nl_256, nl_290, nl_399, nl_400, nl_500, nl_512, nl_520, nl_600, nl_999, nl_1000, nl_2000, nl_9999, nl_10000, nl_14, nl_17, nl_18, nl_19, nl_21, nl_22, nl_23, nl_25, nl_27, nl_28, nl_29, nl_31, nl_33, nl_34, nl_35, nl_47, nl_51, nl_63, nl_110, nl_195, nl_240, nl_1370, nl_3710, nl_6030, nl_6690, nl_7490, nl_7610, nl_9170, nl_11570, gA_sF, gL_sF, gB_sF, gZ_sF, gO_sF, gX_sF, gF_sA, gL_sA, gB_sA, gZ_sA, gO_sA, gX_sA, gF_sL, gA_sL, gB_sL, gZ_sL, gO_sL, gX_sL, gF_sB, gA_sB, gL_sB, gZ_sB, gO_sB, gX_sB, gF_sZ, gA_sZ, gL_sZ, gB_sZ, gO_sZ, gX_sZ, gF_sO, gA_sO, gL_sO, gB_sO, gZ_sO, gX_sO, gF_sX, gA_sX, gL_sX, gB_sX, gZ_sX, gO_sX, gF_tA, gL_tA, gB_tA, gZ_tA, gO_tA, gX_tA, gF_tL, gA_tL, gB_tL, gZ_tL, gO_tL, gX_tL, gF_tB, gA_tB, gL_tB, gZ_tB, gO_tB, gX_tB, gF_tZ, gA_tZ, gL_tZ, gB_tZ, gO_tZ, gX_tZ, gF_sF, gA_sA, gL_sL, gB_sB, gZ_sZ, gO_sO, gX_sX, gA_tA, gL_tL, gB_tB, gZ_tZ, reduceIte, Nat.reduceEqDiff, Nat.zero_ne_one, Nat.one_ne_zero, Nat.succ_ne_self, forall_eq, vpT, cpyT, nI_leI, nI_ltI, nI_eq, nI_m1, oI_eqn, oI_eqm, va_up_ne', va_up_eq, eq_self_iff_true, true_or, or_true, true_implies, not_true_eq_false, not_false_eq_true, false_implies, and_true, true_and, forall_const, implies_true, ne_eq, Nat.add_sub_cancel, nI_pos, ite_self]
    · show gA y1 33 j = _
      rw [fy.2.1 33 (by decide)]; exact l5 j hj
theorem sim_plan {c : Nat} {nb m st la sp ac bd sg vw o1 o2 pl : Md} (hR : RW c m st la sp ac bd sg) (hz : PZ pl) (hpl : RPlan pl m) {x1 : Int32} {Q : Int32 → Md → Md → Md → Md → Md → Md → Md → Md → Md → Md → Md → Int32 → Md → Prop} (hQ : ∀ r vw' o1' o2' pl' m', Fr [(1, 7), (1, 8), (1, 9), (1, 28), (0, 21), (1, 19), (1, 20), (0, 26), (1, 25), (1, 29), (0, 30), (1, 31), (4, 35), (1, 32), (1, 33), (0, 34)] m m' → PZ pl' → RPlan pl' m' → Q r nb st la sp ac bd sg vw' o1' o2' pl' r m') : qX11_plan nb st la sp ac bd sg vw o1 o2 pl x1 (fun r nb' st' la' sp' ac' bd' sg' vw' o1' o2' pl' => qX12_plan m x1 (fun r' m' => Q r nb' st' la' sp' ac' bd' sg' vw' o1' o2' pl' r' m')) := by
  obtain ⟨A, hm, hw, hst, hl, hp, ha, hb, hsg⟩ := id hR
  have b7 : A 57 0 ≤ 40 := hw.1.2.2.2.2.2.2.2.1
  unfold qX11_plan
  rcases ix32 x1 (n := 10000) (by omega) with h | ⟨co, o9, rfl⟩
  · refine q_nu0 h (b_0 ?_)
    unfold qX12_plan
    exact inN_bad (n := 9999) rfl h (b_0 (hQ _ _ _ _ _ _ Fr.rf hz hpl))
  refine q_nu1 o9 (b_1 ?_)
  unfold qX4_begin
  intro w2 hw2
  subst hw2
  obtain ⟨p, hpp⟩ : ∃ p : Nat → Bool, p = fun s => unl A s (A 50 0) := ⟨_, rfl⟩
  -- the reference's first loop
  have hM : ∀ {Q2 : Int32 → Md → Prop}, (noPlan A p co → ∀ m', Fr [(1, 7), (1, 8), (1, 9), (1, 28), (0, 21), (1, 19), (1, 20), (0, 26), (1, 25), (1, 29), (0, 30)] m m' → Q2 (-1) m') → (¬ noPlan A p co → lcn p (A 57 0) ≤ 9 → ∀ m', Fr [(1, 7), (1, 8), (1, 9), (1, 28), (0, 21), (1, 19), (1, 20), (0, 26), (1, 25), (1, 29), (0, 30)] m m' → gF m' 30 = nI (lcn p (A 57 0)) → (∀ j, j < lcn p (A 57 0) → gA m' 29 j = nI (lsg p (A 57 0) j)) → ∃ n', qX12_plan_95 Q2 n' m' (nI co) 0) → qX12_plan m (nI co) Q2 := by
    intro Q2 h0 h1
    unfold qX12_plan
    refine inN_ok (n := 9999) (by decide) rfl (by omega) (b_1 (fun w17 hw17 => ?_))
    subst hw17
    refine pk_loop (fun f s u => qX12_plan_22 Q2 f u (nI co) (nI s)) (fun s u => Fr [(1, 7), (1, 8), (1, 9), (1, 28), (0, 21), (1, 19), (1, 20), (0, 26), (1, 25), (1, 29), (0, 30)] m u ∧ gF u 30 = nI (lcn p s) ∧ (∀ j, j < lcn p s → gA u 29 j = nI (lsg p s j)) ∧ ∀ t, t < s → p t = true → A 41 t ≤ co) (A 57 0) 0 _ (Nat.zero_le _) ⟨Fr.sF 30 _ (by decide), rfl, fun j hj => absurd hj (Nat.not_lt_zero _), fun t ht => by omega⟩ (fun f u hI => ?_) (fun f s u hs hI ih => ?_)
    · obtain ⟨i1, i2, i3, i4⟩ := hI
      have hl := lcn_le p (A 57 0)
      have e7 : gA u 1 7 = nI (A 57 0) := by rw [i1.2.1 1 (by decide)]; exact hm.1.2.2.2.2.2.2.2.1
      unfold qX12_plan_22
      refine c_in nl_7 (by decide) (by decide) ?_
      rw [show gA u 1 (7 : Int32).toNatClampNeg = nI (A 57 0) from e7, i2]
      refine c_y (nI_le (Nat.le_refl _) (by omega)) (c_le (b := 9) rfl rfl (by omega) (by omega) (fun h9 => h1 ?_ h9 u i1 i2 i3) (fun h9 => h0 (Or.inr (by omega)) u i1))
      rintro (⟨s, q1, q2, q3⟩ | q)
      · have := i4 s q1 q2; omega
      · omega
    · obtain ⟨i1, i2, i3, i4⟩ := hI
      have hl := lcn_le p s
      have hmu : MW (gA u 1) A := by rw [i1.2.1 1 (by decide)]; exact hm
      have e7 : gA u 1 7 = nI (A 57 0) := hmu.1.2.2.2.2.2.2.2.1
      obtain ⟨w1, w2, w3⟩ := hw.2.2.2.2.2.2.2.2.1 s hs
      unfold qX12_plan_22
      refine c_in nl_7 (by decide) (by decide) ?_
      rw [show gA u 1 (7 : Int32).toNatClampNeg = nI (A 57 0) from e7]
      refine c_n (nI_ge hs (by omega)) (M_isLame hw hmu hs (fun m1 f1 => ?_))
      have g1 := i1.tr (f1.mono (M := [(1, 7), (1, 8), (1, 9), (1, 28), (0, 21), (1, 19), (1, 20), (0, 26), (1, 25), (1, 29), (0, 30)]) (by decide))
      have hm1 : MW (gA m1 1) A := by rw [g1.2.1 1 (by decide)]; exact hm
      have e30 : gF m1 30 = nI (lcn p s) := by rw [f1.1 30 (by decide)]; exact i2
      have e29 : gA m1 29 = gA u 29 := f1.2.1 29 (by decide)
      have ep : p s = unl A s (A 50 0) := by rw [hpp]
      cases hu : unl A s (A 50 0) with
      | true =>
        have e : p s = true := ep.trans hu
        have e1 : lcn p (s + 1) = lcn p s + 1 := by show lcn p s + (if p s = true then 1 else 0) = _; rw [if_pos e]
        have e2 : lsg p (s + 1) = va_up (lsg p s) (lcn p s) s := if_pos e
        refine b_1 ((M_signIs hw hm1 hs).2.1 (c_le rfl rfl (by omega) (by omega) (fun hv => ?_) (fun hv => h0 (Or.inl ⟨s, hs, e, by omega⟩) m1 g1)))
        rw [e30]
        refine c_in rfl (by omega) (by decide) (fun w hw => ?_)
        subst hw
        have e30' : gF (tA m1 29 (nI (lcn p s)) (nI s)) 30 = nI (lcn p s) := e30
        rw [e30', nl_1, nI_add, ofI1, nI_add]
        refine fun w hw => ?_
        subst hw
        refine ih _ ⟨(g1.tr (Fr.tA 29 _ _ (by decide))).tr (Fr.sF 30 _ (by decide)), ?_, fun j hj => ?_, fun t ht hpt => ?_⟩
        · rw [e1]
          simp (disch := omega) only [ofI1, nI_add, pk_mul, pk_sub, nI_clamp, imin_nI, imax_nI, nl_0, nl_1, nl_2, nl_3, nl_4, nl_5, nl_6, nl_7, nl_8, nl_9, nl_10, nl_11, nl_12, nl_13, nl_15, nl_16, nl_20, nl_24, nl_26, nl_30, nl_32, nl_36, nl_39, nl_40, nl_45, nl_48, nl_50, nl_57, nl_59, nl_60, nl_61, nl_62, nl_64, nl_72, nl_73, nl_80, nl_90, nl_97, nl_99, nl_100, nl_120, nl_122, nl_123, nl_127, nl_128, nl_199, nl_200, nl_255, nl_256, nl_290, nl_399, nl_400, nl_500, nl_512, nl_520, nl_600, nl_999, nl_1000, nl_2000, nl_9999, nl_10000, nl_14, nl_17, nl_18, nl_19, nl_21, nl_22, nl_23, nl_25, nl_27, nl_28, nl_29, nl_31, nl_33, nl_34, nl_35, nl_47, nl_51, nl_63, nl_110, nl_195, nl_240, nl_1370, nl_3710, nl_6030, nl_6690, nl_7490, nl_7610, nl_9170, nl_11570, gA_sF, gL_sF, gB_sF, gZ_sF, gO_sF, gX_sF, gF_sA, gL_sA, gB_sA, gZ_sA, gO_sA, gX_sA, gF_sL, gA_sL, gB_sL, gZ_sL, gO_sL, gX_sL, gF_sB, gA_sB, gL_sB, gZ_sB, gO_sB, gX_sB, gF_sZ, gA_sZ, gL_sZ, gB_sZ, gO_sZ, gX_sZ, gF_sO, gA_sO, gL_sO, gB_sO, gZ_sO, gX_sO, gF_sX, gA_sX, gL_sX, gB_sX, gZ_sX, gO_sX, gF_tA, gL_tA, gB_tA, gZ_tA, gO_tA, gX_tA, gF_tL, gA_tL, gB_tL, gZ_tL, gO_tL, gX_tL, gF_tB, gA_tB, gL_tB, gZ_tB, gO_tB, gX_tB, gF_tZ, gA_tZ, gL_tZ, gB_tZ, gO_tZ, gX_tZ, gF_sF, gA_sA, gL_sL, gB_sB, gZ_sZ, gO_sO, gX_sX, gA_tA, gL_tL, gB_tB, gZ_tZ, reduceIte, Nat.reduceEqDiff, Nat.zero_ne_one, Nat.one_ne_zero, Nat.succ_ne_self, forall_eq, vpT, cpyT, nI_leI, nI_ltI, nI_eq, nI_m1, oI_eqn, oI_eqm, va_up_ne', va_up_eq, eq_self_iff_true, true_or, or_true, true_implies, not_true_eq_false, not_false_eq_true, false_implies, and_true, true_and, forall_const, implies_true, ne_eq, Nat.add_sub_cancel, nI_pos, ite_self]
        · rw [e2]
          by_cases ej : j = lcn p s
          · subst ej
            rw [va_up_eq]
            simp (disch := omega) only [ofI1, nI_add, pk_mul, pk_sub, nI_clamp, imin_nI, imax_nI, nl_0, nl_1, nl_2, nl_3, nl_4, nl_5, nl_6, nl_7, nl_8, nl_9, nl_10, nl_11, nl_12, nl_13, nl_15, nl_16, nl_20, nl_24, nl_26, nl_30, nl_32, nl_36, nl_39, nl_40, nl_45, nl_48, nl_50, nl_57, nl_59, nl_60, nl_61, nl_62, nl_64, nl_72, nl_73, nl_80, nl_90, nl_97, nl_99, nl_100, nl_120, nl_122, nl_123, nl_127, nl_128, nl_199, nl_200, nl_255, nl_256, nl_290, nl_399, nl_400, nl_500, nl_512, nl_520, nl_600, nl_999, nl_1000, nl_2000, nl_9999, nl_10000, nl_14, nl_17, nl_18, nl_19, nl_21, nl_22, nl_23, nl_25, nl_27, nl_28, nl_29, nl_31, nl_33, nl_34, nl_35, nl_47, nl_51, nl_63, nl_110, nl_195, nl_240, nl_1370, nl_3710, nl_6030, nl_6690, nl_7490, nl_7610, nl_9170, nl_11570, gA_sF, gL_sF, gB_sF, gZ_sF, gO_sF, gX_sF, gF_sA, gL_sA, gB_sA, gZ_sA, gO_sA, gX_sA, gF_sL, gA_sL, gB_sL, gZ_sL, gO_sL, gX_sL, gF_sB, gA_sB, gL_sB, gZ_sB, gO_sB, gX_sB, gF_sZ, gA_sZ, gL_sZ, gB_sZ, gO_sZ, gX_sZ, gF_sO, gA_sO, gL_sO, gB_sO, gZ_sO, gX_sO, gF_sX, gA_sX, gL_sX, gB_sX, gZ_sX, gO_sX, gF_tA, gL_tA, gB_tA, gZ_tA, gO_tA, gX_tA, gF_tL, gA_tL, gB_tL, gZ_tL, gO_tL, gX_tL, gF_tB, gA_tB, gL_tB, gZ_tB, gO_tB, gX_tB, gF_tZ, gA_tZ, gL_tZ, gB_tZ, gO_tZ, gX_tZ, gF_sF, gA_sA, gL_sL, gB_sB, gZ_sZ, gO_sO, gX_sX, gA_tA, gL_tL, gB_tB, gZ_tZ, reduceIte, Nat.reduceEqDiff, Nat.zero_ne_one, Nat.one_ne_zero, Nat.succ_ne_self, forall_eq, vpT, cpyT, nI_leI, nI_ltI, nI_eq, nI_m1, oI_eqn, oI_eqm, va_up_ne', va_up_eq, eq_self_iff_true, true_or, or_true, true_implies, not_true_eq_false, not_false_eq_true, false_implies, and_true, true_and, forall_const, implies_true, ne_eq, Nat.add_sub_cancel, nI_pos, ite_self]
          · rw [va_up_ne' _ _ ej]
            have := i3 j (by omega)
            rw [← e29] at this
            simp (disch := omega) only [this, ofI1, nI_add, pk_mul, pk_sub, nI_clamp, imin_nI, imax_nI, nl_0, nl_1, nl_2, nl_3, nl_4, nl_5, nl_6, nl_7, nl_8, nl_9, nl_10, nl_11, nl_12, nl_13, nl_15, nl_16, nl_20, nl_24, nl_26, nl_30, nl_32, nl_36, nl_39, nl_40, nl_45, nl_48, nl_50, nl_57, nl_59, nl_60, nl_61, nl_62, nl_64, nl_72, nl_73, nl_80, nl_90, nl_97, nl_99, nl_100, nl_120, nl_122, nl_123, nl_127, nl_128, nl_199, nl_200, nl_255, nl_256, nl_290, nl_399, nl_400, nl_500, nl_512, nl_520, nl_600, nl_999, nl_1000, nl_2000, nl_9999, nl_10000, nl_14, nl_17, nl_18, nl_19, nl_21, nl_22, nl_23, nl_25, nl_27, nl_28, nl_29, nl_31, nl_33, nl_34, nl_35, nl_47, nl_51, nl_63, nl_110, nl_195, nl_240, nl_1370, nl_3710, nl_6030, nl_6690, nl_7490, nl_7610, nl_9170, nl_11570, gA_sF, gL_sF, gB_sF, gZ_sF, gO_sF, gX_sF, gF_sA, gL_sA, gB_sA, gZ_sA, gO_sA, gX_sA, gF_sL, gA_sL, gB_sL, gZ_sL, gO_sL, gX_sL, gF_sB, gA_sB, gL_sB, gZ_sB, gO_sB, gX_sB, gF_sZ, gA_sZ, gL_sZ, gB_sZ, gO_sZ, gX_sZ, gF_sO, gA_sO, gL_sO, gB_sO, gZ_sO, gX_sO, gF_sX, gA_sX, gL_sX, gB_sX, gZ_sX, gO_sX, gF_tA, gL_tA, gB_tA, gZ_tA, gO_tA, gX_tA, gF_tL, gA_tL, gB_tL, gZ_tL, gO_tL, gX_tL, gF_tB, gA_tB, gL_tB, gZ_tB, gO_tB, gX_tB, gF_tZ, gA_tZ, gL_tZ, gB_tZ, gO_tZ, gX_tZ, gF_sF, gA_sA, gL_sL, gB_sB, gZ_sZ, gO_sO, gX_sX, gA_tA, gL_tL, gB_tB, gZ_tZ, reduceIte, Nat.reduceEqDiff, Nat.zero_ne_one, Nat.one_ne_zero, Nat.succ_ne_self, forall_eq, vpT, cpyT, nI_leI, nI_ltI, nI_eq, nI_m1, oI_eqn, oI_eqm, va_up_ne', va_up_eq, eq_self_iff_true, true_or, or_true, true_implies, not_true_eq_false, not_false_eq_true, false_implies, and_true, true_and, forall_const, implies_true, ne_eq, Nat.add_sub_cancel, nI_pos, ite_self]
        · by_cases et : t = s
          · rw [et]; exact hv
          · exact i4 t (by omega) hpt
      | false =>
        have e : ¬ p s = true := by rw [ep, hu]; decide
        have e1 : lcn p (s + 1) = lcn p s := by show lcn p s + (if p s = true then 1 else 0) = _; rw [if_neg e]; rfl
        have e2 : lsg p (s + 1) = lsg p s := if_neg e
        refine b_0 ?_
        rw [ofI1, nI_add]
        refine ih _ ⟨g1, by rw [e1]; exact e30, fun j hj => ?_, fun t ht hpt => ?_⟩
        · rw [e2, e29]; exact i3 j (by omega)
        · by_cases et : t = s
          · rw [et] at hpt; exact absurd hpt e
          · exact i4 t (by omega) hpt
  refine N_planRest hw hst hl hp ha hb.2 hsg hz o9 hpp (fun hno vw' o1' o2' pl' hz' he => ?_) (fun hno vw' o1' o2' pl' a hz' hB hj => ?_)
  · refine hM (fun _ m' fm => hQ _ _ _ _ _ _ (fm.mono (by decide)) hz' ?_) (fun h => absurd hno h)
    unfold RPlan
    rw [he, fm.1 34 (by decide), fm.2.1 33 (by decide)]
    exact hpl
  · refine hM (fun h => absurd h hno) (fun _ n9 m' fm e30 e29 => ?_)
    refine M_greedy (m := m) (FL := [(1, 7), (1, 8), (1, 9), (1, 28), (0, 21), (1, 19), (1, 20), (0, 26), (1, 25), (1, 29), (0, 30), (1, 31), (4, 35), (1, 32), (1, 33), (0, 34)]) hw hm (by decide) (by decide) (by decide) (by decide) (by decide) (by decide) (fm.mono (by decide)) e30 e29 n9 (fun j hj => (lsg_p (p := p) (A 57 0) j hj).1) o9 hB (fun m2 f2 h34 h33 => hQ _ _ _ _ _ _ f2 hz' ?_)
    refine ⟨Or.inr h34, fun j hj' => ?_⟩
    rw [h34, if_neg (by decide), hj j hj', h33 j hj']
