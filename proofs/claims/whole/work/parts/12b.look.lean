def mfo (L : Nat → Nat) (b : Nat) : Nat → Nat
  | 0 => 0
  | t + 1 => mstp L b (mfo L b t) t
theorem mfo_le {L : Nat → Nat} {b : Nat} : ∀ i, i ≤ 3 → mfo L b i ≤ i := by
  intro i
  induction i with
  | zero => intro _; exact Nat.le_refl _
  | succ i ih =>
    intro h
    have := ih (by omega)
    show mstp L b (mfo L b i) i ≤ i + 1
    unfold mstp; split
    · omega
    · split
      · omega
      · split <;> omega
theorem mostA_eq (L : Nat → Nat) (b : Nat) : mostA L b = mfo L b 3 - 1 := rfl
theorem N_mostPeople {vw : Md} {L : Nat → Nat} {b : Nat} (hb : b ≤ 3) (h : ∀ t, t < 3 → gA vw 2 t = nI (L t)) (hL : ∀ t, t < 3 → L t < 2 ^ 31) {Q : Int32 → Md → Prop} (hQ : Q (nI (mostA L b)) vw) : qX10_mostPeople vw (oI b) Q := by
  have key : ∀ z, z < 3 → mfo L b (z + 1) = z + 1 → qX10_mostPeople_9 Q vw (oI b) (nI z) := by
    intro z hz hm
    unfold qX10_mostPeople_9
    rw [nl_1, nI_add]
    refine pk_loop (fun k i (s : Nat) => qX10_mostPeople_14 Q k vw (oI b) (nI s) (nI i)) (fun i s => s < 3 ∧ mfo L b i = s + 1) 3 (z + 1) z (by omega) ⟨hz, hm⟩ (fun k s hI => ?_) (fun k i s hi hI ih => ?_)
    · unfold qX10_mostPeople_14
      rw [mostA_eq, hI.2, Nat.add_sub_cancel] at hQ
      exact c_y (by decide) hQ
    · obtain ⟨i1, i2⟩ := hI
      have em : mfo L b (i + 1) = mstp L b (s + 1) i := by show mstp L b (mfo L b i) i = _; rw [i2]
      unfold qX10_mostPeople_14
      rw [nI_clamp (by omega), nI_clamp (by omega), h i hi, h s i1, ofI1, nI_add]
      refine c_n (nI_ge (b := 3) hi (by decide)) ⟨fun e => ?_, fun e => ⟨vp_in_nI hi (by decide), vp_in_nI i1 (by decide), c_le rfl rfl (hL i hi) (hL s i1) (fun e2 => ?_) (fun e2 => ?_)⟩⟩
      · rw [eq_comm, oI_eqn (by omega) (by omega)] at e
        refine ih s ⟨i1, ?_⟩
        rw [em]; unfold mstp; rw [if_pos (by omega)]
      · have e' : ¬ i + 1 = b := fun q => e (by rw [eq_comm, oI_eqn (by omega) (by omega)]; omega)
        refine ih s ⟨i1, ?_⟩
        rw [em]; unfold mstp; rw [if_neg e', if_neg (by omega), Nat.add_sub_cancel, if_neg (by omega)]
      · have e' : ¬ i + 1 = b := fun q => e (by rw [eq_comm, oI_eqn (by omega) (by omega)]; omega)
        refine ih i ⟨hi, ?_⟩
        rw [em]; unfold mstp; rw [if_neg e', if_neg (by omega), Nat.add_sub_cancel, if_pos (by omega)]
  unfold qX10_mostPeople
  by_cases h1 : b = 1
  · refine c_y' (by rw [h1]; rfl) (key 1 (by omega) ?_)
    rw [h1]; show mstp L 1 (mstp L 1 0 0) 1 = 2
    unfold mstp; rfl
  · refine c_n' (by rw [show (0 : Int32) = nI 0 from rfl, oI_eqn (by omega) (by omega)]; omega) (key 0 (by omega) ?_)
    show mstp L b 0 0 = 1
    unfold mstp; rw [if_neg (by omega)]; rfl
theorem fcF_lt {L : Nat → Nat} {pts yr : Nat} (hL : ∀ t, t < 3 → L t ≤ 100000) (hp : pts ≤ 40) (hy : yr < 400) : ∀ k, k < 6 → fcF L pts yr k < 2 ^ 31 := by
  intro k hk
  have h0 := hL 0 (by omega)
  have h1 := hL 1 (by omega)
  have h2 := hL 2 (by omega)
  unfold fcF
  split
  · split
    · omega
    · have := hL k (by omega)
      have h3 : L k * 100 / (L 0 + L 1 + L 2) ≤ L k * 100 := Nat.div_le_self _ _
      omega
  · split
    · omega
    · split <;> omega
theorem N_setShares {vw : Md} {L : Nat → Nat} (h : ∀ t, t < 3 → gA vw 2 t = nI (L t)) (hL : ∀ t, t < 3 → L t ≤ 100000) {Q : Md → Prop} (hQ : ∀ vw', Fr [(1, 3)] vw vw' → (∀ pts yr, gA vw 3 4 = nI pts → gA vw 3 5 = nI yr → ∀ k, k < 6 → gA vw' 3 k = nI (fcF L pts yr k)) → (∀ pts yr k, k < 4 → gA vw' 3 k = nI (fcF L pts yr k)) → (gA vw' 3 4 = gA vw 3 4) → (gA vw' 3 5 = gA vw 3 5) → Q vw') : qX10_setShares vw Q := by
  have l0 := hL 0 (by omega)
  have l1 := hL 1 (by omega)
  have l2 := hL 2 (by omega)
  unfold qX10_setShares
  refine N_everyone (h 0 (by omega)) (h 1 (by omega)) (h 2 (by omega)) ⟨vp_in_nI (n := 3) (by decide) (by decide), fun w hw => ?_⟩
  have g3 : gA w 3 = va_up (gA vw 3) 3 (nI (L 0 + L 1 + L 2)) := by rw [hw]; rfl
  have fr0 : Fr [(1, 3)] vw w := by rw [hw]; exact Fr.tA 3 _ _ (by decide)
  refine pk_loop (fun k i s => qX10_setShares_14 Q k s (nI (L 0 + L 1 + L 2)) (nI i)) (fun i s => Fr [(1, 3)] vw s ∧ (∀ t, t < i → gA s 3 t = nI (if L 0 + L 1 + L 2 = 0 then 0 else L t * 100 / (L 0 + L 1 + L 2))) ∧ ∀ t, 3 ≤ t → gA s 3 t = gA w 3 t) 3 0 w (by omega) ⟨fr0, fun t ht => by omega, fun t _ => rfl⟩ (fun k s hI => ?_) (fun k i s hi hI ih => ?_)
  · obtain ⟨i1, i2, i3⟩ := hI
    unfold qX10_setShares_14
    have a4 : gA s 3 4 = gA vw 3 4 := by rw [i3 4 (by omega), g3, va_up_ne' _ _ (by omega)]
    have a5 : gA s 3 5 = gA vw 3 5 := by rw [i3 5 (by omega), g3, va_up_ne' _ _ (by omega)]
    have a3 : ∀ pts yr k, k < 4 → gA s 3 k = nI (fcF L pts yr k) := by
      intro pts yr k hk
      unfold fcF
      by_cases h3 : k < 3
      · rw [if_pos h3]; exact i2 k h3
      · obtain rfl : k = 3 := by omega
        rw [if_neg h3, if_pos rfl, i3 3 (by omega), g3, va_up_eq]
    refine c_y (by decide) (hQ s i1 (fun pts yr hp hy k hk => ?_) a3 a4 a5)
    by_cases h4 : k < 4
    · exact a3 pts yr k h4
    · rcases (show k = 4 ∨ k = 5 by omega) with rfl | rfl
      · rw [a4, hp]; rfl
      · rw [a5, hy]; rfl
  · obtain ⟨i1, i2, i3⟩ := hI
    have g2 : gA s 2 i = nI (L i) := by rw [i1.2.1 2 (by decide)]; exact h i hi
    have li := hL i hi
    have z : ¬ 3 ≤ i := by omega
    unfold qX10_setShares_14
    by_cases h0 : L 0 + L 1 + L 2 = 0
    · have z2 : L 0 + L 1 + L 2 ≤ 0 := by omega
      simp (disch := omega) only [z, z2, Nat.zero_add, ofI1, nI_add, pk_mul, pk_sub, nI_clamp, imin_nI, imax_nI, nl_0, nl_1, nl_2, nl_3, nl_4, nl_5, nl_6, nl_7, nl_8, nl_9, nl_10, nl_11, nl_12, nl_13, nl_15, nl_16, nl_20, nl_24, nl_26, nl_30, nl_32, nl_36, nl_39, nl_40, nl_45, nl_48, nl_50, nl_57, nl_59, nl_60, nl_61, nl_62, nl_64, nl_72, nl_73, nl_80, nl_90, nl_97, nl_99, nl_100, nl_120, nl_122, nl_123, nl_127, nl_128, nl_199, nl_200, nl_255, nl_256, nl_290, nl_399, nl_400, nl_500, nl_512, nl_520, nl_600, nl_999, nl_1000, nl_2000, nl_9999, nl_10000, nl_14, nl_17, nl_18, nl_19, nl_21, nl_22, nl_23, nl_25, nl_27, nl_28, nl_29, nl_31, nl_33, nl_34, nl_35, nl_47, nl_51, nl_63, nl_110, nl_195, nl_240, nl_1370, nl_3710, nl_6030, nl_6690, nl_7490, nl_7610, nl_9170, nl_11570, gA_sF, gL_sF, gB_sF, gZ_sF, gO_sF, gX_sF, gF_sA, gL_sA, gB_sA, gZ_sA, gO_sA, gX_sA, gF_sL, gA_sL, gB_sL, gZ_sL, gO_sL, gX_sL, gF_sB, gA_sB, gL_sB, gZ_sB, gO_sB, gX_sB, gF_sZ, gA_sZ, gL_sZ, gB_sZ, gO_sZ, gX_sZ, gF_sO, gA_sO, gL_sO, gB_sO, gZ_sO, gX_sO, gF_sX, gA_sX, gL_sX, gB_sX, gZ_sX, gO_sX, gF_tA, gL_tA, gB_tA, gZ_tA, gO_tA, gX_tA, gF_tL, gA_tL, gB_tL, gZ_tL, gO_tL, gX_tL, gF_tB, gA_tB, gL_tB, gZ_tB, gO_tB, gX_tB, gF_tZ, gA_tZ, gL_tZ, gB_tZ, gO_tZ, gX_tZ, gF_sF, gA_sA, gL_sL, gB_sB, gZ_sZ, gO_sO, gX_sX, gA_tA, gL_tL, gB_tB, gZ_tZ, reduceIte, Nat.reduceEqDiff, Nat.zero_ne_one, Nat.one_ne_zero, Nat.succ_ne_self, forall_eq, vpT, cpyT, nI_leI, nI_ltI, nI_eq, nI_m1, oI_eqn, oI_eqm, va_up_ne', va_up_eq, eq_self_iff_true, true_or, or_true, true_implies, not_true_eq_false, not_false_eq_true, false_implies, and_true, true_and, forall_const, implies_true, ne_eq, Nat.add_sub_cancel, nI_pos, ite_self]
      refine ih _ ⟨i1.tr (Fr.tA 3 _ _ (by decide)), fun t ht => ?_, fun t ht => ?_⟩
      · rw [if_pos h0]
        by_cases e : t = i
        · subst e; simp (disch := omega) only [ofI1, nI_add, pk_mul, pk_sub, nI_clamp, imin_nI, imax_nI, nl_0, nl_1, nl_2, nl_3, nl_4, nl_5, nl_6, nl_7, nl_8, nl_9, nl_10, nl_11, nl_12, nl_13, nl_15, nl_16, nl_20, nl_24, nl_26, nl_30, nl_32, nl_36, nl_39, nl_40, nl_45, nl_48, nl_50, nl_57, nl_59, nl_60, nl_61, nl_62, nl_64, nl_72, nl_73, nl_80, nl_90, nl_97, nl_99, nl_100, nl_120, nl_122, nl_123, nl_127, nl_128, nl_199, nl_200, nl_255, nl_256, nl_290, nl_399, nl_400, nl_500, nl_512, nl_520, nl_600, nl_999, nl_1000, nl_2000, nl_9999, nl_10000, nl_14, nl_17, nl_18, nl_19, nl_21, nl_22, nl_23, nl_25, nl_27, nl_28, nl_29, nl_31, nl_33, nl_34, nl_35, nl_47, nl_51, nl_63, nl_110, nl_195, nl_240, nl_1370, nl_3710, nl_6030, nl_6690, nl_7490, nl_7610, nl_9170, nl_11570, gA_sF, gL_sF, gB_sF, gZ_sF, gO_sF, gX_sF, gF_sA, gL_sA, gB_sA, gZ_sA, gO_sA, gX_sA, gF_sL, gA_sL, gB_sL, gZ_sL, gO_sL, gX_sL, gF_sB, gA_sB, gL_sB, gZ_sB, gO_sB, gX_sB, gF_sZ, gA_sZ, gL_sZ, gB_sZ, gO_sZ, gX_sZ, gF_sO, gA_sO, gL_sO, gB_sO, gZ_sO, gX_sO, gF_sX, gA_sX, gL_sX, gB_sX, gZ_sX, gO_sX, gF_tA, gL_tA, gB_tA, gZ_tA, gO_tA, gX_tA, gF_tL, gA_tL, gB_tL, gZ_tL, gO_tL, gX_tL, gF_tB, gA_tB, gL_tB, gZ_tB, gO_tB, gX_tB, gF_tZ, gA_tZ, gL_tZ, gB_tZ, gO_tZ, gX_tZ, gF_sF, gA_sA, gL_sL, gB_sB, gZ_sZ, gO_sO, gX_sX, gA_tA, gL_tL, gB_tB, gZ_tZ, reduceIte, Nat.reduceEqDiff, Nat.zero_ne_one, Nat.one_ne_zero, Nat.succ_ne_self, forall_eq, vpT, cpyT, nI_leI, nI_ltI, nI_eq, nI_m1, oI_eqn, oI_eqm, va_up_ne', va_up_eq, eq_self_iff_true, true_or, or_true, true_implies, not_true_eq_false, not_false_eq_true, false_implies, and_true, true_and, forall_const, implies_true, ne_eq, Nat.add_sub_cancel, nI_pos, ite_self]
        · simp (disch := omega) only [ofI1, nI_add, pk_mul, pk_sub, nI_clamp, imin_nI, imax_nI, nl_0, nl_1, nl_2, nl_3, nl_4, nl_5, nl_6, nl_7, nl_8, nl_9, nl_10, nl_11, nl_12, nl_13, nl_15, nl_16, nl_20, nl_24, nl_26, nl_30, nl_32, nl_36, nl_39, nl_40, nl_45, nl_48, nl_50, nl_57, nl_59, nl_60, nl_61, nl_62, nl_64, nl_72, nl_73, nl_80, nl_90, nl_97, nl_99, nl_100, nl_120, nl_122, nl_123, nl_127, nl_128, nl_199, nl_200, nl_255, nl_256, nl_290, nl_399, nl_400, nl_500, nl_512, nl_520, nl_600, nl_999, nl_1000, nl_2000, nl_9999, nl_10000, nl_14, nl_17, nl_18, nl_19, nl_21, nl_22, nl_23, nl_25, nl_27, nl_28, nl_29, nl_31, nl_33, nl_34, nl_35, nl_47, nl_51, nl_63, nl_110, nl_195, nl_240, nl_1370, nl_3710, nl_6030, nl_6690, nl_7490, nl_7610, nl_9170, nl_11570, gA_sF, gL_sF, gB_sF, gZ_sF, gO_sF, gX_sF, gF_sA, gL_sA, gB_sA, gZ_sA, gO_sA, gX_sA, gF_sL, gA_sL, gB_sL, gZ_sL, gO_sL, gX_sL, gF_sB, gA_sB, gL_sB, gZ_sB, gO_sB, gX_sB, gF_sZ, gA_sZ, gL_sZ, gB_sZ, gO_sZ, gX_sZ, gF_sO, gA_sO, gL_sO, gB_sO, gZ_sO, gX_sO, gF_sX, gA_sX, gL_sX, gB_sX, gZ_sX, gO_sX, gF_tA, gL_tA, gB_tA, gZ_tA, gO_tA, gX_tA, gF_tL, gA_tL, gB_tL, gZ_tL, gO_tL, gX_tL, gF_tB, gA_tB, gL_tB, gZ_tB, gO_tB, gX_tB, gF_tZ, gA_tZ, gL_tZ, gB_tZ, gO_tZ, gX_tZ, gF_sF, gA_sA, gL_sL, gB_sB, gZ_sZ, gO_sO, gX_sX, gA_tA, gL_tL, gB_tB, gZ_tZ, reduceIte, Nat.reduceEqDiff, Nat.zero_ne_one, Nat.one_ne_zero, Nat.succ_ne_self, forall_eq, vpT, cpyT, nI_leI, nI_ltI, nI_eq, nI_m1, oI_eqn, oI_eqm, va_up_ne', va_up_eq, eq_self_iff_true, true_or, or_true, true_implies, not_true_eq_false, not_false_eq_true, false_implies, and_true, true_and, forall_const, implies_true, ne_eq, Nat.add_sub_cancel, nI_pos, ite_self]; rw [i2 t (by omega), if_pos h0]
      · simp (disch := omega) only [ofI1, nI_add, pk_mul, pk_sub, nI_clamp, imin_nI, imax_nI, nl_0, nl_1, nl_2, nl_3, nl_4, nl_5, nl_6, nl_7, nl_8, nl_9, nl_10, nl_11, nl_12, nl_13, nl_15, nl_16, nl_20, nl_24, nl_26, nl_30, nl_32, nl_36, nl_39, nl_40, nl_45, nl_48, nl_50, nl_57, nl_59, nl_60, nl_61, nl_62, nl_64, nl_72, nl_73, nl_80, nl_90, nl_97, nl_99, nl_100, nl_120, nl_122, nl_123, nl_127, nl_128, nl_199, nl_200, nl_255, nl_256, nl_290, nl_399, nl_400, nl_500, nl_512, nl_520, nl_600, nl_999, nl_1000, nl_2000, nl_9999, nl_10000, nl_14, nl_17, nl_18, nl_19, nl_21, nl_22, nl_23, nl_25, nl_27, nl_28, nl_29, nl_31, nl_33, nl_34, nl_35, nl_47, nl_51, nl_63, nl_110, nl_195, nl_240, nl_1370, nl_3710, nl_6030, nl_6690, nl_7490, nl_7610, nl_9170, nl_11570, gA_sF, gL_sF, gB_sF, gZ_sF, gO_sF, gX_sF, gF_sA, gL_sA, gB_sA, gZ_sA, gO_sA, gX_sA, gF_sL, gA_sL, gB_sL, gZ_sL, gO_sL, gX_sL, gF_sB, gA_sB, gL_sB, gZ_sB, gO_sB, gX_sB, gF_sZ, gA_sZ, gL_sZ, gB_sZ, gO_sZ, gX_sZ, gF_sO, gA_sO, gL_sO, gB_sO, gZ_sO, gX_sO, gF_sX, gA_sX, gL_sX, gB_sX, gZ_sX, gO_sX, gF_tA, gL_tA, gB_tA, gZ_tA, gO_tA, gX_tA, gF_tL, gA_tL, gB_tL, gZ_tL, gO_tL, gX_tL, gF_tB, gA_tB, gL_tB, gZ_tB, gO_tB, gX_tB, gF_tZ, gA_tZ, gL_tZ, gB_tZ, gO_tZ, gX_tZ, gF_sF, gA_sA, gL_sL, gB_sB, gZ_sZ, gO_sO, gX_sX, gA_tA, gL_tL, gB_tB, gZ_tZ, reduceIte, Nat.reduceEqDiff, Nat.zero_ne_one, Nat.one_ne_zero, Nat.succ_ne_self, forall_eq, vpT, cpyT, nI_leI, nI_ltI, nI_eq, nI_m1, oI_eqn, oI_eqm, va_up_ne', va_up_eq, eq_self_iff_true, true_or, or_true, true_implies, not_true_eq_false, not_false_eq_true, false_implies, and_true, true_and, forall_const, implies_true, ne_eq, Nat.add_sub_cancel, nI_pos, ite_self]; exact i3 t ht
    · have z2 : ¬ L 0 + L 1 + L 2 ≤ 0 := by omega
      simp (disch := omega) only [z, z2, h0, g2, pk_div, Nat.zero_add, ofI1, nI_add, pk_mul, pk_sub, nI_clamp, imin_nI, imax_nI, nl_0, nl_1, nl_2, nl_3, nl_4, nl_5, nl_6, nl_7, nl_8, nl_9, nl_10, nl_11, nl_12, nl_13, nl_15, nl_16, nl_20, nl_24, nl_26, nl_30, nl_32, nl_36, nl_39, nl_40, nl_45, nl_48, nl_50, nl_57, nl_59, nl_60, nl_61, nl_62, nl_64, nl_72, nl_73, nl_80, nl_90, nl_97, nl_99, nl_100, nl_120, nl_122, nl_123, nl_127, nl_128, nl_199, nl_200, nl_255, nl_256, nl_290, nl_399, nl_400, nl_500, nl_512, nl_520, nl_600, nl_999, nl_1000, nl_2000, nl_9999, nl_10000, nl_14, nl_17, nl_18, nl_19, nl_21, nl_22, nl_23, nl_25, nl_27, nl_28, nl_29, nl_31, nl_33, nl_34, nl_35, nl_47, nl_51, nl_63, nl_110, nl_195, nl_240, nl_1370, nl_3710, nl_6030, nl_6690, nl_7490, nl_7610, nl_9170, nl_11570, gA_sF, gL_sF, gB_sF, gZ_sF, gO_sF, gX_sF, gF_sA, gL_sA, gB_sA, gZ_sA, gO_sA, gX_sA, gF_sL, gA_sL, gB_sL, gZ_sL, gO_sL, gX_sL, gF_sB, gA_sB, gL_sB, gZ_sB, gO_sB, gX_sB, gF_sZ, gA_sZ, gL_sZ, gB_sZ, gO_sZ, gX_sZ, gF_sO, gA_sO, gL_sO, gB_sO, gZ_sO, gX_sO, gF_sX, gA_sX, gL_sX, gB_sX, gZ_sX, gO_sX, gF_tA, gL_tA, gB_tA, gZ_tA, gO_tA, gX_tA, gF_tL, gA_tL, gB_tL, gZ_tL, gO_tL, gX_tL, gF_tB, gA_tB, gL_tB, gZ_tB, gO_tB, gX_tB, gF_tZ, gA_tZ, gL_tZ, gB_tZ, gO_tZ, gX_tZ, gF_sF, gA_sA, gL_sL, gB_sB, gZ_sZ, gO_sO, gX_sX, gA_tA, gL_tL, gB_tB, gZ_tZ, reduceIte, Nat.reduceEqDiff, Nat.zero_ne_one, Nat.one_ne_zero, Nat.succ_ne_self, forall_eq, vpT, cpyT, nI_leI, nI_ltI, nI_eq, nI_m1, oI_eqn, oI_eqm, va_up_ne', va_up_eq, eq_self_iff_true, true_or, or_true, true_implies, not_true_eq_false, not_false_eq_true, false_implies, and_true, true_and, forall_const, implies_true, ne_eq, Nat.add_sub_cancel, nI_pos, ite_self]
      refine ih _ ⟨i1.tr (Fr.tA 3 _ _ (by decide)), fun t ht => ?_, fun t ht => ?_⟩
      · by_cases e : t = i
        · subst e; simp (disch := omega) only [ofI1, nI_add, pk_mul, pk_sub, nI_clamp, imin_nI, imax_nI, nl_0, nl_1, nl_2, nl_3, nl_4, nl_5, nl_6, nl_7, nl_8, nl_9, nl_10, nl_11, nl_12, nl_13, nl_15, nl_16, nl_20, nl_24, nl_26, nl_30, nl_32, nl_36, nl_39, nl_40, nl_45, nl_48, nl_50, nl_57, nl_59, nl_60, nl_61, nl_62, nl_64, nl_72, nl_73, nl_80, nl_90, nl_97, nl_99, nl_100, nl_120, nl_122, nl_123, nl_127, nl_128, nl_199, nl_200, nl_255, nl_256, nl_290, nl_399, nl_400, nl_500, nl_512, nl_520, nl_600, nl_999, nl_1000, nl_2000, nl_9999, nl_10000, nl_14, nl_17, nl_18, nl_19, nl_21, nl_22, nl_23, nl_25, nl_27, nl_28, nl_29, nl_31, nl_33, nl_34, nl_35, nl_47, nl_51, nl_63, nl_110, nl_195, nl_240, nl_1370, nl_3710, nl_6030, nl_6690, nl_7490, nl_7610, nl_9170, nl_11570, gA_sF, gL_sF, gB_sF, gZ_sF, gO_sF, gX_sF, gF_sA, gL_sA, gB_sA, gZ_sA, gO_sA, gX_sA, gF_sL, gA_sL, gB_sL, gZ_sL, gO_sL, gX_sL, gF_sB, gA_sB, gL_sB, gZ_sB, gO_sB, gX_sB, gF_sZ, gA_sZ, gL_sZ, gB_sZ, gO_sZ, gX_sZ, gF_sO, gA_sO, gL_sO, gB_sO, gZ_sO, gX_sO, gF_sX, gA_sX, gL_sX, gB_sX, gZ_sX, gO_sX, gF_tA, gL_tA, gB_tA, gZ_tA, gO_tA, gX_tA, gF_tL, gA_tL, gB_tL, gZ_tL, gO_tL, gX_tL, gF_tB, gA_tB, gL_tB, gZ_tB, gO_tB, gX_tB, gF_tZ, gA_tZ, gL_tZ, gB_tZ, gO_tZ, gX_tZ, gF_sF, gA_sA, gL_sL, gB_sB, gZ_sZ, gO_sO, gX_sX, gA_tA, gL_tL, gB_tB, gZ_tZ, reduceIte, Nat.reduceEqDiff, Nat.zero_ne_one, Nat.one_ne_zero, Nat.succ_ne_self, forall_eq, vpT, cpyT, nI_leI, nI_ltI, nI_eq, nI_m1, oI_eqn, oI_eqm, va_up_ne', va_up_eq, eq_self_iff_true, true_or, or_true, true_implies, not_true_eq_false, not_false_eq_true, false_implies, and_true, true_and, forall_const, implies_true, ne_eq, Nat.add_sub_cancel, nI_pos, ite_self]; rw [if_neg h0]
        · simp (disch := omega) only [ofI1, nI_add, pk_mul, pk_sub, nI_clamp, imin_nI, imax_nI, nl_0, nl_1, nl_2, nl_3, nl_4, nl_5, nl_6, nl_7, nl_8, nl_9, nl_10, nl_11, nl_12, nl_13, nl_15, nl_16, nl_20, nl_24, nl_26, nl_30, nl_32, nl_36, nl_39, nl_40, nl_45, nl_48, nl_50, nl_57, nl_59, nl_60, nl_61, nl_62, nl_64, nl_72, nl_73, nl_80, nl_90, nl_97, nl_99, nl_100, nl_120, nl_122, nl_123, nl_127, nl_128, nl_199, nl_200, nl_255, nl_256, nl_290, nl_399, nl_400, nl_500, nl_512, nl_520, nl_600, nl_999, nl_1000, nl_2000, nl_9999, nl_10000, nl_14, nl_17, nl_18, nl_19, nl_21, nl_22, nl_23, nl_25, nl_27, nl_28, nl_29, nl_31, nl_33, nl_34, nl_35, nl_47, nl_51, nl_63, nl_110, nl_195, nl_240, nl_1370, nl_3710, nl_6030, nl_6690, nl_7490, nl_7610, nl_9170, nl_11570, gA_sF, gL_sF, gB_sF, gZ_sF, gO_sF, gX_sF, gF_sA, gL_sA, gB_sA, gZ_sA, gO_sA, gX_sA, gF_sL, gA_sL, gB_sL, gZ_sL, gO_sL, gX_sL, gF_sB, gA_sB, gL_sB, gZ_sB, gO_sB, gX_sB, gF_sZ, gA_sZ, gL_sZ, gB_sZ, gO_sZ, gX_sZ, gF_sO, gA_sO, gL_sO, gB_sO, gZ_sO, gX_sO, gF_sX, gA_sX, gL_sX, gB_sX, gZ_sX, gO_sX, gF_tA, gL_tA, gB_tA, gZ_tA, gO_tA, gX_tA, gF_tL, gA_tL, gB_tL, gZ_tL, gO_tL, gX_tL, gF_tB, gA_tB, gL_tB, gZ_tB, gO_tB, gX_tB, gF_tZ, gA_tZ, gL_tZ, gB_tZ, gO_tZ, gX_tZ, gF_sF, gA_sA, gL_sL, gB_sB, gZ_sZ, gO_sO, gX_sX, gA_tA, gL_tL, gB_tB, gZ_tZ, reduceIte, Nat.reduceEqDiff, Nat.zero_ne_one, Nat.one_ne_zero, Nat.succ_ne_self, forall_eq, vpT, cpyT, nI_leI, nI_ltI, nI_eq, nI_m1, oI_eqn, oI_eqm, va_up_ne', va_up_eq, eq_self_iff_true, true_or, or_true, true_implies, not_true_eq_false, not_false_eq_true, false_implies, and_true, true_and, forall_const, implies_true, ne_eq, Nat.add_sub_cancel, nI_pos, ite_self]; rw [i2 t (by omega), if_neg h0]
      · simp (disch := omega) only [ofI1, nI_add, pk_mul, pk_sub, nI_clamp, imin_nI, imax_nI, nl_0, nl_1, nl_2, nl_3, nl_4, nl_5, nl_6, nl_7, nl_8, nl_9, nl_10, nl_11, nl_12, nl_13, nl_15, nl_16, nl_20, nl_24, nl_26, nl_30, nl_32, nl_36, nl_39, nl_40, nl_45, nl_48, nl_50, nl_57, nl_59, nl_60, nl_61, nl_62, nl_64, nl_72, nl_73, nl_80, nl_90, nl_97, nl_99, nl_100, nl_120, nl_122, nl_123, nl_127, nl_128, nl_199, nl_200, nl_255, nl_256, nl_290, nl_399, nl_400, nl_500, nl_512, nl_520, nl_600, nl_999, nl_1000, nl_2000, nl_9999, nl_10000, nl_14, nl_17, nl_18, nl_19, nl_21, nl_22, nl_23, nl_25, nl_27, nl_28, nl_29, nl_31, nl_33, nl_34, nl_35, nl_47, nl_51, nl_63, nl_110, nl_195, nl_240, nl_1370, nl_3710, nl_6030, nl_6690, nl_7490, nl_7610, nl_9170, nl_11570, gA_sF, gL_sF, gB_sF, gZ_sF, gO_sF, gX_sF, gF_sA, gL_sA, gB_sA, gZ_sA, gO_sA, gX_sA, gF_sL, gA_sL, gB_sL, gZ_sL, gO_sL, gX_sL, gF_sB, gA_sB, gL_sB, gZ_sB, gO_sB, gX_sB, gF_sZ, gA_sZ, gL_sZ, gB_sZ, gO_sZ, gX_sZ, gF_sO, gA_sO, gL_sO, gB_sO, gZ_sO, gX_sO, gF_sX, gA_sX, gL_sX, gB_sX, gZ_sX, gO_sX, gF_tA, gL_tA, gB_tA, gZ_tA, gO_tA, gX_tA, gF_tL, gA_tL, gB_tL, gZ_tL, gO_tL, gX_tL, gF_tB, gA_tB, gL_tB, gZ_tB, gO_tB, gX_tB, gF_tZ, gA_tZ, gL_tZ, gB_tZ, gO_tZ, gX_tZ, gF_sF, gA_sA, gL_sL, gB_sB, gZ_sZ, gO_sO, gX_sX, gA_tA, gL_tL, gB_tB, gZ_tZ, reduceIte, Nat.reduceEqDiff, Nat.zero_ne_one, Nat.one_ne_zero, Nat.succ_ne_self, forall_eq, vpT, cpyT, nI_leI, nI_ltI, nI_eq, nI_m1, oI_eqn, oI_eqm, va_up_ne', va_up_eq, eq_self_iff_true, true_or, or_true, true_implies, not_true_eq_false, not_false_eq_true, false_implies, and_true, true_and, forall_const, implies_true, ne_eq, Nat.add_sub_cancel, nI_pos, ite_self]; exact i3 t ht
theorem acA_le {A : Nat → Nat → Nat} {y : Nat} : acA A y ≤ A 54 0 := lastF_le _
theorem fhA_lt {A : Nat → Nat → Nat} {F : Nat → Nat} {a kind : Nat} (h : fhA A F a kind ≠ 0) : a ≠ 0 ∧ fhA A F a kind - 1 < A 27 (a - 1) ∧ A 28 (12 * (a - 1) + (fhA A F a kind - 1)) = kind := by
  obtain ⟨r, hr⟩ : ∃ r, fhA A F a kind = r + 1 := ⟨fhA A F a kind - 1, by omega⟩
  have h0 : a ≠ 0 := fun e => h (by unfold fhA; rw [if_pos e])
  refine ⟨h0, ?_⟩
  rw [hr, Nat.add_sub_cancel]
  unfold fhA at hr
  rw [if_neg h0] at hr
  have := fstF_some _ r hr
  refine ⟨this.1, ?_⟩
  have h2 := (Bool.and_eq_true_iff.mp this.2).1
  simpa using h2
theorem frA_lt {A : Nat → Nat → Nat} {c : Nat} (hw : Wf A c) {F L : Nat → Nat} {a : Nat} (ha : a ≤ A 54 0) : frA A F L a < 3 := by
  unfold frA
  by_cases h : fhA A F a 0 = 0
  · rw [if_pos h]; exact mostA_lt _ _
  · rw [if_neg h]
    obtain ⟨h1, h2, h3⟩ := fhA_lt h
    have := ((hw.2.2.2.2.2.2.1 (a - 1) (by omega)).2.2 _ h2).2.2.1 h3
    omega
theorem N_firstBy {vw ac : Md} {A : Nat → Nat → Nat} {c a : Nat} (hw : Wf A c) (h : Nac ac A) (ha : a ≤ A 54 0) {F L : Nat → Nat} (hf : ∀ k, k < 6 → gA vw 3 k = nI (F k)) (hF : ∀ k, k < 6 → F k < 2 ^ 31) (h2 : ∀ t, t < 3 → gA vw 2 t = nI (L t)) (hL : ∀ t, t < 3 → L t < 2 ^ 31) {Q : Int32 → Md → Md → Prop} (hQ : Q (nI (frA A F L a)) vw ac) : qX10_firstBy vw ac (oI a) Q := by
  have b4 : A 54 0 ≤ 8 := hw.1.2.2.2.2.1
  unfold qX10_firstBy
  refine N_firstHolding (kind := 0) hw h ha (by omega) hf hF ?_
  rw [sA_self]
  by_cases h0 : fhA A F a 0 = 0
  · have e : frA A F L a = mostA L 0 := by unfold frA; rw [if_pos h0]
    rw [if_pos h0]
    refine c_y' rfl ?_
    rw [e] at hQ
    exact N_mostPeople (b := 0) (by omega) h2 hL hQ
  · have e : frA A F L a = A 29 (12 * (a - 1) + (fhA A F a 0 - 1)) := by unfold frA; rw [if_neg h0]
    obtain ⟨k1, k2, k3⟩ := fhA_lt h0
    have k4 := ((h.2 (a - 1) (by omega)).2.2.2 _ k2).2.1
    have k5 := (hw.2.2.2.2.2.2.1 (a - 1) (by omega)).2.1
    rw [if_neg h0]
    refine c_n' (nI_m1 (by omega)) ⟨vp_in_nI (by omega) (by decide), ?_⟩
    rw [nI_clamp (by omega), k4, ← e]
    exact hQ
def FvA (A : Nat → Nat → Nat) (u p yr : Nat) : Nat → Nat := fcF (livA A u p) (ptsA A u p) yr
def ldA (A : Nat → Nat → Nat) (u p yr : Nat) : Nat := frA A (FvA A u p yr) (livA A u p) (acA A u)
def bdA (A : Nat → Nat → Nat) (u p yr : Nat) : Nat := bsA A (FvA A u p yr) (livA A u p) (acA A u)
theorem FvA_lt {A : Nat → Nat → Nat} {c : Nat} (hw : Wf A c) {u p yr : Nat} (hy : yr < 400) : ∀ k, k < 6 → FvA A u p yr k < 2 ^ 31 := fcF_lt (fun t _ => by have := livA_le hw u p t; omega) (by have := cntF_le (f := fun q => parA A u q == p + 1) (A 51 0); have := hw.1.2.1; show cntF _ _ ≤ 40; omega) hy
theorem bdA_le {A : Nat → Nat → Nat} {u p yr : Nat} : bdA A u p yr ≤ 3 := by
  unfold bdA bsA; split
  · omega
  · split
    · omega
    · have := mostA_lt (livA A u p) (frA A (FvA A u p yr) (livA A u p) (acA A u) + 1); omega
theorem ldA_lt {A : Nat → Nat → Nat} {c : Nat} (hw : Wf A c) {u p yr : Nat} : ldA A u p yr < 3 := frA_lt hw acA_le
theorem N_look {vw st la ac : Md} {A : Nat → Nat → Nat} {c p yr kn : Nat} (hw : Wf A c) (hl : Nla la A) (ha : Nac ac A) (hp : p < A 51 0) (hy : yr < 400) (hk : kn < 400) {Q : Md → Md → Md → Md → Prop} (hQ : ∀ vw', Fr [(1, 0), (1, 1), (1, 2), (1, 3), (0, 4), (0, 5)] vw vw' → gF vw' 4 = nI (ldA A (min yr kn) p yr) → gF vw' 5 = oI (bdA A (min yr kn) p yr) → (∀ j, j < 120 → gA vw' 1 j = nI (ownA A (min yr kn) j)) → (∀ t, t < 3 → gA vw' 2 t = nI (livA A (min yr kn) p t)) → (∀ k, k < 6 → gA vw' 3 k = nI (FvA A (min yr kn) p yr k)) → Q vw' st la ac) : qX10_look vw st la ac (nI p) (nI yr) (nI kn) Q := by
  unfold qX10_look
  rw [imin_nI (by omega) (by omega)]
  have hu : min yr kn < 400 := by omega
  generalize min yr kn = u at *
  have hLv : ∀ t, t < 3 → livA A u p t ≤ 100000 := fun t _ => by have := livA_le hw u p t; omega
  have hLv2 : ∀ t, t < 3 → livA A u p t < 2 ^ 31 := fun t _ => by have := livA_le hw u p t; omega
  refine N_gather hw hl hp hu (fun v1 f1 a0 a1 a2 a3 => ?_)
  refine N_setShares a2 hLv (fun v2 f2 b0 b1 b2 b3 => ⟨vp_in_nI (n := 5) (by decide) (by decide), fun w3 hw3 => ?_⟩)
  have g3 : gA w3 3 = va_up (gA v2 3) 5 (nI yr) := by rw [hw3]; rfl
  have f3 : Fr [(1, 3)] v2 w3 := by rw [hw3]; exact Fr.tA 3 _ _ (by decide)
  have fa : Fr [(1, 0), (1, 1), (1, 2), (1, 3), (0, 4), (0, 5)] vw w3 := (f1.mono (by decide)).tr ((f2.mono (by decide)).tr (f3.mono (by decide)))
  have hF3 : ∀ k, k < 6 → gA w3 3 k = nI (FvA A u p yr k) := by
    intro k hk
    rw [g3]
    by_cases e : k = 5
    · subst e; rw [va_up_eq]; rfl
    · rw [va_up_ne' _ _ e]
      by_cases e4 : k = 4
      · subst e4; rw [b2, a3, va_up_eq]; rfl
      · exact b1 _ _ k (by omega)
  have h23 : ∀ t, t < 3 → gA w3 2 t = nI (livA A u p t) := fun t ht => by rw [f3.2.1 2 (by decide), f2.2.1 2 (by decide)]; exact a2 t ht
  have h13 : ∀ j, j < 120 → gA w3 1 j = nI (ownA A u j) := fun t ht => by rw [f3.2.1 1 (by decide), f2.2.1 1 (by decide)]; exact a1 t ht
  refine N_inForce hw ha hu (N_firstBy (F := FvA A u p yr) (L := livA A u p) hw ha acA_le hF3 (FvA_lt hw hy) h23 hLv2 ?_)
  intro w4 hw4 w5 hw5
  have f5 : Fr [(0, 4), (0, 5)] w3 w5 := by rw [hw5, hw4]; exact Fr.tr (Fr.sF 4 _ (by decide)) (Fr.sF 5 _ (by decide))
  have g54 : gF w5 4 = nI (ldA A u p yr) := by rw [hw5, hw4]; rfl
  have g55 : gF w5 5 = -1 := by rw [hw5]; rfl
  have fb := fa.tr (f5.mono (by decide))
  have hld := ldA_lt hw (u := u) (p := p) (yr := yr)
  refine N_firstHolding (kind := 1) (F := FvA A u p yr) hw ha acA_le (by omega) (fun k hk => by rw [f5.2.1 3 (by decide)]; exact hF3 k hk) (FvA_lt hw hy) ?_
  rw [sA_self]
  have c1 : ∀ j, j < 120 → gA w5 1 j = nI (ownA A u j) := fun j hj => by rw [f5.2.1 1 (by decide)]; exact h13 j hj
  have c2 : ∀ t, t < 3 → gA w5 2 t = nI (livA A u p t) := fun j hj => by rw [f5.2.1 2 (by decide)]; exact h23 j hj
  have c3 : ∀ k, k < 6 → gA w5 3 k = nI (FvA A u p yr k) := fun j hj => by rw [f5.2.1 3 (by decide)]; exact hF3 j hj
  by_cases h0 : fhA A (FvA A u p yr) (acA A u) 1 = 0
  · rw [if_pos h0]
    have e : bdA A u p yr = 0 := by unfold bdA bsA; rw [if_pos h0]
    exact c_y rfl (hQ w5 fb g54 (by rw [g55, e]; rfl) c1 c2 c3)
  · rw [if_neg h0]
    obtain ⟨k1, k2, k3⟩ := fhA_lt h0
    have k5 := (hw.2.2.2.2.2.2.1 (acA A u - 1) (by have := acA_le (A := A) (y := u); omega)).2.1
    have b4 : A 54 0 ≤ 8 := hw.1.2.2.2.2.1
    have k6 := acA_le (A := A) (y := u)
    refine c_n (nI_m1 (by omega)) ?_
    rw [g54, ← oI_s]
    have hmo := mostA_lt (livA A u p) (ldA A u p yr + 1)
    refine N_mostPeople (L := livA A u p) (by omega) c2 hLv2 ⟨vp_in_nI hmo (by decide), ?_⟩
    rw [nI_clamp (by omega), c2 _ hmo]
    have ebd : bdA A u p yr = if livA A u p (mostA (livA A u p) (ldA A u p yr + 1)) = 0 then 0 else mostA (livA A u p) (ldA A u p yr + 1) + 1 := by
      unfold bdA bsA; rw [if_neg h0]; rfl
    refine c_le rfl nl_0 (hLv2 _ hmo) (by decide) (fun h => ?_) (fun h => ?_)
    · intro w6 hw6
      have f6 : Fr [(0, 5)] w5 w6 := by rw [hw6]; exact Fr.sF 5 _ (by decide)
      refine hQ w6 (fb.tr (f6.mono (by decide))) (by rw [f6.1 4 (by decide)]; exact g54) ?_ (fun j hj => by rw [f6.2.1 1 (by decide)]; exact c1 j hj) (fun j hj => by rw [f6.2.1 2 (by decide)]; exact c2 j hj) (fun j hj => by rw [f6.2.1 3 (by decide)]; exact c3 j hj)
      rw [ebd, if_pos (by omega), hw6]; rfl
    · intro w6 hw6
      have f6 : Fr [(0, 5)] w5 w6 := by rw [hw6]; exact Fr.sF 5 _ (by decide)
      refine hQ w6 (fb.tr (f6.mono (by decide))) (by rw [f6.1 4 (by decide)]; exact g54) ?_ (fun j hj => by rw [f6.2.1 1 (by decide)]; exact c1 j hj) (fun j hj => by rw [f6.2.1 2 (by decide)]; exact c2 j hj) (fun j hj => by rw [f6.2.1 3 (by decide)]; exact c3 j hj)
      rw [ebd, if_neg (by omega), oI_s, hw6]; rfl
