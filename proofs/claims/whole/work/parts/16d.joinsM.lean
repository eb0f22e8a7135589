/-- the reference's numbers of a paper -/
def JD (u : Md) (A : Nat → Nat → Nat) (k n : Nat) (pp : Nat → Nat) (g : Nat → Nat → Int) : Prop :=
  MW (gA u 1) A ∧ gF u 37 = nI n ∧ gF u 40 = nI k ∧ (∀ c, c < k → gA u 41 c = nI (pp c) ∧ pp c < A 51 0) ∧ (∀ i c, i < n → c < k → gA u 42 (10 * i + c) = Int32.ofInt (g i c))
theorem JD.fr {u v : Md} {A : Nat → Nat → Nat} {k n : Nat} {pp : Nat → Nat} {g : Nat → Nat → Int} (h : JD u A k n pp g) (f : Fr [(1, 43), (1, 44), (0, 45)] u v) : JD v A k n pp g := by
  unfold JD
  rw [f.2.1 1 (by decide), f.1 37 (by decide), f.1 40 (by decide), f.2.1 41 (by decide), f.2.1 42 (by decide)]
  exact h
/-- what a level does: the best row so far gives way to a better one -/
def JSp (q : Md → Int32 → Int32 → Int32 → (Md → Prop) → Prop) (L : Nat) (A : Nat → Nat → Nat) (k n : Nat) (pp : Nat → Nat) (g : Nat → Nat → Int) (nr : Nat → Nat → Bool) : Prop :=
  ∀ (u : Md) (i r S l : Nat) (sum B : Int) (rw : Nat → Nat), JD u A k n pp g → i + r = n → r ≤ L → S < 2 ^ k → pc S = i → (∀ j, j < i → gA u 43 j = nI (rw j) ∧ rw j < k) → (i = 0 → l = 0) → (0 < i → l = rw (i - 1) + 1) → -60 * (i : Int) ≤ sum → sum ≤ 23 * (i : Int) → gF u 45 = Int32.ofInt B → -1000000 ≤ B → B ≤ 1000 →
  ∀ Q : Md → Prop, (∀ u', Fr [(1, 43), (1, 44), (0, 45)] u u' → (∀ j, j < i → gA u' 43 j = gA u 43 j) →
    (B < sum + jV k n g nr r S l → gF u' 45 = Int32.ofInt (sum + jV k n g nr r S l) ∧ ∀ j, j < n → gA u' 44 j = nI (if j < i then rw j else jR k n g nr r S l (j - i))) →
    (¬ B < sum + jV k n g nr r S l → gF u' 45 = Int32.ofInt B ∧ gA u' 44 = gA u 44) → Q u') → q u (nI i) (nI S) (Int32.ofInt sum) Q
theorem joins_0 {A : Nat → Nat → Nat} {ca k n : Nat} {pp : Nat → Nat} {g : Nat → Nat → Int} {nr : Nat → Nat → Bool} (hw : Wf A ca) (k10 : k ≤ 10) (n7 : n ≤ 7) (hnk : n ≤ k) (hnr : ∀ a b, nr a b = nearB A (pp a) (pp b) 30) (hg : ∀ i c, i < n → c < k → -60 ≤ g i c ∧ g i c ≤ 20) : JSp qX12_joins_lv0 0 A k n pp g nr := by
  intro u i r S l sum B rw hJ hir hrL hS hpc hrow hl0 hl1 hs1 hs2 hB hB1 hB2 Q hQ
  by_cases hz : i = n
  · have hr0 : r = 0 := by omega
    subst hr0
    have hin : i = n := by omega
    subst hin
    have jz : jV k i g nr 0 S l = 0 := rfl
    rw [jz, Int.add_zero] at hQ
    unfold qX12_joins_lv0
    rw [hJ.2.1, hB]
    refine c_y' rfl ?_
    by_cases hlt : B < sum
    · refine c_y ((zi_lt (by omega) (by omega) (by omega) (by omega)).2 hlt) (fun w19 hw19 => ?_)
      subst hw19
      have f19 : Fr [(1, 43), (1, 44), (0, 45)] u (sF u 45 (Int32.ofInt sum)) := Fr.sF 45 _ (by decide)
      refine pk_loop (fun f j v => qX12_joins_lv0_25 Q f v (nI j)) (fun j v => Fr [(1, 43), (1, 44), (0, 45)] u v ∧ gA v 43 = gA u 43 ∧ gF v 45 = Int32.ofInt sum ∧ ∀ t, t < j → gA v 44 t = nI (rw t)) i 0 _ (Nat.zero_le _) ⟨f19, rfl, by simp (disch := omega) only [ofI1, nI_add, pk_mul, pk_sub, nI_clamp, imin_nI, imax_nI, nl_0, nl_1, nl_2, nl_3, nl_4, nl_5, nl_6, nl_7, nl_8, nl_9, nl_10, nl_11, nl_12, nl_13, nl_15, nl_16, nl_20, nl_24, nl_26, nl_30, nl_32, nl_36, nl_39, nl_40, nl_45, nl_48, nl_50, nl_57, nl_59, nl_60, nl_61, nl_62, nl_64, nl_72, nl_73, nl_80, nl_90, nl_97, nl_99, nl_100, nl_120, nl_122, nl_123, nl_127, nl_128, nl_199, nl_200, nl_255, nl_256, nl_290, nl_399, nl_400, nl_500, nl_512, nl_520, nl_600, nl_999, nl_1000, nl_2000, nl_9999, nl_10000, nl_14, nl_17, nl_18, nl_19, nl_21, nl_22, nl_23, nl_25, nl_27, nl_28, nl_29, nl_31, nl_33, nl_34, nl_35, nl_47, nl_51, nl_63, nl_110, nl_195, nl_240, nl_1370, nl_3710, nl_6030, nl_6690, nl_7490, nl_7610, nl_9170, nl_11570, gA_sF, gL_sF, gB_sF, gZ_sF, gO_sF, gX_sF, gF_sA, gL_sA, gB_sA, gZ_sA, gO_sA, gX_sA, gF_sL, gA_sL, gB_sL, gZ_sL, gO_sL, gX_sL, gF_sB, gA_sB, gL_sB, gZ_sB, gO_sB, gX_sB, gF_sZ, gA_sZ, gL_sZ, gB_sZ, gO_sZ, gX_sZ, gF_sO, gA_sO, gL_sO, gB_sO, gZ_sO, gX_sO, gF_sX, gA_sX, gL_sX, gB_sX, gZ_sX, gO_sX, gF_tA, gL_tA, gB_tA, gZ_tA, gO_tA, gX_tA, gF_tL, gA_tL, gB_tL, gZ_tL, gO_tL, gX_tL, gF_tB, gA_tB, gL_tB, gZ_tB, gO_tB, gX_tB, gF_tZ, gA_tZ, gL_tZ, gB_tZ, gO_tZ, gX_tZ, gF_sF, gA_sA, gL_sL, gB_sB, gZ_sZ, gO_sO, gX_sX, gA_tA, gL_tL, gB_tB, gZ_tZ, reduceIte, Nat.reduceEqDiff, Nat.zero_ne_one, Nat.one_ne_zero, Nat.succ_ne_self, forall_eq, vpT, cpyT, nI_leI, nI_ltI, nI_eq, nI_m1, oI_eqn, oI_eqm, va_up_ne', va_up_eq, eq_self_iff_true, true_or, or_true, true_implies, not_true_eq_false, not_false_eq_true, false_implies, and_true, true_and, forall_const, implies_true, ne_eq, Nat.add_sub_cancel, nI_pos, ite_self], fun t ht => by omega⟩ (fun f v hI => ?_) (fun f j v hj hI ih => ?_)
      · obtain ⟨i1, i2, i3, i4⟩ := hI
        unfold qX12_joins_lv0_25
        rw [show gF v 37 = nI i from (i1.1 37 (by decide)).trans hJ.2.1]
        refine c_y (nI_le (Nat.le_refl _) (by omega)) (hQ v i1 (fun j _ => by rw [i2]) (fun _ => ⟨i3, fun j hj => ?_⟩) (fun h => absurd hlt h))
        rw [if_pos hj]; exact i4 j hj
      · obtain ⟨i1, i2, i3, i4⟩ := hI
        have hrj := hrow j hj
        unfold qX12_joins_lv0_25
        rw [show gF v 37 = nI i from (i1.1 37 (by decide)).trans hJ.2.1, nI_clamp (by omega), i2, hrj.1, ofI1, nI_add]
        refine c_n (nI_ge hj (by omega)) (c_in rfl (by omega) (by decide) (c_in rfl (by omega) (by decide) (fun w hw' => ?_)))
        subst hw'
        refine ih _ ⟨i1.tr (Fr.tA 44 _ _ (by decide)), i2, i3, fun t ht => ?_⟩
        by_cases e : t = j
        · subst e; simp (disch := omega) only [ofI1, nI_add, pk_mul, pk_sub, nI_clamp, imin_nI, imax_nI, nl_0, nl_1, nl_2, nl_3, nl_4, nl_5, nl_6, nl_7, nl_8, nl_9, nl_10, nl_11, nl_12, nl_13, nl_15, nl_16, nl_20, nl_24, nl_26, nl_30, nl_32, nl_36, nl_39, nl_40, nl_45, nl_48, nl_50, nl_57, nl_59, nl_60, nl_61, nl_62, nl_64, nl_72, nl_73, nl_80, nl_90, nl_97, nl_99, nl_100, nl_120, nl_122, nl_123, nl_127, nl_128, nl_199, nl_200, nl_255, nl_256, nl_290, nl_399, nl_400, nl_500, nl_512, nl_520, nl_600, nl_999, nl_1000, nl_2000, nl_9999, nl_10000, nl_14, nl_17, nl_18, nl_19, nl_21, nl_22, nl_23, nl_25, nl_27, nl_28, nl_29, nl_31, nl_33, nl_34, nl_35, nl_47, nl_51, nl_63, nl_110, nl_195, nl_240, nl_1370, nl_3710, nl_6030, nl_6690, nl_7490, nl_7610, nl_9170, nl_11570, gA_sF, gL_sF, gB_sF, gZ_sF, gO_sF, gX_sF, gF_sA, gL_sA, gB_sA, gZ_sA, gO_sA, gX_sA, gF_sL, gA_sL, gB_sL, gZ_sL, gO_sL, gX_sL, gF_sB, gA_sB, gL_sB, gZ_sB, gO_sB, gX_sB, gF_sZ, gA_sZ, gL_sZ, gB_sZ, gO_sZ, gX_sZ, gF_sO, gA_sO, gL_sO, gB_sO, gZ_sO, gX_sO, gF_sX, gA_sX, gL_sX, gB_sX, gZ_sX, gO_sX, gF_tA, gL_tA, gB_tA, gZ_tA, gO_tA, gX_tA, gF_tL, gA_tL, gB_tL, gZ_tL, gO_tL, gX_tL, gF_tB, gA_tB, gL_tB, gZ_tB, gO_tB, gX_tB, gF_tZ, gA_tZ, gL_tZ, gB_tZ, gO_tZ, gX_tZ, gF_sF, gA_sA, gL_sL, gB_sB, gZ_sZ, gO_sO, gX_sX, gA_tA, gL_tL, gB_tB, gZ_tZ, reduceIte, Nat.reduceEqDiff, Nat.zero_ne_one, Nat.one_ne_zero, Nat.succ_ne_self, forall_eq, vpT, cpyT, nI_leI, nI_ltI, nI_eq, nI_m1, oI_eqn, oI_eqm, va_up_ne', va_up_eq, eq_self_iff_true, true_or, or_true, true_implies, not_true_eq_false, not_false_eq_true, false_implies, and_true, true_and, forall_const, implies_true, ne_eq, Nat.add_sub_cancel, nI_pos, ite_self]
        · have := i4 t (by omega)
          simp (disch := omega) only [this, ofI1, nI_add, pk_mul, pk_sub, nI_clamp, imin_nI, imax_nI, nl_0, nl_1, nl_2, nl_3, nl_4, nl_5, nl_6, nl_7, nl_8, nl_9, nl_10, nl_11, nl_12, nl_13, nl_15, nl_16, nl_20, nl_24, nl_26, nl_30, nl_32, nl_36, nl_39, nl_40, nl_45, nl_48, nl_50, nl_57, nl_59, nl_60, nl_61, nl_62, nl_64, nl_72, nl_73, nl_80, nl_90, nl_97, nl_99, nl_100, nl_120, nl_122, nl_123, nl_127, nl_128, nl_199, nl_200, nl_255, nl_256, nl_290, nl_399, nl_400, nl_500, nl_512, nl_520, nl_600, nl_999, nl_1000, nl_2000, nl_9999, nl_10000, nl_14, nl_17, nl_18, nl_19, nl_21, nl_22, nl_23, nl_25, nl_27, nl_28, nl_29, nl_31, nl_33, nl_34, nl_35, nl_47, nl_51, nl_63, nl_110, nl_195, nl_240, nl_1370, nl_3710, nl_6030, nl_6690, nl_7490, nl_7610, nl_9170, nl_11570, gA_sF, gL_sF, gB_sF, gZ_sF, gO_sF, gX_sF, gF_sA, gL_sA, gB_sA, gZ_sA, gO_sA, gX_sA, gF_sL, gA_sL, gB_sL, gZ_sL, gO_sL, gX_sL, gF_sB, gA_sB, gL_sB, gZ_sB, gO_sB, gX_sB, gF_sZ, gA_sZ, gL_sZ, gB_sZ, gO_sZ, gX_sZ, gF_sO, gA_sO, gL_sO, gB_sO, gZ_sO, gX_sO, gF_sX, gA_sX, gL_sX, gB_sX, gZ_sX, gO_sX, gF_tA, gL_tA, gB_tA, gZ_tA, gO_tA, gX_tA, gF_tL, gA_tL, gB_tL, gZ_tL, gO_tL, gX_tL, gF_tB, gA_tB, gL_tB, gZ_tB, gO_tB, gX_tB, gF_tZ, gA_tZ, gL_tZ, gB_tZ, gO_tZ, gX_tZ, gF_sF, gA_sA, gL_sL, gB_sB, gZ_sZ, gO_sO, gX_sX, gA_tA, gL_tL, gB_tB, gZ_tZ, reduceIte, Nat.reduceEqDiff, Nat.zero_ne_one, Nat.one_ne_zero, Nat.succ_ne_self, forall_eq, vpT, cpyT, nI_leI, nI_ltI, nI_eq, nI_m1, oI_eqn, oI_eqm, va_up_ne', va_up_eq, eq_self_iff_true, true_or, or_true, true_implies, not_true_eq_false, not_false_eq_true, false_implies, and_true, true_and, forall_const, implies_true, ne_eq, Nat.add_sub_cancel, nI_pos, ite_self]
    · refine c_n (fun z => hlt ((zi_lt (by omega) (by omega) (by omega) (by omega)).1 z)) (hQ u Fr.rf (fun _ _ => rfl) (fun h => absurd h hlt) (fun _ => ⟨hB, rfl⟩))
  · omega
theorem joins_1 {A : Nat → Nat → Nat} {ca k n : Nat} {pp : Nat → Nat} {g : Nat → Nat → Int} {nr : Nat → Nat → Bool} (hw : Wf A ca) (k10 : k ≤ 10) (n7 : n ≤ 7) (hnk : n ≤ k) (hnr : ∀ a b, nr a b = nearB A (pp a) (pp b) 30) (hg : ∀ i c, i < n → c < k → -60 ≤ g i c ∧ g i c ≤ 20) : JSp qX12_joins_lv1 1 A k n pp g nr := by
  intro u i r S l sum B rw hJ hir hrL hS hpc hrow hl0 hl1 hs1 hs2 hB hB1 hB2 Q hQ
  by_cases hz : i = n
  · have hr0 : r = 0 := by omega
    subst hr0
    have hin : i = n := by omega
    subst hin
    have jz : jV k i g nr 0 S l = 0 := rfl
    rw [jz, Int.add_zero] at hQ
    unfold qX12_joins_lv1
    rw [hJ.2.1, hB]
    refine c_y' rfl ?_
    by_cases hlt : B < sum
    · refine c_y ((zi_lt (by omega) (by omega) (by omega) (by omega)).2 hlt) (fun w19 hw19 => ?_)
      subst hw19
      have f19 : Fr [(1, 43), (1, 44), (0, 45)] u (sF u 45 (Int32.ofInt sum)) := Fr.sF 45 _ (by decide)
      refine pk_loop (fun f j v => qX12_joins_lv1_25 Q f v (nI j)) (fun j v => Fr [(1, 43), (1, 44), (0, 45)] u v ∧ gA v 43 = gA u 43 ∧ gF v 45 = Int32.ofInt sum ∧ ∀ t, t < j → gA v 44 t = nI (rw t)) i 0 _ (Nat.zero_le _) ⟨f19, rfl, by simp (disch := omega) only [ofI1, nI_add, pk_mul, pk_sub, nI_clamp, imin_nI, imax_nI, nl_0, nl_1, nl_2, nl_3, nl_4, nl_5, nl_6, nl_7, nl_8, nl_9, nl_10, nl_11, nl_12, nl_13, nl_15, nl_16, nl_20, nl_24, nl_26, nl_30, nl_32, nl_36, nl_39, nl_40, nl_45, nl_48, nl_50, nl_57, nl_59, nl_60, nl_61, nl_62, nl_64, nl_72, nl_73, nl_80, nl_90, nl_97, nl_99, nl_100, nl_120, nl_122, nl_123, nl_127, nl_128, nl_199, nl_200, nl_255, nl_256, nl_290, nl_399, nl_400, nl_500, nl_512, nl_520, nl_600, nl_999, nl_1000, nl_2000, nl_9999, nl_10000, nl_14, nl_17, nl_18, nl_19, nl_21, nl_22, nl_23, nl_25, nl_27, nl_28, nl_29, nl_31, nl_33, nl_34, nl_35, nl_47, nl_51, nl_63, nl_110, nl_195, nl_240, nl_1370, nl_3710, nl_6030, nl_6690, nl_7490, nl_7610, nl_9170, nl_11570, gA_sF, gL_sF, gB_sF, gZ_sF, gO_sF, gX_sF, gF_sA, gL_sA, gB_sA, gZ_sA, gO_sA, gX_sA, gF_sL, gA_sL, gB_sL, gZ_sL, gO_sL, gX_sL, gF_sB, gA_sB, gL_sB, gZ_sB, gO_sB, gX_sB, gF_sZ, gA_sZ, gL_sZ, gB_sZ, gO_sZ, gX_sZ, gF_sO, gA_sO, gL_sO, gB_sO, gZ_sO, gX_sO, gF_sX, gA_sX, gL_sX, gB_sX, gZ_sX, gO_sX, gF_tA, gL_tA, gB_tA, gZ_tA, gO_tA, gX_tA, gF_tL, gA_tL, gB_tL, gZ_tL, gO_tL, gX_tL, gF_tB, gA_tB, gL_tB, gZ_tB, gO_tB, gX_tB, gF_tZ, gA_tZ, gL_tZ, gB_tZ, gO_tZ, gX_tZ, gF_sF, gA_sA, gL_sL, gB_sB, gZ_sZ, gO_sO, gX_sX, gA_tA, gL_tL, gB_tB, gZ_tZ, reduceIte, Nat.reduceEqDiff, Nat.zero_ne_one, Nat.one_ne_zero, Nat.succ_ne_self, forall_eq, vpT, cpyT, nI_leI, nI_ltI, nI_eq, nI_m1, oI_eqn, oI_eqm, va_up_ne', va_up_eq, eq_self_iff_true, true_or, or_true, true_implies, not_true_eq_false, not_false_eq_true, false_implies, and_true, true_and, forall_const, implies_true, ne_eq, Nat.add_sub_cancel, nI_pos, ite_self], fun t ht => by omega⟩ (fun f v hI => ?_) (fun f j v hj hI ih => ?_)
      · obtain ⟨i1, i2, i3, i4⟩ := hI
        unfold qX12_joins_lv1_25
        rw [show gF v 37 = nI i from (i1.1 37 (by decide)).trans hJ.2.1]
        refine c_y (nI_le (Nat.le_refl _) (by omega)) (hQ v i1 (fun j _ => by rw [i2]) (fun _ => ⟨i3, fun j hj => ?_⟩) (fun h => absurd hlt h))
        rw [if_pos hj]; exact i4 j hj
      · obtain ⟨i1, i2, i3, i4⟩ := hI
        have hrj := hrow j hj
        unfold qX12_joins_lv1_25
        rw [show gF v 37 = nI i from (i1.1 37 (by decide)).trans hJ.2.1, nI_clamp (by omega), i2, hrj.1, ofI1, nI_add]
        refine c_n (nI_ge hj (by omega)) (c_in rfl (by omega) (by decide) (c_in rfl (by omega) (by decide) (fun w hw' => ?_)))
        subst hw'
        refine ih _ ⟨i1.tr (Fr.tA 44 _ _ (by decide)), i2, i3, fun t ht => ?_⟩
        by_cases e : t = j
        · subst e; simp (disch := omega) only [ofI1, nI_add, pk_mul, pk_sub, nI_clamp, imin_nI, imax_nI, nl_0, nl_1, nl_2, nl_3, nl_4, nl_5, nl_6, nl_7, nl_8, nl_9, nl_10, nl_11, nl_12, nl_13, nl_15, nl_16, nl_20, nl_24, nl_26, nl_30, nl_32, nl_36, nl_39, nl_40, nl_45, nl_48, nl_50, nl_57, nl_59, nl_60, nl_61, nl_62, nl_64, nl_72, nl_73, nl_80, nl_90, nl_97, nl_99, nl_100, nl_120, nl_122, nl_123, nl_127, nl_128, nl_199, nl_200, nl_255, nl_256, nl_290, nl_399, nl_400, nl_500, nl_512, nl_520, nl_600, nl_999, nl_1000, nl_2000, nl_9999, nl_10000, nl_14, nl_17, nl_18, nl_19, nl_21, nl_22, nl_23, nl_25, nl_27, nl_28, nl_29, nl_31, nl_33, nl_34, nl_35, nl_47, nl_51, nl_63, nl_110, nl_195, nl_240, nl_1370, nl_3710, nl_6030, nl_6690, nl_7490, nl_7610, nl_9170, nl_11570, gA_sF, gL_sF, gB_sF, gZ_sF, gO_sF, gX_sF, gF_sA, gL_sA, gB_sA, gZ_sA, gO_sA, gX_sA, gF_sL, gA_sL, gB_sL, gZ_sL, gO_sL, gX_sL, gF_sB, gA_sB, gL_sB, gZ_sB, gO_sB, gX_sB, gF_sZ, gA_sZ, gL_sZ, gB_sZ, gO_sZ, gX_sZ, gF_sO, gA_sO, gL_sO, gB_sO, gZ_sO, gX_sO, gF_sX, gA_sX, gL_sX, gB_sX, gZ_sX, gO_sX, gF_tA, gL_tA, gB_tA, gZ_tA, gO_tA, gX_tA, gF_tL, gA_tL, gB_tL, gZ_tL, gO_tL, gX_tL, gF_tB, gA_tB, gL_tB, gZ_tB, gO_tB, gX_tB, gF_tZ, gA_tZ, gL_tZ, gB_tZ, gO_tZ, gX_tZ, gF_sF, gA_sA, gL_sL, gB_sB, gZ_sZ, gO_sO, gX_sX, gA_tA, gL_tL, gB_tB, gZ_tZ, reduceIte, Nat.reduceEqDiff, Nat.zero_ne_one, Nat.one_ne_zero, Nat.succ_ne_self, forall_eq, vpT, cpyT, nI_leI, nI_ltI, nI_eq, nI_m1, oI_eqn, oI_eqm, va_up_ne', va_up_eq, eq_self_iff_true, true_or, or_true, true_implies, not_true_eq_false, not_false_eq_true, false_implies, and_true, true_and, forall_const, implies_true, ne_eq, Nat.add_sub_cancel, nI_pos, ite_self]
        · have := i4 t (by omega)
          simp (disch := omega) only [this, ofI1, nI_add, pk_mul, pk_sub, nI_clamp, imin_nI, imax_nI, nl_0, nl_1, nl_2, nl_3, nl_4, nl_5, nl_6, nl_7, nl_8, nl_9, nl_10, nl_11, nl_12, nl_13, nl_15, nl_16, nl_20, nl_24, nl_26, nl_30, nl_32, nl_36, nl_39, nl_40, nl_45, nl_48, nl_50, nl_57, nl_59, nl_60, nl_61, nl_62, nl_64, nl_72, nl_73, nl_80, nl_90, nl_97, nl_99, nl_100, nl_120, nl_122, nl_123, nl_127, nl_128, nl_199, nl_200, nl_255, nl_256, nl_290, nl_399, nl_400, nl_500, nl_512, nl_520, nl_600, nl_999, nl_1000, nl_2000, nl_9999, nl_10000, nl_14, nl_17, nl_18, nl_19, nl_21, nl_22, nl_23, nl_25, nl_27, nl_28, nl_29, nl_31, nl_33, nl_34, nl_35, nl_47, nl_51, nl_63, nl_110, nl_195, nl_240, nl_1370, nl_3710, nl_6030, nl_6690, nl_7490, nl_7610, nl_9170, nl_11570, gA_sF, gL_sF, gB_sF, gZ_sF, gO_sF, gX_sF, gF_sA, gL_sA, gB_sA, gZ_sA, gO_sA, gX_sA, gF_sL, gA_sL, gB_sL, gZ_sL, gO_sL, gX_sL, gF_sB, gA_sB, gL_sB, gZ_sB, gO_sB, gX_sB, gF_sZ, gA_sZ, gL_sZ, gB_sZ, gO_sZ, gX_sZ, gF_sO, gA_sO, gL_sO, gB_sO, gZ_sO, gX_sO, gF_sX, gA_sX, gL_sX, gB_sX, gZ_sX, gO_sX, gF_tA, gL_tA, gB_tA, gZ_tA, gO_tA, gX_tA, gF_tL, gA_tL, gB_tL, gZ_tL, gO_tL, gX_tL, gF_tB, gA_tB, gL_tB, gZ_tB, gO_tB, gX_tB, gF_tZ, gA_tZ, gL_tZ, gB_tZ, gO_tZ, gX_tZ, gF_sF, gA_sA, gL_sL, gB_sB, gZ_sZ, gO_sO, gX_sX, gA_tA, gL_tL, gB_tB, gZ_tZ, reduceIte, Nat.reduceEqDiff, Nat.zero_ne_one, Nat.one_ne_zero, Nat.succ_ne_self, forall_eq, vpT, cpyT, nI_leI, nI_ltI, nI_eq, nI_m1, oI_eqn, oI_eqm, va_up_ne', va_up_eq, eq_self_iff_true, true_or, or_true, true_implies, not_true_eq_false, not_false_eq_true, false_implies, and_true, true_and, forall_const, implies_true, ne_eq, Nat.add_sub_cancel, nI_pos, ite_self]
    · refine c_n (fun z => hlt ((zi_lt (by omega) (by omega) (by omega) (by omega)).1 z)) (hQ u Fr.rf (fun _ _ => rfl) (fun h => absurd h hlt) (fun _ => ⟨hB, rfl⟩))
  · obtain ⟨r, rfl⟩ : ∃ r', r = r' + 1 := ⟨r - 1, by omega⟩
    have hi : i < n := by omega
    have hS10 := lt10 k10 hS
    have hl : l ≤ k := by
      by_cases e : i = 0
      · rw [hl0 e]; omega
      · have := (hrow (i - 1) (by omega)).2
        rw [hl1 (by omega)]; omega
    have hr3 : n - (r + 1) = i := by omega
    obtain ⟨c1, -, -, -⟩ := jC_is (nr := nr) (l := l) (S := S) (r := r) k10 n7 hg (by omega) (by omega)
    have jb := jV_b (nr := nr) k10 hg (r + 1) S l (by omega) (by omega)
    have ev : jV k n g nr (r + 1) S l = bV (fun c => !S.testBit c) (fun c => g i c + bon nr l c + jV k n g nr r (S ||| 2 ^ c) (c + 1)) k := by
      show bV _ (fun c => g (n - (r + 1)) c + _ + _) k = _
      rw [hr3]
    have ec : jC k n g nr r S l = bC (fun c => !S.testBit c) (fun c => g i c + bon nr l c + jV k n g nr r (S ||| 2 ^ c) (c + 1)) k := by
      unfold jC; rw [hr3]
    have vb : ∀ c, c < k → S.testBit c = false → -1000 ≤ g i c + bon nr l c + jV k n g nr r (S ||| 2 ^ c) (c + 1) ∧ g i c + bon nr l c + jV k n g nr r (S ||| 2 ^ c) (c + 1) ≤ 600 := fun c hc hf => by
      have h1 := hg i c hi hc
      have h2 := bon_b nr l c
      have h3 := jV_b (nr := nr) k10 hg r (S ||| 2 ^ c) (c + 1) (by omega) (by rw [pc_or (by omega) hf]; omega)
      omega
    generalize hval : (fun c => g i c + bon nr l c + jV k n g nr r (S ||| 2 ^ c) (c + 1)) = val at ev ec
    have vb' : ∀ c, c < k → S.testBit c = false → -1000 ≤ val c ∧ val c ≤ 600 := fun c hc hf => by rw [← hval]; exact vb c hc hf
    unfold qX12_joins_lv1
    rw [hJ.2.1]
    refine c_n' (fun z => hz ((nI_eq (by omega) (by omega)).1 z)) ?_
    refine pk_loop (fun f c v => qX12_joins_lv1_58 Q f v (nI i) (nI S) (Int32.ofInt sum) (nI c)) (fun c v => Fr [(1, 43), (1, 44), (0, 45)] u v ∧ (∀ j, j < i → gA v 43 j = gA u 43 j) ∧ (bV (fun c => !S.testBit c) val c = -1000000 ∨ (-1000 ≤ bV (fun c => !S.testBit c) val c ∧ bV (fun c => !S.testBit c) val c ≤ 600)) ∧
      (B < sum + bV (fun c => !S.testBit c) val c ∧ bV (fun c => !S.testBit c) val c ≠ -1000000 → gF v 45 = Int32.ofInt (sum + bV (fun c => !S.testBit c) val c) ∧ ∀ j, j < n → gA v 44 j = nI (if j < i then rw j else if j = i then bC (fun c => !S.testBit c) val c else jR k n g nr r (S ||| 2 ^ bC (fun c => !S.testBit c) val c) (bC (fun c => !S.testBit c) val c + 1) (j - i - 1))) ∧
      (¬ (B < sum + bV (fun c => !S.testBit c) val c ∧ bV (fun c => !S.testBit c) val c ≠ -1000000) → gF v 45 = Int32.ofInt B ∧ gA v 44 = gA u 44)) k 0 u (Nat.zero_le _) ⟨Fr.rf, fun _ _ => rfl, Or.inl rfl, fun h => absurd rfl h.2, fun _ => ⟨hB, rfl⟩⟩ (fun f v hI => ?_) (fun f c v hc hI ih => ?_)
    · obtain ⟨i1, i2, i3, i4, i5⟩ := hI
      unfold qX12_joins_lv1_58
      rw [show gF v 40 = nI k from (i1.1 40 (by decide)).trans hJ.2.2.1]
      refine c_y (nI_le (Nat.le_refl _) (by omega)) (hQ v i1 i2 (fun h => ?_) (fun h => ?_))
      · rw [ev] at h ⊢
        obtain ⟨q1, q2⟩ := i4 ⟨h, by omega⟩
        refine ⟨q1, fun j hj => ?_⟩
        rw [q2 j hj]
        congr 1
        by_cases e : j < i
        · rw [if_pos e, if_pos e]
        · rw [if_neg e, if_neg e]
          by_cases e2 : j = i
          · rw [if_pos e2, e2, Nat.sub_self, jR_0, ec]
          · rw [if_neg e2]
            obtain ⟨t, ht⟩ : ∃ t, j - i = t + 1 := ⟨j - i - 1, by omega⟩
            rw [ht, jR_s, ec, Nat.add_sub_cancel]
      · rw [ev] at h
        exact i5 (fun z => h z.1)
    · obtain ⟨i1, i2, i3, i4, i5⟩ := hI
      have hJv := hJ.fr i1
      have e1 : bV (fun c => !S.testBit c) val (c + 1) = if (!S.testBit c) = true ∧ bV (fun c => !S.testBit c) val c < val c then val c else bV (fun c => !S.testBit c) val c := rfl
      have e2 : bC (fun c => !S.testBit c) val (c + 1) = if (!S.testBit c) = true ∧ bV (fun c => !S.testBit c) val c < val c then c else bC (fun c => !S.testBit c) val c := rfl
      unfold qX12_joins_lv1_58
      rw [hJv.2.2.1]
      refine c_n (nI_ge hc (by omega)) ?_
      rw [bit10 (by omega) (by omega), ofI1, nI_add]
      cases hb : S.testBit c with
      | true =>
        rw [hb, if_neg (fun z => absurd z.1 (by decide))] at e1 e2
        refine c_y' rfl (ih v ⟨i1, i2, ?_⟩)
        rw [e1, e2]
        exact ⟨i3, i4, i5⟩
      | false =>
        have vc := vb' c hc hb
        rw [hb] at e1 e2
        refine c_n' (by decide) (c_in rfl (by omega) (by decide) (fun w hw' => ?_))
        have fw : Fr [(1, 43), (1, 44), (0, 45)] v w := by rw [hw']; exact Fr.tA 43 _ _ (by decide)
        have w43 : ∀ j, j < 7 → gA w 43 j = if j = i then nI c else gA v 43 j := fun j hj => by
          subst hw'
          by_cases e : j = i
          · subst e; simp (disch := omega) only [ofI1, nI_add, pk_mul, pk_sub, nI_clamp, imin_nI, imax_nI, nl_0, nl_1, nl_2, nl_3, nl_4, nl_5, nl_6, nl_7, nl_8, nl_9, nl_10, nl_11, nl_12, nl_13, nl_15, nl_16, nl_20, nl_24, nl_26, nl_30, nl_32, nl_36, nl_39, nl_40, nl_45, nl_48, nl_50, nl_57, nl_59, nl_60, nl_61, nl_62, nl_64, nl_72, nl_73, nl_80, nl_90, nl_97, nl_99, nl_100, nl_120, nl_122, nl_123, nl_127, nl_128, nl_199, nl_200, nl_255, nl_256, nl_290, nl_399, nl_400, nl_500, nl_512, nl_520, nl_600, nl_999, nl_1000, nl_2000, nl_9999, nl_10000, nl_14, nl_17, nl_18, nl_19, nl_21, nl_22, nl_23, nl_25, nl_27, nl_28, nl_29, nl_31, nl_33, nl_34, nl_35, nl_47, nl_51, nl_63, nl_110, nl_195, nl_240, nl_1370, nl_3710, nl_6030, nl_6690, nl_7490, nl_7610, nl_9170, nl_11570, gA_sF, gL_sF, gB_sF, gZ_sF, gO_sF, gX_sF, gF_sA, gL_sA, gB_sA, gZ_sA, gO_sA, gX_sA, gF_sL, gA_sL, gB_sL, gZ_sL, gO_sL, gX_sL, gF_sB, gA_sB, gL_sB, gZ_sB, gO_sB, gX_sB, gF_sZ, gA_sZ, gL_sZ, gB_sZ, gO_sZ, gX_sZ, gF_sO, gA_sO, gL_sO, gB_sO, gZ_sO, gX_sO, gF_sX, gA_sX, gL_sX, gB_sX, gZ_sX, gO_sX, gF_tA, gL_tA, gB_tA, gZ_tA, gO_tA, gX_tA, gF_tL, gA_tL, gB_tL, gZ_tL, gO_tL, gX_tL, gF_tB, gA_tB, gL_tB, gZ_tB, gO_tB, gX_tB, gF_tZ, gA_tZ, gL_tZ, gB_tZ, gO_tZ, gX_tZ, gF_sF, gA_sA, gL_sL, gB_sB, gZ_sZ, gO_sO, gX_sX, gA_tA, gL_tL, gB_tB, gZ_tZ, reduceIte, Nat.reduceEqDiff, Nat.zero_ne_one, Nat.one_ne_zero, Nat.succ_ne_self, forall_eq, vpT, cpyT, nI_leI, nI_ltI, nI_eq, nI_m1, oI_eqn, oI_eqm, va_up_ne', va_up_eq, eq_self_iff_true, true_or, or_true, true_implies, not_true_eq_false, not_false_eq_true, false_implies, and_true, true_and, forall_const, implies_true, ne_eq, Nat.add_sub_cancel, nI_pos, ite_self]
          · simp (disch := omega) only [ofI1, nI_add, pk_mul, pk_sub, nI_clamp, imin_nI, imax_nI, nl_0, nl_1, nl_2, nl_3, nl_4, nl_5, nl_6, nl_7, nl_8, nl_9, nl_10, nl_11, nl_12, nl_13, nl_15, nl_16, nl_20, nl_24, nl_26, nl_30, nl_32, nl_36, nl_39, nl_40, nl_45, nl_48, nl_50, nl_57, nl_59, nl_60, nl_61, nl_62, nl_64, nl_72, nl_73, nl_80, nl_90, nl_97, nl_99, nl_100, nl_120, nl_122, nl_123, nl_127, nl_128, nl_199, nl_200, nl_255, nl_256, nl_290, nl_399, nl_400, nl_500, nl_512, nl_520, nl_600, nl_999, nl_1000, nl_2000, nl_9999, nl_10000, nl_14, nl_17, nl_18, nl_19, nl_21, nl_22, nl_23, nl_25, nl_27, nl_28, nl_29, nl_31, nl_33, nl_34, nl_35, nl_47, nl_51, nl_63, nl_110, nl_195, nl_240, nl_1370, nl_3710, nl_6030, nl_6690, nl_7490, nl_7610, nl_9170, nl_11570, gA_sF, gL_sF, gB_sF, gZ_sF, gO_sF, gX_sF, gF_sA, gL_sA, gB_sA, gZ_sA, gO_sA, gX_sA, gF_sL, gA_sL, gB_sL, gZ_sL, gO_sL, gX_sL, gF_sB, gA_sB, gL_sB, gZ_sB, gO_sB, gX_sB, gF_sZ, gA_sZ, gL_sZ, gB_sZ, gO_sZ, gX_sZ, gF_sO, gA_sO, gL_sO, gB_sO, gZ_sO, gX_sO, gF_sX, gA_sX, gL_sX, gB_sX, gZ_sX, gO_sX, gF_tA, gL_tA, gB_tA, gZ_tA, gO_tA, gX_tA, gF_tL, gA_tL, gB_tL, gZ_tL, gO_tL, gX_tL, gF_tB, gA_tB, gL_tB, gZ_tB, gO_tB, gX_tB, gF_tZ, gA_tZ, gL_tZ, gB_tZ, gO_tZ, gX_tZ, gF_sF, gA_sA, gL_sL, gB_sB, gZ_sZ, gO_sO, gX_sX, gA_tA, gL_tL, gB_tB, gZ_tZ, reduceIte, Nat.reduceEqDiff, Nat.zero_ne_one, Nat.one_ne_zero, Nat.succ_ne_self, forall_eq, vpT, cpyT, nI_leI, nI_ltI, nI_eq, nI_m1, oI_eqn, oI_eqm, va_up_ne', va_up_eq, eq_self_iff_true, true_or, or_true, true_implies, not_true_eq_false, not_false_eq_true, false_implies, and_true, true_and, forall_const, implies_true, ne_eq, Nat.add_sub_cancel, nI_pos, ite_self]
            rw [if_neg e]
        have w44 : gA w 44 = gA v 44 := by rw [hw']; rfl
        have w45 : gF w 45 = gF v 45 := by rw [hw']; rfl
        have hJw := hJv.fr fw
        clear hw'
        have dgc := hJw.2.2.2.2 i c hi hc
        have rest : ∀ z : Int, z = bon nr l c → qX12_joins_lv1_126 Q (qX12_joins_lv1_58 Q f) w (nI i) (nI S) (Int32.ofInt sum) (nI c) (Int32.ofInt z) := fun z hz2 => by
          unfold qX12_joins_lv1_126
          rw [nl_10, pk_mul, nI_add, nI_clamp (by omega), dgc, or_nI hS10 (by omega), zi_add, zi_add, nl_1, nI_add, ofI1, nI_add]
          have hgc := hg i c hi hc
          have hbc := bon_b nr l c
          have ev2 : sum + g i c + z + jV k n g nr r (S ||| 2 ^ c) (c + 1) = sum + val c := by rw [← hval, hz2]; show _ = sum + (_ + _ + _); omega
          obtain ⟨B', hB'⟩ : ∃ B' : Int, (B < sum + bV (fun c => !S.testBit c) val c ∧ bV (fun c => !S.testBit c) val c ≠ -1000000 → B' = sum + bV (fun c => !S.testBit c) val c) ∧ (¬ (B < sum + bV (fun c => !S.testBit c) val c ∧ bV (fun c => !S.testBit c) val c ≠ -1000000) → B' = B) := by
            by_cases hq : B < sum + bV (fun c => !S.testBit c) val c ∧ bV (fun c => !S.testBit c) val c ≠ -1000000
            · exact ⟨_, fun _ => rfl, fun h => absurd hq h⟩
            · exact ⟨B, fun h => absurd h hq, fun _ => rfl⟩
          have gB : gF w 45 = Int32.ofInt B' := by
            rw [w45]
            by_cases hq : B < sum + bV (fun c => !S.testBit c) val c ∧ bV (fun c => !S.testBit c) val c ≠ -1000000
            · rw [hB'.1 hq]; exact (i4 hq).1
            · rw [hB'.2 hq]; exact (i5 hq).1
          have B1 : -1000000 ≤ B' := by
            by_cases hq : B < sum + bV (fun c => !S.testBit c) val c ∧ bV (fun c => !S.testBit c) val c ≠ -1000000
            · rw [hB'.1 hq]; omega
            · rw [hB'.2 hq]; exact hB1
          have B2 : B' ≤ 1000 := by
            by_cases hq : B < sum + bV (fun c => !S.testBit c) val c ∧ bV (fun c => !S.testBit c) val c ≠ -1000000
            · rw [hB'.1 hq]; omega
            · rw [hB'.2 hq]; exact hB2
          refine c_in rfl (by omega) (by decide) (joins_0 hw k10 n7 hnk hnr hg w (i + 1) r (S ||| 2 ^ c) (c + 1) (sum + g i c + z) B' (fun j => if j = i then c else rw j) hJw (by omega) (by omega) (or_lt hS hc) (by rw [pc_or (by omega) hb, hpc]) (fun j hj => ?_) (fun h => absurd h (by omega)) (fun _ => ?_) (by omega) (by omega) gB B1 B2 _ (fun u' fu hp1 hyes hno => ?_))
          · rw [w43 j (by omega)]
            by_cases e : j = i
            · rw [if_pos e, if_pos e]; exact ⟨rfl, hc⟩
            · rw [if_neg e, if_neg e, i2 j (by omega)]; exact hrow j (by omega)
          · show c + 1 = (if i + 1 - 1 = i then c else rw (i + 1 - 1)) + 1
            rw [if_pos (by omega)]
          · rw [ev2] at hyes hno
            refine ih u' ⟨i1.tr (fw.tr fu), fun j hj => ?_, ?_⟩
            · rw [hp1 j (by omega), w43 j (by omega), if_neg (by omega)]; exact i2 j hj
            have up : B' < sum + val c → bV (fun c => !S.testBit c) val c < val c ∧ B < sum + val c := fun h => by
              by_cases hq : B < sum + bV (fun c => !S.testBit c) val c ∧ bV (fun c => !S.testBit c) val c ≠ -1000000
              · have := hB'.1 hq; omega
              · have := hB'.2 hq
                by_cases h6 : bV (fun c => !S.testBit c) val c = -1000000
                · omega
                · have : ¬ B < sum + bV (fun c => !S.testBit c) val c := fun z => hq ⟨z, h6⟩
                  omega
            by_cases hup : B' < sum + val c
            · obtain ⟨u1, u2⟩ := up hup
              rw [if_pos ⟨rfl, u1⟩] at e1 e2
              rw [e1, e2]
              refine ⟨Or.inr vc, fun _ => ⟨(hyes hup).1, fun j hj => ?_⟩, fun h => absurd ⟨u2, by omega⟩ h⟩
              rw [(hyes hup).2 j hj]
              congr 1
              by_cases x1 : j < i
              · rw [if_pos (by omega), if_neg (by omega), if_pos x1]
              · rw [if_neg x1]
                by_cases x2 : j = i
                · rw [if_pos (by omega), if_pos x2, if_pos x2]
                · rw [if_neg (by omega), if_neg x2, show j - (i + 1) = j - i - 1 by omega]
            · have hn := hno hup
              by_cases hq : B < sum + bV (fun c => !S.testBit c) val c ∧ bV (fun c => !S.testBit c) val c ≠ -1000000
              · have hb1 := hB'.1 hq
                rw [if_neg (fun z => by omega)] at e1 e2
                rw [e1, e2]
                refine ⟨i3, fun _ => ⟨by rw [hn.1, hb1], fun j hj => ?_⟩, fun h => absurd hq h⟩
                rw [hn.2, w44]; exact (i4 hq).2 j hj
              · have hb1 := hB'.2 hq
                have nc : ¬ (B < sum + bV (fun c => !S.testBit c) val (c + 1) ∧ bV (fun c => !S.testBit c) val (c + 1) ≠ -1000000) := by
                  rw [e1]
                  split
                  · intro z; omega
                  · exact hq
                refine ⟨?_, fun h => absurd h nc, fun _ => ⟨by rw [hn.1, hb1], by rw [hn.2, w44]; exact (i5 hq).2⟩⟩
                rw [e1]
                split
                · exact Or.inr vc
                · exact i3
        by_cases e : i = 0
        · refine c_le (b := 0) rfl rfl (by omega) (by omega) (fun _ => ?_) (fun h => absurd e (by omega))
          unfold qX12_joins_lv1_125
          exact rest 0 (by unfold bon; rw [if_pos (hl0 e)])
        · refine c_le (b := 0) rfl rfl (by omega) (by omega) (fun h => absurd e (by omega)) (fun _ => ?_)
          have hri := hrow (i - 1) (by omega)
          have pw := hJw.2.2.2.1 (rw (i - 1)) hri.2
          have pc1 := hJw.2.2.2.1 c hc
          have hbn : bon nr l c = if nearB A (pp (rw (i - 1))) (pp c) 30 = true then 3 else 0 := by
            unfold bon
            rw [hl1 (by omega), if_neg (by omega), Nat.add_sub_cancel, hnr]
          rw [nl_1, pk_sub (by omega), nI_clamp (by omega), w43 (i - 1) (by omega), if_neg (by omega), i2 (i - 1) (by omega), hri.1, nI_clamp (by omega), nI_clamp (by omega), pw.1, pc1.1, nl_30]
          refine c_in rfl (by omega) (by decide) (c_in rfl (by omega) (by decide) (c_in rfl (by omega) (by decide) ?_))
          refine M_isNear hw hJw.1 pw.2 pc1.2 (by decide) ?_
          cases hnb : nearB A (pp (rw (i - 1))) (pp c) 30 with
          | true =>
            rw [hnb, if_pos rfl] at hbn
            exact b_1' (rest 3 hbn.symm)
          | false =>
            rw [hnb, if_neg (by decide)] at hbn
            refine b_0' ?_
            unfold qX12_joins_lv1_125
            exact rest 0 hbn.symm
theorem joins_2 {A : Nat → Nat → Nat} {ca k n : Nat} {pp : Nat → Nat} {g : Nat → Nat → Int} {nr : Nat → Nat → Bool} (hw : Wf A ca) (k10 : k ≤ 10) (n7 : n ≤ 7) (hnk : n ≤ k) (hnr : ∀ a b, nr a b = nearB A (pp a) (pp b) 30) (hg : ∀ i c, i < n → c < k → -60 ≤ g i c ∧ g i c ≤ 20) : JSp qX12_joins_lv2 2 A k n pp g nr := by
  intro u i r S l sum B rw hJ hir hrL hS hpc hrow hl0 hl1 hs1 hs2 hB hB1 hB2 Q hQ
  by_cases hz : i = n
  · have hr0 : r = 0 := by omega
    subst hr0
    have hin : i = n := by omega
    subst hin
    have jz : jV k i g nr 0 S l = 0 := rfl
    rw [jz, Int.add_zero] at hQ
    unfold qX12_joins_lv2
    rw [hJ.2.1, hB]
    refine c_y' rfl ?_
    by_cases hlt : B < sum
    · refine c_y ((zi_lt (by omega) (by omega) (by omega) (by omega)).2 hlt) (fun w19 hw19 => ?_)
      subst hw19
      have f19 : Fr [(1, 43), (1, 44), (0, 45)] u (sF u 45 (Int32.ofInt sum)) := Fr.sF 45 _ (by decide)
      refine pk_loop (fun f j v => qX12_joins_lv2_25 Q f v (nI j)) (fun j v => Fr [(1, 43), (1, 44), (0, 45)] u v ∧ gA v 43 = gA u 43 ∧ gF v 45 = Int32.ofInt sum ∧ ∀ t, t < j → gA v 44 t = nI (rw t)) i 0 _ (Nat.zero_le _) ⟨f19, rfl, by simp (disch := omega) only [ofI1, nI_add, pk_mul, pk_sub, nI_clamp, imin_nI, imax_nI, nl_0, nl_1, nl_2, nl_3, nl_4, nl_5, nl_6, nl_7, nl_8, nl_9, nl_10, nl_11, nl_12, nl_13, nl_15, nl_16, nl_20, nl_24, nl_26, nl_30, nl_32, nl_36, nl_39, nl_40, nl_45, nl_48, nl_50, nl_57, nl_59, nl_60, nl_61, nl_62, nl_64, nl_72, nl_73, nl_80, nl_90, nl_97, nl_99, nl_100, nl_120, nl_122, nl_123, nl_127, nl_128, nl_199, nl_200, nl_255, nl_256, nl_290, nl_399, nl_400, nl_500, nl_512, nl_520, nl_600, nl_999, nl_1000, nl_2000, nl_9999, nl_10000, nl_14, nl_17, nl_18, nl_19, nl_21, nl_22, nl_23, nl_25, nl_27, nl_28, nl_29, nl_31, nl_33, nl_34, nl_35, nl_47, nl_51, nl_63, nl_110, nl_195, nl_240, nl_1370, nl_3710, nl_6030, nl_6690, nl_7490, nl_7610, nl_9170, nl_11570, gA_sF, gL_sF, gB_sF, gZ_sF, gO_sF, gX_sF, gF_sA, gL_sA, gB_sA, gZ_sA, gO_sA, gX_sA, gF_sL, gA_sL, gB_sL, gZ_sL, gO_sL, gX_sL, gF_sB, gA_sB, gL_sB, gZ_sB, gO_sB, gX_sB, gF_sZ, gA_sZ, gL_sZ, gB_sZ, gO_sZ, gX_sZ, gF_sO, gA_sO, gL_sO, gB_sO, gZ_sO, gX_sO, gF_sX, gA_sX, gL_sX, gB_sX, gZ_sX, gO_sX, gF_tA, gL_tA, gB_tA, gZ_tA, gO_tA, gX_tA, gF_tL, gA_tL, gB_tL, gZ_tL, gO_tL, gX_tL, gF_tB, gA_tB, gL_tB, gZ_tB, gO_tB, gX_tB, gF_tZ, gA_tZ, gL_tZ, gB_tZ, gO_tZ, gX_tZ, gF_sF, gA_sA, gL_sL, gB_sB, gZ_sZ, gO_sO, gX_sX, gA_tA, gL_tL, gB_tB, gZ_tZ, reduceIte, Nat.reduceEqDiff, Nat.zero_ne_one, Nat.one_ne_zero, Nat.succ_ne_self, forall_eq, vpT, cpyT, nI_leI, nI_ltI, nI_eq, nI_m1, oI_eqn, oI_eqm, va_up_ne', va_up_eq, eq_self_iff_true, true_or, or_true, true_implies, not_true_eq_false, not_false_eq_true, false_implies, and_true, true_and, forall_const, implies_true, ne_eq, Nat.add_sub_cancel, nI_pos, ite_self], fun t ht => by omega⟩ (fun f v hI => ?_) (fun f j v hj hI ih => ?_)
      · obtain ⟨i1, i2, i3, i4⟩ := hI
        unfold qX12_joins_lv2_25
        rw [show gF v 37 = nI i from (i1.1 37 (by decide)).trans hJ.2.1]
        refine c_y (nI_le (Nat.le_refl _) (by omega)) (hQ v i1 (fun j _ => by rw [i2]) (fun _ => ⟨i3, fun j hj => ?_⟩) (fun h => absurd hlt h))
        rw [if_pos hj]; exact i4 j hj
      · obtain ⟨i1, i2, i3, i4⟩ := hI
        have hrj := hrow j hj
        unfold qX12_joins_lv2_25
        rw [show gF v 37 = nI i from (i1.1 37 (by decide)).trans hJ.2.1, nI_clamp (by omega), i2, hrj.1, ofI1, nI_add]
        refine c_n (nI_ge hj (by omega)) (c_in rfl (by omega) (by decide) (c_in rfl (by omega) (by decide) (fun w hw' => ?_)))
        subst hw'
        refine ih _ ⟨i1.tr (Fr.tA 44 _ _ (by decide)), i2, i3, fun t ht => ?_⟩
        by_cases e : t = j
        · subst e; simp (disch := omega) only [ofI1, nI_add, pk_mul, pk_sub, nI_clamp, imin_nI, imax_nI, nl_0, nl_1, nl_2, nl_3, nl_4, nl_5, nl_6, nl_7, nl_8, nl_9, nl_10, nl_11, nl_12, nl_13, nl_15, nl_16, nl_20, nl_24, nl_26, nl_30, nl_32, nl_36, nl_39, nl_40, nl_45, nl_48, nl_50, nl_57, nl_59, nl_60, nl_61, nl_62, nl_64, nl_72, nl_73, nl_80, nl_90, nl_97, nl_99, nl_100, nl_120, nl_122, nl_123, nl_127, nl_128, nl_199, nl_200, nl_255, nl_256, nl_290, nl_399, nl_400, nl_500, nl_512, nl_520, nl_600, nl_999, nl_1000, nl_2000, nl_9999, nl_10000, nl_14, nl_17, nl_18, nl_19, nl_21, nl_22, nl_23, nl_25, nl_27, nl_28, nl_29, nl_31, nl_33, nl_34, nl_35, nl_47, nl_51, nl_63, nl_110, nl_195, nl_240, nl_1370, nl_3710, nl_6030, nl_6690, nl_7490, nl_7610, nl_9170, nl_11570, gA_sF, gL_sF, gB_sF, gZ_sF, gO_sF, gX_sF, gF_sA, gL_sA, gB_sA, gZ_sA, gO_sA, gX_sA, gF_sL, gA_sL, gB_sL, gZ_sL, gO_sL, gX_sL, gF_sB, gA_sB, gL_sB, gZ_sB, gO_sB, gX_sB, gF_sZ, gA_sZ, gL_sZ, gB_sZ, gO_sZ, gX_sZ, gF_sO, gA_sO, gL_sO, gB_sO, gZ_sO, gX_sO, gF_sX, gA_sX, gL_sX, gB_sX, gZ_sX, gO_sX, gF_tA, gL_tA, gB_tA, gZ_tA, gO_tA, gX_tA, gF_tL, gA_tL, gB_tL, gZ_tL, gO_tL, gX_tL, gF_tB, gA_tB, gL_tB, gZ_tB, gO_tB, gX_tB, gF_tZ, gA_tZ, gL_tZ, gB_tZ, gO_tZ, gX_tZ, gF_sF, gA_sA, gL_sL, gB_sB, gZ_sZ, gO_sO, gX_sX, gA_tA, gL_tL, gB_tB, gZ_tZ, reduceIte, Nat.reduceEqDiff, Nat.zero_ne_one, Nat.one_ne_zero, Nat.succ_ne_self, forall_eq, vpT, cpyT, nI_leI, nI_ltI, nI_eq, nI_m1, oI_eqn, oI_eqm, va_up_ne', va_up_eq, eq_self_iff_true, true_or, or_true, true_implies, not_true_eq_false, not_false_eq_true, false_implies, and_true, true_and, forall_const, implies_true, ne_eq, Nat.add_sub_cancel, nI_pos, ite_self]
        · have := i4 t (by omega)
          simp (disch := omega) only [this, ofI1, nI_add, pk_mul, pk_sub, nI_clamp, imin_nI, imax_nI, nl_0, nl_1, nl_2, nl_3, nl_4, nl_5, nl_6, nl_7, nl_8, nl_9, nl_10, nl_11, nl_12, nl_13, nl_15, nl_16, nl_20, nl_24, nl_26, nl_30, nl_32, nl_36, nl_39, nl_40, nl_45, nl_48, nl_50, nl_57, nl_59, nl_60, nl_61, nl_62, nl_64, nl_72, nl_73, nl_80, nl_90, nl_97, nl_99, nl_100, nl_120, nl_122, nl_123, nl_127, nl_128, nl_199, nl_200, nl_255, nl_256, nl_290, nl_399, nl_400, nl_500, nl_512, nl_520, nl_600, nl_999, nl_1000, nl_2000, nl_9999, nl_10000, nl_14, nl_17, nl_18, nl_19, nl_21, nl_22, nl_23, nl_25, nl_27, nl_28, nl_29, nl_31, nl_33, nl_34, nl_35, nl_47, nl_51, nl_63, nl_110, nl_195, nl_240, nl_1370, nl_3710, nl_6030, nl_6690, nl_7490, nl_7610, nl_9170, nl_11570, gA_sF, gL_sF, gB_sF, gZ_sF, gO_sF, gX_sF, gF_sA, gL_sA, gB_sA, gZ_sA, gO_sA, gX_sA, gF_sL, gA_sL, gB_sL, gZ_sL, gO_sL, gX_sL, gF_sB, gA_sB, gL_sB, gZ_sB, gO_sB, gX_sB, gF_sZ, gA_sZ, gL_sZ, gB_sZ, gO_sZ, gX_sZ, gF_sO, gA_sO, gL_sO, gB_sO, gZ_sO, gX_sO, gF_sX, gA_sX, gL_sX, gB_sX, gZ_sX, gO_sX, gF_tA, gL_tA, gB_tA, gZ_tA, gO_tA, gX_tA, gF_tL, gA_tL, gB_tL, gZ_tL, gO_tL, gX_tL, gF_tB, gA_tB, gL_tB, gZ_tB, gO_tB, gX_tB, gF_tZ, gA_tZ, gL_tZ, gB_tZ, gO_tZ, gX_tZ, gF_sF, gA_sA, gL_sL, gB_sB, gZ_sZ, gO_sO, gX_sX, gA_tA, gL_tL, gB_tB, gZ_tZ, reduceIte, Nat.reduceEqDiff, Nat.zero_ne_one, Nat.one_ne_zero, Nat.succ_ne_self, forall_eq, vpT, cpyT, nI_leI, nI_ltI, nI_eq, nI_m1, oI_eqn, oI_eqm, va_up_ne', va_up_eq, eq_self_iff_true, true_or, or_true, true_implies, not_true_eq_false, not_false_eq_true, false_implies, and_true, true_and, forall_const, implies_true, ne_eq, Nat.add_sub_cancel, nI_pos, ite_self]
    · refine c_n (fun z => hlt ((zi_lt (by omega) (by omega) (by omega) (by omega)).1 z)) (hQ u Fr.rf (fun _ _ => rfl) (fun h => absurd h hlt) (fun _ => ⟨hB, rfl⟩))
  · obtain ⟨r, rfl⟩ : ∃ r', r = r' + 1 := ⟨r - 1, by omega⟩
    have hi : i < n := by omega
    have hS10 := lt10 k10 hS
    have hl : l ≤ k := by
      by_cases e : i = 0
      · rw [hl0 e]; omega
      · have := (hrow (i - 1) (by omega)).2
        rw [hl1 (by omega)]; omega
    have hr3 : n - (r + 1) = i := by omega
    obtain ⟨c1, -, -, -⟩ := jC_is (nr := nr) (l := l) (S := S) (r := r) k10 n7 hg (by omega) (by omega)
    have jb := jV_b (nr := nr) k10 hg (r + 1) S l (by omega) (by omega)
    have ev : jV k n g nr (r + 1) S l = bV (fun c => !S.testBit c) (fun c => g i c + bon nr l c + jV k n g nr r (S ||| 2 ^ c) (c + 1)) k := by
      show bV _ (fun c => g (n - (r + 1)) c + _ + _) k = _
      rw [hr3]
    have ec : jC k n g nr r S l = bC (fun c => !S.testBit c) (fun c => g i c + bon nr l c + jV k n g nr r (S ||| 2 ^ c) (c + 1)) k := by
      unfold jC; rw [hr3]
    have vb : ∀ c, c < k → S.testBit c = false → -1000 ≤ g i c + bon nr l c + jV k n g nr r (S ||| 2 ^ c) (c + 1) ∧ g i c + bon nr l c + jV k n g nr r (S ||| 2 ^ c) (c + 1) ≤ 600 := fun c hc hf => by
      have h1 := hg i c hi hc
      have h2 := bon_b nr l c
      have h3 := jV_b (nr := nr) k10 hg r (S ||| 2 ^ c) (c + 1) (by omega) (by rw [pc_or (by omega) hf]; omega)
      omega
    generalize hval : (fun c => g i c + bon nr l c + jV k n g nr r (S ||| 2 ^ c) (c + 1)) = val at ev ec
    have vb' : ∀ c, c < k → S.testBit c = false → -1000 ≤ val c ∧ val c ≤ 600 := fun c hc hf => by rw [← hval]; exact vb c hc hf
    unfold qX12_joins_lv2
    rw [hJ.2.1]
    refine c_n' (fun z => hz ((nI_eq (by omega) (by omega)).1 z)) ?_
    refine pk_loop (fun f c v => qX12_joins_lv2_58 Q f v (nI i) (nI S) (Int32.ofInt sum) (nI c)) (fun c v => Fr [(1, 43), (1, 44), (0, 45)] u v ∧ (∀ j, j < i → gA v 43 j = gA u 43 j) ∧ (bV (fun c => !S.testBit c) val c = -1000000 ∨ (-1000 ≤ bV (fun c => !S.testBit c) val c ∧ bV (fun c => !S.testBit c) val c ≤ 600)) ∧
      (B < sum + bV (fun c => !S.testBit c) val c ∧ bV (fun c => !S.testBit c) val c ≠ -1000000 → gF v 45 = Int32.ofInt (sum + bV (fun c => !S.testBit c) val c) ∧ ∀ j, j < n → gA v 44 j = nI (if j < i then rw j else if j = i then bC (fun c => !S.testBit c) val c else jR k n g nr r (S ||| 2 ^ bC (fun c => !S.testBit c) val c) (bC (fun c => !S.testBit c) val c + 1) (j - i - 1))) ∧
      (¬ (B < sum + bV (fun c => !S.testBit c) val c ∧ bV (fun c => !S.testBit c) val c ≠ -1000000) → gF v 45 = Int32.ofInt B ∧ gA v 44 = gA u 44)) k 0 u (Nat.zero_le _) ⟨Fr.rf, fun _ _ => rfl, Or.inl rfl, fun h => absurd rfl h.2, fun _ => ⟨hB, rfl⟩⟩ (fun f v hI => ?_) (fun f c v hc hI ih => ?_)
    · obtain ⟨i1, i2, i3, i4, i5⟩ := hI
      unfold qX12_joins_lv2_58
      rw [show gF v 40 = nI k from (i1.1 40 (by decide)).trans hJ.2.2.1]
      refine c_y (nI_le (Nat.le_refl _) (by omega)) (hQ v i1 i2 (fun h => ?_) (fun h => ?_))
      · rw [ev] at h ⊢
        obtain ⟨q1, q2⟩ := i4 ⟨h, by omega⟩
        refine ⟨q1, fun j hj => ?_⟩
        rw [q2 j hj]
        congr 1
        by_cases e : j < i
        · rw [if_pos e, if_pos e]
        · rw [if_neg e, if_neg e]
          by_cases e2 : j = i
          · rw [if_pos e2, e2, Nat.sub_self, jR_0, ec]
          · rw [if_neg e2]
            obtain ⟨t, ht⟩ : ∃ t, j - i = t + 1 := ⟨j - i - 1, by omega⟩
            rw [ht, jR_s, ec, Nat.add_sub_cancel]
      · rw [ev] at h
        exact i5 (fun z => h z.1)
    · obtain ⟨i1, i2, i3, i4, i5⟩ := hI
      have hJv := hJ.fr i1
      have e1 : bV (fun c => !S.testBit c) val (c + 1) = if (!S.testBit c) = true ∧ bV (fun c => !S.testBit c) val c < val c then val c else bV (fun c => !S.testBit c) val c := rfl
      have e2 : bC (fun c => !S.testBit c) val (c + 1) = if (!S.testBit c) = true ∧ bV (fun c => !S.testBit c) val c < val c then c else bC (fun c => !S.testBit c) val c := rfl
      unfold qX12_joins_lv2_58
      rw [hJv.2.2.1]
      refine c_n (nI_ge hc (by omega)) ?_
      rw [bit10 (by omega) (by omega), ofI1, nI_add]
      cases hb : S.testBit c with
      | true =>
        rw [hb, if_neg (fun z => absurd z.1 (by decide))] at e1 e2
        refine c_y' rfl (ih v ⟨i1, i2, ?_⟩)
        rw [e1, e2]
        exact ⟨i3, i4, i5⟩
      | false =>
        have vc := vb' c hc hb
        rw [hb] at e1 e2
        refine c_n' (by decide) (c_in rfl (by omega) (by decide) (fun w hw' => ?_))
        have fw : Fr [(1, 43), (1, 44), (0, 45)] v w := by rw [hw']; exact Fr.tA 43 _ _ (by decide)
        have w43 : ∀ j, j < 7 → gA w 43 j = if j = i then nI c else gA v 43 j := fun j hj => by
          subst hw'
          by_cases e : j = i
          · subst e; simp (disch := omega) only [ofI1, nI_add, pk_mul, pk_sub, nI_clamp, imin_nI, imax_nI, nl_0, nl_1, nl_2, nl_3, nl_4, nl_5, nl_6, nl_7, nl_8, nl_9, nl_10, nl_11, nl_12, nl_13, nl_15, nl_16, nl_20, nl_24, nl_26, nl_30, nl_32, nl_36, nl_39, nl_40, nl_45, nl_48, nl_50, nl_57, nl_59, nl_60, nl_61, nl_62, nl_64, nl_72, nl_73, nl_80, nl_90, nl_97, nl_99, nl_100, nl_120, nl_122, nl_123, nl_127, nl_128, nl_199, nl_200, nl_255, nl_256, nl_290, nl_399, nl_400, nl_500, nl_512, nl_520, nl_600, nl_999, nl_1000, nl_2000, nl_9999, nl_10000, nl_14, nl_17, nl_18, nl_19, nl_21, nl_22, nl_23, nl_25, nl_27, nl_28, nl_29, nl_31, nl_33, nl_34, nl_35, nl_47, nl_51, nl_63, nl_110, nl_195, nl_240, nl_1370, nl_3710, nl_6030, nl_6690, nl_7490, nl_7610, nl_9170, nl_11570, gA_sF, gL_sF, gB_sF, gZ_sF, gO_sF, gX_sF, gF_sA, gL_sA, gB_sA, gZ_sA, gO_sA, gX_sA, gF_sL, gA_sL, gB_sL, gZ_sL, gO_sL, gX_sL, gF_sB, gA_sB, gL_sB, gZ_sB, gO_sB, gX_sB, gF_sZ, gA_sZ, gL_sZ, gB_sZ, gO_sZ, gX_sZ, gF_sO, gA_sO, gL_sO, gB_sO, gZ_sO, gX_sO, gF_sX, gA_sX, gL_sX, gB_sX, gZ_sX, gO_sX, gF_tA, gL_tA, gB_tA, gZ_tA, gO_tA, gX_tA, gF_tL, gA_tL, gB_tL, gZ_tL, gO_tL, gX_tL, gF_tB, gA_tB, gL_tB, gZ_tB, gO_tB, gX_tB, gF_tZ, gA_tZ, gL_tZ, gB_tZ, gO_tZ, gX_tZ, gF_sF, gA_sA, gL_sL, gB_sB, gZ_sZ, gO_sO, gX_sX, gA_tA, gL_tL, gB_tB, gZ_tZ, reduceIte, Nat.reduceEqDiff, Nat.zero_ne_one, Nat.one_ne_zero, Nat.succ_ne_self, forall_eq, vpT, cpyT, nI_leI, nI_ltI, nI_eq, nI_m1, oI_eqn, oI_eqm, va_up_ne', va_up_eq, eq_self_iff_true, true_or, or_true, true_implies, not_true_eq_false, not_false_eq_true, false_implies, and_true, true_and, forall_const, implies_true, ne_eq, Nat.add_sub_cancel, nI_pos, ite_self]
          · simp (disch := omega) only [ofI1, nI_add, pk_mul, pk_sub, nI_clamp, imin_nI, imax_nI, nl_0, nl_1, nl_2, nl_3, nl_4, nl_5, nl_6, nl_7, nl_8, nl_9, nl_10, nl_11, nl_12, nl_13, nl_15, nl_16, nl_20, nl_24, nl_26, nl_30, nl_32, nl_36, nl_39, nl_40, nl_45, nl_48, nl_50, nl_57, nl_59, nl_60, nl_61, nl_62, nl_64, nl_72, nl_73, nl_80, nl_90, nl_97, nl_99, nl_100, nl_120, nl_122, nl_123, nl_127, nl_128, nl_199, nl_200, nl_255, nl_256, nl_290, nl_399, nl_400, nl_500, nl_512, nl_520, nl_600, nl_999, nl_1000, nl_2000, nl_9999, nl_10000, nl_14, nl_17, nl_18, nl_19, nl_21, nl_22, nl_23, nl_25, nl_27, nl_28, nl_29, nl_31, nl_33, nl_34, nl_35, nl_47, nl_51, nl_63, nl_110, nl_195, nl_240, nl_1370, nl_3710, nl_6030, nl_6690, nl_7490, nl_7610, nl_9170, nl_11570, gA_sF, gL_sF, gB_sF, gZ_sF, gO_sF, gX_sF, gF_sA, gL_sA, gB_sA, gZ_sA, gO_sA, gX_sA, gF_sL, gA_sL, gB_sL, gZ_sL, gO_sL, gX_sL, gF_sB, gA_sB, gL_sB, gZ_sB, gO_sB, gX_sB, gF_sZ, gA_sZ, gL_sZ, gB_sZ, gO_sZ, gX_sZ, gF_sO, gA_sO, gL_sO, gB_sO, gZ_sO, gX_sO, gF_sX, gA_sX, gL_sX, gB_sX, gZ_sX, gO_sX, gF_tA, gL_tA, gB_tA, gZ_tA, gO_tA, gX_tA, gF_tL, gA_tL, gB_tL, gZ_tL, gO_tL, gX_tL, gF_tB, gA_tB, gL_tB, gZ_tB, gO_tB, gX_tB, gF_tZ, gA_tZ, gL_tZ, gB_tZ, gO_tZ, gX_tZ, gF_sF, gA_sA, gL_sL, gB_sB, gZ_sZ, gO_sO, gX_sX, gA_tA, gL_tL, gB_tB, gZ_tZ, reduceIte, Nat.reduceEqDiff, Nat.zero_ne_one, Nat.one_ne_zero, Nat.succ_ne_self, forall_eq, vpT, cpyT, nI_leI, nI_ltI, nI_eq, nI_m1, oI_eqn, oI_eqm, va_up_ne', va_up_eq, eq_self_iff_true, true_or, or_true, true_implies, not_true_eq_false, not_false_eq_true, false_implies, and_true, true_and, forall_const, implies_true, ne_eq, Nat.add_sub_cancel, nI_pos, ite_self]
            rw [if_neg e]
        have w44 : gA w 44 = gA v 44 := by rw [hw']; rfl
        have w45 : gF w 45 = gF v 45 := by rw [hw']; rfl
        have hJw := hJv.fr fw
        clear hw'
        have dgc := hJw.2.2.2.2 i c hi hc
        have rest : ∀ z : Int, z = bon nr l c → qX12_joins_lv2_126 Q (qX12_joins_lv2_58 Q f) w (nI i) (nI S) (Int32.ofInt sum) (nI c) (Int32.ofInt z) := fun z hz2 => by
          unfold qX12_joins_lv2_126
          rw [nl_10, pk_mul, nI_add, nI_clamp (by omega), dgc, or_nI hS10 (by omega), zi_add, zi_add, nl_1, nI_add, ofI1, nI_add]
          have hgc := hg i c hi hc
          have hbc := bon_b nr l c
          have ev2 : sum + g i c + z + jV k n g nr r (S ||| 2 ^ c) (c + 1) = sum + val c := by rw [← hval, hz2]; show _ = sum + (_ + _ + _); omega
          obtain ⟨B', hB'⟩ : ∃ B' : Int, (B < sum + bV (fun c => !S.testBit c) val c ∧ bV (fun c => !S.testBit c) val c ≠ -1000000 → B' = sum + bV (fun c => !S.testBit c) val c) ∧ (¬ (B < sum + bV (fun c => !S.testBit c) val c ∧ bV (fun c => !S.testBit c) val c ≠ -1000000) → B' = B) := by
            by_cases hq : B < sum + bV (fun c => !S.testBit c) val c ∧ bV (fun c => !S.testBit c) val c ≠ -1000000
            · exact ⟨_, fun _ => rfl, fun h => absurd hq h⟩
            · exact ⟨B, fun h => absurd h hq, fun _ => rfl⟩
          have gB : gF w 45 = Int32.ofInt B' := by
            rw [w45]
            by_cases hq : B < sum + bV (fun c => !S.testBit c) val c ∧ bV (fun c => !S.testBit c) val c ≠ -1000000
            · rw [hB'.1 hq]; exact (i4 hq).1
            · rw [hB'.2 hq]; exact (i5 hq).1
          have B1 : -1000000 ≤ B' := by
            by_cases hq : B < sum + bV (fun c => !S.testBit c) val c ∧ bV (fun c => !S.testBit c) val c ≠ -1000000
            · rw [hB'.1 hq]; omega
            · rw [hB'.2 hq]; exact hB1
          have B2 : B' ≤ 1000 := by
            by_cases hq : B < sum + bV (fun c => !S.testBit c) val c ∧ bV (fun c => !S.testBit c) val c ≠ -1000000
            · rw [hB'.1 hq]; omega
            · rw [hB'.2 hq]; exact hB2
          refine c_in rfl (by omega) (by decide) (joins_1 hw k10 n7 hnk hnr hg w (i + 1) r (S ||| 2 ^ c) (c + 1) (sum + g i c + z) B' (fun j => if j = i then c else rw j) hJw (by omega) (by omega) (or_lt hS hc) (by rw [pc_or (by omega) hb, hpc]) (fun j hj => ?_) (fun h => absurd h (by omega)) (fun _ => ?_) (by omega) (by omega) gB B1 B2 _ (fun u' fu hp1 hyes hno => ?_))
          · rw [w43 j (by omega)]
            by_cases e : j = i
            · rw [if_pos e, if_pos e]; exact ⟨rfl, hc⟩
            · rw [if_neg e, if_neg e, i2 j (by omega)]; exact hrow j (by omega)
          · show c + 1 = (if i + 1 - 1 = i then c else rw (i + 1 - 1)) + 1
            rw [if_pos (by omega)]
          · rw [ev2] at hyes hno
            refine ih u' ⟨i1.tr (fw.tr fu), fun j hj => ?_, ?_⟩
            · rw [hp1 j (by omega), w43 j (by omega), if_neg (by omega)]; exact i2 j hj
            have up : B' < sum + val c → bV (fun c => !S.testBit c) val c < val c ∧ B < sum + val c := fun h => by
              by_cases hq : B < sum + bV (fun c => !S.testBit c) val c ∧ bV (fun c => !S.testBit c) val c ≠ -1000000
              · have := hB'.1 hq; omega
              · have := hB'.2 hq
                by_cases h6 : bV (fun c => !S.testBit c) val c = -1000000
                · omega
                · have : ¬ B < sum + bV (fun c => !S.testBit c) val c := fun z => hq ⟨z, h6⟩
                  omega
            by_cases hup : B' < sum + val c
            · obtain ⟨u1, u2⟩ := up hup
              rw [if_pos ⟨rfl, u1⟩] at e1 e2
              rw [e1, e2]
              refine ⟨Or.inr vc, fun _ => ⟨(hyes hup).1, fun j hj => ?_⟩, fun h => absurd ⟨u2, by omega⟩ h⟩
              rw [(hyes hup).2 j hj]
              congr 1
              by_cases x1 : j < i
              · rw [if_pos (by omega), if_neg (by omega), if_pos x1]
              · rw [if_neg x1]
                by_cases x2 : j = i
                · rw [if_pos (by omega), if_pos x2, if_pos x2]
                · rw [if_neg (by omega), if_neg x2, show j - (i + 1) = j - i - 1 by omega]
            · have hn := hno hup
              by_cases hq : B < sum + bV (fun c => !S.testBit c) val c ∧ bV (fun c => !S.testBit c) val c ≠ -1000000
              · have hb1 := hB'.1 hq
                rw [if_neg (fun z => by omega)] at e1 e2
                rw [e1, e2]
                refine ⟨i3, fun _ => ⟨by rw [hn.1, hb1], fun j hj => ?_⟩, fun h => absurd hq h⟩
                rw [hn.2, w44]; exact (i4 hq).2 j hj
              · have hb1 := hB'.2 hq
                have nc : ¬ (B < sum + bV (fun c => !S.testBit c) val (c + 1) ∧ bV (fun c => !S.testBit c) val (c + 1) ≠ -1000000) := by
                  rw [e1]
                  split
                  · intro z; omega
                  · exact hq
                refine ⟨?_, fun h => absurd h nc, fun _ => ⟨by rw [hn.1, hb1], by rw [hn.2, w44]; exact (i5 hq).2⟩⟩
                rw [e1]
                split
                · exact Or.inr vc
                · exact i3
        by_cases e : i = 0
        · refine c_le (b := 0) rfl rfl (by omega) (by omega) (fun _ => ?_) (fun h => absurd e (by omega))
          unfold qX12_joins_lv2_125
          exact rest 0 (by unfold bon; rw [if_pos (hl0 e)])
        · refine c_le (b := 0) rfl rfl (by omega) (by omega) (fun h => absurd e (by omega)) (fun _ => ?_)
          have hri := hrow (i - 1) (by omega)
          have pw := hJw.2.2.2.1 (rw (i - 1)) hri.2
          have pc1 := hJw.2.2.2.1 c hc
          have hbn : bon nr l c = if nearB A (pp (rw (i - 1))) (pp c) 30 = true then 3 else 0 := by
            unfold bon
            rw [hl1 (by omega), if_neg (by omega), Nat.add_sub_cancel, hnr]
          rw [nl_1, pk_sub (by omega), nI_clamp (by omega), w43 (i - 1) (by omega), if_neg (by omega), i2 (i - 1) (by omega), hri.1, nI_clamp (by omega), nI_clamp (by omega), pw.1, pc1.1, nl_30]
          refine c_in rfl (by omega) (by decide) (c_in rfl (by omega) (by decide) (c_in rfl (by omega) (by decide) ?_))
          refine M_isNear hw hJw.1 pw.2 pc1.2 (by decide) ?_
          cases hnb : nearB A (pp (rw (i - 1))) (pp c) 30 with
          | true =>
            rw [hnb, if_pos rfl] at hbn
            exact b_1' (rest 3 hbn.symm)
          | false =>
            rw [hnb, if_neg (by decide)] at hbn
            refine b_0' ?_
            unfold qX12_joins_lv2_125
            exact rest 0 hbn.symm
theorem joins_3 {A : Nat → Nat → Nat} {ca k n : Nat} {pp : Nat → Nat} {g : Nat → Nat → Int} {nr : Nat → Nat → Bool} (hw : Wf A ca) (k10 : k ≤ 10) (n7 : n ≤ 7) (hnk : n ≤ k) (hnr : ∀ a b, nr a b = nearB A (pp a) (pp b) 30) (hg : ∀ i c, i < n → c < k → -60 ≤ g i c ∧ g i c ≤ 20) : JSp qX12_joins_lv3 3 A k n pp g nr := by
  intro u i r S l sum B rw hJ hir hrL hS hpc hrow hl0 hl1 hs1 hs2 hB hB1 hB2 Q hQ
  by_cases hz : i = n
  · have hr0 : r = 0 := by omega
    subst hr0
    have hin : i = n := by omega
    subst hin
    have jz : jV k i g nr 0 S l = 0 := rfl
    rw [jz, Int.add_zero] at hQ
    unfold qX12_joins_lv3
    rw [hJ.2.1, hB]
    refine c_y' rfl ?_
    by_cases hlt : B < sum
    · refine c_y ((zi_lt (by omega) (by omega) (by omega) (by omega)).2 hlt) (fun w19 hw19 => ?_)
      subst hw19
      have f19 : Fr [(1, 43), (1, 44), (0, 45)] u (sF u 45 (Int32.ofInt sum)) := Fr.sF 45 _ (by decide)
      refine pk_loop (fun f j v => qX12_joins_lv3_25 Q f v (nI j)) (fun j v => Fr [(1, 43), (1, 44), (0, 45)] u v ∧ gA v 43 = gA u 43 ∧ gF v 45 = Int32.ofInt sum ∧ ∀ t, t < j → gA v 44 t = nI (rw t)) i 0 _ (Nat.zero_le _) ⟨f19, rfl, by simp (disch := omega) only [ofI1, nI_add, pk_mul, pk_sub, nI_clamp, imin_nI, imax_nI, nl_0, nl_1, nl_2, nl_3, nl_4, nl_5, nl_6, nl_7, nl_8, nl_9, nl_10, nl_11, nl_12, nl_13, nl_15, nl_16, nl_20, nl_24, nl_26, nl_30, nl_32, nl_36, nl_39, nl_40, nl_45, nl_48, nl_50, nl_57, nl_59, nl_60, nl_61, nl_62, nl_64, nl_72, nl_73, nl_80, nl_90, nl_97, nl_99, nl_100, nl_120, nl_122, nl_123, nl_127, nl_128, nl_199, nl_200, nl_255, nl_256, nl_290, nl_399, nl_400, nl_500, nl_512, nl_520, nl_600, nl_999, nl_1000, nl_2000, nl_9999, nl_10000, nl_14, nl_17, nl_18, nl_19, nl_21, nl_22, nl_23, nl_25, nl_27, nl_28, nl_29, nl_31, nl_33, nl_34, nl_35, nl_47, nl_51, nl_63, nl_110, nl_195, nl_240, nl_1370, nl_3710, nl_6030, nl_6690, nl_7490, nl_7610, nl_9170, nl_11570, gA_sF, gL_sF, gB_sF, gZ_sF, gO_sF, gX_sF, gF_sA, gL_sA, gB_sA, gZ_sA, gO_sA, gX_sA, gF_sL, gA_sL, gB_sL, gZ_sL, gO_sL, gX_sL, gF_sB, gA_sB, gL_sB, gZ_sB, gO_sB, gX_sB, gF_sZ, gA_sZ, gL_sZ, gB_sZ, gO_sZ, gX_sZ, gF_sO, gA_sO, gL_sO, gB_sO, gZ_sO, gX_sO, gF_sX, gA_sX, gL_sX, gB_sX, gZ_sX, gO_sX, gF_tA, gL_tA, gB_tA, gZ_tA, gO_tA, gX_tA, gF_tL, gA_tL, gB_tL, gZ_tL, gO_tL, gX_tL, gF_tB, gA_tB, gL_tB, gZ_tB, gO_tB, gX_tB, gF_tZ, gA_tZ, gL_tZ, gB_tZ, gO_tZ, gX_tZ, gF_sF, gA_sA, gL_sL, gB_sB, gZ_sZ, gO_sO, gX_sX, gA_tA, gL_tL, gB_tB, gZ_tZ, reduceIte, Nat.reduceEqDiff, Nat.zero_ne_one, Nat.one_ne_zero, Nat.succ_ne_self, forall_eq, vpT, cpyT, nI_leI, nI_ltI, nI_eq, nI_m1, oI_eqn, oI_eqm, va_up_ne', va_up_eq, eq_self_iff_true, true_or, or_true, true_implies, not_true_eq_false, not_false_eq_true, false_implies, and_true, true_and, forall_const, implies_true, ne_eq, Nat.add_sub_cancel, nI_pos, ite_self], fun t ht => by omega⟩ (fun f v hI => ?_) (fun f j v hj hI ih => ?_)
      · obtain ⟨i1, i2, i3, i4⟩ := hI
        unfold qX12_joins_lv3_25
        rw [show gF v 37 = nI i from (i1.1 37 (by decide)).trans hJ.2.1]
        refine c_y (nI_le (Nat.le_refl _) (by omega)) (hQ v i1 (fun j _ => by rw [i2]) (fun _ => ⟨i3, fun j hj => ?_⟩) (fun h => absurd hlt h))
        rw [if_pos hj]; exact i4 j hj
      · obtain ⟨i1, i2, i3, i4⟩ := hI
        have hrj := hrow j hj
        unfold qX12_joins_lv3_25
        rw [show gF v 37 = nI i from (i1.1 37 (by decide)).trans hJ.2.1, nI_clamp (by omega), i2, hrj.1, ofI1, nI_add]
        refine c_n (nI_ge hj (by omega)) (c_in rfl (by omega) (by decide) (c_in rfl (by omega) (by decide) (fun w hw' => ?_)))
        subst hw'
        refine ih _ ⟨i1.tr (Fr.tA 44 _ _ (by decide)), i2, i3, fun t ht => ?_⟩
        by_cases e : t = j
        · subst e; simp (disch := omega) only [ofI1, nI_add, pk_mul, pk_sub, nI_clamp, imin_nI, imax_nI, nl_0, nl_1, nl_2, nl_3, nl_4, nl_5, nl_6, nl_7, nl_8, nl_9, nl_10, nl_11, nl_12, nl_13, nl_15, nl_16, nl_20, nl_24, nl_26, nl_30, nl_32, nl_36, nl_39, nl_40, nl_45, nl_48, nl_50, nl_57, nl_59, nl_60, nl_61, nl_62, nl_64, nl_72, nl_73, nl_80, nl_90, nl_97, nl_99, nl_100, nl_120, nl_122, nl_123, nl_127, nl_128, nl_199, nl_200, nl_255, nl_256, nl_290, nl_399, nl_400, nl_500, nl_512, nl_520, nl_600, nl_999, nl_1000, nl_2000, nl_9999, nl_10000, nl_14, nl_17, nl_18, nl_19, nl_21, nl_22, nl_23, nl_25, nl_27, nl_28, nl_29, nl_31, nl_33, nl_34, nl_35, nl_47, nl_51, nl_63, nl_110, nl_195, nl_240, nl_1370, nl_3710, nl_6030, nl_6690, nl_7490, nl_7610, nl_9170, nl_11570, gA_sF, gL_sF, gB_sF, gZ_sF, gO_sF, gX_sF, gF_sA, gL_sA, gB_sA, gZ_sA, gO_sA, gX_sA, gF_sL, gA_sL, gB_sL, gZ_sL, gO_sL, gX_sL, gF_sB, gA_sB, gL_sB, gZ_sB, gO_sB, gX_sB, gF_sZ, gA_sZ, gL_sZ, gB_sZ, gO_sZ, gX_sZ, gF_sO, gA_sO, gL_sO, gB_sO, gZ_sO, gX_sO, gF_sX, gA_sX, gL_sX, gB_sX, gZ_sX, gO_sX, gF_tA, gL_tA, gB_tA, gZ_tA, gO_tA, gX_tA, gF_tL, gA_tL, gB_tL, gZ_tL, gO_tL, gX_tL, gF_tB, gA_tB, gL_tB, gZ_tB, gO_tB, gX_tB, gF_tZ, gA_tZ, gL_tZ, gB_tZ, gO_tZ, gX_tZ, gF_sF, gA_sA, gL_sL, gB_sB, gZ_sZ, gO_sO, gX_sX, gA_tA, gL_tL, gB_tB, gZ_tZ, reduceIte, Nat.reduceEqDiff, Nat.zero_ne_one, Nat.one_ne_zero, Nat.succ_ne_self, forall_eq, vpT, cpyT, nI_leI, nI_ltI, nI_eq, nI_m1, oI_eqn, oI_eqm, va_up_ne', va_up_eq, eq_self_iff_true, true_or, or_true, true_implies, not_true_eq_false, not_false_eq_true, false_implies, and_true, true_and, forall_const, implies_true, ne_eq, Nat.add_sub_cancel, nI_pos, ite_self]
        · have := i4 t (by omega)
          simp (disch := omega) only [this, ofI1, nI_add, pk_mul, pk_sub, nI_clamp, imin_nI, imax_nI, nl_0, nl_1, nl_2, nl_3, nl_4, nl_5, nl_6, nl_7, nl_8, nl_9, nl_10, nl_11, nl_12, nl_13, nl_15, nl_16, nl_20, nl_24, nl_26, nl_30, nl_32, nl_36, nl_39, nl_40, nl_45, nl_48, nl_50, nl_57, nl_59, nl_60, nl_61, nl_62, nl_64, nl_72, nl_73, nl_80, nl_90, nl_97, nl_99, nl_100, nl_120, nl_122, nl_123, nl_127, nl_128, nl_199, nl_200, nl_255, nl_256, nl_290, nl_399, nl_400, nl_500, nl_512, nl_520, nl_600, nl_999, nl_1000, nl_2000, nl_9999, nl_10000, nl_14, nl_17, nl_18, nl_19, nl_21, nl_22, nl_23, nl_25, nl_27, nl_28, nl_29, nl_31, nl_33, nl_34, nl_35, nl_47, nl_51, nl_63, nl_110, nl_195, nl_240, nl_1370, nl_3710, nl_6030, nl_6690, nl_7490, nl_7610, nl_9170, nl_11570, gA_sF, gL_sF, gB_sF, gZ_sF, gO_sF, gX_sF, gF_sA, gL_sA, gB_sA, gZ_sA, gO_sA, gX_sA, gF_sL, gA_sL, gB_sL, gZ_sL, gO_sL, gX_sL, gF_sB, gA_sB, gL_sB, gZ_sB, gO_sB, gX_sB, gF_sZ, gA_sZ, gL_sZ, gB_sZ, gO_sZ, gX_sZ, gF_sO, gA_sO, gL_sO, gB_sO, gZ_sO, gX_sO, gF_sX, gA_sX, gL_sX, gB_sX, gZ_sX, gO_sX, gF_tA, gL_tA, gB_tA, gZ_tA, gO_tA, gX_tA, gF_tL, gA_tL, gB_tL, gZ_tL, gO_tL, gX_tL, gF_tB, gA_tB, gL_tB, gZ_tB, gO_tB, gX_tB, gF_tZ, gA_tZ, gL_tZ, gB_tZ, gO_tZ, gX_tZ, gF_sF, gA_sA, gL_sL, gB_sB, gZ_sZ, gO_sO, gX_sX, gA_tA, gL_tL, gB_tB, gZ_tZ, reduceIte, Nat.reduceEqDiff, Nat.zero_ne_one, Nat.one_ne_zero, Nat.succ_ne_self, forall_eq, vpT, cpyT, nI_leI, nI_ltI, nI_eq, nI_m1, oI_eqn, oI_eqm, va_up_ne', va_up_eq, eq_self_iff_true, true_or, or_true, true_implies, not_true_eq_false, not_false_eq_true, false_implies, and_true, true_and, forall_const, implies_true, ne_eq, Nat.add_sub_cancel, nI_pos, ite_self]
    · refine c_n (fun z => hlt ((zi_lt (by omega) (by omega) (by omega) (by omega)).1 z)) (hQ u Fr.rf (fun _ _ => rfl) (fun h => absurd h hlt) (fun _ => ⟨hB, rfl⟩))
  · obtain ⟨r, rfl⟩ : ∃ r', r = r' + 1 := ⟨r - 1, by omega⟩
    have hi : i < n := by omega
    have hS10 := lt10 k10 hS
    have hl : l ≤ k := by
      by_cases e : i = 0
      · rw [hl0 e]; omega
      · have := (hrow (i - 1) (by omega)).2
        rw [hl1 (by omega)]; omega
    have hr3 : n - (r + 1) = i := by omega
    obtain ⟨c1, -, -, -⟩ := jC_is (nr := nr) (l := l) (S := S) (r := r) k10 n7 hg (by omega) (by omega)
    have jb := jV_b (nr := nr) k10 hg (r + 1) S l (by omega) (by omega)
    have ev : jV k n g nr (r + 1) S l = bV (fun c => !S.testBit c) (fun c => g i c + bon nr l c + jV k n g nr r (S ||| 2 ^ c) (c + 1)) k := by
      show bV _ (fun c => g (n - (r + 1)) c + _ + _) k = _
      rw [hr3]
    have ec : jC k n g nr r S l = bC (fun c => !S.testBit c) (fun c => g i c + bon nr l c + jV k n g nr r (S ||| 2 ^ c) (c + 1)) k := by
      unfold jC; rw [hr3]
    have vb : ∀ c, c < k → S.testBit c = false → -1000 ≤ g i c + bon nr l c + jV k n g nr r (S ||| 2 ^ c) (c + 1) ∧ g i c + bon nr l c + jV k n g nr r (S ||| 2 ^ c) (c + 1) ≤ 600 := fun c hc hf => by
      have h1 := hg i c hi hc
      have h2 := bon_b nr l c
      have h3 := jV_b (nr := nr) k10 hg r (S ||| 2 ^ c) (c + 1) (by omega) (by rw [pc_or (by omega) hf]; omega)
      omega
    generalize hval : (fun c => g i c + bon nr l c + jV k n g nr r (S ||| 2 ^ c) (c + 1)) = val at ev ec
    have vb' : ∀ c, c < k → S.testBit c = false → -1000 ≤ val c ∧ val c ≤ 600 := fun c hc hf => by rw [← hval]; exact vb c hc hf
    unfold qX12_joins_lv3
    rw [hJ.2.1]
    refine c_n' (fun z => hz ((nI_eq (by omega) (by omega)).1 z)) ?_
    refine pk_loop (fun f c v => qX12_joins_lv3_58 Q f v (nI i) (nI S) (Int32.ofInt sum) (nI c)) (fun c v => Fr [(1, 43), (1, 44), (0, 45)] u v ∧ (∀ j, j < i → gA v 43 j = gA u 43 j) ∧ (bV (fun c => !S.testBit c) val c = -1000000 ∨ (-1000 ≤ bV (fun c => !S.testBit c) val c ∧ bV (fun c => !S.testBit c) val c ≤ 600)) ∧
      (B < sum + bV (fun c => !S.testBit c) val c ∧ bV (fun c => !S.testBit c) val c ≠ -1000000 → gF v 45 = Int32.ofInt (sum + bV (fun c => !S.testBit c) val c) ∧ ∀ j, j < n → gA v 44 j = nI (if j < i then rw j else if j = i then bC (fun c => !S.testBit c) val c else jR k n g nr r (S ||| 2 ^ bC (fun c => !S.testBit c) val c) (bC (fun c => !S.testBit c) val c + 1) (j - i - 1))) ∧
      (¬ (B < sum + bV (fun c => !S.testBit c) val c ∧ bV (fun c => !S.testBit c) val c ≠ -1000000) → gF v 45 = Int32.ofInt B ∧ gA v 44 = gA u 44)) k 0 u (Nat.zero_le _) ⟨Fr.rf, fun _ _ => rfl, Or.inl rfl, fun h => absurd rfl h.2, fun _ => ⟨hB, rfl⟩⟩ (fun f v hI => ?_) (fun f c v hc hI ih => ?_)
    · obtain ⟨i1, i2, i3, i4, i5⟩ := hI
      unfold qX12_joins_lv3_58
      rw [show gF v 40 = nI k from (i1.1 40 (by decide)).trans hJ.2.2.1]
      refine c_y (nI_le (Nat.le_refl _) (by omega)) (hQ v i1 i2 (fun h => ?_) (fun h => ?_))
      · rw [ev] at h ⊢
        obtain ⟨q1, q2⟩ := i4 ⟨h, by omega⟩
        refine ⟨q1, fun j hj => ?_⟩
        rw [q2 j hj]
        congr 1
        by_cases e : j < i
        · rw [if_pos e, if_pos e]
        · rw [if_neg e, if_neg e]
          by_cases e2 : j = i
          · rw [if_pos e2, e2, Nat.sub_self, jR_0, ec]
          · rw [if_neg e2]
            obtain ⟨t, ht⟩ : ∃ t, j - i = t + 1 := ⟨j - i - 1, by omega⟩
            rw [ht, jR_s, ec, Nat.add_sub_cancel]
      · rw [ev] at h
        exact i5 (fun z => h z.1)
    · obtain ⟨i1, i2, i3, i4, i5⟩ := hI
      have hJv := hJ.fr i1
      have e1 : bV (fun c => !S.testBit c) val (c + 1) = if (!S.testBit c) = true ∧ bV (fun c => !S.testBit c) val c < val c then val c else bV (fun c => !S.testBit c) val c := rfl
      have e2 : bC (fun c => !S.testBit c) val (c + 1) = if (!S.testBit c) = true ∧ bV (fun c => !S.testBit c) val c < val c then c else bC (fun c => !S.testBit c) val c := rfl
      unfold qX12_joins_lv3_58
      rw [hJv.2.2.1]
      refine c_n (nI_ge hc (by omega)) ?_
      rw [bit10 (by omega) (by omega), ofI1, nI_add]
      cases hb : S.testBit c with
      | true =>
        rw [hb, if_neg (fun z => absurd z.1 (by decide))] at e1 e2
        refine c_y' rfl (ih v ⟨i1, i2, ?_⟩)
        rw [e1, e2]
        exact ⟨i3, i4, i5⟩
      | false =>
        have vc := vb' c hc hb
        rw [hb] at e1 e2
        refine c_n' (by decide) (c_in rfl (by omega) (by decide) (fun w hw' => ?_))
        have fw : Fr [(1, 43), (1, 44), (0, 45)] v w := by rw [hw']; exact Fr.tA 43 _ _ (by decide)
        have w43 : ∀ j, j < 7 → gA w 43 j = if j = i then nI c else gA v 43 j := fun j hj => by
          subst hw'
          by_cases e : j = i
          · subst e; simp (disch := omega) only [ofI1, nI_add, pk_mul, pk_sub, nI_clamp, imin_nI, imax_nI, nl_0, nl_1, nl_2, nl_3, nl_4, nl_5, nl_6, nl_7, nl_8, nl_9, nl_10, nl_11, nl_12, nl_13, nl_15, nl_16, nl_20, nl_24, nl_26, nl_30, nl_32, nl_36, nl_39, nl_40, nl_45, nl_48, nl_50, nl_57, nl_59, nl_60, nl_61, nl_62, nl_64, nl_72, nl_73, nl_80, nl_90, nl_97, nl_99, nl_100, nl_120, nl_122, nl_123, nl_127, nl_128, nl_199, nl_200, nl_255, nl_256, nl_290, nl_399, nl_400, nl_500, nl_512, nl_520, nl_600, nl_999, nl_1000, nl_2000, nl_9999, nl_10000, nl_14, nl_17, nl_18, nl_19, nl_21, nl_22, nl_23, nl_25, nl_27, nl_28, nl_29, nl_31, nl_33, nl_34, nl_35, nl_47, nl_51, nl_63, nl_110, nl_195, nl_240, nl_1370, nl_3710, nl_6030, nl_6690, nl_7490, nl_7610, nl_9170, nl_11570, gA_sF, gL_sF, gB_sF, gZ_sF, gO_sF, gX_sF, gF_sA, gL_sA, gB_sA, gZ_sA, gO_sA, gX_sA, gF_sL, gA_sL, gB_sL, gZ_sL, gO_sL, gX_sL, gF_sB, gA_sB, gL_sB, gZ_sB, gO_sB, gX_sB, gF_sZ, gA_sZ, gL_sZ, gB_sZ, gO_sZ, gX_sZ, gF_sO, gA_sO, gL_sO, gB_sO, gZ_sO, gX_sO, gF_sX, gA_sX, gL_sX, gB_sX, gZ_sX, gO_sX, gF_tA, gL_tA, gB_tA, gZ_tA, gO_tA, gX_tA, gF_tL, gA_tL, gB_tL, gZ_tL, gO_tL, gX_tL, gF_tB, gA_tB, gL_tB, gZ_tB, gO_tB, gX_tB, gF_tZ, gA_tZ, gL_tZ, gB_tZ, gO_tZ, gX_tZ, gF_sF, gA_sA, gL_sL, gB_sB, gZ_sZ, gO_sO, gX_sX, gA_tA, gL_tL, gB_tB, gZ_tZ, reduceIte, Nat.reduceEqDiff, Nat.zero_ne_one, Nat.one_ne_zero, Nat.succ_ne_self, forall_eq, vpT, cpyT, nI_leI, nI_ltI, nI_eq, nI_m1, oI_eqn, oI_eqm, va_up_ne', va_up_eq, eq_self_iff_true, true_or, or_true, true_implies, not_true_eq_false, not_false_eq_true, false_implies, and_true, true_and, forall_const, implies_true, ne_eq, Nat.add_sub_cancel, nI_pos, ite_self]
          · simp (disch := omega) only [ofI1, nI_add, pk_mul, pk_sub, nI_clamp, imin_nI, imax_nI, nl_0, nl_1, nl_2, nl_3, nl_4, nl_5, nl_6, nl_7, nl_8, nl_9, nl_10, nl_11, nl_12, nl_13, nl_15, nl_16, nl_20, nl_24, nl_26, nl_30, nl_32, nl_36, nl_39, nl_40, nl_45, nl_48, nl_50, nl_57, nl_59, nl_60, nl_61, nl_62, nl_64, nl_72, nl_73, nl_80, nl_90, nl_97, nl_99, nl_100, nl_120, nl_122, nl_123, nl_127, nl_128, nl_199, nl_200, nl_255, nl_256, nl_290, nl_399, nl_400, nl_500, nl_512, nl_520, nl_600, nl_999, nl_1000, nl_2000, nl_9999, nl_10000, nl_14, nl_17, nl_18, nl_19, nl_21, nl_22, nl_23, nl_25, nl_27, nl_28, nl_29, nl_31, nl_33, nl_34, nl_35, nl_47, nl_51, nl_63, nl_110, nl_195, nl_240, nl_1370, nl_3710, nl_6030, nl_6690, nl_7490, nl_7610, nl_9170, nl_11570, gA_sF, gL_sF, gB_sF, gZ_sF, gO_sF, gX_sF, gF_sA, gL_sA, gB_sA, gZ_sA, gO_sA, gX_sA, gF_sL, gA_sL, gB_sL, gZ_sL, gO_sL, gX_sL, gF_sB, gA_sB, gL_sB, gZ_sB, gO_sB, gX_sB, gF_sZ, gA_sZ, gL_sZ, gB_sZ, gO_sZ, gX_sZ, gF_sO, gA_sO, gL_sO, gB_sO, gZ_sO, gX_sO, gF_sX, gA_sX, gL_sX, gB_sX, gZ_sX, gO_sX, gF_tA, gL_tA, gB_tA, gZ_tA, gO_tA, gX_tA, gF_tL, gA_tL, gB_tL, gZ_tL, gO_tL, gX_tL, gF_tB, gA_tB, gL_tB, gZ_tB, gO_tB, gX_tB, gF_tZ, gA_tZ, gL_tZ, gB_tZ, gO_tZ, gX_tZ, gF_sF, gA_sA, gL_sL, gB_sB, gZ_sZ, gO_sO, gX_sX, gA_tA, gL_tL, gB_tB, gZ_tZ, reduceIte, Nat.reduceEqDiff, Nat.zero_ne_one, Nat.one_ne_zero, Nat.succ_ne_self, forall_eq, vpT, cpyT, nI_leI, nI_ltI, nI_eq, nI_m1, oI_eqn, oI_eqm, va_up_ne', va_up_eq, eq_self_iff_true, true_or, or_true, true_implies, not_true_eq_false, not_false_eq_true, false_implies, and_true, true_and, forall_const, implies_true, ne_eq, Nat.add_sub_cancel, nI_pos, ite_self]
            rw [if_neg e]
        have w44 : gA w 44 = gA v 44 := by rw [hw']; rfl
        have w45 : gF w 45 = gF v 45 := by rw [hw']; rfl
        have hJw := hJv.fr fw
        clear hw'
        have dgc := hJw.2.2.2.2 i c hi hc
        have rest : ∀ z : Int, z = bon nr l c → qX12_joins_lv3_126 Q (qX12_joins_lv3_58 Q f) w (nI i) (nI S) (Int32.ofInt sum) (nI c) (Int32.ofInt z) := fun z hz2 => by
          unfold qX12_joins_lv3_126
          rw [nl_10, pk_mul, nI_add, nI_clamp (by omega), dgc, or_nI hS10 (by omega), zi_add, zi_add, nl_1, nI_add, ofI1, nI_add]
          have hgc := hg i c hi hc
          have hbc := bon_b nr l c
          have ev2 : sum + g i c + z + jV k n g nr r (S ||| 2 ^ c) (c + 1) = sum + val c := by rw [← hval, hz2]; show _ = sum + (_ + _ + _); omega
          obtain ⟨B', hB'⟩ : ∃ B' : Int, (B < sum + bV (fun c => !S.testBit c) val c ∧ bV (fun c => !S.testBit c) val c ≠ -1000000 → B' = sum + bV (fun c => !S.testBit c) val c) ∧ (¬ (B < sum + bV (fun c => !S.testBit c) val c ∧ bV (fun c => !S.testBit c) val c ≠ -1000000) → B' = B) := by
            by_cases hq : B < sum + bV (fun c => !S.testBit c) val c ∧ bV (fun c => !S.testBit c) val c ≠ -1000000
            · exact ⟨_, fun _ => rfl, fun h => absurd hq h⟩
            · exact ⟨B, fun h => absurd h hq, fun _ => rfl⟩
          have gB : gF w 45 = Int32.ofInt B' := by
            rw [w45]
            by_cases hq : B < sum + bV (fun c => !S.testBit c) val c ∧ bV (fun c => !S.testBit c) val c ≠ -1000000
            · rw [hB'.1 hq]; exact (i4 hq).1
            · rw [hB'.2 hq]; exact (i5 hq).1
          have B1 : -1000000 ≤ B' := by
            by_cases hq : B < sum + bV (fun c => !S.testBit c) val c ∧ bV (fun c => !S.testBit c) val c ≠ -1000000
            · rw [hB'.1 hq]; omega
            · rw [hB'.2 hq]; exact hB1
          have B2 : B' ≤ 1000 := by
            by_cases hq : B < sum + bV (fun c => !S.testBit c) val c ∧ bV (fun c => !S.testBit c) val c ≠ -1000000
            · rw [hB'.1 hq]; omega
            · rw [hB'.2 hq]; exact hB2
          refine c_in rfl (by omega) (by decide) (joins_2 hw k10 n7 hnk hnr hg w (i + 1) r (S ||| 2 ^ c) (c + 1) (sum + g i c + z) B' (fun j => if j = i then c else rw j) hJw (by omega) (by omega) (or_lt hS hc) (by rw [pc_or (by omega) hb, hpc]) (fun j hj => ?_) (fun h => absurd h (by omega)) (fun _ => ?_) (by omega) (by omega) gB B1 B2 _ (fun u' fu hp1 hyes hno => ?_))
          · rw [w43 j (by omega)]
            by_cases e : j = i
            · rw [if_pos e, if_pos e]; exact ⟨rfl, hc⟩
            · rw [if_neg e, if_neg e, i2 j (by omega)]; exact hrow j (by omega)
          · show c + 1 = (if i + 1 - 1 = i then c else rw (i + 1 - 1)) + 1
            rw [if_pos (by omega)]
          · rw [ev2] at hyes hno
            refine ih u' ⟨i1.tr (fw.tr fu), fun j hj => ?_, ?_⟩
            · rw [hp1 j (by omega), w43 j (by omega), if_neg (by omega)]; exact i2 j hj
            have up : B' < sum + val c → bV (fun c => !S.testBit c) val c < val c ∧ B < sum + val c := fun h => by
              by_cases hq : B < sum + bV (fun c => !S.testBit c) val c ∧ bV (fun c => !S.testBit c) val c ≠ -1000000
              · have := hB'.1 hq; omega
              · have := hB'.2 hq
                by_cases h6 : bV (fun c => !S.testBit c) val c = -1000000
                · omega
                · have : ¬ B < sum + bV (fun c => !S.testBit c) val c := fun z => hq ⟨z, h6⟩
                  omega
            by_cases hup : B' < sum + val c
            · obtain ⟨u1, u2⟩ := up hup
              rw [if_pos ⟨rfl, u1⟩] at e1 e2
              rw [e1, e2]
              refine ⟨Or.inr vc, fun _ => ⟨(hyes hup).1, fun j hj => ?_⟩, fun h => absurd ⟨u2, by omega⟩ h⟩
              rw [(hyes hup).2 j hj]
              congr 1
              by_cases x1 : j < i
              · rw [if_pos (by omega), if_neg (by omega), if_pos x1]
              · rw [if_neg x1]
                by_cases x2 : j = i
                · rw [if_pos (by omega), if_pos x2, if_pos x2]
                · rw [if_neg (by omega), if_neg x2, show j - (i + 1) = j - i - 1 by omega]
            · have hn := hno hup
              by_cases hq : B < sum + bV (fun c => !S.testBit c) val c ∧ bV (fun c => !S.testBit c) val c ≠ -1000000
              · have hb1 := hB'.1 hq
                rw [if_neg (fun z => by omega)] at e1 e2
                rw [e1, e2]
                refine ⟨i3, fun _ => ⟨by rw [hn.1, hb1], fun j hj => ?_⟩, fun h => absurd hq h⟩
                rw [hn.2, w44]; exact (i4 hq).2 j hj
              · have hb1 := hB'.2 hq
                have nc : ¬ (B < sum + bV (fun c => !S.testBit c) val (c + 1) ∧ bV (fun c => !S.testBit c) val (c + 1) ≠ -1000000) := by
                  rw [e1]
                  split
                  · intro z; omega
                  · exact hq
                refine ⟨?_, fun h => absurd h nc, fun _ => ⟨by rw [hn.1, hb1], by rw [hn.2, w44]; exact (i5 hq).2⟩⟩
                rw [e1]
                split
                · exact Or.inr vc
                · exact i3
        by_cases e : i = 0
        · refine c_le (b := 0) rfl rfl (by omega) (by omega) (fun _ => ?_) (fun h => absurd e (by omega))
          unfold qX12_joins_lv3_125
          exact rest 0 (by unfold bon; rw [if_pos (hl0 e)])
        · refine c_le (b := 0) rfl rfl (by omega) (by omega) (fun h => absurd e (by omega)) (fun _ => ?_)
          have hri := hrow (i - 1) (by omega)
          have pw := hJw.2.2.2.1 (rw (i - 1)) hri.2
          have pc1 := hJw.2.2.2.1 c hc
          have hbn : bon nr l c = if nearB A (pp (rw (i - 1))) (pp c) 30 = true then 3 else 0 := by
            unfold bon
            rw [hl1 (by omega), if_neg (by omega), Nat.add_sub_cancel, hnr]
          rw [nl_1, pk_sub (by omega), nI_clamp (by omega), w43 (i - 1) (by omega), if_neg (by omega), i2 (i - 1) (by omega), hri.1, nI_clamp (by omega), nI_clamp (by omega), pw.1, pc1.1, nl_30]
          refine c_in rfl (by omega) (by decide) (c_in rfl (by omega) (by decide) (c_in rfl (by omega) (by decide) ?_))
          refine M_isNear hw hJw.1 pw.2 pc1.2 (by decide) ?_
          cases hnb : nearB A (pp (rw (i - 1))) (pp c) 30 with
          | true =>
            rw [hnb, if_pos rfl] at hbn
            exact b_1' (rest 3 hbn.symm)
          | false =>
            rw [hnb, if_neg (by decide)] at hbn
            refine b_0' ?_
            unfold qX12_joins_lv3_125
            exact rest 0 hbn.symm
theorem joins_4 {A : Nat → Nat → Nat} {ca k n : Nat} {pp : Nat → Nat} {g : Nat → Nat → Int} {nr : Nat → Nat → Bool} (hw : Wf A ca) (k10 : k ≤ 10) (n7 : n ≤ 7) (hnk : n ≤ k) (hnr : ∀ a b, nr a b = nearB A (pp a) (pp b) 30) (hg : ∀ i c, i < n → c < k → -60 ≤ g i c ∧ g i c ≤ 20) : JSp qX12_joins_lv4 4 A k n pp g nr := by
  intro u i r S l sum B rw hJ hir hrL hS hpc hrow hl0 hl1 hs1 hs2 hB hB1 hB2 Q hQ
  by_cases hz : i = n
  · have hr0 : r = 0 := by omega
    subst hr0
    have hin : i = n := by omega
    subst hin
    have jz : jV k i g nr 0 S l = 0 := rfl
    rw [jz, Int.add_zero] at hQ
    unfold qX12_joins_lv4
    rw [hJ.2.1, hB]
    refine c_y' rfl ?_
    by_cases hlt : B < sum
    · refine c_y ((zi_lt (by omega) (by omega) (by omega) (by omega)).2 hlt) (fun w19 hw19 => ?_)
      subst hw19
      have f19 : Fr [(1, 43), (1, 44), (0, 45)] u (sF u 45 (Int32.ofInt sum)) := Fr.sF 45 _ (by decide)
      refine pk_loop (fun f j v => qX12_joins_lv4_25 Q f v (nI j)) (fun j v => Fr [(1, 43), (1, 44), (0, 45)] u v ∧ gA v 43 = gA u 43 ∧ gF v 45 = Int32.ofInt sum ∧ ∀ t, t < j → gA v 44 t = nI (rw t)) i 0 _ (Nat.zero_le _) ⟨f19, rfl, by simp (disch := omega) only [ofI1, nI_add, pk_mul, pk_sub, nI_clamp, imin_nI, imax_nI, nl_0, nl_1, nl_2, nl_3, nl_4, nl_5, nl_6, nl_7, nl_8, nl_9, nl_10, nl_11, nl_12, nl_13, nl_15, nl_16, nl_20, nl_24, nl_26, nl_30, nl_32, nl_36, nl_39, nl_40, nl_45, nl_48, nl_50, nl_57, nl_59, nl_60, nl_61, nl_62, nl_64, nl_72, nl_73, nl_80, nl_90, nl_97, nl_99, nl_100, nl_120, nl_122, nl_123, nl_127, nl_128, nl_199, nl_200, nl_255, nl_256, nl_290, nl_399, nl_400, nl_500, nl_512, nl_520, nl_600, nl_999, nl_1000, nl_2000, nl_9999, nl_10000, nl_14, nl_17, nl_18, nl_19, nl_21, nl_22, nl_23, nl_25, nl_27, nl_28, nl_29, nl_31, nl_33, nl_34, nl_35, nl_47, nl_51, nl_63, nl_110, nl_195, nl_240, nl_1370, nl_3710, nl_6030, nl_6690, nl_7490, nl_7610, nl_9170, nl_11570, gA_sF, gL_sF, gB_sF, gZ_sF, gO_sF, gX_sF, gF_sA, gL_sA, gB_sA, gZ_sA, gO_sA, gX_sA, gF_sL, gA_sL, gB_sL, gZ_sL, gO_sL, gX_sL, gF_sB, gA_sB, gL_sB, gZ_sB, gO_sB, gX_sB, gF_sZ, gA_sZ, gL_sZ, gB_sZ, gO_sZ, gX_sZ, gF_sO, gA_sO, gL_sO, gB_sO, gZ_sO, gX_sO, gF_sX, gA_sX, gL_sX, gB_sX, gZ_sX, gO_sX, gF_tA, gL_tA, gB_tA, gZ_tA, gO_tA, gX_tA, gF_tL, gA_tL, gB_tL, gZ_tL, gO_tL, gX_tL, gF_tB, gA_tB, gL_tB, gZ_tB, gO_tB, gX_tB, gF_tZ, gA_tZ, gL_tZ, gB_tZ, gO_tZ, gX_tZ, gF_sF, gA_sA, gL_sL, gB_sB, gZ_sZ, gO_sO, gX_sX, gA_tA, gL_tL, gB_tB, gZ_tZ, reduceIte, Nat.reduceEqDiff, Nat.zero_ne_one, Nat.one_ne_zero, Nat.succ_ne_self, forall_eq, vpT, cpyT, nI_leI, nI_ltI, nI_eq, nI_m1, oI_eqn, oI_eqm, va_up_ne', va_up_eq, eq_self_iff_true, true_or, or_true, true_implies, not_true_eq_false, not_false_eq_true, false_implies, and_true, true_and, forall_const, implies_true, ne_eq, Nat.add_sub_cancel, nI_pos, ite_self], fun t ht => by omega⟩ (fun f v hI => ?_) (fun f j v hj hI ih => ?_)
      · obtain ⟨i1, i2, i3, i4⟩ := hI
        unfold qX12_joins_lv4_25
        rw [show gF v 37 = nI i from (i1.1 37 (by decide)).trans hJ.2.1]
        refine c_y (nI_le (Nat.le_refl _) (by omega)) (hQ v i1 (fun j _ => by rw [i2]) (fun _ => ⟨i3, fun j hj => ?_⟩) (fun h => absurd hlt h))
        rw [if_pos hj]; exact i4 j hj
      · obtain ⟨i1, i2, i3, i4⟩ := hI
        have hrj := hrow j hj
        unfold qX12_joins_lv4_25
        rw [show gF v 37 = nI i from (i1.1 37 (by decide)).trans hJ.2.1, nI_clamp (by omega), i2, hrj.1, ofI1, nI_add]
        refine c_n (nI_ge hj (by omega)) (c_in rfl (by omega) (by decide) (c_in rfl (by omega) (by decide) (fun w hw' => ?_)))
        subst hw'
        refine ih _ ⟨i1.tr (Fr.tA 44 _ _ (by decide)), i2, i3, fun t ht => ?_⟩
        by_cases e : t = j
        · subst e; simp (disch := omega) only [ofI1, nI_add, pk_mul, pk_sub, nI_clamp, imin_nI, imax_nI, nl_0, nl_1, nl_2, nl_3, nl_4, nl_5, nl_6, nl_7, nl_8, nl_9, nl_10, nl_11, nl_12, nl_13, nl_15, nl_16, nl_20, nl_24, nl_26, nl_30, nl_32, nl_36, nl_39, nl_40, nl_45, nl_48, nl_50, nl_57, nl_59, nl_60, nl_61, nl_62, nl_64, nl_72, nl_73, nl_80, nl_90, nl_97, nl_99, nl_100, nl_120, nl_122, nl_123, nl_127, nl_128, nl_199, nl_200, nl_255, nl_256, nl_290, nl_399, nl_400, nl_500, nl_512, nl_520, nl_600, nl_999, nl_1000, nl_2000, nl_9999, nl_10000, nl_14, nl_17, nl_18, nl_19, nl_21, nl_22, nl_23, nl_25, nl_27, nl_28, nl_29, nl_31, nl_33, nl_34, nl_35, nl_47, nl_51, nl_63, nl_110, nl_195, nl_240, nl_1370, nl_3710, nl_6030, nl_6690, nl_7490, nl_7610, nl_9170, nl_11570, gA_sF, gL_sF, gB_sF, gZ_sF, gO_sF, gX_sF, gF_sA, gL_sA, gB_sA, gZ_sA, gO_sA, gX_sA, gF_sL, gA_sL, gB_sL, gZ_sL, gO_sL, gX_sL, gF_sB, gA_sB, gL_sB, gZ_sB, gO_sB, gX_sB, gF_sZ, gA_sZ, gL_sZ, gB_sZ, gO_sZ, gX_sZ, gF_sO, gA_sO, gL_sO, gB_sO, gZ_sO, gX_sO, gF_sX, gA_sX, gL_sX, gB_sX, gZ_sX, gO_sX, gF_tA, gL_tA, gB_tA, gZ_tA, gO_tA, gX_tA, gF_tL, gA_tL, gB_tL, gZ_tL, gO_tL, gX_tL, gF_tB, gA_tB, gL_tB, gZ_tB, gO_tB, gX_tB, gF_tZ, gA_tZ, gL_tZ, gB_tZ, gO_tZ, gX_tZ, gF_sF, gA_sA, gL_sL, gB_sB, gZ_sZ, gO_sO, gX_sX, gA_tA, gL_tL, gB_tB, gZ_tZ, reduceIte, Nat.reduceEqDiff, Nat.zero_ne_one, Nat.one_ne_zero, Nat.succ_ne_self, forall_eq, vpT, cpyT, nI_leI, nI_ltI, nI_eq, nI_m1, oI_eqn, oI_eqm, va_up_ne', va_up_eq, eq_self_iff_true, true_or, or_true, true_implies, not_true_eq_false, not_false_eq_true, false_implies, and_true, true_and, forall_const, implies_true, ne_eq, Nat.add_sub_cancel, nI_pos, ite_self]
        · have := i4 t (by omega)
          simp (disch := omega) only [this, ofI1, nI_add, pk_mul, pk_sub, nI_clamp, imin_nI, imax_nI, nl_0, nl_1, nl_2, nl_3, nl_4, nl_5, nl_6, nl_7, nl_8, nl_9, nl_10, nl_11, nl_12, nl_13, nl_15, nl_16, nl_20, nl_24, nl_26, nl_30, nl_32, nl_36, nl_39, nl_40, nl_45, nl_48, nl_50, nl_57, nl_59, nl_60, nl_61, nl_62, nl_64, nl_72, nl_73, nl_80, nl_90, nl_97, nl_99, nl_100, nl_120, nl_122, nl_123, nl_127, nl_128, nl_199, nl_200, nl_255, nl_256, nl_290, nl_399, nl_400, nl_500, nl_512, nl_520, nl_600, nl_999, nl_1000, nl_2000, nl_9999, nl_10000, nl_14, nl_17, nl_18, nl_19, nl_21, nl_22, nl_23, nl_25, nl_27, nl_28, nl_29, nl_31, nl_33, nl_34, nl_35, nl_47, nl_51, nl_63, nl_110, nl_195, nl_240, nl_1370, nl_3710, nl_6030, nl_6690, nl_7490, nl_7610, nl_9170, nl_11570, gA_sF, gL_sF, gB_sF, gZ_sF, gO_sF, gX_sF, gF_sA, gL_sA, gB_sA, gZ_sA, gO_sA, gX_sA, gF_sL, gA_sL, gB_sL, gZ_sL, gO_sL, gX_sL, gF_sB, gA_sB, gL_sB, gZ_sB, gO_sB, gX_sB, gF_sZ, gA_sZ, gL_sZ, gB_sZ, gO_sZ, gX_sZ, gF_sO, gA_sO, gL_sO, gB_sO, gZ_sO, gX_sO, gF_sX, gA_sX, gL_sX, gB_sX, gZ_sX, gO_sX, gF_tA, gL_tA, gB_tA, gZ_tA, gO_tA, gX_tA, gF_tL, gA_tL, gB_tL, gZ_tL, gO_tL, gX_tL, gF_tB, gA_tB, gL_tB, gZ_tB, gO_tB, gX_tB, gF_tZ, gA_tZ, gL_tZ, gB_tZ, gO_tZ, gX_tZ, gF_sF, gA_sA, gL_sL, gB_sB, gZ_sZ, gO_sO, gX_sX, gA_tA, gL_tL, gB_tB, gZ_tZ, reduceIte, Nat.reduceEqDiff, Nat.zero_ne_one, Nat.one_ne_zero, Nat.succ_ne_self, forall_eq, vpT, cpyT, nI_leI, nI_ltI, nI_eq, nI_m1, oI_eqn, oI_eqm, va_up_ne', va_up_eq, eq_self_iff_true, true_or, or_true, true_implies, not_true_eq_false, not_false_eq_true, false_implies, and_true, true_and, forall_const, implies_true, ne_eq, Nat.add_sub_cancel, nI_pos, ite_self]
    · refine c_n (fun z => hlt ((zi_lt (by omega) (by omega) (by omega) (by omega)).1 z)) (hQ u Fr.rf (fun _ _ => rfl) (fun h => absurd h hlt) (fun _ => ⟨hB, rfl⟩))
  · obtain ⟨r, rfl⟩ : ∃ r', r = r' + 1 := ⟨r - 1, by omega⟩
    have hi : i < n := by omega
    have hS10 := lt10 k10 hS
    have hl : l ≤ k := by
      by_cases e : i = 0
      · rw [hl0 e]; omega
      · have := (hrow (i - 1) (by omega)).2
        rw [hl1 (by omega)]; omega
    have hr3 : n - (r + 1) = i := by omega
    obtain ⟨c1, -, -, -⟩ := jC_is (nr := nr) (l := l) (S := S) (r := r) k10 n7 hg (by omega) (by omega)
    have jb := jV_b (nr := nr) k10 hg (r + 1) S l (by omega) (by omega)
    have ev : jV k n g nr (r + 1) S l = bV (fun c => !S.testBit c) (fun c => g i c + bon nr l c + jV k n g nr r (S ||| 2 ^ c) (c + 1)) k := by
      show bV _ (fun c => g (n - (r + 1)) c + _ + _) k = _
      rw [hr3]
    have ec : jC k n g nr r S l = bC (fun c => !S.testBit c) (fun c => g i c + bon nr l c + jV k n g nr r (S ||| 2 ^ c) (c + 1)) k := by
      unfold jC; rw [hr3]
    have vb : ∀ c, c < k → S.testBit c = false → -1000 ≤ g i c + bon nr l c + jV k n g nr r (S ||| 2 ^ c) (c + 1) ∧ g i c + bon nr l c + jV k n g nr r (S ||| 2 ^ c) (c + 1) ≤ 600 := fun c hc hf => by
      have h1 := hg i c hi hc
      have h2 := bon_b nr l c
      have h3 := jV_b (nr := nr) k10 hg r (S ||| 2 ^ c) (c + 1) (by omega) (by rw [pc_or (by omega) hf]; omega)
      omega
    generalize hval : (fun c => g i c + bon nr l c + jV k n g nr r (S ||| 2 ^ c) (c + 1)) = val at ev ec
    have vb' : ∀ c, c < k → S.testBit c = false → -1000 ≤ val c ∧ val c ≤ 600 := fun c hc hf => by rw [← hval]; exact vb c hc hf
    unfold qX12_joins_lv4
    rw [hJ.2.1]
    refine c_n' (fun z => hz ((nI_eq (by omega) (by omega)).1 z)) ?_
    refine pk_loop (fun f c v => qX12_joins_lv4_58 Q f v (nI i) (nI S) (Int32.ofInt sum) (nI c)) (fun c v => Fr [(1, 43), (1, 44), (0, 45)] u v ∧ (∀ j, j < i → gA v 43 j = gA u 43 j) ∧ (bV (fun c => !S.testBit c) val c = -1000000 ∨ (-1000 ≤ bV (fun c => !S.testBit c) val c ∧ bV (fun c => !S.testBit c) val c ≤ 600)) ∧
      (B < sum + bV (fun c => !S.testBit c) val c ∧ bV (fun c => !S.testBit c) val c ≠ -1000000 → gF v 45 = Int32.ofInt (sum + bV (fun c => !S.testBit c) val c) ∧ ∀ j, j < n → gA v 44 j = nI (if j < i then rw j else if j = i then bC (fun c => !S.testBit c) val c else jR k n g nr r (S ||| 2 ^ bC (fun c => !S.testBit c) val c) (bC (fun c => !S.testBit c) val c + 1) (j - i - 1))) ∧
      (¬ (B < sum + bV (fun c => !S.testBit c) val c ∧ bV (fun c => !S.testBit c) val c ≠ -1000000) → gF v 45 = Int32.ofInt B ∧ gA v 44 = gA u 44)) k 0 u (Nat.zero_le _) ⟨Fr.rf, fun _ _ => rfl, Or.inl rfl, fun h => absurd rfl h.2, fun _ => ⟨hB, rfl⟩⟩ (fun f v hI => ?_) (fun f c v hc hI ih => ?_)
    · obtain ⟨i1, i2, i3, i4, i5⟩ := hI
      unfold qX12_joins_lv4_58
      rw [show gF v 40 = nI k from (i1.1 40 (by decide)).trans hJ.2.2.1]
      refine c_y (nI_le (Nat.le_refl _) (by omega)) (hQ v i1 i2 (fun h => ?_) (fun h => ?_))
      · rw [ev] at h ⊢
        obtain ⟨q1, q2⟩ := i4 ⟨h, by omega⟩
        refine ⟨q1, fun j hj => ?_⟩
        rw [q2 j hj]
        congr 1
        by_cases e : j < i
        · rw [if_pos e, if_pos e]
        · rw [if_neg e, if_neg e]
          by_cases e2 : j = i
          · rw [if_pos e2, e2, Nat.sub_self, jR_0, ec]
          · rw [if_neg e2]
            obtain ⟨t, ht⟩ : ∃ t, j - i = t + 1 := ⟨j - i - 1, by omega⟩
            rw [ht, jR_s, ec, Nat.add_sub_cancel]
      · rw [ev] at h
        exact i5 (fun z => h z.1)
    · obtain ⟨i1, i2, i3, i4, i5⟩ := hI
      have hJv := hJ.fr i1
      have e1 : bV (fun c => !S.testBit c) val (c + 1) = if (!S.testBit c) = true ∧ bV (fun c => !S.testBit c) val c < val c then val c else bV (fun c => !S.testBit c) val c := rfl
      have e2 : bC (fun c => !S.testBit c) val (c + 1) = if (!S.testBit c) = true ∧ bV (fun c => !S.testBit c) val c < val c then c else bC (fun c => !S.testBit c) val c := rfl
      unfold qX12_joins_lv4_58
      rw [hJv.2.2.1]
      refine c_n (nI_ge hc (by omega)) ?_
      rw [bit10 (by omega) (by omega), ofI1, nI_add]
      cases hb : S.testBit c with
      | true =>
        rw [hb, if_neg (fun z => absurd z.1 (by decide))] at e1 e2
        refine c_y' rfl (ih v ⟨i1, i2, ?_⟩)
        rw [e1, e2]
        exact ⟨i3, i4, i5⟩
      | false =>
        have vc := vb' c hc hb
        rw [hb] at e1 e2
        refine c_n' (by decide) (c_in rfl (by omega) (by decide) (fun w hw' => ?_))
        have fw : Fr [(1, 43), (1, 44), (0, 45)] v w := by rw [hw']; exact Fr.tA 43 _ _ (by decide)
        have w43 : ∀ j, j < 7 → gA w 43 j = if j = i then nI c else gA v 43 j := fun j hj => by
          subst hw'
          by_cases e : j = i
          · subst e; simp (disch := omega) only [ofI1, nI_add, pk_mul, pk_sub, nI_clamp, imin_nI, imax_nI, nl_0, nl_1, nl_2, nl_3, nl_4, nl_5, nl_6, nl_7, nl_8, nl_9, nl_10, nl_11, nl_12, nl_13, nl_15, nl_16, nl_20, nl_24, nl_26, nl_30, nl_32, nl_36, nl_39, nl_40, nl_45, nl_48, nl_50, nl_57, nl_59, nl_60, nl_61, nl_62, nl_64, nl_72, nl_73, nl_80, nl_90, nl_97, nl_99, nl_100, nl_120, nl_122, nl_123, nl_127, nl_128, nl_199, nl_200, nl_255, nl_256, nl_290, nl_399, nl_400, nl_500, nl_512, nl_520, nl_600, nl_999, nl_1000, nl_2000, nl_9999, nl_10000, nl_14, nl_17, nl_18, nl_19, nl_21, nl_22, nl_23, nl_25, nl_27, nl_28, nl_29, nl_31, nl_33, nl_34, nl_35, nl_47, nl_51, nl_63, nl_110, nl_195, nl_240, nl_1370, nl_3710, nl_6030, nl_6690, nl_7490, nl_7610, nl_9170, nl_11570, gA_sF, gL_sF, gB_sF, gZ_sF, gO_sF, gX_sF, gF_sA, gL_sA, gB_sA, gZ_sA, gO_sA, gX_sA, gF_sL, gA_sL, gB_sL, gZ_sL, gO_sL, gX_sL, gF_sB, gA_sB, gL_sB, gZ_sB, gO_sB, gX_sB, gF_sZ, gA_sZ, gL_sZ, gB_sZ, gO_sZ, gX_sZ, gF_sO, gA_sO, gL_sO, gB_sO, gZ_sO, gX_sO, gF_sX, gA_sX, gL_sX, gB_sX, gZ_sX, gO_sX, gF_tA, gL_tA, gB_tA, gZ_tA, gO_tA, gX_tA, gF_tL, gA_tL, gB_tL, gZ_tL, gO_tL, gX_tL, gF_tB, gA_tB, gL_tB, gZ_tB, gO_tB, gX_tB, gF_tZ, gA_tZ, gL_tZ, gB_tZ, gO_tZ, gX_tZ, gF_sF, gA_sA, gL_sL, gB_sB, gZ_sZ, gO_sO, gX_sX, gA_tA, gL_tL, gB_tB, gZ_tZ, reduceIte, Nat.reduceEqDiff, Nat.zero_ne_one, Nat.one_ne_zero, Nat.succ_ne_self, forall_eq, vpT, cpyT, nI_leI, nI_ltI, nI_eq, nI_m1, oI_eqn, oI_eqm, va_up_ne', va_up_eq, eq_self_iff_true, true_or, or_true, true_implies, not_true_eq_false, not_false_eq_true, false_implies, and_true, true_and, forall_const, implies_true, ne_eq, Nat.add_sub_cancel, nI_pos, ite_self]
          · simp (disch := omega) only [ofI1, nI_add, pk_mul, pk_sub, nI_clamp, imin_nI, imax_nI, nl_0, nl_1, nl_2, nl_3, nl_4, nl_5, nl_6, nl_7, nl_8, nl_9, nl_10, nl_11, nl_12, nl_13, nl_15, nl_16, nl_20, nl_24, nl_26, nl_30, nl_32, nl_36, nl_39, nl_40, nl_45, nl_48, nl_50, nl_57, nl_59, nl_60, nl_61, nl_62, nl_64, nl_72, nl_73, nl_80, nl_90, nl_97, nl_99, nl_100, nl_120, nl_122, nl_123, nl_127, nl_128, nl_199, nl_200, nl_255, nl_256, nl_290, nl_399, nl_400, nl_500, nl_512, nl_520, nl_600, nl_999, nl_1000, nl_2000, nl_9999, nl_10000, nl_14, nl_17, nl_18, nl_19, nl_21, nl_22, nl_23, nl_25, nl_27, nl_28, nl_29, nl_31, nl_33, nl_34, nl_35, nl_47, nl_51, nl_63, nl_110, nl_195, nl_240, nl_1370, nl_3710, nl_6030, nl_6690, nl_7490, nl_7610, nl_9170, nl_11570, gA_sF, gL_sF, gB_sF, gZ_sF, gO_sF, gX_sF, gF_sA, gL_sA, gB_sA, gZ_sA, gO_sA, gX_sA, gF_sL, gA_sL, gB_sL, gZ_sL, gO_sL, gX_sL, gF_sB, gA_sB, gL_sB, gZ_sB, gO_sB, gX_sB, gF_sZ, gA_sZ, gL_sZ, gB_sZ, gO_sZ, gX_sZ, gF_sO, gA_sO, gL_sO, gB_sO, gZ_sO, gX_sO, gF_sX, gA_sX, gL_sX, gB_sX, gZ_sX, gO_sX, gF_tA, gL_tA, gB_tA, gZ_tA, gO_tA, gX_tA, gF_tL, gA_tL, gB_tL, gZ_tL, gO_tL, gX_tL, gF_tB, gA_tB, gL_tB, gZ_tB, gO_tB, gX_tB, gF_tZ, gA_tZ, gL_tZ, gB_tZ, gO_tZ, gX_tZ, gF_sF, gA_sA, gL_sL, gB_sB, gZ_sZ, gO_sO, gX_sX, gA_tA, gL_tL, gB_tB, gZ_tZ, reduceIte, Nat.reduceEqDiff, Nat.zero_ne_one, Nat.one_ne_zero, Nat.succ_ne_self, forall_eq, vpT, cpyT, nI_leI, nI_ltI, nI_eq, nI_m1, oI_eqn, oI_eqm, va_up_ne', va_up_eq, eq_self_iff_true, true_or, or_true, true_implies, not_true_eq_false, not_false_eq_true, false_implies, and_true, true_and, forall_const, implies_true, ne_eq, Nat.add_sub_cancel, nI_pos, ite_self]
            rw [if_neg e]
        have w44 : gA w 44 = gA v 44 := by rw [hw']; rfl
        have w45 : gF w 45 = gF v 45 := by rw [hw']; rfl
        have hJw := hJv.fr fw
        clear hw'
        have dgc := hJw.2.2.2.2 i c hi hc
        have rest : ∀ z : Int, z = bon nr l c → qX12_joins_lv4_126 Q (qX12_joins_lv4_58 Q f) w (nI i) (nI S) (Int32.ofInt sum) (nI c) (Int32.ofInt z) := fun z hz2 => by
          unfold qX12_joins_lv4_126
          rw [nl_10, pk_mul, nI_add, nI_clamp (by omega), dgc, or_nI hS10 (by omega), zi_add, zi_add, nl_1, nI_add, ofI1, nI_add]
          have hgc := hg i c hi hc
          have hbc := bon_b nr l c
          have ev2 : sum + g i c + z + jV k n g nr r (S ||| 2 ^ c) (c + 1) = sum + val c := by rw [← hval, hz2]; show _ = sum + (_ + _ + _); omega
          obtain ⟨B', hB'⟩ : ∃ B' : Int, (B < sum + bV (fun c => !S.testBit c) val c ∧ bV (fun c => !S.testBit c) val c ≠ -1000000 → B' = sum + bV (fun c => !S.testBit c) val c) ∧ (¬ (B < sum + bV (fun c => !S.testBit c) val c ∧ bV (fun c => !S.testBit c) val c ≠ -1000000) → B' = B) := by
            by_cases hq : B < sum + bV (fun c => !S.testBit c) val c ∧ bV (fun c => !S.testBit c) val c ≠ -1000000
            · exact ⟨_, fun _ => rfl, fun h => absurd hq h⟩
            · exact ⟨B, fun h => absurd h hq, fun _ => rfl⟩
          have gB : gF w 45 = Int32.ofInt B' := by
            rw [w45]
            by_cases hq : B < sum + bV (fun c => !S.testBit c) val c ∧ bV (fun c => !S.testBit c) val c ≠ -1000000
            · rw [hB'.1 hq]; exact (i4 hq).1
            · rw [hB'.2 hq]; exact (i5 hq).1
          have B1 : -1000000 ≤ B' := by
            by_cases hq : B < sum + bV (fun c => !S.testBit c) val c ∧ bV (fun c => !S.testBit c) val c ≠ -1000000
            · rw [hB'.1 hq]; omega
            · rw [hB'.2 hq]; exact hB1
          have B2 : B' ≤ 1000 := by
            by_cases hq : B < sum + bV (fun c => !S.testBit c) val c ∧ bV (fun c => !S.testBit c) val c ≠ -1000000
            · rw [hB'.1 hq]; omega
            · rw [hB'.2 hq]; exact hB2
          refine c_in rfl (by omega) (by decide) (joins_3 hw k10 n7 hnk hnr hg w (i + 1) r (S ||| 2 ^ c) (c + 1) (sum + g i c + z) B' (fun j => if j = i then c else rw j) hJw (by omega) (by omega) (or_lt hS hc) (by rw [pc_or (by omega) hb, hpc]) (fun j hj => ?_) (fun h => absurd h (by omega)) (fun _ => ?_) (by omega) (by omega) gB B1 B2 _ (fun u' fu hp1 hyes hno => ?_))
          · rw [w43 j (by omega)]
            by_cases e : j = i
            · rw [if_pos e, if_pos e]; exact ⟨rfl, hc⟩
            · rw [if_neg e, if_neg e, i2 j (by omega)]; exact hrow j (by omega)
          · show c + 1 = (if i + 1 - 1 = i then c else rw (i + 1 - 1)) + 1
            rw [if_pos (by omega)]
          · rw [ev2] at hyes hno
            refine ih u' ⟨i1.tr (fw.tr fu), fun j hj => ?_, ?_⟩
            · rw [hp1 j (by omega), w43 j (by omega), if_neg (by omega)]; exact i2 j hj
            have up : B' < sum + val c → bV (fun c => !S.testBit c) val c < val c ∧ B < sum + val c := fun h => by
              by_cases hq : B < sum + bV (fun c => !S.testBit c) val c ∧ bV (fun c => !S.testBit c) val c ≠ -1000000
              · have := hB'.1 hq; omega
              · have := hB'.2 hq
                by_cases h6 : bV (fun c => !S.testBit c) val c = -1000000
                · omega
                · have : ¬ B < sum + bV (fun c => !S.testBit c) val c := fun z => hq ⟨z, h6⟩
                  omega
            by_cases hup : B' < sum + val c
            · obtain ⟨u1, u2⟩ := up hup
              rw [if_pos ⟨rfl, u1⟩] at e1 e2
              rw [e1, e2]
              refine ⟨Or.inr vc, fun _ => ⟨(hyes hup).1, fun j hj => ?_⟩, fun h => absurd ⟨u2, by omega⟩ h⟩
              rw [(hyes hup).2 j hj]
              congr 1
              by_cases x1 : j < i
              · rw [if_pos (by omega), if_neg (by omega), if_pos x1]
              · rw [if_neg x1]
                by_cases x2 : j = i
                · rw [if_pos (by omega), if_pos x2, if_pos x2]
                · rw [if_neg (by omega), if_neg x2, show j - (i + 1) = j - i - 1 by omega]
            · have hn := hno hup
              by_cases hq : B < sum + bV (fun c => !S.testBit c) val c ∧ bV (fun c => !S.testBit c) val c ≠ -1000000
              · have hb1 := hB'.1 hq
                rw [if_neg (fun z => by omega)] at e1 e2
                rw [e1, e2]
                refine ⟨i3, fun _ => ⟨by rw [hn.1, hb1], fun j hj => ?_⟩, fun h => absurd hq h⟩
                rw [hn.2, w44]; exact (i4 hq).2 j hj
              · have hb1 := hB'.2 hq
                have nc : ¬ (B < sum + bV (fun c => !S.testBit c) val (c + 1) ∧ bV (fun c => !S.testBit c) val (c + 1) ≠ -1000000) := by
                  rw [e1]
                  split
                  · intro z; omega
                  · exact hq
                refine ⟨?_, fun h => absurd h nc, fun _ => ⟨by rw [hn.1, hb1], by rw [hn.2, w44]; exact (i5 hq).2⟩⟩
                rw [e1]
                split
                · exact Or.inr vc
                · exact i3
        by_cases e : i = 0
        · refine c_le (b := 0) rfl rfl (by omega) (by omega) (fun _ => ?_) (fun h => absurd e (by omega))
          unfold qX12_joins_lv4_125
          exact rest 0 (by unfold bon; rw [if_pos (hl0 e)])
        · refine c_le (b := 0) rfl rfl (by omega) (by omega) (fun h => absurd e (by omega)) (fun _ => ?_)
          have hri := hrow (i - 1) (by omega)
          have pw := hJw.2.2.2.1 (rw (i - 1)) hri.2
          have pc1 := hJw.2.2.2.1 c hc
          have hbn : bon nr l c = if nearB A (pp (rw (i - 1))) (pp c) 30 = true then 3 else 0 := by
            unfold bon
            rw [hl1 (by omega), if_neg (by omega), Nat.add_sub_cancel, hnr]
          rw [nl_1, pk_sub (by omega), nI_clamp (by omega), w43 (i - 1) (by omega), if_neg (by omega), i2 (i - 1) (by omega), hri.1, nI_clamp (by omega), nI_clamp (by omega), pw.1, pc1.1, nl_30]
          refine c_in rfl (by omega) (by decide) (c_in rfl (by omega) (by decide) (c_in rfl (by omega) (by decide) ?_))
          refine M_isNear hw hJw.1 pw.2 pc1.2 (by decide) ?_
          cases hnb : nearB A (pp (rw (i - 1))) (pp c) 30 with
          | true =>
            rw [hnb, if_pos rfl] at hbn
            exact b_1' (rest 3 hbn.symm)
          | false =>
            rw [hnb, if_neg (by decide)] at hbn
            refine b_0' ?_
            unfold qX12_joins_lv4_125
            exact rest 0 hbn.symm
theorem joins_5 {A : Nat → Nat → Nat} {ca k n : Nat} {pp : Nat → Nat} {g : Nat → Nat → Int} {nr : Nat → Nat → Bool} (hw : Wf A ca) (k10 : k ≤ 10) (n7 : n ≤ 7) (hnk : n ≤ k) (hnr : ∀ a b, nr a b = nearB A (pp a) (pp b) 30) (hg : ∀ i c, i < n → c < k → -60 ≤ g i c ∧ g i c ≤ 20) : JSp qX12_joins_lv5 5 A k n pp g nr := by
  intro u i r S l sum B rw hJ hir hrL hS hpc hrow hl0 hl1 hs1 hs2 hB hB1 hB2 Q hQ
  by_cases hz : i = n
  · have hr0 : r = 0 := by omega
    subst hr0
    have hin : i = n := by omega
    subst hin
    have jz : jV k i g nr 0 S l = 0 := rfl
    rw [jz, Int.add_zero] at hQ
    unfold qX12_joins_lv5
    rw [hJ.2.1, hB]
    refine c_y' rfl ?_
    by_cases hlt : B < sum
    · refine c_y ((zi_lt (by omega) (by omega) (by omega) (by omega)).2 hlt) (fun w19 hw19 => ?_)
      subst hw19
      have f19 : Fr [(1, 43), (1, 44), (0, 45)] u (sF u 45 (Int32.ofInt sum)) := Fr.sF 45 _ (by decide)
      refine pk_loop (fun f j v => qX12_joins_lv5_25 Q f v (nI j)) (fun j v => Fr [(1, 43), (1, 44), (0, 45)] u v ∧ gA v 43 = gA u 43 ∧ gF v 45 = Int32.ofInt sum ∧ ∀ t, t < j → gA v 44 t = nI (rw t)) i 0 _ (Nat.zero_le _) ⟨f19, rfl, by simp (disch := omega) only [ofI1, nI_add, pk_mul, pk_sub, nI_clamp, imin_nI, imax_nI, nl_0, nl_1, nl_2, nl_3, nl_4, nl_5, nl_6, nl_7, nl_8, nl_9, nl_10, nl_11, nl_12, nl_13, nl_15, nl_16, nl_20, nl_24, nl_26, nl_30, nl_32, nl_36, nl_39, nl_40, nl_45, nl_48, nl_50, nl_57, nl_59, nl_60, nl_61, nl_62, nl_64, nl_72, nl_73, nl_80, nl_90, nl_97, nl_99, nl_100, nl_120, nl_122, nl_123, nl_127, nl_128, nl_199, nl_200, nl_255, nl_256, nl_290, nl_399, nl_400, nl_500, nl_512, nl_520, nl_600, nl_999, nl_1000, nl_2000, nl_9999, nl_10000, nl_14, nl_17, nl_18, nl_19, nl_21, nl_22, nl_23, nl_25, nl_27, nl_28, nl_29, nl_31, nl_33, nl_34, nl_35, nl_47, nl_51, nl_63, nl_110, nl_195, nl_240, nl_1370, nl_3710, nl_6030, nl_6690, nl_7490, nl_7610, nl_9170, nl_11570, gA_sF, gL_sF, gB_sF, gZ_sF, gO_sF, gX_sF, gF_sA, gL_sA, gB_sA, gZ_sA, gO_sA, gX_sA, gF_sL, gA_sL, gB_sL, gZ_sL, gO_sL, gX_sL, gF_sB, gA_sB, gL_sB, gZ_sB, gO_sB, gX_sB, gF_sZ, gA_sZ, gL_sZ, gB_sZ, gO_sZ, gX_sZ, gF_sO, gA_sO, gL_sO, gB_sO, gZ_sO, gX_sO, gF_sX, gA_sX, gL_sX, gB_sX, gZ_sX, gO_sX, gF_tA, gL_tA, gB_tA, gZ_tA, gO_tA, gX_tA, gF_tL, gA_tL, gB_tL, gZ_tL, gO_tL, gX_tL, gF_tB, gA_tB, gL_tB, gZ_tB, gO_tB, gX_tB, gF_tZ, gA_tZ, gL_tZ, gB_tZ, gO_tZ, gX_tZ, gF_sF, gA_sA, gL_sL, gB_sB, gZ_sZ, gO_sO, gX_sX, gA_tA, gL_tL, gB_tB, gZ_tZ, reduceIte, Nat.reduceEqDiff, Nat.zero_ne_one, Nat.one_ne_zero, Nat.succ_ne_self, forall_eq, vpT, cpyT, nI_leI, nI_ltI, nI_eq, nI_m1, oI_eqn, oI_eqm, va_up_ne', va_up_eq, eq_self_iff_true, true_or, or_true, true_implies, not_true_eq_false, not_false_eq_true, false_implies, and_true, true_and, forall_const, implies_true, ne_eq, Nat.add_sub_cancel, nI_pos, ite_self], fun t ht => by omega⟩ (fun f v hI => ?_) (fun f j v hj hI ih => ?_)
      · obtain ⟨i1, i2, i3, i4⟩ := hI
        unfold qX12_joins_lv5_25
        rw [show gF v 37 = nI i from (i1.1 37 (by decide)).trans hJ.2.1]
        refine c_y (nI_le (Nat.le_refl _) (by omega)) (hQ v i1 (fun j _ => by rw [i2]) (fun _ => ⟨i3, fun j hj => ?_⟩) (fun h => absurd hlt h))
        rw [if_pos hj]; exact i4 j hj
      · obtain ⟨i1, i2, i3, i4⟩ := hI
        have hrj := hrow j hj
        unfold qX12_joins_lv5_25
        rw [show gF v 37 = nI i from (i1.1 37 (by decide)).trans hJ.2.1, nI_clamp (by omega), i2, hrj.1, ofI1, nI_add]
        refine c_n (nI_ge hj (by omega)) (c_in rfl (by omega) (by decide) (c_in rfl (by omega) (by decide) (fun w hw' => ?_)))
        subst hw'
        refine ih _ ⟨i1.tr (Fr.tA 44 _ _ (by decide)), i2, i3, fun t ht => ?_⟩
        by_cases e : t = j
        · subst e; simp (disch := omega) only [ofI1, nI_add, pk_mul, pk_sub, nI_clamp, imin_nI, imax_nI, nl_0, nl_1, nl_2, nl_3, nl_4, nl_5, nl_6, nl_7, nl_8, nl_9, nl_10, nl_11, nl_12, nl_13, nl_15, nl_16, nl_20, nl_24, nl_26, nl_30, nl_32, nl_36, nl_39, nl_40, nl_45, nl_48, nl_50, nl_57, nl_59, nl_60, nl_61, nl_62, nl_64, nl_72, nl_73, nl_80, nl_90, nl_97, nl_99, nl_100, nl_120, nl_122, nl_123, nl_127, nl_128, nl_199, nl_200, nl_255, nl_256, nl_290, nl_399, nl_400, nl_500, nl_512, nl_520, nl_600, nl_999, nl_1000, nl_2000, nl_9999, nl_10000, nl_14, nl_17, nl_18, nl_19, nl_21, nl_22, nl_23, nl_25, nl_27, nl_28, nl_29, nl_31, nl_33, nl_34, nl_35, nl_47, nl_51, nl_63, nl_110, nl_195, nl_240, nl_1370, nl_3710, nl_6030, nl_6690, nl_7490, nl_7610, nl_9170, nl_11570, gA_sF, gL_sF, gB_sF, gZ_sF, gO_sF, gX_sF, gF_sA, gL_sA, gB_sA, gZ_sA, gO_sA, gX_sA, gF_sL, gA_sL, gB_sL, gZ_sL, gO_sL, gX_sL, gF_sB, gA_sB, gL_sB, gZ_sB, gO_sB, gX_sB, gF_sZ, gA_sZ, gL_sZ, gB_sZ, gO_sZ, gX_sZ, gF_sO, gA_sO, gL_sO, gB_sO, gZ_sO, gX_sO, gF_sX, gA_sX, gL_sX, gB_sX, gZ_sX, gO_sX, gF_tA, gL_tA, gB_tA, gZ_tA, gO_tA, gX_tA, gF_tL, gA_tL, gB_tL, gZ_tL, gO_tL, gX_tL, gF_tB, gA_tB, gL_tB, gZ_tB, gO_tB, gX_tB, gF_tZ, gA_tZ, gL_tZ, gB_tZ, gO_tZ, gX_tZ, gF_sF, gA_sA, gL_sL, gB_sB, gZ_sZ, gO_sO, gX_sX, gA_tA, gL_tL, gB_tB, gZ_tZ, reduceIte, Nat.reduceEqDiff, Nat.zero_ne_one, Nat.one_ne_zero, Nat.succ_ne_self, forall_eq, vpT, cpyT, nI_leI, nI_ltI, nI_eq, nI_m1, oI_eqn, oI_eqm, va_up_ne', va_up_eq, eq_self_iff_true, true_or, or_true, true_implies, not_true_eq_false, not_false_eq_true, false_implies, and_true, true_and, forall_const, implies_true, ne_eq, Nat.add_sub_cancel, nI_pos, ite_self]
        · have := i4 t (by omega)
          simp (disch := omega) only [this, ofI1, nI_add, pk_mul, pk_sub, nI_clamp, imin_nI, imax_nI, nl_0, nl_1, nl_2, nl_3, nl_4, nl_5, nl_6, nl_7, nl_8, nl_9, nl_10, nl_11, nl_12, nl_13, nl_15, nl_16, nl_20, nl_24, nl_26, nl_30, nl_32, nl_36, nl_39, nl_40, nl_45, nl_48, nl_50, nl_57, nl_59, nl_60, nl_61, nl_62, nl_64, nl_72, nl_73, nl_80, nl_90, nl_97, nl_99, nl_100, nl_120, nl_122, nl_123, nl_127, nl_128, nl_199, nl_200, nl_255, nl_256, nl_290, nl_399, nl_400, nl_500, nl_512, nl_520, nl_600, nl_999, nl_1000, nl_2000, nl_9999, nl_10000, nl_14, nl_17, nl_18, nl_19, nl_21, nl_22, nl_23, nl_25, nl_27, nl_28, nl_29, nl_31, nl_33, nl_34, nl_35, nl_47, nl_51, nl_63, nl_110, nl_195, nl_240, nl_1370, nl_3710, nl_6030, nl_6690, nl_7490, nl_7610, nl_9170, nl_11570, gA_sF, gL_sF, gB_sF, gZ_sF, gO_sF, gX_sF, gF_sA, gL_sA, gB_sA, gZ_sA, gO_sA, gX_sA, gF_sL, gA_sL, gB_sL, gZ_sL, gO_sL, gX_sL, gF_sB, gA_sB, gL_sB, gZ_sB, gO_sB, gX_sB, gF_sZ, gA_sZ, gL_sZ, gB_sZ, gO_sZ, gX_sZ, gF_sO, gA_sO, gL_sO, gB_sO, gZ_sO, gX_sO, gF_sX, gA_sX, gL_sX, gB_sX, gZ_sX, gO_sX, gF_tA, gL_tA, gB_tA, gZ_tA, gO_tA, gX_tA, gF_tL, gA_tL, gB_tL, gZ_tL, gO_tL, gX_tL, gF_tB, gA_tB, gL_tB, gZ_tB, gO_tB, gX_tB, gF_tZ, gA_tZ, gL_tZ, gB_tZ, gO_tZ, gX_tZ, gF_sF, gA_sA, gL_sL, gB_sB, gZ_sZ, gO_sO, gX_sX, gA_tA, gL_tL, gB_tB, gZ_tZ, reduceIte, Nat.reduceEqDiff, Nat.zero_ne_one, Nat.one_ne_zero, Nat.succ_ne_self, forall_eq, vpT, cpyT, nI_leI, nI_ltI, nI_eq, nI_m1, oI_eqn, oI_eqm, va_up_ne', va_up_eq, eq_self_iff_true, true_or, or_true, true_implies, not_true_eq_false, not_false_eq_true, false_implies, and_true, true_and, forall_const, implies_true, ne_eq, Nat.add_sub_cancel, nI_pos, ite_self]
    · refine c_n (fun z => hlt ((zi_lt (by omega) (by omega) (by omega) (by omega)).1 z)) (hQ u Fr.rf (fun _ _ => rfl) (fun h => absurd h hlt) (fun _ => ⟨hB, rfl⟩))
  · obtain ⟨r, rfl⟩ : ∃ r', r = r' + 1 := ⟨r - 1, by omega⟩
    have hi : i < n := by omega
    have hS10 := lt10 k10 hS
    have hl : l ≤ k := by
      by_cases e : i = 0
      · rw [hl0 e]; omega
      · have := (hrow (i - 1) (by omega)).2
        rw [hl1 (by omega)]; omega
    have hr3 : n - (r + 1) = i := by omega
    obtain ⟨c1, -, -, -⟩ := jC_is (nr := nr) (l := l) (S := S) (r := r) k10 n7 hg (by omega) (by omega)
    have jb := jV_b (nr := nr) k10 hg (r + 1) S l (by omega) (by omega)
    have ev : jV k n g nr (r + 1) S l = bV (fun c => !S.testBit c) (fun c => g i c + bon nr l c + jV k n g nr r (S ||| 2 ^ c) (c + 1)) k := by
      show bV _ (fun c => g (n - (r + 1)) c + _ + _) k = _
      rw [hr3]
    have ec : jC k n g nr r S l = bC (fun c => !S.testBit c) (fun c => g i c + bon nr l c + jV k n g nr r (S ||| 2 ^ c) (c + 1)) k := by
      unfold jC; rw [hr3]
    have vb : ∀ c, c < k → S.testBit c = false → -1000 ≤ g i c + bon nr l c + jV k n g nr r (S ||| 2 ^ c) (c + 1) ∧ g i c + bon nr l c + jV k n g nr r (S ||| 2 ^ c) (c + 1) ≤ 600 := fun c hc hf => by
      have h1 := hg i c hi hc
      have h2 := bon_b nr l c
      have h3 := jV_b (nr := nr) k10 hg r (S ||| 2 ^ c) (c + 1) (by omega) (by rw [pc_or (by omega) hf]; omega)
      omega
    generalize hval : (fun c => g i c + bon nr l c + jV k n g nr r (S ||| 2 ^ c) (c + 1)) = val at ev ec
    have vb' : ∀ c, c < k → S.testBit c = false → -1000 ≤ val c ∧ val c ≤ 600 := fun c hc hf => by rw [← hval]; exact vb c hc hf
    unfold qX12_joins_lv5
    rw [hJ.2.1]
    refine c_n' (fun z => hz ((nI_eq (by omega) (by omega)).1 z)) ?_
    refine pk_loop (fun f c v => qX12_joins_lv5_58 Q f v (nI i) (nI S) (Int32.ofInt sum) (nI c)) (fun c v => Fr [(1, 43), (1, 44), (0, 45)] u v ∧ (∀ j, j < i → gA v 43 j = gA u 43 j) ∧ (bV (fun c => !S.testBit c) val c = -1000000 ∨ (-1000 ≤ bV (fun c => !S.testBit c) val c ∧ bV (fun c => !S.testBit c) val c ≤ 600)) ∧
      (B < sum + bV (fun c => !S.testBit c) val c ∧ bV (fun c => !S.testBit c) val c ≠ -1000000 → gF v 45 = Int32.ofInt (sum + bV (fun c => !S.testBit c) val c) ∧ ∀ j, j < n → gA v 44 j = nI (if j < i then rw j else if j = i then bC (fun c => !S.testBit c) val c else jR k n g nr r (S ||| 2 ^ bC (fun c => !S.testBit c) val c) (bC (fun c => !S.testBit c) val c + 1) (j - i - 1))) ∧
      (¬ (B < sum + bV (fun c => !S.testBit c) val c ∧ bV (fun c => !S.testBit c) val c ≠ -1000000) → gF v 45 = Int32.ofInt B ∧ gA v 44 = gA u 44)) k 0 u (Nat.zero_le _) ⟨Fr.rf, fun _ _ => rfl, Or.inl rfl, fun h => absurd rfl h.2, fun _ => ⟨hB, rfl⟩⟩ (fun f v hI => ?_) (fun f c v hc hI ih => ?_)
    · obtain ⟨i1, i2, i3, i4, i5⟩ := hI
      unfold qX12_joins_lv5_58
      rw [show gF v 40 = nI k from (i1.1 40 (by decide)).trans hJ.2.2.1]
      refine c_y (nI_le (Nat.le_refl _) (by omega)) (hQ v i1 i2 (fun h => ?_) (fun h => ?_))
      · rw [ev] at h ⊢
        obtain ⟨q1, q2⟩ := i4 ⟨h, by omega⟩
        refine ⟨q1, fun j hj => ?_⟩
        rw [q2 j hj]
        congr 1
        by_cases e : j < i
        · rw [if_pos e, if_pos e]
        · rw [if_neg e, if_neg e]
          by_cases e2 : j = i
          · rw [if_pos e2, e2, Nat.sub_self, jR_0, ec]
          · rw [if_neg e2]
            obtain ⟨t, ht⟩ : ∃ t, j - i = t + 1 := ⟨j - i - 1, by omega⟩
            rw [ht, jR_s, ec, Nat.add_sub_cancel]
      · rw [ev] at h
        exact i5 (fun z => h z.1)
    · obtain ⟨i1, i2, i3, i4, i5⟩ := hI
      have hJv := hJ.fr i1
      have e1 : bV (fun c => !S.testBit c) val (c + 1) = if (!S.testBit c) = true ∧ bV (fun c => !S.testBit c) val c < val c then val c else bV (fun c => !S.testBit c) val c := rfl
      have e2 : bC (fun c => !S.testBit c) val (c + 1) = if (!S.testBit c) = true ∧ bV (fun c => !S.testBit c) val c < val c then c else bC (fun c => !S.testBit c) val c := rfl
      unfold qX12_joins_lv5_58
      rw [hJv.2.2.1]
      refine c_n (nI_ge hc (by omega)) ?_
      rw [bit10 (by omega) (by omega), ofI1, nI_add]
      cases hb : S.testBit c with
      | true =>
        rw [hb, if_neg (fun z => absurd z.1 (by decide))] at e1 e2
        refine c_y' rfl (ih v ⟨i1, i2, ?_⟩)
        rw [e1, e2]
        exact ⟨i3, i4, i5⟩
      | false =>
        have vc := vb' c hc hb
        rw [hb] at e1 e2
        refine c_n' (by decide) (c_in rfl (by omega) (by decide) (fun w hw' => ?_))
        have fw : Fr [(1, 43), (1, 44), (0, 45)] v w := by rw [hw']; exact Fr.tA 43 _ _ (by decide)
        have w43 : ∀ j, j < 7 → gA w 43 j = if j = i then nI c else gA v 43 j := fun j hj => by
          subst hw'
          by_cases e : j = i
          · subst e; simp (disch := omega) only [ofI1, nI_add, pk_mul, pk_sub, nI_clamp, imin_nI, imax_nI, nl_0, nl_1, nl_2, nl_3, nl_4, nl_5, nl_6, nl_7, nl_8, nl_9, nl_10, nl_11, nl_12, nl_13, nl_15, nl_16, nl_20, nl_24, nl_26, nl_30, nl_32, nl_36, nl_39, nl_40, nl_45, nl_48, nl_50, nl_57, nl_59, nl_60, nl_61, nl_62, nl_64, nl_72, nl_73, nl_80, nl_90, nl_97, nl_99, nl_100, nl_120, nl_122, nl_123, nl_127, nl_128, nl_199, nl_200, nl_255, nl_256, nl_290, nl_399, nl_400, nl_500, nl_512, nl_520, nl_600, nl_999, nl_1000, nl_2000, nl_9999, nl_10000, nl_14, nl_17, nl_18, nl_19, nl_21, nl_22, nl_23, nl_25, nl_27, nl_28, nl_29, nl_31, nl_33, nl_34, nl_35, nl_47, nl_51, nl_63, nl_110, nl_195, nl_240, nl_1370, nl_3710, nl_6030, nl_6690, nl_7490, nl_7610, nl_9170, nl_11570, gA_sF, gL_sF, gB_sF, gZ_sF, gO_sF, gX_sF, gF_sA, gL_sA, gB_sA, gZ_sA, gO_sA, gX_sA, gF_sL, gA_sL, gB_sL, gZ_sL, gO_sL, gX_sL, gF_sB, gA_sB, gL_sB, gZ_sB, gO_sB, gX_sB, gF_sZ, gA_sZ, gL_sZ, gB_sZ, gO_sZ, gX_sZ, gF_sO, gA_sO, gL_sO, gB_sO, gZ_sO, gX_sO, gF_sX, gA_sX, gL_sX, gB_sX, gZ_sX, gO_sX, gF_tA, gL_tA, gB_tA, gZ_tA, gO_tA, gX_tA, gF_tL, gA_tL, gB_tL, gZ_tL, gO_tL, gX_tL, gF_tB, gA_tB, gL_tB, gZ_tB, gO_tB, gX_tB, gF_tZ, gA_tZ, gL_tZ, gB_tZ, gO_tZ, gX_tZ, gF_sF, gA_sA, gL_sL, gB_sB, gZ_sZ, gO_sO, gX_sX, gA_tA, gL_tL, gB_tB, gZ_tZ, reduceIte, Nat.reduceEqDiff, Nat.zero_ne_one, Nat.one_ne_zero, Nat.succ_ne_self, forall_eq, vpT, cpyT, nI_leI, nI_ltI, nI_eq, nI_m1, oI_eqn, oI_eqm, va_up_ne', va_up_eq, eq_self_iff_true, true_or, or_true, true_implies, not_true_eq_false, not_false_eq_true, false_implies, and_true, true_and, forall_const, implies_true, ne_eq, Nat.add_sub_cancel, nI_pos, ite_self]
          · simp (disch := omega) only [ofI1, nI_add, pk_mul, pk_sub, nI_clamp, imin_nI, imax_nI, nl_0, nl_1, nl_2, nl_3, nl_4, nl_5, nl_6, nl_7, nl_8, nl_9, nl_10, nl_11, nl_12, nl_13, nl_15, nl_16, nl_20, nl_24, nl_26, nl_30, nl_32, nl_36, nl_39, nl_40, nl_45, nl_48, nl_50, nl_57, nl_59, nl_60, nl_61, nl_62, nl_64, nl_72, nl_73, nl_80, nl_90, nl_97, nl_99, nl_100, nl_120, nl_122, nl_123, nl_127, nl_128, nl_199, nl_200, nl_255, nl_256, nl_290, nl_399, nl_400, nl_500, nl_512, nl_520, nl_600, nl_999, nl_1000, nl_2000, nl_9999, nl_10000, nl_14, nl_17, nl_18, nl_19, nl_21, nl_22, nl_23, nl_25, nl_27, nl_28, nl_29, nl_31, nl_33, nl_34, nl_35, nl_47, nl_51, nl_63, nl_110, nl_195, nl_240, nl_1370, nl_3710, nl_6030, nl_6690, nl_7490, nl_7610, nl_9170, nl_11570, gA_sF, gL_sF, gB_sF, gZ_sF, gO_sF, gX_sF, gF_sA, gL_sA, gB_sA, gZ_sA, gO_sA, gX_sA, gF_sL, gA_sL, gB_sL, gZ_sL, gO_sL, gX_sL, gF_sB, gA_sB, gL_sB, gZ_sB, gO_sB, gX_sB, gF_sZ, gA_sZ, gL_sZ, gB_sZ, gO_sZ, gX_sZ, gF_sO, gA_sO, gL_sO, gB_sO, gZ_sO, gX_sO, gF_sX, gA_sX, gL_sX, gB_sX, gZ_sX, gO_sX, gF_tA, gL_tA, gB_tA, gZ_tA, gO_tA, gX_tA, gF_tL, gA_tL, gB_tL, gZ_tL, gO_tL, gX_tL, gF_tB, gA_tB, gL_tB, gZ_tB, gO_tB, gX_tB, gF_tZ, gA_tZ, gL_tZ, gB_tZ, gO_tZ, gX_tZ, gF_sF, gA_sA, gL_sL, gB_sB, gZ_sZ, gO_sO, gX_sX, gA_tA, gL_tL, gB_tB, gZ_tZ, reduceIte, Nat.reduceEqDiff, Nat.zero_ne_one, Nat.one_ne_zero, Nat.succ_ne_self, forall_eq, vpT, cpyT, nI_leI, nI_ltI, nI_eq, nI_m1, oI_eqn, oI_eqm, va_up_ne', va_up_eq, eq_self_iff_true, true_or, or_true, true_implies, not_true_eq_false, not_false_eq_true, false_implies, and_true, true_and, forall_const, implies_true, ne_eq, Nat.add_sub_cancel, nI_pos, ite_self]
            rw [if_neg e]
        have w44 : gA w 44 = gA v 44 := by rw [hw']; rfl
        have w45 : gF w 45 = gF v 45 := by rw [hw']; rfl
        have hJw := hJv.fr fw
        clear hw'
        have dgc := hJw.2.2.2.2 i c hi hc
        have rest : ∀ z : Int, z = bon nr l c → qX12_joins_lv5_126 Q (qX12_joins_lv5_58 Q f) w (nI i) (nI S) (Int32.ofInt sum) (nI c) (Int32.ofInt z) := fun z hz2 => by
          unfold qX12_joins_lv5_126
          rw [nl_10, pk_mul, nI_add, nI_clamp (by omega), dgc, or_nI hS10 (by omega), zi_add, zi_add, nl_1, nI_add, ofI1, nI_add]
          have hgc := hg i c hi hc
          have hbc := bon_b nr l c
          have ev2 : sum + g i c + z + jV k n g nr r (S ||| 2 ^ c) (c + 1) = sum + val c := by rw [← hval, hz2]; show _ = sum + (_ + _ + _); omega
          obtain ⟨B', hB'⟩ : ∃ B' : Int, (B < sum + bV (fun c => !S.testBit c) val c ∧ bV (fun c => !S.testBit c) val c ≠ -1000000 → B' = sum + bV (fun c => !S.testBit c) val c) ∧ (¬ (B < sum + bV (fun c => !S.testBit c) val c ∧ bV (fun c => !S.testBit c) val c ≠ -1000000) → B' = B) := by
            by_cases hq : B < sum + bV (fun c => !S.testBit c) val c ∧ bV (fun c => !S.testBit c) val c ≠ -1000000
            · exact ⟨_, fun _ => rfl, fun h => absurd hq h⟩
            · exact ⟨B, fun h => absurd h hq, fun _ => rfl⟩
          have gB : gF w 45 = Int32.ofInt B' := by
            rw [w45]
            by_cases hq : B < sum + bV (fun c => !S.testBit c) val c ∧ bV (fun c => !S.testBit c) val c ≠ -1000000
            · rw [hB'.1 hq]; exact (i4 hq).1
            · rw [hB'.2 hq]; exact (i5 hq).1
          have B1 : -1000000 ≤ B' := by
            by_cases hq : B < sum + bV (fun c => !S.testBit c) val c ∧ bV (fun c => !S.testBit c) val c ≠ -1000000
            · rw [hB'.1 hq]; omega
            · rw [hB'.2 hq]; exact hB1
          have B2 : B' ≤ 1000 := by
            by_cases hq : B < sum + bV (fun c => !S.testBit c) val c ∧ bV (fun c => !S.testBit c) val c ≠ -1000000
            · rw [hB'.1 hq]; omega
            · rw [hB'.2 hq]; exact hB2
          refine c_in rfl (by omega) (by decide) (joins_4 hw k10 n7 hnk hnr hg w (i + 1) r (S ||| 2 ^ c) (c + 1) (sum + g i c + z) B' (fun j => if j = i then c else rw j) hJw (by omega) (by omega) (or_lt hS hc) (by rw [pc_or (by omega) hb, hpc]) (fun j hj => ?_) (fun h => absurd h (by omega)) (fun _ => ?_) (by omega) (by omega) gB B1 B2 _ (fun u' fu hp1 hyes hno => ?_))
          · rw [w43 j (by omega)]
            by_cases e : j = i
            · rw [if_pos e, if_pos e]; exact ⟨rfl, hc⟩
            · rw [if_neg e, if_neg e, i2 j (by omega)]; exact hrow j (by omega)
          · show c + 1 = (if i + 1 - 1 = i then c else rw (i + 1 - 1)) + 1
            rw [if_pos (by omega)]
          · rw [ev2] at hyes hno
            refine ih u' ⟨i1.tr (fw.tr fu), fun j hj => ?_, ?_⟩
            · rw [hp1 j (by omega), w43 j (by omega), if_neg (by omega)]; exact i2 j hj
            have up : B' < sum + val c → bV (fun c => !S.testBit c) val c < val c ∧ B < sum + val c := fun h => by
              by_cases hq : B < sum + bV (fun c => !S.testBit c) val c ∧ bV (fun c => !S.testBit c) val c ≠ -1000000
              · have := hB'.1 hq; omega
              · have := hB'.2 hq
                by_cases h6 : bV (fun c => !S.testBit c) val c = -1000000
                · omega
                · have : ¬ B < sum + bV (fun c => !S.testBit c) val c := fun z => hq ⟨z, h6⟩
                  omega
            by_cases hup : B' < sum + val c
            · obtain ⟨u1, u2⟩ := up hup
              rw [if_pos ⟨rfl, u1⟩] at e1 e2
              rw [e1, e2]
              refine ⟨Or.inr vc, fun _ => ⟨(hyes hup).1, fun j hj => ?_⟩, fun h => absurd ⟨u2, by omega⟩ h⟩
              rw [(hyes hup).2 j hj]
              congr 1
              by_cases x1 : j < i
              · rw [if_pos (by omega), if_neg (by omega), if_pos x1]
              · rw [if_neg x1]
                by_cases x2 : j = i
                · rw [if_pos (by omega), if_pos x2, if_pos x2]
                · rw [if_neg (by omega), if_neg x2, show j - (i + 1) = j - i - 1 by omega]
            · have hn := hno hup
              by_cases hq : B < sum + bV (fun c => !S.testBit c) val c ∧ bV (fun c => !S.testBit c) val c ≠ -1000000
              · have hb1 := hB'.1 hq
                rw [if_neg (fun z => by omega)] at e1 e2
                rw [e1, e2]
                refine ⟨i3, fun _ => ⟨by rw [hn.1, hb1], fun j hj => ?_⟩, fun h => absurd hq h⟩
                rw [hn.2, w44]; exact (i4 hq).2 j hj
              · have hb1 := hB'.2 hq
                have nc : ¬ (B < sum + bV (fun c => !S.testBit c) val (c + 1) ∧ bV (fun c => !S.testBit c) val (c + 1) ≠ -1000000) := by
                  rw [e1]
                  split
                  · intro z; omega
                  · exact hq
                refine ⟨?_, fun h => absurd h nc, fun _ => ⟨by rw [hn.1, hb1], by rw [hn.2, w44]; exact (i5 hq).2⟩⟩
                rw [e1]
                split
                · exact Or.inr vc
                · exact i3
        by_cases e : i = 0
        · refine c_le (b := 0) rfl rfl (by omega) (by omega) (fun _ => ?_) (fun h => absurd e (by omega))
          unfold qX12_joins_lv5_125
          exact rest 0 (by unfold bon; rw [if_pos (hl0 e)])
        · refine c_le (b := 0) rfl rfl (by omega) (by omega) (fun h => absurd e (by omega)) (fun _ => ?_)
          have hri := hrow (i - 1) (by omega)
          have pw := hJw.2.2.2.1 (rw (i - 1)) hri.2
          have pc1 := hJw.2.2.2.1 c hc
          have hbn : bon nr l c = if nearB A (pp (rw (i - 1))) (pp c) 30 = true then 3 else 0 := by
            unfold bon
            rw [hl1 (by omega), if_neg (by omega), Nat.add_sub_cancel, hnr]
          rw [nl_1, pk_sub (by omega), nI_clamp (by omega), w43 (i - 1) (by omega), if_neg (by omega), i2 (i - 1) (by omega), hri.1, nI_clamp (by omega), nI_clamp (by omega), pw.1, pc1.1, nl_30]
          refine c_in rfl (by omega) (by decide) (c_in rfl (by omega) (by decide) (c_in rfl (by omega) (by decide) ?_))
          refine M_isNear hw hJw.1 pw.2 pc1.2 (by decide) ?_
          cases hnb : nearB A (pp (rw (i - 1))) (pp c) 30 with
          | true =>
            rw [hnb, if_pos rfl] at hbn
            exact b_1' (rest 3 hbn.symm)
          | false =>
            rw [hnb, if_neg (by decide)] at hbn
            refine b_0' ?_
            unfold qX12_joins_lv5_125
            exact rest 0 hbn.symm
theorem joins_6 {A : Nat → Nat → Nat} {ca k n : Nat} {pp : Nat → Nat} {g : Nat → Nat → Int} {nr : Nat → Nat → Bool} (hw : Wf A ca) (k10 : k ≤ 10) (n7 : n ≤ 7) (hnk : n ≤ k) (hnr : ∀ a b, nr a b = nearB A (pp a) (pp b) 30) (hg : ∀ i c, i < n → c < k → -60 ≤ g i c ∧ g i c ≤ 20) : JSp qX12_joins_lv6 6 A k n pp g nr := by
  intro u i r S l sum B rw hJ hir hrL hS hpc hrow hl0 hl1 hs1 hs2 hB hB1 hB2 Q hQ
  by_cases hz : i = n
  · have hr0 : r = 0 := by omega
    subst hr0
    have hin : i = n := by omega
    subst hin
    have jz : jV k i g nr 0 S l = 0 := rfl
    rw [jz, Int.add_zero] at hQ
    unfold qX12_joins_lv6
    rw [hJ.2.1, hB]
    refine c_y' rfl ?_
    by_cases hlt : B < sum
    · refine c_y ((zi_lt (by omega) (by omega) (by omega) (by omega)).2 hlt) (fun w19 hw19 => ?_)
      subst hw19
      have f19 : Fr [(1, 43), (1, 44), (0, 45)] u (sF u 45 (Int32.ofInt sum)) := Fr.sF 45 _ (by decide)
      refine pk_loop (fun f j v => qX12_joins_lv6_25 Q f v (nI j)) (fun j v => Fr [(1, 43), (1, 44), (0, 45)] u v ∧ gA v 43 = gA u 43 ∧ gF v 45 = Int32.ofInt sum ∧ ∀ t, t < j → gA v 44 t = nI (rw t)) i 0 _ (Nat.zero_le _) ⟨f19, rfl, by simp (disch := omega) only [ofI1, nI_add, pk_mul, pk_sub, nI_clamp, imin_nI, imax_nI, nl_0, nl_1, nl_2, nl_3, nl_4, nl_5, nl_6, nl_7, nl_8, nl_9, nl_10, nl_11, nl_12, nl_13, nl_15, nl_16, nl_20, nl_24, nl_26, nl_30, nl_32, nl_36, nl_39, nl_40, nl_45, nl_48, nl_50, nl_57, nl_59, nl_60, nl_61, nl_62, nl_64, nl_72, nl_73, nl_80, nl_90, nl_97, nl_99, nl_100, nl_120, nl_122, nl_123, nl_127, nl_128, nl_199, nl_200, nl_255, nl_256, nl_290, nl_399, nl_400, nl_500, nl_512, nl_520, nl_600, nl_999, nl_1000, nl_2000, nl_9999, nl_10000, nl_14, nl_17, nl_18, nl_19, nl_21, nl_22, nl_23, nl_25, nl_27, nl_28, nl_29, nl_31, nl_33, nl_34, nl_35, nl_47, nl_51, nl_63, nl_110, nl_195, nl_240, nl_1370, nl_3710, nl_6030, nl_6690, nl_7490, nl_7610, nl_9170, nl_11570, gA_sF, gL_sF, gB_sF, gZ_sF, gO_sF, gX_sF, gF_sA, gL_sA, gB_sA, gZ_sA, gO_sA, gX_sA, gF_sL, gA_sL, gB_sL, gZ_sL, gO_sL, gX_sL, gF_sB, gA_sB, gL_sB, gZ_sB, gO_sB, gX_sB, gF_sZ, gA_sZ, gL_sZ, gB_sZ, gO_sZ, gX_sZ, gF_sO, gA_sO, gL_sO, gB_sO, gZ_sO, gX_sO, gF_sX, gA_sX, gL_sX, gB_sX, gZ_sX, gO_sX, gF_tA, gL_tA, gB_tA, gZ_tA, gO_tA, gX_tA, gF_tL, gA_tL, gB_tL, gZ_tL, gO_tL, gX_tL, gF_tB, gA_tB, gL_tB, gZ_tB, gO_tB, gX_tB, gF_tZ, gA_tZ, gL_tZ, gB_tZ, gO_tZ, gX_tZ, gF_sF, gA_sA, gL_sL, gB_sB, gZ_sZ, gO_sO, gX_sX, gA_tA, gL_tL, gB_tB, gZ_tZ, reduceIte, Nat.reduceEqDiff, Nat.zero_ne_one, Nat.one_ne_zero, Nat.succ_ne_self, forall_eq, vpT, cpyT, nI_leI, nI_ltI, nI_eq, nI_m1, oI_eqn, oI_eqm, va_up_ne', va_up_eq, eq_self_iff_true, true_or, or_true, true_implies, not_true_eq_false, not_false_eq_true, false_implies, and_true, true_and, forall_const, implies_true, ne_eq, Nat.add_sub_cancel, nI_pos, ite_self], fun t ht => by omega⟩ (fun f v hI => ?_) (fun f j v hj hI ih => ?_)
      · obtain ⟨i1, i2, i3, i4⟩ := hI
        unfold qX12_joins_lv6_25
        rw [show gF v 37 = nI i from (i1.1 37 (by decide)).trans hJ.2.1]
        refine c_y (nI_le (Nat.le_refl _) (by omega)) (hQ v i1 (fun j _ => by rw [i2]) (fun _ => ⟨i3, fun j hj => ?_⟩) (fun h => absurd hlt h))
        rw [if_pos hj]; exact i4 j hj
      · obtain ⟨i1, i2, i3, i4⟩ := hI
        have hrj := hrow j hj
        unfold qX12_joins_lv6_25
        rw [show gF v 37 = nI i from (i1.1 37 (by decide)).trans hJ.2.1, nI_clamp (by omega), i2, hrj.1, ofI1, nI_add]
        refine c_n (nI_ge hj (by omega)) (c_in rfl (by omega) (by decide) (c_in rfl (by omega) (by decide) (fun w hw' => ?_)))
        subst hw'
        refine ih _ ⟨i1.tr (Fr.tA 44 _ _ (by decide)), i2, i3, fun t ht => ?_⟩
        by_cases e : t = j
        · subst e; simp (disch := omega) only [ofI1, nI_add, pk_mul, pk_sub, nI_clamp, imin_nI, imax_nI, nl_0, nl_1, nl_2, nl_3, nl_4, nl_5, nl_6, nl_7, nl_8, nl_9, nl_10, nl_11, nl_12, nl_13, nl_15, nl_16, nl_20, nl_24, nl_26, nl_30, nl_32, nl_36, nl_39, nl_40, nl_45, nl_48, nl_50, nl_57, nl_59, nl_60, nl_61, nl_62, nl_64, nl_72, nl_73, nl_80, nl_90, nl_97, nl_99, nl_100, nl_120, nl_122, nl_123, nl_127, nl_128, nl_199, nl_200, nl_255, nl_256, nl_290, nl_399, nl_400, nl_500, nl_512, nl_520, nl_600, nl_999, nl_1000, nl_2000, nl_9999, nl_10000, nl_14, nl_17, nl_18, nl_19, nl_21, nl_22, nl_23, nl_25, nl_27, nl_28, nl_29, nl_31, nl_33, nl_34, nl_35, nl_47, nl_51, nl_63, nl_110, nl_195, nl_240, nl_1370, nl_3710, nl_6030, nl_6690, nl_7490, nl_7610, nl_9170, nl_11570, gA_sF, gL_sF, gB_sF, gZ_sF, gO_sF, gX_sF, gF_sA, gL_sA, gB_sA, gZ_sA, gO_sA, gX_sA, gF_sL, gA_sL, gB_sL, gZ_sL, gO_sL, gX_sL, gF_sB, gA_sB, gL_sB, gZ_sB, gO_sB, gX_sB, gF_sZ, gA_sZ, gL_sZ, gB_sZ, gO_sZ, gX_sZ, gF_sO, gA_sO, gL_sO, gB_sO, gZ_sO, gX_sO, gF_sX, gA_sX, gL_sX, gB_sX, gZ_sX, gO_sX, gF_tA, gL_tA, gB_tA, gZ_tA, gO_tA, gX_tA, gF_tL, gA_tL, gB_tL, gZ_tL, gO_tL, gX_tL, gF_tB, gA_tB, gL_tB, gZ_tB, gO_tB, gX_tB, gF_tZ, gA_tZ, gL_tZ, gB_tZ, gO_tZ, gX_tZ, gF_sF, gA_sA, gL_sL, gB_sB, gZ_sZ, gO_sO, gX_sX, gA_tA, gL_tL, gB_tB, gZ_tZ, reduceIte, Nat.reduceEqDiff, Nat.zero_ne_one, Nat.one_ne_zero, Nat.succ_ne_self, forall_eq, vpT, cpyT, nI_leI, nI_ltI, nI_eq, nI_m1, oI_eqn, oI_eqm, va_up_ne', va_up_eq, eq_self_iff_true, true_or, or_true, true_implies, not_true_eq_false, not_false_eq_true, false_implies, and_true, true_and, forall_const, implies_true, ne_eq, Nat.add_sub_cancel, nI_pos, ite_self]
        · have := i4 t (by omega)
          simp (disch := omega) only [this, ofI1, nI_add, pk_mul, pk_sub, nI_clamp, imin_nI, imax_nI, nl_0, nl_1, nl_2, nl_3, nl_4, nl_5, nl_6, nl_7, nl_8, nl_9, nl_10, nl_11, nl_12, nl_13, nl_15, nl_16, nl_20, nl_24, nl_26, nl_30, nl_32, nl_36, nl_39, nl_40, nl_45, nl_48, nl_50, nl_57, nl_59, nl_60, nl_61, nl_62, nl_64, nl_72, nl_73, nl_80, nl_90, nl_97, nl_99, nl_100, nl_120, nl_122, nl_123, nl_127, nl_128, nl_199, nl_200, nl_255, nl_256, nl_290, nl_399, nl_400, nl_500, nl_512, nl_520, nl_600, nl_999, nl_1000, nl_2000, nl_9999, nl_10000, nl_14, nl_17, nl_18, nl_19, nl_21, nl_22, nl_23, nl_25, nl_27, nl_28, nl_29, nl_31, nl_33, nl_34, nl_35, nl_47, nl_51, nl_63, nl_110, nl_195, nl_240, nl_1370, nl_3710, nl_6030, nl_6690, nl_7490, nl_7610, nl_9170, nl_11570, gA_sF, gL_sF, gB_sF, gZ_sF, gO_sF, gX_sF, gF_sA, gL_sA, gB_sA, gZ_sA, gO_sA, gX_sA, gF_sL, gA_sL, gB_sL, gZ_sL, gO_sL, gX_sL, gF_sB, gA_sB, gL_sB, gZ_sB, gO_sB, gX_sB, gF_sZ, gA_sZ, gL_sZ, gB_sZ, gO_sZ, gX_sZ, gF_sO, gA_sO, gL_sO, gB_sO, gZ_sO, gX_sO, gF_sX, gA_sX, gL_sX, gB_sX, gZ_sX, gO_sX, gF_tA, gL_tA, gB_tA, gZ_tA, gO_tA, gX_tA, gF_tL, gA_tL, gB_tL, gZ_tL, gO_tL, gX_tL, gF_tB, gA_tB, gL_tB, gZ_tB, gO_tB, gX_tB, gF_tZ, gA_tZ, gL_tZ, gB_tZ, gO_tZ, gX_tZ, gF_sF, gA_sA, gL_sL, gB_sB, gZ_sZ, gO_sO, gX_sX, gA_tA, gL_tL, gB_tB, gZ_tZ, reduceIte, Nat.reduceEqDiff, Nat.zero_ne_one, Nat.one_ne_zero, Nat.succ_ne_self, forall_eq, vpT, cpyT, nI_leI, nI_ltI, nI_eq, nI_m1, oI_eqn, oI_eqm, va_up_ne', va_up_eq, eq_self_iff_true, true_or, or_true, true_implies, not_true_eq_false, not_false_eq_true, false_implies, and_true, true_and, forall_const, implies_true, ne_eq, Nat.add_sub_cancel, nI_pos, ite_self]
    · refine c_n (fun z => hlt ((zi_lt (by omega) (by omega) (by omega) (by omega)).1 z)) (hQ u Fr.rf (fun _ _ => rfl) (fun h => absurd h hlt) (fun _ => ⟨hB, rfl⟩))
  · obtain ⟨r, rfl⟩ : ∃ r', r = r' + 1 := ⟨r - 1, by omega⟩
    have hi : i < n := by omega
    have hS10 := lt10 k10 hS
    have hl : l ≤ k := by
      by_cases e : i = 0
      · rw [hl0 e]; omega
      · have := (hrow (i - 1) (by omega)).2
        rw [hl1 (by omega)]; omega
    have hr3 : n - (r + 1) = i := by omega
    obtain ⟨c1, -, -, -⟩ := jC_is (nr := nr) (l := l) (S := S) (r := r) k10 n7 hg (by omega) (by omega)
    have jb := jV_b (nr := nr) k10 hg (r + 1) S l (by omega) (by omega)
    have ev : jV k n g nr (r + 1) S l = bV (fun c => !S.testBit c) (fun c => g i c + bon nr l c + jV k n g nr r (S ||| 2 ^ c) (c + 1)) k := by
      show bV _ (fun c => g (n - (r + 1)) c + _ + _) k = _
      rw [hr3]
    have ec : jC k n g nr r S l = bC (fun c => !S.testBit c) (fun c => g i c + bon nr l c + jV k n g nr r (S ||| 2 ^ c) (c + 1)) k := by
      unfold jC; rw [hr3]
    have vb : ∀ c, c < k → S.testBit c = false → -1000 ≤ g i c + bon nr l c + jV k n g nr r (S ||| 2 ^ c) (c + 1) ∧ g i c + bon nr l c + jV k n g nr r (S ||| 2 ^ c) (c + 1) ≤ 600 := fun c hc hf => by
      have h1 := hg i c hi hc
      have h2 := bon_b nr l c
      have h3 := jV_b (nr := nr) k10 hg r (S ||| 2 ^ c) (c + 1) (by omega) (by rw [pc_or (by omega) hf]; omega)
      omega
    generalize hval : (fun c => g i c + bon nr l c + jV k n g nr r (S ||| 2 ^ c) (c + 1)) = val at ev ec
    have vb' : ∀ c, c < k → S.testBit c = false → -1000 ≤ val c ∧ val c ≤ 600 := fun c hc hf => by rw [← hval]; exact vb c hc hf
    unfold qX12_joins_lv6
    rw [hJ.2.1]
    refine c_n' (fun z => hz ((nI_eq (by omega) (by omega)).1 z)) ?_
    refine pk_loop (fun f c v => qX12_joins_lv6_58 Q f v (nI i) (nI S) (Int32.ofInt sum) (nI c)) (fun c v => Fr [(1, 43), (1, 44), (0, 45)] u v ∧ (∀ j, j < i → gA v 43 j = gA u 43 j) ∧ (bV (fun c => !S.testBit c) val c = -1000000 ∨ (-1000 ≤ bV (fun c => !S.testBit c) val c ∧ bV (fun c => !S.testBit c) val c ≤ 600)) ∧
      (B < sum + bV (fun c => !S.testBit c) val c ∧ bV (fun c => !S.testBit c) val c ≠ -1000000 → gF v 45 = Int32.ofInt (sum + bV (fun c => !S.testBit c) val c) ∧ ∀ j, j < n → gA v 44 j = nI (if j < i then rw j else if j = i then bC (fun c => !S.testBit c) val c else jR k n g nr r (S ||| 2 ^ bC (fun c => !S.testBit c) val c) (bC (fun c => !S.testBit c) val c + 1) (j - i - 1))) ∧
      (¬ (B < sum + bV (fun c => !S.testBit c) val c ∧ bV (fun c => !S.testBit c) val c ≠ -1000000) → gF v 45 = Int32.ofInt B ∧ gA v 44 = gA u 44)) k 0 u (Nat.zero_le _) ⟨Fr.rf, fun _ _ => rfl, Or.inl rfl, fun h => absurd rfl h.2, fun _ => ⟨hB, rfl⟩⟩ (fun f v hI => ?_) (fun f c v hc hI ih => ?_)
    · obtain ⟨i1, i2, i3, i4, i5⟩ := hI
      unfold qX12_joins_lv6_58
      rw [show gF v 40 = nI k from (i1.1 40 (by decide)).trans hJ.2.2.1]
      refine c_y (nI_le (Nat.le_refl _) (by omega)) (hQ v i1 i2 (fun h => ?_) (fun h => ?_))
      · rw [ev] at h ⊢
        obtain ⟨q1, q2⟩ := i4 ⟨h, by omega⟩
        refine ⟨q1, fun j hj => ?_⟩
        rw [q2 j hj]
        congr 1
        by_cases e : j < i
        · rw [if_pos e, if_pos e]
        · rw [if_neg e, if_neg e]
          by_cases e2 : j = i
          · rw [if_pos e2, e2, Nat.sub_self, jR_0, ec]
          · rw [if_neg e2]
            obtain ⟨t, ht⟩ : ∃ t, j - i = t + 1 := ⟨j - i - 1, by omega⟩
            rw [ht, jR_s, ec, Nat.add_sub_cancel]
      · rw [ev] at h
        exact i5 (fun z => h z.1)
    · obtain ⟨i1, i2, i3, i4, i5⟩ := hI
      have hJv := hJ.fr i1
      have e1 : bV (fun c => !S.testBit c) val (c + 1) = if (!S.testBit c) = true ∧ bV (fun c => !S.testBit c) val c < val c then val c else bV (fun c => !S.testBit c) val c := rfl
      have e2 : bC (fun c => !S.testBit c) val (c + 1) = if (!S.testBit c) = true ∧ bV (fun c => !S.testBit c) val c < val c then c else bC (fun c => !S.testBit c) val c := rfl
      unfold qX12_joins_lv6_58
      rw [hJv.2.2.1]
      refine c_n (nI_ge hc (by omega)) ?_
      rw [bit10 (by omega) (by omega), ofI1, nI_add]
      cases hb : S.testBit c with
      | true =>
        rw [hb, if_neg (fun z => absurd z.1 (by decide))] at e1 e2
        refine c_y' rfl (ih v ⟨i1, i2, ?_⟩)
        rw [e1, e2]
        exact ⟨i3, i4, i5⟩
      | false =>
        have vc := vb' c hc hb
        rw [hb] at e1 e2
        refine c_n' (by decide) (c_in rfl (by omega) (by decide) (fun w hw' => ?_))
        have fw : Fr [(1, 43), (1, 44), (0, 45)] v w := by rw [hw']; exact Fr.tA 43 _ _ (by decide)
        have w43 : ∀ j, j < 7 → gA w 43 j = if j = i then nI c else gA v 43 j := fun j hj => by
          subst hw'
          by_cases e : j = i
          · subst e; simp (disch := omega) only [ofI1, nI_add, pk_mul, pk_sub, nI_clamp, imin_nI, imax_nI, nl_0, nl_1, nl_2, nl_3, nl_4, nl_5, nl_6, nl_7, nl_8, nl_9, nl_10, nl_11, nl_12, nl_13, nl_15, nl_16, nl_20, nl_24, nl_26, nl_30, nl_32, nl_36, nl_39, nl_40, nl_45, nl_48, nl_50, nl_57, nl_59, nl_60, nl_61, nl_62, nl_64, nl_72, nl_73, nl_80, nl_90, nl_97, nl_99, nl_100, nl_120, nl_122, nl_123, nl_127, nl_128, nl_199, nl_200, nl_255, nl_256, nl_290, nl_399, nl_400, nl_500, nl_512, nl_520, nl_600, nl_999, nl_1000, nl_2000, nl_9999, nl_10000, nl_14, nl_17, nl_18, nl_19, nl_21, nl_22, nl_23, nl_25, nl_27, nl_28, nl_29, nl_31, nl_33, nl_34, nl_35, nl_47, nl_51, nl_63, nl_110, nl_195, nl_240, nl_1370, nl_3710, nl_6030, nl_6690, nl_7490, nl_7610, nl_9170, nl_11570, gA_sF, gL_sF, gB_sF, gZ_sF, gO_sF, gX_sF, gF_sA, gL_sA, gB_sA, gZ_sA, gO_sA, gX_sA, gF_sL, gA_sL, gB_sL, gZ_sL, gO_sL, gX_sL, gF_sB, gA_sB, gL_sB, gZ_sB, gO_sB, gX_sB, gF_sZ, gA_sZ, gL_sZ, gB_sZ, gO_sZ, gX_sZ, gF_sO, gA_sO, gL_sO, gB_sO, gZ_sO, gX_sO, gF_sX, gA_sX, gL_sX, gB_sX, gZ_sX, gO_sX, gF_tA, gL_tA, gB_tA, gZ_tA, gO_tA, gX_tA, gF_tL, gA_tL, gB_tL, gZ_tL, gO_tL, gX_tL, gF_tB, gA_tB, gL_tB, gZ_tB, gO_tB, gX_tB, gF_tZ, gA_tZ, gL_tZ, gB_tZ, gO_tZ, gX_tZ, gF_sF, gA_sA, gL_sL, gB_sB, gZ_sZ, gO_sO, gX_sX, gA_tA, gL_tL, gB_tB, gZ_tZ, reduceIte, Nat.reduceEqDiff, Nat.zero_ne_one, Nat.one_ne_zero, Nat.succ_ne_self, forall_eq, vpT, cpyT, nI_leI, nI_ltI, nI_eq, nI_m1, oI_eqn, oI_eqm, va_up_ne', va_up_eq, eq_self_iff_true, true_or, or_true, true_implies, not_true_eq_false, not_false_eq_true, false_implies, and_true, true_and, forall_const, implies_true, ne_eq, Nat.add_sub_cancel, nI_pos, ite_self]
          · simp (disch := omega) only [ofI1, nI_add, pk_mul, pk_sub, nI_clamp, imin_nI, imax_nI, nl_0, nl_1, nl_2, nl_3, nl_4, nl_5, nl_6, nl_7, nl_8, nl_9, nl_10, nl_11, nl_12, nl_13, nl_15, nl_16, nl_20, nl_24, nl_26, nl_30, nl_32, nl_36, nl_39, nl_40, nl_45, nl_48, nl_50, nl_57, nl_59, nl_60, nl_61, nl_62, nl_64, nl_72, nl_73, nl_80, nl_90, nl_97, nl_99, nl_100, nl_120, nl_122, nl_123, nl_127, nl_128, nl_199, nl_200, nl_255, nl_256, nl_290, nl_399, nl_400, nl_500, nl_512, nl_520, nl_600, nl_999, nl_1000, nl_2000, nl_9999, nl_10000, nl_14, nl_17, nl_18, nl_19, nl_21, nl_22, nl_23, nl_25, nl_27, nl_28, nl_29, nl_31, nl_33, nl_34, nl_35, nl_47, nl_51, nl_63, nl_110, nl_195, nl_240, nl_1370, nl_3710, nl_6030, nl_6690, nl_7490, nl_7610, nl_9170, nl_11570, gA_sF, gL_sF, gB_sF, gZ_sF, gO_sF, gX_sF, gF_sA, gL_sA, gB_sA, gZ_sA, gO_sA, gX_sA, gF_sL, gA_sL, gB_sL, gZ_sL, gO_sL, gX_sL, gF_sB, gA_sB, gL_sB, gZ_sB, gO_sB, gX_sB, gF_sZ, gA_sZ, gL_sZ, gB_sZ, gO_sZ, gX_sZ, gF_sO, gA_sO, gL_sO, gB_sO, gZ_sO, gX_sO, gF_sX, gA_sX, gL_sX, gB_sX, gZ_sX, gO_sX, gF_tA, gL_tA, gB_tA, gZ_tA, gO_tA, gX_tA, gF_tL, gA_tL, gB_tL, gZ_tL, gO_tL, gX_tL, gF_tB, gA_tB, gL_tB, gZ_tB, gO_tB, gX_tB, gF_tZ, gA_tZ, gL_tZ, gB_tZ, gO_tZ, gX_tZ, gF_sF, gA_sA, gL_sL, gB_sB, gZ_sZ, gO_sO, gX_sX, gA_tA, gL_tL, gB_tB, gZ_tZ, reduceIte, Nat.reduceEqDiff, Nat.zero_ne_one, Nat.one_ne_zero, Nat.succ_ne_self, forall_eq, vpT, cpyT, nI_leI, nI_ltI, nI_eq, nI_m1, oI_eqn, oI_eqm, va_up_ne', va_up_eq, eq_self_iff_true, true_or, or_true, true_implies, not_true_eq_false, not_false_eq_true, false_implies, and_true, true_and, forall_const, implies_true, ne_eq, Nat.add_sub_cancel, nI_pos, ite_self]
            rw [if_neg e]
        have w44 : gA w 44 = gA v 44 := by rw [hw']; rfl
        have w45 : gF w 45 = gF v 45 := by rw [hw']; rfl
        have hJw := hJv.fr fw
        clear hw'
        have dgc := hJw.2.2.2.2 i c hi hc
        have rest : ∀ z : Int, z = bon nr l c → qX12_joins_lv6_126 Q (qX12_joins_lv6_58 Q f) w (nI i) (nI S) (Int32.ofInt sum) (nI c) (Int32.ofInt z) := fun z hz2 => by
          unfold qX12_joins_lv6_126
          rw [nl_10, pk_mul, nI_add, nI_clamp (by omega), dgc, or_nI hS10 (by omega), zi_add, zi_add, nl_1, nI_add, ofI1, nI_add]
          have hgc := hg i c hi hc
          have hbc := bon_b nr l c
          have ev2 : sum + g i c + z + jV k n g nr r (S ||| 2 ^ c) (c + 1) = sum + val c := by rw [← hval, hz2]; show _ = sum + (_ + _ + _); omega
          obtain ⟨B', hB'⟩ : ∃ B' : Int, (B < sum + bV (fun c => !S.testBit c) val c ∧ bV (fun c => !S.testBit c) val c ≠ -1000000 → B' = sum + bV (fun c => !S.testBit c) val c) ∧ (¬ (B < sum + bV (fun c => !S.testBit c) val c ∧ bV (fun c => !S.testBit c) val c ≠ -1000000) → B' = B) := by
            by_cases hq : B < sum + bV (fun c => !S.testBit c) val c ∧ bV (fun c => !S.testBit c) val c ≠ -1000000
            · exact ⟨_, fun _ => rfl, fun h => absurd hq h⟩
            · exact ⟨B, fun h => absurd h hq, fun _ => rfl⟩
          have gB : gF w 45 = Int32.ofInt B' := by
            rw [w45]
            by_cases hq : B < sum + bV (fun c => !S.testBit c) val c ∧ bV (fun c => !S.testBit c) val c ≠ -1000000
            · rw [hB'.1 hq]; exact (i4 hq).1
            · rw [hB'.2 hq]; exact (i5 hq).1
          have B1 : -1000000 ≤ B' := by
            by_cases hq : B < sum + bV (fun c => !S.testBit c) val c ∧ bV (fun c => !S.testBit c) val c ≠ -1000000
            · rw [hB'.1 hq]; omega
            · rw [hB'.2 hq]; exact hB1
          have B2 : B' ≤ 1000 := by
            by_cases hq : B < sum + bV (fun c => !S.testBit c) val c ∧ bV (fun c => !S.testBit c) val c ≠ -1000000
            · rw [hB'.1 hq]; omega
            · rw [hB'.2 hq]; exact hB2
          refine c_in rfl (by omega) (by decide) (joins_5 hw k10 n7 hnk hnr hg w (i + 1) r (S ||| 2 ^ c) (c + 1) (sum + g i c + z) B' (fun j => if j = i then c else rw j) hJw (by omega) (by omega) (or_lt hS hc) (by rw [pc_or (by omega) hb, hpc]) (fun j hj => ?_) (fun h => absurd h (by omega)) (fun _ => ?_) (by omega) (by omega) gB B1 B2 _ (fun u' fu hp1 hyes hno => ?_))
          · rw [w43 j (by omega)]
            by_cases e : j = i
            · rw [if_pos e, if_pos e]; exact ⟨rfl, hc⟩
            · rw [if_neg e, if_neg e, i2 j (by omega)]; exact hrow j (by omega)
          · show c + 1 = (if i + 1 - 1 = i then c else rw (i + 1 - 1)) + 1
            rw [if_pos (by omega)]
          · rw [ev2] at hyes hno
            refine ih u' ⟨i1.tr (fw.tr fu), fun j hj => ?_, ?_⟩
            · rw [hp1 j (by omega), w43 j (by omega), if_neg (by omega)]; exact i2 j hj
            have up : B' < sum + val c → bV (fun c => !S.testBit c) val c < val c ∧ B < sum + val c := fun h => by
              by_cases hq : B < sum + bV (fun c => !S.testBit c) val c ∧ bV (fun c => !S.testBit c) val c ≠ -1000000
              · have := hB'.1 hq; omega
              · have := hB'.2 hq
                by_cases h6 : bV (fun c => !S.testBit c) val c = -1000000
                · omega
                · have : ¬ B < sum + bV (fun c => !S.testBit c) val c := fun z => hq ⟨z, h6⟩
                  omega
            by_cases hup : B' < sum + val c
            · obtain ⟨u1, u2⟩ := up hup
              rw [if_pos ⟨rfl, u1⟩] at e1 e2
              rw [e1, e2]
              refine ⟨Or.inr vc, fun _ => ⟨(hyes hup).1, fun j hj => ?_⟩, fun h => absurd ⟨u2, by omega⟩ h⟩
              rw [(hyes hup).2 j hj]
              congr 1
              by_cases x1 : j < i
              · rw [if_pos (by omega), if_neg (by omega), if_pos x1]
              · rw [if_neg x1]
                by_cases x2 : j = i
                · rw [if_pos (by omega), if_pos x2, if_pos x2]
                · rw [if_neg (by omega), if_neg x2, show j - (i + 1) = j - i - 1 by omega]
            · have hn := hno hup
              by_cases hq : B < sum + bV (fun c => !S.testBit c) val c ∧ bV (fun c => !S.testBit c) val c ≠ -1000000
              · have hb1 := hB'.1 hq
                rw [if_neg (fun z => by omega)] at e1 e2
                rw [e1, e2]
                refine ⟨i3, fun _ => ⟨by rw [hn.1, hb1], fun j hj => ?_⟩, fun h => absurd hq h⟩
                rw [hn.2, w44]; exact (i4 hq).2 j hj
              · have hb1 := hB'.2 hq
                have nc : ¬ (B < sum + bV (fun c => !S.testBit c) val (c + 1) ∧ bV (fun c => !S.testBit c) val (c + 1) ≠ -1000000) := by
                  rw [e1]
                  split
                  · intro z; omega
                  · exact hq
                refine ⟨?_, fun h => absurd h nc, fun _ => ⟨by rw [hn.1, hb1], by rw [hn.2, w44]; exact (i5 hq).2⟩⟩
                rw [e1]
                split
                · exact Or.inr vc
                · exact i3
        by_cases e : i = 0
        · refine c_le (b := 0) rfl rfl (by omega) (by omega) (fun _ => ?_) (fun h => absurd e (by omega))
          unfold qX12_joins_lv6_125
          exact rest 0 (by unfold bon; rw [if_pos (hl0 e)])
        · refine c_le (b := 0) rfl rfl (by omega) (by omega) (fun h => absurd e (by omega)) (fun _ => ?_)
          have hri := hrow (i - 1) (by omega)
          have pw := hJw.2.2.2.1 (rw (i - 1)) hri.2
          have pc1 := hJw.2.2.2.1 c hc
          have hbn : bon nr l c = if nearB A (pp (rw (i - 1))) (pp c) 30 = true then 3 else 0 := by
            unfold bon
            rw [hl1 (by omega), if_neg (by omega), Nat.add_sub_cancel, hnr]
          rw [nl_1, pk_sub (by omega), nI_clamp (by omega), w43 (i - 1) (by omega), if_neg (by omega), i2 (i - 1) (by omega), hri.1, nI_clamp (by omega), nI_clamp (by omega), pw.1, pc1.1, nl_30]
          refine c_in rfl (by omega) (by decide) (c_in rfl (by omega) (by decide) (c_in rfl (by omega) (by decide) ?_))
          refine M_isNear hw hJw.1 pw.2 pc1.2 (by decide) ?_
          cases hnb : nearB A (pp (rw (i - 1))) (pp c) 30 with
          | true =>
            rw [hnb, if_pos rfl] at hbn
            exact b_1' (rest 3 hbn.symm)
          | false =>
            rw [hnb, if_neg (by decide)] at hbn
            refine b_0' ?_
            unfold qX12_joins_lv6_125
            exact rest 0 hbn.symm
theorem joins_7 {A : Nat → Nat → Nat} {ca k n : Nat} {pp : Nat → Nat} {g : Nat → Nat → Int} {nr : Nat → Nat → Bool} (hw : Wf A ca) (k10 : k ≤ 10) (n7 : n ≤ 7) (hnk : n ≤ k) (hnr : ∀ a b, nr a b = nearB A (pp a) (pp b) 30) (hg : ∀ i c, i < n → c < k → -60 ≤ g i c ∧ g i c ≤ 20) : JSp qX12_joins_lv7 7 A k n pp g nr := by
  intro u i r S l sum B rw hJ hir hrL hS hpc hrow hl0 hl1 hs1 hs2 hB hB1 hB2 Q hQ
  by_cases hz : i = n
  · have hr0 : r = 0 := by omega
    subst hr0
    have hin : i = n := by omega
    subst hin
    have jz : jV k i g nr 0 S l = 0 := rfl
    rw [jz, Int.add_zero] at hQ
    unfold qX12_joins_lv7
    rw [hJ.2.1, hB]
    refine c_y' rfl ?_
    by_cases hlt : B < sum
    · refine c_y ((zi_lt (by omega) (by omega) (by omega) (by omega)).2 hlt) (fun w19 hw19 => ?_)
      subst hw19
      have f19 : Fr [(1, 43), (1, 44), (0, 45)] u (sF u 45 (Int32.ofInt sum)) := Fr.sF 45 _ (by decide)
      refine pk_loop (fun f j v => qX12_joins_lv7_25 Q f v (nI j)) (fun j v => Fr [(1, 43), (1, 44), (0, 45)] u v ∧ gA v 43 = gA u 43 ∧ gF v 45 = Int32.ofInt sum ∧ ∀ t, t < j → gA v 44 t = nI (rw t)) i 0 _ (Nat.zero_le _) ⟨f19, rfl, by simp (disch := omega) only [ofI1, nI_add, pk_mul, pk_sub, nI_clamp, imin_nI, imax_nI, nl_0, nl_1, nl_2, nl_3, nl_4, nl_5, nl_6, nl_7, nl_8, nl_9, nl_10, nl_11, nl_12, nl_13, nl_15, nl_16, nl_20, nl_24, nl_26, nl_30, nl_32, nl_36, nl_39, nl_40, nl_45, nl_48, nl_50, nl_57, nl_59, nl_60, nl_61, nl_62, nl_64, nl_72, nl_73, nl_80, nl_90, nl_97, nl_99, nl_100, nl_120, nl_122, nl_123, nl_127, nl_128, nl_199, nl_200, nl_255, nl_256, nl_290, nl_399, nl_400, nl_500, nl_512, nl_520, nl_600, nl_999, nl_1000, nl_2000, nl_9999, nl_10000, nl_14, nl_17, nl_18, nl_19, nl_21, nl_22, nl_23, nl_25, nl_27, nl_28, nl_29, nl_31, nl_33, nl_34, nl_35, nl_47, nl_51, nl_63, nl_110, nl_195, nl_240, nl_1370, nl_3710, nl_6030, nl_6690, nl_7490, nl_7610, nl_9170, nl_11570, gA_sF, gL_sF, gB_sF, gZ_sF, gO_sF, gX_sF, gF_sA, gL_sA, gB_sA, gZ_sA, gO_sA, gX_sA, gF_sL, gA_sL, gB_sL, gZ_sL, gO_sL, gX_sL, gF_sB, gA_sB, gL_sB, gZ_sB, gO_sB, gX_sB, gF_sZ, gA_sZ, gL_sZ, gB_sZ, gO_sZ, gX_sZ, gF_sO, gA_sO, gL_sO, gB_sO, gZ_sO, gX_sO, gF_sX, gA_sX, gL_sX, gB_sX, gZ_sX, gO_sX, gF_tA, gL_tA, gB_tA, gZ_tA, gO_tA, gX_tA, gF_tL, gA_tL, gB_tL, gZ_tL, gO_tL, gX_tL, gF_tB, gA_tB, gL_tB, gZ_tB, gO_tB, gX_tB, gF_tZ, gA_tZ, gL_tZ, gB_tZ, gO_tZ, gX_tZ, gF_sF, gA_sA, gL_sL, gB_sB, gZ_sZ, gO_sO, gX_sX, gA_tA, gL_tL, gB_tB, gZ_tZ, reduceIte, Nat.reduceEqDiff, Nat.zero_ne_one, Nat.one_ne_zero, Nat.succ_ne_self, forall_eq, vpT, cpyT, nI_leI, nI_ltI, nI_eq, nI_m1, oI_eqn, oI_eqm, va_up_ne', va_up_eq, eq_self_iff_true, true_or, or_true, true_implies, not_true_eq_false, not_false_eq_true, false_implies, and_true, true_and, forall_const, implies_true, ne_eq, Nat.add_sub_cancel, nI_pos, ite_self], fun t ht => by omega⟩ (fun f v hI => ?_) (fun f j v hj hI ih => ?_)
      · obtain ⟨i1, i2, i3, i4⟩ := hI
        unfold qX12_joins_lv7_25
        rw [show gF v 37 = nI i from (i1.1 37 (by decide)).trans hJ.2.1]
        refine c_y (nI_le (Nat.le_refl _) (by omega)) (hQ v i1 (fun j _ => by rw [i2]) (fun _ => ⟨i3, fun j hj => ?_⟩) (fun h => absurd hlt h))
        rw [if_pos hj]; exact i4 j hj
      · obtain ⟨i1, i2, i3, i4⟩ := hI
        have hrj := hrow j hj
        unfold qX12_joins_lv7_25
        rw [show gF v 37 = nI i from (i1.1 37 (by decide)).trans hJ.2.1, nI_clamp (by omega), i2, hrj.1, ofI1, nI_add]
        refine c_n (nI_ge hj (by omega)) (c_in rfl (by omega) (by decide) (c_in rfl (by omega) (by decide) (fun w hw' => ?_)))
        subst hw'
        refine ih _ ⟨i1.tr (Fr.tA 44 _ _ (by decide)), i2, i3, fun t ht => ?_⟩
        by_cases e : t = j
        · subst e; simp (disch := omega) only [ofI1, nI_add, pk_mul, pk_sub, nI_clamp, imin_nI, imax_nI, nl_0, nl_1, nl_2, nl_3, nl_4, nl_5, nl_6, nl_7, nl_8, nl_9, nl_10, nl_11, nl_12, nl_13, nl_15, nl_16, nl_20, nl_24, nl_26, nl_30, nl_32, nl_36, nl_39, nl_40, nl_45, nl_48, nl_50, nl_57, nl_59, nl_60, nl_61, nl_62, nl_64, nl_72, nl_73, nl_80, nl_90, nl_97, nl_99, nl_100, nl_120, nl_122, nl_123, nl_127, nl_128, nl_199, nl_200, nl_255, nl_256, nl_290, nl_399, nl_400, nl_500, nl_512, nl_520, nl_600, nl_999, nl_1000, nl_2000, nl_9999, nl_10000, nl_14, nl_17, nl_18, nl_19, nl_21, nl_22, nl_23, nl_25, nl_27, nl_28, nl_29, nl_31, nl_33, nl_34, nl_35, nl_47, nl_51, nl_63, nl_110, nl_195, nl_240, nl_1370, nl_3710, nl_6030, nl_6690, nl_7490, nl_7610, nl_9170, nl_11570, gA_sF, gL_sF, gB_sF, gZ_sF, gO_sF, gX_sF, gF_sA, gL_sA, gB_sA, gZ_sA, gO_sA, gX_sA, gF_sL, gA_sL, gB_sL, gZ_sL, gO_sL, gX_sL, gF_sB, gA_sB, gL_sB, gZ_sB, gO_sB, gX_sB, gF_sZ, gA_sZ, gL_sZ, gB_sZ, gO_sZ, gX_sZ, gF_sO, gA_sO, gL_sO, gB_sO, gZ_sO, gX_sO, gF_sX, gA_sX, gL_sX, gB_sX, gZ_sX, gO_sX, gF_tA, gL_tA, gB_tA, gZ_tA, gO_tA, gX_tA, gF_tL, gA_tL, gB_tL, gZ_tL, gO_tL, gX_tL, gF_tB, gA_tB, gL_tB, gZ_tB, gO_tB, gX_tB, gF_tZ, gA_tZ, gL_tZ, gB_tZ, gO_tZ, gX_tZ, gF_sF, gA_sA, gL_sL, gB_sB, gZ_sZ, gO_sO, gX_sX, gA_tA, gL_tL, gB_tB, gZ_tZ, reduceIte, Nat.reduceEqDiff, Nat.zero_ne_one, Nat.one_ne_zero, Nat.succ_ne_self, forall_eq, vpT, cpyT, nI_leI, nI_ltI, nI_eq, nI_m1, oI_eqn, oI_eqm, va_up_ne', va_up_eq, eq_self_iff_true, true_or, or_true, true_implies, not_true_eq_false, not_false_eq_true, false_implies, and_true, true_and, forall_const, implies_true, ne_eq, Nat.add_sub_cancel, nI_pos, ite_self]
        · have := i4 t (by omega)
          simp (disch := omega) only [this, ofI1, nI_add, pk_mul, pk_sub, nI_clamp, imin_nI, imax_nI, nl_0, nl_1, nl_2, nl_3, nl_4, nl_5, nl_6, nl_7, nl_8, nl_9, nl_10, nl_11, nl_12, nl_13, nl_15, nl_16, nl_20, nl_24, nl_26, nl_30, nl_32, nl_36, nl_39, nl_40, nl_45, nl_48, nl_50, nl_57, nl_59, nl_60, nl_61, nl_62, nl_64, nl_72, nl_73, nl_80, nl_90, nl_97, nl_99, nl_100, nl_120, nl_122, nl_123, nl_127, nl_128, nl_199, nl_200, nl_255, nl_256, nl_290, nl_399, nl_400, nl_500, nl_512, nl_520, nl_600, nl_999, nl_1000, nl_2000, nl_9999, nl_10000, nl_14, nl_17, nl_18, nl_19, nl_21, nl_22, nl_23, nl_25, nl_27, nl_28, nl_29, nl_31, nl_33, nl_34, nl_35, nl_47, nl_51, nl_63, nl_110, nl_195, nl_240, nl_1370, nl_3710, nl_6030, nl_6690, nl_7490, nl_7610, nl_9170, nl_11570, gA_sF, gL_sF, gB_sF, gZ_sF, gO_sF, gX_sF, gF_sA, gL_sA, gB_sA, gZ_sA, gO_sA, gX_sA, gF_sL, gA_sL, gB_sL, gZ_sL, gO_sL, gX_sL, gF_sB, gA_sB, gL_sB, gZ_sB, gO_sB, gX_sB, gF_sZ, gA_sZ, gL_sZ, gB_sZ, gO_sZ, gX_sZ, gF_sO, gA_sO, gL_sO, gB_sO, gZ_sO, gX_sO, gF_sX, gA_sX, gL_sX, gB_sX, gZ_sX, gO_sX, gF_tA, gL_tA, gB_tA, gZ_tA, gO_tA, gX_tA, gF_tL, gA_tL, gB_tL, gZ_tL, gO_tL, gX_tL, gF_tB, gA_tB, gL_tB, gZ_tB, gO_tB, gX_tB, gF_tZ, gA_tZ, gL_tZ, gB_tZ, gO_tZ, gX_tZ, gF_sF, gA_sA, gL_sL, gB_sB, gZ_sZ, gO_sO, gX_sX, gA_tA, gL_tL, gB_tB, gZ_tZ, reduceIte, Nat.reduceEqDiff, Nat.zero_ne_one, Nat.one_ne_zero, Nat.succ_ne_self, forall_eq, vpT, cpyT, nI_leI, nI_ltI, nI_eq, nI_m1, oI_eqn, oI_eqm, va_up_ne', va_up_eq, eq_self_iff_true, true_or, or_true, true_implies, not_true_eq_false, not_false_eq_true, false_implies, and_true, true_and, forall_const, implies_true, ne_eq, Nat.add_sub_cancel, nI_pos, ite_self]
    · refine c_n (fun z => hlt ((zi_lt (by omega) (by omega) (by omega) (by omega)).1 z)) (hQ u Fr.rf (fun _ _ => rfl) (fun h => absurd h hlt) (fun _ => ⟨hB, rfl⟩))
  · obtain ⟨r, rfl⟩ : ∃ r', r = r' + 1 := ⟨r - 1, by omega⟩
    have hi : i < n := by omega
    have hS10 := lt10 k10 hS
    have hl : l ≤ k := by
      by_cases e : i = 0
      · rw [hl0 e]; omega
      · have := (hrow (i - 1) (by omega)).2
        rw [hl1 (by omega)]; omega
    have hr3 : n - (r + 1) = i := by omega
    obtain ⟨c1, -, -, -⟩ := jC_is (nr := nr) (l := l) (S := S) (r := r) k10 n7 hg (by omega) (by omega)
    have jb := jV_b (nr := nr) k10 hg (r + 1) S l (by omega) (by omega)
    have ev : jV k n g nr (r + 1) S l = bV (fun c => !S.testBit c) (fun c => g i c + bon nr l c + jV k n g nr r (S ||| 2 ^ c) (c + 1)) k := by
      show bV _ (fun c => g (n - (r + 1)) c + _ + _) k = _
      rw [hr3]
    have ec : jC k n g nr r S l = bC (fun c => !S.testBit c) (fun c => g i c + bon nr l c + jV k n g nr r (S ||| 2 ^ c) (c + 1)) k := by
      unfold jC; rw [hr3]
    have vb : ∀ c, c < k → S.testBit c = false → -1000 ≤ g i c + bon nr l c + jV k n g nr r (S ||| 2 ^ c) (c + 1) ∧ g i c + bon nr l c + jV k n g nr r (S ||| 2 ^ c) (c + 1) ≤ 600 := fun c hc hf => by
      have h1 := hg i c hi hc
      have h2 := bon_b nr l c
      have h3 := jV_b (nr := nr) k10 hg r (S ||| 2 ^ c) (c + 1) (by omega) (by rw [pc_or (by omega) hf]; omega)
      omega
    generalize hval : (fun c => g i c + bon nr l c + jV k n g nr r (S ||| 2 ^ c) (c + 1)) = val at ev ec
    have vb' : ∀ c, c < k → S.testBit c = false → -1000 ≤ val c ∧ val c ≤ 600 := fun c hc hf => by rw [← hval]; exact vb c hc hf
    unfold qX12_joins_lv7
    rw [hJ.2.1]
    refine c_n' (fun z => hz ((nI_eq (by omega) (by omega)).1 z)) ?_
    refine pk_loop (fun f c v => qX12_joins_lv7_58 Q f v (nI i) (nI S) (Int32.ofInt sum) (nI c)) (fun c v => Fr [(1, 43), (1, 44), (0, 45)] u v ∧ (∀ j, j < i → gA v 43 j = gA u 43 j) ∧ (bV (fun c => !S.testBit c) val c = -1000000 ∨ (-1000 ≤ bV (fun c => !S.testBit c) val c ∧ bV (fun c => !S.testBit c) val c ≤ 600)) ∧
      (B < sum + bV (fun c => !S.testBit c) val c ∧ bV (fun c => !S.testBit c) val c ≠ -1000000 → gF v 45 = Int32.ofInt (sum + bV (fun c => !S.testBit c) val c) ∧ ∀ j, j < n → gA v 44 j = nI (if j < i then rw j else if j = i then bC (fun c => !S.testBit c) val c else jR k n g nr r (S ||| 2 ^ bC (fun c => !S.testBit c) val c) (bC (fun c => !S.testBit c) val c + 1) (j - i - 1))) ∧
      (¬ (B < sum + bV (fun c => !S.testBit c) val c ∧ bV (fun c => !S.testBit c) val c ≠ -1000000) → gF v 45 = Int32.ofInt B ∧ gA v 44 = gA u 44)) k 0 u (Nat.zero_le _) ⟨Fr.rf, fun _ _ => rfl, Or.inl rfl, fun h => absurd rfl h.2, fun _ => ⟨hB, rfl⟩⟩ (fun f v hI => ?_) (fun f c v hc hI ih => ?_)
    · obtain ⟨i1, i2, i3, i4, i5⟩ := hI
      unfold qX12_joins_lv7_58
      rw [show gF v 40 = nI k from (i1.1 40 (by decide)).trans hJ.2.2.1]
      refine c_y (nI_le (Nat.le_refl _) (by omega)) (hQ v i1 i2 (fun h => ?_) (fun h => ?_))
      · rw [ev] at h ⊢
        obtain ⟨q1, q2⟩ := i4 ⟨h, by omega⟩
        refine ⟨q1, fun j hj => ?_⟩
        rw [q2 j hj]
        congr 1
        by_cases e : j < i
        · rw [if_pos e, if_pos e]
        · rw [if_neg e, if_neg e]
          by_cases e2 : j = i
          · rw [if_pos e2, e2, Nat.sub_self, jR_0, ec]
          · rw [if_neg e2]
            obtain ⟨t, ht⟩ : ∃ t, j - i = t + 1 := ⟨j - i - 1, by omega⟩
            rw [ht, jR_s, ec, Nat.add_sub_cancel]
      · rw [ev] at h
        exact i5 (fun z => h z.1)
    · obtain ⟨i1, i2, i3, i4, i5⟩ := hI
      have hJv := hJ.fr i1
      have e1 : bV (fun c => !S.testBit c) val (c + 1) = if (!S.testBit c) = true ∧ bV (fun c => !S.testBit c) val c < val c then val c else bV (fun c => !S.testBit c) val c := rfl
      have e2 : bC (fun c => !S.testBit c) val (c + 1) = if (!S.testBit c) = true ∧ bV (fun c => !S.testBit c) val c < val c then c else bC (fun c => !S.testBit c) val c := rfl
      unfold qX12_joins_lv7_58
      rw [hJv.2.2.1]
      refine c_n (nI_ge hc (by omega)) ?_
      rw [bit10 (by omega) (by omega), ofI1, nI_add]
      cases hb : S.testBit c with
      | true =>
        rw [hb, if_neg (fun z => absurd z.1 (by decide))] at e1 e2
        refine c_y' rfl (ih v ⟨i1, i2, ?_⟩)
        rw [e1, e2]
        exact ⟨i3, i4, i5⟩
      | false =>
        have vc := vb' c hc hb
        rw [hb] at e1 e2
        refine c_n' (by decide) (c_in rfl (by omega) (by decide) (fun w hw' => ?_))
        have fw : Fr [(1, 43), (1, 44), (0, 45)] v w := by rw [hw']; exact Fr.tA 43 _ _ (by decide)
        have w43 : ∀ j, j < 7 → gA w 43 j = if j = i then nI c else gA v 43 j := fun j hj => by
          subst hw'
          by_cases e : j = i
          · subst e; simp (disch := omega) only [ofI1, nI_add, pk_mul, pk_sub, nI_clamp, imin_nI, imax_nI, nl_0, nl_1, nl_2, nl_3, nl_4, nl_5, nl_6, nl_7, nl_8, nl_9, nl_10, nl_11, nl_12, nl_13, nl_15, nl_16, nl_20, nl_24, nl_26, nl_30, nl_32, nl_36, nl_39, nl_40, nl_45, nl_48, nl_50, nl_57, nl_59, nl_60, nl_61, nl_62, nl_64, nl_72, nl_73, nl_80, nl_90, nl_97, nl_99, nl_100, nl_120, nl_122, nl_123, nl_127, nl_128, nl_199, nl_200, nl_255, nl_256, nl_290, nl_399, nl_400, nl_500, nl_512, nl_520, nl_600, nl_999, nl_1000, nl_2000, nl_9999, nl_10000, nl_14, nl_17, nl_18, nl_19, nl_21, nl_22, nl_23, nl_25, nl_27, nl_28, nl_29, nl_31, nl_33, nl_34, nl_35, nl_47, nl_51, nl_63, nl_110, nl_195, nl_240, nl_1370, nl_3710, nl_6030, nl_6690, nl_7490, nl_7610, nl_9170, nl_11570, gA_sF, gL_sF, gB_sF, gZ_sF, gO_sF, gX_sF, gF_sA, gL_sA, gB_sA, gZ_sA, gO_sA, gX_sA, gF_sL, gA_sL, gB_sL, gZ_sL, gO_sL, gX_sL, gF_sB, gA_sB, gL_sB, gZ_sB, gO_sB, gX_sB, gF_sZ, gA_sZ, gL_sZ, gB_sZ, gO_sZ, gX_sZ, gF_sO, gA_sO, gL_sO, gB_sO, gZ_sO, gX_sO, gF_sX, gA_sX, gL_sX, gB_sX, gZ_sX, gO_sX, gF_tA, gL_tA, gB_tA, gZ_tA, gO_tA, gX_tA, gF_tL, gA_tL, gB_tL, gZ_tL, gO_tL, gX_tL, gF_tB, gA_tB, gL_tB, gZ_tB, gO_tB, gX_tB, gF_tZ, gA_tZ, gL_tZ, gB_tZ, gO_tZ, gX_tZ, gF_sF, gA_sA, gL_sL, gB_sB, gZ_sZ, gO_sO, gX_sX, gA_tA, gL_tL, gB_tB, gZ_tZ, reduceIte, Nat.reduceEqDiff, Nat.zero_ne_one, Nat.one_ne_zero, Nat.succ_ne_self, forall_eq, vpT, cpyT, nI_leI, nI_ltI, nI_eq, nI_m1, oI_eqn, oI_eqm, va_up_ne', va_up_eq, eq_self_iff_true, true_or, or_true, true_implies, not_true_eq_false, not_false_eq_true, false_implies, and_true, true_and, forall_const, implies_true, ne_eq, Nat.add_sub_cancel, nI_pos, ite_self]
          · simp (disch := omega) only [ofI1, nI_add, pk_mul, pk_sub, nI_clamp, imin_nI, imax_nI, nl_0, nl_1, nl_2, nl_3, nl_4, nl_5, nl_6, nl_7, nl_8, nl_9, nl_10, nl_11, nl_12, nl_13, nl_15, nl_16, nl_20, nl_24, nl_26, nl_30, nl_32, nl_36, nl_39, nl_40, nl_45, nl_48, nl_50, nl_57, nl_59, nl_60, nl_61, nl_62, nl_64, nl_72, nl_73, nl_80, nl_90, nl_97, nl_99, nl_100, nl_120, nl_122, nl_123, nl_127, nl_128, nl_199, nl_200, nl_255, nl_256, nl_290, nl_399, nl_400, nl_500, nl_512, nl_520, nl_600, nl_999, nl_1000, nl_2000, nl_9999, nl_10000, nl_14, nl_17, nl_18, nl_19, nl_21, nl_22, nl_23, nl_25, nl_27, nl_28, nl_29, nl_31, nl_33, nl_34, nl_35, nl_47, nl_51, nl_63, nl_110, nl_195, nl_240, nl_1370, nl_3710, nl_6030, nl_6690, nl_7490, nl_7610, nl_9170, nl_11570, gA_sF, gL_sF, gB_sF, gZ_sF, gO_sF, gX_sF, gF_sA, gL_sA, gB_sA, gZ_sA, gO_sA, gX_sA, gF_sL, gA_sL, gB_sL, gZ_sL, gO_sL, gX_sL, gF_sB, gA_sB, gL_sB, gZ_sB, gO_sB, gX_sB, gF_sZ, gA_sZ, gL_sZ, gB_sZ, gO_sZ, gX_sZ, gF_sO, gA_sO, gL_sO, gB_sO, gZ_sO, gX_sO, gF_sX, gA_sX, gL_sX, gB_sX, gZ_sX, gO_sX, gF_tA, gL_tA, gB_tA, gZ_tA, gO_tA, gX_tA, gF_tL, gA_tL, gB_tL, gZ_tL, gO_tL, gX_tL, gF_tB, gA_tB, gL_tB, gZ_tB, gO_tB, gX_tB, gF_tZ, gA_tZ, gL_tZ, gB_tZ, gO_tZ, gX_tZ, gF_sF, gA_sA, gL_sL, gB_sB, gZ_sZ, gO_sO, gX_sX, gA_tA, gL_tL, gB_tB, gZ_tZ, reduceIte, Nat.reduceEqDiff, Nat.zero_ne_one, Nat.one_ne_zero, Nat.succ_ne_self, forall_eq, vpT, cpyT, nI_leI, nI_ltI, nI_eq, nI_m1, oI_eqn, oI_eqm, va_up_ne', va_up_eq, eq_self_iff_true, true_or, or_true, true_implies, not_true_eq_false, not_false_eq_true, false_implies, and_true, true_and, forall_const, implies_true, ne_eq, Nat.add_sub_cancel, nI_pos, ite_self]
            rw [if_neg e]
        have w44 : gA w 44 = gA v 44 := by rw [hw']; rfl
        have w45 : gF w 45 = gF v 45 := by rw [hw']; rfl
        have hJw := hJv.fr fw
        clear hw'
        have dgc := hJw.2.2.2.2 i c hi hc
        have rest : ∀ z : Int, z = bon nr l c → qX12_joins_lv7_126 Q (qX12_joins_lv7_58 Q f) w (nI i) (nI S) (Int32.ofInt sum) (nI c) (Int32.ofInt z) := fun z hz2 => by
          unfold qX12_joins_lv7_126
          rw [nl_10, pk_mul, nI_add, nI_clamp (by omega), dgc, or_nI hS10 (by omega), zi_add, zi_add, nl_1, nI_add, ofI1, nI_add]
          have hgc := hg i c hi hc
          have hbc := bon_b nr l c
          have ev2 : sum + g i c + z + jV k n g nr r (S ||| 2 ^ c) (c + 1) = sum + val c := by rw [← hval, hz2]; show _ = sum + (_ + _ + _); omega
          obtain ⟨B', hB'⟩ : ∃ B' : Int, (B < sum + bV (fun c => !S.testBit c) val c ∧ bV (fun c => !S.testBit c) val c ≠ -1000000 → B' = sum + bV (fun c => !S.testBit c) val c) ∧ (¬ (B < sum + bV (fun c => !S.testBit c) val c ∧ bV (fun c => !S.testBit c) val c ≠ -1000000) → B' = B) := by
            by_cases hq : B < sum + bV (fun c => !S.testBit c) val c ∧ bV (fun c => !S.testBit c) val c ≠ -1000000
            · exact ⟨_, fun _ => rfl, fun h => absurd hq h⟩
            · exact ⟨B, fun h => absurd h hq, fun _ => rfl⟩
          have gB : gF w 45 = Int32.ofInt B' := by
            rw [w45]
            by_cases hq : B < sum + bV (fun c => !S.testBit c) val c ∧ bV (fun c => !S.testBit c) val c ≠ -1000000
            · rw [hB'.1 hq]; exact (i4 hq).1
            · rw [hB'.2 hq]; exact (i5 hq).1
          have B1 : -1000000 ≤ B' := by
            by_cases hq : B < sum + bV (fun c => !S.testBit c) val c ∧ bV (fun c => !S.testBit c) val c ≠ -1000000
            · rw [hB'.1 hq]; omega
            · rw [hB'.2 hq]; exact hB1
          have B2 : B' ≤ 1000 := by
            by_cases hq : B < sum + bV (fun c => !S.testBit c) val c ∧ bV (fun c => !S.testBit c) val c ≠ -1000000
            · rw [hB'.1 hq]; omega
            · rw [hB'.2 hq]; exact hB2
          refine c_in rfl (by omega) (by decide) (joins_6 hw k10 n7 hnk hnr hg w (i + 1) r (S ||| 2 ^ c) (c + 1) (sum + g i c + z) B' (fun j => if j = i then c else rw j) hJw (by omega) (by omega) (or_lt hS hc) (by rw [pc_or (by omega) hb, hpc]) (fun j hj => ?_) (fun h => absurd h (by omega)) (fun _ => ?_) (by omega) (by omega) gB B1 B2 _ (fun u' fu hp1 hyes hno => ?_))
          · rw [w43 j (by omega)]
            by_cases e : j = i
            · rw [if_pos e, if_pos e]; exact ⟨rfl, hc⟩
            · rw [if_neg e, if_neg e, i2 j (by omega)]; exact hrow j (by omega)
          · show c + 1 = (if i + 1 - 1 = i then c else rw (i + 1 - 1)) + 1
            rw [if_pos (by omega)]
          · rw [ev2] at hyes hno
            refine ih u' ⟨i1.tr (fw.tr fu), fun j hj => ?_, ?_⟩
            · rw [hp1 j (by omega), w43 j (by omega), if_neg (by omega)]; exact i2 j hj
            have up : B' < sum + val c → bV (fun c => !S.testBit c) val c < val c ∧ B < sum + val c := fun h => by
              by_cases hq : B < sum + bV (fun c => !S.testBit c) val c ∧ bV (fun c => !S.testBit c) val c ≠ -1000000
              · have := hB'.1 hq; omega
              · have := hB'.2 hq
                by_cases h6 : bV (fun c => !S.testBit c) val c = -1000000
                · omega
                · have : ¬ B < sum + bV (fun c => !S.testBit c) val c := fun z => hq ⟨z, h6⟩
                  omega
            by_cases hup : B' < sum + val c
            · obtain ⟨u1, u2⟩ := up hup
              rw [if_pos ⟨rfl, u1⟩] at e1 e2
              rw [e1, e2]
              refine ⟨Or.inr vc, fun _ => ⟨(hyes hup).1, fun j hj => ?_⟩, fun h => absurd ⟨u2, by omega⟩ h⟩
              rw [(hyes hup).2 j hj]
              congr 1
              by_cases x1 : j < i
              · rw [if_pos (by omega), if_neg (by omega), if_pos x1]
              · rw [if_neg x1]
                by_cases x2 : j = i
                · rw [if_pos (by omega), if_pos x2, if_pos x2]
                · rw [if_neg (by omega), if_neg x2, show j - (i + 1) = j - i - 1 by omega]
            · have hn := hno hup
              by_cases hq : B < sum + bV (fun c => !S.testBit c) val c ∧ bV (fun c => !S.testBit c) val c ≠ -1000000
              · have hb1 := hB'.1 hq
                rw [if_neg (fun z => by omega)] at e1 e2
                rw [e1, e2]
                refine ⟨i3, fun _ => ⟨by rw [hn.1, hb1], fun j hj => ?_⟩, fun h => absurd hq h⟩
                rw [hn.2, w44]; exact (i4 hq).2 j hj
              · have hb1 := hB'.2 hq
                have nc : ¬ (B < sum + bV (fun c => !S.testBit c) val (c + 1) ∧ bV (fun c => !S.testBit c) val (c + 1) ≠ -1000000) := by
                  rw [e1]
                  split
                  · intro z; omega
                  · exact hq
                refine ⟨?_, fun h => absurd h nc, fun _ => ⟨by rw [hn.1, hb1], by rw [hn.2, w44]; exact (i5 hq).2⟩⟩
                rw [e1]
                split
                · exact Or.inr vc
                · exact i3
        by_cases e : i = 0
        · refine c_le (b := 0) rfl rfl (by omega) (by omega) (fun _ => ?_) (fun h => absurd e (by omega))
          unfold qX12_joins_lv7_125
          exact rest 0 (by unfold bon; rw [if_pos (hl0 e)])
        · refine c_le (b := 0) rfl rfl (by omega) (by omega) (fun h => absurd e (by omega)) (fun _ => ?_)
          have hri := hrow (i - 1) (by omega)
          have pw := hJw.2.2.2.1 (rw (i - 1)) hri.2
          have pc1 := hJw.2.2.2.1 c hc
          have hbn : bon nr l c = if nearB A (pp (rw (i - 1))) (pp c) 30 = true then 3 else 0 := by
            unfold bon
            rw [hl1 (by omega), if_neg (by omega), Nat.add_sub_cancel, hnr]
          rw [nl_1, pk_sub (by omega), nI_clamp (by omega), w43 (i - 1) (by omega), if_neg (by omega), i2 (i - 1) (by omega), hri.1, nI_clamp (by omega), nI_clamp (by omega), pw.1, pc1.1, nl_30]
          refine c_in rfl (by omega) (by decide) (c_in rfl (by omega) (by decide) (c_in rfl (by omega) (by decide) ?_))
          refine M_isNear hw hJw.1 pw.2 pc1.2 (by decide) ?_
          cases hnb : nearB A (pp (rw (i - 1))) (pp c) 30 with
          | true =>
            rw [hnb, if_pos rfl] at hbn
            exact b_1' (rest 3 hbn.symm)
          | false =>
            rw [hnb, if_neg (by decide)] at hbn
            refine b_0' ?_
            unfold qX12_joins_lv7_125
            exact rest 0 hbn.symm
