theorem va_up_up {α : Type} (f : Nat → α) (k : Nat) (v w : α) : va_up (va_up f k v) k w = va_up f k w := by
  funext j; unfold va_up; by_cases h : j = k
  · rw [if_pos h, if_pos h]
  · rw [if_neg h, if_neg h, if_neg h]
theorem va_up_cm {α : Type} (f : Nat → α) {k l : Nat} (v w : α) (h : k ≠ l) : va_up (va_up f k v) l w = va_up (va_up f l w) k v := by
  funext j; unfold va_up
  by_cases h1 : j = l
  · rw [if_pos h1, if_neg (by omega), if_pos h1]
  · rw [if_neg h1]
    by_cases h2 : j = k
    · rw [if_pos h2, if_pos h2]
    · rw [if_neg h2, if_neg h2, if_neg h1]
theorem parF_re {pl of yr : Nat → Nat} {y i p o : Nat} (hp : pl i = p) (hy : yr i ≤ y) : ∀ n, i < n → (∀ j, i < j → j < n → pl j = p → ¬ yr j ≤ y) → parF pl (va_up of i o) yr y n = va_up (parF pl of yr y n) p o := by
  intro n
  induction n with
  | zero => intro h; omega
  | succ n ih =>
    intro hi hno
    show (if yr n ≤ y then va_up (parF pl (va_up of i o) yr y n) (pl n) (va_up of i o n) else parF pl (va_up of i o) yr y n) = va_up (if yr n ≤ y then va_up (parF pl of yr y n) (pl n) (of n) else parF pl of yr y n) p o
    by_cases e : i = n
    · subst e
      rw [if_pos hy, if_pos hy, va_up_eq, hp, va_up_up]
      congr 1
      exact parF_c _ (fun k hk => ⟨Iff.rfl, fun _ => ⟨rfl, va_up_ne' _ _ (by omega)⟩⟩)
    · have h1 := ih (by omega) (fun j a b => hno j a (by omega))
      by_cases hyn : yr n ≤ y
      · rw [if_pos hyn, if_pos hyn, h1, va_up_ne' _ _ (by omega : n ≠ i), va_up_cm]
        intro hp'
        exact hno n (by omega) (by omega) hp'.symm hyn
      · rw [if_neg hyn, if_neg hyn, h1]
/-- the parts told after p is told part of o (0: of none) NOW -/
def prtA (A : Nat → Nat → Nat) (p o : Nat) : Nat → Nat → Nat := upc (upc (upc (upc A 3 (A 58 0) p) 4 (A 58 0) o) 5 (A 58 0) (A 50 0)) 58 0 (A 58 0 + 1)
theorem prtA_par (A : Nat → Nat → Nat) (p o y : Nat) : parA (prtA A p o) y = if A 50 0 ≤ y then va_up (parA A y) p o else parA A y := by
  show parF (va_up (A 3) (A 58 0) p) (va_up (A 4) (A 58 0) o) (va_up (A 5) (A 58 0) (A 50 0)) y (A 58 0 + 1) = _
  unfold parF
  rw [va_up_eq, va_up_eq, va_up_eq]
  have e : parF (va_up (A 3) (A 58 0) p) (va_up (A 4) (A 58 0) o) (va_up (A 5) (A 58 0) (A 50 0)) y (A 58 0) = parA A y := parF_c _ (fun k hk => ⟨by rw [va_up_ne' _ _ (show k ≠ A 58 0 by omega)], fun _ => ⟨va_up_ne' _ _ (by omega), va_up_ne' _ _ (by omega)⟩⟩)
  rw [e]
theorem N_tellPart {la : Md} {A : Nat → Nat → Nat} {c p o : Nat} (hw : Wf A c) (hc : A 58 0 + 1 ≤ 512) (hl : Npt la A) (hp : p < A 51 0) (ho : o ≤ A 51 0) {Q : Int32 → Md → Prop} (hQ : ∀ la', Fr [(0, 3), (1, 4), (1, 5), (1, 6)] la la' → Npt la' (prtA A p o) → Q 1 la') : qX2_tellPart la (nI p) (oI o) (nI (A 50 0)) Q := by
  obtain ⟨n, pl, of, yr, n1, n2, n3, n4, n5, n6⟩ := hl
  have b0 : A 50 0 < 400 := hw.1.1
  have b1 : A 51 0 ≤ 40 := hw.1.2.1
  have frw : ∀ (i : Nat) (v : Int32), Fr [(0, 3), (1, 4), (1, 5), (1, 6)] la (sF (tA (tA (tA la 4 (nI i) (nI p)) 5 (nI i) (oI o)) 6 (nI i) (nI (A 50 0))) 3 v) := fun i v => Fr.tr (Fr.tr (Fr.tr (Fr.tA 4 _ _ (by decide)) (Fr.tA 5 _ _ (by decide))) (Fr.tA 6 _ _ (by decide))) (Fr.sF 3 _ (by decide))
  have hfin : ∀ i, i ≤ n → (i < n → pl i = p ∧ yr i = A 50 0) → (i = n → ∀ j, j < n → ¬ (pl j = p ∧ yr j = A 50 0)) → qX2_tellPart_51 Q la (nI p) (oI o) (nI (A 50 0)) (nI i) := by
    intro i hi hm hno
    unfold qX2_tellPart_51
    have h520 : i < 520 := by omega
    by_cases hin : i = n
    · have z : max n (i + 1) = n + 1 := by omega
      simp (disch := omega) only [h520, n2, z, ofI1, nI_add, pk_mul, pk_sub, nI_clamp, imin_nI, imax_nI, nl_0, nl_1, nl_2, nl_3, nl_4, nl_5, nl_6, nl_7, nl_8, nl_9, nl_10, nl_11, nl_12, nl_13, nl_15, nl_16, nl_20, nl_24, nl_26, nl_30, nl_32, nl_36, nl_39, nl_40, nl_45, nl_48, nl_50, nl_57, nl_59, nl_60, nl_61, nl_62, nl_64, nl_72, nl_73, nl_80, nl_90, nl_97, nl_99, nl_100, nl_120, nl_122, nl_123, nl_127, nl_128, nl_199, nl_200, nl_255, nl_256, nl_290, nl_399, nl_400, nl_500, nl_512, nl_520, nl_600, nl_999, nl_1000, nl_2000, nl_9999, nl_10000, nl_14, nl_17, nl_18, nl_19, nl_21, nl_22, nl_23, nl_25, nl_27, nl_28, nl_29, nl_31, nl_33, nl_34, nl_35, nl_47, nl_51, nl_63, nl_110, nl_195, nl_240, nl_1370, nl_3710, nl_6030, nl_6690, nl_7490, nl_7610, nl_9170, nl_11570, gA_sF, gL_sF, gB_sF, gZ_sF, gO_sF, gX_sF, gF_sA, gL_sA, gB_sA, gZ_sA, gO_sA, gX_sA, gF_sL, gA_sL, gB_sL, gZ_sL, gO_sL, gX_sL, gF_sB, gA_sB, gL_sB, gZ_sB, gO_sB, gX_sB, gF_sZ, gA_sZ, gL_sZ, gB_sZ, gO_sZ, gX_sZ, gF_sO, gA_sO, gL_sO, gB_sO, gZ_sO, gX_sO, gF_sX, gA_sX, gL_sX, gB_sX, gZ_sX, gO_sX, gF_tA, gL_tA, gB_tA, gZ_tA, gO_tA, gX_tA, gF_tL, gA_tL, gB_tL, gZ_tL, gO_tL, gX_tL, gF_tB, gA_tB, gL_tB, gZ_tB, gO_tB, gX_tB, gF_tZ, gA_tZ, gL_tZ, gB_tZ, gO_tZ, gX_tZ, gF_sF, gA_sA, gL_sL, gB_sB, gZ_sZ, gO_sO, gX_sX, gA_tA, gL_tL, gB_tB, gZ_tZ, reduceIte, Nat.reduceEqDiff, Nat.zero_ne_one, Nat.one_ne_zero, Nat.succ_ne_self, forall_eq, vpT, cpyT, nI_leI, nI_ltI, nI_eq, nI_m1, oI_eqn, oI_eqm, va_up_ne', va_up_eq, eq_self_iff_true, true_or, or_true, true_implies, not_true_eq_false, not_false_eq_true, false_implies, and_true, true_and, forall_const, implies_true, ne_eq, Nat.add_sub_cancel, nI_pos, ite_self]
      subst hin
      refine hQ _ (frw _ _) ⟨i + 1, va_up pl i p, va_up of i o, va_up yr i (A 50 0), by show i + 1 ≤ A 58 0 + 1; omega, rfl, fun k hk => ?_, fun a b hab hb => ?_, fun a b hab hb => ?_, fun y => ?_⟩
      · show va_up pl i p k < A 51 0 ∧ va_up of i o k ≤ A 51 0 ∧ va_up yr i (A 50 0) k ≤ A 50 0 ∧ _
        by_cases e : k = i
        · subst e; simp (disch := omega) only [ofI1, nI_add, pk_mul, pk_sub, nI_clamp, imin_nI, imax_nI, nl_0, nl_1, nl_2, nl_3, nl_4, nl_5, nl_6, nl_7, nl_8, nl_9, nl_10, nl_11, nl_12, nl_13, nl_15, nl_16, nl_20, nl_24, nl_26, nl_30, nl_32, nl_36, nl_39, nl_40, nl_45, nl_48, nl_50, nl_57, nl_59, nl_60, nl_61, nl_62, nl_64, nl_72, nl_73, nl_80, nl_90, nl_97, nl_99, nl_100, nl_120, nl_122, nl_123, nl_127, nl_128, nl_199, nl_200, nl_255, nl_256, nl_290, nl_399, nl_400, nl_500, nl_512, nl_520, nl_600, nl_999, nl_1000, nl_2000, nl_9999, nl_10000, nl_14, nl_17, nl_18, nl_19, nl_21, nl_22, nl_23, nl_25, nl_27, nl_28, nl_29, nl_31, nl_33, nl_34, nl_35, nl_47, nl_51, nl_63, nl_110, nl_195, nl_240, nl_1370, nl_3710, nl_6030, nl_6690, nl_7490, nl_7610, nl_9170, nl_11570, gA_sF, gL_sF, gB_sF, gZ_sF, gO_sF, gX_sF, gF_sA, gL_sA, gB_sA, gZ_sA, gO_sA, gX_sA, gF_sL, gA_sL, gB_sL, gZ_sL, gO_sL, gX_sL, gF_sB, gA_sB, gL_sB, gZ_sB, gO_sB, gX_sB, gF_sZ, gA_sZ, gL_sZ, gB_sZ, gO_sZ, gX_sZ, gF_sO, gA_sO, gL_sO, gB_sO, gZ_sO, gX_sO, gF_sX, gA_sX, gL_sX, gB_sX, gZ_sX, gO_sX, gF_tA, gL_tA, gB_tA, gZ_tA, gO_tA, gX_tA, gF_tL, gA_tL, gB_tL, gZ_tL, gO_tL, gX_tL, gF_tB, gA_tB, gL_tB, gZ_tB, gO_tB, gX_tB, gF_tZ, gA_tZ, gL_tZ, gB_tZ, gO_tZ, gX_tZ, gF_sF, gA_sA, gL_sL, gB_sB, gZ_sZ, gO_sO, gX_sX, gA_tA, gL_tL, gB_tB, gZ_tZ, reduceIte, Nat.reduceEqDiff, Nat.zero_ne_one, Nat.one_ne_zero, Nat.succ_ne_self, forall_eq, vpT, cpyT, nI_leI, nI_ltI, nI_eq, nI_m1, oI_eqn, oI_eqm, va_up_ne', va_up_eq, eq_self_iff_true, true_or, or_true, true_implies, not_true_eq_false, not_false_eq_true, false_implies, and_true, true_and, forall_const, implies_true, ne_eq, Nat.add_sub_cancel, nI_pos, ite_self]; exact ⟨hp, ho, Nat.le_refl _⟩
        · simp (disch := omega) only [ofI1, nI_add, pk_mul, pk_sub, nI_clamp, imin_nI, imax_nI, nl_0, nl_1, nl_2, nl_3, nl_4, nl_5, nl_6, nl_7, nl_8, nl_9, nl_10, nl_11, nl_12, nl_13, nl_15, nl_16, nl_20, nl_24, nl_26, nl_30, nl_32, nl_36, nl_39, nl_40, nl_45, nl_48, nl_50, nl_57, nl_59, nl_60, nl_61, nl_62, nl_64, nl_72, nl_73, nl_80, nl_90, nl_97, nl_99, nl_100, nl_120, nl_122, nl_123, nl_127, nl_128, nl_199, nl_200, nl_255, nl_256, nl_290, nl_399, nl_400, nl_500, nl_512, nl_520, nl_600, nl_999, nl_1000, nl_2000, nl_9999, nl_10000, nl_14, nl_17, nl_18, nl_19, nl_21, nl_22, nl_23, nl_25, nl_27, nl_28, nl_29, nl_31, nl_33, nl_34, nl_35, nl_47, nl_51, nl_63, nl_110, nl_195, nl_240, nl_1370, nl_3710, nl_6030, nl_6690, nl_7490, nl_7610, nl_9170, nl_11570, gA_sF, gL_sF, gB_sF, gZ_sF, gO_sF, gX_sF, gF_sA, gL_sA, gB_sA, gZ_sA, gO_sA, gX_sA, gF_sL, gA_sL, gB_sL, gZ_sL, gO_sL, gX_sL, gF_sB, gA_sB, gL_sB, gZ_sB, gO_sB, gX_sB, gF_sZ, gA_sZ, gL_sZ, gB_sZ, gO_sZ, gX_sZ, gF_sO, gA_sO, gL_sO, gB_sO, gZ_sO, gX_sO, gF_sX, gA_sX, gL_sX, gB_sX, gZ_sX, gO_sX, gF_tA, gL_tA, gB_tA, gZ_tA, gO_tA, gX_tA, gF_tL, gA_tL, gB_tL, gZ_tL, gO_tL, gX_tL, gF_tB, gA_tB, gL_tB, gZ_tB, gO_tB, gX_tB, gF_tZ, gA_tZ, gL_tZ, gB_tZ, gO_tZ, gX_tZ, gF_sF, gA_sA, gL_sL, gB_sB, gZ_sZ, gO_sO, gX_sX, gA_tA, gL_tL, gB_tB, gZ_tZ, reduceIte, Nat.reduceEqDiff, Nat.zero_ne_one, Nat.one_ne_zero, Nat.succ_ne_self, forall_eq, vpT, cpyT, nI_leI, nI_ltI, nI_eq, nI_m1, oI_eqn, oI_eqm, va_up_ne', va_up_eq, eq_self_iff_true, true_or, or_true, true_implies, not_true_eq_false, not_false_eq_true, false_implies, and_true, true_and, forall_const, implies_true, ne_eq, Nat.add_sub_cancel, nI_pos, ite_self]; exact n3 k (by omega)
      · rw [va_up_ne' _ _ (show a ≠ i by omega)]
        by_cases e : b = i
        · rw [e, va_up_eq]; exact (n3 a (by omega)).2.2.1
        · rw [va_up_ne' _ _ e]; exact n4 a b hab (by omega)
      · rw [va_up_ne' _ _ (show a ≠ i by omega), va_up_ne' _ _ (show a ≠ i by omega)]
        by_cases e : b = i
        · rw [e, va_up_eq, va_up_eq]; exact fun q1 q2 => hno rfl a (by omega) ⟨q1, q2⟩
        · rw [va_up_ne' _ _ e, va_up_ne' _ _ e]; exact n5 a b hab (by omega)
      · rw [prtA_par]
        unfold parF
        rw [va_up_eq, va_up_eq, va_up_eq]
        have e : parF (va_up pl i p) (va_up of i o) (va_up yr i (A 50 0)) y i = parA A y := by
          rw [← n6 y]
          exact parF_c _ (fun k hk => ⟨by rw [va_up_ne' _ _ (show k ≠ i by omega)], fun _ => ⟨va_up_ne' _ _ (by omega), va_up_ne' _ _ (by omega)⟩⟩)
        rw [e]
    · have hi' : i < n := by omega
      have z : max n (i + 1) = n := by omega
      obtain ⟨hm1, hm2⟩ := hm hi'
      simp (disch := omega) only [h520, n2, z, ofI1, nI_add, pk_mul, pk_sub, nI_clamp, imin_nI, imax_nI, nl_0, nl_1, nl_2, nl_3, nl_4, nl_5, nl_6, nl_7, nl_8, nl_9, nl_10, nl_11, nl_12, nl_13, nl_15, nl_16, nl_20, nl_24, nl_26, nl_30, nl_32, nl_36, nl_39, nl_40, nl_45, nl_48, nl_50, nl_57, nl_59, nl_60, nl_61, nl_62, nl_64, nl_72, nl_73, nl_80, nl_90, nl_97, nl_99, nl_100, nl_120, nl_122, nl_123, nl_127, nl_128, nl_199, nl_200, nl_255, nl_256, nl_290, nl_399, nl_400, nl_500, nl_512, nl_520, nl_600, nl_999, nl_1000, nl_2000, nl_9999, nl_10000, nl_14, nl_17, nl_18, nl_19, nl_21, nl_22, nl_23, nl_25, nl_27, nl_28, nl_29, nl_31, nl_33, nl_34, nl_35, nl_47, nl_51, nl_63, nl_110, nl_195, nl_240, nl_1370, nl_3710, nl_6030, nl_6690, nl_7490, nl_7610, nl_9170, nl_11570, gA_sF, gL_sF, gB_sF, gZ_sF, gO_sF, gX_sF, gF_sA, gL_sA, gB_sA, gZ_sA, gO_sA, gX_sA, gF_sL, gA_sL, gB_sL, gZ_sL, gO_sL, gX_sL, gF_sB, gA_sB, gL_sB, gZ_sB, gO_sB, gX_sB, gF_sZ, gA_sZ, gL_sZ, gB_sZ, gO_sZ, gX_sZ, gF_sO, gA_sO, gL_sO, gB_sO, gZ_sO, gX_sO, gF_sX, gA_sX, gL_sX, gB_sX, gZ_sX, gO_sX, gF_tA, gL_tA, gB_tA, gZ_tA, gO_tA, gX_tA, gF_tL, gA_tL, gB_tL, gZ_tL, gO_tL, gX_tL, gF_tB, gA_tB, gL_tB, gZ_tB, gO_tB, gX_tB, gF_tZ, gA_tZ, gL_tZ, gB_tZ, gO_tZ, gX_tZ, gF_sF, gA_sA, gL_sL, gB_sB, gZ_sZ, gO_sO, gX_sX, gA_tA, gL_tL, gB_tB, gZ_tZ, reduceIte, Nat.reduceEqDiff, Nat.zero_ne_one, Nat.one_ne_zero, Nat.succ_ne_self, forall_eq, vpT, cpyT, nI_leI, nI_ltI, nI_eq, nI_m1, oI_eqn, oI_eqm, va_up_ne', va_up_eq, eq_self_iff_true, true_or, or_true, true_implies, not_true_eq_false, not_false_eq_true, false_implies, and_true, true_and, forall_const, implies_true, ne_eq, Nat.add_sub_cancel, nI_pos, ite_self]
      refine hQ _ (frw _ _) ⟨n, pl, va_up of i o, yr, by show n ≤ A 58 0 + 1; omega, rfl, fun k hk => ?_, n4, n5, fun y => ?_⟩
      · show pl k < A 51 0 ∧ va_up of i o k ≤ A 51 0 ∧ yr k ≤ A 50 0 ∧ _
        obtain ⟨q1, q2, q3, q4, q5, q6⟩ := n3 k hk
        by_cases e : k = i
        · subst e; simp (disch := omega) only [ofI1, nI_add, pk_mul, pk_sub, nI_clamp, imin_nI, imax_nI, nl_0, nl_1, nl_2, nl_3, nl_4, nl_5, nl_6, nl_7, nl_8, nl_9, nl_10, nl_11, nl_12, nl_13, nl_15, nl_16, nl_20, nl_24, nl_26, nl_30, nl_32, nl_36, nl_39, nl_40, nl_45, nl_48, nl_50, nl_57, nl_59, nl_60, nl_61, nl_62, nl_64, nl_72, nl_73, nl_80, nl_90, nl_97, nl_99, nl_100, nl_120, nl_122, nl_123, nl_127, nl_128, nl_199, nl_200, nl_255, nl_256, nl_290, nl_399, nl_400, nl_500, nl_512, nl_520, nl_600, nl_999, nl_1000, nl_2000, nl_9999, nl_10000, nl_14, nl_17, nl_18, nl_19, nl_21, nl_22, nl_23, nl_25, nl_27, nl_28, nl_29, nl_31, nl_33, nl_34, nl_35, nl_47, nl_51, nl_63, nl_110, nl_195, nl_240, nl_1370, nl_3710, nl_6030, nl_6690, nl_7490, nl_7610, nl_9170, nl_11570, gA_sF, gL_sF, gB_sF, gZ_sF, gO_sF, gX_sF, gF_sA, gL_sA, gB_sA, gZ_sA, gO_sA, gX_sA, gF_sL, gA_sL, gB_sL, gZ_sL, gO_sL, gX_sL, gF_sB, gA_sB, gL_sB, gZ_sB, gO_sB, gX_sB, gF_sZ, gA_sZ, gL_sZ, gB_sZ, gO_sZ, gX_sZ, gF_sO, gA_sO, gL_sO, gB_sO, gZ_sO, gX_sO, gF_sX, gA_sX, gL_sX, gB_sX, gZ_sX, gO_sX, gF_tA, gL_tA, gB_tA, gZ_tA, gO_tA, gX_tA, gF_tL, gA_tL, gB_tL, gZ_tL, gO_tL, gX_tL, gF_tB, gA_tB, gL_tB, gZ_tB, gO_tB, gX_tB, gF_tZ, gA_tZ, gL_tZ, gB_tZ, gO_tZ, gX_tZ, gF_sF, gA_sA, gL_sL, gB_sB, gZ_sZ, gO_sO, gX_sX, gA_tA, gL_tL, gB_tB, gZ_tZ, reduceIte, Nat.reduceEqDiff, Nat.zero_ne_one, Nat.one_ne_zero, Nat.succ_ne_self, forall_eq, vpT, cpyT, nI_leI, nI_ltI, nI_eq, nI_m1, oI_eqn, oI_eqm, va_up_ne', va_up_eq, eq_self_iff_true, true_or, or_true, true_implies, not_true_eq_false, not_false_eq_true, false_implies, and_true, true_and, forall_const, implies_true, ne_eq, Nat.add_sub_cancel, nI_pos, ite_self]; rw [hm1, hm2]; exact ⟨hp, ho, Nat.le_refl _, rfl, rfl⟩
        · simp (disch := omega) only [ofI1, nI_add, pk_mul, pk_sub, nI_clamp, imin_nI, imax_nI, nl_0, nl_1, nl_2, nl_3, nl_4, nl_5, nl_6, nl_7, nl_8, nl_9, nl_10, nl_11, nl_12, nl_13, nl_15, nl_16, nl_20, nl_24, nl_26, nl_30, nl_32, nl_36, nl_39, nl_40, nl_45, nl_48, nl_50, nl_57, nl_59, nl_60, nl_61, nl_62, nl_64, nl_72, nl_73, nl_80, nl_90, nl_97, nl_99, nl_100, nl_120, nl_122, nl_123, nl_127, nl_128, nl_199, nl_200, nl_255, nl_256, nl_290, nl_399, nl_400, nl_500, nl_512, nl_520, nl_600, nl_999, nl_1000, nl_2000, nl_9999, nl_10000, nl_14, nl_17, nl_18, nl_19, nl_21, nl_22, nl_23, nl_25, nl_27, nl_28, nl_29, nl_31, nl_33, nl_34, nl_35, nl_47, nl_51, nl_63, nl_110, nl_195, nl_240, nl_1370, nl_3710, nl_6030, nl_6690, nl_7490, nl_7610, nl_9170, nl_11570, gA_sF, gL_sF, gB_sF, gZ_sF, gO_sF, gX_sF, gF_sA, gL_sA, gB_sA, gZ_sA, gO_sA, gX_sA, gF_sL, gA_sL, gB_sL, gZ_sL, gO_sL, gX_sL, gF_sB, gA_sB, gL_sB, gZ_sB, gO_sB, gX_sB, gF_sZ, gA_sZ, gL_sZ, gB_sZ, gO_sZ, gX_sZ, gF_sO, gA_sO, gL_sO, gB_sO, gZ_sO, gX_sO, gF_sX, gA_sX, gL_sX, gB_sX, gZ_sX, gO_sX, gF_tA, gL_tA, gB_tA, gZ_tA, gO_tA, gX_tA, gF_tL, gA_tL, gB_tL, gZ_tL, gO_tL, gX_tL, gF_tB, gA_tB, gL_tB, gZ_tB, gO_tB, gX_tB, gF_tZ, gA_tZ, gL_tZ, gB_tZ, gO_tZ, gX_tZ, gF_sF, gA_sA, gL_sL, gB_sB, gZ_sZ, gO_sO, gX_sX, gA_tA, gL_tL, gB_tB, gZ_tZ, reduceIte, Nat.reduceEqDiff, Nat.zero_ne_one, Nat.one_ne_zero, Nat.succ_ne_self, forall_eq, vpT, cpyT, nI_leI, nI_ltI, nI_eq, nI_m1, oI_eqn, oI_eqm, va_up_ne', va_up_eq, eq_self_iff_true, true_or, or_true, true_implies, not_true_eq_false, not_false_eq_true, false_implies, and_true, true_and, forall_const, implies_true, ne_eq, Nat.add_sub_cancel, nI_pos, ite_self]; exact ⟨q1, q2, q3, q4, q5, q6⟩
      · rw [prtA_par]
        by_cases hy : A 50 0 ≤ y
        · rw [if_pos hy, parF_re hm1 (by omega) n hi' (fun j a b q => ?_), n6 y]
          exact fun q2 => n5 i j a b (by rw [hm1, q]) (by have := n4 i j a b; have := (n3 j b).2.2.1; omega)
        · rw [if_neg hy, ← n6 y]
          refine parF_c _ (fun k hk => ⟨Iff.rfl, fun q => ⟨rfl, va_up_ne' _ _ (fun e => ?_)⟩⟩)
          rw [e, hm2] at q; omega
  unfold qX2_tellPart
  refine ⟨n + 1, ?_⟩
  rw [n2]
  refine pk_loopD (fun k i (s : Nat) => qX2_tellPart_14 Q k la (nI p) (oI o) (nI (A 50 0)) (nI s) (oI i)) (fun i s => i ≤ n ∧ ((s = n ∧ ∀ j, i ≤ j → j < n → ¬ (pl j = p ∧ yr j = A 50 0)) ∨ (i ≤ s ∧ s < n ∧ pl s = p ∧ yr s = A 50 0))) (fun k s hI => ?_) (fun k i s hI ih => ?_) n n ⟨Nat.le_refl _, Or.inl ⟨rfl, fun j q1 q2 => by omega⟩⟩
  · unfold qX2_tellPart_14
    refine c_y (by decide) (hfin s (by omega) (fun q => ?_) (fun q => ?_))
    · rcases hI.2 with ⟨rfl, _⟩ | ⟨_, _, r⟩
      · omega
      · exact r
    · rcases hI.2 with ⟨_, r⟩ | ⟨_, r, _⟩
      · exact fun j hj => r j (by omega) hj
      · omega
  · obtain ⟨i1, i2⟩ := hI
    unfold qX2_tellPart_14
    obtain ⟨k1, k2, k3, k4, k5, k6⟩ := n3 i (by omega)
    rw [oI_s]
    refine c_n (nI_pos (by omega)) ⟨vp_in_nI (by omega) (by decide), ?_⟩
    rw [nI_clamp (by omega), k4, k6, oI_dec]
    refine c_eq' rfl rfl (by omega) (by omega) (fun ey => ⟨vp_in_nI (by omega) (by decide), c_eq' rfl rfl (by omega) (by omega) (fun ec => ?_) (fun ec => ?_)⟩) (fun ey => ?_)
    · exact ih i ⟨by omega, Or.inr ⟨Nat.le_refl _, by omega, ec, ey⟩⟩
    · refine ih s ⟨by omega, ?_⟩
      rcases i2 with ⟨r1, r2⟩ | ⟨r1, r2, r3⟩
      · refine Or.inl ⟨r1, fun j q1 q2 q3 => ?_⟩
        by_cases hji : j = i
        · subst hji; exact ec q3.1
        · exact r2 j (by omega) q2 q3
      · exact Or.inr ⟨by omega, r2, r3⟩
    · have hlow : ∀ j, j < i + 1 → ¬ (pl j = p ∧ yr j = A 50 0) := by
        intro j hj q
        by_cases hji : j = i
        · subst hji; exact ey q.2
        · have := n4 j i (by omega) (by omega)
          have := q.2
          omega
      refine hfin s ?_ (fun q => ?_) (fun q => ?_)
      · rcases i2 with ⟨r1, r2⟩ | ⟨r1, r2, r3⟩ <;> omega
      · rcases i2 with ⟨r1, r2⟩ | ⟨r1, r2, r3⟩
        · omega
        · exact r3
      · rcases i2 with ⟨r1, r2⟩ | ⟨r1, r2, r3⟩
        · intro j hj q3
          by_cases hji : j < i + 1
          · exact hlow j hji q3
          · exact r2 j (by omega) hj q3
        · omega
theorem und_st {f : Nat → Nat} {top : Nat} : ∀ n q, ends f n q → ∀ m, n ≤ m → und f top m q = und f top n q := by
  intro n
  induction n with
  | zero => intro q h; exact h.elim
  | succ n ih =>
    intro q h m hm
    obtain ⟨k, rfl⟩ : ∃ k, m = k + 1 := ⟨m - 1, by omega⟩
    rw [und_s, und_s]
    by_cases e : q = top
    · rw [if_pos e, if_pos e]
    rw [if_neg e, if_neg e]
    unfold und0
    by_cases h0 : f q = 0
    · rw [if_pos h0, if_pos h0]
    · rw [if_neg h0, if_neg h0]
      exact ih _ (h.resolve_left h0) k (by omega)
/-- no circle comes of p told part of o, where o does not lie in p -/
theorem Acyc.tell {P : Nat} {f : Nat → Nat} (h : Acyc P f) (hP : P ≤ 40) {p o : Nat} (hp : p < P) (ho : o ≤ P) (hu : und0 f p 41 o = false) : Acyc P (va_up f p o) := by
  obtain ⟨rk, hrk⟩ := id h
  refine ⟨fun q => if und f p 41 q then rk q + rk (o - 1) + 1 else rk q, fun q hq => ?_⟩
  by_cases e : q = p
  · subst e
    rw [va_up_eq]
    by_cases h0 : o = 0
    · exact Or.inl h0
    · refine Or.inr ⟨ho, ?_⟩
      unfold und0 at hu
      rw [if_neg h0] at hu
      have hq' : und f q 41 q = true := by rw [und_s, if_pos rfl]
      dsimp only
      rw [hu, hq']
      show rk (o - 1) < rk q + rk (o - 1) + 1
      omega
  · rw [va_up_ne' _ _ e]
    rcases hrk q hq with h1 | ⟨h1, h2⟩
    · exact Or.inl h1
    by_cases h0 : f q = 0
    · exact Or.inl h0
    refine Or.inr ⟨h1, ?_⟩
    have e1 : und f p 41 q = und f p 41 (f q - 1) := by
      rw [und_s, if_neg e]
      unfold und0
      rw [if_neg h0]
      have := h.ends hP hq
      exact (und_st 40 _ (this.resolve_left h0) 41 (by omega)).symm
    dsimp only
    rw [e1]
    cases und f p 41 (f q - 1)
    · exact h2
    · show rk (f q - 1) + rk (o - 1) + 1 < rk q + rk (o - 1) + 1
      omega
theorem prt_Wf {A : Nat → Nat → Nat} {c p o : Nat} (hw : Wf A c) (hc : c + 1 ≤ 512) (hp : p < A 51 0) (ho : o ≤ A 51 0) (hu : und0 (parA A (A 50 0)) p 41 o = false) : Wf (prtA A p o) (c + 1) := by
  have b1 : A 51 0 ≤ 40 := hw.1.2.1
  have hhi : ∀ y, A 50 0 ≤ y → parA A y = parA A (A 50 0) := fun y hy => (hw.hi hy).1
  obtain ⟨⟨w0, w1, w2, w3, w4, w5, w6, w7, w8, w9, wc⟩, v1, ⟨v2, v2b, v2c⟩, ⟨v3, v3b, v3c⟩, v4, v5, v6, v7, v8, ⟨v9, v9b, v9c⟩⟩ := id hw; refine ⟨⟨w0, w1, w2, w3, w4, w5, w6, w7, by show A 58 0 + 1 ≤ c + 1; omega, by show A 59 0 ≤ c + 1; omega, hc⟩, v1, ⟨?_, ?_, ?_⟩, ⟨v3, v3b, v3c⟩, v4, v5, v6, v7, v8, ⟨v9, v9b, v9c⟩⟩
  · intro k hk
    have hk' : k < A 58 0 + 1 := hk
    show va_up (A 3) (A 58 0) p k < A 51 0 ∧ va_up (A 4) (A 58 0) o k ≤ A 51 0 ∧ va_up (A 5) (A 58 0) (A 50 0) k ≤ A 50 0
    by_cases e : k = A 58 0
    · rw [e, va_up_eq, va_up_eq, va_up_eq]; exact ⟨hp, ho, Nat.le_refl _⟩
    · rw [va_up_ne' _ _ e, va_up_ne' _ _ e, va_up_ne' _ _ e]; exact v2 k (by omega)
  · intro i j hij hj
    have hj' : j < A 58 0 + 1 := hj
    show va_up (A 5) (A 58 0) (A 50 0) i ≤ va_up (A 5) (A 58 0) (A 50 0) j
    rw [va_up_ne' _ _ (show i ≠ A 58 0 by omega)]
    by_cases e : j = A 58 0
    · rw [e, va_up_eq]; exact (v2 i (by omega)).2.2
    · rw [va_up_ne' _ _ e]; exact v2b i j hij (by omega)
  · intro y
    rw [prtA_par]
    show Acyc (A 51 0) _
    by_cases hy : A 50 0 ≤ y
    · rw [if_pos hy, hhi y hy]; exact (v2c (A 50 0)).tell b1 hp ho hu
    · rw [if_neg hy]; exact v2c y
theorem M_partChain {Q : Int32 → Md → Prop} {f : Nat → Nat} {P p : Nat} {y2 : Int32} (hP : P ≤ 40) (hp : p < P) (hb : ∀ q, q < P → f q ≤ P) {u : Md} (hu : ∀ j, j < P → gA u 7 j = oI (f j)) : ∀ n s, s ≤ P → (s = 0 ∨ ends f n (s - 1)) → (und0 f p n s = true → Q (-5) u) → (und0 f p n s = false → ∀ n, qX12_part_39 Q (n + 1) u (nI p) y2 (oI 0)) → qX12_part_39 Q (n + 1) u (nI p) y2 (oI s) := by
  intro n
  induction n with
  | zero =>
    intro s hs he h5 h0
    rcases he with rfl | he
    · exact h0 rfl 0
    · exact he.elim
  | succ n ih =>
    intro s hs he h5 h0
    by_cases hz : s = 0
    · subst hz; exact h0 rfl _
    have eu : und0 f p (n + 1) s = if s - 1 = p then true else und0 f p n (f (s - 1)) := by
      conv => lhs; unfold und0
      rw [if_neg hz, und_s]
    rw [eu] at h5 h0
    unfold qX12_part_39
    rw [oI_pos (by omega)]
    refine c_n (nI_m1 (by omega)) (c_eq' rfl rfl (by omega) (by omega) (fun e => ?_) (fun e => ⟨vp_in_nI (by omega) (by decide), ?_⟩))
    · rw [if_pos e] at h5; exact h5 rfl
    · rw [if_neg e] at h5 h0
      rw [nI_clamp (by omega), hu _ (by omega)]
      exact ih _ (hb _ (by omega)) (he.resolve_left hz) h5 h0
theorem M_part1 {m : Md} {A : Nat → Nat → Nat} {c p o : Nat} (hw : Wf A c) (hc : c + 1 ≤ 512) (hm : MW (gA m 1) A) (hp : p < A 51 0) (ho : o ≤ A 51 0) (hne : o ≠ p + 1) {Q : Int32 → Md → Prop} (h5 : und0 (parA A (A 50 0)) p 41 o = true → ∀ m', Fr [(1, 7), (1, 8), (1, 9)] m m' → Q (-5) m') (h0 : und0 (parA A (A 50 0)) p 41 o = false → ∀ m', Fr [(1, 1), (1, 7), (1, 8), (1, 9)] m m' → MW (gA m' 1) (prtA A p o) → Q 0 m') : qX12_part m (nI p) (oI o) Q := by
  have e0 : gA m 1 0 = nI (A 50 0) := hm.1.1
  have e1 : gA m 1 1 = nI (A 51 0) := hm.1.2.1
  have e8 : gA m 1 8 = nI (A 58 0) := hm.1.2.2.2.2.2.2.2.2.1
  have b0 : A 50 0 < 400 := hw.1.1
  have b1 : A 51 0 ≤ 40 := hw.1.2.1
  have b8 : A 58 0 ≤ c := hw.1.2.2.2.2.2.2.2.2.1
  have hac : Acyc (A 51 0) (parA A (A 50 0)) := hw.2.2.1.2.2 _
  unfold qX12_part
  refine m_isPl1 e1 b1 hp (b_1' ?_)
  have key : qX12_part_21 Q m (nI p) (oI o) := by
    unfold qX12_part_21
    refine c_n' (fun h => hne (by
      rw [eq_comm, oI_eqn (by omega) (by omega)] at h; exact h)) ?_
    unfold qX12_now
    refine ⟨vp_in_nI (n := 0) (by decide) (by decide), ?_⟩
    rw [show gA m 1 (0 : Int32).toNatClampNeg = nI (A 50 0) from e0]
    refine M_looks hw hm b0 (fun m1 fm d7 d8 d9 => ⟨41 + 1, ?_⟩)
    refine M_partChain (f := parA A (A 50 0)) b1 hp (fun q hq => hac.le hq) (fun j hj => d7 j (by omega)) 41 o ho ?_ (fun h => h5 h m1 fm) (fun h n => ?_)
    · by_cases h : o = 0
      · exact Or.inl h
      · exact Or.inr (hac.ends b1 (by omega))
    · have f1 : gA m1 1 = gA m 1 := fm.2.1 1 (by decide)
      unfold qX12_part_39 qX12_now
      rw [oI_0]
      refine c_y rfl ?_
      simp (disch := omega) only [f1, e8, e0, ofI1, nI_add, pk_mul, pk_sub, nI_clamp, imin_nI, imax_nI, nl_0, nl_1, nl_2, nl_3, nl_4, nl_5, nl_6, nl_7, nl_8, nl_9, nl_10, nl_11, nl_12, nl_13, nl_15, nl_16, nl_20, nl_24, nl_26, nl_30, nl_32, nl_36, nl_39, nl_40, nl_45, nl_48, nl_50, nl_57, nl_59, nl_60, nl_61, nl_62, nl_64, nl_72, nl_73, nl_80, nl_90, nl_97, nl_99, nl_100, nl_120, nl_122, nl_123, nl_127, nl_128, nl_199, nl_200, nl_255, nl_256, nl_290, nl_399, nl_400, nl_500, nl_512, nl_520, nl_600, nl_999, nl_1000, nl_2000, nl_9999, nl_10000, nl_14, nl_17, nl_18, nl_19, nl_21, nl_22, nl_23, nl_25, nl_27, nl_28, nl_29, nl_31, nl_33, nl_34, nl_35, nl_47, nl_51, nl_63, nl_110, nl_195, nl_240, nl_1370, nl_3710, nl_6030, nl_6690, nl_7490, nl_7610, nl_9170, nl_11570, gA_sF, gL_sF, gB_sF, gZ_sF, gO_sF, gX_sF, gF_sA, gL_sA, gB_sA, gZ_sA, gO_sA, gX_sA, gF_sL, gA_sL, gB_sL, gZ_sL, gO_sL, gX_sL, gF_sB, gA_sB, gL_sB, gZ_sB, gO_sB, gX_sB, gF_sZ, gA_sZ, gL_sZ, gB_sZ, gO_sZ, gX_sZ, gF_sO, gA_sO, gL_sO, gB_sO, gZ_sO, gX_sO, gF_sX, gA_sX, gL_sX, gB_sX, gZ_sX, gO_sX, gF_tA, gL_tA, gB_tA, gZ_tA, gO_tA, gX_tA, gF_tL, gA_tL, gB_tL, gZ_tL, gO_tL, gX_tL, gF_tB, gA_tB, gL_tB, gZ_tB, gO_tB, gX_tB, gF_tZ, gA_tZ, gL_tZ, gB_tZ, gO_tZ, gX_tZ, gF_sF, gA_sA, gL_sL, gB_sB, gZ_sZ, gO_sO, gX_sX, gA_tA, gL_tL, gB_tB, gZ_tZ, reduceIte, Nat.reduceEqDiff, Nat.zero_ne_one, Nat.one_ne_zero, Nat.succ_ne_self, forall_eq, vpT, cpyT, nI_leI, nI_ltI, nI_eq, nI_m1, oI_eqn, oI_eqm, va_up_ne', va_up_eq, eq_self_iff_true, true_or, or_true, true_implies, not_true_eq_false, not_false_eq_true, false_implies, and_true, true_and, forall_const, implies_true, ne_eq, Nat.add_sub_cancel, nI_pos, ite_self]
      generalize hm' : tA (tA (tA (tA m1 1 _ _) 1 _ _) 1 _ _) 1 _ _ = m'
      have hV : gA m' 1 = va_up (va_up (va_up (va_up (gA m 1) (7610 + 3 * A 58 0) (nI p)) (7610 + 3 * A 58 0 + 1) (oI o)) (7610 + 3 * A 58 0 + 2) (nI (A 50 0))) 8 (nI (A 58 0 + 1)) := by
        rw [← hm']; simp (disch := omega) only [f1, ofI1, nI_add, pk_mul, pk_sub, nI_clamp, imin_nI, imax_nI, nl_0, nl_1, nl_2, nl_3, nl_4, nl_5, nl_6, nl_7, nl_8, nl_9, nl_10, nl_11, nl_12, nl_13, nl_15, nl_16, nl_20, nl_24, nl_26, nl_30, nl_32, nl_36, nl_39, nl_40, nl_45, nl_48, nl_50, nl_57, nl_59, nl_60, nl_61, nl_62, nl_64, nl_72, nl_73, nl_80, nl_90, nl_97, nl_99, nl_100, nl_120, nl_122, nl_123, nl_127, nl_128, nl_199, nl_200, nl_255, nl_256, nl_290, nl_399, nl_400, nl_500, nl_512, nl_520, nl_600, nl_999, nl_1000, nl_2000, nl_9999, nl_10000, nl_14, nl_17, nl_18, nl_19, nl_21, nl_22, nl_23, nl_25, nl_27, nl_28, nl_29, nl_31, nl_33, nl_34, nl_35, nl_47, nl_51, nl_63, nl_110, nl_195, nl_240, nl_1370, nl_3710, nl_6030, nl_6690, nl_7490, nl_7610, nl_9170, nl_11570, gA_sF, gL_sF, gB_sF, gZ_sF, gO_sF, gX_sF, gF_sA, gL_sA, gB_sA, gZ_sA, gO_sA, gX_sA, gF_sL, gA_sL, gB_sL, gZ_sL, gO_sL, gX_sL, gF_sB, gA_sB, gL_sB, gZ_sB, gO_sB, gX_sB, gF_sZ, gA_sZ, gL_sZ, gB_sZ, gO_sZ, gX_sZ, gF_sO, gA_sO, gL_sO, gB_sO, gZ_sO, gX_sO, gF_sX, gA_sX, gL_sX, gB_sX, gZ_sX, gO_sX, gF_tA, gL_tA, gB_tA, gZ_tA, gO_tA, gX_tA, gF_tL, gA_tL, gB_tL, gZ_tL, gO_tL, gX_tL, gF_tB, gA_tB, gL_tB, gZ_tB, gO_tB, gX_tB, gF_tZ, gA_tZ, gL_tZ, gB_tZ, gO_tZ, gX_tZ, gF_sF, gA_sA, gL_sL, gB_sB, gZ_sZ, gO_sO, gX_sX, gA_tA, gL_tL, gB_tB, gZ_tZ, reduceIte, Nat.reduceEqDiff, Nat.zero_ne_one, Nat.one_ne_zero, Nat.succ_ne_self, forall_eq, vpT, cpyT, nI_leI, nI_ltI, nI_eq, nI_m1, oI_eqn, oI_eqm, va_up_ne', va_up_eq, eq_self_iff_true, true_or, or_true, true_implies, not_true_eq_false, not_false_eq_true, false_implies, and_true, true_and, forall_const, implies_true, ne_eq, Nat.add_sub_cancel, nI_pos, ite_self]
      have hv : ∀ k, k ≠ 8 → k ≠ 7610 + 3 * A 58 0 → k ≠ 7610 + 3 * A 58 0 + 1 → k ≠ 7610 + 3 * A 58 0 + 2 → gA m' 1 k = gA m 1 k := fun k q1 q2 q3 q4 => by rw [hV, va_up_ne' _ _ q1, va_up_ne' _ _ q4, va_up_ne' _ _ q3, va_up_ne' _ _ q2]
      refine h0 h m' ((fm.mono (by decide)).tr (by rw [← hm']; exact Fr.tr (Fr.tr (Fr.tr (Fr.tA 1 _ _ (by decide)) (Fr.tA 1 _ _ (by decide))) (Fr.tA 1 _ _ (by decide))) (Fr.tA 1 _ _ (by decide)))) ?_
      obtain ⟨⟨k0, k1, k2, k3, k4, k5, k6, k7, k8, k9⟩, h1, h2, h3, h4, h5, h6, h7, h8, h9⟩ := id hm; obtain ⟨⟨w0, w1, w2, w3, w4, w5, w6, w7, w8, w9, wc⟩, -, -, -, wn, ws, wa, -⟩ := id hw; refine ⟨⟨(hv 0 (by omega) (by omega) (by omega) (by omega)).trans k0, (hv 1 (by omega) (by omega) (by omega) (by omega)).trans k1, (hv 2 (by omega) (by omega) (by omega) (by omega)).trans k2, (hv 3 (by omega) (by omega) (by omega) (by omega)).trans k3, (hv 4 (by omega) (by omega) (by omega) (by omega)).trans k4, (hv 5 (by omega) (by omega) (by omega) (by omega)).trans k5, (hv 6 (by omega) (by omega) (by omega) (by omega)).trans k6, (hv 7 (by omega) (by omega) (by omega) (by omega)).trans k7, by rw [hV]; rfl, (hv 9 (by omega) (by omega) (by omega) (by omega)).trans k9⟩, h1.w w1 (fun k _ _ => hv k (by omega) (by omega) (by omega) (by omega)), ?_, h3.w w6 (fun k _ _ => hv k (by omega) (by omega) (by omega) (by omega)), h4.w w2 wn (fun k _ _ => hv k (by omega) (by omega) (by omega) (by omega)), h5.w w3 ws (fun k _ _ => hv k (by omega) (by omega) (by omega) (by omega)), h6.w w4 wa (fun k _ _ => hv k (by omega) (by omega) (by omega) (by omega)), h7.w w5 (fun k _ _ => hv k (by omega) (by omega) (by omega) (by omega)), h8.w w7 (fun k _ _ => hv k (by omega) (by omega) (by omega) (by omega)), h9.w (by omega) (fun k _ _ => hv k (by omega) (by omega) (by omega) (by omega))⟩
      intro k hk
      have hk' : k < A 58 0 + 1 := hk
      show _ = nI (va_up (A 3) (A 58 0) p k) ∧ _ = oI (va_up (A 4) (A 58 0) o k) ∧ _ = nI (va_up (A 5) (A 58 0) (A 50 0) k)
      by_cases e : k = A 58 0
      · subst e; rw [hV]; simp (disch := omega) only [ofI1, nI_add, pk_mul, pk_sub, nI_clamp, imin_nI, imax_nI, nl_0, nl_1, nl_2, nl_3, nl_4, nl_5, nl_6, nl_7, nl_8, nl_9, nl_10, nl_11, nl_12, nl_13, nl_15, nl_16, nl_20, nl_24, nl_26, nl_30, nl_32, nl_36, nl_39, nl_40, nl_45, nl_48, nl_50, nl_57, nl_59, nl_60, nl_61, nl_62, nl_64, nl_72, nl_73, nl_80, nl_90, nl_97, nl_99, nl_100, nl_120, nl_122, nl_123, nl_127, nl_128, nl_199, nl_200, nl_255, nl_256, nl_290, nl_399, nl_400, nl_500, nl_512, nl_520, nl_600, nl_999, nl_1000, nl_2000, nl_9999, nl_10000, nl_14, nl_17, nl_18, nl_19, nl_21, nl_22, nl_23, nl_25, nl_27, nl_28, nl_29, nl_31, nl_33, nl_34, nl_35, nl_47, nl_51, nl_63, nl_110, nl_195, nl_240, nl_1370, nl_3710, nl_6030, nl_6690, nl_7490, nl_7610, nl_9170, nl_11570, gA_sF, gL_sF, gB_sF, gZ_sF, gO_sF, gX_sF, gF_sA, gL_sA, gB_sA, gZ_sA, gO_sA, gX_sA, gF_sL, gA_sL, gB_sL, gZ_sL, gO_sL, gX_sL, gF_sB, gA_sB, gL_sB, gZ_sB, gO_sB, gX_sB, gF_sZ, gA_sZ, gL_sZ, gB_sZ, gO_sZ, gX_sZ, gF_sO, gA_sO, gL_sO, gB_sO, gZ_sO, gX_sO, gF_sX, gA_sX, gL_sX, gB_sX, gZ_sX, gO_sX, gF_tA, gL_tA, gB_tA, gZ_tA, gO_tA, gX_tA, gF_tL, gA_tL, gB_tL, gZ_tL, gO_tL, gX_tL, gF_tB, gA_tB, gL_tB, gZ_tB, gO_tB, gX_tB, gF_tZ, gA_tZ, gL_tZ, gB_tZ, gO_tZ, gX_tZ, gF_sF, gA_sA, gL_sL, gB_sB, gZ_sZ, gO_sO, gX_sX, gA_tA, gL_tL, gB_tB, gZ_tZ, reduceIte, Nat.reduceEqDiff, Nat.zero_ne_one, Nat.one_ne_zero, Nat.succ_ne_self, forall_eq, vpT, cpyT, nI_leI, nI_ltI, nI_eq, nI_m1, oI_eqn, oI_eqm, va_up_ne', va_up_eq, eq_self_iff_true, true_or, or_true, true_implies, not_true_eq_false, not_false_eq_true, false_implies, and_true, true_and, forall_const, implies_true, ne_eq, Nat.add_sub_cancel, nI_pos, ite_self]
      · rw [hv _ (by omega) (by omega) (by omega) (by omega), hv _ (by omega) (by omega) (by omega) (by omega), hv _ (by omega) (by omega) (by omega) (by omega), va_up_ne' _ _ e, va_up_ne' _ _ e, va_up_ne' _ _ e]
        exact h2 k (by omega)
  by_cases h : o = 0
  · exact c_y (by rw [h]; rfl) key
  · rw [oI_pos (by omega)] at key ⊢
    exact c_n (nI_m1 (by omega)) (m_isPl1 e1 b1 (by omega) (b_1' key))
theorem sim_part {c : Nat} (hc : c + 1 ≤ 512) {nb m st la sp ac bd sg vw : Md} (hR : RW c m st la sp ac bd sg) {x1 x2 : Int32} {Q : Int32 → Md → Md → Md → Md → Int32 → Md → Prop} (hQ : ∀ r st' la' vw' m', RW (c + 1) m' st' la' sp ac bd sg → Fr [(1, 1), (1, 7), (1, 8), (1, 9)] m m' → Q r nb st' la' vw' r m') : qX11_part nb st la vw x1 x2 (fun r nb' st' la' vw' => qX12_part m x1 x2 (fun r' m' => Q r nb' st' la' vw' r' m')) := by
  obtain ⟨A, hm, hw, hs, hn⟩ := id hR
  have hR1 := hR.up hc
  have e1 : gA m 1 1 = nI (A 51 0) := hm.1.2.1
  have s1 : gF la 0 = nI (A 51 0) := hn.1.1.1
  have s0 : gF st 0 = nI (A 50 0) := hs.1
  have b0 : A 50 0 < 400 := hw.1.1
  have b1 : A 51 0 ≤ 40 := hw.1.2.1
  have b8 : A 58 0 ≤ c := hw.1.2.2.2.2.2.2.2.2.1
  have hac : Acyc (A 51 0) (parA A (A 50 0)) := hw.2.2.1.2.2 _
  rcases ix32 x1 (n := A 51 0) (by omega) with h | ⟨p, hp, rfl⟩
  · unfold qX11_part qX12_part
    exact la_has0 s1 (by omega) h (b_0' (m_isPl0 e1 b1 h (b_0' (hQ _ _ _ _ _ hR1 Fr.rf))))
  by_cases hsame : x2 = nI p
  · subst hsame
    unfold qX11_part qX12_part qX12_part_21
    refine la_has1 s1 (by omega) hp (b_1' (c_y rfl (m_isPl1 e1 b1 hp (b_1' (c_n (nI_m1 (by omega)) (m_isPl1 e1 b1 hp (b_1' (c_y' rfl (hQ _ _ _ _ _ hR1 Fr.rf)))))))))
  by_cases hbad : ¬ x2 = -1 ∧ ¬ (0 ≤ x2.toInt ∧ x2.toInt < A 51 0)
  · unfold qX11_part qX12_part
    exact la_has1 s1 (by omega) hp (b_1' (c_n hsame (c_n hbad.1 (la_has0 s1 (by omega) hbad.2 (b_0 (m_isPl1 e1 b1 hp (b_1' (c_n hbad.1 (m_isPl0 e1 b1 hbad.2 (b_0' (hQ _ _ _ _ _ hR1 Fr.rf)))))))))))
  obtain ⟨o, ho, rfl⟩ : ∃ o, o ≤ A 51 0 ∧ x2 = oI o := by
    by_cases h : x2 = -1
    · exact ⟨0, by omega, h⟩
    · rcases ix32 x2 (n := A 51 0) (by omega) with h1 | ⟨q, hq, rfl⟩
      · exact absurd ⟨h, h1⟩ hbad
      · exact ⟨q + 1, by omega, (oI_s q).symm⟩
  have hne : o ≠ p + 1 := fun e => hsame (by rw [e, oI_s])
  have key : qX11_part_37 (fun r nb' st' la' vw' => qX12_part m (nI p) (oI o) (fun r' m' => Q r nb' st' la' vw' r' m')) nb st la vw (nI p) (oI o) := by
    unfold qX11_part_37 qX10_liesWithin
    rw [s0]
    refine N_fillParents hw hn.1.2.1 b0 (fun fp hfp => ?_)
    have hfp' : ∀ j, j < 40 → gA (sA vw 0 fp) 0 j = oI (parA A (A 50 0) j) := fun j hj => hfp j hj
    refine N_isUnder (f := parA A (A 50 0)) (P := A 51 0) b1 hfp' (fun j hj => hac.le hj) (by omega) ho ?_
    cases hu : und0 (parA A (A 50 0)) p 41 o with
    | true =>
      refine fun _ => b_1' ?_
      refine M_part1 hw hc hm hp ho hne (fun _ m' fm => ?_) (fun h => absurd (hu.symm.trans h) (by decide))
      exact hQ _ _ _ _ _ (hR1.fr fm (by decide)) (fm.mono (by decide))
    | false =>
      refine fun _ => b_0' ?_
      refine N_tellPart hw (by omega) hn.1.2.1 hp ho (fun la' fl hl' => b_1 (N_mark s0 b0 ?_))
      refine M_part1 hw hc hm hp ho hne (fun h => absurd (hu.symm.trans h) (by decide)) (fun _ m' fm hm' => ?_)
      have hw' := prt_Wf hw hc hp ho hu
      refine hQ _ _ _ _ _ ⟨prtA A p o, hm', hw', hs.tell hw' rfl (fun y hy => ⟨?_, rfl, fun _ => rfl, rfl, fun _ _ => rfl⟩), ⟨?_, hl', ?_⟩, hn.2⟩ fm
      · rw [prtA_par, if_neg (by omega)]
      · have z := hn.1.1
        unfold Npl at z ⊢
        rw [fl.1 0 (by decide), fl.2.1 1 (by decide), fl.2.1 2 (by decide)]
        exact z
      · have z := hn.1.2.2
        unfold Nco at z ⊢
        rw [fl.1 7 (by decide), fl.2.1 8 (by decide), fl.2.1 9 (by decide), fl.2.1 10 (by decide)]
        exact z
  unfold qX11_part
  refine la_has1 s1 (by omega) hp (b_1' (c_n hsame ?_))
  by_cases h : o = 0
  · exact c_y (by rw [h]; rfl) key
  · rw [oI_pos (by omega)] at key ⊢
    exact c_n (nI_m1 (by omega)) (la_has1 s1 (by omega) (by omega) (b_1 key))
