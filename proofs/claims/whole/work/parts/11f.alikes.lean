def pr2 (A : Nat → Nat → Nat) (y i j : Nat) : Bool := (A 10 j != A 10 i) && alk (spl A j y) (spl A i y)
def alkA (A : Nat → Nat → Nat) (y N : Nat) : Nat := sumF (fun i => cntF (fun j => pr2 A y i j) i) N
theorem sumF_c {f g : Nat → Nat} : ∀ k, (∀ i, i < k → f i = g i) → sumF f k = sumF g k := by
  intro k
  induction k with
  | zero => intro _; rfl
  | succ k ih => intro h; show sumF f k + f k = sumF g k + g k; rw [ih (fun i hi => h i (by omega)), h k (by omega)]
theorem sumF_add (f g : Nat → Nat) : ∀ k, sumF (fun i => f i + g i) k = sumF f k + sumF g k := by
  intro k
  induction k with
  | zero => rfl
  | succ k ih => show sumF (fun i => f i + g i) k + (f k + g k) = (sumF f k + f k) + (sumF g k + g k); rw [ih]; omega
theorem cnt_sum (f : Nat → Bool) : ∀ k, cntF f k = sumF (fun i => if f i then 1 else 0) k := by
  intro k
  induction k with
  | zero => rfl
  | succ k ih => show cntF f k + _ = sumF _ k + _; rw [ih]
theorem swap2 (h : Nat → Nat → Bool) : ∀ N, sumF (fun a => cntF (fun k => h (a + 1 + k) a) (N - 1 - a)) N = sumF (fun i => cntF (fun j => h i j) i) N := by
  intro N
  induction N with
  | zero => rfl
  | succ N ih =>
    show sumF (fun a => cntF (fun k => h (a + 1 + k) a) (N + 1 - 1 - a)) N + cntF (fun k => h (N + 1 + k) N) (N + 1 - 1 - N) = sumF (fun i => cntF (fun j => h i j) i) N + cntF (fun j => h N j) N
    rw [← ih, cnt_sum (fun j => h N j) N, ← sumF_add, show N + 1 - 1 - N = 0 by omega]
    show _ + 0 = _
    rw [Nat.add_zero]
    refine sumF_c N (fun a ha => ?_)
    obtain ⟨d, hd⟩ : ∃ d, N + 1 - 1 - a = d + 1 := ⟨N - 1 - a, by omega⟩
    rw [hd, show N - 1 - a = d by omega]
    show cntF _ d + (if h (a + 1 + d) a then 1 else 0) = _
    rw [show a + 1 + d = N by omega]
def Asd (vw : Md) (A : Nat → Nat → Nat) (y i : Nat) : Prop := ∀ a, a < i → gA vw 9 a = nI (spl A a y).length ∧ ∀ k, k < (spl A a y).length → (gB vw 10 (36 * a + k)).toInt32 = nI (lch (spl A a y) k)
theorem N_areSpelledAlike {vw : Md} {A : Nat → Nat → Nat} {c y i j : Nat} (hw : Wf A c) (hi : i < A 52 0) (hj : j < A 52 0) (h : Asd vw A y (i + 1)) (hji : j < i) {Q : Int32 → Md → Prop} (hQ : Q (bI (alk (spl A j y) (spl A i y))) vw) : qX10_areSpelledAlike vw (nI i) (nI j) Q := by
  have b2 : A 52 0 ≤ 80 := hw.1.2.2.1
  obtain ⟨i1, i2⟩ := h i (by omega)
  obtain ⟨j1, j2⟩ := h j (by omega)
  have li := splL hw i y
  have lj := splL hw j y
  unfold qX10_areSpelledAlike
  rw [nI_clamp (by omega), nI_clamp (by omega), i1, j1]
  refine ⟨vp_in_nI (by omega) (by decide), vp_in_nI (by omega) (by decide), c_eq rfl rfl (by omega) (by omega) (fun e => ?_) (fun e => ?_)⟩
  · refine pk_loop (fun k x (z : Unit) => qX10_areSpelledAlike_22 Q k vw (nI i) (nI j) (nI (spl A i y).length) (nI x)) (fun x z => ∀ k, k < x → lch (spl A j y) k = lch (spl A i y) k) (spl A i y).length 0 () (by omega) (fun k hk => by omega) (fun k z hI => ?_) (fun k x z hx hI ih => ?_)
    · unfold qX10_areSpelledAlike_22
      have : alk (spl A j y) (spl A i y) = true := by
        unfold alk; rw [eqB_t _ hI, e, beq_self_eq_true]; rfl
      rw [this] at hQ
      exact c_y (nI_le (Nat.le_refl _) (by omega)) hQ
    · have q1 := i2 x hx
      have q2 := j2 x (by omega)
      have l1 := lch_lt (splO hw hi y) x
      have l2 := lch_lt (splO hw hj y) x
      unfold qX10_areSpelledAlike_22
      rw [nl_36, pk_mul, pk_mul, nI_add, nI_add, nI_clamp (by omega), nI_clamp (by omega), Nat.mul_comm i 36, Nat.mul_comm j 36, q1, q2, ofI1, nI_add]
      refine c_n (nI_ge hx (by omega)) ⟨vp_in_nI (by omega) (by decide), vp_in_nI (by omega) (by decide), c_eq rfl rfl (by omega) (by omega) (fun e2 => ih () (fun k hk => ?_)) (fun e2 => ?_)⟩
      · by_cases ek : k = x
        · rw [ek]; exact e2.symm
        · exact hI k (by omega)
      · have : alk (spl A j y) (spl A i y) = false := by
          unfold alk; rw [eqB_f _ x hx (fun q => e2 q.symm), Bool.and_false]
        rw [this] at hQ; exact hQ
  · have : alk (spl A j y) (spl A i y) = false := by
      unfold alk; rw [beq_false_of_ne (fun q => e q.symm), Bool.false_and]
    rw [this] at hQ; exact hQ
theorem N_spellAside {vw o1 sp : Md} {A : Nat → Nat → Nat} {c y i : Nat} (hw : Wf A c) (hn : Nsc sp A) (hi : i < A 52 0) (hy : y < 400) (h : Asd vw A y i) {Q : Md → Md → Md → Prop} (hQ : ∀ vw' o1', Asd vw' A y (i + 1) → Q vw' o1' sp) : qX10_spellAside vw o1 sp (nI i) (nI y) Q := by
  have b2 : A 52 0 ≤ 80 := hw.1.2.2.1
  have li := splL hw i y
  unfold qX10_spellAside
  intro w hw1
  refine N_spellInto hw hn.1 hn.2 hi hy (RowIs_nil (u := w) (by rw [hw1]; rfl)) (by simp) (fun v f1 r1 => ?_)
  rw [List.nil_append] at r1
  have e36 : min (spl A i y).length 36 = (spl A i y).length := by omega
  have c36 : i * 36 = 36 * i := Nat.mul_comm _ _
  simp (disch := omega) only [r1.1, e36, c36, ofI1, nI_add, pk_mul, pk_sub, nI_clamp, imin_nI, imax_nI, nl_0, nl_1, nl_2, nl_3, nl_4, nl_5, nl_6, nl_7, nl_8, nl_9, nl_10, nl_11, nl_12, nl_13, nl_15, nl_16, nl_20, nl_24, nl_26, nl_30, nl_32, nl_36, nl_39, nl_40, nl_45, nl_48, nl_50, nl_57, nl_59, nl_60, nl_61, nl_62, nl_64, nl_72, nl_73, nl_80, nl_90, nl_97, nl_99, nl_100, nl_120, nl_122, nl_123, nl_127, nl_128, nl_199, nl_200, nl_255, nl_256, nl_290, nl_399, nl_400, nl_500, nl_512, nl_520, nl_600, nl_999, nl_1000, nl_2000, nl_9999, nl_10000, nl_14, nl_17, nl_18, nl_19, nl_21, nl_22, nl_23, nl_25, nl_27, nl_28, nl_29, nl_31, nl_33, nl_34, nl_35, nl_47, nl_51, nl_63, nl_110, nl_195, nl_240, nl_1370, nl_3710, nl_6030, nl_6690, nl_7490, nl_7610, nl_9170, nl_11570, gA_sF, gL_sF, gB_sF, gZ_sF, gO_sF, gX_sF, gF_sA, gL_sA, gB_sA, gZ_sA, gO_sA, gX_sA, gF_sL, gA_sL, gB_sL, gZ_sL, gO_sL, gX_sL, gF_sB, gA_sB, gL_sB, gZ_sB, gO_sB, gX_sB, gF_sZ, gA_sZ, gL_sZ, gB_sZ, gO_sZ, gX_sZ, gF_sO, gA_sO, gL_sO, gB_sO, gZ_sO, gX_sO, gF_sX, gA_sX, gL_sX, gB_sX, gZ_sX, gO_sX, gF_tA, gL_tA, gB_tA, gZ_tA, gO_tA, gX_tA, gF_tL, gA_tL, gB_tL, gZ_tL, gO_tL, gX_tL, gF_tB, gA_tB, gL_tB, gZ_tB, gO_tB, gX_tB, gF_tZ, gA_tZ, gL_tZ, gB_tZ, gO_tZ, gX_tZ, gF_sF, gA_sA, gL_sL, gB_sB, gZ_sZ, gO_sO, gX_sX, gA_tA, gL_tL, gB_tB, gZ_tZ, reduceIte, Nat.reduceEqDiff, Nat.zero_ne_one, Nat.one_ne_zero, Nat.succ_ne_self, forall_eq, vpT, cpyT, nI_leI, nI_ltI, nI_eq, nI_m1, oI_eqn, oI_eqm, va_up_ne', va_up_eq, eq_self_iff_true, true_or, or_true, true_implies, not_true_eq_false, not_false_eq_true, false_implies, and_true, true_and, forall_const, implies_true, ne_eq, Nat.add_sub_cancel, nI_pos, ite_self]
  refine hQ _ _ (fun a ha => ?_)
  by_cases e : a = i
  · subst e
    refine ⟨by simp (disch := omega) only [ofI1, nI_add, pk_mul, pk_sub, nI_clamp, imin_nI, imax_nI, nl_0, nl_1, nl_2, nl_3, nl_4, nl_5, nl_6, nl_7, nl_8, nl_9, nl_10, nl_11, nl_12, nl_13, nl_15, nl_16, nl_20, nl_24, nl_26, nl_30, nl_32, nl_36, nl_39, nl_40, nl_45, nl_48, nl_50, nl_57, nl_59, nl_60, nl_61, nl_62, nl_64, nl_72, nl_73, nl_80, nl_90, nl_97, nl_99, nl_100, nl_120, nl_122, nl_123, nl_127, nl_128, nl_199, nl_200, nl_255, nl_256, nl_290, nl_399, nl_400, nl_500, nl_512, nl_520, nl_600, nl_999, nl_1000, nl_2000, nl_9999, nl_10000, nl_14, nl_17, nl_18, nl_19, nl_21, nl_22, nl_23, nl_25, nl_27, nl_28, nl_29, nl_31, nl_33, nl_34, nl_35, nl_47, nl_51, nl_63, nl_110, nl_195, nl_240, nl_1370, nl_3710, nl_6030, nl_6690, nl_7490, nl_7610, nl_9170, nl_11570, gA_sF, gL_sF, gB_sF, gZ_sF, gO_sF, gX_sF, gF_sA, gL_sA, gB_sA, gZ_sA, gO_sA, gX_sA, gF_sL, gA_sL, gB_sL, gZ_sL, gO_sL, gX_sL, gF_sB, gA_sB, gL_sB, gZ_sB, gO_sB, gX_sB, gF_sZ, gA_sZ, gL_sZ, gB_sZ, gO_sZ, gX_sZ, gF_sO, gA_sO, gL_sO, gB_sO, gZ_sO, gX_sO, gF_sX, gA_sX, gL_sX, gB_sX, gZ_sX, gO_sX, gF_tA, gL_tA, gB_tA, gZ_tA, gO_tA, gX_tA, gF_tL, gA_tL, gB_tL, gZ_tL, gO_tL, gX_tL, gF_tB, gA_tB, gL_tB, gZ_tB, gO_tB, gX_tB, gF_tZ, gA_tZ, gL_tZ, gB_tZ, gO_tZ, gX_tZ, gF_sF, gA_sA, gL_sL, gB_sB, gZ_sZ, gO_sO, gX_sX, gA_tA, gL_tL, gB_tB, gZ_tZ, reduceIte, Nat.reduceEqDiff, Nat.zero_ne_one, Nat.one_ne_zero, Nat.succ_ne_self, forall_eq, vpT, cpyT, nI_leI, nI_ltI, nI_eq, nI_m1, oI_eqn, oI_eqm, va_up_ne', va_up_eq, eq_self_iff_true, true_or, or_true, true_implies, not_true_eq_false, not_false_eq_true, false_implies, and_true, true_and, forall_const, implies_true, ne_eq, Nat.add_sub_cancel, nI_pos, ite_self], fun k hk => ?_⟩
    simp (disch := omega) only [ofI1, nI_add, pk_mul, pk_sub, nI_clamp, imin_nI, imax_nI, nl_0, nl_1, nl_2, nl_3, nl_4, nl_5, nl_6, nl_7, nl_8, nl_9, nl_10, nl_11, nl_12, nl_13, nl_15, nl_16, nl_20, nl_24, nl_26, nl_30, nl_32, nl_36, nl_39, nl_40, nl_45, nl_48, nl_50, nl_57, nl_59, nl_60, nl_61, nl_62, nl_64, nl_72, nl_73, nl_80, nl_90, nl_97, nl_99, nl_100, nl_120, nl_122, nl_123, nl_127, nl_128, nl_199, nl_200, nl_255, nl_256, nl_290, nl_399, nl_400, nl_500, nl_512, nl_520, nl_600, nl_999, nl_1000, nl_2000, nl_9999, nl_10000, nl_14, nl_17, nl_18, nl_19, nl_21, nl_22, nl_23, nl_25, nl_27, nl_28, nl_29, nl_31, nl_33, nl_34, nl_35, nl_47, nl_51, nl_63, nl_110, nl_195, nl_240, nl_1370, nl_3710, nl_6030, nl_6690, nl_7490, nl_7610, nl_9170, nl_11570, gA_sF, gL_sF, gB_sF, gZ_sF, gO_sF, gX_sF, gF_sA, gL_sA, gB_sA, gZ_sA, gO_sA, gX_sA, gF_sL, gA_sL, gB_sL, gZ_sL, gO_sL, gX_sL, gF_sB, gA_sB, gL_sB, gZ_sB, gO_sB, gX_sB, gF_sZ, gA_sZ, gL_sZ, gB_sZ, gO_sZ, gX_sZ, gF_sO, gA_sO, gL_sO, gB_sO, gZ_sO, gX_sO, gF_sX, gA_sX, gL_sX, gB_sX, gZ_sX, gO_sX, gF_tA, gL_tA, gB_tA, gZ_tA, gO_tA, gX_tA, gF_tL, gA_tL, gB_tL, gZ_tL, gO_tL, gX_tL, gF_tB, gA_tB, gL_tB, gZ_tB, gO_tB, gX_tB, gF_tZ, gA_tZ, gL_tZ, gB_tZ, gO_tZ, gX_tZ, gF_sF, gA_sA, gL_sL, gB_sB, gZ_sZ, gO_sO, gX_sX, gA_tA, gL_tL, gB_tB, gZ_tZ, reduceIte, Nat.reduceEqDiff, Nat.zero_ne_one, Nat.one_ne_zero, Nat.succ_ne_self, forall_eq, vpT, cpyT, nI_leI, nI_ltI, nI_eq, nI_m1, oI_eqn, oI_eqm, va_up_ne', va_up_eq, eq_self_iff_true, true_or, or_true, true_implies, not_true_eq_false, not_false_eq_true, false_implies, and_true, true_and, forall_const, implies_true, ne_eq, Nat.add_sub_cancel, nI_pos, ite_self]
    rw [pk_cpy_in (by omega) (by omega), show 0 + (36 * a + k - 36 * a) = k by omega]
    exact r1.ch hk
  · have la := splL hw a y
    obtain ⟨h1, h2⟩ := h a (by omega)
    refine ⟨by simp (disch := omega) only [ofI1, nI_add, pk_mul, pk_sub, nI_clamp, imin_nI, imax_nI, nl_0, nl_1, nl_2, nl_3, nl_4, nl_5, nl_6, nl_7, nl_8, nl_9, nl_10, nl_11, nl_12, nl_13, nl_15, nl_16, nl_20, nl_24, nl_26, nl_30, nl_32, nl_36, nl_39, nl_40, nl_45, nl_48, nl_50, nl_57, nl_59, nl_60, nl_61, nl_62, nl_64, nl_72, nl_73, nl_80, nl_90, nl_97, nl_99, nl_100, nl_120, nl_122, nl_123, nl_127, nl_128, nl_199, nl_200, nl_255, nl_256, nl_290, nl_399, nl_400, nl_500, nl_512, nl_520, nl_600, nl_999, nl_1000, nl_2000, nl_9999, nl_10000, nl_14, nl_17, nl_18, nl_19, nl_21, nl_22, nl_23, nl_25, nl_27, nl_28, nl_29, nl_31, nl_33, nl_34, nl_35, nl_47, nl_51, nl_63, nl_110, nl_195, nl_240, nl_1370, nl_3710, nl_6030, nl_6690, nl_7490, nl_7610, nl_9170, nl_11570, gA_sF, gL_sF, gB_sF, gZ_sF, gO_sF, gX_sF, gF_sA, gL_sA, gB_sA, gZ_sA, gO_sA, gX_sA, gF_sL, gA_sL, gB_sL, gZ_sL, gO_sL, gX_sL, gF_sB, gA_sB, gL_sB, gZ_sB, gO_sB, gX_sB, gF_sZ, gA_sZ, gL_sZ, gB_sZ, gO_sZ, gX_sZ, gF_sO, gA_sO, gL_sO, gB_sO, gZ_sO, gX_sO, gF_sX, gA_sX, gL_sX, gB_sX, gZ_sX, gO_sX, gF_tA, gL_tA, gB_tA, gZ_tA, gO_tA, gX_tA, gF_tL, gA_tL, gB_tL, gZ_tL, gO_tL, gX_tL, gF_tB, gA_tB, gL_tB, gZ_tB, gO_tB, gX_tB, gF_tZ, gA_tZ, gL_tZ, gB_tZ, gO_tZ, gX_tZ, gF_sF, gA_sA, gL_sL, gB_sB, gZ_sZ, gO_sO, gX_sX, gA_tA, gL_tL, gB_tB, gZ_tZ, reduceIte, Nat.reduceEqDiff, Nat.zero_ne_one, Nat.one_ne_zero, Nat.succ_ne_self, forall_eq, vpT, cpyT, nI_leI, nI_ltI, nI_eq, nI_m1, oI_eqn, oI_eqm, va_up_ne', va_up_eq, eq_self_iff_true, true_or, or_true, true_implies, not_true_eq_false, not_false_eq_true, false_implies, and_true, true_and, forall_const, implies_true, ne_eq, Nat.add_sub_cancel, nI_pos, ite_self]; exact h1, fun k hk => ?_⟩
    simp (disch := omega) only [ofI1, nI_add, pk_mul, pk_sub, nI_clamp, imin_nI, imax_nI, nl_0, nl_1, nl_2, nl_3, nl_4, nl_5, nl_6, nl_7, nl_8, nl_9, nl_10, nl_11, nl_12, nl_13, nl_15, nl_16, nl_20, nl_24, nl_26, nl_30, nl_32, nl_36, nl_39, nl_40, nl_45, nl_48, nl_50, nl_57, nl_59, nl_60, nl_61, nl_62, nl_64, nl_72, nl_73, nl_80, nl_90, nl_97, nl_99, nl_100, nl_120, nl_122, nl_123, nl_127, nl_128, nl_199, nl_200, nl_255, nl_256, nl_290, nl_399, nl_400, nl_500, nl_512, nl_520, nl_600, nl_999, nl_1000, nl_2000, nl_9999, nl_10000, nl_14, nl_17, nl_18, nl_19, nl_21, nl_22, nl_23, nl_25, nl_27, nl_28, nl_29, nl_31, nl_33, nl_34, nl_35, nl_47, nl_51, nl_63, nl_110, nl_195, nl_240, nl_1370, nl_3710, nl_6030, nl_6690, nl_7490, nl_7610, nl_9170, nl_11570, gA_sF, gL_sF, gB_sF, gZ_sF, gO_sF, gX_sF, gF_sA, gL_sA, gB_sA, gZ_sA, gO_sA, gX_sA, gF_sL, gA_sL, gB_sL, gZ_sL, gO_sL, gX_sL, gF_sB, gA_sB, gL_sB, gZ_sB, gO_sB, gX_sB, gF_sZ, gA_sZ, gL_sZ, gB_sZ, gO_sZ, gX_sZ, gF_sO, gA_sO, gL_sO, gB_sO, gZ_sO, gX_sO, gF_sX, gA_sX, gL_sX, gB_sX, gZ_sX, gO_sX, gF_tA, gL_tA, gB_tA, gZ_tA, gO_tA, gX_tA, gF_tL, gA_tL, gB_tL, gZ_tL, gO_tL, gX_tL, gF_tB, gA_tB, gL_tB, gZ_tB, gO_tB, gX_tB, gF_tZ, gA_tZ, gL_tZ, gB_tZ, gO_tZ, gX_tZ, gF_sF, gA_sA, gL_sL, gB_sB, gZ_sZ, gO_sO, gX_sX, gA_tA, gL_tL, gB_tB, gZ_tZ, reduceIte, Nat.reduceEqDiff, Nat.zero_ne_one, Nat.one_ne_zero, Nat.succ_ne_self, forall_eq, vpT, cpyT, nI_leI, nI_ltI, nI_eq, nI_m1, oI_eqn, oI_eqm, va_up_ne', va_up_eq, eq_self_iff_true, true_or, or_true, true_implies, not_true_eq_false, not_false_eq_true, false_implies, and_true, true_and, forall_const, implies_true, ne_eq, Nat.add_sub_cancel, nI_pos, ite_self]
    rw [pk_cpy_out (by omega)]
    exact h2 k hk
theorem N_alikePairs {vw o1 sp : Md} {A : Nat → Nat → Nat} {c y : Nat} (hw : Wf A c) (hn : Nsc sp A) (hy : y < 400) {Q : Int32 → Md → Md → Md → Prop} (hQ : ∀ vw' o1', Q (nI (alkA A y (A 52 0))) vw' o1' sp) : qX10_alikePairs vw o1 sp (nI y) Q := by
  have b1 : A 51 0 ≤ 40 := hw.1.2.1
  have b2 : A 52 0 ≤ 80 := hw.1.2.2.1
  unfold qX10_alikePairs
  refine pk_loop (fun k i (s : Md × Md × Nat) => qX10_alikePairs_5 Q k s.1 s.2.1 sp (nI y) (nI s.2.2) (nI i)) (fun i s => Asd s.1 A y i ∧ s.2.2 = alkA A y i) (A 52 0) 0 (vw, o1, 0) (by omega) ⟨fun a ha => by omega, rfl⟩ (fun k s hI => ?_) (fun ko i s hi hI ih => ?_)
  · unfold qX10_alikePairs_5
    rw [hn.1.1, hI.2]
    exact c_y (nI_le (Nat.le_refl _) (by omega)) (hQ _ _)
  · unfold qX10_alikePairs_5
    rw [hn.1.1]
    refine c_n (nI_ge hi (by omega)) (N_spellAside hw hn hi hy hI.1 (fun v1 v2 hA => ?_))
    refine pk_loop (fun k j (t : Nat) => qX10_alikePairs_25 Q (qX10_alikePairs_5 Q ko) k v1 v2 sp (nI y) (nI t) (nI i) (nI j)) (fun j t => t = alkA A y i + cntF (fun j => pr2 A y i j) j) i 0 s.2.2 (by omega) hI.2 (fun k t hJ => ?_) (fun k j t hj hJ jh => ?_)
    · unfold qX10_alikePairs_25
      rw [ofI1, nI_add]
      exact c_y (nI_le (Nat.le_refl _) (by omega)) (ih (v1, v2, t) ⟨hA, hJ⟩)
    · have p1 := (hn.1.2 i hi).1
      have p2 := (hn.1.2 j (by omega)).1
      have w1 := (hw.2.2.2.2.1 i hi).1
      have w2 := (hw.2.2.2.2.1 j (by omega)).1
      have ec : cntF (fun j => pr2 A y i j) (j + 1) = cntF (fun j => pr2 A y i j) j + (if pr2 A y i j then 1 else 0) := rfl
      unfold qX10_alikePairs_25
      rw [nI_clamp (by omega), nI_clamp (by omega), p1, p2, ofI1, nI_add, nI_add]
      refine c_n (nI_ge hj (by omega)) ⟨vp_in_nI (by omega) (by decide), vp_in_nI (by omega) (by decide), c_eq rfl rfl (by omega) (by omega) (fun e => jh t ?_) (fun e => N_areSpelledAlike hw hi (by omega) hA hj ?_)⟩
      · have : pr2 A y i j = false := by unfold pr2; rw [e, bne_self_eq_false, Bool.false_and]
        rw [ec, this, hJ]; rfl
      · have hp : pr2 A y i j = alk (spl A j y) (spl A i y) := by
          unfold pr2; rw [show (A 10 j != A 10 i) = true from bne_iff_ne.mpr (fun q => e q.symm), Bool.true_and]
        rw [← hp]
        cases hb : pr2 A y i j with
        | true =>
          refine b_1' ?_
          rw [nI_add]
          exact jh (t + 1) (by rw [ec, hb, hJ]; rfl)
        | false => exact b_0' (jh t (by rw [ec, hb, hJ]; rfl))
theorem M_alikes {m : Md} {A : Nat → Nat → Nat} {c y : Nat} (hw : Wf A c) (hm : MW (gA m 1) A) (hy : y < 400) {Q : Int32 → Md → Prop} (hQ : ∀ m', Fr [(0, 21), (1, 19), (1, 20), (0, 26), (1, 25)] m m' → Q (nI (alkA A y (A 52 0))) m') : ∃ n', qX12_alikes_14 Q n' m (nI y) 0 0 := by
  have e2 : gA m 1 2 = nI (A 52 0) := hm.1.2.2.1
  have b1 : A 51 0 ≤ 40 := hw.1.2.1
  have b2 : A 52 0 ≤ 80 := hw.1.2.2.1
  have esw : alkA A y (A 52 0) = sumF (fun a => cntF (fun k => pr2 A y (a + 1 + k) a) (A 52 0 - 1 - a)) (A 52 0) := (swap2 (pr2 A y) (A 52 0)).symm
  rw [esw] at hQ
  refine pk_loop (fun k a (s : Md × Nat) => qX12_alikes_14 Q k s.1 (nI y) (nI s.2) (nI a)) (fun a s => Fr [(0, 21), (1, 19), (1, 20), (0, 26), (1, 25)] m s.1 ∧ s.2 = sumF (fun a => cntF (fun k => pr2 A y (a + 1 + k) a) (A 52 0 - 1 - a)) a) (A 52 0) 0 (m, 0) (by omega) ⟨Fr.rf, rfl⟩ (fun k s hI => ?_) (fun ko a s ha hI ih => ?_)
  · obtain ⟨i1, i2⟩ := hI
    unfold qX12_alikes_14
    rw [nl_2, nI_clamp (by omega), i1.2.1 1 (by decide), e2, i2]
    exact ⟨vp_in_nI (by decide) (by decide), c_y (nI_le (Nat.le_refl _) (by omega)) (hQ s.1 i1)⟩
  · obtain ⟨u, x⟩ := s
    obtain ⟨i1, i2⟩ := hI
    dsimp only at i1 i2 ⊢
    have la := splL hw a y
    unfold qX12_alikes_14
    rw [nl_2, nI_clamp (by omega), i1.2.1 1 (by decide), e2]
    refine ⟨vp_in_nI (by decide) (by decide), c_n (nI_ge ha (by omega)) ?_⟩
    intro w hw1
    have f1 : Fr [(0, 21), (1, 19), (1, 20), (0, 26), (1, 25)] m w := i1.tr (by rw [hw1]; exact Fr.sF 21 _ (by decide))
    refine M_spells hw (by rw [f1.2.1 1 (by decide)]; exact hm) ha hy (Laid_nil (u := w) (by rw [hw1]; rfl)) (by simp) (fun m2 f2 h2 => ?_)
    rw [List.nil_append] at h2
    refine M_holds h2 (by omega) (fun m3 f3 h3 => ?_)
    have f4 : Fr [(0, 21), (1, 19), (1, 20), (0, 26), (1, 25)] m m3 := f1.tr ((f2.mono (by decide)).tr (f3.mono (by decide)))
    rw [nl_1, nI_add]
    refine pk_loop (fun k j (s : Md × Nat) => qX12_alikes_44 Q (qX12_alikes_14 Q ko) k s.1 (nI y) (nI s.2) (nI a) (nI (a + 1 + j))) (fun j s => Fr [(0, 21), (1, 19), (1, 20), (0, 26), (1, 25)] m s.1 ∧ Held s.1 (spl A a y) ∧ s.2 = x + cntF (fun k => pr2 A y (a + 1 + k) a) j) (A 52 0 - 1 - a) 0 (m3, x) (by omega) ⟨f4, h3, rfl⟩ (fun k s hJ => ?_) (fun k j s hj hJ jh => ?_)
    · obtain ⟨j1, j2, j3⟩ := hJ
      unfold qX12_alikes_44
      rw [nl_2, nI_clamp (by omega), j1.2.1 1 (by decide), e2, ofI1, nI_add]
      exact ⟨vp_in_nI (by decide) (by decide), c_y (nI_le (by omega) (by omega)) (ih (s.1, s.2) ⟨j1, by show s.2 = sumF _ a + cntF _ _; rw [j3, i2]⟩)⟩
    · obtain ⟨v, t⟩ := s
      obtain ⟨j1, j2, j3⟩ := hJ
      dsimp only at j1 j2 j3 ⊢
      have hb : a + 1 + j < A 52 0 := by omega
      have p1 := (hm.2.2.2.2.1 a ha).1
      have p2 := (hm.2.2.2.2.1 (a + 1 + j) hb).1
      have w1 := (hw.2.2.2.2.1 a ha).1
      have w2 := (hw.2.2.2.2.1 (a + 1 + j) hb).1
      have lb := splL hw (a + 1 + j) y
      have ec : cntF (fun k => pr2 A y (a + 1 + k) a) (j + 1) = cntF (fun k => pr2 A y (a + 1 + k) a) j + (if pr2 A y (a + 1 + j) a then 1 else 0) := rfl
      have g1 : gA v 1 = gA m 1 := j1.2.1 1 (by decide)
      unfold qX12_alikes_44 qX12_nameIs qX12_alikes_99
      rw [nl_2, nI_clamp (by omega), g1, e2]
      refine ⟨vp_in_nI (by decide) (by decide), c_n (nI_ge hb (by omega)) ?_⟩
      dsimp only
      rw [nl_90, nl_16, nl_0, pk_mul, pk_mul, nI_add, nI_add, nI_add, nI_add, nI_clamp (by omega), nI_clamp (by omega), Nat.add_zero, Nat.add_zero, g1, p1, p2, ofI1, show nI (a + 1 + j) + nI 1 = nI (a + 1 + (j + 1)) from nI_add _ _]
      refine ⟨vp_in_nI (by omega) (by decide), vp_in_nI (by omega) (by decide), c_eq' rfl rfl (by omega) (by omega) (fun e => ?_) (fun e => ?_)⟩
      · refine jh (v, t) ⟨j1, j2, ?_⟩
        have : pr2 A y (a + 1 + j) a = false := by unfold pr2; rw [e, bne_self_eq_false, Bool.false_and]
        show t = _
        rw [ec, this, j3]; rfl
      · intro w5 hw5
        have f5 : Fr [(0, 21)] v w5 := by rw [hw5]; exact Fr.sF 21 _ (by decide)
        have f6 : Fr [(0, 21), (1, 19), (1, 20), (0, 26), (1, 25)] m w5 := j1.tr (f5.mono (by decide))
        refine M_spells hw (by rw [f6.2.1 1 (by decide)]; exact hm) hb hy (Laid_nil (u := w5) (by rw [hw5]; rfl)) (by simp) (fun m7 f7 h7 => ?_)
        rw [List.nil_append] at h7
        have hH := (j2.fr f5 (by decide) (by decide)).fr f7 (by decide) (by decide)
        have f8 := f6.tr (f7.mono (by decide))
        refine M_isAlike hH h7 (by omega) (by omega) (splO hw ha y) (splO hw hb y) ?_
        have hp : pr2 A y (a + 1 + j) a = alk (spl A a y) (spl A (a + 1 + j) y) := by
          unfold pr2; rw [show (A 10 a != A 10 (a + 1 + j)) = true from bne_iff_ne.mpr e, Bool.true_and]
        rw [← hp]
        cases hb : pr2 A y (a + 1 + j) a with
        | true =>
          refine b_1' ?_
          rw [nl_1, nI_add]
          exact jh (m7, t + 1) ⟨f8, hH, by show t + 1 = _; rw [ec, hb, j3]; rfl⟩
        | false =>
          refine b_0' ?_
          rw [nI_add]
          exact jh (m7, t) ⟨f8, hH, by show t = _; rw [ec, hb, j3]; rfl⟩
theorem sim_alikes {c : Nat} {nb m st la sp ac bd sg vw o1 : Md} (hR : RW c m st la sp ac bd sg) {x1 : Int32} {Q : Int32 → Md → Md → Md → Md → Md → Int32 → Md → Prop} (hQ : ∀ r vw' o1' m', Fr [(0, 21), (1, 19), (1, 20), (0, 26), (1, 25)] m m' → Q r nb st sp vw' o1' r m') : qX11_alikes nb st sp vw o1 x1 (fun r nb' st' sp' vw' o1' => qX12_alikes m x1 (fun r' m' => Q r nb' st' sp' vw' o1' r' m')) := by
  obtain ⟨A, hm, hw, hs, hn⟩ := id hR
  unfold qX11_alikes qX12_alikes
  rcases ix32 x1 (n := 400) (by omega) with h | ⟨y, hy, rfl⟩
  · exact q_yr0 h (b_0' (m_yr0 h (b_0 (hQ _ _ _ _ Fr.rf))))
  · exact q_yr1 hy (b_1' (N_alikePairs hw hn.2.1 hy (fun v1 v2 => m_yr1 hy (b_1 (M_alikes hw hm hy (fun m' fm => hQ _ _ _ _ fm))))))
