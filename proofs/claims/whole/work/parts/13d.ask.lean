def clsh (A : Nat → Nat → Nat) (n k : Nat) : Prop := A 38 k = 1 ∧ A 10 (A 37 k) = A 10 n
def askA (A : Nat → Nat → Nat) (n : Nat) : Nat → Nat → Nat := upc (upC (upc (upc A 37 (A 55 0) n) 38 (A 55 0) 1) 39 (fun i => if i < 9 * A 55 0 then A 39 i else 0)) 55 0 (A 55 0 + 1)
theorem N_open {bd : Md} {A : Nat → Nat → Nat} {c n : Nat} (hw : Wf A c) (h : Nhe bd A) (hn : n < A 52 0) {Q : Int32 → Md → Prop} (h3 : A 55 0 = 60 → Q (-3) bd) (h5 : A 55 0 < 60 → (∃ k, k < A 55 0 ∧ clsh A n k) → Q (-5) bd) (h0 : A 55 0 < 60 → (∀ k, k < A 55 0 → ¬ clsh A n k) → ∀ bd', Fr [(0, 0), (1, 1), (1, 2), (4, 3), (1, 4), (1, 5)] bd bd' → Nhe bd' (askA A n) → Q (nI (A 55 0)) bd') : qX1_open bd (nI n) (nI (A 10 n)) Q := by
  have b1 : A 51 0 ≤ 40 := hw.1.2.1
  have b2 : A 52 0 ≤ 80 := hw.1.2.2.1
  have b5 : A 55 0 ≤ 60 := hw.1.2.2.2.2.2.1
  have wn := (hw.2.2.2.2.1 n hn).1
  unfold qX1_open
  rw [h.1]
  refine c_lt rfl nl_60 (by omega) (by decide) (fun hlt => ?_) (fun hge => h3 (by omega))
  refine pk_loop (fun k i (z : Unit) => qX1_open_14 Q k bd (nI n) (nI (A 10 n)) (nI i)) (fun i z => ∀ k, k < i → ¬ clsh A n k) (A 55 0) 0 () (by omega) (fun k hk => by omega) (fun k z hI => ?_) (fun k i z hi hI ih => ?_)
  · unfold qX1_open_14
    simp (disch := omega) only [h.1, Nat.le_refl, ofI1, nI_add, pk_mul, pk_sub, nI_clamp, imin_nI, imax_nI, nl_0, nl_1, nl_2, nl_3, nl_4, nl_5, nl_6, nl_7, nl_8, nl_9, nl_10, nl_11, nl_12, nl_13, nl_15, nl_16, nl_20, nl_24, nl_26, nl_30, nl_32, nl_36, nl_39, nl_40, nl_45, nl_48, nl_50, nl_57, nl_59, nl_60, nl_61, nl_62, nl_64, nl_72, nl_73, nl_80, nl_90, nl_97, nl_99, nl_100, nl_120, nl_122, nl_123, nl_127, nl_128, nl_199, nl_200, nl_255, nl_256, nl_290, nl_399, nl_400, nl_500, nl_512, nl_520, nl_600, nl_999, nl_1000, nl_2000, nl_9999, nl_10000, nl_14, nl_17, nl_18, nl_19, nl_21, nl_22, nl_23, nl_25, nl_27, nl_28, nl_29, nl_31, nl_33, nl_34, nl_35, nl_47, nl_51, nl_63, nl_110, nl_195, nl_240, nl_1370, nl_3710, nl_6030, nl_6690, nl_7490, nl_7610, nl_9170, nl_11570, gA_sF, gL_sF, gB_sF, gZ_sF, gO_sF, gX_sF, gF_sA, gL_sA, gB_sA, gZ_sA, gO_sA, gX_sA, gF_sL, gA_sL, gB_sL, gZ_sL, gO_sL, gX_sL, gF_sB, gA_sB, gL_sB, gZ_sB, gO_sB, gX_sB, gF_sZ, gA_sZ, gL_sZ, gB_sZ, gO_sZ, gX_sZ, gF_sO, gA_sO, gL_sO, gB_sO, gZ_sO, gX_sO, gF_sX, gA_sX, gL_sX, gB_sX, gZ_sX, gO_sX, gF_tA, gL_tA, gB_tA, gZ_tA, gO_tA, gX_tA, gF_tL, gA_tL, gB_tL, gZ_tL, gO_tL, gX_tL, gF_tB, gA_tB, gL_tB, gZ_tB, gO_tB, gX_tB, gF_tZ, gA_tZ, gL_tZ, gB_tZ, gO_tZ, gX_tZ, gF_sF, gA_sA, gL_sL, gB_sB, gZ_sZ, gO_sO, gX_sX, gA_tA, gL_tL, gB_tB, gZ_tZ, reduceIte, Nat.reduceEqDiff, Nat.zero_ne_one, Nat.one_ne_zero, Nat.succ_ne_self, forall_eq, vpT, cpyT, nI_leI, nI_ltI, nI_eq, nI_m1, oI_eqn, oI_eqm, va_up_ne', va_up_eq, eq_self_iff_true, true_or, or_true, true_implies, not_true_eq_false, not_false_eq_true, false_implies, and_true, true_and, forall_const, implies_true, ne_eq, Nat.add_sub_cancel, nI_pos, ite_self]
    refine h0 hlt hI _ ?_ ⟨rfl, fun h' hh' => ?_⟩
    · refine Fr.tr (Fr.tr (Fr.tr (Fr.tr (Fr.tr (Fr.tA 1 _ _ ?_) (Fr.tA 2 _ _ ?_)) (Fr.tZ 3 _ _ ?_)) (Fr.tA 4 _ _ ?_)) (Fr.tA 5 _ _ ?_)) (Fr.sF 0 _ ?_) <;> decide
    · have hh2 : h' < A 55 0 + 1 := hh'
      show _ = nI (va_up (A 37) (A 55 0) n h') ∧ _ = nI (A 10 (va_up (A 37) (A 55 0) n h')) ∧ _ = (va_up (A 38) (A 55 0) 1 h' == 1) ∧ _ = nI (bitF (fun v => (if 9 * h' + v < 9 * A 55 0 then A 39 (9 * h' + v) else 0) != 0) 9) ∧ _ = nI (bitF (fun v => (if 9 * h' + v < 9 * A 55 0 then A 39 (9 * h' + v) else 0) == 1) 9)
      by_cases e : h' = A 55 0
      · subst e
        simp (disch := omega) only [ofI1, nI_add, pk_mul, pk_sub, nI_clamp, imin_nI, imax_nI, nl_0, nl_1, nl_2, nl_3, nl_4, nl_5, nl_6, nl_7, nl_8, nl_9, nl_10, nl_11, nl_12, nl_13, nl_15, nl_16, nl_20, nl_24, nl_26, nl_30, nl_32, nl_36, nl_39, nl_40, nl_45, nl_48, nl_50, nl_57, nl_59, nl_60, nl_61, nl_62, nl_64, nl_72, nl_73, nl_80, nl_90, nl_97, nl_99, nl_100, nl_120, nl_122, nl_123, nl_127, nl_128, nl_199, nl_200, nl_255, nl_256, nl_290, nl_399, nl_400, nl_500, nl_512, nl_520, nl_600, nl_999, nl_1000, nl_2000, nl_9999, nl_10000, nl_14, nl_17, nl_18, nl_19, nl_21, nl_22, nl_23, nl_25, nl_27, nl_28, nl_29, nl_31, nl_33, nl_34, nl_35, nl_47, nl_51, nl_63, nl_110, nl_195, nl_240, nl_1370, nl_3710, nl_6030, nl_6690, nl_7490, nl_7610, nl_9170, nl_11570, gA_sF, gL_sF, gB_sF, gZ_sF, gO_sF, gX_sF, gF_sA, gL_sA, gB_sA, gZ_sA, gO_sA, gX_sA, gF_sL, gA_sL, gB_sL, gZ_sL, gO_sL, gX_sL, gF_sB, gA_sB, gL_sB, gZ_sB, gO_sB, gX_sB, gF_sZ, gA_sZ, gL_sZ, gB_sZ, gO_sZ, gX_sZ, gF_sO, gA_sO, gL_sO, gB_sO, gZ_sO, gX_sO, gF_sX, gA_sX, gL_sX, gB_sX, gZ_sX, gO_sX, gF_tA, gL_tA, gB_tA, gZ_tA, gO_tA, gX_tA, gF_tL, gA_tL, gB_tL, gZ_tL, gO_tL, gX_tL, gF_tB, gA_tB, gL_tB, gZ_tB, gO_tB, gX_tB, gF_tZ, gA_tZ, gL_tZ, gB_tZ, gO_tZ, gX_tZ, gF_sF, gA_sA, gL_sL, gB_sB, gZ_sZ, gO_sO, gX_sX, gA_tA, gL_tL, gB_tB, gZ_tZ, reduceIte, Nat.reduceEqDiff, Nat.zero_ne_one, Nat.one_ne_zero, Nat.succ_ne_self, forall_eq, vpT, cpyT, nI_leI, nI_ltI, nI_eq, nI_m1, oI_eqn, oI_eqm, va_up_ne', va_up_eq, eq_self_iff_true, true_or, or_true, true_implies, not_true_eq_false, not_false_eq_true, false_implies, and_true, true_and, forall_const, implies_true, ne_eq, Nat.add_sub_cancel, nI_pos, ite_self]
        refine ⟨by decide, ?_, ?_⟩
        · congr 1
          rw [bitF_c 9 (g := fun _ => false) (fun i hi => by rw [if_neg (by omega)]; rfl)]
          rfl
        · congr 1
          rw [bitF_c 9 (g := fun _ => false) (fun i hi => by rw [if_neg (by omega)]; rfl)]
          rfl
      · obtain ⟨q1, q2, q3, q4, q5⟩ := h.2 h' (by omega)
        simp (disch := omega) only [ofI1, nI_add, pk_mul, pk_sub, nI_clamp, imin_nI, imax_nI, nl_0, nl_1, nl_2, nl_3, nl_4, nl_5, nl_6, nl_7, nl_8, nl_9, nl_10, nl_11, nl_12, nl_13, nl_15, nl_16, nl_20, nl_24, nl_26, nl_30, nl_32, nl_36, nl_39, nl_40, nl_45, nl_48, nl_50, nl_57, nl_59, nl_60, nl_61, nl_62, nl_64, nl_72, nl_73, nl_80, nl_90, nl_97, nl_99, nl_100, nl_120, nl_122, nl_123, nl_127, nl_128, nl_199, nl_200, nl_255, nl_256, nl_290, nl_399, nl_400, nl_500, nl_512, nl_520, nl_600, nl_999, nl_1000, nl_2000, nl_9999, nl_10000, nl_14, nl_17, nl_18, nl_19, nl_21, nl_22, nl_23, nl_25, nl_27, nl_28, nl_29, nl_31, nl_33, nl_34, nl_35, nl_47, nl_51, nl_63, nl_110, nl_195, nl_240, nl_1370, nl_3710, nl_6030, nl_6690, nl_7490, nl_7610, nl_9170, nl_11570, gA_sF, gL_sF, gB_sF, gZ_sF, gO_sF, gX_sF, gF_sA, gL_sA, gB_sA, gZ_sA, gO_sA, gX_sA, gF_sL, gA_sL, gB_sL, gZ_sL, gO_sL, gX_sL, gF_sB, gA_sB, gL_sB, gZ_sB, gO_sB, gX_sB, gF_sZ, gA_sZ, gL_sZ, gB_sZ, gO_sZ, gX_sZ, gF_sO, gA_sO, gL_sO, gB_sO, gZ_sO, gX_sO, gF_sX, gA_sX, gL_sX, gB_sX, gZ_sX, gO_sX, gF_tA, gL_tA, gB_tA, gZ_tA, gO_tA, gX_tA, gF_tL, gA_tL, gB_tL, gZ_tL, gO_tL, gX_tL, gF_tB, gA_tB, gL_tB, gZ_tB, gO_tB, gX_tB, gF_tZ, gA_tZ, gL_tZ, gB_tZ, gO_tZ, gX_tZ, gF_sF, gA_sA, gL_sL, gB_sB, gZ_sZ, gO_sO, gX_sX, gA_tA, gL_tL, gB_tB, gZ_tZ, reduceIte, Nat.reduceEqDiff, Nat.zero_ne_one, Nat.one_ne_zero, Nat.succ_ne_self, forall_eq, vpT, cpyT, nI_leI, nI_ltI, nI_eq, nI_m1, oI_eqn, oI_eqm, va_up_ne', va_up_eq, eq_self_iff_true, true_or, or_true, true_implies, not_true_eq_false, not_false_eq_true, false_implies, and_true, true_and, forall_const, implies_true, ne_eq, Nat.add_sub_cancel, nI_pos, ite_self]
        refine ⟨q1, q2, q3, ?_, ?_⟩
        · rw [q4]; congr 1
          exact bitF_c 9 (fun i hi => by rw [if_pos (by omega)])
        · rw [q5]; congr 1
          exact bitF_c 9 (fun i hi => by rw [if_pos (by omega)])
  · obtain ⟨q1, q2, q3, q4, q5⟩ := h.2 i hi
    obtain ⟨w1, w2, -⟩ := hw.2.2.2.2.2.2.2.1.1 i hi
    have w3 := (hw.2.2.2.2.1 _ w1).1
    have go : ¬ clsh A n i → qX1_open_14 Q k bd (nI n) (nI (A 10 n)) (nI (i + 1)) := fun hno => ih () (fun k hk => by
      by_cases e : k = i
      · rw [e]; exact hno
      · exact hI k (by omega))
    unfold qX1_open_14
    rw [h.1, nI_clamp (by omega), q3, q2, ofI1, nI_add]
    refine c_n (nI_ge hi (by omega)) ⟨vp_in_nI (by omega) (by decide), ?_⟩
    by_cases ho : A 38 i = 1
    · rw [ho]
      refine c_n (by decide) ⟨vp_in_nI (by omega) (by decide), c_eq' rfl rfl (by omega) (by omega) (fun e => h5 hlt ⟨i, hi, ho, e⟩) (fun e => go (fun q => e q.2))⟩
    · rw [show (A 38 i == 1) = false from beq_false_of_ne ho]
      exact c_y rfl (go (fun q => ho q.1))
theorem ask_Wf {A : Nat → Nat → Nat} {c n : Nat} (hw : Wf A c) (hn : n < A 52 0) (h60 : A 55 0 < 60) : Wf (askA A n) c := by
  obtain ⟨⟨w0, w1, w2, w3, w4, w5, w6, w7, w8, w9, wc⟩, v1, ⟨v2, v2b, v2c⟩, ⟨v3, v3b, v3c⟩, v4, v5, v6, v7, v8, ⟨v9, v9b, v9c⟩⟩ := id hw; refine ⟨⟨w0, w1, w2, w3, w4, by show A 55 0 + 1 ≤ 60; omega, w6, w7, w8, w9, wc⟩, v1, ⟨v2, v2b, v2c⟩, ⟨v3, v3b, v3c⟩, v4, v5, v6, ⟨?_, ?_⟩, v8, ⟨v9, v9b, v9c⟩⟩
  · intro h' hh'
    have hh2 : h' < A 55 0 + 1 := hh'
    show va_up (A 37) (A 55 0) n h' < A 52 0 ∧ va_up (A 38) (A 55 0) 1 h' ≤ 1 ∧ ∀ v, v < 9 → (if 9 * h' + v < 9 * A 55 0 then A 39 (9 * h' + v) else 0) ≤ 2
    by_cases e : h' = A 55 0
    · subst e; rw [va_up_eq, va_up_eq]
      exact ⟨hn, Nat.le_refl _, fun v hv => by rw [if_neg (by omega)]; omega⟩
    · rw [va_up_ne' _ _ e, va_up_ne' _ _ e]
      obtain ⟨q1, q2, q3⟩ := v7.1 h' (by omega)
      exact ⟨q1, q2, fun v hv => by rw [if_pos (by omega)]; exact q3 v hv⟩
  · show cntF (fun k => A 45 k != 0) (A 59 0) + (cntF (fun h => va_up (A 38) (A 55 0) 1 h == 1) (A 55 0) + (if (va_up (A 38) (A 55 0) 1 (A 55 0) == 1) = true then 1 else 0)) ≤ A 55 0 + 1
    rw [cntF_c (g := fun h => A 38 h == 1) (A 55 0) (fun i hi => by rw [va_up_ne' _ _ (show i ≠ A 55 0 by omega)]), va_up_eq]
    have := v7.2
    show _ + (_ + 1) ≤ _
    omega
theorem M_ask {m : Md} {A : Nat → Nat → Nat} {c n : Nat} (hw : Wf A c) (hm : MW (gA m 1) A) (hn : n < A 52 0) {Q : Int32 → Md → Prop} (h3 : A 55 0 = 60 → Q (-3) m) (h5 : A 55 0 < 60 → (∃ k, k < A 55 0 ∧ clsh A n k) → Q (-5) m) (h0 : A 55 0 < 60 → (∀ k, k < A 55 0 → ¬ clsh A n k) → ∀ m', Fr [(1, 1)] m m' → MW (gA m' 1) (askA A n) → Q (nI (A 55 0)) m') : qX12_ask m (nI n) Q := by
  have e2 : gA m 1 2 = nI (A 52 0) := hm.1.2.2.1
  have e5 : gA m 1 5 = nI (A 55 0) := hm.1.2.2.2.2.2.1
  have b1 : A 51 0 ≤ 40 := hw.1.2.1
  have b2 : A 52 0 ≤ 80 := hw.1.2.2.1
  have b5 : A 55 0 ≤ 60 := hw.1.2.2.2.2.2.1
  have wn := (hw.2.2.2.2.1 n hn).1
  have pn := (hm.2.2.2.2.1 n hn).1
  unfold qX12_ask
  refine m_isNa1 e2 (by omega) hn (b_1 ?_)
  rw [nl_5, nI_clamp (by omega), e5]
  refine ⟨vp_in_nI (by decide) (by decide), c_eq' rfl nl_60 (by omega) (by decide) h3 (fun hlt => ?_)⟩
  have hlt' : A 55 0 < 60 := by omega
  refine pk_loop (fun k i (z : Unit) => qX12_ask_29 Q k m (nI n) (nI (A 55 0)) (nI i)) (fun i z => ∀ k, k < i → ¬ clsh A n k) (A 55 0) 0 () (by omega) (fun k hk => by omega) (fun k z hI => ?_) (fun k i z hi hI ih => ?_)
  · unfold qX12_ask_29 qX12_hearing
    dsimp only
    rw [nl_6030, nl_11, pk_mul, nI_add, nl_1, nI_add]
    refine c_y (nI_le (Nat.le_refl _) (by omega)) ⟨vp_in_nI (by omega) (by decide), fun w1 hw1 => ⟨vp_in_nI (by omega) (by decide), fun w2 hw2 => ?_⟩⟩
    have f2 : Fr [(1, 1)] m w2 := by rw [hw2, hw1]; exact Fr.tr (Fr.tA 1 _ _ (by decide)) (Fr.tA 1 _ _ (by decide))
    have g2 : gA w2 1 = va_up (va_up (gA m 1) (6030 + 11 * A 55 0) (nI n)) (6030 + 11 * A 55 0 + 1) (nI 1) := by
      rw [hw2, hw1]; simp (disch := omega) only [ofI1, nI_add, pk_mul, pk_sub, nI_clamp, imin_nI, imax_nI, nl_0, nl_1, nl_2, nl_3, nl_4, nl_5, nl_6, nl_7, nl_8, nl_9, nl_10, nl_11, nl_12, nl_13, nl_15, nl_16, nl_20, nl_24, nl_26, nl_30, nl_32, nl_36, nl_39, nl_40, nl_45, nl_48, nl_50, nl_57, nl_59, nl_60, nl_61, nl_62, nl_64, nl_72, nl_73, nl_80, nl_90, nl_97, nl_99, nl_100, nl_120, nl_122, nl_123, nl_127, nl_128, nl_199, nl_200, nl_255, nl_256, nl_290, nl_399, nl_400, nl_500, nl_512, nl_520, nl_600, nl_999, nl_1000, nl_2000, nl_9999, nl_10000, nl_14, nl_17, nl_18, nl_19, nl_21, nl_22, nl_23, nl_25, nl_27, nl_28, nl_29, nl_31, nl_33, nl_34, nl_35, nl_47, nl_51, nl_63, nl_110, nl_195, nl_240, nl_1370, nl_3710, nl_6030, nl_6690, nl_7490, nl_7610, nl_9170, nl_11570, gA_sF, gL_sF, gB_sF, gZ_sF, gO_sF, gX_sF, gF_sA, gL_sA, gB_sA, gZ_sA, gO_sA, gX_sA, gF_sL, gA_sL, gB_sL, gZ_sL, gO_sL, gX_sL, gF_sB, gA_sB, gL_sB, gZ_sB, gO_sB, gX_sB, gF_sZ, gA_sZ, gL_sZ, gB_sZ, gO_sZ, gX_sZ, gF_sO, gA_sO, gL_sO, gB_sO, gZ_sO, gX_sO, gF_sX, gA_sX, gL_sX, gB_sX, gZ_sX, gO_sX, gF_tA, gL_tA, gB_tA, gZ_tA, gO_tA, gX_tA, gF_tL, gA_tL, gB_tL, gZ_tL, gO_tL, gX_tL, gF_tB, gA_tB, gL_tB, gZ_tB, gO_tB, gX_tB, gF_tZ, gA_tZ, gL_tZ, gB_tZ, gO_tZ, gX_tZ, gF_sF, gA_sA, gL_sL, gB_sB, gZ_sZ, gO_sO, gX_sX, gA_tA, gL_tL, gB_tB, gZ_tZ, reduceIte, Nat.reduceEqDiff, Nat.zero_ne_one, Nat.one_ne_zero, Nat.succ_ne_self, forall_eq, vpT, cpyT, nI_leI, nI_ltI, nI_eq, nI_m1, oI_eqn, oI_eqm, va_up_ne', va_up_eq, eq_self_iff_true, true_or, or_true, true_implies, not_true_eq_false, not_false_eq_true, false_implies, and_true, true_and, forall_const, implies_true, ne_eq, Nat.add_sub_cancel, nI_pos, ite_self]
    refine pk_loop (fun k i s => qX12_ask_109 Q k s (nI (A 55 0)) (nI i)) (fun i s => Fr [(1, 1)] m s ∧ (∀ j, (j < 6030 + 11 * A 55 0 + 2 ∨ 6030 + 11 * A 55 0 + 2 + 9 ≤ j) → gA s 1 j = gA w2 1 j) ∧ ∀ v, v < i → gA s 1 (6030 + 11 * A 55 0 + 2 + v) = 0) 9 0 w2 (by omega) ⟨f2, fun j _ => rfl, fun v hv => by omega⟩ (fun k s hJ => ?_) (fun k i s hi hJ jh => ?_)
    · obtain ⟨j1, j2, j3⟩ := hJ
      have g5 : gA s 1 5 = nI (A 55 0) := by
        rw [j2 5 (by omega), g2, va_up_ne' _ _ (by omega), va_up_ne' _ _ (by omega)]; exact e5
      unfold qX12_ask_109
      simp (disch := omega) only [g5, Nat.le_refl, ofI1, nI_add, pk_mul, pk_sub, nI_clamp, imin_nI, imax_nI, nl_0, nl_1, nl_2, nl_3, nl_4, nl_5, nl_6, nl_7, nl_8, nl_9, nl_10, nl_11, nl_12, nl_13, nl_15, nl_16, nl_20, nl_24, nl_26, nl_30, nl_32, nl_36, nl_39, nl_40, nl_45, nl_48, nl_50, nl_57, nl_59, nl_60, nl_61, nl_62, nl_64, nl_72, nl_73, nl_80, nl_90, nl_97, nl_99, nl_100, nl_120, nl_122, nl_123, nl_127, nl_128, nl_199, nl_200, nl_255, nl_256, nl_290, nl_399, nl_400, nl_500, nl_512, nl_520, nl_600, nl_999, nl_1000, nl_2000, nl_9999, nl_10000, nl_14, nl_17, nl_18, nl_19, nl_21, nl_22, nl_23, nl_25, nl_27, nl_28, nl_29, nl_31, nl_33, nl_34, nl_35, nl_47, nl_51, nl_63, nl_110, nl_195, nl_240, nl_1370, nl_3710, nl_6030, nl_6690, nl_7490, nl_7610, nl_9170, nl_11570, gA_sF, gL_sF, gB_sF, gZ_sF, gO_sF, gX_sF, gF_sA, gL_sA, gB_sA, gZ_sA, gO_sA, gX_sA, gF_sL, gA_sL, gB_sL, gZ_sL, gO_sL, gX_sL, gF_sB, gA_sB, gL_sB, gZ_sB, gO_sB, gX_sB, gF_sZ, gA_sZ, gL_sZ, gB_sZ, gO_sZ, gX_sZ, gF_sO, gA_sO, gL_sO, gB_sO, gZ_sO, gX_sO, gF_sX, gA_sX, gL_sX, gB_sX, gZ_sX, gO_sX, gF_tA, gL_tA, gB_tA, gZ_tA, gO_tA, gX_tA, gF_tL, gA_tL, gB_tL, gZ_tL, gO_tL, gX_tL, gF_tB, gA_tB, gL_tB, gZ_tB, gO_tB, gX_tB, gF_tZ, gA_tZ, gL_tZ, gB_tZ, gO_tZ, gX_tZ, gF_sF, gA_sA, gL_sL, gB_sB, gZ_sZ, gO_sO, gX_sX, gA_tA, gL_tL, gB_tB, gZ_tZ, reduceIte, Nat.reduceEqDiff, Nat.zero_ne_one, Nat.one_ne_zero, Nat.succ_ne_self, forall_eq, vpT, cpyT, nI_leI, nI_ltI, nI_eq, nI_m1, oI_eqn, oI_eqm, va_up_ne', va_up_eq, eq_self_iff_true, true_or, or_true, true_implies, not_true_eq_false, not_false_eq_true, false_implies, and_true, true_and, forall_const, implies_true, ne_eq, Nat.add_sub_cancel, nI_pos, ite_self]
      generalize hm' : tA s 1 _ _ = m'
      have hV : gA m' 1 = va_up (gA s 1) 5 (nI (A 55 0 + 1)) := by rw [← hm']; simp (disch := omega) only [ofI1, nI_add, pk_mul, pk_sub, nI_clamp, imin_nI, imax_nI, nl_0, nl_1, nl_2, nl_3, nl_4, nl_5, nl_6, nl_7, nl_8, nl_9, nl_10, nl_11, nl_12, nl_13, nl_15, nl_16, nl_20, nl_24, nl_26, nl_30, nl_32, nl_36, nl_39, nl_40, nl_45, nl_48, nl_50, nl_57, nl_59, nl_60, nl_61, nl_62, nl_64, nl_72, nl_73, nl_80, nl_90, nl_97, nl_99, nl_100, nl_120, nl_122, nl_123, nl_127, nl_128, nl_199, nl_200, nl_255, nl_256, nl_290, nl_399, nl_400, nl_500, nl_512, nl_520, nl_600, nl_999, nl_1000, nl_2000, nl_9999, nl_10000, nl_14, nl_17, nl_18, nl_19, nl_21, nl_22, nl_23, nl_25, nl_27, nl_28, nl_29, nl_31, nl_33, nl_34, nl_35, nl_47, nl_51, nl_63, nl_110, nl_195, nl_240, nl_1370, nl_3710, nl_6030, nl_6690, nl_7490, nl_7610, nl_9170, nl_11570, gA_sF, gL_sF, gB_sF, gZ_sF, gO_sF, gX_sF, gF_sA, gL_sA, gB_sA, gZ_sA, gO_sA, gX_sA, gF_sL, gA_sL, gB_sL, gZ_sL, gO_sL, gX_sL, gF_sB, gA_sB, gL_sB, gZ_sB, gO_sB, gX_sB, gF_sZ, gA_sZ, gL_sZ, gB_sZ, gO_sZ, gX_sZ, gF_sO, gA_sO, gL_sO, gB_sO, gZ_sO, gX_sO, gF_sX, gA_sX, gL_sX, gB_sX, gZ_sX, gO_sX, gF_tA, gL_tA, gB_tA, gZ_tA, gO_tA, gX_tA, gF_tL, gA_tL, gB_tL, gZ_tL, gO_tL, gX_tL, gF_tB, gA_tB, gL_tB, gZ_tB, gO_tB, gX_tB, gF_tZ, gA_tZ, gL_tZ, gB_tZ, gO_tZ, gX_tZ, gF_sF, gA_sA, gL_sL, gB_sB, gZ_sZ, gO_sO, gX_sX, gA_tA, gL_tL, gB_tB, gZ_tZ, reduceIte, Nat.reduceEqDiff, Nat.zero_ne_one, Nat.one_ne_zero, Nat.succ_ne_self, forall_eq, vpT, cpyT, nI_leI, nI_ltI, nI_eq, nI_m1, oI_eqn, oI_eqm, va_up_ne', va_up_eq, eq_self_iff_true, true_or, or_true, true_implies, not_true_eq_false, not_false_eq_true, false_implies, and_true, true_and, forall_const, implies_true, ne_eq, Nat.add_sub_cancel, nI_pos, ite_self]
      have hv : ∀ k, k ≠ 5 → (k < 6030 + 11 * A 55 0 ∨ 6030 + 11 * A 55 0 + 11 ≤ k) → gA m' 1 k = gA m 1 k := fun k q1 q2 => by
        rw [hV, va_up_ne' _ _ q1, j2 k (by omega), g2, va_up_ne' _ _ (by omega), va_up_ne' _ _ (by omega)]
      refine h0 hlt' hI m' (j1.tr (by rw [← hm']; exact Fr.tA 1 _ _ (by decide))) ?_
      obtain ⟨⟨k0, k1, k2, k3, k4, k5, k6, k7, k8, k9⟩, h1, h2, h3, h4, h5, h6, h7, h8, h9⟩ := id hm; obtain ⟨⟨w0, w1, w2, w3, w4, w5, w6, w7, w8, w9, wc⟩, -, -, -, wn, ws, wa, -⟩ := id hw; refine ⟨⟨(hv 0 (by omega) (by omega)).trans k0, (hv 1 (by omega) (by omega)).trans k1, (hv 2 (by omega) (by omega)).trans k2, (hv 3 (by omega) (by omega)).trans k3, (hv 4 (by omega) (by omega)).trans k4, by rw [hV]; rfl, (hv 6 (by omega) (by omega)).trans k6, (hv 7 (by omega) (by omega)).trans k7, (hv 8 (by omega) (by omega)).trans k8, (hv 9 (by omega) (by omega)).trans k9⟩, h1.w w1 (fun k _ _ => hv k (by omega) (by omega)), h2.w (by omega) (fun k _ _ => hv k (by omega) (by omega)), h3.w w6 (fun k _ _ => hv k (by omega) (by omega)), h4.w w2 wn (fun k _ _ => hv k (by omega) (by omega)), h5.w w3 ws (fun k _ _ => hv k (by omega) (by omega)), h6.w w4 wa (fun k _ _ => hv k (by omega) (by omega)), ?_, h8.w w7 (fun k _ _ => hv k (by omega) (by omega)), h9.w (by omega) (fun k _ _ => hv k (by omega) (by omega))⟩
      intro h' hh'
      have hh2 : h' < A 55 0 + 1 := hh'
      show _ = nI (va_up (A 37) (A 55 0) n h') ∧ _ = nI (va_up (A 38) (A 55 0) 1 h') ∧ ∀ v, v < 9 → _ = nI (if 9 * h' + v < 9 * A 55 0 then A 39 (9 * h' + v) else 0)
      by_cases e : h' = A 55 0
      · subst e
        rw [va_up_eq, va_up_eq, hV]
        refine ⟨?_, ?_, fun v hv9 => ?_⟩
        · rw [va_up_ne' _ _ (by omega), j2 _ (by omega), g2, va_up_ne' _ _ (by omega), va_up_eq]
        · rw [va_up_ne' _ _ (by omega), j2 _ (by omega), g2, va_up_eq]
        · rw [va_up_ne' _ _ (by omega), j3 v hv9, if_neg (by omega)]; rfl
      · obtain ⟨q1, q2, q3⟩ := h7 h' (by omega)
        rw [va_up_ne' _ _ e, va_up_ne' _ _ e, hv _ (by omega) (by omega), hv _ (by omega) (by omega)]
        refine ⟨q1, q2, fun v hv9 => ?_⟩
        rw [hv _ (by omega) (by omega), if_pos (by omega)]
        exact q3 v hv9
    · obtain ⟨j1, j2, j3⟩ := hJ
      have z : ¬ 9 ≤ i := by omega
      unfold qX12_ask_109 qX12_hearing
      simp (disch := omega) only [z, ofI1, nI_add, pk_mul, pk_sub, nI_clamp, imin_nI, imax_nI, nl_0, nl_1, nl_2, nl_3, nl_4, nl_5, nl_6, nl_7, nl_8, nl_9, nl_10, nl_11, nl_12, nl_13, nl_15, nl_16, nl_20, nl_24, nl_26, nl_30, nl_32, nl_36, nl_39, nl_40, nl_45, nl_48, nl_50, nl_57, nl_59, nl_60, nl_61, nl_62, nl_64, nl_72, nl_73, nl_80, nl_90, nl_97, nl_99, nl_100, nl_120, nl_122, nl_123, nl_127, nl_128, nl_199, nl_200, nl_255, nl_256, nl_290, nl_399, nl_400, nl_500, nl_512, nl_520, nl_600, nl_999, nl_1000, nl_2000, nl_9999, nl_10000, nl_14, nl_17, nl_18, nl_19, nl_21, nl_22, nl_23, nl_25, nl_27, nl_28, nl_29, nl_31, nl_33, nl_34, nl_35, nl_47, nl_51, nl_63, nl_110, nl_195, nl_240, nl_1370, nl_3710, nl_6030, nl_6690, nl_7490, nl_7610, nl_9170, nl_11570, gA_sF, gL_sF, gB_sF, gZ_sF, gO_sF, gX_sF, gF_sA, gL_sA, gB_sA, gZ_sA, gO_sA, gX_sA, gF_sL, gA_sL, gB_sL, gZ_sL, gO_sL, gX_sL, gF_sB, gA_sB, gL_sB, gZ_sB, gO_sB, gX_sB, gF_sZ, gA_sZ, gL_sZ, gB_sZ, gO_sZ, gX_sZ, gF_sO, gA_sO, gL_sO, gB_sO, gZ_sO, gX_sO, gF_sX, gA_sX, gL_sX, gB_sX, gZ_sX, gO_sX, gF_tA, gL_tA, gB_tA, gZ_tA, gO_tA, gX_tA, gF_tL, gA_tL, gB_tL, gZ_tL, gO_tL, gX_tL, gF_tB, gA_tB, gL_tB, gZ_tB, gO_tB, gX_tB, gF_tZ, gA_tZ, gL_tZ, gB_tZ, gO_tZ, gX_tZ, gF_sF, gA_sA, gL_sL, gB_sB, gZ_sZ, gO_sO, gX_sX, gA_tA, gL_tL, gB_tB, gZ_tZ, reduceIte, Nat.reduceEqDiff, Nat.zero_ne_one, Nat.one_ne_zero, Nat.succ_ne_self, forall_eq, vpT, cpyT, nI_leI, nI_ltI, nI_eq, nI_m1, oI_eqn, oI_eqm, va_up_ne', va_up_eq, eq_self_iff_true, true_or, or_true, true_implies, not_true_eq_false, not_false_eq_true, false_implies, and_true, true_and, forall_const, implies_true, ne_eq, Nat.add_sub_cancel, nI_pos, ite_self]
      refine jh _ ⟨j1.tr (Fr.tA 1 _ _ (by decide)), fun j hj => ?_, fun v hv => ?_⟩
      · simp (disch := omega) only [ofI1, nI_add, pk_mul, pk_sub, nI_clamp, imin_nI, imax_nI, nl_0, nl_1, nl_2, nl_3, nl_4, nl_5, nl_6, nl_7, nl_8, nl_9, nl_10, nl_11, nl_12, nl_13, nl_15, nl_16, nl_20, nl_24, nl_26, nl_30, nl_32, nl_36, nl_39, nl_40, nl_45, nl_48, nl_50, nl_57, nl_59, nl_60, nl_61, nl_62, nl_64, nl_72, nl_73, nl_80, nl_90, nl_97, nl_99, nl_100, nl_120, nl_122, nl_123, nl_127, nl_128, nl_199, nl_200, nl_255, nl_256, nl_290, nl_399, nl_400, nl_500, nl_512, nl_520, nl_600, nl_999, nl_1000, nl_2000, nl_9999, nl_10000, nl_14, nl_17, nl_18, nl_19, nl_21, nl_22, nl_23, nl_25, nl_27, nl_28, nl_29, nl_31, nl_33, nl_34, nl_35, nl_47, nl_51, nl_63, nl_110, nl_195, nl_240, nl_1370, nl_3710, nl_6030, nl_6690, nl_7490, nl_7610, nl_9170, nl_11570, gA_sF, gL_sF, gB_sF, gZ_sF, gO_sF, gX_sF, gF_sA, gL_sA, gB_sA, gZ_sA, gO_sA, gX_sA, gF_sL, gA_sL, gB_sL, gZ_sL, gO_sL, gX_sL, gF_sB, gA_sB, gL_sB, gZ_sB, gO_sB, gX_sB, gF_sZ, gA_sZ, gL_sZ, gB_sZ, gO_sZ, gX_sZ, gF_sO, gA_sO, gL_sO, gB_sO, gZ_sO, gX_sO, gF_sX, gA_sX, gL_sX, gB_sX, gZ_sX, gO_sX, gF_tA, gL_tA, gB_tA, gZ_tA, gO_tA, gX_tA, gF_tL, gA_tL, gB_tL, gZ_tL, gO_tL, gX_tL, gF_tB, gA_tB, gL_tB, gZ_tB, gO_tB, gX_tB, gF_tZ, gA_tZ, gL_tZ, gB_tZ, gO_tZ, gX_tZ, gF_sF, gA_sA, gL_sL, gB_sB, gZ_sZ, gO_sO, gX_sX, gA_tA, gL_tL, gB_tB, gZ_tZ, reduceIte, Nat.reduceEqDiff, Nat.zero_ne_one, Nat.one_ne_zero, Nat.succ_ne_self, forall_eq, vpT, cpyT, nI_leI, nI_ltI, nI_eq, nI_m1, oI_eqn, oI_eqm, va_up_ne', va_up_eq, eq_self_iff_true, true_or, or_true, true_implies, not_true_eq_false, not_false_eq_true, false_implies, and_true, true_and, forall_const, implies_true, ne_eq, Nat.add_sub_cancel, nI_pos, ite_self]; exact j2 j hj
      · by_cases e : v = i
        · subst e; simp (disch := omega) only [ofI1, nI_add, pk_mul, pk_sub, nI_clamp, imin_nI, imax_nI, nl_0, nl_1, nl_2, nl_3, nl_4, nl_5, nl_6, nl_7, nl_8, nl_9, nl_10, nl_11, nl_12, nl_13, nl_15, nl_16, nl_20, nl_24, nl_26, nl_30, nl_32, nl_36, nl_39, nl_40, nl_45, nl_48, nl_50, nl_57, nl_59, nl_60, nl_61, nl_62, nl_64, nl_72, nl_73, nl_80, nl_90, nl_97, nl_99, nl_100, nl_120, nl_122, nl_123, nl_127, nl_128, nl_199, nl_200, nl_255, nl_256, nl_290, nl_399, nl_400, nl_500, nl_512, nl_520, nl_600, nl_999, nl_1000, nl_2000, nl_9999, nl_10000, nl_14, nl_17, nl_18, nl_19, nl_21, nl_22, nl_23, nl_25, nl_27, nl_28, nl_29, nl_31, nl_33, nl_34, nl_35, nl_47, nl_51, nl_63, nl_110, nl_195, nl_240, nl_1370, nl_3710, nl_6030, nl_6690, nl_7490, nl_7610, nl_9170, nl_11570, gA_sF, gL_sF, gB_sF, gZ_sF, gO_sF, gX_sF, gF_sA, gL_sA, gB_sA, gZ_sA, gO_sA, gX_sA, gF_sL, gA_sL, gB_sL, gZ_sL, gO_sL, gX_sL, gF_sB, gA_sB, gL_sB, gZ_sB, gO_sB, gX_sB, gF_sZ, gA_sZ, gL_sZ, gB_sZ, gO_sZ, gX_sZ, gF_sO, gA_sO, gL_sO, gB_sO, gZ_sO, gX_sO, gF_sX, gA_sX, gL_sX, gB_sX, gZ_sX, gO_sX, gF_tA, gL_tA, gB_tA, gZ_tA, gO_tA, gX_tA, gF_tL, gA_tL, gB_tL, gZ_tL, gO_tL, gX_tL, gF_tB, gA_tB, gL_tB, gZ_tB, gO_tB, gX_tB, gF_tZ, gA_tZ, gL_tZ, gB_tZ, gO_tZ, gX_tZ, gF_sF, gA_sA, gL_sL, gB_sB, gZ_sZ, gO_sO, gX_sX, gA_tA, gL_tL, gB_tB, gZ_tZ, reduceIte, Nat.reduceEqDiff, Nat.zero_ne_one, Nat.one_ne_zero, Nat.succ_ne_self, forall_eq, vpT, cpyT, nI_leI, nI_ltI, nI_eq, nI_m1, oI_eqn, oI_eqm, va_up_ne', va_up_eq, eq_self_iff_true, true_or, or_true, true_implies, not_true_eq_false, not_false_eq_true, false_implies, and_true, true_and, forall_const, implies_true, ne_eq, Nat.add_sub_cancel, nI_pos, ite_self]
        · simp (disch := omega) only [ofI1, nI_add, pk_mul, pk_sub, nI_clamp, imin_nI, imax_nI, nl_0, nl_1, nl_2, nl_3, nl_4, nl_5, nl_6, nl_7, nl_8, nl_9, nl_10, nl_11, nl_12, nl_13, nl_15, nl_16, nl_20, nl_24, nl_26, nl_30, nl_32, nl_36, nl_39, nl_40, nl_45, nl_48, nl_50, nl_57, nl_59, nl_60, nl_61, nl_62, nl_64, nl_72, nl_73, nl_80, nl_90, nl_97, nl_99, nl_100, nl_120, nl_122, nl_123, nl_127, nl_128, nl_199, nl_200, nl_255, nl_256, nl_290, nl_399, nl_400, nl_500, nl_512, nl_520, nl_600, nl_999, nl_1000, nl_2000, nl_9999, nl_10000, nl_14, nl_17, nl_18, nl_19, nl_21, nl_22, nl_23, nl_25, nl_27, nl_28, nl_29, nl_31, nl_33, nl_34, nl_35, nl_47, nl_51, nl_63, nl_110, nl_195, nl_240, nl_1370, nl_3710, nl_6030, nl_6690, nl_7490, nl_7610, nl_9170, nl_11570, gA_sF, gL_sF, gB_sF, gZ_sF, gO_sF, gX_sF, gF_sA, gL_sA, gB_sA, gZ_sA, gO_sA, gX_sA, gF_sL, gA_sL, gB_sL, gZ_sL, gO_sL, gX_sL, gF_sB, gA_sB, gL_sB, gZ_sB, gO_sB, gX_sB, gF_sZ, gA_sZ, gL_sZ, gB_sZ, gO_sZ, gX_sZ, gF_sO, gA_sO, gL_sO, gB_sO, gZ_sO, gX_sO, gF_sX, gA_sX, gL_sX, gB_sX, gZ_sX, gO_sX, gF_tA, gL_tA, gB_tA, gZ_tA, gO_tA, gX_tA, gF_tL, gA_tL, gB_tL, gZ_tL, gO_tL, gX_tL, gF_tB, gA_tB, gL_tB, gZ_tB, gO_tB, gX_tB, gF_tZ, gA_tZ, gL_tZ, gB_tZ, gO_tZ, gX_tZ, gF_sF, gA_sA, gL_sL, gB_sB, gZ_sZ, gO_sO, gX_sX, gA_tA, gL_tL, gB_tB, gZ_tZ, reduceIte, Nat.reduceEqDiff, Nat.zero_ne_one, Nat.one_ne_zero, Nat.succ_ne_self, forall_eq, vpT, cpyT, nI_leI, nI_ltI, nI_eq, nI_m1, oI_eqn, oI_eqm, va_up_ne', va_up_eq, eq_self_iff_true, true_or, or_true, true_implies, not_true_eq_false, not_false_eq_true, false_implies, and_true, true_and, forall_const, implies_true, ne_eq, Nat.add_sub_cancel, nI_pos, ite_self]; exact j3 v (by omega)
  · obtain ⟨q1, q2, q3⟩ := hm.2.2.2.2.2.2.2.1 i hi
    obtain ⟨w1, w2, -⟩ := hw.2.2.2.2.2.2.2.1.1 i hi
    have w3 := (hw.2.2.2.2.1 _ w1).1
    have p3 := (hm.2.2.2.2.1 _ w1).1
    have go : ¬ clsh A n i → qX12_ask_29 Q k m (nI n) (nI (A 55 0)) (nI (i + 1)) := fun hno => ih () (fun k hk => by
      by_cases e : k = i
      · rw [e]; exact hno
      · exact hI k (by omega))
    unfold qX12_ask_29 qX12_hearing qX12_nameIs
    dsimp only
    rw [nl_6030, nl_11, pk_mul, pk_mul, nI_add, nI_add, nl_1, nI_add, nI_add, nI_clamp (by omega), nI_clamp (by omega), q2, q1, ofI1, nI_add]
    refine c_n (nI_ge hi (by omega)) ⟨vp_in_nI (by omega) (by decide), c_eq' rfl rfl (by omega) (by decide) (fun ho => ⟨vp_in_nI (by omega) (by decide), ?_⟩) (fun ho => go (fun q => ho q.1))⟩
    rw [nl_90, nl_16, nl_0, pk_mul, pk_mul, nI_add, nI_add, nI_add, nI_add, nI_clamp (by omega), nI_clamp (by omega), Nat.add_zero, Nat.add_zero, p3, pn]
    refine ⟨vp_in_nI (by omega) (by decide), vp_in_nI (by omega) (by decide), c_eq' rfl rfl (by omega) (by omega) (fun e => h5 hlt' ⟨i, hi, ho, e⟩) (fun e => go (fun q => e q.2))⟩
theorem sim_ask {c : Nat} {nb m st la sp ac bd sg : Md} (hR : RW c m st la sp ac bd sg) {x1 : Int32} {Q : Int32 → Md → Md → Md → Md → Int32 → Md → Prop} (hQ : ∀ r bd' m', RW c m' st la sp ac bd' sg → Fr [(1, 1)] m m' → Q r nb st sp bd' r m') : qX11_ask nb st sp bd x1 (fun r nb' st' sp' bd' => qX12_ask m x1 (fun r' m' => Q r nb' st' sp' bd' r' m')) := by
  obtain ⟨A, hm, hw, hs, hn⟩ := id hR
  have e2 : gA m 1 2 = nI (A 52 0) := hm.1.2.2.1
  have s2 : gF sp 0 = nI (A 52 0) := hn.2.1.1.1
  have b2 : A 52 0 ≤ 80 := hw.1.2.2.1
  unfold qX11_ask
  rcases ix32 x1 (n := A 52 0) (by omega) with h | ⟨n, hnn, rfl⟩
  · refine sp_has0 s2 (by omega) h (b_0 ?_)
    unfold qX12_ask
    exact m_isNa0 e2 (by omega) h (b_0 (hQ _ _ _ hR Fr.rf))
  refine sp_has1 s2 (by omega) hnn (b_1 ⟨vp_in_nI (by omega) (by decide), ?_⟩)
  rw [nI_clamp (by omega), (hn.2.1.1.2 n hnn).1]
  refine N_open hw hn.2.2.2.1.1 hnn (fun h => ?_) (fun h hx => ?_) (fun h hno bd' fb hbd' => ?_)
  · exact M_ask hw hm hnn (fun _ => hQ _ _ _ hR Fr.rf) (fun h' => absurd h (by omega)) (fun h' => absurd h (by omega))
  · exact M_ask hw hm hnn (fun h' => absurd h (by omega)) (fun _ _ => hQ _ _ _ hR Fr.rf) (fun _ hno => by obtain ⟨k, hk, hc⟩ := hx; exact absurd hc (hno k hk))
  · refine M_ask hw hm hnn (fun h' => absurd h (by omega)) (fun _ hx => by obtain ⟨k, hk, hc⟩ := hx; exact absurd hc (hno k hk)) (fun _ _ m' fm hm' => ?_)
    refine hQ _ _ _ ⟨askA A n, hm', ask_Wf hw hnn h, hs, hn.1, hn.2.1, hn.2.2.1, ⟨hbd', ?_⟩, hn.2.2.2.2⟩ fm
    obtain ⟨n, na, pl, to, yr, un, k1, k2, k3, k4⟩ := hn.2.2.2.1.2
    refine ⟨n, na, pl, to, yr, un, k1, (fb.1 6 (by decide)).trans k2, fun i hi => ?_, k4⟩
    rw [fb.2.1 7 (by decide), fb.2.1 8 (by decide), fb.2.1 9 (by decide), fb.2.1 10 (by decide), fb.2.1 11 (by decide)]
    exact k3 i hi
