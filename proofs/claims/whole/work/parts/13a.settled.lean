def topI (l : List Nat) : Int32 := match l with
  | [] => -1
  | n :: _ => nI n
theorem stk_len {pl to na yr : Nat → Nat} {p t y : Nat} : ∀ k, (stkF pl to na yr p t y k).length ≤ cntF (fun i => na i != 0) k := by
  intro k
  induction k with
  | zero => exact Nat.le_refl _
  | succ k ih =>
    show (if pl k = p ∧ to k = t ∧ yr k ≤ y then (if na k = 0 then (stkF pl to na yr p t y k).tail else (na k - 1) :: stkF pl to na yr p t y k) else stkF pl to na yr p t y k).length ≤ cntF _ k + (if (na k != 0) = true then 1 else 0)
    by_cases h : pl k = p ∧ to k = t ∧ yr k ≤ y
    · rw [if_pos h]
      by_cases h0 : na k = 0
      · rw [if_pos h0, List.length_tail]; omega
      · rw [if_neg h0, List.length_cons, show (na k != 0) = true from bne_iff_ne.mpr h0, if_pos rfl]; omega
    · rw [if_neg h]; omega
theorem cntF_mono {f : Nat → Bool} : ∀ k i, i ≤ k → cntF f i ≤ cntF f k := by
  intro k
  induction k with
  | zero => intro i h; obtain rfl : i = 0 := by omega
            exact Nat.le_refl _
  | succ k ih =>
    intro i h
    by_cases e : i = k + 1
    · rw [e]; exact Nat.le_refl _
    · have := ih i (by omega)
      show cntF f i ≤ cntF f k + _
      omega
theorem stk_mem {pl to na yr : Nat → Nat} {p t y N : Nat} : ∀ k, (∀ i, i < k → na i ≤ N) → ∀ x, x ∈ stkF pl to na yr p t y k → x < N := by
  intro k
  induction k with
  | zero => intro _ x h; exact absurd h (List.not_mem_nil)
  | succ k ih =>
    intro hn x h
    have ih' := ih (fun i hi => hn i (by omega))
    have hk := hn k (by omega)
    have h' : x ∈ (if pl k = p ∧ to k = t ∧ yr k ≤ y then (if na k = 0 then (stkF pl to na yr p t y k).tail else (na k - 1) :: stkF pl to na yr p t y k) else stkF pl to na yr p t y k) := h
    by_cases hc : pl k = p ∧ to k = t ∧ yr k ≤ y
    · rw [if_pos hc] at h'
      by_cases h0 : na k = 0
      · rw [if_pos h0] at h'; exact ih' x (List.mem_of_mem_tail h')
      · rw [if_neg h0] at h'
        rcases List.mem_cons.mp h' with e | e
        · omega
        · exact ih' x e
    · rw [if_neg hc] at h'; exact ih' x h'
theorem stkA_lt {A : Nat → Nat → Nat} {c p t y x : Nat} (hw : Wf A c) (h : x ∈ stkA A p t y) : x < A 52 0 := stk_mem _ (fun i hi => (hw.2.2.2.2.2.2.2.2.2.1 i hi).2.2.1) x h
theorem M_settledOf {m : Md} {A : Nat → Nat → Nat} {c p t y : Nat} (hw : Wf A c) (hm : MW (gA m 1) A) (hp : p < A 51 0) (ht : t < 3) (hy : y < 400) {Q : Int32 → Md → Prop} (hQ : ∀ m', Fr [(1, 28)] m m' → Q (topI (stkA A p t y)) m') : qX12_settledOf m (nI p) (nI t) (nI y) Q := by
  have b0 : A 50 0 < 400 := hw.1.1
  have b1 : A 51 0 ≤ 40 := hw.1.2.1
  have b2 : A 52 0 ≤ 80 := hw.1.2.2.1
  have b5 : A 55 0 ≤ 60 := hw.1.2.2.2.2.2.1
  have bc : c ≤ 512 := hw.1.2.2.2.2.2.2.2.2.2.2
  have b9 : A 59 0 ≤ c := hw.1.2.2.2.2.2.2.2.2.2.1
  have e9 : gA m 1 9 = nI (A 59 0) := hm.1.2.2.2.2.2.2.2.2.2
  have mev : Mev (gA m 1) A := hm.2.2.2.2.2.2.2.2.2
  obtain ⟨v9, v9b, v9c⟩ : Wev A := hw.2.2.2.2.2.2.2.2.2
  have whe := hw.2.2.2.2.2.2.2.1.2
  unfold qX12_settledOf
  refine pk_loop (fun k i (s : Md × Nat) => qX12_settledOf_8 Q k s.1 (nI p) (nI t) (nI y) (nI s.2) (nI (9170 + 4 * i))) (fun i s => Fr [(1, 28)] m s.1 ∧ s.2 = (stkF (A 43) (A 44) (A 45) (A 46) p t y i).length ∧ ∀ j x, (stkF (A 43) (A 44) (A 45) (A 46) p t y i)[j]? = some x → gA s.1 28 (s.2 - 1 - j) = nI x) (A 59 0) 0 (m, 0) (by omega) ⟨Fr.rf, rfl, fun j x h => by simp [stkF] at h⟩ (fun k s hI => ?_) (fun k i s hi hI ih => ?_)
  · obtain ⟨u, n⟩ := s
    obtain ⟨i1, i2, i3⟩ := hI
    dsimp only at i1 i2 i3 ⊢
    have hlen := stk_len (pl := A 43) (to := A 44) (na := A 45) (yr := A 46) (p := p) (t := t) (y := y) (A 59 0)
    have f1 : gA u 1 = gA m 1 := i1.2.1 1 (by decide)
    unfold qX12_settledOf_8
    rw [nl_9, nI_clamp (by omega), f1, e9, nl_9170, nl_4, pk_mul, nI_add]
    refine ⟨vp_in_nI (by decide) (by decide), c_y (nI_le (Nat.le_refl _) (by omega)) (c_eq' rfl nl_0 (by omega) (by decide) (fun e => ?_) (fun e => ?_))⟩
    · have : stkA A p t y = [] := List.eq_nil_of_length_eq_zero (by rw [← e, i2]; rfl)
      have h := hQ u i1
      rw [this] at h; exact h
    · cases hst : stkA A p t y with
      | nil => rw [show stkF (A 43) (A 44) (A 45) (A 46) p t y (A 59 0) = [] from hst] at i2; exact absurd i2 e
      | cons x r =>
        have h := hQ u i1
        rw [hst] at h
        have i3' := i3 0 x (by rw [show stkF (A 43) (A 44) (A 45) (A 46) p t y (A 59 0) = x :: r from hst]; rfl)
        rw [Nat.sub_zero] at i3'
        rw [nl_1, pk_sub (by omega), nI_clamp (by omega), i3']
        exact ⟨vp_in_nI (by omega) (by decide), h⟩
  · obtain ⟨u, n⟩ := s
    obtain ⟨i1, i2, i3⟩ := hI
    dsimp only at i1 i2 i3 ⊢
    have hlen := stk_len (pl := A 43) (to := A 44) (na := A 45) (yr := A 46) (p := p) (t := t) (y := y) i
    have hmon := cntF_mono (f := fun i => A 45 i != 0) (A 59 0) (i + 1) (by omega)
    obtain ⟨q1, q2, q3, q4⟩ := mev i hi
    obtain ⟨w1, w2, w3, w4⟩ := v9 i hi
    have f1 : gA u 1 = gA m 1 := i1.2.1 1 (by decide)
    have es : stkF (A 43) (A 44) (A 45) (A 46) p t y (i + 1) = if A 43 i = p ∧ A 44 i = t ∧ A 46 i ≤ y then (if A 45 i = 0 then (stkF (A 43) (A 44) (A 45) (A 46) p t y i).tail else (A 45 i - 1) :: stkF (A 43) (A 44) (A 45) (A 46) p t y i) else stkF (A 43) (A 44) (A 45) (A 46) p t y i := rfl
    have ec : cntF (fun i => A 45 i != 0) (i + 1) = cntF (fun i => A 45 i != 0) i + (if (A 45 i != 0) = true then 1 else 0) := rfl
    have go : ¬ (A 43 i = p ∧ A 44 i = t ∧ A 46 i ≤ y) → qX12_settledOf_8 Q k u (nI p) (nI t) (nI y) (nI n) (nI (9170 + 4 * i + 4)) := fun h => by
      refine ih (u, n) ⟨i1, ?_, ?_⟩
      · show n = _; rw [es, if_neg h]; exact i2
      · rw [es, if_neg h]; exact i3
    generalize hS : stkF (A 43) (A 44) (A 45) (A 46) p t y i = S at *
    have z : ¬ 9170 + 4 * A 59 0 ≤ 9170 + 4 * i := by omega
    have hn60 : n ≤ 60 := by omega
    unfold qX12_settledOf_8
    by_cases c1 : A 43 i = p
    · by_cases c2 : A 44 i = t
      · by_cases c3 : A 46 i ≤ y
        · by_cases c4 : A 45 i = 0
          · have hne : S ≠ [] := by
              have h := v9c i hi c4
              rw [c1, c2] at h
              rw [← hS]
              intro e
              apply h
              rw [← e]
              refine stkF_c i (fun j hj => ⟨?_, fun _ => ⟨rfl, rfl, rfl⟩⟩)
              have := v9b j i hj hi
              have := (v9 j (by omega)).2.2.2
              constructor <;> intro _ <;> omega
            have hn1 : 1 ≤ n := by
              cases S with
              | nil => exact absurd rfl hne
              | cons x r => rw [i2, List.length_cons]; omega
            have e45 : oI (A 45 i) = -1 := by rw [c4]; rfl
            simp (disch := omega) only [f1, e9, q1, q2, q3, q4, c1, c2, c3, e45, z, ofI4, ofI1, nI_add, pk_mul, pk_sub, nI_clamp, imin_nI, imax_nI, nl_0, nl_1, nl_2, nl_3, nl_4, nl_5, nl_6, nl_7, nl_8, nl_9, nl_10, nl_11, nl_12, nl_13, nl_15, nl_16, nl_20, nl_24, nl_26, nl_30, nl_32, nl_36, nl_39, nl_40, nl_45, nl_48, nl_50, nl_57, nl_59, nl_60, nl_61, nl_62, nl_64, nl_72, nl_73, nl_80, nl_90, nl_97, nl_99, nl_100, nl_120, nl_122, nl_123, nl_127, nl_128, nl_199, nl_200, nl_255, nl_256, nl_290, nl_399, nl_400, nl_500, nl_512, nl_520, nl_600, nl_999, nl_1000, nl_2000, nl_9999, nl_10000, nl_14, nl_17, nl_18, nl_19, nl_21, nl_22, nl_23, nl_25, nl_27, nl_28, nl_29, nl_31, nl_33, nl_34, nl_35, nl_47, nl_51, nl_63, nl_110, nl_195, nl_240, nl_1370, nl_3710, nl_6030, nl_6690, nl_7490, nl_7610, nl_9170, nl_11570, gA_sF, gL_sF, gB_sF, gZ_sF, gO_sF, gX_sF, gF_sA, gL_sA, gB_sA, gZ_sA, gO_sA, gX_sA, gF_sL, gA_sL, gB_sL, gZ_sL, gO_sL, gX_sL, gF_sB, gA_sB, gL_sB, gZ_sB, gO_sB, gX_sB, gF_sZ, gA_sZ, gL_sZ, gB_sZ, gO_sZ, gX_sZ, gF_sO, gA_sO, gL_sO, gB_sO, gZ_sO, gX_sO, gF_sX, gA_sX, gL_sX, gB_sX, gZ_sX, gO_sX, gF_tA, gL_tA, gB_tA, gZ_tA, gO_tA, gX_tA, gF_tL, gA_tL, gB_tL, gZ_tL, gO_tL, gX_tL, gF_tB, gA_tB, gL_tB, gZ_tB, gO_tB, gX_tB, gF_tZ, gA_tZ, gL_tZ, gB_tZ, gO_tZ, gX_tZ, gF_sF, gA_sA, gL_sL, gB_sB, gZ_sZ, gO_sO, gX_sX, gA_tA, gL_tL, gB_tB, gZ_tZ, reduceIte, Nat.reduceEqDiff, Nat.zero_ne_one, Nat.one_ne_zero, Nat.succ_ne_self, forall_eq, vpT, cpyT, nI_leI, nI_ltI, nI_eq, nI_m1, oI_eqn, oI_eqm, va_up_ne', va_up_eq, eq_self_iff_true, true_or, or_true, true_implies, not_true_eq_false, not_false_eq_true, false_implies, and_true, true_and, forall_const, implies_true, ne_eq, Nat.add_sub_cancel, nI_pos, ite_self]
            rw [oI_dec, oI_pos (by omega)]
            refine ih (u, n - 1) ⟨i1, ?_, fun j x hx => ?_⟩
            · show n - 1 = _
              rw [es, if_pos ⟨c1, c2, c3⟩, if_pos c4, List.length_tail, i2]
            · rw [es, if_pos ⟨c1, c2, c3⟩, if_pos c4, List.getElem?_tail] at hx
              have := i3 (j + 1) x hx
              show gA u 28 (n - 1 - 1 - j) = _
              rw [show n - 1 - 1 - j = n - 1 - (j + 1) by omega]; exact this
          · have hcn : n < 60 := by
              rw [ec, show (A 45 i != 0) = true from bne_iff_ne.mpr c4, if_pos rfl] at hmon
              omega
            have e45 : oI (A 45 i) = nI (A 45 i - 1) := oI_pos (by omega)
            simp (disch := omega) only [f1, e9, q1, q2, q3, q4, c1, c2, c3, e45, z, ofI4, ofI1, nI_add, pk_mul, pk_sub, nI_clamp, imin_nI, imax_nI, nl_0, nl_1, nl_2, nl_3, nl_4, nl_5, nl_6, nl_7, nl_8, nl_9, nl_10, nl_11, nl_12, nl_13, nl_15, nl_16, nl_20, nl_24, nl_26, nl_30, nl_32, nl_36, nl_39, nl_40, nl_45, nl_48, nl_50, nl_57, nl_59, nl_60, nl_61, nl_62, nl_64, nl_72, nl_73, nl_80, nl_90, nl_97, nl_99, nl_100, nl_120, nl_122, nl_123, nl_127, nl_128, nl_199, nl_200, nl_255, nl_256, nl_290, nl_399, nl_400, nl_500, nl_512, nl_520, nl_600, nl_999, nl_1000, nl_2000, nl_9999, nl_10000, nl_14, nl_17, nl_18, nl_19, nl_21, nl_22, nl_23, nl_25, nl_27, nl_28, nl_29, nl_31, nl_33, nl_34, nl_35, nl_47, nl_51, nl_63, nl_110, nl_195, nl_240, nl_1370, nl_3710, nl_6030, nl_6690, nl_7490, nl_7610, nl_9170, nl_11570, gA_sF, gL_sF, gB_sF, gZ_sF, gO_sF, gX_sF, gF_sA, gL_sA, gB_sA, gZ_sA, gO_sA, gX_sA, gF_sL, gA_sL, gB_sL, gZ_sL, gO_sL, gX_sL, gF_sB, gA_sB, gL_sB, gZ_sB, gO_sB, gX_sB, gF_sZ, gA_sZ, gL_sZ, gB_sZ, gO_sZ, gX_sZ, gF_sO, gA_sO, gL_sO, gB_sO, gZ_sO, gX_sO, gF_sX, gA_sX, gL_sX, gB_sX, gZ_sX, gO_sX, gF_tA, gL_tA, gB_tA, gZ_tA, gO_tA, gX_tA, gF_tL, gA_tL, gB_tL, gZ_tL, gO_tL, gX_tL, gF_tB, gA_tB, gL_tB, gZ_tB, gO_tB, gX_tB, gF_tZ, gA_tZ, gL_tZ, gB_tZ, gO_tZ, gX_tZ, gF_sF, gA_sA, gL_sL, gB_sB, gZ_sZ, gO_sO, gX_sX, gA_tA, gL_tL, gB_tB, gZ_tZ, reduceIte, Nat.reduceEqDiff, Nat.zero_ne_one, Nat.one_ne_zero, Nat.succ_ne_self, forall_eq, vpT, cpyT, nI_leI, nI_ltI, nI_eq, nI_m1, oI_eqn, oI_eqm, va_up_ne', va_up_eq, eq_self_iff_true, true_or, or_true, true_implies, not_true_eq_false, not_false_eq_true, false_implies, and_true, true_and, forall_const, implies_true, ne_eq, Nat.add_sub_cancel, nI_pos, ite_self]
            generalize hu' : tA u 28 _ _ = u'
            have g28 : gA u' 28 = va_up (gA u 28) n (nI (A 45 i - 1)) := by
              rw [← hu']; simp (disch := omega) only [ofI1, nI_add, pk_mul, pk_sub, nI_clamp, imin_nI, imax_nI, nl_0, nl_1, nl_2, nl_3, nl_4, nl_5, nl_6, nl_7, nl_8, nl_9, nl_10, nl_11, nl_12, nl_13, nl_15, nl_16, nl_20, nl_24, nl_26, nl_30, nl_32, nl_36, nl_39, nl_40, nl_45, nl_48, nl_50, nl_57, nl_59, nl_60, nl_61, nl_62, nl_64, nl_72, nl_73, nl_80, nl_90, nl_97, nl_99, nl_100, nl_120, nl_122, nl_123, nl_127, nl_128, nl_199, nl_200, nl_255, nl_256, nl_290, nl_399, nl_400, nl_500, nl_512, nl_520, nl_600, nl_999, nl_1000, nl_2000, nl_9999, nl_10000, nl_14, nl_17, nl_18, nl_19, nl_21, nl_22, nl_23, nl_25, nl_27, nl_28, nl_29, nl_31, nl_33, nl_34, nl_35, nl_47, nl_51, nl_63, nl_110, nl_195, nl_240, nl_1370, nl_3710, nl_6030, nl_6690, nl_7490, nl_7610, nl_9170, nl_11570, gA_sF, gL_sF, gB_sF, gZ_sF, gO_sF, gX_sF, gF_sA, gL_sA, gB_sA, gZ_sA, gO_sA, gX_sA, gF_sL, gA_sL, gB_sL, gZ_sL, gO_sL, gX_sL, gF_sB, gA_sB, gL_sB, gZ_sB, gO_sB, gX_sB, gF_sZ, gA_sZ, gL_sZ, gB_sZ, gO_sZ, gX_sZ, gF_sO, gA_sO, gL_sO, gB_sO, gZ_sO, gX_sO, gF_sX, gA_sX, gL_sX, gB_sX, gZ_sX, gO_sX, gF_tA, gL_tA, gB_tA, gZ_tA, gO_tA, gX_tA, gF_tL, gA_tL, gB_tL, gZ_tL, gO_tL, gX_tL, gF_tB, gA_tB, gL_tB, gZ_tB, gO_tB, gX_tB, gF_tZ, gA_tZ, gL_tZ, gB_tZ, gO_tZ, gX_tZ, gF_sF, gA_sA, gL_sL, gB_sB, gZ_sZ, gO_sO, gX_sX, gA_tA, gL_tL, gB_tB, gZ_tZ, reduceIte, Nat.reduceEqDiff, Nat.zero_ne_one, Nat.one_ne_zero, Nat.succ_ne_self, forall_eq, vpT, cpyT, nI_leI, nI_ltI, nI_eq, nI_m1, oI_eqn, oI_eqm, va_up_ne', va_up_eq, eq_self_iff_true, true_or, or_true, true_implies, not_true_eq_false, not_false_eq_true, false_implies, and_true, true_and, forall_const, implies_true, ne_eq, Nat.add_sub_cancel, nI_pos, ite_self]
            refine c_n' (nI_m1 (n := A 45 i - 1) (by omega)) (ih (u', n + 1) ⟨i1.tr (by rw [← hu']; exact Fr.tA 28 _ _ (by decide)), ?_, fun j x hx => ?_⟩)
            · show n + 1 = _
              rw [es, if_pos ⟨c1, c2, c3⟩, if_neg c4, List.length_cons, i2]
            · rw [es, if_pos ⟨c1, c2, c3⟩, if_neg c4] at hx
              show gA u' 28 (n + 1 - 1 - j) = _
              rw [g28]
              cases j with
              | zero =>
                have hx' : A 45 i - 1 = x := by simpa using hx
                rw [show n + 1 - 1 - 0 = n by omega, va_up_eq, hx']
              | succ j =>
                have hx' : S[j]? = some x := by simpa using hx
                have hj : j < S.length := (List.getElem?_eq_some_iff.mp hx').1
                rw [show n + 1 - 1 - (j + 1) = n - 1 - j by omega, va_up_ne' _ _ (by omega)]
                exact i3 j x hx'
        · simp (disch := omega) only [f1, e9, q1, q2, q3, q4, c1, c2, c3, z, ofI4, ofI1, nI_add, pk_mul, pk_sub, nI_clamp, imin_nI, imax_nI, nl_0, nl_1, nl_2, nl_3, nl_4, nl_5, nl_6, nl_7, nl_8, nl_9, nl_10, nl_11, nl_12, nl_13, nl_15, nl_16, nl_20, nl_24, nl_26, nl_30, nl_32, nl_36, nl_39, nl_40, nl_45, nl_48, nl_50, nl_57, nl_59, nl_60, nl_61, nl_62, nl_64, nl_72, nl_73, nl_80, nl_90, nl_97, nl_99, nl_100, nl_120, nl_122, nl_123, nl_127, nl_128, nl_199, nl_200, nl_255, nl_256, nl_290, nl_399, nl_400, nl_500, nl_512, nl_520, nl_600, nl_999, nl_1000, nl_2000, nl_9999, nl_10000, nl_14, nl_17, nl_18, nl_19, nl_21, nl_22, nl_23, nl_25, nl_27, nl_28, nl_29, nl_31, nl_33, nl_34, nl_35, nl_47, nl_51, nl_63, nl_110, nl_195, nl_240, nl_1370, nl_3710, nl_6030, nl_6690, nl_7490, nl_7610, nl_9170, nl_11570, gA_sF, gL_sF, gB_sF, gZ_sF, gO_sF, gX_sF, gF_sA, gL_sA, gB_sA, gZ_sA, gO_sA, gX_sA, gF_sL, gA_sL, gB_sL, gZ_sL, gO_sL, gX_sL, gF_sB, gA_sB, gL_sB, gZ_sB, gO_sB, gX_sB, gF_sZ, gA_sZ, gL_sZ, gB_sZ, gO_sZ, gX_sZ, gF_sO, gA_sO, gL_sO, gB_sO, gZ_sO, gX_sO, gF_sX, gA_sX, gL_sX, gB_sX, gZ_sX, gO_sX, gF_tA, gL_tA, gB_tA, gZ_tA, gO_tA, gX_tA, gF_tL, gA_tL, gB_tL, gZ_tL, gO_tL, gX_tL, gF_tB, gA_tB, gL_tB, gZ_tB, gO_tB, gX_tB, gF_tZ, gA_tZ, gL_tZ, gB_tZ, gO_tZ, gX_tZ, gF_sF, gA_sA, gL_sL, gB_sB, gZ_sZ, gO_sO, gX_sX, gA_tA, gL_tL, gB_tB, gZ_tZ, reduceIte, Nat.reduceEqDiff, Nat.zero_ne_one, Nat.one_ne_zero, Nat.succ_ne_self, forall_eq, vpT, cpyT, nI_leI, nI_ltI, nI_eq, nI_m1, oI_eqn, oI_eqm, va_up_ne', va_up_eq, eq_self_iff_true, true_or, or_true, true_implies, not_true_eq_false, not_false_eq_true, false_implies, and_true, true_and, forall_const, implies_true, ne_eq, Nat.add_sub_cancel, nI_pos, ite_self]
          exact go (fun h => c3 h.2.2)
      · simp (disch := omega) only [f1, e9, q1, q2, q3, q4, c1, c2, z, ofI4, ofI1, nI_add, pk_mul, pk_sub, nI_clamp, imin_nI, imax_nI, nl_0, nl_1, nl_2, nl_3, nl_4, nl_5, nl_6, nl_7, nl_8, nl_9, nl_10, nl_11, nl_12, nl_13, nl_15, nl_16, nl_20, nl_24, nl_26, nl_30, nl_32, nl_36, nl_39, nl_40, nl_45, nl_48, nl_50, nl_57, nl_59, nl_60, nl_61, nl_62, nl_64, nl_72, nl_73, nl_80, nl_90, nl_97, nl_99, nl_100, nl_120, nl_122, nl_123, nl_127, nl_128, nl_199, nl_200, nl_255, nl_256, nl_290, nl_399, nl_400, nl_500, nl_512, nl_520, nl_600, nl_999, nl_1000, nl_2000, nl_9999, nl_10000, nl_14, nl_17, nl_18, nl_19, nl_21, nl_22, nl_23, nl_25, nl_27, nl_28, nl_29, nl_31, nl_33, nl_34, nl_35, nl_47, nl_51, nl_63, nl_110, nl_195, nl_240, nl_1370, nl_3710, nl_6030, nl_6690, nl_7490, nl_7610, nl_9170, nl_11570, gA_sF, gL_sF, gB_sF, gZ_sF, gO_sF, gX_sF, gF_sA, gL_sA, gB_sA, gZ_sA, gO_sA, gX_sA, gF_sL, gA_sL, gB_sL, gZ_sL, gO_sL, gX_sL, gF_sB, gA_sB, gL_sB, gZ_sB, gO_sB, gX_sB, gF_sZ, gA_sZ, gL_sZ, gB_sZ, gO_sZ, gX_sZ, gF_sO, gA_sO, gL_sO, gB_sO, gZ_sO, gX_sO, gF_sX, gA_sX, gL_sX, gB_sX, gZ_sX, gO_sX, gF_tA, gL_tA, gB_tA, gZ_tA, gO_tA, gX_tA, gF_tL, gA_tL, gB_tL, gZ_tL, gO_tL, gX_tL, gF_tB, gA_tB, gL_tB, gZ_tB, gO_tB, gX_tB, gF_tZ, gA_tZ, gL_tZ, gB_tZ, gO_tZ, gX_tZ, gF_sF, gA_sA, gL_sL, gB_sB, gZ_sZ, gO_sO, gX_sX, gA_tA, gL_tL, gB_tB, gZ_tZ, reduceIte, Nat.reduceEqDiff, Nat.zero_ne_one, Nat.one_ne_zero, Nat.succ_ne_self, forall_eq, vpT, cpyT, nI_leI, nI_ltI, nI_eq, nI_m1, oI_eqn, oI_eqm, va_up_ne', va_up_eq, eq_self_iff_true, true_or, or_true, true_implies, not_true_eq_false, not_false_eq_true, false_implies, and_true, true_and, forall_const, implies_true, ne_eq, Nat.add_sub_cancel, nI_pos, ite_self]
        exact go (fun h => c2 h.2.1)
    · simp (disch := omega) only [f1, e9, q1, q2, q3, q4, c1, z, ofI4, ofI1, nI_add, pk_mul, pk_sub, nI_clamp, imin_nI, imax_nI, nl_0, nl_1, nl_2, nl_3, nl_4, nl_5, nl_6, nl_7, nl_8, nl_9, nl_10, nl_11, nl_12, nl_13, nl_15, nl_16, nl_20, nl_24, nl_26, nl_30, nl_32, nl_36, nl_39, nl_40, nl_45, nl_48, nl_50, nl_57, nl_59, nl_60, nl_61, nl_62, nl_64, nl_72, nl_73, nl_80, nl_90, nl_97, nl_99, nl_100, nl_120, nl_122, nl_123, nl_127, nl_128, nl_199, nl_200, nl_255, nl_256, nl_290, nl_399, nl_400, nl_500, nl_512, nl_520, nl_600, nl_999, nl_1000, nl_2000, nl_9999, nl_10000, nl_14, nl_17, nl_18, nl_19, nl_21, nl_22, nl_23, nl_25, nl_27, nl_28, nl_29, nl_31, nl_33, nl_34, nl_35, nl_47, nl_51, nl_63, nl_110, nl_195, nl_240, nl_1370, nl_3710, nl_6030, nl_6690, nl_7490, nl_7610, nl_9170, nl_11570, gA_sF, gL_sF, gB_sF, gZ_sF, gO_sF, gX_sF, gF_sA, gL_sA, gB_sA, gZ_sA, gO_sA, gX_sA, gF_sL, gA_sL, gB_sL, gZ_sL, gO_sL, gX_sL, gF_sB, gA_sB, gL_sB, gZ_sB, gO_sB, gX_sB, gF_sZ, gA_sZ, gL_sZ, gB_sZ, gO_sZ, gX_sZ, gF_sO, gA_sO, gL_sO, gB_sO, gZ_sO, gX_sO, gF_sX, gA_sX, gL_sX, gB_sX, gZ_sX, gO_sX, gF_tA, gL_tA, gB_tA, gZ_tA, gO_tA, gX_tA, gF_tL, gA_tL, gB_tL, gZ_tL, gO_tL, gX_tL, gF_tB, gA_tB, gL_tB, gZ_tB, gO_tB, gX_tB, gF_tZ, gA_tZ, gL_tZ, gB_tZ, gO_tZ, gX_tZ, gF_sF, gA_sA, gL_sL, gB_sB, gZ_sZ, gO_sO, gX_sX, gA_tA, gL_tL, gB_tB, gZ_tZ, reduceIte, Nat.reduceEqDiff, Nat.zero_ne_one, Nat.one_ne_zero, Nat.succ_ne_self, forall_eq, vpT, cpyT, nI_leI, nI_ltI, nI_eq, nI_m1, oI_eqn, oI_eqm, va_up_ne', va_up_eq, eq_self_iff_true, true_or, or_true, true_implies, not_true_eq_false, not_false_eq_true, false_implies, and_true, true_and, forall_const, implies_true, ne_eq, Nat.add_sub_cancel, nI_pos, ite_self]
      exact go (fun h => c1 h.1)
def mts (pl to yr un : Nat → Nat) (p t y i : Nat) : Prop := pl i = p ∧ to i = t ∧ yr i ≤ y ∧ y < un i
theorem stkC_up {na pl to yr un : Nat → Nat} {p t y i : Nat} : ∀ n, i ≤ n → (∀ j, i ≤ j → j < n → ¬ mts pl to yr un p t y j) → stkC na pl to yr un p t y n = stkC na pl to yr un p t y i := by
  intro n
  induction n with
  | zero => intro h _; obtain rfl : i = 0 := by omega
            rfl
  | succ n ih =>
    intro h hj
    by_cases e : i = n + 1
    · rw [e]
    · show (if pl n = p ∧ to n = t ∧ yr n ≤ y ∧ y < un n then _ else stkC na pl to yr un p t y n) = _
      rw [if_neg (show ¬ (pl n = p ∧ to n = t ∧ yr n ≤ y ∧ y < un n) from hj n (by omega) (by omega)), ih (by omega) (fun j a b => hj j a (by omega))]
theorem stkC_hd {na pl to yr un : Nat → Nat} {p t y i n : Nat} (hi : i < n) (hm : mts pl to yr un p t y i) (hno : ∀ j, i < j → j < n → ¬ mts pl to yr un p t y j) : stkC na pl to yr un p t y n = na i :: stkC na pl to yr un p t y i := by
  rw [stkC_up (i := i + 1) n (by omega) (fun j a b => hno j (by omega) b)]
  show (if pl i = p ∧ to i = t ∧ yr i ≤ y ∧ y < un i then na i :: _ else _) = _
  rw [if_pos (show pl i = p ∧ to i = t ∧ yr i ≤ y ∧ y < un i from hm)]
theorem N_settlingAt {bd : Md} {na pl to yr un : Nat → Nat} {n p t y : Nat} (hn : n ≤ 60) (h6 : gF bd 6 = nI n) (h : ∀ i, i < n → pl i < 40 ∧ to i < 3 ∧ yr i < 400 ∧ un i ≤ 400 ∧ gA bd 8 i = nI (pl i) ∧ gA bd 9 i = nI (to i) ∧ gA bd 10 i = nI (yr i) ∧ gA bd 11 i = nI (un i)) (hp : p < 40) (ht : t < 3) (hy : y < 400) {Q : Int32 → Md → Prop} (h0 : stkC na pl to yr un p t y n = [] → Q (-1) bd) (h1 : ∀ i, i < n → mts pl to yr un p t y i → (∀ j, i < j → j < n → ¬ mts pl to yr un p t y j) → Q (nI i) bd) : qX1_settlingAt bd (nI p) (nI t) (nI y) Q := by
  unfold qX1_settlingAt
  rw [h6]
  refine ⟨n + 1, ?_⟩
  refine pk_loopD (fun k i (z : Unit) => qX1_settlingAt_8 Q k bd (nI p) (nI t) (nI y) (oI i)) (fun i z => i ≤ n ∧ ∀ j, i ≤ j → j < n → ¬ mts pl to yr un p t y j) (fun k z hI => ?_) (fun k i z hI ih => ?_) n () ⟨Nat.le_refl _, fun j a b => by omega⟩
  · unfold qX1_settlingAt_8
    exact c_y (by decide) (h0 (stkC_up n (by omega) (fun j a b => hI.2 j a b)))
  · obtain ⟨i1, i2⟩ := hI
    obtain ⟨w1, w2, w3, w4, q8, q9, q10, q11⟩ := h i (by omega)
    have go : ¬ mts pl to yr un p t y i → qX1_settlingAt_8 Q k bd (nI p) (nI t) (nI y) (oI i) := fun hno => ih () ⟨by omega, fun j a b => by
      by_cases e : j = i
      · rw [e]; exact hno
      · exact i2 j (by omega) b⟩
    unfold qX1_settlingAt_8 qX1_settlingAt_39 qX1_settlingAt_40
    rw [oI_s, nI_clamp (by omega), q8, q9, q10, q11, oI_dec]
    refine c_n (nI_pos (by omega)) ⟨vp_in_nI (by omega) (by decide), c_eq' rfl rfl (by omega) (by omega) (fun e1 => ⟨vp_in_nI (by omega) (by decide), c_eq' rfl rfl (by omega) (by omega) (fun e2 => c_n (by decide) ⟨vp_in_nI (by omega) (by decide), c_lt rfl rfl (by omega) (by omega) (fun e3 => go (fun q => ?_)) (fun e3 => ⟨vp_in_nI (by omega) (by decide), c_le rfl rfl (by omega) (by omega) (fun e4 => go (fun q => ?_)) (fun e4 => ?_)⟩)⟩) (fun e2 => c_y rfl (go (fun q => e2 q.2.1)))⟩) (fun e1 => c_y rfl (go (fun q => e1 q.1)))⟩
    · have := q.2.2.1; omega
    · have := q.2.2.2; omega
    · exact h1 i (by omega) ⟨e1, e2, by omega, by omega⟩ (fun j a b => i2 j (by omega) b)
theorem Nse.c60 {A : Nat → Nat → Nat} {c : Nat} (hw : Wf A c) : cntF (fun k => A 45 k != 0) (A 59 0) ≤ 60 := by
  have := hw.2.2.2.2.2.2.2.1.2
  have := hw.1.2.2.2.2.2.1
  omega
theorem N_nameAt {bd : Md} {A : Nat → Nat → Nat} {c p t y : Nat} (hw : Wf A c) (h : Nse bd A) (hp : p < A 51 0) (ht : t < 3) (hy : y < 400) {Q : Int32 → Md → Prop} (hQ : Q (topI (stkA A p t y)) bd) : qX1_nameAt bd (nI p) (nI t) (nI y) Q := by
  obtain ⟨n, na, pl, to, yr, un, n1, n2, n3, n4⟩ := h
  have b0 : A 50 0 < 400 := hw.1.1
  have b1 : A 51 0 ≤ 40 := hw.1.2.1
  have n60 : n ≤ 60 := by rw [n1]; exact Nse.c60 hw
  unfold qX1_nameAt
  rw [← n4 p t y hy] at hQ
  refine N_settlingAt (na := na) n60 n2 (fun i hi => by obtain ⟨a1, a2, a3, a4, a5, a6, a7, a8, a9, a10, a11⟩ := n3 i hi; exact ⟨by omega, a3, by omega, a5, a8, a9, a10, a11⟩) (by omega) ht hy (fun e => ?_) (fun i hi hmt hno => ?_)
  · rw [e] at hQ; exact c_y' rfl hQ
  · rw [stkC_hd hi hmt hno] at hQ
    refine c_n' (nI_m1 (by omega)) ⟨vp_in_nI (by omega) (by decide), ?_⟩
    rw [nI_clamp (by omega), (n3 i hi).2.2.2.2.2.2.1]
    exact hQ
theorem sim_settled {c : Nat} {nb m st la sp ac bd sg : Md} (hR : RW c m st la sp ac bd sg) {x1 x2 x3 x4 : Int32} {Q : Int32 → Md → Md → Md → Md → Int32 → Md → Prop} (hQ : ∀ r m', Fr [(1, 28)] m m' → Q r nb st la bd r m') : qX11_settled nb st la bd x1 x2 x3 x4 (fun r nb' st' la' bd' => qX12_settled m x1 x2 x3 x4 (fun r' m' => Q r nb' st' la' bd' r' m')) := by
  obtain ⟨A, hm, hw, hs, hn⟩ := id hR
  have e1 : gA m 1 1 = nI (A 51 0) := hm.1.2.1
  have s1 : gF la 0 = nI (A 51 0) := hn.1.1.1
  have b1 : A 51 0 ≤ 40 := hw.1.2.1
  unfold qX11_settled qX12_settled
  rcases ix32 x1 (n := A 51 0) (by omega) with h | ⟨p, hp, rfl⟩
  · exact la_has0 s1 (by omega) h (b_0' (m_isPl0 e1 b1 h (b_0' (hQ _ _ Fr.rf))))
  refine la_has1 s1 (by omega) hp (b_1' ?_)
  rcases ix32 x2 (n := 3) (by omega) with h | ⟨t, ht, rfl⟩
  · exact q_to0 h (b_0' (m_isPl1 e1 b1 hp (b_1' (m_to0 h (b_0' (hQ _ _ Fr.rf))))))
  refine q_to1 ht (b_1' ?_)
  rcases ix32 x3 (n := 400) (by omega) with h | ⟨y, hy, rfl⟩
  · exact q_yr0 h (b_0' (m_isPl1 e1 b1 hp (b_1' (m_to1 ht (b_1' (m_yr0 h (b_0' (hQ _ _ Fr.rf))))))))
  refine q_yr1 hy (b_1' ?_)
  rcases ix32 x4 (n := 400) (by omega) with h | ⟨z, hz, rfl⟩
  · exact q_yr0 h (b_0 (m_isPl1 e1 b1 hp (b_1' (m_to1 ht (b_1' (m_yr1 hy (b_1' (m_yr0 h (b_0' (hQ _ _ Fr.rf))))))))))
  refine q_yr1 hz (b_1 ?_)
  rw [imin_nI (by omega) (by omega)]
  refine N_nameAt hw hn.2.2.2.1.2 hp ht (by omega) ?_
  exact m_isPl1 e1 b1 hp (b_1' (m_to1 ht (b_1' (m_yr1 hy (b_1' (m_yr1 hz (b_1' (M_settledOf hw hm hp ht (by omega) (fun m' fm => hQ _ _ fm)))))))))
