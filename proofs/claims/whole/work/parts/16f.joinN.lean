theorem lcn_s1 {p : Nat → Bool} {s : Nat} (e : p s = true) : lcn p (s + 1) = lcn p s + 1 ∧ lsg p (s + 1) = va_up (lsg p s) (lcn p s) s := ⟨by show lcn p s + (if p s = true then 1 else 0) = _; rw [if_pos e], if_pos e⟩
theorem lcn_s0 {p : Nat → Bool} {s : Nat} (e : p s = false) : lcn p (s + 1) = lcn p s ∧ lsg p (s + 1) = lsg p s := ⟨by show lcn p s + (if p s = true then 1 else 0) = _; rw [if_neg (by rw [e]; decide)]; rfl, if_neg (by rw [e]; decide)⟩
theorem N_choosePlaces {u st la sp : Md} {A : Nat → Nat → Nat} {ca : Nat} (hw : Wf A ca) (hla : Npl la A) (hsp : Nsc sp A) {Q : Int32 → Md → Md → Md → Md → Prop} (h0 : 10 < lcn (hnF A) (A 51 0) → ∀ u', Fr [(0, 6), (1, 7)] u u' → Q 0 u' st la sp) (h1 : lcn (hnF A) (A 51 0) ≤ 10 → ∀ u', Fr [(0, 6), (1, 7)] u u' → gF u' 6 = nI (lcn (hnF A) (A 51 0)) → (∀ c, c < lcn (hnF A) (A 51 0) → gA u' 7 c = nI (lsg (hnF A) (A 51 0) c)) → Q 1 u' st la sp) : qX3_choosePlaces u st la sp Q := by
  have b1 : A 51 0 ≤ 40 := hw.1.2.1
  have b2 : A 52 0 ≤ 80 := hw.1.2.2.1
  unfold qX3_choosePlaces
  intro w2 hw2
  subst hw2
  refine pk_loop (fun f p v => qX3_choosePlaces_7 Q f v st la sp (nI p)) (fun p v => Fr [(0, 6), (1, 7)] u v ∧ gF v 6 = nI (lcn (hnF A) p) ∧ lcn (hnF A) p ≤ 10 ∧ ∀ c, c < lcn (hnF A) p → gA v 7 c = nI (lsg (hnF A) p c)) (A 51 0) 0 _ (Nat.zero_le _) ⟨Fr.sF 6 _ (by decide), rfl, Nat.zero_le _, fun c hc => absurd hc (Nat.not_lt_zero _)⟩ (fun f v hI => ?_) (fun f p v hp hI ih => ?_)
  · obtain ⟨i1, i2, i3, i4⟩ := hI
    unfold qX3_choosePlaces_7
    rw [hla.1]
    exact c_y (nI_le (Nat.le_refl _) (by omega)) (h1 i3 v i1 i2 i4)
  · obtain ⟨i1, i2, i3, i4⟩ := hI
    have k65 : ∀ b : Bool, hnF A p = b → qX3_choosePlaces_65 Q (qX3_choosePlaces_7 Q f) v st la sp (nI p) (bI b) := fun b hb => by
      unfold qX3_choosePlaces_65
      cases b with
      | false =>
        obtain ⟨e1, e2⟩ := lcn_s0 hb
        refine c_y rfl ?_
        unfold qX3_choosePlaces_80
        rw [ofI1, nI_add]
        refine c_y rfl (ih v ?_)
        rw [e1, e2]
        exact ⟨i1, i2, i3, i4⟩
      | true =>
        obtain ⟨e1, e2⟩ := lcn_s1 hb
        have mono := lcn_mono (hnF A) (show p + 1 ≤ A 51 0 by omega)
        rw [i2]
        refine c_n (by decide) (c_lt (b := 10) rfl rfl (by omega) (by decide) (fun hlt => ?_) (fun hlt => h0 (by omega) v i1))
        unfold qX3_choosePlaces_80
        rw [i2, ofI1, nI_add]
        refine c_n (by decide) (c_in rfl (by omega) (by decide) (fun w93 hw93 w101 hw101 => ?_))
        have e6 : gF w93 6 = nI (lcn (hnF A) p) := by rw [hw93]; exact i2
        rw [e6, nl_1, nI_add] at hw101
        subst hw101 hw93
        refine ih _ ⟨(i1.tr (Fr.tA 7 _ _ (by decide))).tr (Fr.sF 6 _ (by decide)), ?_, by omega, fun c hc => ?_⟩
        · rw [e1]; simp (disch := omega) only [ofI1, nI_add, pk_mul, pk_sub, nI_clamp, imin_nI, imax_nI, nl_0, nl_1, nl_2, nl_3, nl_4, nl_5, nl_6, nl_7, nl_8, nl_9, nl_10, nl_11, nl_12, nl_13, nl_15, nl_16, nl_20, nl_24, nl_26, nl_30, nl_32, nl_36, nl_39, nl_40, nl_45, nl_48, nl_50, nl_57, nl_59, nl_60, nl_61, nl_62, nl_64, nl_72, nl_73, nl_80, nl_90, nl_97, nl_99, nl_100, nl_120, nl_122, nl_123, nl_127, nl_128, nl_199, nl_200, nl_255, nl_256, nl_290, nl_399, nl_400, nl_500, nl_512, nl_520, nl_600, nl_999, nl_1000, nl_2000, nl_9999, nl_10000, nl_14, nl_17, nl_18, nl_19, nl_21, nl_22, nl_23, nl_25, nl_27, nl_28, nl_29, nl_31, nl_33, nl_34, nl_35, nl_47, nl_51, nl_63, nl_110, nl_195, nl_240, nl_1370, nl_3710, nl_6030, nl_6690, nl_7490, nl_7610, nl_9170, nl_11570, gA_sF, gL_sF, gB_sF, gZ_sF, gO_sF, gX_sF, gF_sA, gL_sA, gB_sA, gZ_sA, gO_sA, gX_sA, gF_sL, gA_sL, gB_sL, gZ_sL, gO_sL, gX_sL, gF_sB, gA_sB, gL_sB, gZ_sB, gO_sB, gX_sB, gF_sZ, gA_sZ, gL_sZ, gB_sZ, gO_sZ, gX_sZ, gF_sO, gA_sO, gL_sO, gB_sO, gZ_sO, gX_sO, gF_sX, gA_sX, gL_sX, gB_sX, gZ_sX, gO_sX, gF_tA, gL_tA, gB_tA, gZ_tA, gO_tA, gX_tA, gF_tL, gA_tL, gB_tL, gZ_tL, gO_tL, gX_tL, gF_tB, gA_tB, gL_tB, gZ_tB, gO_tB, gX_tB, gF_tZ, gA_tZ, gL_tZ, gB_tZ, gO_tZ, gX_tZ, gF_sF, gA_sA, gL_sL, gB_sB, gZ_sZ, gO_sO, gX_sX, gA_tA, gL_tL, gB_tB, gZ_tZ, reduceIte, Nat.reduceEqDiff, Nat.zero_ne_one, Nat.one_ne_zero, Nat.succ_ne_self, forall_eq, vpT, cpyT, nI_leI, nI_ltI, nI_eq, nI_m1, oI_eqn, oI_eqm, va_up_ne', va_up_eq, eq_self_iff_true, true_or, or_true, true_implies, not_true_eq_false, not_false_eq_true, false_implies, and_true, true_and, forall_const, implies_true, ne_eq, Nat.add_sub_cancel, nI_pos, ite_self]
        · rw [e2]
          by_cases e : c = lcn (hnF A) p
          · subst e
            rw [va_up_eq]
            simp (disch := omega) only [ofI1, nI_add, pk_mul, pk_sub, nI_clamp, imin_nI, imax_nI, nl_0, nl_1, nl_2, nl_3, nl_4, nl_5, nl_6, nl_7, nl_8, nl_9, nl_10, nl_11, nl_12, nl_13, nl_15, nl_16, nl_20, nl_24, nl_26, nl_30, nl_32, nl_36, nl_39, nl_40, nl_45, nl_48, nl_50, nl_57, nl_59, nl_60, nl_61, nl_62, nl_64, nl_72, nl_73, nl_80, nl_90, nl_97, nl_99, nl_100, nl_120, nl_122, nl_123, nl_127, nl_128, nl_199, nl_200, nl_255, nl_256, nl_290, nl_399, nl_400, nl_500, nl_512, nl_520, nl_600, nl_999, nl_1000, nl_2000, nl_9999, nl_10000, nl_14, nl_17, nl_18, nl_19, nl_21, nl_22, nl_23, nl_25, nl_27, nl_28, nl_29, nl_31, nl_33, nl_34, nl_35, nl_47, nl_51, nl_63, nl_110, nl_195, nl_240, nl_1370, nl_3710, nl_6030, nl_6690, nl_7490, nl_7610, nl_9170, nl_11570, gA_sF, gL_sF, gB_sF, gZ_sF, gO_sF, gX_sF, gF_sA, gL_sA, gB_sA, gZ_sA, gO_sA, gX_sA, gF_sL, gA_sL, gB_sL, gZ_sL, gO_sL, gX_sL, gF_sB, gA_sB, gL_sB, gZ_sB, gO_sB, gX_sB, gF_sZ, gA_sZ, gL_sZ, gB_sZ, gO_sZ, gX_sZ, gF_sO, gA_sO, gL_sO, gB_sO, gZ_sO, gX_sO, gF_sX, gA_sX, gL_sX, gB_sX, gZ_sX, gO_sX, gF_tA, gL_tA, gB_tA, gZ_tA, gO_tA, gX_tA, gF_tL, gA_tL, gB_tL, gZ_tL, gO_tL, gX_tL, gF_tB, gA_tB, gL_tB, gZ_tB, gO_tB, gX_tB, gF_tZ, gA_tZ, gL_tZ, gB_tZ, gO_tZ, gX_tZ, gF_sF, gA_sA, gL_sL, gB_sB, gZ_sZ, gO_sO, gX_sX, gA_tA, gL_tL, gB_tB, gZ_tZ, reduceIte, Nat.reduceEqDiff, Nat.zero_ne_one, Nat.one_ne_zero, Nat.succ_ne_self, forall_eq, vpT, cpyT, nI_leI, nI_ltI, nI_eq, nI_m1, oI_eqn, oI_eqm, va_up_ne', va_up_eq, eq_self_iff_true, true_or, or_true, true_implies, not_true_eq_false, not_false_eq_true, false_implies, and_true, true_and, forall_const, implies_true, ne_eq, Nat.add_sub_cancel, nI_pos, ite_self]
          · rw [va_up_ne' _ _ e]
            have := i4 c (by omega)
            simp (disch := omega) only [this, ofI1, nI_add, pk_mul, pk_sub, nI_clamp, imin_nI, imax_nI, nl_0, nl_1, nl_2, nl_3, nl_4, nl_5, nl_6, nl_7, nl_8, nl_9, nl_10, nl_11, nl_12, nl_13, nl_15, nl_16, nl_20, nl_24, nl_26, nl_30, nl_32, nl_36, nl_39, nl_40, nl_45, nl_48, nl_50, nl_57, nl_59, nl_60, nl_61, nl_62, nl_64, nl_72, nl_73, nl_80, nl_90, nl_97, nl_99, nl_100, nl_120, nl_122, nl_123, nl_127, nl_128, nl_199, nl_200, nl_255, nl_256, nl_290, nl_399, nl_400, nl_500, nl_512, nl_520, nl_600, nl_999, nl_1000, nl_2000, nl_9999, nl_10000, nl_14, nl_17, nl_18, nl_19, nl_21, nl_22, nl_23, nl_25, nl_27, nl_28, nl_29, nl_31, nl_33, nl_34, nl_35, nl_47, nl_51, nl_63, nl_110, nl_195, nl_240, nl_1370, nl_3710, nl_6030, nl_6690, nl_7490, nl_7610, nl_9170, nl_11570, gA_sF, gL_sF, gB_sF, gZ_sF, gO_sF, gX_sF, gF_sA, gL_sA, gB_sA, gZ_sA, gO_sA, gX_sA, gF_sL, gA_sL, gB_sL, gZ_sL, gO_sL, gX_sL, gF_sB, gA_sB, gL_sB, gZ_sB, gO_sB, gX_sB, gF_sZ, gA_sZ, gL_sZ, gB_sZ, gO_sZ, gX_sZ, gF_sO, gA_sO, gL_sO, gB_sO, gZ_sO, gX_sO, gF_sX, gA_sX, gL_sX, gB_sX, gZ_sX, gO_sX, gF_tA, gL_tA, gB_tA, gZ_tA, gO_tA, gX_tA, gF_tL, gA_tL, gB_tL, gZ_tL, gO_tL, gX_tL, gF_tB, gA_tB, gL_tB, gZ_tB, gO_tB, gX_tB, gF_tZ, gA_tZ, gL_tZ, gB_tZ, gO_tZ, gX_tZ, gF_sF, gA_sA, gL_sL, gB_sB, gZ_sZ, gO_sO, gX_sX, gA_tA, gL_tL, gB_tB, gZ_tZ, reduceIte, Nat.reduceEqDiff, Nat.zero_ne_one, Nat.one_ne_zero, Nat.succ_ne_self, forall_eq, vpT, cpyT, nI_leI, nI_ltI, nI_eq, nI_m1, oI_eqn, oI_eqm, va_up_ne', va_up_eq, eq_self_iff_true, true_or, or_true, true_implies, not_true_eq_false, not_false_eq_true, false_implies, and_true, true_and, forall_const, implies_true, ne_eq, Nat.add_sub_cancel, nI_pos, ite_self]
    unfold qX3_choosePlaces_7
    rw [hla.1]
    refine c_n (nI_ge hp (by omega)) ?_
    refine pk_loop (fun f2 n (b : Bool) => qX3_choosePlaces_23 Q (qX3_choosePlaces_7 Q f) f2 v st la sp (nI p) (bI b) (nI n)) (fun n b => b = hnB A p n) (A 52 0) 0 false (Nat.zero_le _) rfl (fun f2 b hI => ?_) (fun f2 n b hn hI ih2 => ?_)
    · unfold qX3_choosePlaces_23
      rw [hsp.1.1]
      exact c_y (nI_le (Nat.le_refl _) (by omega)) (k65 b hI.symm)
    · have w10 : A 10 n < 2 ^ 31 := by
        have h1 := (hw.2.2.2.2.1 n hn).1
        omega
      have e1 : hnB A p (n + 1) = (hnB A p n || (A 10 n == p)) := rfl
      unfold qX3_choosePlaces_23
      rw [hsp.1.1, nI_clamp (by omega), (hsp.1.2 n hn).1, ofI1, nI_add]
      cases b with
      | true => exact c_n (nI_ge hn (by omega)) (c_n' (by decide) (k65 true (hnB_mono (by omega) hI.symm)))
      | false =>
        refine c_n (nI_ge hn (by omega)) (c_y' rfl (c_in rfl (by omega) (by decide) (c_eq' rfl rfl w10 (by omega) (fun e => ?_) (fun e => ?_))))
        · exact ih2 true (by rw [e1, ← hI, e]; simp)
        · exact ih2 false (by rw [e1, ← hI]; simpa using e)
def noJoin (A : Nat → Nat → Nat) (n : Nat) : Prop := 10 < lcn (hnF A) (A 51 0) ∨ lcn (hnF A) (A 51 0) < n
