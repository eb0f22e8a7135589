theorem MTab.fr {u v : Md} {k n : Nat} {g : Nat → Nat → Int} {nr : Nat → Nat → Bool} {R : Nat} (h : MTab u k n g nr R) (e : gA v 9 = gA u 9) : MTab v k n g nr R := by
  unfold MTab; rw [e]; exact h
/-- what fillMost starts from: the array may still be empty -/
theorem N_fillMost {u la : Md} {A : Nat → Nat → Nat} {ca k n : Nat} {pp : Nat → Nat} {g : Nat → Nat → Int} {nr : Nat → Nat → Bool} (hw : Wf A ca) (hla : Npl la A) (hx : gX u 1 = 0 ∨ gX u 1 = 10240)
    (d1 : gF u 1 = nI n) (d2 : gF u 6 = nI k) (d3 : ∀ c, c < k → gA u 7 c = nI (pp c) ∧ pp c < A 51 0) (d4 : ∀ i c, i < n → c < k → gA u 8 (i * 10 + c) = Int32.ofInt (g i c)) (k10 : k ≤ 10) (n7 : n ≤ 7) (hnk : n ≤ k) (hnr : ∀ a b, nr a b = nearB A (pp a) (pp b) 30) (hg : ∀ i c, i < n → c < k → -60 ≤ g i c ∧ g i c ≤ 20) {Q : Md → Md → Prop}
    (hQ0 : n = 0 → Q u la) (hQ : 0 < n → ∀ u', Fr [(1, 9), (6, 0), (6, 1)] u u' → PD u' A k n pp g → (∀ R, 0 < R → R < 2 ^ k → MTab u' k n g nr R) → Q u' la) : qX3_fillMost u la Q := by
  have hp : 0 < 2 ^ k := Nat.two_pow_pos k
  have hp2 : 2 ^ k ≤ 1024 := Nat.pow_le_pow_right (n := 2) (j := 10) (by decide) k10
  have zero : n = 0 → qX3_fillMost_24 Q u la := fun h0 => by
    subst h0
    unfold qX3_fillMost_24
    refine ⟨1, ?_⟩
    unfold qX3_fillMost_33
    rw [d1]
    refine ⟨fun _ => hQ0 rfl, fun _ => c_y (by decide) (hQ0 rfl)⟩
  have main : ∀ u0, Fr [(1, 9), (6, 0), (6, 1)] u u0 → PD u0 A k n pp g → 0 < n → qX3_fillMost_24 Q u0 la := fun u0 f0 hpd n0 => by
    unfold qX3_fillMost_24
    rw [hpd.2.1, one_shl10 ⟨k, by omega⟩, nl_1, pk_sub (show 1 ≤ 2 ^ (⟨k, by omega⟩ : Fin 11).val from hp)]
    dsimp only
    refine ⟨2 ^ k, ?_⟩
    have key := pk_loopD (fun f i v => qX3_fillMost_33 Q f v la (nI i)) (fun i v => i < 2 ^ k ∧ Fr [(1, 9), (6, 0), (6, 1)] u v ∧ PD v A k n pp g ∧ ∀ R, i < R → R < 2 ^ k → MTab v k n g nr R) (fun f v hI => ?_) (fun f i v hI ih => ?_) (2 ^ k - 1) u0 ⟨by omega, f0, hpd, fun R h1 h2 => by omega⟩
    · rw [show 2 ^ k - 1 + 1 = 2 ^ k by omega] at key; exact key
    · obtain ⟨i1, i2, i3, i4⟩ := hI
      unfold qX3_fillMost_33
      exact c_y (by decide) (hQ n0 v i2 i3 (fun R h1 h2 => i4 R h1 h2))
    · obtain ⟨i1, i2, i3, i4⟩ := hI
      unfold qX3_fillMost_33
      rw [i3.1]
      refine c_n (nI_ge (a := 0) (by omega) (by omega)) (c_n (nI_ge (a := 0) (by omega) (by omega)) ?_)
      have p10 : pc (i + 1) ≤ 10 := bs_one (i + 1) 10
      refine pk_loop (fun f2 c w => qX3_fillMost_46 Q (qX3_fillMost_33 Q f) f2 w la (nI (i + 1)) (nI c)) (fun c w => Fr [(1, 9), (6, 0), (6, 1)] u w ∧ PD w A k n pp g ∧ (∀ R, i + 1 < R → R < 2 ^ k → MTab w k n g nr R) ∧ ∀ d, d < c → (i + 1).testBit d = true → pc (i + 1) ≤ n → gA w 9 ((i + 1) * 10 + d) = Int32.ofInt (jV k n g nr (n - pc (i + 1)) (i + 1) (d + 1))) k 0 v (Nat.zero_le _) ⟨i2, i3, i4, fun d hd => by omega⟩ (fun f2 w hI => ?_) (fun f2 c w hc hI ih2 => ?_)
      · obtain ⟨j1, j2, j3, j4⟩ := hI
        unfold qX3_fillMost_46
        rw [j2.2.1, ofIm1]
        refine c_y (nI_le (Nat.le_refl _) (by omega)) (ih w ⟨by omega, j1, j2, fun R h1 h2 => ?_⟩)
        by_cases e : R = i + 1
        · subst e; exact fun d hd hb hp => j4 d hd hb hp
        · exact j3 R (by omega) h2
      · obtain ⟨j1, j2, j3, j4⟩ := hI
        unfold qX3_fillMost_46
        rw [j2.2.1, ofIm1, j2.1]
        refine c_n (nI_ge hc (by omega)) (N_bitCount (by omega) (c_lt rfl rfl (by omega) (by omega) (fun hlt => ?_) (fun hlt => ?_)))
        · refine ih w ⟨by omega, j1, j2, fun R h1 h2 => ?_⟩
          by_cases e : R = i + 1
          · subst e; exact fun d hd hb hp => by omega
          · exact j3 R (by omega) h2
        · rw [bit10 (by omega) (by omega), ofI1, nI_add]
          cases hb : (i + 1).testBit c with
          | false =>
            refine c_n' (by decide) (ih2 w ⟨j1, j2, j3, fun d hd hb2 hp => ?_⟩)
            by_cases e : d = c
            · rw [e, hb] at hb2; exact absurd hb2 (by decide)
            · exact j4 d (by omega) hb2 hp
          | true =>
            refine c_y' rfl ?_
            rw [← oI_s c]
            refine N_mostBehind (l := c + 1) hw hla j2 k10 n7 hnk hnr hg i1 (by omega) (fun d hd hf => j3 _ (or_gt hf) (or_lt i1 hd)) ⟨rfl, ?_⟩
            rw [oI_s, nl_10, pk_mul, nI_add, j2.2.2.2.2]
            refine c_in rfl (by omega) (by decide) (fun w' hw' => ?_)
            subst hw'
            have fr9 : Fr [(1, 9), (6, 0), (6, 1)] w (tA w 9 (nI ((i + 1) * 10 + c)) (Int32.ofInt (jV k n g nr (n - pc (i + 1)) (i + 1) (c + 1)))) := Fr.tA 9 _ _ (by decide)
            refine ih2 _ ⟨j1.tr fr9, j2, fun R h1 h2 d hd hbd hpd => ?_, fun d hd hb2 hp => ?_⟩
            · have := j3 R h1 h2 d hd hbd hpd
              simp (disch := omega) only [this, ofI1, nI_add, pk_mul, pk_sub, nI_clamp, imin_nI, imax_nI, nl_0, nl_1, nl_2, nl_3, nl_4, nl_5, nl_6, nl_7, nl_8, nl_9, nl_10, nl_11, nl_12, nl_13, nl_15, nl_16, nl_20, nl_24, nl_26, nl_30, nl_32, nl_36, nl_39, nl_40, nl_45, nl_48, nl_50, nl_57, nl_59, nl_60, nl_61, nl_62, nl_64, nl_72, nl_73, nl_80, nl_90, nl_97, nl_99, nl_100, nl_120, nl_122, nl_123, nl_127, nl_128, nl_199, nl_200, nl_255, nl_256, nl_290, nl_399, nl_400, nl_500, nl_512, nl_520, nl_600, nl_999, nl_1000, nl_2000, nl_9999, nl_10000, nl_14, nl_17, nl_18, nl_19, nl_21, nl_22, nl_23, nl_25, nl_27, nl_28, nl_29, nl_31, nl_33, nl_34, nl_35, nl_47, nl_51, nl_63, nl_110, nl_195, nl_240, nl_1370, nl_3710, nl_6030, nl_6690, nl_7490, nl_7610, nl_9170, nl_11570, gA_sF, gL_sF, gB_sF, gZ_sF, gO_sF, gX_sF, gF_sA, gL_sA, gB_sA, gZ_sA, gO_sA, gX_sA, gF_sL, gA_sL, gB_sL, gZ_sL, gO_sL, gX_sL, gF_sB, gA_sB, gL_sB, gZ_sB, gO_sB, gX_sB, gF_sZ, gA_sZ, gL_sZ, gB_sZ, gO_sZ, gX_sZ, gF_sO, gA_sO, gL_sO, gB_sO, gZ_sO, gX_sO, gF_sX, gA_sX, gL_sX, gB_sX, gZ_sX, gO_sX, gF_tA, gL_tA, gB_tA, gZ_tA, gO_tA, gX_tA, gF_tL, gA_tL, gB_tL, gZ_tL, gO_tL, gX_tL, gF_tB, gA_tB, gL_tB, gZ_tB, gO_tB, gX_tB, gF_tZ, gA_tZ, gL_tZ, gB_tZ, gO_tZ, gX_tZ, gF_sF, gA_sA, gL_sL, gB_sB, gZ_sZ, gO_sO, gX_sX, gA_tA, gL_tL, gB_tB, gZ_tZ, reduceIte, Nat.reduceEqDiff, Nat.zero_ne_one, Nat.one_ne_zero, Nat.succ_ne_self, forall_eq, vpT, cpyT, nI_leI, nI_ltI, nI_eq, nI_m1, oI_eqn, oI_eqm, va_up_ne', va_up_eq, eq_self_iff_true, true_or, or_true, true_implies, not_true_eq_false, not_false_eq_true, false_implies, and_true, true_and, forall_const, implies_true, ne_eq, Nat.add_sub_cancel, nI_pos, ite_self]
            · by_cases e : d = c
              · subst e
                simp (disch := omega) only [ofI1, nI_add, pk_mul, pk_sub, nI_clamp, imin_nI, imax_nI, nl_0, nl_1, nl_2, nl_3, nl_4, nl_5, nl_6, nl_7, nl_8, nl_9, nl_10, nl_11, nl_12, nl_13, nl_15, nl_16, nl_20, nl_24, nl_26, nl_30, nl_32, nl_36, nl_39, nl_40, nl_45, nl_48, nl_50, nl_57, nl_59, nl_60, nl_61, nl_62, nl_64, nl_72, nl_73, nl_80, nl_90, nl_97, nl_99, nl_100, nl_120, nl_122, nl_123, nl_127, nl_128, nl_199, nl_200, nl_255, nl_256, nl_290, nl_399, nl_400, nl_500, nl_512, nl_520, nl_600, nl_999, nl_1000, nl_2000, nl_9999, nl_10000, nl_14, nl_17, nl_18, nl_19, nl_21, nl_22, nl_23, nl_25, nl_27, nl_28, nl_29, nl_31, nl_33, nl_34, nl_35, nl_47, nl_51, nl_63, nl_110, nl_195, nl_240, nl_1370, nl_3710, nl_6030, nl_6690, nl_7490, nl_7610, nl_9170, nl_11570, gA_sF, gL_sF, gB_sF, gZ_sF, gO_sF, gX_sF, gF_sA, gL_sA, gB_sA, gZ_sA, gO_sA, gX_sA, gF_sL, gA_sL, gB_sL, gZ_sL, gO_sL, gX_sL, gF_sB, gA_sB, gL_sB, gZ_sB, gO_sB, gX_sB, gF_sZ, gA_sZ, gL_sZ, gB_sZ, gO_sZ, gX_sZ, gF_sO, gA_sO, gL_sO, gB_sO, gZ_sO, gX_sO, gF_sX, gA_sX, gL_sX, gB_sX, gZ_sX, gO_sX, gF_tA, gL_tA, gB_tA, gZ_tA, gO_tA, gX_tA, gF_tL, gA_tL, gB_tL, gZ_tL, gO_tL, gX_tL, gF_tB, gA_tB, gL_tB, gZ_tB, gO_tB, gX_tB, gF_tZ, gA_tZ, gL_tZ, gB_tZ, gO_tZ, gX_tZ, gF_sF, gA_sA, gL_sL, gB_sB, gZ_sZ, gO_sO, gX_sX, gA_tA, gL_tL, gB_tB, gZ_tZ, reduceIte, Nat.reduceEqDiff, Nat.zero_ne_one, Nat.one_ne_zero, Nat.succ_ne_self, forall_eq, vpT, cpyT, nI_leI, nI_ltI, nI_eq, nI_m1, oI_eqn, oI_eqm, va_up_ne', va_up_eq, eq_self_iff_true, true_or, or_true, true_implies, not_true_eq_false, not_false_eq_true, false_implies, and_true, true_and, forall_const, implies_true, ne_eq, Nat.add_sub_cancel, nI_pos, ite_self]
              · have := j4 d (by omega) hb2 hp
                simp (disch := omega) only [this, ofI1, nI_add, pk_mul, pk_sub, nI_clamp, imin_nI, imax_nI, nl_0, nl_1, nl_2, nl_3, nl_4, nl_5, nl_6, nl_7, nl_8, nl_9, nl_10, nl_11, nl_12, nl_13, nl_15, nl_16, nl_20, nl_24, nl_26, nl_30, nl_32, nl_36, nl_39, nl_40, nl_45, nl_48, nl_50, nl_57, nl_59, nl_60, nl_61, nl_62, nl_64, nl_72, nl_73, nl_80, nl_90, nl_97, nl_99, nl_100, nl_120, nl_122, nl_123, nl_127, nl_128, nl_199, nl_200, nl_255, nl_256, nl_290, nl_399, nl_400, nl_500, nl_512, nl_520, nl_600, nl_999, nl_1000, nl_2000, nl_9999, nl_10000, nl_14, nl_17, nl_18, nl_19, nl_21, nl_22, nl_23, nl_25, nl_27, nl_28, nl_29, nl_31, nl_33, nl_34, nl_35, nl_47, nl_51, nl_63, nl_110, nl_195, nl_240, nl_1370, nl_3710, nl_6030, nl_6690, nl_7490, nl_7610, nl_9170, nl_11570, gA_sF, gL_sF, gB_sF, gZ_sF, gO_sF, gX_sF, gF_sA, gL_sA, gB_sA, gZ_sA, gO_sA, gX_sA, gF_sL, gA_sL, gB_sL, gZ_sL, gO_sL, gX_sL, gF_sB, gA_sB, gL_sB, gZ_sB, gO_sB, gX_sB, gF_sZ, gA_sZ, gL_sZ, gB_sZ, gO_sZ, gX_sZ, gF_sO, gA_sO, gL_sO, gB_sO, gZ_sO, gX_sO, gF_sX, gA_sX, gL_sX, gB_sX, gZ_sX, gO_sX, gF_tA, gL_tA, gB_tA, gZ_tA, gO_tA, gX_tA, gF_tL, gA_tL, gB_tL, gZ_tL, gO_tL, gX_tL, gF_tB, gA_tB, gL_tB, gZ_tB, gO_tB, gX_tB, gF_tZ, gA_tZ, gL_tZ, gB_tZ, gO_tZ, gX_tZ, gF_sF, gA_sA, gL_sL, gB_sB, gZ_sZ, gO_sO, gX_sX, gA_tA, gL_tL, gB_tB, gZ_tZ, reduceIte, Nat.reduceEqDiff, Nat.zero_ne_one, Nat.one_ne_zero, Nat.succ_ne_self, forall_eq, vpT, cpyT, nI_leI, nI_ltI, nI_eq, nI_m1, oI_eqn, oI_eqm, va_up_ne', va_up_eq, eq_self_iff_true, true_or, or_true, true_implies, not_true_eq_false, not_false_eq_true, false_implies, and_true, true_and, forall_const, implies_true, ne_eq, Nat.add_sub_cancel, nI_pos, ite_self]
  unfold qX3_fillMost
  rcases hx with hx | hx
  · rw [hx, d1]
    refine c_y' rfl (c_le (b := 0) rfl rfl (by omega) (by omega) (fun h0 => zero (by omega)) (fun h0 q19 => main _ ?_ ⟨d1, d2, d3, d4, ?_⟩ (by omega)))
    · refine ⟨fun _ _ => rfl, fun j hj => ?_, fun _ _ => rfl, fun _ _ => rfl, fun _ _ => rfl, fun _ _ => rfl, fun j hj => ?_⟩
      · simp only [gA_sX, gA_sA]
        exact if_neg (fun e : j = 9 => hj (by rw [e]; decide))
      · simp only [gX_sX, gX_sA]
        rw [if_neg (fun e : j = 1 => hj (by rw [e]; decide)), if_neg (fun e : j = 0 => hj (by rw [e]; decide))]
    · simp only [gX_sX, gX_sA, if_true]
  · rw [hx]
    refine c_n' (by decide) ?_
    by_cases h0 : n = 0
    · exact zero h0
    · exact main u Fr.rf ⟨d1, d2, d3, d4, hx⟩ (by omega)
/-- the best row from a state on -/
def jR (k n : Nat) (g : Nat → Nat → Int) (nr : Nat → Nat → Bool) : Nat → Nat → Nat → Nat → Nat
  | 0 => fun _ _ _ => 0
  | r + 1 => fun S l j => if j = 0 then jC k n g nr r S l else jR k n g nr r (S ||| 2 ^ jC k n g nr r S l) (jC k n g nr r S l + 1) (j - 1)
theorem jR_0 (k n : Nat) (g : Nat → Nat → Int) (nr : Nat → Nat → Bool) (r S l : Nat) : jR k n g nr (r + 1) S l 0 = jC k n g nr r S l := by unfold jR; rw [if_pos rfl]
theorem jR_s (k n : Nat) (g : Nat → Nat → Int) (nr : Nat → Nat → Bool) (r S l j : Nat) : jR k n g nr (r + 1) S l (j + 1) = jR k n g nr r (S ||| 2 ^ jC k n g nr r S l) (jC k n g nr r S l + 1) j := by
  conv => lhs; unfold jR
  rw [if_neg (by omega), Nat.add_sub_cancel]
theorem N_takeFirst {u la : Md} {A : Nat → Nat → Nat} {ca k n : Nat} {pp : Nat → Nat} {g : Nat → Nat → Int} {nr : Nat → Nat → Bool} (hw : Wf A ca) (hla : Npl la A) (d1 : gF u 1 = nI n) (h : 0 < n → PD u A k n pp g ∧ ∀ R, 0 < R → R < 2 ^ k → MTab u k n g nr R) (k10 : k ≤ 10) (n7 : n ≤ 7) (hnk : n ≤ k) (hnr : ∀ a b, nr a b = nearB A (pp a) (pp b) 30) (hg : ∀ i c, i < n → c < k → -60 ≤ g i c ∧ g i c ≤ 20) {Q : Md → Md → Prop}
    (hQ : ∀ u', Fr [(0, 4), (1, 5)] u u' → gF u' 4 = nI n → (∀ i, i < n → jR k n g nr n 0 0 i < k ∧ gA u' 5 i = nI (pp (jR k n g nr n 0 0 i))) → Q u' la) : qX3_takeFirst u la Q := by
  unfold qX3_takeFirst
  intro w5 hw5
  subst hw5
  have f5 : Fr [(0, 4), (1, 5)] u (sF u 4 (gF u 1)) := Fr.sF 4 _ (by decide)
  have e5 : gF (sF u 4 (gF u 1)) 4 = nI n := by rw [d1]; simp (disch := omega) only [ofI1, nI_add, pk_mul, pk_sub, nI_clamp, imin_nI, imax_nI, nl_0, nl_1, nl_2, nl_3, nl_4, nl_5, nl_6, nl_7, nl_8, nl_9, nl_10, nl_11, nl_12, nl_13, nl_15, nl_16, nl_20, nl_24, nl_26, nl_30, nl_32, nl_36, nl_39, nl_40, nl_45, nl_48, nl_50, nl_57, nl_59, nl_60, nl_61, nl_62, nl_64, nl_72, nl_73, nl_80, nl_90, nl_97, nl_99, nl_100, nl_120, nl_122, nl_123, nl_127, nl_128, nl_199, nl_200, nl_255, nl_256, nl_290, nl_399, nl_400, nl_500, nl_512, nl_520, nl_600, nl_999, nl_1000, nl_2000, nl_9999, nl_10000, nl_14, nl_17, nl_18, nl_19, nl_21, nl_22, nl_23, nl_25, nl_27, nl_28, nl_29, nl_31, nl_33, nl_34, nl_35, nl_47, nl_51, nl_63, nl_110, nl_195, nl_240, nl_1370, nl_3710, nl_6030, nl_6690, nl_7490, nl_7610, nl_9170, nl_11570, gA_sF, gL_sF, gB_sF, gZ_sF, gO_sF, gX_sF, gF_sA, gL_sA, gB_sA, gZ_sA, gO_sA, gX_sA, gF_sL, gA_sL, gB_sL, gZ_sL, gO_sL, gX_sL, gF_sB, gA_sB, gL_sB, gZ_sB, gO_sB, gX_sB, gF_sZ, gA_sZ, gL_sZ, gB_sZ, gO_sZ, gX_sZ, gF_sO, gA_sO, gL_sO, gB_sO, gZ_sO, gX_sO, gF_sX, gA_sX, gL_sX, gB_sX, gZ_sX, gO_sX, gF_tA, gL_tA, gB_tA, gZ_tA, gO_tA, gX_tA, gF_tL, gA_tL, gB_tL, gZ_tL, gO_tL, gX_tL, gF_tB, gA_tB, gL_tB, gZ_tB, gO_tB, gX_tB, gF_tZ, gA_tZ, gL_tZ, gB_tZ, gO_tZ, gX_tZ, gF_sF, gA_sA, gL_sL, gB_sB, gZ_sZ, gO_sO, gX_sX, gA_tA, gL_tL, gB_tB, gZ_tZ, reduceIte, Nat.reduceEqDiff, Nat.zero_ne_one, Nat.one_ne_zero, Nat.succ_ne_self, forall_eq, vpT, cpyT, nI_leI, nI_ltI, nI_eq, nI_m1, oI_eqn, oI_eqm, va_up_ne', va_up_eq, eq_self_iff_true, true_or, or_true, true_implies, not_true_eq_false, not_false_eq_true, false_implies, and_true, true_and, forall_const, implies_true, ne_eq, Nat.add_sub_cancel, nI_pos, ite_self]
  refine pk_loop (fun f i (z : Md × Nat × Nat) => qX3_takeFirst_15 Q f z.1 la (nI z.2.1) (oI z.2.2) (nI i)) (fun i z => Fr [(0, 4), (1, 5)] u z.1 ∧ gF z.1 4 = nI n ∧ z.2.1 < 2 ^ k ∧ z.2.2 ≤ k ∧ pc z.2.1 = i ∧ (∀ j, jR k n g nr (n - i) z.2.1 z.2.2 j = jR k n g nr n 0 0 (i + j)) ∧ ∀ j, j < i → jR k n g nr n 0 0 j < k ∧ gA z.1 5 j = nI (pp (jR k n g nr n 0 0 j))) n 0 (sF u 4 (gF u 1), 0, 0) (Nat.zero_le _) ⟨f5, e5, Nat.two_pow_pos k, Nat.zero_le _, bs_emp _ _, fun j => by rw [Nat.zero_add]; rfl, fun j hj => by omega⟩ (fun f z hI => ?_) (fun f i z hi hI ih => ?_)
  · obtain ⟨v, S, l⟩ := z
    obtain ⟨i1, i2, i3, i4, i5, i6, i7⟩ := hI
    unfold qX3_takeFirst_15
    rw [show gF v 1 = nI n from (i1.1 1 (by decide)).trans d1]
    exact c_y (nI_le (Nat.le_refl _) (by omega)) (hQ v i1 i2 i7)
  · obtain ⟨v, S, l⟩ := z
    obtain ⟨i1, i2, i3, i4, i5, i6, i7⟩ := hI
    dsimp only at i1 i2 i3 i4 i5 i6 i7 ⊢
    obtain ⟨hpd, hmt⟩ := h (by omega)
    have hpv : PD v A k n pp g := hpd.fr i1 (by decide) (by decide) (by decide) (by decide) (by decide)
    have hmv : ∀ R, 0 < R → R < 2 ^ k → MTab v k n g nr R := fun R h1 h2 => (hmt R h1 h2).fr (i1.2.1 9 (by decide))
    have hS10 := lt10 k10 i3
    have hM : ∀ c, c < k → S.testBit c = false → MTab v k n g nr (S ||| 2 ^ c) := fun c hc hf => hmv _ (Nat.lt_of_le_of_lt (Nat.zero_le _) (or_gt hf)) (or_lt i3 hc)
    obtain ⟨r, hr⟩ : ∃ r, n - i = r + 1 := ⟨n - i - 1, by omega⟩
    have hr3 : n - (r + 1) = i := by omega
    obtain ⟨c1, c2, c3, c4⟩ := jC_is (nr := nr) (l := l) (S := S) (r := r) k10 n7 hg (by omega) (by omega)
    have jb := jV_b (nr := nr) k10 hg (r + 1) S l (by omega) (by omega)
    unfold qX3_takeFirst_15
    rw [hpv.1]
    refine c_n (nI_ge hi (by omega)) (N_mostBehind hw hla hpv k10 n7 hnk hnr hg i3 i4 hM ?_)
    rw [i5, hr]
    generalize hC : jC k n g nr r S l = C at c1 c2 c3 c4
    have take : qX3_takeFirst_67 Q (qX3_takeFirst_15 Q f) v la (nI S) (nI i) (nI C) := by
      unfold qX3_takeFirst_67
      rw [or_nI hS10 (by omega), nI_clamp (by omega), (hpv.2.2.1 C c1).1, ofI1, nI_add]
      refine c_in rfl (by omega) (by decide) (c_in rfl (by omega) (by decide) (fun w hw' => ?_))
      subst hw'
      rw [← oI_s C]
      have j0 : jR k n g nr n 0 0 i = C := by
        have this : jR k n g nr (r + 1) S l 0 = jR k n g nr n 0 0 i := by
          have t := i6 0
          rw [hr] at t; exact t
        rw [← this]
        rw [jR_0]; exact hC
      refine ih (tA v 5 (nI i) (nI (pp C)), S ||| 2 ^ C, C + 1) ⟨i1.tr (Fr.tA 5 _ _ (by decide)), i2, or_lt i3 c1, by show C + 1 ≤ k; omega, ?_, fun j => ?_, fun j hj => ?_⟩
      · show pc (S ||| 2 ^ C) = i + 1
        rw [pc_or (by omega) c2, i5]
      · show jR k n g nr (n - (i + 1)) (S ||| 2 ^ C) (C + 1) j = _
        have := i6 (j + 1)
        rw [hr] at this
        rw [show n - (i + 1) = r by omega, show i + 1 + j = i + (j + 1) by omega, ← this]
        rw [jR_s, hC]
      · show _ ∧ gA (tA v 5 (nI i) (nI (pp C))) 5 j = _
        by_cases e : j = i
        · subst e
          rw [j0]
          refine ⟨c1, ?_⟩
          simp (disch := omega) only [ofI1, nI_add, pk_mul, pk_sub, nI_clamp, imin_nI, imax_nI, nl_0, nl_1, nl_2, nl_3, nl_4, nl_5, nl_6, nl_7, nl_8, nl_9, nl_10, nl_11, nl_12, nl_13, nl_15, nl_16, nl_20, nl_24, nl_26, nl_30, nl_32, nl_36, nl_39, nl_40, nl_45, nl_48, nl_50, nl_57, nl_59, nl_60, nl_61, nl_62, nl_64, nl_72, nl_73, nl_80, nl_90, nl_97, nl_99, nl_100, nl_120, nl_122, nl_123, nl_127, nl_128, nl_199, nl_200, nl_255, nl_256, nl_290, nl_399, nl_400, nl_500, nl_512, nl_520, nl_600, nl_999, nl_1000, nl_2000, nl_9999, nl_10000, nl_14, nl_17, nl_18, nl_19, nl_21, nl_22, nl_23, nl_25, nl_27, nl_28, nl_29, nl_31, nl_33, nl_34, nl_35, nl_47, nl_51, nl_63, nl_110, nl_195, nl_240, nl_1370, nl_3710, nl_6030, nl_6690, nl_7490, nl_7610, nl_9170, nl_11570, gA_sF, gL_sF, gB_sF, gZ_sF, gO_sF, gX_sF, gF_sA, gL_sA, gB_sA, gZ_sA, gO_sA, gX_sA, gF_sL, gA_sL, gB_sL, gZ_sL, gO_sL, gX_sL, gF_sB, gA_sB, gL_sB, gZ_sB, gO_sB, gX_sB, gF_sZ, gA_sZ, gL_sZ, gB_sZ, gO_sZ, gX_sZ, gF_sO, gA_sO, gL_sO, gB_sO, gZ_sO, gX_sO, gF_sX, gA_sX, gL_sX, gB_sX, gZ_sX, gO_sX, gF_tA, gL_tA, gB_tA, gZ_tA, gO_tA, gX_tA, gF_tL, gA_tL, gB_tL, gZ_tL, gO_tL, gX_tL, gF_tB, gA_tB, gL_tB, gZ_tB, gO_tB, gX_tB, gF_tZ, gA_tZ, gL_tZ, gB_tZ, gO_tZ, gX_tZ, gF_sF, gA_sA, gL_sL, gB_sB, gZ_sZ, gO_sO, gX_sX, gA_tA, gL_tL, gB_tB, gZ_tZ, reduceIte, Nat.reduceEqDiff, Nat.zero_ne_one, Nat.one_ne_zero, Nat.succ_ne_self, forall_eq, vpT, cpyT, nI_leI, nI_ltI, nI_eq, nI_m1, oI_eqn, oI_eqm, va_up_ne', va_up_eq, eq_self_iff_true, true_or, or_true, true_implies, not_true_eq_false, not_false_eq_true, false_implies, and_true, true_and, forall_const, implies_true, ne_eq, Nat.add_sub_cancel, nI_pos, ite_self]
        · have := i7 j (by omega)
          refine ⟨this.1, ?_⟩
          simp (disch := omega) only [this.2, ofI1, nI_add, pk_mul, pk_sub, nI_clamp, imin_nI, imax_nI, nl_0, nl_1, nl_2, nl_3, nl_4, nl_5, nl_6, nl_7, nl_8, nl_9, nl_10, nl_11, nl_12, nl_13, nl_15, nl_16, nl_20, nl_24, nl_26, nl_30, nl_32, nl_36, nl_39, nl_40, nl_45, nl_48, nl_50, nl_57, nl_59, nl_60, nl_61, nl_62, nl_64, nl_72, nl_73, nl_80, nl_90, nl_97, nl_99, nl_100, nl_120, nl_122, nl_123, nl_127, nl_128, nl_199, nl_200, nl_255, nl_256, nl_290, nl_399, nl_400, nl_500, nl_512, nl_520, nl_600, nl_999, nl_1000, nl_2000, nl_9999, nl_10000, nl_14, nl_17, nl_18, nl_19, nl_21, nl_22, nl_23, nl_25, nl_27, nl_28, nl_29, nl_31, nl_33, nl_34, nl_35, nl_47, nl_51, nl_63, nl_110, nl_195, nl_240, nl_1370, nl_3710, nl_6030, nl_6690, nl_7490, nl_7610, nl_9170, nl_11570, gA_sF, gL_sF, gB_sF, gZ_sF, gO_sF, gX_sF, gF_sA, gL_sA, gB_sA, gZ_sA, gO_sA, gX_sA, gF_sL, gA_sL, gB_sL, gZ_sL, gO_sL, gX_sL, gF_sB, gA_sB, gL_sB, gZ_sB, gO_sB, gX_sB, gF_sZ, gA_sZ, gL_sZ, gB_sZ, gO_sZ, gX_sZ, gF_sO, gA_sO, gL_sO, gB_sO, gZ_sO, gX_sO, gF_sX, gA_sX, gL_sX, gB_sX, gZ_sX, gO_sX, gF_tA, gL_tA, gB_tA, gZ_tA, gO_tA, gX_tA, gF_tL, gA_tL, gB_tL, gZ_tL, gO_tL, gX_tL, gF_tB, gA_tB, gL_tB, gZ_tB, gO_tB, gX_tB, gF_tZ, gA_tZ, gL_tZ, gB_tZ, gO_tZ, gX_tZ, gF_sF, gA_sA, gL_sL, gB_sB, gZ_sZ, gO_sO, gX_sX, gA_tA, gL_tL, gB_tB, gZ_tZ, reduceIte, Nat.reduceEqDiff, Nat.zero_ne_one, Nat.one_ne_zero, Nat.succ_ne_self, forall_eq, vpT, cpyT, nI_leI, nI_ltI, nI_eq, nI_m1, oI_eqn, oI_eqm, va_up_ne', va_up_eq, eq_self_iff_true, true_or, or_true, true_implies, not_true_eq_false, not_false_eq_true, false_implies, and_true, true_and, forall_const, implies_true, ne_eq, Nat.add_sub_cancel, nI_pos, ite_self]
    refine pk_loop (fun f2 c (z : Unit) => qX3_takeFirst_36 Q (qX3_takeFirst_15 Q f) f2 v la (nI S) (oI l) (nI i) (Int32.ofInt (jV k n g nr (r + 1) S l)) (nI c)) (fun c z => True) C 0 () (Nat.zero_le _) trivial (fun f2 z _ => ?_) (fun f2 c z hc _ ih2 => ?_)
    · unfold qX3_takeFirst_36
      rw [hpv.2.1, nl_1, pk_sub (by omega)]
      refine c_le rfl rfl (by omega) (by omega) (fun _ => take) (fun _ => ?_)
      unfold qX3_reaches
      rw [bit10 (by omega) (by omega), c2]
      refine c_y' rfl (N_sumWith hw hla hpv k10 n7 hnr i3 c1 c2 (by omega) i4 (hM C c1 c2) ?_)
      rw [i5, show n - (i + 1) = r by omega, ← hr3, c3]
      exact c_y' rfl (b_1 (by rw [hr3]; exact take))
    · unfold qX3_takeFirst_36
      rw [hpv.2.1, nl_1, pk_sub (by omega), ofI1, nI_add]
      refine c_n (nI_ge (by omega) (by omega)) ?_
      unfold qX3_reaches
      rw [bit10 (by omega) (by omega)]
      cases hb : S.testBit c with
      | true => exact c_n' (by decide) (b_0 (ih2 () trivial))
      | false =>
        have lt := c4 c hc hb
        have h1 := hg i c hi (by omega)
        have h2 := bon_b nr l c
        have h3 := jV_b (nr := nr) k10 hg r (S ||| 2 ^ c) (c + 1) (by omega) (by rw [pc_or (by omega) hb]; omega)
        rw [hr3] at lt
        refine c_y' rfl (N_sumWith hw hla hpv k10 n7 hnr i3 (by omega) hb (by omega) i4 (hM c (by omega) hb) ?_)
        rw [i5, show n - (i + 1) = r by omega]
        exact c_n' (fun z => absurd ((zi_eq (by omega) (by omega) (by omega) (by omega)).1 z) (by omega)) (b_0 (ih2 () trivial))
