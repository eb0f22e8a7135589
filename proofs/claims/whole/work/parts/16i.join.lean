theorem jR_lt {k n : Nat} {g : Nat → Nat → Int} {nr : Nat → Nat → Bool} (hk : k ≤ 10) (hn : n ≤ 7) (hg : ∀ i c, i < n → c < k → -60 ≤ g i c ∧ g i c ≤ 20) : ∀ r S l, r ≤ n → pc S + r ≤ k → ∀ j, j < r → jR k n g nr r S l j < k := by
  intro r
  induction r with
  | zero => intro S l _ _ j hj; omega
  | succ r ih =>
    intro S l hr hp j hj
    obtain ⟨c1, c2, -, -⟩ := jC_is (nr := nr) (l := l) (S := S) (r := r) hk hn hg hr hp
    cases j with
    | zero => rw [jR_0]; exact c1
    | succ j =>
      rw [jR_s]
      exact ih _ _ (by omega) (by rw [pc_or (by omega) c2]; omega) j (by omega)
theorem M_joinRest {m : Md} {A : Nat → Nat → Nat} {ca y k n : Nat} {pp : Nat → Nat} {g : Nat → Nat → Int} {nr : Nat → Nat → Bool} {W : Nat → List (Nat × Int32)} (hw : Wf A ca) (hm : MW (gA m 1) A) (hy : y < 400) (h36 : gF m 36 = nI y) (d1 : gF m 37 = nI n) (n7 : n ≤ 7) (hW : WrM m n W) (ek : k = lcn (hnF A) (A 51 0)) (ep : pp = lsg (hnF A) (A 51 0)) (eg : g = fun i c => gn A (W i) y (pp c)) (en : nr = fun a b => nearB A (pp a) (pp b) 30) (k10 : k ≤ 10) (hnk : n ≤ k) {u : Md} (fu : Fr [(0, 21), (1, 19), (1, 20), (0, 26), (1, 25), (1, 27), (0, 40), (1, 41), (1, 42), (1, 43), (1, 44), (0, 45), (0, 47), (1, 46)] m u) (e40 : gF u 40 = nI k) (e41 : ∀ c, c < k → gA u 41 c = nI (pp c)) {Q : Int32 → Md → Prop}
    (hQ : ∀ m', Fr [(0, 21), (1, 19), (1, 20), (0, 26), (1, 25), (1, 27), (0, 40), (1, 41), (1, 42), (1, 43), (1, 44), (0, 45), (0, 47), (1, 46)] m m' → gF m' 47 = nI n → (∀ i, i < n → gA m' 46 i = nI (pp (jR k n g nr n 0 0 i))) → Q (Int32.ofInt (jV k n g nr n 0 0)) m') : ∃ n', qX12_join_90 Q n' u 0 := by
  have b1 : A 51 0 ≤ 40 := hw.1.2.1
  have hg : ∀ i c, i < n → c < k → -60 ≤ g i c ∧ g i c ≤ 20 := fun i c _ _ => by rw [eg]; exact gn_b _ _ _ _
  have hnr : ∀ a b, nr a b = nearB A (pp a) (pp b) 30 := fun a b => by rw [en]
  have hpp : ∀ c, c < k → pp c < A 51 0 ∧ hnF A (pp c) = true := fun c hc => by rw [ep]; exact lsg_p (p := hnF A) (A 51 0) c (by omega)
  refine pk_loop (fun f i v => qX12_join_90 Q f v (nI i)) (fun i v => Fr [(0, 21), (1, 19), (1, 20), (0, 26), (1, 25), (1, 27), (0, 40), (1, 41), (1, 42), (1, 43), (1, 44), (0, 45), (0, 47), (1, 46)] m v ∧ gF v 40 = nI k ∧ (∀ c, c < k → gA v 41 c = nI (pp c)) ∧ ∀ t c, t < i → c < k → gA v 42 (10 * t + c) = Int32.ofInt (g t c)) n 0 u (Nat.zero_le _) ⟨fu, e40, e41, fun t c ht => by omega⟩ (fun f v hI => ?_) (fun f i v hi hI ih => ?_)
  · obtain ⟨i1, i2, i3, i4⟩ := hI
    have v37 : gF v 37 = nI n := (i1.1 37 (by decide)).trans d1
    unfold qX12_join_90
    rw [v37]
    refine c_y (nI_le (Nat.le_refl _) (by omega)) (fun w146 hw146 => ?_)
    have f146 : Fr [(0, 21), (1, 19), (1, 20), (0, 26), (1, 25), (1, 27), (0, 40), (1, 41), (1, 42), (1, 43), (1, 44), (0, 45), (0, 47), (1, 46)] v w146 := by rw [hw146]; exact Fr.sF 45 _ (by decide)
    have g45 : gF w146 45 = Int32.ofInt (-1000000) := by rw [hw146]; simp (disch := omega) only [ofI1, nI_add, pk_mul, pk_sub, nI_clamp, imin_nI, imax_nI, nl_0, nl_1, nl_2, nl_3, nl_4, nl_5, nl_6, nl_7, nl_8, nl_9, nl_10, nl_11, nl_12, nl_13, nl_15, nl_16, nl_20, nl_24, nl_26, nl_30, nl_32, nl_36, nl_39, nl_40, nl_45, nl_48, nl_50, nl_57, nl_59, nl_60, nl_61, nl_62, nl_64, nl_72, nl_73, nl_80, nl_90, nl_97, nl_99, nl_100, nl_120, nl_122, nl_123, nl_127, nl_128, nl_199, nl_200, nl_255, nl_256, nl_290, nl_399, nl_400, nl_500, nl_512, nl_520, nl_600, nl_999, nl_1000, nl_2000, nl_9999, nl_10000, nl_14, nl_17, nl_18, nl_19, nl_21, nl_22, nl_23, nl_25, nl_27, nl_28, nl_29, nl_31, nl_33, nl_34, nl_35, nl_47, nl_51, nl_63, nl_110, nl_195, nl_240, nl_1370, nl_3710, nl_6030, nl_6690, nl_7490, nl_7610, nl_9170, nl_11570, gA_sF, gL_sF, gB_sF, gZ_sF, gO_sF, gX_sF, gF_sA, gL_sA, gB_sA, gZ_sA, gO_sA, gX_sA, gF_sL, gA_sL, gB_sL, gZ_sL, gO_sL, gX_sL, gF_sB, gA_sB, gL_sB, gZ_sB, gO_sB, gX_sB, gF_sZ, gA_sZ, gL_sZ, gB_sZ, gO_sZ, gX_sZ, gF_sO, gA_sO, gL_sO, gB_sO, gZ_sO, gX_sO, gF_sX, gA_sX, gL_sX, gB_sX, gZ_sX, gO_sX, gF_tA, gL_tA, gB_tA, gZ_tA, gO_tA, gX_tA, gF_tL, gA_tL, gB_tL, gZ_tL, gO_tL, gX_tL, gF_tB, gA_tB, gL_tB, gZ_tB, gO_tB, gX_tB, gF_tZ, gA_tZ, gL_tZ, gB_tZ, gO_tZ, gX_tZ, gF_sF, gA_sA, gL_sL, gB_sB, gZ_sZ, gO_sO, gX_sX, gA_tA, gL_tL, gB_tB, gZ_tZ, reduceIte, Nat.reduceEqDiff, Nat.zero_ne_one, Nat.one_ne_zero, Nat.succ_ne_self, forall_eq, vpT, cpyT, nI_leI, nI_ltI, nI_eq, nI_m1, oI_eqn, oI_eqm, va_up_ne', va_up_eq, eq_self_iff_true, true_or, or_true, true_implies, not_true_eq_false, not_false_eq_true, false_implies, and_true, true_and, forall_const, implies_true, ne_eq, Nat.add_sub_cancel, nI_pos, ite_self]; rfl
    have hJ : JD w146 A k n pp g := by
      rw [hw146]
      exact ⟨by show MW (gA v 1) A; rw [i1.2.1 1 (by decide)]; exact hm, v37, i2, fun c hc => ⟨i3 c hc, (hpp c hc).1⟩, i4⟩
    clear hw146
    have jb := jV_b (nr := nr) k10 hg n 0 0 (Nat.le_refl _) (by rw [show pc 0 = 0 from bs_emp _ _]; omega)
    refine joins_7 hw k10 n7 hnk hnr hg w146 0 n 0 0 0 (-1000000) (fun _ => 0) hJ (Nat.zero_add n) n7 (Nat.two_pow_pos k) (bs_emp _ _) (fun j hj => by omega) (fun _ => rfl) (fun h => by omega) (by omega) (by omega) g45 (by omega) (by omega) _ (fun v2 f2 _ hyes _ => ?_)
    obtain ⟨y1, y2⟩ := hyes (by omega)
    rw [Int.zero_add] at y1
    have hJ2 := hJ.fr f2
    rw [hJ2.2.1]
    intro w161 hw161
    have f161 : Fr [(0, 21), (1, 19), (1, 20), (0, 26), (1, 25), (1, 27), (0, 40), (1, 41), (1, 42), (1, 43), (1, 44), (0, 45), (0, 47), (1, 46)] m w161 := by rw [hw161]; exact (i1.tr (f146.tr (f2.mono (by decide)))).tr (Fr.sF 47 _ (by decide))
    have g47 : gF w161 47 = nI n := by rw [hw161]; simp (disch := omega) only [ofI1, nI_add, pk_mul, pk_sub, nI_clamp, imin_nI, imax_nI, nl_0, nl_1, nl_2, nl_3, nl_4, nl_5, nl_6, nl_7, nl_8, nl_9, nl_10, nl_11, nl_12, nl_13, nl_15, nl_16, nl_20, nl_24, nl_26, nl_30, nl_32, nl_36, nl_39, nl_40, nl_45, nl_48, nl_50, nl_57, nl_59, nl_60, nl_61, nl_62, nl_64, nl_72, nl_73, nl_80, nl_90, nl_97, nl_99, nl_100, nl_120, nl_122, nl_123, nl_127, nl_128, nl_199, nl_200, nl_255, nl_256, nl_290, nl_399, nl_400, nl_500, nl_512, nl_520, nl_600, nl_999, nl_1000, nl_2000, nl_9999, nl_10000, nl_14, nl_17, nl_18, nl_19, nl_21, nl_22, nl_23, nl_25, nl_27, nl_28, nl_29, nl_31, nl_33, nl_34, nl_35, nl_47, nl_51, nl_63, nl_110, nl_195, nl_240, nl_1370, nl_3710, nl_6030, nl_6690, nl_7490, nl_7610, nl_9170, nl_11570, gA_sF, gL_sF, gB_sF, gZ_sF, gO_sF, gX_sF, gF_sA, gL_sA, gB_sA, gZ_sA, gO_sA, gX_sA, gF_sL, gA_sL, gB_sL, gZ_sL, gO_sL, gX_sL, gF_sB, gA_sB, gL_sB, gZ_sB, gO_sB, gX_sB, gF_sZ, gA_sZ, gL_sZ, gB_sZ, gO_sZ, gX_sZ, gF_sO, gA_sO, gL_sO, gB_sO, gZ_sO, gX_sO, gF_sX, gA_sX, gL_sX, gB_sX, gZ_sX, gO_sX, gF_tA, gL_tA, gB_tA, gZ_tA, gO_tA, gX_tA, gF_tL, gA_tL, gB_tL, gZ_tL, gO_tL, gX_tL, gF_tB, gA_tB, gL_tB, gZ_tB, gO_tB, gX_tB, gF_tZ, gA_tZ, gL_tZ, gB_tZ, gO_tZ, gX_tZ, gF_sF, gA_sA, gL_sL, gB_sB, gZ_sZ, gO_sO, gX_sX, gA_tA, gL_tL, gB_tB, gZ_tZ, reduceIte, Nat.reduceEqDiff, Nat.zero_ne_one, Nat.one_ne_zero, Nat.succ_ne_self, forall_eq, vpT, cpyT, nI_leI, nI_ltI, nI_eq, nI_m1, oI_eqn, oI_eqm, va_up_ne', va_up_eq, eq_self_iff_true, true_or, or_true, true_implies, not_true_eq_false, not_false_eq_true, false_implies, and_true, true_and, forall_const, implies_true, ne_eq, Nat.add_sub_cancel, nI_pos, ite_self]
    have h45 : gF w161 45 = Int32.ofInt (jV k n g nr n 0 0) := by rw [hw161]; exact y1
    have h41 : ∀ c, c < k → gA w161 41 c = nI (pp c) := fun c hc => by rw [hw161]; exact (hJ2.2.2.2.1 c hc).1
    have h44 : ∀ j, j < n → gA w161 44 j = nI (jR k n g nr n 0 0 j) := fun j hj => by
      rw [hw161]
      have := y2 j hj
      rw [if_neg (by omega), Nat.sub_zero] at this
      exact this
    clear hw161
    have jlt : ∀ j, j < n → jR k n g nr n 0 0 j < k := jR_lt k10 n7 hg n 0 0 (Nat.le_refl _) (by rw [show pc 0 = 0 from bs_emp _ _]; omega)
    refine pk_loop (fun f3 j x => qX12_join_166 Q f3 x (nI j)) (fun j x => Fr [(0, 21), (1, 19), (1, 20), (0, 26), (1, 25), (1, 27), (0, 40), (1, 41), (1, 42), (1, 43), (1, 44), (0, 45), (0, 47), (1, 46)] m x ∧ gF x 47 = nI n ∧ gF x 45 = Int32.ofInt (jV k n g nr n 0 0) ∧ gA x 41 = gA w161 41 ∧ gA x 44 = gA w161 44 ∧ ∀ t, t < j → gA x 46 t = nI (pp (jR k n g nr n 0 0 t))) n 0 w161 (Nat.zero_le _) ⟨f161, g47, h45, rfl, rfl, fun t ht => by omega⟩ (fun f3 x hI3 => ?_) (fun f3 j x hj hI3 ih3 => ?_)
    · obtain ⟨j1, j2, j3, j4, j5, j6⟩ := hI3
      unfold qX12_join_166
      rw [show gF x 37 = nI n from (j1.1 37 (by decide)).trans d1, j3]
      exact c_y (nI_le (Nat.le_refl _) (by omega)) (hQ x j1 j2 j6)
    · obtain ⟨j1, j2, j3, j4, j5, j6⟩ := hI3
      have jl := jlt j hj
      unfold qX12_join_166
      rw [show gF x 37 = nI n from (j1.1 37 (by decide)).trans d1, nI_clamp (by omega), j5, h44 j hj, nI_clamp (by omega), j4, h41 _ jl, ofI1, nI_add]
      refine c_n (nI_ge hj (by omega)) (c_in rfl (by omega) (by decide) (c_in rfl (by omega) (by decide) (c_in rfl (by omega) (by decide) (fun w hw' => ?_))))
      subst hw'
      refine ih3 _ ⟨j1.tr (Fr.tA 46 _ _ (by decide)), j2, j3, j4, j5, fun t ht => ?_⟩
      by_cases e : t = j
      · subst e; simp (disch := omega) only [ofI1, nI_add, pk_mul, pk_sub, nI_clamp, imin_nI, imax_nI, nl_0, nl_1, nl_2, nl_3, nl_4, nl_5, nl_6, nl_7, nl_8, nl_9, nl_10, nl_11, nl_12, nl_13, nl_15, nl_16, nl_20, nl_24, nl_26, nl_30, nl_32, nl_36, nl_39, nl_40, nl_45, nl_48, nl_50, nl_57, nl_59, nl_60, nl_61, nl_62, nl_64, nl_72, nl_73, nl_80, nl_90, nl_97, nl_99, nl_100, nl_120, nl_122, nl_123, nl_127, nl_128, nl_199, nl_200, nl_255, nl_256, nl_290, nl_399, nl_400, nl_500, nl_512, nl_520, nl_600, nl_999, nl_1000, nl_2000, nl_9999, nl_10000, nl_14, nl_17, nl_18, nl_19, nl_21, nl_22, nl_23, nl_25, nl_27, nl_28, nl_29, nl_31, nl_33, nl_34, nl_35, nl_47, nl_51, nl_63, nl_110, nl_195, nl_240, nl_1370, nl_3710, nl_6030, nl_6690, nl_7490, nl_7610, nl_9170, nl_11570, gA_sF, gL_sF, gB_sF, gZ_sF, gO_sF, gX_sF, gF_sA, gL_sA, gB_sA, gZ_sA, gO_sA, gX_sA, gF_sL, gA_sL, gB_sL, gZ_sL, gO_sL, gX_sL, gF_sB, gA_sB, gL_sB, gZ_sB, gO_sB, gX_sB, gF_sZ, gA_sZ, gL_sZ, gB_sZ, gO_sZ, gX_sZ, gF_sO, gA_sO, gL_sO, gB_sO, gZ_sO, gX_sO, gF_sX, gA_sX, gL_sX, gB_sX, gZ_sX, gO_sX, gF_tA, gL_tA, gB_tA, gZ_tA, gO_tA, gX_tA, gF_tL, gA_tL, gB_tL, gZ_tL, gO_tL, gX_tL, gF_tB, gA_tB, gL_tB, gZ_tB, gO_tB, gX_tB, gF_tZ, gA_tZ, gL_tZ, gB_tZ, gO_tZ, gX_tZ, gF_sF, gA_sA, gL_sL, gB_sB, gZ_sZ, gO_sO, gX_sX, gA_tA, gL_tL, gB_tB, gZ_tZ, reduceIte, Nat.reduceEqDiff, Nat.zero_ne_one, Nat.one_ne_zero, Nat.succ_ne_self, forall_eq, vpT, cpyT, nI_leI, nI_ltI, nI_eq, nI_m1, oI_eqn, oI_eqm, va_up_ne', va_up_eq, eq_self_iff_true, true_or, or_true, true_implies, not_true_eq_false, not_false_eq_true, false_implies, and_true, true_and, forall_const, implies_true, ne_eq, Nat.add_sub_cancel, nI_pos, ite_self]
      · have := j6 t (by omega)
        simp (disch := omega) only [this, ofI1, nI_add, pk_mul, pk_sub, nI_clamp, imin_nI, imax_nI, nl_0, nl_1, nl_2, nl_3, nl_4, nl_5, nl_6, nl_7, nl_8, nl_9, nl_10, nl_11, nl_12, nl_13, nl_15, nl_16, nl_20, nl_24, nl_26, nl_30, nl_32, nl_36, nl_39, nl_40, nl_45, nl_48, nl_50, nl_57, nl_59, nl_60, nl_61, nl_62, nl_64, nl_72, nl_73, nl_80, nl_90, nl_97, nl_99, nl_100, nl_120, nl_122, nl_123, nl_127, nl_128, nl_199, nl_200, nl_255, nl_256, nl_290, nl_399, nl_400, nl_500, nl_512, nl_520, nl_600, nl_999, nl_1000, nl_2000, nl_9999, nl_10000, nl_14, nl_17, nl_18, nl_19, nl_21, nl_22, nl_23, nl_25, nl_27, nl_28, nl_29, nl_31, nl_33, nl_34, nl_35, nl_47, nl_51, nl_63, nl_110, nl_195, nl_240, nl_1370, nl_3710, nl_6030, nl_6690, nl_7490, nl_7610, nl_9170, nl_11570, gA_sF, gL_sF, gB_sF, gZ_sF, gO_sF, gX_sF, gF_sA, gL_sA, gB_sA, gZ_sA, gO_sA, gX_sA, gF_sL, gA_sL, gB_sL, gZ_sL, gO_sL, gX_sL, gF_sB, gA_sB, gL_sB, gZ_sB, gO_sB, gX_sB, gF_sZ, gA_sZ, gL_sZ, gB_sZ, gO_sZ, gX_sZ, gF_sO, gA_sO, gL_sO, gB_sO, gZ_sO, gX_sO, gF_sX, gA_sX, gL_sX, gB_sX, gZ_sX, gO_sX, gF_tA, gL_tA, gB_tA, gZ_tA, gO_tA, gX_tA, gF_tL, gA_tL, gB_tL, gZ_tL, gO_tL, gX_tL, gF_tB, gA_tB, gL_tB, gZ_tB, gO_tB, gX_tB, gF_tZ, gA_tZ, gL_tZ, gB_tZ, gO_tZ, gX_tZ, gF_sF, gA_sA, gL_sL, gB_sB, gZ_sZ, gO_sO, gX_sX, gA_tA, gL_tL, gB_tB, gZ_tZ, reduceIte, Nat.reduceEqDiff, Nat.zero_ne_one, Nat.one_ne_zero, Nat.succ_ne_self, forall_eq, vpT, cpyT, nI_leI, nI_ltI, nI_eq, nI_m1, oI_eqn, oI_eqm, va_up_ne', va_up_eq, eq_self_iff_true, true_or, or_true, true_implies, not_true_eq_false, not_false_eq_true, false_implies, and_true, true_and, forall_const, implies_true, ne_eq, Nat.add_sub_cancel, nI_pos, ite_self]
  · obtain ⟨i1, i2, i3, i4⟩ := hI
    unfold qX12_join_90
    rw [show gF v 37 = nI n from (i1.1 37 (by decide)).trans d1]
    refine c_n (nI_ge hi (by omega)) ?_
    refine pk_loop (fun f2 c x => qX12_join_100 Q (qX12_join_90 Q f) f2 x (nI i) (nI c)) (fun c x => Fr [(0, 21), (1, 19), (1, 20), (0, 26), (1, 25), (1, 27), (0, 40), (1, 41), (1, 42), (1, 43), (1, 44), (0, 45), (0, 47), (1, 46)] m x ∧ gF x 40 = nI k ∧ (∀ c, c < k → gA x 41 c = nI (pp c)) ∧ (∀ t c, t < i → c < k → gA x 42 (10 * t + c) = Int32.ofInt (g t c)) ∧ ∀ d, d < c → gA x 42 (10 * i + d) = Int32.ofInt (g i d)) k 0 v (Nat.zero_le _) ⟨i1, i2, i3, i4, fun d hd => by omega⟩ (fun f2 x hI2 => ?_) (fun f2 c x hc hI2 ih2 => ?_)
    · obtain ⟨j1, j2, j3, j4, j5⟩ := hI2
      unfold qX12_join_100
      rw [j2, ofI1, nI_add]
      refine c_y (nI_le (Nat.le_refl _) (by omega)) (ih x ⟨j1, j2, j3, fun t c ht hc => ?_⟩)
      by_cases e : t = i
      · subst e; exact j5 c hc
      · exact j4 t c (by omega) hc
    · obtain ⟨j1, j2, j3, j4, j5⟩ := hI2
      have hpc := hpp c hc
      unfold qX12_join_100
      rw [j2, nI_clamp (by omega), j3 c hc]
      refine c_n (nI_ge hc (by omega)) (c_in rfl (by omega) (by decide) (M_givesOf (n := n) (W := W) (y := y) hw (by rw [j1.2.1 1 (by decide)]; exact hm) hi n7 (by omega) hy ((j1.1 36 (by decide)).trans h36) (by unfold WrM; rw [j1.2.1 39 (by decide), j1.2.1 38 (by decide)]; exact hW) hpc.2 (fun x2 fx => ?_)))
      rw [show gn A (W i) y (pp c) = g i c by rw [eg], nl_10, pk_mul, nI_add]
      refine c_in rfl (by omega) (by decide) (fun w hw' => ?_)
      subst hw'
      rw [ofI1, nI_add]
      have x40 : gF x2 40 = nI k := (fx.1 40 (by decide)).trans j2
      have x41 : gA x2 41 = gA x 41 := fx.2.1 41 (by decide)
      have x42 : gA x2 42 = gA x 42 := fx.2.1 42 (by decide)
      refine ih2 _ ⟨(j1.tr (fx.mono (by decide))).tr (Fr.tA 42 _ _ (by decide)), x40, fun c hc => ?_, fun t d ht hd => ?_, fun d hd => ?_⟩
      · show gA x2 41 c = _
        rw [x41]; exact j3 c hc
      · have := j4 t d ht hd
        rw [← x42] at this
        simp (disch := omega) only [this, ofI1, nI_add, pk_mul, pk_sub, nI_clamp, imin_nI, imax_nI, nl_0, nl_1, nl_2, nl_3, nl_4, nl_5, nl_6, nl_7, nl_8, nl_9, nl_10, nl_11, nl_12, nl_13, nl_15, nl_16, nl_20, nl_24, nl_26, nl_30, nl_32, nl_36, nl_39, nl_40, nl_45, nl_48, nl_50, nl_57, nl_59, nl_60, nl_61, nl_62, nl_64, nl_72, nl_73, nl_80, nl_90, nl_97, nl_99, nl_100, nl_120, nl_122, nl_123, nl_127, nl_128, nl_199, nl_200, nl_255, nl_256, nl_290, nl_399, nl_400, nl_500, nl_512, nl_520, nl_600, nl_999, nl_1000, nl_2000, nl_9999, nl_10000, nl_14, nl_17, nl_18, nl_19, nl_21, nl_22, nl_23, nl_25, nl_27, nl_28, nl_29, nl_31, nl_33, nl_34, nl_35, nl_47, nl_51, nl_63, nl_110, nl_195, nl_240, nl_1370, nl_3710, nl_6030, nl_6690, nl_7490, nl_7610, nl_9170, nl_11570, gA_sF, gL_sF, gB_sF, gZ_sF, gO_sF, gX_sF, gF_sA, gL_sA, gB_sA, gZ_sA, gO_sA, gX_sA, gF_sL, gA_sL, gB_sL, gZ_sL, gO_sL, gX_sL, gF_sB, gA_sB, gL_sB, gZ_sB, gO_sB, gX_sB, gF_sZ, gA_sZ, gL_sZ, gB_sZ, gO_sZ, gX_sZ, gF_sO, gA_sO, gL_sO, gB_sO, gZ_sO, gX_sO, gF_sX, gA_sX, gL_sX, gB_sX, gZ_sX, gO_sX, gF_tA, gL_tA, gB_tA, gZ_tA, gO_tA, gX_tA, gF_tL, gA_tL, gB_tL, gZ_tL, gO_tL, gX_tL, gF_tB, gA_tB, gL_tB, gZ_tB, gO_tB, gX_tB, gF_tZ, gA_tZ, gL_tZ, gB_tZ, gO_tZ, gX_tZ, gF_sF, gA_sA, gL_sL, gB_sB, gZ_sZ, gO_sO, gX_sX, gA_tA, gL_tL, gB_tB, gZ_tZ, reduceIte, Nat.reduceEqDiff, Nat.zero_ne_one, Nat.one_ne_zero, Nat.succ_ne_self, forall_eq, vpT, cpyT, nI_leI, nI_ltI, nI_eq, nI_m1, oI_eqn, oI_eqm, va_up_ne', va_up_eq, eq_self_iff_true, true_or, or_true, true_implies, not_true_eq_false, not_false_eq_true, false_implies, and_true, true_and, forall_const, implies_true, ne_eq, Nat.add_sub_cancel, nI_pos, ite_self]
      · by_cases e : d = c
        · subst e; simp (disch := omega) only [ofI1, nI_add, pk_mul, pk_sub, nI_clamp, imin_nI, imax_nI, nl_0, nl_1, nl_2, nl_3, nl_4, nl_5, nl_6, nl_7, nl_8, nl_9, nl_10, nl_11, nl_12, nl_13, nl_15, nl_16, nl_20, nl_24, nl_26, nl_30, nl_32, nl_36, nl_39, nl_40, nl_45, nl_48, nl_50, nl_57, nl_59, nl_60, nl_61, nl_62, nl_64, nl_72, nl_73, nl_80, nl_90, nl_97, nl_99, nl_100, nl_120, nl_122, nl_123, nl_127, nl_128, nl_199, nl_200, nl_255, nl_256, nl_290, nl_399, nl_400, nl_500, nl_512, nl_520, nl_600, nl_999, nl_1000, nl_2000, nl_9999, nl_10000, nl_14, nl_17, nl_18, nl_19, nl_21, nl_22, nl_23, nl_25, nl_27, nl_28, nl_29, nl_31, nl_33, nl_34, nl_35, nl_47, nl_51, nl_63, nl_110, nl_195, nl_240, nl_1370, nl_3710, nl_6030, nl_6690, nl_7490, nl_7610, nl_9170, nl_11570, gA_sF, gL_sF, gB_sF, gZ_sF, gO_sF, gX_sF, gF_sA, gL_sA, gB_sA, gZ_sA, gO_sA, gX_sA, gF_sL, gA_sL, gB_sL, gZ_sL, gO_sL, gX_sL, gF_sB, gA_sB, gL_sB, gZ_sB, gO_sB, gX_sB, gF_sZ, gA_sZ, gL_sZ, gB_sZ, gO_sZ, gX_sZ, gF_sO, gA_sO, gL_sO, gB_sO, gZ_sO, gX_sO, gF_sX, gA_sX, gL_sX, gB_sX, gZ_sX, gO_sX, gF_tA, gL_tA, gB_tA, gZ_tA, gO_tA, gX_tA, gF_tL, gA_tL, gB_tL, gZ_tL, gO_tL, gX_tL, gF_tB, gA_tB, gL_tB, gZ_tB, gO_tB, gX_tB, gF_tZ, gA_tZ, gL_tZ, gB_tZ, gO_tZ, gX_tZ, gF_sF, gA_sA, gL_sL, gB_sB, gZ_sZ, gO_sO, gX_sX, gA_tA, gL_tL, gB_tB, gZ_tZ, reduceIte, Nat.reduceEqDiff, Nat.zero_ne_one, Nat.one_ne_zero, Nat.succ_ne_self, forall_eq, vpT, cpyT, nI_leI, nI_ltI, nI_eq, nI_m1, oI_eqn, oI_eqm, va_up_ne', va_up_eq, eq_self_iff_true, true_or, or_true, true_implies, not_true_eq_false, not_false_eq_true, false_implies, and_true, true_and, forall_const, implies_true, ne_eq, Nat.add_sub_cancel, nI_pos, ite_self]
        · have := j5 d (by omega)
          rw [← x42] at this
          simp (disch := omega) only [this, ofI1, nI_add, pk_mul, pk_sub, nI_clamp, imin_nI, imax_nI, nl_0, nl_1, nl_2, nl_3, nl_4, nl_5, nl_6, nl_7, nl_8, nl_9, nl_10, nl_11, nl_12, nl_13, nl_15, nl_16, nl_20, nl_24, nl_26, nl_30, nl_32, nl_36, nl_39, nl_40, nl_45, nl_48, nl_50, nl_57, nl_59, nl_60, nl_61, nl_62, nl_64, nl_72, nl_73, nl_80, nl_90, nl_97, nl_99, nl_100, nl_120, nl_122, nl_123, nl_127, nl_128, nl_199, nl_200, nl_255, nl_256, nl_290, nl_399, nl_400, nl_500, nl_512, nl_520, nl_600, nl_999, nl_1000, nl_2000, nl_9999, nl_10000, nl_14, nl_17, nl_18, nl_19, nl_21, nl_22, nl_23, nl_25, nl_27, nl_28, nl_29, nl_31, nl_33, nl_34, nl_35, nl_47, nl_51, nl_63, nl_110, nl_195, nl_240, nl_1370, nl_3710, nl_6030, nl_6690, nl_7490, nl_7610, nl_9170, nl_11570, gA_sF, gL_sF, gB_sF, gZ_sF, gO_sF, gX_sF, gF_sA, gL_sA, gB_sA, gZ_sA, gO_sA, gX_sA, gF_sL, gA_sL, gB_sL, gZ_sL, gO_sL, gX_sL, gF_sB, gA_sB, gL_sB, gZ_sB, gO_sB, gX_sB, gF_sZ, gA_sZ, gL_sZ, gB_sZ, gO_sZ, gX_sZ, gF_sO, gA_sO, gL_sO, gB_sO, gZ_sO, gX_sO, gF_sX, gA_sX, gL_sX, gB_sX, gZ_sX, gO_sX, gF_tA, gL_tA, gB_tA, gZ_tA, gO_tA, gX_tA, gF_tL, gA_tL, gB_tL, gZ_tL, gO_tL, gX_tL, gF_tB, gA_tB, gL_tB, gZ_tB, gO_tB, gX_tB, gF_tZ, gA_tZ, gL_tZ, gB_tZ, gO_tZ, gX_tZ, gF_sF, gA_sA, gL_sL, gB_sB, gZ_sZ, gO_sO, gX_sX, gA_tA, gL_tL, gB_tB, gZ_tZ, reduceIte, Nat.reduceEqDiff, Nat.zero_ne_one, Nat.one_ne_zero, Nat.succ_ne_self, forall_eq, vpT, cpyT, nI_leI, nI_ltI, nI_eq, nI_m1, oI_eqn, oI_eqm, va_up_ne', va_up_eq, eq_self_iff_true, true_or, or_true, true_implies, not_true_eq_false, not_false_eq_true, false_implies, and_true, true_and, forall_const, implies_true, ne_eq, Nat.add_sub_cancel, nI_pos, ite_self]
