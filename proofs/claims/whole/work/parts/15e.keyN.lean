/-- the keys of the sets below m -/
def HKb (m coin : Nat) (c w K : Nat → Nat) : Prop :=
  K 0 = 0 ∧ (∀ S T, S < m → sbs T S → T ≠ 0 → bs c T 9 ≤ coin → K S ≤ K (S - T) + bs w (S - T) 9) ∧
  (∀ S, S < m → S ≠ 0 → ∃ T, sbs T S ∧ T ≠ 0 ∧ bs c T 9 ≤ coin ∧ K S = K (S - T) + bs w (S - T) 9)
theorem sbs_le {T S n : Nat} (h : sbs T S) (hS : S < 2 ^ n) : T ≤ S := by
  have := sbs_minus h hS
  omega
theorem N_leastKey {u : Md} {n S co : Nat} {c sg K : Nat → Nat} (h : PT u n c sg) (hS : S < 2 ^ n) (s0 : S ≠ 0) (c9 : ∀ i, i < n → c i ≤ co) (o9 : co < 10000) (hK : ∀ R, R < S → gL u 5 R = lN (K R) ∧ K R ≤ R * 2 ^ 41) {Q : Int64 → Md → Prop} (hQ : ∀ q, (∀ T, sbs T S → T ≠ 0 → bs c T 9 ≤ co → q ≤ K (S - T) + bs wt (S - T) 9) → (∃ T, sbs T S ∧ T ≠ 0 ∧ bs c T 9 ≤ co ∧ q = K (S - T) + bs wt (S - T) 9) → q ≤ S * 2 ^ 41 → Q (lN q) u) : qX4_leastKey u (nI S) (nI co) Q := by
  obtain ⟨e1, k9, e2, e3, e5⟩ := h
  have hS9 : S < 512 := lt9 k9 hS
  have bd : ∀ T, sbs T S → T ≠ 0 → K (S - T) + bs wt (S - T) 9 ≤ S * 2 ^ 41 := fun T hT t0 => by
    have hl := sbs_le hT hS
    have h1 := (hK (S - T) (by omega)).2
    have h2 := bs_wle (S - T)
    have h3 : (S - T) * 2 ^ 41 + 2 ^ 41 ≤ S * 2 ^ 41 := by omega
    omega
  unfold qX4_leastKey
  refine lp2 (fun f (q cur : Nat) => qX4_leastKey_7 Q f u (nI S) (nI co) (lN q) (nI cur)) (fun q cur => sbs cur S ∧ q < 2 ^ 63 ∧ (∀ T, sbs T S → T ≠ 0 → cur < T → bs c T 9 ≤ co → q ≤ K (S - T) + bs wt (S - T) 9) ∧ (q = 9223372036854775807 ∨ ∃ T, sbs T S ∧ T ≠ 0 ∧ bs c T 9 ≤ co ∧ q = K (S - T) + bs wt (S - T) 9)) (fun _ cur => cur) (fun f q cur hI ih => ?_) 9223372036854775807 S ⟨sbs_rf S, by decide, fun T hT _ hl => absurd (sbs_le hT hS) (by omega), Or.inl rfl⟩
  obtain ⟨i1, i2, i3, i4⟩ := hI
  have hcur := sbs_le i1 hS
  unfold qX4_leastKey_7
  refine c_le (b := 0) rfl rfl (by omega) (by omega) (fun hz => ?_) (fun hz => c_in rfl (by omega) (by decide) ?_)
  · have hall : ∀ T, sbs T S → T ≠ 0 → bs c T 9 ≤ co → q ≤ K (S - T) + bs wt (S - T) 9 := fun T hT t0 ht => i3 T hT t0 (by omega) ht
    have hex : ∃ T, sbs T S ∧ T ≠ 0 ∧ bs c T 9 ≤ co ∧ q = K (S - T) + bs wt (S - T) 9 := by
      rcases i4 with e | e
      · obtain ⟨i, hi, hb⟩ := bit_one (lt9 k9 hS) s0
        have hi' := bit_lt hS hb
        have t1 : sbs (2 ^ i) S := fun j hj => by
          rw [Nat.testBit_two_pow] at hj
          have : i = j := by simpa using hj
          rw [← this]; exact hb
        have t2 : 2 ^ i ≠ 0 := Nat.ne_of_gt (Nat.two_pow_pos i)
        have h1 := hall _ t1 t2 (by rw [bs_two i hi]; exact c9 i hi')
        have h2 := bd _ t1 t2
        omega
      · exact e
    obtain ⟨T, hT, t0, ht, e⟩ := id hex
    exact hQ q hall hex (by rw [e]; exact bd T hT t0)
  · have hct := bs_cle (c := c) k9 (Nat.lt_of_le_of_lt hcur hS) (fun i hi => by have := c9 i hi; omega)
    have a := e3 cur (by omega)
    have nx : ∀ T, sbs T S → T < cur → T ≤ (cur - 1) &&& S := fun T hT hl => sbs_next cur T S hT i1 hl
    have hle : (cur - 1) &&& S ≤ cur - 1 := Nat.and_le_left
    have go : ∀ q', q' < 2 ^ 63 → (∀ T, sbs T S → T ≠ 0 → cur ≤ T → bs c T 9 ≤ co → q' ≤ K (S - T) + bs wt (S - T) 9) → (q' = 9223372036854775807 ∨ ∃ T, sbs T S ∧ T ≠ 0 ∧ bs c T 9 ≤ co ∧ q' = K (S - T) + bs wt (S - T) 9) → qX4_leastKey_49 Q (qX4_leastKey_7 Q f) u (nI S) (nI co) (lN q') (nI cur) := fun q' hq1 hq2 hq3 => by
      unfold qX4_leastKey_49
      rw [nl_1, pk_sub (by omega), nI_and (by omega) (by omega)]
      refine ih q' ((cur - 1) &&& S) ⟨sbs_and _ _, hq1, fun T hT t0 hl ht => hq2 T hT t0 ?_ ht, hq3⟩ (show (cur - 1) &&& S < cur by omega)
      apply Classical.byContradiction
      intro hc
      have := nx T hT (by omega)
      omega
    rw [nI_clamp (by omega), a.1]
    refine c_lt rfl rfl (by omega) (by omega) (fun hx => ?_) (fun hx => ?_)
    · refine go q i2 (fun T hT t0 hl ht => ?_) i4
      by_cases e : T = cur
      · subst e; omega
      · exact i3 T hT t0 (by omega) ht
    · have hR := hK (S - cur) (by omega)
      have hw := (e3 (S - cur) (by omega)).2
      have hb := bd cur i1 (by omega)
      rw [pk_sub hcur, nI_clamp (by omega), hR.1, hw, lN_add, lmin_lN i2 (by omega)]
      refine c_in rfl (by omega) (by decide) (c_in rfl (by omega) (by decide) (go _ (by omega) (fun T hT t0 hl ht => ?_) ?_))
      · by_cases e : T = cur
        · subst e; omega
        · have := i3 T hT t0 (by omega) ht; omega
      · by_cases e : q ≤ K (S - cur) + bs wt (S - cur) 9
        · rw [Nat.min_eq_left e]; exact i4
        · rw [Nat.min_eq_right (by omega)]
          exact Or.inr ⟨cur, i1, by omega, by omega, rfl⟩
/-- the plan as it is written: the k first signs -/
def plF (sg a : Nat → Nat) : Nat → Nat → Int32
  | 0 => fun _ => -1
  | k + 1 => va_up (plF sg a k) (sg k) (nI (a k))
theorem full_bit {n i : Nat} : (2 ^ n - 1).testBit i = true ↔ i < n := by
  rw [Nat.testBit_two_pow_sub_one]; simp
theorem N_leastSum {u : Md} {n co : Nat} {c sg : Nat → Nat} (h : PT u n c sg) (c9 : ∀ i, i < n → c i ≤ co) (o9 : co < 10000) (hs : ∀ i, i < n → sg i < 40) {Q : Int32 → Md → Prop} (hQ : ∀ a u', Best c co (2 ^ n - 1) a → gA u' 3 0 = 0 → gL u' 4 0 = 0 → gL u' 5 0 = 0 → (∀ j, j < 40 → gA u' 0 j = plF sg a n j) → Q (nI (bs a (2 ^ n - 1) 9)) u') : qX4_leastSum u (nI co) Q := by
  obtain ⟨e1, k9, e2, e3, e5⟩ := id h
  have hp : 0 < 2 ^ n := Nat.two_pow_pos n
  have hp2 : 2 ^ n ≤ 512 := Nat.pow_le_pow_right (n := 2) (by decide) k9
  unfold qX4_leastSum
  rw [e1, one_shl ⟨n, by omega⟩]
  refine pk_loop (fun f i v => qX4_leastSum_9 Q f v (nI co) (nI (2 ^ n)) (nI i)) (fun i v => 1 ≤ i ∧ PT v n c sg ∧ ∃ K : Nat → Nat, HKb i co c wt K ∧ ∀ R, R < i → gL v 5 R = lN (K R) ∧ K R ≤ R * 2 ^ 41) (2 ^ n) 1 u hp ⟨Nat.le_refl _, h, fun _ => 0, ⟨rfl, fun S T hS hT t0 _ => ?_, fun S hS s0 => ?_⟩, fun R hR => ?_⟩ (fun f v hI => ?_) (fun f i v hi hI ih => ?_)
  · exact Nat.zero_le _
  · omega
  · have : R = 0 := by omega
    subst this
    exact ⟨e5, Nat.zero_le _⟩
  · obtain ⟨-, hv, K, hK, hR⟩ := hI
    obtain ⟨v1, -, v2, v3, v5⟩ := hv
    have hF := hR (2 ^ n - 1) (by omega)
    obtain ⟨a, hb, eK⟩ := key_best (c := c) (K := K) k9 hK (F := 2 ^ n - 1) (by omega)
    have KF : K (2 ^ n - 1) < 2 ^ 63 := by omega
    unfold qX4_leastSum_9
    refine c_y (nI_le (Nat.le_refl _) (by omega)) ?_
    rw [nl_1, pk_sub (by omega), nI_clamp (by omega), hF.1]
    refine c_in rfl (by omega) (by decide) (N_fill (by decide) (fun g hg => ?_))
    refine pk_loop (fun f i w => qX4_leastSum_52 Q f w (lN (K (2 ^ n - 1))) (nI i)) (fun i w => gF w 1 = nI n ∧ gA w 2 = gA v 2 ∧ gA w 3 = gA v 3 ∧ gL w 4 = gL v 4 ∧ gL w 5 = gL v 5 ∧ ∀ j, j < 40 → gA w 0 j = plF sg a i j) n 0 _ (Nat.zero_le _) ⟨v1, rfl, rfl, rfl, rfl, fun j hj => hg j hj⟩ (fun f w hI => ?_) (fun f i w hi hI ih => ?_)
    · obtain ⟨j1, j2, j3, j4, j5, j6⟩ := hI
      unfold qX4_leastSum_52
      rw [j1]
      refine c_y (nI_le (Nat.le_refl _) (by omega)) ?_
      rw [l_shr KF _ 36 sh36, lN_i, eK, dg_top hb.2.1]
      have z := v3 0 hp
      rw [bs_emp, bs_emp] at z
      exact hQ a w hb (by rw [j3]; exact z.1) (by rw [j4]; exact z.2) (by rw [j5]; exact v5) j6
    · obtain ⟨j1, j2, j3, j4, j5, j6⟩ := hI
      have si := hs i hi
      unfold qX4_leastSum_52
      rw [j1, nI_clamp (by omega), j2, v2 i hi]
      refine c_n (nI_ge hi (by omega)) (c_in rfl (by omega) (by decide) (c_in rfl si (by decide) (fun w' hw => ?_)))
      subst hw
      have ed : K (2 ^ n - 1) / 2 ^ (4 * (8 - i)) % 16 = a i := by rw [eK]; exact dg_at hb.2.1 _ (by omega) (full_bit.2 hi)
      rw [l_shr KF _ _ (sh4 ⟨i, by omega⟩), lN_i, nI_dig, ed, ofI1, nI_add]
      refine ih (tA w 0 (nI (sg i)) (nI (a i))) ⟨j1, j2, j3, j4, j5, fun j hj => ?_⟩
      show gA (tA w 0 (nI (sg i)) (nI (a i))) 0 j = va_up (plF sg a i) (sg i) (nI (a i)) j
      by_cases e : j = sg i
      · rw [e, va_up_eq]
        simp (disch := omega) only [ofI1, nI_add, pk_mul, pk_sub, nI_clamp, imin_nI, imax_nI, nl_0, nl_1, nl_2, nl_3, nl_4, nl_5, nl_6, nl_7, nl_8, nl_9, nl_10, nl_11, nl_12, nl_13, nl_15, nl_16, nl_20, nl_24, nl_26, nl_30, nl_32, nl_36, nl_39, nl_40, nl_45, nl_48, nl_50, nl_57, nl_59, nl_60, nl_61, nl_62, nl_64, nl_72, nl_73, nl_80, nl_90, nl_97, nl_99, nl_100, nl_120, nl_122, nl_123, nl_127, nl_128, nl_199, nl_200, nl_255, nl_256, nl_290, nl_399, nl_400, nl_500, nl_512, nl_520, nl_600, nl_999, nl_1000, nl_2000, nl_9999, nl_10000, nl_14, nl_17, nl_18, nl_19, nl_21, nl_22, nl_23, nl_25, nl_27, nl_28, nl_29, nl_31, nl_33, nl_34, nl_35, nl_47, nl_51, nl_63, nl_110, nl_195, nl_240, nl_1370, nl_3710, nl_6030, nl_6690, nl_7490, nl_7610, nl_9170, nl_11570, gA_sF, gL_sF, gB_sF, gZ_sF, gO_sF, gX_sF, gF_sA, gL_sA, gB_sA, gZ_sA, gO_sA, gX_sA, gF_sL, gA_sL, gB_sL, gZ_sL, gO_sL, gX_sL, gF_sB, gA_sB, gL_sB, gZ_sB, gO_sB, gX_sB, gF_sZ, gA_sZ, gL_sZ, gB_sZ, gO_sZ, gX_sZ, gF_sO, gA_sO, gL_sO, gB_sO, gZ_sO, gX_sO, gF_sX, gA_sX, gL_sX, gB_sX, gZ_sX, gO_sX, gF_tA, gL_tA, gB_tA, gZ_tA, gO_tA, gX_tA, gF_tL, gA_tL, gB_tL, gZ_tL, gO_tL, gX_tL, gF_tB, gA_tB, gL_tB, gZ_tB, gO_tB, gX_tB, gF_tZ, gA_tZ, gL_tZ, gB_tZ, gO_tZ, gX_tZ, gF_sF, gA_sA, gL_sL, gB_sB, gZ_sZ, gO_sO, gX_sX, gA_tA, gL_tL, gB_tB, gZ_tZ, reduceIte, Nat.reduceEqDiff, Nat.zero_ne_one, Nat.one_ne_zero, Nat.succ_ne_self, forall_eq, vpT, cpyT, nI_leI, nI_ltI, nI_eq, nI_m1, oI_eqn, oI_eqm, va_up_ne', va_up_eq, eq_self_iff_true, true_or, or_true, true_implies, not_true_eq_false, not_false_eq_true, false_implies, and_true, true_and, forall_const, implies_true, ne_eq, Nat.add_sub_cancel, nI_pos, ite_self]
      · rw [va_up_ne' _ _ e, ← j6 j hj]
        simp (disch := omega) only [ofI1, nI_add, pk_mul, pk_sub, nI_clamp, imin_nI, imax_nI, nl_0, nl_1, nl_2, nl_3, nl_4, nl_5, nl_6, nl_7, nl_8, nl_9, nl_10, nl_11, nl_12, nl_13, nl_15, nl_16, nl_20, nl_24, nl_26, nl_30, nl_32, nl_36, nl_39, nl_40, nl_45, nl_48, nl_50, nl_57, nl_59, nl_60, nl_61, nl_62, nl_64, nl_72, nl_73, nl_80, nl_90, nl_97, nl_99, nl_100, nl_120, nl_122, nl_123, nl_127, nl_128, nl_199, nl_200, nl_255, nl_256, nl_290, nl_399, nl_400, nl_500, nl_512, nl_520, nl_600, nl_999, nl_1000, nl_2000, nl_9999, nl_10000, nl_14, nl_17, nl_18, nl_19, nl_21, nl_22, nl_23, nl_25, nl_27, nl_28, nl_29, nl_31, nl_33, nl_34, nl_35, nl_47, nl_51, nl_63, nl_110, nl_195, nl_240, nl_1370, nl_3710, nl_6030, nl_6690, nl_7490, nl_7610, nl_9170, nl_11570, gA_sF, gL_sF, gB_sF, gZ_sF, gO_sF, gX_sF, gF_sA, gL_sA, gB_sA, gZ_sA, gO_sA, gX_sA, gF_sL, gA_sL, gB_sL, gZ_sL, gO_sL, gX_sL, gF_sB, gA_sB, gL_sB, gZ_sB, gO_sB, gX_sB, gF_sZ, gA_sZ, gL_sZ, gB_sZ, gO_sZ, gX_sZ, gF_sO, gA_sO, gL_sO, gB_sO, gZ_sO, gX_sO, gF_sX, gA_sX, gL_sX, gB_sX, gZ_sX, gO_sX, gF_tA, gL_tA, gB_tA, gZ_tA, gO_tA, gX_tA, gF_tL, gA_tL, gB_tL, gZ_tL, gO_tL, gX_tL, gF_tB, gA_tB, gL_tB, gZ_tB, gO_tB, gX_tB, gF_tZ, gA_tZ, gL_tZ, gB_tZ, gO_tZ, gX_tZ, gF_sF, gA_sA, gL_sL, gB_sB, gZ_sZ, gO_sO, gX_sX, gA_tA, gL_tL, gB_tB, gZ_tZ, reduceIte, Nat.reduceEqDiff, Nat.zero_ne_one, Nat.one_ne_zero, Nat.succ_ne_self, forall_eq, vpT, cpyT, nI_leI, nI_ltI, nI_eq, nI_m1, oI_eqn, oI_eqm, va_up_ne', va_up_eq, eq_self_iff_true, true_or, or_true, true_implies, not_true_eq_false, not_false_eq_true, false_implies, and_true, true_and, forall_const, implies_true, ne_eq, Nat.add_sub_cancel, nI_pos, ite_self]
  · obtain ⟨i1, hv, K, hK, hR⟩ := hI
    unfold qX4_leastSum_9
    refine c_n (nI_ge hi (by omega)) (N_leastKey hv hi (by omega) c9 o9 hR (fun q q1 q2 q3 => c_in rfl (by omega) (by decide) (fun w hw => ?_)))
    subst hw
    rw [ofI1, nI_add]
    have ku : ∀ R, R ≠ i → va_up K i q R = K R := fun R hR => va_up_ne' K q hR
    refine ih _ ⟨by omega, ⟨hv.1, hv.2.1, hv.2.2.1, hv.2.2.2.1, ?_⟩, va_up K i q, ⟨?_, fun S T hS hT t0 ht => ?_, fun S hS s0 => ?_⟩, fun R hR' => ?_⟩
    · have := hv.2.2.2.2
      simp (disch := omega) only [this, ofI1, nI_add, pk_mul, pk_sub, nI_clamp, imin_nI, imax_nI, nl_0, nl_1, nl_2, nl_3, nl_4, nl_5, nl_6, nl_7, nl_8, nl_9, nl_10, nl_11, nl_12, nl_13, nl_15, nl_16, nl_20, nl_24, nl_26, nl_30, nl_32, nl_36, nl_39, nl_40, nl_45, nl_48, nl_50, nl_57, nl_59, nl_60, nl_61, nl_62, nl_64, nl_72, nl_73, nl_80, nl_90, nl_97, nl_99, nl_100, nl_120, nl_122, nl_123, nl_127, nl_128, nl_199, nl_200, nl_255, nl_256, nl_290, nl_399, nl_400, nl_500, nl_512, nl_520, nl_600, nl_999, nl_1000, nl_2000, nl_9999, nl_10000, nl_14, nl_17, nl_18, nl_19, nl_21, nl_22, nl_23, nl_25, nl_27, nl_28, nl_29, nl_31, nl_33, nl_34, nl_35, nl_47, nl_51, nl_63, nl_110, nl_195, nl_240, nl_1370, nl_3710, nl_6030, nl_6690, nl_7490, nl_7610, nl_9170, nl_11570, gA_sF, gL_sF, gB_sF, gZ_sF, gO_sF, gX_sF, gF_sA, gL_sA, gB_sA, gZ_sA, gO_sA, gX_sA, gF_sL, gA_sL, gB_sL, gZ_sL, gO_sL, gX_sL, gF_sB, gA_sB, gL_sB, gZ_sB, gO_sB, gX_sB, gF_sZ, gA_sZ, gL_sZ, gB_sZ, gO_sZ, gX_sZ, gF_sO, gA_sO, gL_sO, gB_sO, gZ_sO, gX_sO, gF_sX, gA_sX, gL_sX, gB_sX, gZ_sX, gO_sX, gF_tA, gL_tA, gB_tA, gZ_tA, gO_tA, gX_tA, gF_tL, gA_tL, gB_tL, gZ_tL, gO_tL, gX_tL, gF_tB, gA_tB, gL_tB, gZ_tB, gO_tB, gX_tB, gF_tZ, gA_tZ, gL_tZ, gB_tZ, gO_tZ, gX_tZ, gF_sF, gA_sA, gL_sL, gB_sB, gZ_sZ, gO_sO, gX_sX, gA_tA, gL_tL, gB_tB, gZ_tZ, reduceIte, Nat.reduceEqDiff, Nat.zero_ne_one, Nat.one_ne_zero, Nat.succ_ne_self, forall_eq, vpT, cpyT, nI_leI, nI_ltI, nI_eq, nI_m1, oI_eqn, oI_eqm, va_up_ne', va_up_eq, eq_self_iff_true, true_or, or_true, true_implies, not_true_eq_false, not_false_eq_true, false_implies, and_true, true_and, forall_const, implies_true, ne_eq, Nat.add_sub_cancel, nI_pos, ite_self]
    · rw [ku 0 (by omega)]; exact hK.1
    · have hl := sbs_le hT (show S < 2 ^ n by omega)
      by_cases e : S = i
      · subst e
        rw [va_up_eq, ku _ (by omega)]; exact q1 T hT t0 ht
      · rw [ku S e, ku _ (by omega)]; exact hK.2.1 S T (by omega) hT t0 ht
    · by_cases e : S = i
      · subst e
        obtain ⟨T, hT, t0, ht, eq⟩ := q2
        have hl := sbs_le hT (show S < 2 ^ n by omega)
        exact ⟨T, hT, t0, ht, by rw [va_up_eq, ku _ (by omega)]; exact eq⟩
      · obtain ⟨T, hT, t0, ht, eq⟩ := hK.2.2 S (by omega) s0
        have hl := sbs_le hT (show S < 2 ^ n by omega)
        exact ⟨T, hT, t0, ht, by rw [ku S e, ku _ (by omega)]; exact eq⟩
    · by_cases e : R = i
      · subst e
        rw [va_up_eq]
        refine ⟨?_, q3⟩
        simp (disch := omega) only [ofI1, nI_add, pk_mul, pk_sub, nI_clamp, imin_nI, imax_nI, nl_0, nl_1, nl_2, nl_3, nl_4, nl_5, nl_6, nl_7, nl_8, nl_9, nl_10, nl_11, nl_12, nl_13, nl_15, nl_16, nl_20, nl_24, nl_26, nl_30, nl_32, nl_36, nl_39, nl_40, nl_45, nl_48, nl_50, nl_57, nl_59, nl_60, nl_61, nl_62, nl_64, nl_72, nl_73, nl_80, nl_90, nl_97, nl_99, nl_100, nl_120, nl_122, nl_123, nl_127, nl_128, nl_199, nl_200, nl_255, nl_256, nl_290, nl_399, nl_400, nl_500, nl_512, nl_520, nl_600, nl_999, nl_1000, nl_2000, nl_9999, nl_10000, nl_14, nl_17, nl_18, nl_19, nl_21, nl_22, nl_23, nl_25, nl_27, nl_28, nl_29, nl_31, nl_33, nl_34, nl_35, nl_47, nl_51, nl_63, nl_110, nl_195, nl_240, nl_1370, nl_3710, nl_6030, nl_6690, nl_7490, nl_7610, nl_9170, nl_11570, gA_sF, gL_sF, gB_sF, gZ_sF, gO_sF, gX_sF, gF_sA, gL_sA, gB_sA, gZ_sA, gO_sA, gX_sA, gF_sL, gA_sL, gB_sL, gZ_sL, gO_sL, gX_sL, gF_sB, gA_sB, gL_sB, gZ_sB, gO_sB, gX_sB, gF_sZ, gA_sZ, gL_sZ, gB_sZ, gO_sZ, gX_sZ, gF_sO, gA_sO, gL_sO, gB_sO, gZ_sO, gX_sO, gF_sX, gA_sX, gL_sX, gB_sX, gZ_sX, gO_sX, gF_tA, gL_tA, gB_tA, gZ_tA, gO_tA, gX_tA, gF_tL, gA_tL, gB_tL, gZ_tL, gO_tL, gX_tL, gF_tB, gA_tB, gL_tB, gZ_tB, gO_tB, gX_tB, gF_tZ, gA_tZ, gL_tZ, gB_tZ, gO_tZ, gX_tZ, gF_sF, gA_sA, gL_sL, gB_sB, gZ_sZ, gO_sO, gX_sX, gA_tA, gL_tL, gB_tB, gZ_tZ, reduceIte, Nat.reduceEqDiff, Nat.zero_ne_one, Nat.one_ne_zero, Nat.succ_ne_self, forall_eq, vpT, cpyT, nI_leI, nI_ltI, nI_eq, nI_m1, oI_eqn, oI_eqm, va_up_ne', va_up_eq, eq_self_iff_true, true_or, or_true, true_implies, not_true_eq_false, not_false_eq_true, false_implies, and_true, true_and, forall_const, implies_true, ne_eq, Nat.add_sub_cancel, nI_pos, ite_self]
      · rw [ku R e]
        have := hR R (by omega)
        refine ⟨?_, this.2⟩
        simp (disch := omega) only [this.1, ofI1, nI_add, pk_mul, pk_sub, nI_clamp, imin_nI, imax_nI, nl_0, nl_1, nl_2, nl_3, nl_4, nl_5, nl_6, nl_7, nl_8, nl_9, nl_10, nl_11, nl_12, nl_13, nl_15, nl_16, nl_20, nl_24, nl_26, nl_30, nl_32, nl_36, nl_39, nl_40, nl_45, nl_48, nl_50, nl_57, nl_59, nl_60, nl_61, nl_62, nl_64, nl_72, nl_73, nl_80, nl_90, nl_97, nl_99, nl_100, nl_120, nl_122, nl_123, nl_127, nl_128, nl_199, nl_200, nl_255, nl_256, nl_290, nl_399, nl_400, nl_500, nl_512, nl_520, nl_600, nl_999, nl_1000, nl_2000, nl_9999, nl_10000, nl_14, nl_17, nl_18, nl_19, nl_21, nl_22, nl_23, nl_25, nl_27, nl_28, nl_29, nl_31, nl_33, nl_34, nl_35, nl_47, nl_51, nl_63, nl_110, nl_195, nl_240, nl_1370, nl_3710, nl_6030, nl_6690, nl_7490, nl_7610, nl_9170, nl_11570, gA_sF, gL_sF, gB_sF, gZ_sF, gO_sF, gX_sF, gF_sA, gL_sA, gB_sA, gZ_sA, gO_sA, gX_sA, gF_sL, gA_sL, gB_sL, gZ_sL, gO_sL, gX_sL, gF_sB, gA_sB, gL_sB, gZ_sB, gO_sB, gX_sB, gF_sZ, gA_sZ, gL_sZ, gB_sZ, gO_sZ, gX_sZ, gF_sO, gA_sO, gL_sO, gB_sO, gZ_sO, gX_sO, gF_sX, gA_sX, gL_sX, gB_sX, gZ_sX, gO_sX, gF_tA, gL_tA, gB_tA, gZ_tA, gO_tA, gX_tA, gF_tL, gA_tL, gB_tL, gZ_tL, gO_tL, gX_tL, gF_tB, gA_tB, gL_tB, gZ_tB, gO_tB, gX_tB, gF_tZ, gA_tZ, gL_tZ, gB_tZ, gO_tZ, gX_tZ, gF_sF, gA_sA, gL_sL, gB_sB, gZ_sZ, gO_sO, gX_sX, gA_tA, gL_tL, gB_tB, gZ_tZ, reduceIte, Nat.reduceEqDiff, Nat.zero_ne_one, Nat.one_ne_zero, Nat.succ_ne_self, forall_eq, vpT, cpyT, nI_leI, nI_ltI, nI_eq, nI_m1, oI_eqn, oI_eqm, va_up_ne', va_up_eq, eq_self_iff_true, true_or, or_true, true_implies, not_true_eq_false, not_false_eq_true, false_implies, and_true, true_and, forall_const, implies_true, ne_eq, Nat.add_sub_cancel, nI_pos, ite_self]
