def sumF (g : Nat → Nat) : Nat → Nat
  | 0 => 0
  | k + 1 => sumF g k + g k
theorem sumF_le {g : Nat → Nat} {M : Nat} : ∀ k, (∀ i, i < k → g i ≤ M) → sumF g k ≤ M * k := by
  intro k
  induction k with
  | zero => intro _; exact Nat.le_refl _
  | succ k ih =>
    intro h
    have h1 := ih (fun i hi => h i (by omega))
    have h2 := h k (by omega)
    show sumF g k + g k ≤ M * (k + 1)
    rw [Nat.mul_add]; omega
theorem cntF_le {f : Nat → Bool} : ∀ k, cntF f k ≤ k := by
  intro k
  induction k with
  | zero => exact Nat.le_refl _
  | succ k ih => show cntF f k + (if f k then 1 else 0) ≤ k + 1; split <;> omega
def livG (A : Nat → Nat → Nat) (y q t p : Nat) : Nat := if und (parA A y) q 41 p then ownA A y (3 * p + t) else 0
def livA (A : Nat → Nat → Nat) (y q t : Nat) : Nat := sumF (livG A y q t) (A 51 0)
def ptsA (A : Nat → Nat → Nat) (y q : Nat) : Nat := cntF (fun p => parA A y p == q + 1) (A 51 0)
theorem ownA_le {A : Nat → Nat → Nat} {c : Nat} (hw : Wf A c) (y j : Nat) : ownA A y j ≤ 2000 := ownF_le _ (fun k hk => (hw.2.2.2.1.1 k hk).2.2.1) j
theorem livG_le {A : Nat → Nat → Nat} {c : Nat} (hw : Wf A c) (y q t p : Nat) : livG A y q t p ≤ 2000 := by
  unfold livG; split
  · exact ownA_le hw y _
  · omega
theorem livS_le {A : Nat → Nat → Nat} {c : Nat} (hw : Wf A c) (y q t k : Nat) (hk : k ≤ 40) : sumF (livG A y q t) k ≤ 80000 := by
  have := sumF_le k (fun i _ => livG_le hw y q t i); omega
theorem livA_le {A : Nat → Nat → Nat} {c : Nat} (hw : Wf A c) (y q t : Nat) : livA A y q t ≤ 80000 := livS_le hw y q t _ hw.1.2.1
theorem N_addOwn {u : Md} {p : Nat} (hp : p < 40) {Q : Md → Prop} (hQ : ∀ u', Fr [(1, 2)] u u' → (∀ t, t < 3 → gA u' 2 t = gA u 2 t + gA u 1 (3 * p + t)) → Q u') : qX10_addOwn u (nI p) Q := by
  unfold qX10_addOwn
  refine pk_loop (fun k i s => qX10_addOwn_2 Q k s (nI p) (nI i)) (fun i s => Fr [(1, 2)] u s ∧ (∀ t, t < i → gA s 2 t = gA u 2 t + gA u 1 (3 * p + t)) ∧ ∀ t, i ≤ t → gA s 2 t = gA u 2 t) 3 0 u (by omega) ⟨Fr.rf, fun t ht => by omega, fun t _ => rfl⟩ (fun k s hI => ?_) (fun k i s hi hI ih => ?_)
  · unfold qX10_addOwn_2
    exact c_y (by decide) (hQ s hI.1 hI.2.1)
  · obtain ⟨i1, i2, i3⟩ := hI
    unfold qX10_addOwn_2
    have f1 : gA s 1 = gA u 1 := i1.2.1 1 (by decide)
    have z : ¬ 3 ≤ i := by omega
    have cm : p * 3 = 3 * p := Nat.mul_comm _ _
    simp (disch := omega) only [z, f1, cm, ofI1, nI_add, pk_mul, pk_sub, nI_clamp, imin_nI, imax_nI, nl_0, nl_1, nl_2, nl_3, nl_4, nl_5, nl_6, nl_7, nl_8, nl_9, nl_10, nl_11, nl_12, nl_13, nl_15, nl_16, nl_20, nl_24, nl_26, nl_30, nl_32, nl_36, nl_39, nl_40, nl_45, nl_48, nl_50, nl_57, nl_59, nl_60, nl_61, nl_62, nl_64, nl_72, nl_73, nl_80, nl_90, nl_97, nl_99, nl_100, nl_120, nl_122, nl_123, nl_127, nl_128, nl_199, nl_200, nl_255, nl_256, nl_290, nl_399, nl_400, nl_500, nl_512, nl_520, nl_600, nl_999, nl_1000, nl_2000, nl_9999, nl_10000, nl_14, nl_17, nl_18, nl_19, nl_21, nl_22, nl_23, nl_25, nl_27, nl_28, nl_29, nl_31, nl_33, nl_34, nl_35, nl_47, nl_51, nl_63, nl_110, nl_195, nl_240, nl_1370, nl_3710, nl_6030, nl_6690, nl_7490, nl_7610, nl_9170, nl_11570, gA_sF, gL_sF, gB_sF, gZ_sF, gO_sF, gX_sF, gF_sA, gL_sA, gB_sA, gZ_sA, gO_sA, gX_sA, gF_sL, gA_sL, gB_sL, gZ_sL, gO_sL, gX_sL, gF_sB, gA_sB, gL_sB, gZ_sB, gO_sB, gX_sB, gF_sZ, gA_sZ, gL_sZ, gB_sZ, gO_sZ, gX_sZ, gF_sO, gA_sO, gL_sO, gB_sO, gZ_sO, gX_sO, gF_sX, gA_sX, gL_sX, gB_sX, gZ_sX, gO_sX, gF_tA, gL_tA, gB_tA, gZ_tA, gO_tA, gX_tA, gF_tL, gA_tL, gB_tL, gZ_tL, gO_tL, gX_tL, gF_tB, gA_tB, gL_tB, gZ_tB, gO_tB, gX_tB, gF_tZ, gA_tZ, gL_tZ, gB_tZ, gO_tZ, gX_tZ, gF_sF, gA_sA, gL_sL, gB_sB, gZ_sZ, gO_sO, gX_sX, gA_tA, gL_tL, gB_tB, gZ_tZ, reduceIte, Nat.reduceEqDiff, Nat.zero_ne_one, Nat.one_ne_zero, Nat.succ_ne_self, forall_eq, vpT, cpyT, nI_leI, nI_ltI, nI_eq, nI_m1, oI_eqn, oI_eqm, va_up_ne', va_up_eq, eq_self_iff_true, true_or, or_true, true_implies, not_true_eq_false, not_false_eq_true, false_implies, and_true, true_and, forall_const, implies_true, ne_eq, Nat.add_sub_cancel, nI_pos, ite_self]
    refine ih _ ⟨i1.tr (Fr.tA 2 _ _ (by decide)), fun t ht => ?_, fun t ht => ?_⟩
    · by_cases e : t = i
      · subst e; simp (disch := omega) only [ofI1, nI_add, pk_mul, pk_sub, nI_clamp, imin_nI, imax_nI, nl_0, nl_1, nl_2, nl_3, nl_4, nl_5, nl_6, nl_7, nl_8, nl_9, nl_10, nl_11, nl_12, nl_13, nl_15, nl_16, nl_20, nl_24, nl_26, nl_30, nl_32, nl_36, nl_39, nl_40, nl_45, nl_48, nl_50, nl_57, nl_59, nl_60, nl_61, nl_62, nl_64, nl_72, nl_73, nl_80, nl_90, nl_97, nl_99, nl_100, nl_120, nl_122, nl_123, nl_127, nl_128, nl_199, nl_200, nl_255, nl_256, nl_290, nl_399, nl_400, nl_500, nl_512, nl_520, nl_600, nl_999, nl_1000, nl_2000, nl_9999, nl_10000, nl_14, nl_17, nl_18, nl_19, nl_21, nl_22, nl_23, nl_25, nl_27, nl_28, nl_29, nl_31, nl_33, nl_34, nl_35, nl_47, nl_51, nl_63, nl_110, nl_195, nl_240, nl_1370, nl_3710, nl_6030, nl_6690, nl_7490, nl_7610, nl_9170, nl_11570, gA_sF, gL_sF, gB_sF, gZ_sF, gO_sF, gX_sF, gF_sA, gL_sA, gB_sA, gZ_sA, gO_sA, gX_sA, gF_sL, gA_sL, gB_sL, gZ_sL, gO_sL, gX_sL, gF_sB, gA_sB, gL_sB, gZ_sB, gO_sB, gX_sB, gF_sZ, gA_sZ, gL_sZ, gB_sZ, gO_sZ, gX_sZ, gF_sO, gA_sO, gL_sO, gB_sO, gZ_sO, gX_sO, gF_sX, gA_sX, gL_sX, gB_sX, gZ_sX, gO_sX, gF_tA, gL_tA, gB_tA, gZ_tA, gO_tA, gX_tA, gF_tL, gA_tL, gB_tL, gZ_tL, gO_tL, gX_tL, gF_tB, gA_tB, gL_tB, gZ_tB, gO_tB, gX_tB, gF_tZ, gA_tZ, gL_tZ, gB_tZ, gO_tZ, gX_tZ, gF_sF, gA_sA, gL_sL, gB_sB, gZ_sZ, gO_sO, gX_sX, gA_tA, gL_tL, gB_tB, gZ_tZ, reduceIte, Nat.reduceEqDiff, Nat.zero_ne_one, Nat.one_ne_zero, Nat.succ_ne_self, forall_eq, vpT, cpyT, nI_leI, nI_ltI, nI_eq, nI_m1, oI_eqn, oI_eqm, va_up_ne', va_up_eq, eq_self_iff_true, true_or, or_true, true_implies, not_true_eq_false, not_false_eq_true, false_implies, and_true, true_and, forall_const, implies_true, ne_eq, Nat.add_sub_cancel, nI_pos, ite_self]; rw [i3 t (by omega)]
      · simp (disch := omega) only [ofI1, nI_add, pk_mul, pk_sub, nI_clamp, imin_nI, imax_nI, nl_0, nl_1, nl_2, nl_3, nl_4, nl_5, nl_6, nl_7, nl_8, nl_9, nl_10, nl_11, nl_12, nl_13, nl_15, nl_16, nl_20, nl_24, nl_26, nl_30, nl_32, nl_36, nl_39, nl_40, nl_45, nl_48, nl_50, nl_57, nl_59, nl_60, nl_61, nl_62, nl_64, nl_72, nl_73, nl_80, nl_90, nl_97, nl_99, nl_100, nl_120, nl_122, nl_123, nl_127, nl_128, nl_199, nl_200, nl_255, nl_256, nl_290, nl_399, nl_400, nl_500, nl_512, nl_520, nl_600, nl_999, nl_1000, nl_2000, nl_9999, nl_10000, nl_14, nl_17, nl_18, nl_19, nl_21, nl_22, nl_23, nl_25, nl_27, nl_28, nl_29, nl_31, nl_33, nl_34, nl_35, nl_47, nl_51, nl_63, nl_110, nl_195, nl_240, nl_1370, nl_3710, nl_6030, nl_6690, nl_7490, nl_7610, nl_9170, nl_11570, gA_sF, gL_sF, gB_sF, gZ_sF, gO_sF, gX_sF, gF_sA, gL_sA, gB_sA, gZ_sA, gO_sA, gX_sA, gF_sL, gA_sL, gB_sL, gZ_sL, gO_sL, gX_sL, gF_sB, gA_sB, gL_sB, gZ_sB, gO_sB, gX_sB, gF_sZ, gA_sZ, gL_sZ, gB_sZ, gO_sZ, gX_sZ, gF_sO, gA_sO, gL_sO, gB_sO, gZ_sO, gX_sO, gF_sX, gA_sX, gL_sX, gB_sX, gZ_sX, gO_sX, gF_tA, gL_tA, gB_tA, gZ_tA, gO_tA, gX_tA, gF_tL, gA_tL, gB_tL, gZ_tL, gO_tL, gX_tL, gF_tB, gA_tB, gL_tB, gZ_tB, gO_tB, gX_tB, gF_tZ, gA_tZ, gL_tZ, gB_tZ, gO_tZ, gX_tZ, gF_sF, gA_sA, gL_sL, gB_sB, gZ_sZ, gO_sO, gX_sX, gA_tA, gL_tL, gB_tB, gZ_tZ, reduceIte, Nat.reduceEqDiff, Nat.zero_ne_one, Nat.one_ne_zero, Nat.succ_ne_self, forall_eq, vpT, cpyT, nI_leI, nI_ltI, nI_eq, nI_m1, oI_eqn, oI_eqm, va_up_ne', va_up_eq, eq_self_iff_true, true_or, or_true, true_implies, not_true_eq_false, not_false_eq_true, false_implies, and_true, true_and, forall_const, implies_true, ne_eq, Nat.add_sub_cancel, nI_pos, ite_self]; exact i2 t (by omega)
    · simp (disch := omega) only [ofI1, nI_add, pk_mul, pk_sub, nI_clamp, imin_nI, imax_nI, nl_0, nl_1, nl_2, nl_3, nl_4, nl_5, nl_6, nl_7, nl_8, nl_9, nl_10, nl_11, nl_12, nl_13, nl_15, nl_16, nl_20, nl_24, nl_26, nl_30, nl_32, nl_36, nl_39, nl_40, nl_45, nl_48, nl_50, nl_57, nl_59, nl_60, nl_61, nl_62, nl_64, nl_72, nl_73, nl_80, nl_90, nl_97, nl_99, nl_100, nl_120, nl_122, nl_123, nl_127, nl_128, nl_199, nl_200, nl_255, nl_256, nl_290, nl_399, nl_400, nl_500, nl_512, nl_520, nl_600, nl_999, nl_1000, nl_2000, nl_9999, nl_10000, nl_14, nl_17, nl_18, nl_19, nl_21, nl_22, nl_23, nl_25, nl_27, nl_28, nl_29, nl_31, nl_33, nl_34, nl_35, nl_47, nl_51, nl_63, nl_110, nl_195, nl_240, nl_1370, nl_3710, nl_6030, nl_6690, nl_7490, nl_7610, nl_9170, nl_11570, gA_sF, gL_sF, gB_sF, gZ_sF, gO_sF, gX_sF, gF_sA, gL_sA, gB_sA, gZ_sA, gO_sA, gX_sA, gF_sL, gA_sL, gB_sL, gZ_sL, gO_sL, gX_sL, gF_sB, gA_sB, gL_sB, gZ_sB, gO_sB, gX_sB, gF_sZ, gA_sZ, gL_sZ, gB_sZ, gO_sZ, gX_sZ, gF_sO, gA_sO, gL_sO, gB_sO, gZ_sO, gX_sO, gF_sX, gA_sX, gL_sX, gB_sX, gZ_sX, gO_sX, gF_tA, gL_tA, gB_tA, gZ_tA, gO_tA, gX_tA, gF_tL, gA_tL, gB_tL, gZ_tL, gO_tL, gX_tL, gF_tB, gA_tB, gL_tB, gZ_tB, gO_tB, gX_tB, gF_tZ, gA_tZ, gL_tZ, gB_tZ, gO_tZ, gX_tZ, gF_sF, gA_sA, gL_sL, gB_sB, gZ_sZ, gO_sO, gX_sX, gA_tA, gL_tL, gB_tB, gZ_tZ, reduceIte, Nat.reduceEqDiff, Nat.zero_ne_one, Nat.one_ne_zero, Nat.succ_ne_self, forall_eq, vpT, cpyT, nI_leI, nI_ltI, nI_eq, nI_m1, oI_eqn, oI_eqm, va_up_ne', va_up_eq, eq_self_iff_true, true_or, or_true, true_implies, not_true_eq_false, not_false_eq_true, false_implies, and_true, true_and, forall_const, implies_true, ne_eq, Nat.add_sub_cancel, nI_pos, ite_self]; exact i3 t (by omega)
theorem N_gather {vw la : Md} {A : Nat → Nat → Nat} {c q y : Nat} (hw : Wf A c) (hl : Nla la A) (hq : q < A 51 0) (hy : y < 400) {Q : Md → Md → Prop} (hQ : ∀ vw', Fr [(1, 0), (1, 1), (1, 2), (1, 3)] vw vw' → (∀ j, j < 40 → gA vw' 0 j = oI (parA A y j)) → (∀ j, j < 120 → gA vw' 1 j = nI (ownA A y j)) → (∀ t, t < 3 → gA vw' 2 t = nI (livA A y q t)) → gA vw' 3 = va_up (gA vw 3) 4 (nI (ptsA A y q)) → Q vw' la) : qX10_gather vw la (nI q) (nI y) Q := by
  have b1 : A 51 0 ≤ 40 := hw.1.2.1
  have hac : Acyc (A 51 0) (parA A y) := hw.2.2.1.2.2 y
  have s1 : gF la 0 = nI (A 51 0) := hl.1.1
  unfold qX10_gather
  refine N_fillParents hw hl.2.1 hy (fun fp hfp => N_fillOwn hw hl.2.2 hy (fun fo hfo => N_fill (by decide) (fun fl hfl => ?_)))
  generalize hu : sA (sA (sA vw 0 fp) 1 fo) 2 fl = u0
  have fr0 : Fr [(1, 0), (1, 1), (1, 2), (1, 3)] vw u0 := by
    rw [← hu]; exact Fr.tr (Fr.tr (Fr.sA 0 _ (by decide)) (Fr.sA 1 _ (by decide))) (Fr.sA 2 _ (by decide))
  have g0 : gA u0 0 = fp := by rw [← hu]; rfl
  have g1 : gA u0 1 = fo := by rw [← hu]; rfl
  have g2 : gA u0 2 = fl := by rw [← hu]; rfl
  have g3 : gA u0 3 = gA vw 3 := by rw [← hu]; rfl
  refine pk_loop (fun k i (s : Md × Nat) => qX10_gather_32 Q k s.1 la (nI q) (nI s.2) (nI i)) (fun i s => Fr [(1, 2)] u0 s.1 ∧ (∀ t, t < 3 → gA s.1 2 t = nI (sumF (livG A y q t) i)) ∧ s.2 = cntF (fun p => parA A y p == q + 1) i) (A 51 0) 0 (u0, 0) (by omega) ⟨Fr.rf, fun t ht => by show gA u0 2 t = _; rw [g2, hfl t ht]; rfl, rfl⟩ (fun k s hI => ?_) (fun k i s hi hI ih => ?_)
  · obtain ⟨i1, i2, i3⟩ := hI
    unfold qX10_gather_32
    rw [s1]
    refine c_y (nI_le (Nat.le_refl _) (by omega)) ⟨vp_in_nI (n := 4) (by decide) (by decide), fun w hw' => ?_⟩
    refine hQ w (by rw [hw']; exact fr0.tr ((i1.mono (by decide)).tr (Fr.tA 3 _ _ (by decide)))) (fun j hj => ?_) (fun j hj => ?_) (fun t ht => ?_) ?_
    · rw [hw']; show gA s.1 0 j = _; rw [i1.2.1 0 (by decide), g0]; exact hfp j hj
    · rw [hw']; show gA s.1 1 j = _; rw [i1.2.1 1 (by decide), g1]; exact hfo j hj
    · rw [hw']; show gA s.1 2 t = _; exact i2 t ht
    · rw [hw']; show va_up (gA s.1 3) 4 (nI s.2) = _; rw [i1.2.1 3 (by decide), g3, i3]; rfl
  · obtain ⟨i1, i2, i3⟩ := hI
    obtain ⟨u, n⟩ := s
    dsimp only at i1 i2 i3 ⊢
    have f0 : gA u 0 = fp := (i1.2.1 0 (by decide)).trans g0
    have f1 : gA u 1 = fo := (i1.2.1 1 (by decide)).trans g1
    have hpa : parA A y i ≤ A 51 0 := hac.le hi
    have hn : n ≤ i := by rw [i3]; exact cntF_le i
    have key : ∀ n', n' = cntF (fun p => parA A y p == q + 1) (i + 1) → qX10_gather_55 Q (qX10_gather_32 Q k) u la (nI q) (nI n') (nI i) := by
      intro n' hn'
      unfold qX10_gather_55
      rw [← oI_s i]
      refine N_isUnder (f := parA A y) (P := A 51 0) b1 (fun j hj => by rw [f0]; exact hfp j hj) (fun j hj => hac.le hj) (by omega) (by omega) ?_
      have eu : und0 (parA A y) q 41 (i + 1) = und (parA A y) q 41 i := rfl
      rw [eu, oI_s]
      have eg : ∀ t, livG A y q t i = if und (parA A y) q 41 i then ownA A y (3 * i + t) else 0 := fun t => rfl
      cases hun : und (parA A y) q 41 i with
      | true =>
        refine b_1' (N_addOwn (by omega) (fun u' fu hu' => ?_))
        rw [ofI1, nI_add]
        refine ih (u', n') ⟨i1.tr fu, fun t ht => ?_, hn'⟩
        show gA u' 2 t = nI (sumF (livG A y q t) i + livG A y q t i)
        rw [hu' t ht, i2 t ht, f1, hfo _ (by omega), nI_add, eg t, hun]
        rfl
      | false =>
        refine b_0' ?_
        rw [ofI1, nI_add]
        refine ih (u, n') ⟨i1, fun t ht => ?_, hn'⟩
        show gA u 2 t = nI (sumF (livG A y q t) i + livG A y q t i)
        rw [i2 t ht, eg t, hun]
        rfl
    unfold qX10_gather_32
    rw [s1]
    refine c_n (nI_ge hi (by omega)) ⟨vp_in_nI (by omega) (by decide), ?_⟩
    rw [nI_clamp (by omega), f0, hfp i (by omega)]
    have ec : cntF (fun p => parA A y p == q + 1) (i + 1) = n + (if parA A y i == q + 1 then 1 else 0) := by rw [i3]; rfl
    by_cases he : parA A y i = q + 1
    · refine c_y' (by rw [he, oI_s]) ?_
      rw [ofI1, nI_add]
      exact key _ (by rw [ec, he, beq_self_eq_true]; rfl)
    · refine c_n' (by rw [oI_eqn (by omega) (by omega)]; exact he) (key _ ?_)
      rw [ec, show (parA A y i == q + 1) = false from beq_false_of_ne he]; rfl
theorem und0_rk {f rk : Nat → Nat} {P top : Nat} (h : ∀ p, p < P → f p = 0 ∨ (f p ≤ P ∧ rk (f p - 1) < rk p)) : ∀ n s, s ≤ P → und0 f top n s = true → rk top ≤ rk (s - 1) := by
  intro n
  induction n with
  | zero => intro s _ h; unfold und0 at h; split at h <;> exact absurd (show false = true from h) (by decide)
  | succ n ih =>
    intro s hs hu
    by_cases h0 : s = 0
    · rw [h0] at hu; exact absurd (show false = true from hu) (by decide)
    unfold und0 at hu
    rw [if_neg h0, und_s] at hu
    by_cases e : s - 1 = top
    · rw [e]; exact Nat.le_refl _
    rw [if_neg e] at hu
    rcases h (s - 1) (by omega) with h1 | ⟨h1, h2⟩
    · rw [h1] at hu; exact absurd (show false = true from hu) (by decide)
    · have := ih _ h1 hu; omega
theorem M_add3 {Q : Md → Prop} {K23 : Md → Int32 → Prop} {K35 : Md → Int32 → Int32 → Prop} {u : Md} {p q : Nat} (hp : p < 40) (hq : q < 40) (hQ : ∀ u', Fr [(1, 9)] u u' → (∀ t, t < 3 → gA u' 9 (3 * q + t) = gA u 9 (3 * q + t) + gA u 8 (3 * p + t)) → (∀ j, (j < 3 * q ∨ 3 * q + 3 ≤ j) → gA u' 9 j = gA u 9 j) → K35 u' (nI p) (gA u 7 q)) : ∃ n, qX12_addsUp_42 Q K23 K35 n u (nI p) (nI q) 0 := by
  refine pk_loop (fun k i s => qX12_addsUp_42 Q K23 K35 k s (nI p) (nI q) (nI i)) (fun i s => Fr [(1, 9)] u s ∧ (∀ t, t < i → gA s 9 (3 * q + t) = gA u 9 (3 * q + t) + gA u 8 (3 * p + t)) ∧ ∀ j, (j < 3 * q ∨ 3 * q + i ≤ j) → gA s 9 j = gA u 9 j) 3 0 u (by omega) ⟨Fr.rf, fun t ht => by omega, fun j _ => rfl⟩ (fun k s hI => ?_) (fun k i s hi hI ih => ?_)
  · obtain ⟨i1, i2, i3⟩ := hI
    unfold qX12_addsUp_42
    refine c_y (by decide) ⟨vp_in_nI (by omega) (by decide), ?_⟩
    rw [nI_clamp (by omega), i1.2.1 7 (by decide)]
    exact hQ s i1 i2 i3
  · obtain ⟨i1, i2, i3⟩ := hI
    have f8 : gA s 8 = gA u 8 := i1.2.1 8 (by decide)
    have z : ¬ 3 ≤ i := by omega
    unfold qX12_addsUp_42
    simp (disch := omega) only [z, f8, ofI1, nI_add, pk_mul, pk_sub, nI_clamp, imin_nI, imax_nI, nl_0, nl_1, nl_2, nl_3, nl_4, nl_5, nl_6, nl_7, nl_8, nl_9, nl_10, nl_11, nl_12, nl_13, nl_15, nl_16, nl_20, nl_24, nl_26, nl_30, nl_32, nl_36, nl_39, nl_40, nl_45, nl_48, nl_50, nl_57, nl_59, nl_60, nl_61, nl_62, nl_64, nl_72, nl_73, nl_80, nl_90, nl_97, nl_99, nl_100, nl_120, nl_122, nl_123, nl_127, nl_128, nl_199, nl_200, nl_255, nl_256, nl_290, nl_399, nl_400, nl_500, nl_512, nl_520, nl_600, nl_999, nl_1000, nl_2000, nl_9999, nl_10000, nl_14, nl_17, nl_18, nl_19, nl_21, nl_22, nl_23, nl_25, nl_27, nl_28, nl_29, nl_31, nl_33, nl_34, nl_35, nl_47, nl_51, nl_63, nl_110, nl_195, nl_240, nl_1370, nl_3710, nl_6030, nl_6690, nl_7490, nl_7610, nl_9170, nl_11570, gA_sF, gL_sF, gB_sF, gZ_sF, gO_sF, gX_sF, gF_sA, gL_sA, gB_sA, gZ_sA, gO_sA, gX_sA, gF_sL, gA_sL, gB_sL, gZ_sL, gO_sL, gX_sL, gF_sB, gA_sB, gL_sB, gZ_sB, gO_sB, gX_sB, gF_sZ, gA_sZ, gL_sZ, gB_sZ, gO_sZ, gX_sZ, gF_sO, gA_sO, gL_sO, gB_sO, gZ_sO, gX_sO, gF_sX, gA_sX, gL_sX, gB_sX, gZ_sX, gO_sX, gF_tA, gL_tA, gB_tA, gZ_tA, gO_tA, gX_tA, gF_tL, gA_tL, gB_tL, gZ_tL, gO_tL, gX_tL, gF_tB, gA_tB, gL_tB, gZ_tB, gO_tB, gX_tB, gF_tZ, gA_tZ, gL_tZ, gB_tZ, gO_tZ, gX_tZ, gF_sF, gA_sA, gL_sL, gB_sB, gZ_sZ, gO_sO, gX_sX, gA_tA, gL_tL, gB_tB, gZ_tZ, reduceIte, Nat.reduceEqDiff, Nat.zero_ne_one, Nat.one_ne_zero, Nat.succ_ne_self, forall_eq, vpT, cpyT, nI_leI, nI_ltI, nI_eq, nI_m1, oI_eqn, oI_eqm, va_up_ne', va_up_eq, eq_self_iff_true, true_or, or_true, true_implies, not_true_eq_false, not_false_eq_true, false_implies, and_true, true_and, forall_const, implies_true, ne_eq, Nat.add_sub_cancel, nI_pos, ite_self]
    refine ih _ ⟨i1.tr (Fr.tA 9 _ _ (by decide)), fun t ht => ?_, fun j hj => ?_⟩
    · by_cases e : t = i
      · subst e; simp (disch := omega) only [ofI1, nI_add, pk_mul, pk_sub, nI_clamp, imin_nI, imax_nI, nl_0, nl_1, nl_2, nl_3, nl_4, nl_5, nl_6, nl_7, nl_8, nl_9, nl_10, nl_11, nl_12, nl_13, nl_15, nl_16, nl_20, nl_24, nl_26, nl_30, nl_32, nl_36, nl_39, nl_40, nl_45, nl_48, nl_50, nl_57, nl_59, nl_60, nl_61, nl_62, nl_64, nl_72, nl_73, nl_80, nl_90, nl_97, nl_99, nl_100, nl_120, nl_122, nl_123, nl_127, nl_128, nl_199, nl_200, nl_255, nl_256, nl_290, nl_399, nl_400, nl_500, nl_512, nl_520, nl_600, nl_999, nl_1000, nl_2000, nl_9999, nl_10000, nl_14, nl_17, nl_18, nl_19, nl_21, nl_22, nl_23, nl_25, nl_27, nl_28, nl_29, nl_31, nl_33, nl_34, nl_35, nl_47, nl_51, nl_63, nl_110, nl_195, nl_240, nl_1370, nl_3710, nl_6030, nl_6690, nl_7490, nl_7610, nl_9170, nl_11570, gA_sF, gL_sF, gB_sF, gZ_sF, gO_sF, gX_sF, gF_sA, gL_sA, gB_sA, gZ_sA, gO_sA, gX_sA, gF_sL, gA_sL, gB_sL, gZ_sL, gO_sL, gX_sL, gF_sB, gA_sB, gL_sB, gZ_sB, gO_sB, gX_sB, gF_sZ, gA_sZ, gL_sZ, gB_sZ, gO_sZ, gX_sZ, gF_sO, gA_sO, gL_sO, gB_sO, gZ_sO, gX_sO, gF_sX, gA_sX, gL_sX, gB_sX, gZ_sX, gO_sX, gF_tA, gL_tA, gB_tA, gZ_tA, gO_tA, gX_tA, gF_tL, gA_tL, gB_tL, gZ_tL, gO_tL, gX_tL, gF_tB, gA_tB, gL_tB, gZ_tB, gO_tB, gX_tB, gF_tZ, gA_tZ, gL_tZ, gB_tZ, gO_tZ, gX_tZ, gF_sF, gA_sA, gL_sL, gB_sB, gZ_sZ, gO_sO, gX_sX, gA_tA, gL_tL, gB_tB, gZ_tZ, reduceIte, Nat.reduceEqDiff, Nat.zero_ne_one, Nat.one_ne_zero, Nat.succ_ne_self, forall_eq, vpT, cpyT, nI_leI, nI_ltI, nI_eq, nI_m1, oI_eqn, oI_eqm, va_up_ne', va_up_eq, eq_self_iff_true, true_or, or_true, true_implies, not_true_eq_false, not_false_eq_true, false_implies, and_true, true_and, forall_const, implies_true, ne_eq, Nat.add_sub_cancel, nI_pos, ite_self]; rw [i3 _ (by omega)]
      · simp (disch := omega) only [ofI1, nI_add, pk_mul, pk_sub, nI_clamp, imin_nI, imax_nI, nl_0, nl_1, nl_2, nl_3, nl_4, nl_5, nl_6, nl_7, nl_8, nl_9, nl_10, nl_11, nl_12, nl_13, nl_15, nl_16, nl_20, nl_24, nl_26, nl_30, nl_32, nl_36, nl_39, nl_40, nl_45, nl_48, nl_50, nl_57, nl_59, nl_60, nl_61, nl_62, nl_64, nl_72, nl_73, nl_80, nl_90, nl_97, nl_99, nl_100, nl_120, nl_122, nl_123, nl_127, nl_128, nl_199, nl_200, nl_255, nl_256, nl_290, nl_399, nl_400, nl_500, nl_512, nl_520, nl_600, nl_999, nl_1000, nl_2000, nl_9999, nl_10000, nl_14, nl_17, nl_18, nl_19, nl_21, nl_22, nl_23, nl_25, nl_27, nl_28, nl_29, nl_31, nl_33, nl_34, nl_35, nl_47, nl_51, nl_63, nl_110, nl_195, nl_240, nl_1370, nl_3710, nl_6030, nl_6690, nl_7490, nl_7610, nl_9170, nl_11570, gA_sF, gL_sF, gB_sF, gZ_sF, gO_sF, gX_sF, gF_sA, gL_sA, gB_sA, gZ_sA, gO_sA, gX_sA, gF_sL, gA_sL, gB_sL, gZ_sL, gO_sL, gX_sL, gF_sB, gA_sB, gL_sB, gZ_sB, gO_sB, gX_sB, gF_sZ, gA_sZ, gL_sZ, gB_sZ, gO_sZ, gX_sZ, gF_sO, gA_sO, gL_sO, gB_sO, gZ_sO, gX_sO, gF_sX, gA_sX, gL_sX, gB_sX, gZ_sX, gO_sX, gF_tA, gL_tA, gB_tA, gZ_tA, gO_tA, gX_tA, gF_tL, gA_tL, gB_tL, gZ_tL, gO_tL, gX_tL, gF_tB, gA_tB, gL_tB, gZ_tB, gO_tB, gX_tB, gF_tZ, gA_tZ, gL_tZ, gB_tZ, gO_tZ, gX_tZ, gF_sF, gA_sA, gL_sL, gB_sB, gZ_sZ, gO_sO, gX_sX, gA_tA, gL_tL, gB_tB, gZ_tZ, reduceIte, Nat.reduceEqDiff, Nat.zero_ne_one, Nat.one_ne_zero, Nat.succ_ne_self, forall_eq, vpT, cpyT, nI_leI, nI_ltI, nI_eq, nI_m1, oI_eqn, oI_eqm, va_up_ne', va_up_eq, eq_self_iff_true, true_or, or_true, true_implies, not_true_eq_false, not_false_eq_true, false_implies, and_true, true_and, forall_const, implies_true, ne_eq, Nat.add_sub_cancel, nI_pos, ite_self]; exact i2 t (by omega)
    · simp (disch := omega) only [ofI1, nI_add, pk_mul, pk_sub, nI_clamp, imin_nI, imax_nI, nl_0, nl_1, nl_2, nl_3, nl_4, nl_5, nl_6, nl_7, nl_8, nl_9, nl_10, nl_11, nl_12, nl_13, nl_15, nl_16, nl_20, nl_24, nl_26, nl_30, nl_32, nl_36, nl_39, nl_40, nl_45, nl_48, nl_50, nl_57, nl_59, nl_60, nl_61, nl_62, nl_64, nl_72, nl_73, nl_80, nl_90, nl_97, nl_99, nl_100, nl_120, nl_122, nl_123, nl_127, nl_128, nl_199, nl_200, nl_255, nl_256, nl_290, nl_399, nl_400, nl_500, nl_512, nl_520, nl_600, nl_999, nl_1000, nl_2000, nl_9999, nl_10000, nl_14, nl_17, nl_18, nl_19, nl_21, nl_22, nl_23, nl_25, nl_27, nl_28, nl_29, nl_31, nl_33, nl_34, nl_35, nl_47, nl_51, nl_63, nl_110, nl_195, nl_240, nl_1370, nl_3710, nl_6030, nl_6690, nl_7490, nl_7610, nl_9170, nl_11570, gA_sF, gL_sF, gB_sF, gZ_sF, gO_sF, gX_sF, gF_sA, gL_sA, gB_sA, gZ_sA, gO_sA, gX_sA, gF_sL, gA_sL, gB_sL, gZ_sL, gO_sL, gX_sL, gF_sB, gA_sB, gL_sB, gZ_sB, gO_sB, gX_sB, gF_sZ, gA_sZ, gL_sZ, gB_sZ, gO_sZ, gX_sZ, gF_sO, gA_sO, gL_sO, gB_sO, gZ_sO, gX_sO, gF_sX, gA_sX, gL_sX, gB_sX, gZ_sX, gO_sX, gF_tA, gL_tA, gB_tA, gZ_tA, gO_tA, gX_tA, gF_tL, gA_tL, gB_tL, gZ_tL, gO_tL, gX_tL, gF_tB, gA_tB, gL_tB, gZ_tB, gO_tB, gX_tB, gF_tZ, gA_tZ, gL_tZ, gB_tZ, gO_tZ, gX_tZ, gF_sF, gA_sA, gL_sL, gB_sB, gZ_sZ, gO_sO, gX_sX, gA_tA, gL_tL, gB_tB, gZ_tZ, reduceIte, Nat.reduceEqDiff, Nat.zero_ne_one, Nat.one_ne_zero, Nat.succ_ne_self, forall_eq, vpT, cpyT, nI_leI, nI_ltI, nI_eq, nI_m1, oI_eqn, oI_eqm, va_up_ne', va_up_eq, eq_self_iff_true, true_or, or_true, true_implies, not_true_eq_false, not_false_eq_true, false_implies, and_true, true_and, forall_const, implies_true, ne_eq, Nat.add_sub_cancel, nI_pos, ite_self]; exact i3 j (by omega)
theorem M_chain {Q : Md → Prop} {K23 : Md → Int32 → Prop} {f rk : Nat → Nat} {P p : Nat} (hP : P ≤ 40) (hp : p < P) (hrk : ∀ p, p < P → f p = 0 ∨ (f p ≤ P ∧ rk (f p - 1) < rk p)) : ∀ n s, s ≤ P → (s = 0 ∨ ends f n (s - 1)) → ∀ u, (∀ j, j < P → gA u 7 j = oI (f j)) → (∀ u', Fr [(1, 9)] u u' → (∀ q t, q < 40 → t < 3 → gA u' 9 (3 * q + t) = gA u 9 (3 * q + t) + if und0 f q n s then gA u 8 (3 * p + t) else 0) → K23 u' (nI p + Int32.ofInt 1)) → qX12_addsUp_35 Q K23 (n + 1) u (nI p) (oI s) := by
  intro n
  induction n with
  | zero =>
    intro s hs he u hu hQ
    rcases he with rfl | he
    · unfold qX12_addsUp_35
      refine c_y (by decide) (hQ u Fr.rf (fun q t _ _ => ?_))
      show _ = _ + (0 : Int32)
      rw [Int32.add_zero]
    · exact he.elim
  | succ n ih =>
    intro s hs he u hu hQ
    by_cases h0 : s = 0
    · subst h0
      unfold qX12_addsUp_35
      refine c_y (by decide) (hQ u Fr.rf (fun q t _ _ => ?_))
      show _ = _ + (0 : Int32)
      rw [Int32.add_zero]
    unfold qX12_addsUp_35
    rw [oI_pos (by omega)]
    refine c_n (nI_m1 (by omega)) (M_add3 (by omega) (by omega) (fun u' fu a b => ?_))
    rw [hu _ (by omega)]
    have hfs : f (s - 1) ≤ P := by rcases hrk (s - 1) (by omega) with h | h <;> omega
    refine ih (f (s - 1)) hfs (he.resolve_left h0) u' (fun j hj => by rw [fu.2.1 7 (by decide)]; exact hu j hj) (fun u'' fu' c => hQ u'' (fu.tr fu') (fun q t hq ht => ?_))
    rw [c q t hq ht, fu.2.1 8 (by decide)]
    have eu : und0 f q (n + 1) s = if s - 1 = q then true else und0 f q n (f (s - 1)) := by
      conv => lhs; unfold und0
      rw [if_neg h0, und_s]
    by_cases e : s - 1 = q
    · rw [eu, if_pos e]
      have hno : und0 f q n (f (s - 1)) = false := by
        cases hc : und0 f q n (f (s - 1)) with
        | false => rfl
        | true =>
          have := und0_rk hrk n _ hfs hc
          rcases hrk (s - 1) (by omega) with h | h
          · rw [h] at hc; exact absurd hc (by unfold und0; rw [if_pos rfl]; decide)
          · rw [← e] at this; omega
      rw [hno, ← e, a t ht]
      show _ + (0 : Int32) = _
      rw [Int32.add_zero]; rfl
    · rw [eu, if_neg e, b _ (by omega)]
theorem M_addsUp {m : Md} {A : Nat → Nat → Nat} {c y : Nat} (hw : Wf A c) (e1 : gA m 1 1 = nI (A 51 0)) (h7 : ∀ j, j < 40 → gA m 7 j = oI (parA A y j)) (h8 : ∀ j, j < 120 → gA m 8 j = nI (ownA A y j)) {Q : Md → Prop} (hQ : ∀ m', Fr [(1, 9)] m m' → (∀ q t, q < 40 → t < 3 → gA m' 9 (3 * q + t) = nI (livA A y q t)) → Q m') : qX12_addsUp m Q := by
  have b1 : A 51 0 ≤ 40 := hw.1.2.1
  obtain ⟨rk, hrk⟩ : Acyc (A 51 0) (parA A y) := hw.2.2.1.2.2 y
  have hac : Acyc (A 51 0) (parA A y) := ⟨rk, hrk⟩
  unfold qX12_addsUp
  refine pk_loop (fun k i s => qX12_addsUp_2 Q k s (nI i)) (fun i s => Fr [(1, 9)] m s ∧ ∀ j, j < i → gA s 9 j = 0) 120 0 m (by omega) ⟨Fr.rf, fun j hj => by omega⟩ (fun k s hI => ?_) (fun k i s hi hI ih => ?_)
  · obtain ⟨i1, i2⟩ := hI
    unfold qX12_addsUp_2
    refine c_y (by decide) ?_
    refine pk_loop (fun k i s => qX12_addsUp_23 Q k s (nI i)) (fun i u => Fr [(1, 9)] m u ∧ ∀ q t, q < 40 → t < 3 → gA u 9 (3 * q + t) = nI (sumF (livG A y q t) i)) (A 51 0) 0 s (by omega) ⟨i1, fun q t hq ht => by rw [i2 _ (by omega)]; rfl⟩ (fun k u hI => ?_) (fun k i u hi hI ih => ?_)
    · have e1' : gA u 1 1 = nI (A 51 0) := by rw [hI.1.2.1 1 (by decide)]; exact e1
      unfold qX12_addsUp_23
      rw [nl_1, nI_clamp (by omega), e1']
      exact ⟨vp_in_nI (by decide) (by decide), c_y (nI_le (Nat.le_refl _) (by omega)) (hQ u hI.1 hI.2)⟩
    · obtain ⟨j1, j2⟩ := hI
      have e1' : gA u 1 1 = nI (A 51 0) := by rw [j1.2.1 1 (by decide)]; exact e1
      unfold qX12_addsUp_23
      rw [nl_1, nI_clamp (by omega), e1']
      refine ⟨vp_in_nI (by decide) (by decide), c_n (nI_ge hi (by omega)) ⟨41 + 1, ?_⟩⟩
      have hM := M_chain (Q := Q) (K23 := qX12_addsUp_23 Q k) (f := parA A y) (rk := rk) (P := A 51 0) (p := i) b1 hi hrk 41 (i + 1) (by omega) (Or.inr (hac.ends b1 hi)) u (fun j hj => by rw [j1.2.1 7 (by decide)]; exact h7 j (by omega)) (fun u' fu hu => ?_)
      · rw [oI_s] at hM; exact hM
      · rw [ofI1, nI_add]
        refine ih u' ⟨j1.tr fu, fun q t hq ht => ?_⟩
        rw [hu q t hq ht, j2 q t hq ht, j1.2.1 8 (by decide), h8 _ (by omega)]
        show _ = nI (sumF (livG A y q t) i + livG A y q t i)
        have eg : livG A y q t i = if und0 (parA A y) q 41 (i + 1) then ownA A y (3 * i + t) else 0 := rfl
        rw [eg, ← nI_add]
        cases und0 (parA A y) q 41 (i + 1) <;> rfl
  · obtain ⟨i1, i2⟩ := hI
    have z : ¬ 120 ≤ i := by omega
    unfold qX12_addsUp_2
    simp (disch := omega) only [z, ofI1, nI_add, pk_mul, pk_sub, nI_clamp, imin_nI, imax_nI, nl_0, nl_1, nl_2, nl_3, nl_4, nl_5, nl_6, nl_7, nl_8, nl_9, nl_10, nl_11, nl_12, nl_13, nl_15, nl_16, nl_20, nl_24, nl_26, nl_30, nl_32, nl_36, nl_39, nl_40, nl_45, nl_48, nl_50, nl_57, nl_59, nl_60, nl_61, nl_62, nl_64, nl_72, nl_73, nl_80, nl_90, nl_97, nl_99, nl_100, nl_120, nl_122, nl_123, nl_127, nl_128, nl_199, nl_200, nl_255, nl_256, nl_290, nl_399, nl_400, nl_500, nl_512, nl_520, nl_600, nl_999, nl_1000, nl_2000, nl_9999, nl_10000, nl_14, nl_17, nl_18, nl_19, nl_21, nl_22, nl_23, nl_25, nl_27, nl_28, nl_29, nl_31, nl_33, nl_34, nl_35, nl_47, nl_51, nl_63, nl_110, nl_195, nl_240, nl_1370, nl_3710, nl_6030, nl_6690, nl_7490, nl_7610, nl_9170, nl_11570, gA_sF, gL_sF, gB_sF, gZ_sF, gO_sF, gX_sF, gF_sA, gL_sA, gB_sA, gZ_sA, gO_sA, gX_sA, gF_sL, gA_sL, gB_sL, gZ_sL, gO_sL, gX_sL, gF_sB, gA_sB, gL_sB, gZ_sB, gO_sB, gX_sB, gF_sZ, gA_sZ, gL_sZ, gB_sZ, gO_sZ, gX_sZ, gF_sO, gA_sO, gL_sO, gB_sO, gZ_sO, gX_sO, gF_sX, gA_sX, gL_sX, gB_sX, gZ_sX, gO_sX, gF_tA, gL_tA, gB_tA, gZ_tA, gO_tA, gX_tA, gF_tL, gA_tL, gB_tL, gZ_tL, gO_tL, gX_tL, gF_tB, gA_tB, gL_tB, gZ_tB, gO_tB, gX_tB, gF_tZ, gA_tZ, gL_tZ, gB_tZ, gO_tZ, gX_tZ, gF_sF, gA_sA, gL_sL, gB_sB, gZ_sZ, gO_sO, gX_sX, gA_tA, gL_tL, gB_tB, gZ_tZ, reduceIte, Nat.reduceEqDiff, Nat.zero_ne_one, Nat.one_ne_zero, Nat.succ_ne_self, forall_eq, vpT, cpyT, nI_leI, nI_ltI, nI_eq, nI_m1, oI_eqn, oI_eqm, va_up_ne', va_up_eq, eq_self_iff_true, true_or, or_true, true_implies, not_true_eq_false, not_false_eq_true, false_implies, and_true, true_and, forall_const, implies_true, ne_eq, Nat.add_sub_cancel, nI_pos, ite_self]
    refine ih _ ⟨i1.tr (Fr.tA 9 _ _ (by decide)), fun j hj => ?_⟩
    by_cases e : j = i
    · subst e; simp (disch := omega) only [ofI1, nI_add, pk_mul, pk_sub, nI_clamp, imin_nI, imax_nI, nl_0, nl_1, nl_2, nl_3, nl_4, nl_5, nl_6, nl_7, nl_8, nl_9, nl_10, nl_11, nl_12, nl_13, nl_15, nl_16, nl_20, nl_24, nl_26, nl_30, nl_32, nl_36, nl_39, nl_40, nl_45, nl_48, nl_50, nl_57, nl_59, nl_60, nl_61, nl_62, nl_64, nl_72, nl_73, nl_80, nl_90, nl_97, nl_99, nl_100, nl_120, nl_122, nl_123, nl_127, nl_128, nl_199, nl_200, nl_255, nl_256, nl_290, nl_399, nl_400, nl_500, nl_512, nl_520, nl_600, nl_999, nl_1000, nl_2000, nl_9999, nl_10000, nl_14, nl_17, nl_18, nl_19, nl_21, nl_22, nl_23, nl_25, nl_27, nl_28, nl_29, nl_31, nl_33, nl_34, nl_35, nl_47, nl_51, nl_63, nl_110, nl_195, nl_240, nl_1370, nl_3710, nl_6030, nl_6690, nl_7490, nl_7610, nl_9170, nl_11570, gA_sF, gL_sF, gB_sF, gZ_sF, gO_sF, gX_sF, gF_sA, gL_sA, gB_sA, gZ_sA, gO_sA, gX_sA, gF_sL, gA_sL, gB_sL, gZ_sL, gO_sL, gX_sL, gF_sB, gA_sB, gL_sB, gZ_sB, gO_sB, gX_sB, gF_sZ, gA_sZ, gL_sZ, gB_sZ, gO_sZ, gX_sZ, gF_sO, gA_sO, gL_sO, gB_sO, gZ_sO, gX_sO, gF_sX, gA_sX, gL_sX, gB_sX, gZ_sX, gO_sX, gF_tA, gL_tA, gB_tA, gZ_tA, gO_tA, gX_tA, gF_tL, gA_tL, gB_tL, gZ_tL, gO_tL, gX_tL, gF_tB, gA_tB, gL_tB, gZ_tB, gO_tB, gX_tB, gF_tZ, gA_tZ, gL_tZ, gB_tZ, gO_tZ, gX_tZ, gF_sF, gA_sA, gL_sL, gB_sB, gZ_sZ, gO_sO, gX_sX, gA_tA, gL_tL, gB_tB, gZ_tZ, reduceIte, Nat.reduceEqDiff, Nat.zero_ne_one, Nat.one_ne_zero, Nat.succ_ne_self, forall_eq, vpT, cpyT, nI_leI, nI_ltI, nI_eq, nI_m1, oI_eqn, oI_eqm, va_up_ne', va_up_eq, eq_self_iff_true, true_or, or_true, true_implies, not_true_eq_false, not_false_eq_true, false_implies, and_true, true_and, forall_const, implies_true, ne_eq, Nat.add_sub_cancel, nI_pos, ite_self]
    · simp (disch := omega) only [ofI1, nI_add, pk_mul, pk_sub, nI_clamp, imin_nI, imax_nI, nl_0, nl_1, nl_2, nl_3, nl_4, nl_5, nl_6, nl_7, nl_8, nl_9, nl_10, nl_11, nl_12, nl_13, nl_15, nl_16, nl_20, nl_24, nl_26, nl_30, nl_32, nl_36, nl_39, nl_40, nl_45, nl_48, nl_50, nl_57, nl_59, nl_60, nl_61, nl_62, nl_64, nl_72, nl_73, nl_80, nl_90, nl_97, nl_99, nl_100, nl_120, nl_122, nl_123, nl_127, nl_128, nl_199, nl_200, nl_255, nl_256, nl_290, nl_399, nl_400, nl_500, nl_512, nl_520, nl_600, nl_999, nl_1000, nl_2000, nl_9999, nl_10000, nl_14, nl_17, nl_18, nl_19, nl_21, nl_22, nl_23, nl_25, nl_27, nl_28, nl_29, nl_31, nl_33, nl_34, nl_35, nl_47, nl_51, nl_63, nl_110, nl_195, nl_240, nl_1370, nl_3710, nl_6030, nl_6690, nl_7490, nl_7610, nl_9170, nl_11570, gA_sF, gL_sF, gB_sF, gZ_sF, gO_sF, gX_sF, gF_sA, gL_sA, gB_sA, gZ_sA, gO_sA, gX_sA, gF_sL, gA_sL, gB_sL, gZ_sL, gO_sL, gX_sL, gF_sB, gA_sB, gL_sB, gZ_sB, gO_sB, gX_sB, gF_sZ, gA_sZ, gL_sZ, gB_sZ, gO_sZ, gX_sZ, gF_sO, gA_sO, gL_sO, gB_sO, gZ_sO, gX_sO, gF_sX, gA_sX, gL_sX, gB_sX, gZ_sX, gO_sX, gF_tA, gL_tA, gB_tA, gZ_tA, gO_tA, gX_tA, gF_tL, gA_tL, gB_tL, gZ_tL, gO_tL, gX_tL, gF_tB, gA_tB, gL_tB, gZ_tB, gO_tB, gX_tB, gF_tZ, gA_tZ, gL_tZ, gB_tZ, gO_tZ, gX_tZ, gF_sF, gA_sA, gL_sL, gB_sB, gZ_sZ, gO_sO, gX_sX, gA_tA, gL_tL, gB_tB, gZ_tZ, reduceIte, Nat.reduceEqDiff, Nat.zero_ne_one, Nat.one_ne_zero, Nat.succ_ne_self, forall_eq, vpT, cpyT, nI_leI, nI_ltI, nI_eq, nI_m1, oI_eqn, oI_eqm, va_up_ne', va_up_eq, eq_self_iff_true, true_or, or_true, true_implies, not_true_eq_false, not_false_eq_true, false_implies, and_true, true_and, forall_const, implies_true, ne_eq, Nat.add_sub_cancel, nI_pos, ite_self]; exact i2 j (by omega)
