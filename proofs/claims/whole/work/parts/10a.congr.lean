theorem ofI2 : Int32.ofInt 2 = nI 2 := rfl
theorem ofI3 : Int32.ofInt 3 = nI 3 := rfl
theorem ofI4 : Int32.ofInt 4 = nI 4 := rfl
theorem parF_c {pl of yr pl' of' yr' : Nat → Nat} {y y' : Nat} : ∀ k, (∀ i, i < k → (yr i ≤ y ↔ yr' i ≤ y') ∧ (yr i ≤ y → pl i = pl' i ∧ of i = of' i)) → parF pl of yr y k = parF pl' of' yr' y' k := by
  intro k
  induction k with
  | zero => intro _; rfl
  | succ k ih =>
    intro h
    have h1 := ih (fun i hi => h i (by omega))
    obtain ⟨h2, h3⟩ := h k (by omega)
    unfold parF
    by_cases hy : yr k ≤ y
    · rw [if_pos hy, if_pos (h2.mp hy), h1, (h3 hy).1, (h3 hy).2]
    · rw [if_neg hy, if_neg (fun q => hy (h2.mpr q)), h1]
theorem ownF_c {pl to nn yr pl' to' nn' yr' : Nat → Nat} {y y' : Nat} : ∀ k, (∀ i, i < k → (yr i ≤ y ↔ yr' i ≤ y') ∧ (yr i ≤ y → pl i = pl' i ∧ to i = to' i ∧ nn i = nn' i)) → ownF pl to nn yr y k = ownF pl' to' nn' yr' y' k := by
  intro k
  induction k with
  | zero => intro _; rfl
  | succ k ih =>
    intro h
    have h1 := ih (fun i hi => h i (by omega))
    obtain ⟨h2, h3⟩ := h k (by omega)
    unfold ownF
    by_cases hy : yr k ≤ y
    · rw [if_pos hy, if_pos (h2.mp hy), h1, (h3 hy).1, (h3 hy).2.1, (h3 hy).2.2]
    · rw [if_neg hy, if_neg (fun q => hy (h2.mpr q)), h1]
theorem lastF_c {to yr to' yr' : Nat → Nat} {t y y' : Nat} : ∀ k, (∀ i, i < k → (to i = t ∧ yr i ≤ y ↔ to' i = t ∧ yr' i ≤ y')) → lastF to yr t y k = lastF to' yr' t y' k := by
  intro k
  induction k with
  | zero => intro _; rfl
  | succ k ih =>
    intro h
    have h1 := ih (fun i hi => h i (by omega))
    have h2 := h k (by omega)
    unfold lastF
    by_cases hy : to k = t ∧ yr k ≤ y
    · rw [if_pos hy, if_pos (h2.mp hy)]
    · rw [if_neg hy, if_neg (fun q => hy (h2.mpr q)), h1]
theorem stkF_c {pl to na yr pl' to' na' yr' : Nat → Nat} {p t y y' : Nat} : ∀ k, (∀ i, i < k → (yr i ≤ y ↔ yr' i ≤ y') ∧ (yr i ≤ y → pl i = pl' i ∧ to i = to' i ∧ na i = na' i)) → stkF pl to na yr p t y k = stkF pl' to' na' yr' p t y' k := by
  intro k
  induction k with
  | zero => intro _; rfl
  | succ k ih =>
    intro h
    have h1 := ih (fun i hi => h i (by omega))
    obtain ⟨h2, h3⟩ := h k (by omega)
    unfold stkF
    by_cases hy : yr k ≤ y
    · rw [h1, (h3 hy).1, (h3 hy).2.1, (h3 hy).2.2]
      have e1 : (pl' k = p ∧ to' k = t ∧ yr k ≤ y) ↔ (pl' k = p ∧ to' k = t ∧ yr' k ≤ y') := by
        constructor
        · intro q; exact ⟨q.1, q.2.1, h2.mp hy⟩
        · intro q; exact ⟨q.1, q.2.1, hy⟩
      simp only [e1]
    · rw [if_neg (fun q => hy q.2.2), if_neg (fun q => hy (h2.mpr q.2.2)), h1]
/-- behind the last year told nothing changes -/
theorem Wf.hi {A : Nat → Nat → Nat} {c : Nat} (hw : Wf A c) {y : Nat} (hy : A 50 0 ≤ y) : Same A y (A 50 0) := by
  obtain ⟨-, -, v2, v3, -, v5, v6, -, -, v9⟩ := hw
  refine ⟨parF_c _ (fun i hi => ⟨?_, fun _ => ⟨rfl, rfl⟩⟩), ownF_c _ (fun i hi => ⟨?_, fun _ => ⟨rfl, rfl, rfl⟩⟩), fun t => lastF_c _ (fun i hi => ?_), lastF_c _ (fun i hi => ?_), fun p t => stkF_c _ (fun i hi => ⟨?_, fun _ => ⟨rfl, rfl, rfl⟩⟩)⟩
  · have := (v2.1 i hi).2.2; constructor <;> intro _ <;> omega
  · have := (v3.1 i hi).2.2.2; constructor <;> intro _ <;> omega
  · have := (v5 i hi).2.1; constructor <;> intro h <;> exact ⟨h.1, by omega⟩
  · have := (v6 i hi).1; constructor <;> intro h <;> exact ⟨h.1, by omega⟩
  · have := (v9.1 i hi).2.2.2; constructor <;> intro _ <;> omega
theorem Same.tr {A : Nat → Nat → Nat} {x y z : Nat} (h : Same A x y) (h2 : Same A y z) : Same A x z := ⟨h.1.trans h2.1, h.2.1.trans h2.2.1, fun t => (h.2.2.1 t).trans (h2.2.2.1 t), h.2.2.2.1.trans h2.2.2.2.1, fun p t => (h.2.2.2.2 p t).trans (h2.2.2.2.2 p t)⟩
theorem Same.sy {A : Nat → Nat → Nat} {x y : Nat} (h : Same A x y) : Same A y x := ⟨h.1.symm, h.2.1.symm, fun t => (h.2.2.1 t).symm, h.2.2.2.1.symm, fun p t => (h.2.2.2.2 p t).symm⟩
/-- the same as told up to y -/
def Alike (A B : Nat → Nat → Nat) (y : Nat) : Prop := parA A y = parA B y ∧ ownA A y = ownA B y ∧ (∀ t, spA A t y = spA B t y) ∧ acA A y = acA B y ∧ ∀ p t, stkA A p t y = stkA B p t y
/-- told NOW: the mark is set -/
theorem Nst.tell {st : Md} {A B : Nat → Nat → Nat} {c : Nat} (h : Nst st A) (hw : Wf B c) (hN : B 50 0 = A 50 0) (hl : ∀ y, y < A 50 0 → Alike B A y) : Nst (tZ st 1 (nI (A 50 0)) 1) B := by
  refine ⟨by rw [hN]; exact h.1, fun y hy hz => ?_⟩
  have b0 : B 50 0 < 400 := hw.1.1
  have g : gZ (tZ st 1 (nI (A 50 0)) 1) 1 = va_up (gZ st 1) (A 50 0) true := by
    rw [gZ_tZ, if_pos rfl, nI_clamp (by omega)]; rfl
  rw [g] at hz
  by_cases e : y + 1 = A 50 0
  · rw [e, va_up_eq] at hz; exact absurd hz (by decide)
  rw [va_up_ne' _ _ e] at hz
  by_cases hlt : y + 1 < A 50 0
  · have s := h.2 y hy hz
    have l1 := hl (y + 1) hlt
    have l2 := hl y (by omega)
    exact ⟨by rw [l1.1, l2.1]; exact s.1, by rw [l1.2.1, l2.2.1]; exact s.2.1, fun t => by rw [l1.2.2.1, l2.2.2.1]; exact s.2.2.1 t, by rw [l1.2.2.2.1, l2.2.2.2.1]; exact s.2.2.2.1, fun p t => by rw [l1.2.2.2.2, l2.2.2.2.2]; exact s.2.2.2.2 p t⟩
  · exact (hw.hi (y := y + 1) (by omega)).tr (hw.hi (y := y) (by omega)).sy
theorem N_mark {st : Md} {N : Nat} (e : gF st 0 = nI N) (hN : N < 400) {Q : Md → Prop} (hQ : Q (tZ st 1 (nI N) 1)) : qX8_mark st Q := by
  unfold qX8_mark
  rw [e]
  refine ⟨vp_in_nI hN (by decide), fun w hw => ?_⟩
  rw [hw]; exact hQ
/-- a count of the year N -/
def mtc (A : Nat → Nat → Nat) (p t N i : Nat) : Prop := A 6 i = p ∧ A 7 i = t ∧ A 9 i = N
theorem N_tellCount {la : Md} {A : Nat → Nat → Nat} {p t n N C : Nat} (hC : A 56 0 = C) (bC : C ≤ 200) (hN : N < 400) (hp : p < 40) (ht : t < 3) (hn : n ≤ 2000) (h : Nco la A) (hb : ∀ k, k < C → A 6 k < 40 ∧ A 7 k < 3 ∧ A 9 k ≤ N) (hs : ∀ i j, i < j → j < C → A 9 i ≤ A 9 j) (hd : ∀ i j, i < j → j < C → A 6 i = A 6 j → A 7 i = A 7 j → A 9 i ≠ A 9 j) {Q : Int32 → Md → Prop} (h1 : ∀ i, i < C → mtc A p t N i → Q 1 (sF (tA (tA (tA la 8 (nI i) (nI (3 * p + t))) 9 (nI i) (nI n)) 10 (nI i) (nI N)) 7 (nI C))) (h2 : (∀ i, i < C → ¬ mtc A p t N i) → C < 200 → Q 1 (sF (tA (tA (tA la 8 (nI C) (nI (3 * p + t))) 9 (nI C) (nI n)) 10 (nI C) (nI N)) 7 (nI (C + 1)))) (h3 : (∀ i, i < C → ¬ mtc A p t N i) → C = 200 → Q 0 la) : qX2_tellCount la (nI p) (nI t) (nI n) (nI N) Q := by
  obtain ⟨g7, g⟩ := h
  rw [hC] at g7 g
  have hce : ∀ i, i < C → 3 * A 6 i + A 7 i = 3 * p + t → A 6 i = p ∧ A 7 i = t := fun i hi e => by have := hb i hi; omega
  have hfin : ∀ i, i ≤ C → (i < C → mtc A p t N i) → (i = C → ∀ j, j < C → ¬ mtc A p t N j) → qX2_tellCount_60 Q la (nI n) (nI N) (nI (3 * p + t)) (nI i) := by
    intro i hi hm hno
    unfold qX2_tellCount_60
    by_cases h200 : i < 200
    · by_cases hiC : i = C
      · have z : max C (i + 1) = C + 1 := by omega
        simp (disch := omega) only [h200, g7, z, ofI1, nI_add, pk_mul, pk_sub, nI_clamp, imin_nI, imax_nI, nl_0, nl_1, nl_2, nl_3, nl_4, nl_5, nl_6, nl_7, nl_8, nl_9, nl_10, nl_11, nl_12, nl_13, nl_15, nl_16, nl_20, nl_24, nl_26, nl_30, nl_32, nl_36, nl_39, nl_40, nl_45, nl_48, nl_50, nl_57, nl_59, nl_60, nl_61, nl_62, nl_64, nl_72, nl_73, nl_80, nl_90, nl_97, nl_99, nl_100, nl_120, nl_122, nl_123, nl_127, nl_128, nl_199, nl_200, nl_255, nl_256, nl_290, nl_399, nl_400, nl_500, nl_512, nl_520, nl_600, nl_999, nl_1000, nl_2000, nl_9999, nl_10000, nl_14, nl_17, nl_18, nl_19, nl_21, nl_22, nl_23, nl_25, nl_27, nl_28, nl_29, nl_31, nl_33, nl_34, nl_35, nl_47, nl_51, nl_63, nl_110, nl_195, nl_240, nl_1370, nl_3710, nl_6030, nl_6690, nl_7490, nl_7610, nl_9170, nl_11570, gA_sF, gL_sF, gB_sF, gZ_sF, gO_sF, gX_sF, gF_sA, gL_sA, gB_sA, gZ_sA, gO_sA, gX_sA, gF_sL, gA_sL, gB_sL, gZ_sL, gO_sL, gX_sL, gF_sB, gA_sB, gL_sB, gZ_sB, gO_sB, gX_sB, gF_sZ, gA_sZ, gL_sZ, gB_sZ, gO_sZ, gX_sZ, gF_sO, gA_sO, gL_sO, gB_sO, gZ_sO, gX_sO, gF_sX, gA_sX, gL_sX, gB_sX, gZ_sX, gO_sX, gF_tA, gL_tA, gB_tA, gZ_tA, gO_tA, gX_tA, gF_tL, gA_tL, gB_tL, gZ_tL, gO_tL, gX_tL, gF_tB, gA_tB, gL_tB, gZ_tB, gO_tB, gX_tB, gF_tZ, gA_tZ, gL_tZ, gB_tZ, gO_tZ, gX_tZ, gF_sF, gA_sA, gL_sL, gB_sB, gZ_sZ, gO_sO, gX_sX, gA_tA, gL_tL, gB_tB, gZ_tZ, reduceIte, Nat.reduceEqDiff, Nat.zero_ne_one, Nat.one_ne_zero, Nat.succ_ne_self, forall_eq, vpT, cpyT, nI_leI, nI_ltI, nI_eq, nI_m1, oI_eqn, oI_eqm, va_up_ne', va_up_eq, eq_self_iff_true, true_or, or_true, true_implies, not_true_eq_false, not_false_eq_true, false_implies, and_true, true_and, forall_const, implies_true, ne_eq, Nat.add_sub_cancel, nI_pos, ite_self]
        subst hiC
        exact h2 (hno rfl) h200
      · have z : max C (i + 1) = C := by omega
        simp (disch := omega) only [h200, g7, z, ofI1, nI_add, pk_mul, pk_sub, nI_clamp, imin_nI, imax_nI, nl_0, nl_1, nl_2, nl_3, nl_4, nl_5, nl_6, nl_7, nl_8, nl_9, nl_10, nl_11, nl_12, nl_13, nl_15, nl_16, nl_20, nl_24, nl_26, nl_30, nl_32, nl_36, nl_39, nl_40, nl_45, nl_48, nl_50, nl_57, nl_59, nl_60, nl_61, nl_62, nl_64, nl_72, nl_73, nl_80, nl_90, nl_97, nl_99, nl_100, nl_120, nl_122, nl_123, nl_127, nl_128, nl_199, nl_200, nl_255, nl_256, nl_290, nl_399, nl_400, nl_500, nl_512, nl_520, nl_600, nl_999, nl_1000, nl_2000, nl_9999, nl_10000, nl_14, nl_17, nl_18, nl_19, nl_21, nl_22, nl_23, nl_25, nl_27, nl_28, nl_29, nl_31, nl_33, nl_34, nl_35, nl_47, nl_51, nl_63, nl_110, nl_195, nl_240, nl_1370, nl_3710, nl_6030, nl_6690, nl_7490, nl_7610, nl_9170, nl_11570, gA_sF, gL_sF, gB_sF, gZ_sF, gO_sF, gX_sF, gF_sA, gL_sA, gB_sA, gZ_sA, gO_sA, gX_sA, gF_sL, gA_sL, gB_sL, gZ_sL, gO_sL, gX_sL, gF_sB, gA_sB, gL_sB, gZ_sB, gO_sB, gX_sB, gF_sZ, gA_sZ, gL_sZ, gB_sZ, gO_sZ, gX_sZ, gF_sO, gA_sO, gL_sO, gB_sO, gZ_sO, gX_sO, gF_sX, gA_sX, gL_sX, gB_sX, gZ_sX, gO_sX, gF_tA, gL_tA, gB_tA, gZ_tA, gO_tA, gX_tA, gF_tL, gA_tL, gB_tL, gZ_tL, gO_tL, gX_tL, gF_tB, gA_tB, gL_tB, gZ_tB, gO_tB, gX_tB, gF_tZ, gA_tZ, gL_tZ, gB_tZ, gO_tZ, gX_tZ, gF_sF, gA_sA, gL_sL, gB_sB, gZ_sZ, gO_sO, gX_sX, gA_tA, gL_tL, gB_tB, gZ_tZ, reduceIte, Nat.reduceEqDiff, Nat.zero_ne_one, Nat.one_ne_zero, Nat.succ_ne_self, forall_eq, vpT, cpyT, nI_leI, nI_ltI, nI_eq, nI_m1, oI_eqn, oI_eqm, va_up_ne', va_up_eq, eq_self_iff_true, true_or, or_true, true_implies, not_true_eq_false, not_false_eq_true, false_implies, and_true, true_and, forall_const, implies_true, ne_eq, Nat.add_sub_cancel, nI_pos, ite_self]
        exact h1 i (by omega) (hm (by omega))
    · simp (disch := omega) only [h200, ofI1, nI_add, pk_mul, pk_sub, nI_clamp, imin_nI, imax_nI, nl_0, nl_1, nl_2, nl_3, nl_4, nl_5, nl_6, nl_7, nl_8, nl_9, nl_10, nl_11, nl_12, nl_13, nl_15, nl_16, nl_20, nl_24, nl_26, nl_30, nl_32, nl_36, nl_39, nl_40, nl_45, nl_48, nl_50, nl_57, nl_59, nl_60, nl_61, nl_62, nl_64, nl_72, nl_73, nl_80, nl_90, nl_97, nl_99, nl_100, nl_120, nl_122, nl_123, nl_127, nl_128, nl_199, nl_200, nl_255, nl_256, nl_290, nl_399, nl_400, nl_500, nl_512, nl_520, nl_600, nl_999, nl_1000, nl_2000, nl_9999, nl_10000, nl_14, nl_17, nl_18, nl_19, nl_21, nl_22, nl_23, nl_25, nl_27, nl_28, nl_29, nl_31, nl_33, nl_34, nl_35, nl_47, nl_51, nl_63, nl_110, nl_195, nl_240, nl_1370, nl_3710, nl_6030, nl_6690, nl_7490, nl_7610, nl_9170, nl_11570, gA_sF, gL_sF, gB_sF, gZ_sF, gO_sF, gX_sF, gF_sA, gL_sA, gB_sA, gZ_sA, gO_sA, gX_sA, gF_sL, gA_sL, gB_sL, gZ_sL, gO_sL, gX_sL, gF_sB, gA_sB, gL_sB, gZ_sB, gO_sB, gX_sB, gF_sZ, gA_sZ, gL_sZ, gB_sZ, gO_sZ, gX_sZ, gF_sO, gA_sO, gL_sO, gB_sO, gZ_sO, gX_sO, gF_sX, gA_sX, gL_sX, gB_sX, gZ_sX, gO_sX, gF_tA, gL_tA, gB_tA, gZ_tA, gO_tA, gX_tA, gF_tL, gA_tL, gB_tL, gZ_tL, gO_tL, gX_tL, gF_tB, gA_tB, gL_tB, gZ_tB, gO_tB, gX_tB, gF_tZ, gA_tZ, gL_tZ, gB_tZ, gO_tZ, gX_tZ, gF_sF, gA_sA, gL_sL, gB_sB, gZ_sZ, gO_sO, gX_sX, gA_tA, gL_tL, gB_tB, gZ_tZ, reduceIte, Nat.reduceEqDiff, Nat.zero_ne_one, Nat.one_ne_zero, Nat.succ_ne_self, forall_eq, vpT, cpyT, nI_leI, nI_ltI, nI_eq, nI_m1, oI_eqn, oI_eqm, va_up_ne', va_up_eq, eq_self_iff_true, true_or, or_true, true_implies, not_true_eq_false, not_false_eq_true, false_implies, and_true, true_and, forall_const, implies_true, ne_eq, Nat.add_sub_cancel, nI_pos, ite_self]
      exact h3 (hno (by omega)) (by omega)
  unfold qX2_tellCount
  refine ⟨C + 1, ?_⟩
  have e3 : nI p * 3 + nI t = nI (3 * p + t) := by rw [nl_3, pk_mul, nI_add, Nat.mul_comm]
  rw [e3, g7]
  refine pk_loopD (fun k i (s : Nat) => qX2_tellCount_21 Q k la (nI n) (nI N) (nI (3 * p + t)) (nI s) (oI i)) (fun i s => i ≤ C ∧ ((s = C ∧ ∀ j, i ≤ j → j < C → ¬ mtc A p t N j) ∨ (i ≤ s ∧ s < C ∧ mtc A p t N s))) (fun k s hI => ?_) (fun k i s hI ih => ?_) C C ⟨Nat.le_refl _, Or.inl ⟨rfl, fun j q1 q2 => by omega⟩⟩
  · unfold qX2_tellCount_21
    refine c_y (by decide) (hfin s (by omega) (fun q => ?_) (fun q => ?_))
    · rcases hI.2 with ⟨rfl, _⟩ | ⟨_, _, r⟩
      · omega
      · exact r
    · rcases hI.2 with ⟨_, r⟩ | ⟨_, r, _⟩
      · exact fun j hj => r j (by omega) hj
      · omega
  · obtain ⟨i1, i2⟩ := hI
    unfold qX2_tellCount_21
    obtain ⟨k1, k2, k3⟩ := g i (by omega)
    obtain ⟨b1, b2, b3⟩ := hb i (by omega)
    rw [oI_s]
    refine c_n (nI_pos (by omega)) ⟨vp_in_nI (by omega) (by decide), ?_⟩
    rw [nI_clamp (by omega), k3, k1, oI_dec]
    refine c_eq' rfl rfl (by omega) (by omega) (fun ey => ⟨vp_in_nI (by omega) (by decide), c_eq' rfl rfl (by omega) (by omega) (fun ec => ?_) (fun ec => ?_)⟩) (fun ey => ?_)
    · obtain ⟨a1, a2⟩ := hce i (by omega) ec
      exact ih i ⟨by omega, Or.inr ⟨Nat.le_refl _, by omega, a1, a2, ey⟩⟩
    · refine ih s ⟨by omega, ?_⟩
      rcases i2 with ⟨r1, r2⟩ | ⟨r1, r2, r3⟩
      · refine Or.inl ⟨r1, fun j q1 q2 q3 => ?_⟩
        by_cases hji : j = i
        · subst hji; exact ec (by rw [q3.1, q3.2.1])
        · exact r2 j (by omega) q2 q3
      · exact Or.inr ⟨by omega, r2, r3⟩
    · have hlow : ∀ j, j < i + 1 → ¬ mtc A p t N j := by
        intro j hj q
        by_cases hji : j = i
        · subst hji; exact ey q.2.2
        · have := hs j i (by omega) (by omega)
          have := q.2.2
          omega
      refine hfin s ?_ (fun q => ?_) (fun q => ?_)
      · rcases i2 with ⟨r1, r2⟩ | ⟨r1, r2, r3⟩ <;> omega
      · rcases i2 with ⟨r1, r2⟩ | ⟨r1, r2, r3⟩
        · omega
        · exact r3
      · rcases i2 with ⟨r1, r2⟩ | ⟨r1, r2, r3⟩
        · intro j hj q3
          by_cases hji : j < i + 1
          · exact hlow j hji q3
          · exact r2 j (by omega) hj q3
        · omega
