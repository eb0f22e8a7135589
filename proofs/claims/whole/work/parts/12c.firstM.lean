theorem ofI5 : Int32.ofInt 5 = nI 5 := rfl
/-- where the reference has its act: -1 none -/
def acI (a : Nat) : Int32 := if a = 0 then -1 else nI (3710 + 290 * (a - 1))
theorem M_actOf {m : Md} {A : Nat → Nat → Nat} {c y : Nat} (hw : Wf A c) (hm : MW (gA m 1) A) (hy : y < 400) {Q : Int32 → Md → Prop} (hQ : Q (acI (acA A y)) m) : qX12_actOf m (nI y) Q := by
  have b0 : A 50 0 < 400 := hw.1.1
  have b4 : A 54 0 ≤ 8 := hw.1.2.2.2.2.1
  have e4 : gA m 1 4 = nI (A 54 0) := hm.1.2.2.2.2.1
  unfold qX12_actOf
  refine pk_loop (fun k i (x : Nat) => qX12_actOf_4 Q k m (nI y) (acI x) (nI i)) (fun i x => x = lastF (fun _ => 0) (A 26) 0 y i) (A 54 0) 0 0 (by omega) rfl (fun k x hI => ?_) (fun k i x hi hI ih => ?_)
  · subst hI
    unfold qX12_actOf_4
    rw [nl_4, nI_clamp (by omega), e4]
    exact ⟨vp_in_nI (by decide) (by decide), c_y (nI_le (Nat.le_refl _) (by omega)) hQ⟩
  · have p1 := (hm.2.2.2.2.2.2.1 i hi).1
    have w1 := (hw.2.2.2.2.2.2.1 i hi).1
    have el : lastF (fun _ => 0) (A 26) 0 y (i + 1) = if (fun _ => 0) i = 0 ∧ A 26 i ≤ y then i + 1 else lastF (fun _ => 0) (A 26) 0 y i := rfl
    unfold qX12_actOf_4
    rw [nl_4, nI_clamp (by omega), e4]
    refine ⟨vp_in_nI (by decide) (by decide), c_n (nI_ge hi (by omega)) ?_⟩
    rw [nl_3710, nl_290, pk_mul, nI_add, nI_clamp (by omega), p1, ofI1, nI_add]
    refine ⟨vp_in_nI (by omega) (by decide), c_lt rfl rfl (by omega) (by omega) (fun e2 => ?_) (fun e2 => ?_)⟩
    · exact ih x (by rw [el, if_neg (fun h => by have := h.2; omega)]; exact hI)
    · have := ih (i + 1) (by rw [el, if_pos ⟨rfl, by omega⟩])
      unfold acI at this
      rw [if_neg (by omega), Nat.add_sub_cancel] at this; exact this
theorem M_partsOf {m : Md} {P p : Nat} {f : Nat → Nat} (hP : P ≤ 40) (e1 : gA m 1 1 = nI P) (h7 : ∀ j, j < P → gA m 7 j = oI (f j)) (hf : ∀ j, j < P → f j ≤ P) (hp : p < 40) {Q : Int32 → Md → Prop} (hQ : Q (nI (cntF (fun q => f q == p + 1) P)) m) : qX12_partsOf m (nI p) Q := by
  unfold qX12_partsOf
  refine pk_loop (fun k i (x : Nat) => qX12_partsOf_4 Q k m (nI p) (nI x) (nI i)) (fun i x => x = cntF (fun q => f q == p + 1) i) P 0 0 (by omega) rfl (fun k x hI => ?_) (fun k i x hi hI ih => ?_)
  · subst hI
    unfold qX12_partsOf_4
    rw [nl_1, nI_clamp (by omega), e1]
    exact ⟨vp_in_nI (by decide) (by decide), c_y (nI_le (Nat.le_refl _) (by omega)) hQ⟩
  · have ec : cntF (fun q => f q == p + 1) (i + 1) = cntF (fun q => f q == p + 1) i + (if f i == p + 1 then 1 else 0) := rfl
    have := hf i hi
    unfold qX12_partsOf_4 qX12_partsOf_30
    rw [nl_1, nl_0, nI_clamp (by omega), e1]
    refine ⟨vp_in_nI (by decide) (by decide), c_n (nI_ge hi (by omega)) ⟨vp_in_nI (by omega) (by decide), ?_⟩⟩
    rw [nI_clamp (by omega), h7 i hi, ofI1, nI_add, nI_add, nI_add]
    refine ⟨fun e => ih (x + 0) ?_, fun e => ih (x + 1) ?_⟩
    · rw [oI_eqn (by omega) (by omega)] at e
      rw [ec, beq_false_of_ne e, hI]; rfl
    · rw [oI_eqn (by omega) (by omega)] at e
      rw [ec, e, beq_self_eq_true, hI]; rfl
/-- what the reference has worked out at a place -/
def MLk (m : Md) (A : Nat → Nat → Nat) (f L : Nat → Nat) (p : Nat) : Prop := (∀ j, j < A 51 0 → gA m 7 j = oI (f j)) ∧ (∀ j, j < A 51 0 → f j ≤ A 51 0) ∧ (∀ t, t < 3 → gA m 9 (3 * p + t) = nI (L t)) ∧ ∀ t, t < 3 → L t ≤ 100000
def ptF (A : Nat → Nat → Nat) (f : Nat → Nat) (p : Nat) : Nat := cntF (fun q => f q == p + 1) (A 51 0)
theorem M_allL {m : Md} {L : Nat → Nat} {p : Nat} (hp : p < 40) (h9 : ∀ t, t < 3 → gA m 9 (3 * p + t) = nI (L t)) {Q : Int32 → Md → Prop} (hQ : Q (nI (L 0 + L 1 + L 2)) m) : qX12_allOf m (nI p) Q := by
  have h0 := h9 0 (by omega)
  have h1 := h9 1 (by omega)
  have h2 := h9 2 (by omega)
  rw [Nat.add_zero] at h0
  unfold qX12_allOf
  simp (disch := omega) only [h0, h1, h2, ofI1, nI_add, pk_mul, pk_sub, nI_clamp, imin_nI, imax_nI, nl_0, nl_1, nl_2, nl_3, nl_4, nl_5, nl_6, nl_7, nl_8, nl_9, nl_10, nl_11, nl_12, nl_13, nl_15, nl_16, nl_20, nl_24, nl_26, nl_30, nl_32, nl_36, nl_39, nl_40, nl_45, nl_48, nl_50, nl_57, nl_59, nl_60, nl_61, nl_62, nl_64, nl_72, nl_73, nl_80, nl_90, nl_97, nl_99, nl_100, nl_120, nl_122, nl_123, nl_127, nl_128, nl_199, nl_200, nl_255, nl_256, nl_290, nl_399, nl_400, nl_500, nl_512, nl_520, nl_600, nl_999, nl_1000, nl_2000, nl_9999, nl_10000, nl_14, nl_17, nl_18, nl_19, nl_21, nl_22, nl_23, nl_25, nl_27, nl_28, nl_29, nl_31, nl_33, nl_34, nl_35, nl_47, nl_51, nl_63, nl_110, nl_195, nl_240, nl_1370, nl_3710, nl_6030, nl_6690, nl_7490, nl_7610, nl_9170, nl_11570, gA_sF, gL_sF, gB_sF, gZ_sF, gO_sF, gX_sF, gF_sA, gL_sA, gB_sA, gZ_sA, gO_sA, gX_sA, gF_sL, gA_sL, gB_sL, gZ_sL, gO_sL, gX_sL, gF_sB, gA_sB, gL_sB, gZ_sB, gO_sB, gX_sB, gF_sZ, gA_sZ, gL_sZ, gB_sZ, gO_sZ, gX_sZ, gF_sO, gA_sO, gL_sO, gB_sO, gZ_sO, gX_sO, gF_sX, gA_sX, gL_sX, gB_sX, gZ_sX, gO_sX, gF_tA, gL_tA, gB_tA, gZ_tA, gO_tA, gX_tA, gF_tL, gA_tL, gB_tL, gZ_tL, gO_tL, gX_tL, gF_tB, gA_tB, gL_tB, gZ_tB, gO_tB, gX_tB, gF_tZ, gA_tZ, gL_tZ, gB_tZ, gO_tZ, gX_tZ, gF_sF, gA_sA, gL_sL, gB_sB, gZ_sZ, gO_sO, gX_sX, gA_tA, gL_tL, gB_tB, gZ_tZ, reduceIte, Nat.reduceEqDiff, Nat.zero_ne_one, Nat.one_ne_zero, Nat.succ_ne_self, forall_eq, vpT, cpyT, nI_leI, nI_ltI, nI_eq, nI_m1, oI_eqn, oI_eqm, va_up_ne', va_up_eq, eq_self_iff_true, true_or, or_true, true_implies, not_true_eq_false, not_false_eq_true, false_implies, and_true, true_and, forall_const, implies_true, ne_eq, Nat.add_sub_cancel, nI_pos, ite_self]
  exact hQ
theorem M_holdFor {m : Md} {A : Nat → Nat → Nat} {c a l p yr : Nat} {f L : Nat → Nat} (hw : Wf A c) (hm : MW (gA m 1) A) (hk : MLk m A f L p) (ha : a < A 54 0) (hl : l < A 27 a) (hp : p < 40) (hy : yr < 400) {Q : Int32 → Md → Prop} (hQ : Q (bI (hdB A (fcF L (ptF A f p) yr) (12 * a + l))) m) : qX12_holdFor m (nI (3710 + 290 * a + 2 + 24 * l)) (nI p) (nI yr) Q := by
  obtain ⟨k7, k7b, k9, kL⟩ := hk
  have e1 : gA m 1 1 = nI (A 51 0) := hm.1.2.1
  have b1 : A 51 0 ≤ 40 := hw.1.2.1
  have b4 : A 54 0 ≤ 8 := hw.1.2.2.2.2.1
  obtain ⟨-, w27, wl⟩ := hw.2.2.2.2.2.2.1 a ha
  obtain ⟨-, -, -, -, w31, wcd⟩ := wl l hl
  obtain ⟨-, -, -, q31, qc⟩ := (hm.2.2.2.2.2.2.1 a ha).2.2 l hl
  have hpt : ptF A f p ≤ 40 := by have := cntF_le (f := fun q => f q == p + 1) (A 51 0); show cntF _ _ ≤ 40; omega
  have hFl := fcF_lt (L := L) kL hpt hy
  have l0 := kL 0 (by omega)
  have l1 := kL 1 (by omega)
  have l2 := kL 2 (by omega)
  generalize hF : fcF L (ptF A f p) yr = F at *
  have hB : 3710 + 290 * a + 2 + 24 * l + 24 ≤ 6030 := by omega
  generalize hg : 12 * a + l = g at *
  generalize 3710 + 290 * a + 2 + 24 * l = B at *
  unfold qX12_holdFor
  rw [nl_4, nI_add]
  refine pk_loop (fun k i (z : Unit) => qX12_holdFor_5 Q k m (nI B) (nI p) (nI yr) (nI (B + 4 + 5 * i))) (fun i z => ∀ j, j < i → cdB A F (4 * g + j) = true) (A 31 g) 0 () (by omega) (fun j hj => by omega) (fun k z hI => ?_) (fun k i z hi hI ih => ?_)
  · unfold qX12_holdFor_5
    rw [nl_3, nl_4, nl_5, nI_add, nI_add, nI_clamp (by omega), q31, pk_mul, nI_add]
    have : hdB A F g = true := allF_t _ hI
    rw [this] at hQ
    exact ⟨vp_in_nI (by omega) (by decide), c_y (nI_le (Nat.le_refl _) (by omega)) hQ⟩
  · obtain ⟨c1, c2, c3, c4, c5⟩ := qc i hi
    have wq := wcd i hi
    obtain ⟨d1, d2, d3, d4, d5, d6⟩ := id wq
    have f6 := fct_lt wq
    have hFv := hFl _ f6
    generalize hq : 4 * g + i = q at *
    have hC : B + 4 + 5 * i + 5 ≤ B + 24 := by omega
    generalize hCe : B + 4 + 5 * i = C at *
    have hno : cdB A F q = false → Q 0 m := fun e => by
      have : hdB A F g = false := allF_f _ i hi (by show cdB A F (4 * g + i) = false; rw [hq]; exact e)
      rw [this] at hQ; exact hQ
    have hgo : cdB A F q = true → qX12_holdFor_5 Q k m (nI B) (nI p) (nI yr) (nI (C + 5)) := fun e => by
      have := ih () (fun j hj => by
        by_cases ej : j = i
        · rw [ej, hq]; exact e
        · exact hI j (by omega))
      rw [show B + 4 + 5 * (i + 1) = C + 5 by omega] at this
      exact this
    have k192 : ∀ b : Bool, isB (A 35 q) (F (fct A q)) (A 36 q) = b → qX12_holdFor_192 Q (qX12_holdFor_5 Q k) m (nI B) (nI p) (nI yr) (nI C) (bI b) := by
      intro b hb
      have ecd : cdB A F q = (b != (A 32 q == 1)) := by unfold cdB; rw [hb]
      unfold qX12_holdFor_192 qX12_holdFor_212
      rw [nI_clamp (by omega), c1, ofI5, nI_add]
      refine ⟨vp_in_nI (by omega) (by decide), c_eq' rfl nl_1 (by omega) (by decide) (fun e => ?_) (fun e => ?_)⟩
      · rw [e, show ((1 : Nat) == 1) = true from rfl] at ecd
        cases b
        · exact c_n' (by decide) (hgo ecd)
        · exact c_y' rfl (hno ecd)
      · rw [show (A 32 q == 1) = false from beq_false_of_ne e] at ecd
        cases b
        · exact c_y' rfl (hno ecd)
        · exact c_n' (by decide) (hgo ecd)
    have k109 : qX12_holdFor_109 Q (qX12_holdFor_5 Q k) m (nI B) (nI p) (nI yr) (nI C) (nI (F (fct A q))) := by
      generalize F (fct A q) = v at *
      unfold qX12_holdFor_109
      rw [nl_3, nl_4, nI_add, nI_add, nI_clamp (by omega), nI_clamp (by omega), c4, c5]
      refine ⟨vp_in_nI (by omega) (by decide), vp_in_nI (by omega) (by decide), c_eq' rfl nl_60 (by omega) (by decide) (fun e => c_le rfl rfl (by omega) (by omega) (fun h => k192 false ?_) (fun h => k192 true ?_)) (fun e => ⟨vp_in_nI (by omega) (by decide), c_eq' rfl nl_62 (by omega) (by decide) (fun e2 => c_le rfl rfl (by omega) (by omega) (fun h => k192 false ?_) (fun h => k192 true ?_)) (fun e2 => c_eq' rfl rfl (by omega) (by omega) (fun h => k192 true ?_) (fun h => k192 false ?_))⟩)⟩
      · unfold isB; rw [if_pos e]; exact decide_eq_false (by omega)
      · unfold isB; rw [if_pos e]; exact decide_eq_true (by omega)
      · unfold isB; rw [if_neg e, if_pos e2]; exact decide_eq_false (by omega)
      · unfold isB; rw [if_neg e, if_pos e2]; exact decide_eq_true (by omega)
      · unfold isB; rw [if_neg e, if_neg e2]; exact decide_eq_true h
      · unfold isB; rw [if_neg e, if_neg e2]; exact decide_eq_false h
    unfold qX12_holdFor_5
    rw [nl_3, nl_4, nl_5, nI_add, nI_add, nI_clamp (by omega), q31, pk_mul, nI_add]
    refine ⟨vp_in_nI (by omega) (by decide), c_n (nI_ge (by omega) (by omega)) ?_⟩
    refine M_allL hp k9 ?_
    rw [nl_1, nl_2, nI_add, nI_clamp (by omega), c2]
    refine ⟨vp_in_nI (by omega) (by decide), c_eq' rfl nl_0 (by omega) (by decide) (fun e => c_eq' rfl nl_0 (by omega) (by decide) (fun e2 => ?_) (fun e2 => ?_)) (fun e => c_eq' rfl rfl (by omega) (by decide) (fun e2 => ?_) (fun e2 => c_eq' rfl rfl (by omega) (by decide) (fun e3 => ?_) (fun e3 => ?_)))⟩
    · have ef : F (fct A q) = 0 := by
        rw [← hF]; unfold fcF fct; rw [if_pos e, if_pos (by omega), if_pos e2]
      rw [ef] at k109; exact k109
    · have ef : F (fct A q) = 100 * L (A 34 q) / (L 0 + L 1 + L 2) := by
        rw [← hF]; unfold fcF fct; rw [if_pos e, if_pos (by omega), if_neg e2, Nat.mul_comm]
      have lT := kL (A 34 q) (by omega)
      rw [nI_add, nI_clamp (by omega), c3, pk_mul, nI_add, nI_clamp (by omega), k9 _ (by omega), nl_100, pk_mul, pk_div (by omega) (by omega) (by omega), ← ef]
      exact ⟨vp_in_nI (by omega) (by decide), vp_in_nI (by omega) (by decide), by rw [show (0 : Int32) = nI 0 from rfl, nI_eq (by omega) (by decide)]; exact e2, k109⟩
    · have ef : F (fct A q) = L 0 + L 1 + L 2 := by
        rw [← hF]; unfold fcF fct; rw [if_neg e, if_neg (by omega), if_pos (by omega)]
      rw [ef] at k109; exact k109
    · have ef : F (fct A q) = ptF A f p := by
        rw [← hF]; unfold fcF fct; rw [if_neg e, if_neg (by omega), if_neg (by omega), if_pos (by omega)]
      rw [ef] at k109
      exact M_partsOf b1 e1 k7 k7b hp k109
    · have ef : F (fct A q) = yr := by
        rw [← hF]; unfold fcF fct; rw [if_neg e, if_neg (by omega), if_neg (by omega), if_neg (by omega)]
      rw [ef] at k109; exact k109
theorem mfo_z {L : Nat → Nat} {b : Nat} : ∀ i, mfo L b i = 0 → ∀ t, t < i → t + 1 = b := by
  intro i
  induction i with
  | zero => intro _ t ht; omega
  | succ i ih =>
    intro h t ht
    have h' : mstp L b (mfo L b i) i = 0 := h
    unfold mstp at h'
    by_cases e : i + 1 = b
    · rw [if_pos e] at h'
      by_cases et : t = i
      · rw [et]; exact e
      · exact ih h' t (by omega)
    · rw [if_neg e] at h'
      by_cases e0 : mfo L b i = 0
      · rw [if_pos e0] at h'; omega
      · rw [if_neg e0] at h'
        split at h' <;> omega
theorem M_most {m : Md} {L : Nat → Nat} {p b : Nat} (hp : p < 40) (hb : b ≤ 3) (h : ∀ t, t < 3 → gA m 9 (3 * p + t) = nI (L t)) (hL : ∀ t, t < 3 → L t ≤ 100000) {Q : Int32 → Md → Prop} (hQ : Q (nI (mostA L b)) m) : qX12_most m (nI p) (oI b) Q := by
  unfold qX12_most
  refine pk_loop (fun k i (s : Nat) => qX12_most_5 Q k m (nI p) (oI b) (oI s) (nI i)) (fun i s => s = mfo L b i) 3 0 0 (by omega) rfl (fun k s hI => ?_) (fun k i s hi hI ih => ?_)
  · unfold qX12_most_5
    have h0 : s ≠ 0 := by
      intro e
      rw [e] at hI
      have z := mfo_z 3 hI.symm
      have z0 := z 0 (by omega)
      have z1 := z 1 (by omega)
      omega
    rw [mostA_eq, ← hI, ← oI_pos (by omega)] at hQ
    exact c_y (by decide) hQ
  · have em : mfo L b (i + 1) = mstp L b s i := by show mstp L b (mfo L b i) i = _; rw [← hI]
    have s3 : s ≤ 3 := by rw [hI]; exact Nat.le_trans (mfo_le i (by omega)) (by omega)
    have si : s ≤ i := by rw [hI]; exact mfo_le i (by omega)
    have li := hL i hi
    have k46 : mfo L b (i + 1) = i + 1 → qX12_most_46 Q (qX12_most_5 Q k) m (nI p) (oI b) (nI i) := fun e => by
      unfold qX12_most_46
      rw [ofI1, nI_add]
      have := ih (i + 1) e.symm
      rw [oI_s] at this; exact this
    unfold qX12_most_5
    refine c_n (nI_ge (b := 3) hi (by decide)) ⟨fun e => ?_, fun e => ⟨fun e2 => k46 ?_, fun e2 => ?_⟩⟩
    · rw [eq_comm, oI_eqn (by omega) (by omega)] at e
      rw [ofI1, nI_add]
      exact ih s (by rw [em]; unfold mstp; rw [if_pos (by omega)])
    · have e' : ¬ i + 1 = b := fun q => e (by rw [eq_comm, oI_eqn (by omega) (by omega)]; omega)
      rw [oI_eqm (by omega)] at e2
      rw [em]; unfold mstp; rw [if_neg e', if_pos e2]
    · have e' : ¬ i + 1 = b := fun q => e (by rw [eq_comm, oI_eqn (by omega) (by omega)]; omega)
      have e2' : ¬ s = 0 := fun q => e2 (by rw [q]; rfl)
      have ls := hL (s - 1) (by omega)
      have ih' := ih s
      have em' : ¬ L (s - 1) < L i → s = mfo L b (i + 1) := fun q => by rw [em]; unfold mstp; rw [if_neg e', if_neg e2', if_neg q]
      rw [oI_pos (n := s) (by omega)] at ih' ⊢
      rw [nl_3, pk_mul, nI_add, nI_add, nI_clamp (by omega), nI_clamp (by omega), h i hi, h _ (by omega)]
      refine ⟨vp_in_nI (by omega) (by decide), vp_in_nI (by omega) (by decide), c_le rfl rfl (by omega) (by omega) (fun q => ?_) (fun q => k46 ?_)⟩
      · rw [ofI1, nI_add]; exact ih' (em' (by omega))
      · rw [em]; unfold mstp; rw [if_neg e', if_neg e2', if_pos (by omega)]
theorem M_firstOf {m : Md} {A : Nat → Nat → Nat} {c p u yr : Nat} {f L : Nat → Nat} (hw : Wf A c) (hm : MW (gA m 1) A) (hk : MLk m A f L p) (hp : p < 40) (hu : u < 400) (hy : yr < 400) {Q : Int32 → Md → Prop} (hQ : Q (nI (frA A (fcF L (ptF A f p) yr) L (acA A u))) m) : qX12_firstOf m (nI p) (nI u) (nI yr) Q := by
  have b4 : A 54 0 ≤ 8 := hw.1.2.2.2.2.1
  unfold qX12_firstOf
  refine M_actOf hw hm hu ?_
  have ha := acA_le (A := A) (y := u)
  generalize acA A u = a at *
  generalize hF : fcF L (ptF A f p) yr = F at *
  have k79 : fhA A F a 0 = 0 → qX12_firstOf_79 Q m (nI p) := fun e => by
    unfold qX12_firstOf_79
    unfold frA at hQ; rw [if_pos e] at hQ
    exact M_most (b := 0) hp (by omega) hk.2.2.1 hk.2.2.2 hQ
  by_cases h0 : a = 0
  · subst h0
    refine ⟨1, ?_⟩
    unfold qX12_firstOf_10
    exact c_y rfl (k79 rfl)
  obtain ⟨a, rfl⟩ : ∃ k, a = k + 1 := ⟨a - 1, by omega⟩
  have er : fhA A F (a + 1) 0 = fstF (fun l => (A 28 (12 * a + l) == 0) && hdB A F (12 * a + l)) (A 27 a) := by
    unfold fhA; rw [if_neg (by omega)]; rfl
  obtain ⟨-, w27, wl⟩ := hw.2.2.2.2.2.2.1 a (by omega)
  obtain ⟨-, q27, ql⟩ := hm.2.2.2.2.2.2.1 a (by omega)
  have eac : acI (a + 1) = nI (3710 + 290 * a) := by unfold acI; rw [if_neg (by omega), Nat.add_sub_cancel]
  rw [eac]
  refine pk_loop (fun k l (z : Unit) => qX12_firstOf_10 Q k m (nI p) (nI yr) (nI (3710 + 290 * a)) (nI l)) (fun l z => fstF (fun l => (A 28 (12 * a + l) == 0) && hdB A F (12 * a + l)) l = 0) (A 27 a) 0 () (by omega) rfl (fun k z hI => ?_) (fun k l z hl hI ih => ?_)
  · unfold qX12_firstOf_10
    refine c_n (nI_m1 (by omega)) ?_
    rw [nl_1, nI_add, nI_clamp (by omega), q27]
    exact ⟨vp_in_nI (by omega) (by decide), c_y (nI_le (Nat.le_refl _) (by omega)) (k79 (er.trans hI))⟩
  · obtain ⟨q28, q29, -⟩ := ql l hl
    have w28 := (wl l hl).1
    unfold qX12_firstOf_10
    refine c_n (nI_m1 (by omega)) ?_
    rw [nl_1, nI_add, nI_clamp (by omega), q27, nl_2, nl_24, pk_mul, nI_add, nI_add, nI_clamp (by omega), q28, nI_add, nI_clamp (by omega), ofI1, nI_add]
    refine ⟨vp_in_nI (by omega) (by decide), c_n (nI_ge hl (by omega)) ⟨vp_in_nI (by omega) (by decide), c_eq' rfl nl_0 (by omega) (by decide) (fun e => ?_) (fun e => ?_)⟩⟩
    · refine M_holdFor hw hm hk (by omega) hl hp hy ?_
      rw [hF]
      cases hb : hdB A F (12 * a + l) with
      | true =>
        have e := fstF_hit (f := fun l => (A 28 (12 * a + l) == 0) && hdB A F (12 * a + l)) hI (by show ((A 28 (12 * a + l) == 0) && hdB A F (12 * a + l)) = true; rw [e, hb]; rfl) (A 27 a) hl
        have e2 : frA A F L (a + 1) = A 29 (12 * a + l) := by
          unfold frA; rw [er, e, if_neg (by omega), Nat.add_sub_cancel, Nat.add_sub_cancel]
        rw [e2] at hQ
        exact b_1' ⟨vp_in_nI (by omega) (by decide), by rw [q29]; exact hQ⟩
      | false => exact b_0' (ih () (fstF_no hI (by show ((A 28 (12 * a + l) == 0) && hdB A F (12 * a + l)) = false; rw [hb, Bool.and_false])))
    · exact ih () (fstF_no hI (by show ((A 28 (12 * a + l) == 0) && hdB A F (12 * a + l)) = false; rw [beq_false_of_ne e, Bool.false_and]))
theorem M_besideOf {m : Md} {A : Nat → Nat → Nat} {c p u yr : Nat} {f L : Nat → Nat} (hw : Wf A c) (hm : MW (gA m 1) A) (hk : MLk m A f L p) (hp : p < 40) (hu : u < 400) (hy : yr < 400) {Q : Int32 → Md → Prop} (hQ : Q (oI (bsA A (fcF L (ptF A f p) yr) L (acA A u))) m) : qX12_besideOf m (nI p) (nI u) (nI yr) Q := by
  have b4 : A 54 0 ≤ 8 := hw.1.2.2.2.2.1
  unfold qX12_besideOf
  refine M_actOf hw hm hu ?_
  have ha := acA_le (A := A) (y := u)
  have k89 : ∀ b : Bool, (b = true ↔ fhA A (fcF L (ptF A f p) yr) (acA A u) 1 ≠ 0) → qX12_besideOf_89 Q m (nI p) (nI u) (nI yr) (bI b) := by
    intro b hb
    unfold qX12_besideOf_89
    have hfr := frA_lt hw (F := fcF L (ptF A f p) yr) (L := L) (a := acA A u) ha
    refine M_firstOf hw hm hk hp hu hy ?_
    rw [← oI_s (frA A (fcF L (ptF A f p) yr) L (acA A u))]
    have hmo := mostA_lt L (frA A (fcF L (ptF A f p) yr) L (acA A u) + 1)
    have hl := hk.2.2.2 _ hmo
    refine M_most hp (by omega) hk.2.2.1 hk.2.2.2 ?_
    cases b with
    | false =>
      have e : fhA A (fcF L (ptF A f p) yr) (acA A u) 1 = 0 := Classical.byContradiction (fun q => absurd (hb.mpr q) (by decide))
      unfold bsA at hQ; rw [if_pos e] at hQ
      exact c_y rfl hQ
    | true =>
      have e := hb.mp rfl
      unfold bsA at hQ; rw [if_neg e] at hQ
      refine c_n (by decide) ?_
      rw [nl_3, pk_mul, nI_add, nI_clamp (by omega), hk.2.2.1 _ hmo]
      refine ⟨vp_in_nI (by omega) (by decide), c_le rfl nl_0 (by omega) (by decide) (fun h => ?_) (fun h => ?_)⟩
      · rw [if_pos (by omega)] at hQ; exact hQ
      · rw [if_neg (by omega), oI_s] at hQ; exact hQ
  generalize acA A u = a at *
  generalize hF : fcF L (ptF A f p) yr = F at *
  by_cases h0 : a = 0
  · subst h0
    refine ⟨1, ?_⟩
    unfold qX12_besideOf_13
    exact c_y rfl (k89 false ⟨fun h => absurd h (by decide), fun h => absurd rfl h⟩)
  obtain ⟨a, rfl⟩ : ∃ k, a = k + 1 := ⟨a - 1, by omega⟩
  have er : fhA A F (a + 1) 1 = fstF (fun l => (A 28 (12 * a + l) == 1) && hdB A F (12 * a + l)) (A 27 a) := by
    unfold fhA; rw [if_neg (by omega)]; rfl
  obtain ⟨-, w27, wl⟩ := hw.2.2.2.2.2.2.1 a (by omega)
  obtain ⟨-, q27, ql⟩ := hm.2.2.2.2.2.2.1 a (by omega)
  have eac : acI (a + 1) = nI (3710 + 290 * a) := by unfold acI; rw [if_neg (by omega), Nat.add_sub_cancel]
  rw [eac]
  refine pk_loop (fun k l (z : Bool) => qX12_besideOf_13 Q k m (nI p) (nI u) (nI yr) (nI (3710 + 290 * a)) (bI z) (nI l)) (fun l z => z = true ↔ fstF (fun l => (A 28 (12 * a + l) == 1) && hdB A F (12 * a + l)) l ≠ 0) (A 27 a) 0 false (by omega) ⟨fun h => absurd h (by decide), fun h => absurd rfl h⟩ (fun k z hI => ?_) (fun k l z hl hI ih => ?_)
  · unfold qX12_besideOf_13
    refine c_n (nI_m1 (by omega)) ?_
    rw [nl_1, nI_add, nI_clamp (by omega), q27]
    exact ⟨vp_in_nI (by omega) (by decide), c_y (nI_le (Nat.le_refl _) (by omega)) (k89 z (by rw [er]; exact hI))⟩
  · obtain ⟨q28, -⟩ := ql l hl
    have w28 := (wl l hl).1
    have es : fstF (fun l => (A 28 (12 * a + l) == 1) && hdB A F (12 * a + l)) (l + 1) = if fstF (fun l => (A 28 (12 * a + l) == 1) && hdB A F (12 * a + l)) l = 0 then (if ((A 28 (12 * a + l) == 1) && hdB A F (12 * a + l)) = true then l + 1 else 0) else fstF (fun l => (A 28 (12 * a + l) == 1) && hdB A F (12 * a + l)) l := rfl
    unfold qX12_besideOf_13 qX12_besideOf_76 qX12_besideOf_80
    refine c_n (nI_m1 (by omega)) ?_
    rw [nl_1, nI_add, nI_clamp (by omega), q27, nl_2, nl_24, pk_mul, nI_add, nI_add, nI_clamp (by omega), q28, ofI1, nI_add]
    refine ⟨vp_in_nI (by omega) (by decide), c_n (nI_ge hl (by omega)) ?_⟩
    cases z with
    | true =>
      refine c_n' (by decide) (ih true ⟨fun _ => ?_, fun _ => rfl⟩)
      rw [es, if_neg (hI.mp rfl)]; exact hI.mp rfl
    | false =>
      have hz : fstF (fun l => (A 28 (12 * a + l) == 1) && hdB A F (12 * a + l)) l = 0 := Classical.byContradiction (fun q => absurd (hI.mpr q) (by decide))
      refine c_y' rfl ⟨vp_in_nI (by omega) (by decide), c_eq' rfl rfl (by omega) (by decide) (fun e => ?_) (fun e => ?_)⟩
      · refine M_holdFor hw hm hk (by omega) hl hp hy ?_
        rw [hF]
        cases hb : hdB A F (12 * a + l) with
        | true =>
          refine b_1' (ih true ⟨fun _ => ?_, fun _ => rfl⟩)
          rw [es, if_pos hz, e, hb]; simp
        | false =>
          refine b_0' (ih false ⟨fun h => absurd h (by decide), fun h => absurd ?_ h⟩)
          rw [es, if_pos hz, hb]; simp
      · refine ih false ⟨fun h => absurd h (by decide), fun h => absurd ?_ h⟩
        rw [es, if_pos hz, beq_false_of_ne e]; simp
