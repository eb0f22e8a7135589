/-- an event NOW: x = 0 undone, n + 1 the name n settled -/
def evtA (A : Nat → Nat → Nat) (p t x : Nat) : Nat → Nat → Nat := upc (upc (upc (upc (upc A 43 (A 59 0) p) 44 (A 59 0) t) 45 (A 59 0) x) 46 (A 59 0) (A 50 0)) 59 0 (A 59 0 + 1)
theorem evt_pre {A : Nat → Nat → Nat} {p t x : Nat} (p' t' y k : Nat) (hk : k ≤ A 59 0) : stkF (evtA A p t x 43) (evtA A p t x 44) (evtA A p t x 45) (evtA A p t x 46) p' t' y k = stkF (A 43) (A 44) (A 45) (A 46) p' t' y k := by
  show stkF (va_up (A 43) (A 59 0) p) (va_up (A 44) (A 59 0) t) (va_up (A 45) (A 59 0) x) (va_up (A 46) (A 59 0) (A 50 0)) p' t' y k = _
  exact stkF_c k (fun i hi => ⟨by rw [va_up_ne' _ _ (show i ≠ A 59 0 by omega)], fun _ => ⟨va_up_ne' _ _ (by omega), va_up_ne' _ _ (by omega), va_up_ne' _ _ (by omega)⟩⟩)
theorem evt_stk (A : Nat → Nat → Nat) (p t x p' t' y : Nat) : stkA (evtA A p t x) p' t' y = if p = p' ∧ t = t' ∧ A 50 0 ≤ y then (if x = 0 then (stkA A p' t' y).tail else (x - 1) :: stkA A p' t' y) else stkA A p' t' y := by
  have e := evt_pre (A := A) (p := p) (t := t) (x := x) p' t' y (A 59 0) (Nat.le_refl _)
  show stkF (va_up (A 43) (A 59 0) p) (va_up (A 44) (A 59 0) t) (va_up (A 45) (A 59 0) x) (va_up (A 46) (A 59 0) (A 50 0)) p' t' y (A 59 0 + 1) = _
  unfold stkF
  rw [va_up_eq, va_up_eq, va_up_eq, va_up_eq]
  have e' : stkF (va_up (A 43) (A 59 0) p) (va_up (A 44) (A 59 0) t) (va_up (A 45) (A 59 0) x) (va_up (A 46) (A 59 0) (A 50 0)) p' t' y (A 59 0) = stkA A p' t' y := e
  rw [e']
theorem cntF_c {f g : Nat → Bool} : ∀ k, (∀ i, i < k → f i = g i) → cntF f k = cntF g k := by
  intro k
  induction k with
  | zero => intro _; rfl
  | succ k ih => intro h; show cntF f k + _ = cntF g k + _; rw [ih (fun i hi => h i (by omega)), h k (by omega)]
theorem evt_cnt (A : Nat → Nat → Nat) (p t x : Nat) : cntF (fun k => evtA A p t x 45 k != 0) (A 59 0 + 1) = cntF (fun k => A 45 k != 0) (A 59 0) + (if x = 0 then 0 else 1) := by
  show cntF (fun k => va_up (A 45) (A 59 0) x k != 0) (A 59 0) + (if (va_up (A 45) (A 59 0) x (A 59 0) != 0) = true then 1 else 0) = _
  rw [va_up_eq]
  congr 1
  · exact cntF_c _ (fun i hi => by rw [va_up_ne' _ _ (show i ≠ A 59 0 by omega)])
  · by_cases h : x = 0
    · rw [h]; rfl
    · rw [if_neg h, show (x != 0) = true from bne_iff_ne.mpr h, if_pos rfl]
theorem evt_Wf {A : Nat → Nat → Nat} {c p t x : Nat} (hw : Wf A c) (hc : c + 1 ≤ 512) (hp : p < A 51 0) (ht : t < 3) (hx : x ≤ A 52 0) (h0 : x = 0 → stkA A p t (A 50 0) ≠ []) (h1 : x ≠ 0 → cntF (fun k => A 45 k != 0) (A 59 0) + 1 + cntF (fun h => A 38 h == 1) (A 55 0) ≤ A 55 0) : Wf (evtA A p t x) (c + 1) := by
  have b0 : A 50 0 < 400 := hw.1.1
  obtain ⟨⟨w0, w1, w2, w3, w4, w5, w6, w7, w8, w9, wc⟩, v1, ⟨v2, v2b, v2c⟩, ⟨v3, v3b, v3c⟩, v4, v5, v6, v7, v8, ⟨v9, v9b, v9c⟩⟩ := id hw; refine ⟨⟨w0, w1, w2, w3, w4, w5, w6, w7, by show A 58 0 ≤ c + 1; omega, by show A 59 0 + 1 ≤ c + 1; omega, hc⟩, v1, ⟨v2, v2b, v2c⟩, ⟨v3, v3b, v3c⟩, v4, v5, v6, ⟨v7.1, ?_⟩, v8, ⟨?_, ?_, ?_⟩⟩
  · show cntF (fun k => evtA A p t x 45 k != 0) (A 59 0 + 1) + cntF (fun h => A 38 h == 1) (A 55 0) ≤ A 55 0
    rw [evt_cnt]
    by_cases h : x = 0
    · rw [if_pos h]; have := v7.2; omega
    · rw [if_neg h]; have := h1 h; omega
  · intro k hk
    have hk' : k < A 59 0 + 1 := hk
    show va_up (A 43) (A 59 0) p k < A 51 0 ∧ va_up (A 44) (A 59 0) t k < 3 ∧ va_up (A 45) (A 59 0) x k ≤ A 52 0 ∧ va_up (A 46) (A 59 0) (A 50 0) k ≤ A 50 0
    by_cases e : k = A 59 0
    · rw [e, va_up_eq, va_up_eq, va_up_eq, va_up_eq]; exact ⟨hp, ht, hx, Nat.le_refl _⟩
    · rw [va_up_ne' _ _ e, va_up_ne' _ _ e, va_up_ne' _ _ e, va_up_ne' _ _ e]; exact v9 k (by omega)
  · intro i j hij hj
    have hj' : j < A 59 0 + 1 := hj
    show va_up (A 46) (A 59 0) (A 50 0) i ≤ va_up (A 46) (A 59 0) (A 50 0) j
    rw [va_up_ne' _ _ (show i ≠ A 59 0 by omega)]
    by_cases e : j = A 59 0
    · rw [e, va_up_eq]; exact (v9 i (by omega)).2.2.2
    · rw [va_up_ne' _ _ e]; exact v9b i j hij (by omega)
  · intro k hk hk0
    have hk' : k < A 59 0 + 1 := hk
    rw [evt_pre _ _ _ k (by omega)]
    have hk0' : va_up (A 45) (A 59 0) x k = 0 := hk0
    show stkF _ _ _ _ (va_up (A 43) (A 59 0) p k) (va_up (A 44) (A 59 0) t k) 400 k ≠ []
    by_cases e : k = A 59 0
    · rw [e, va_up_eq] at hk0'
      rw [e, va_up_eq, va_up_eq]
      have h2 := h0 hk0'
      rw [← (hw.hi (y := 400) (by omega)).2.2.2.2 p t] at h2
      exact h2
    · rw [va_up_ne' _ _ e] at hk0'
      rw [va_up_ne' _ _ e, va_up_ne' _ _ e]
      exact v9c k (by omega) hk0'
theorem evt_low {A : Nat → Nat → Nat} {p t x : Nat} (y : Nat) (hy : y < A 50 0) : Alike (evtA A p t x) A y := by
  refine ⟨rfl, rfl, fun _ => rfl, rfl, fun p' t' => ?_⟩
  rw [evt_stk, if_neg (by omega)]
theorem M_event {m : Md} {A : Nat → Nat → Nat} {c p t x : Nat} (hw : Wf A c) (hc : c + 1 ≤ 512) (hm : MW (gA m 1) A) {Q : Md → Prop} (hQ : ∀ m', Fr [(1, 1)] m m' → MW (gA m' 1) (evtA A p t x) → Q m') : qX12_event m (nI p) (nI t) (oI x) Q := by
  have e0 : gA m 1 0 = nI (A 50 0) := hm.1.1
  have e9 : gA m 1 9 = nI (A 59 0) := hm.1.2.2.2.2.2.2.2.2.2
  have b9 : A 59 0 ≤ c := hw.1.2.2.2.2.2.2.2.2.2.1
  unfold qX12_event qX12_now
  simp (disch := omega) only [e9, e0, ofI1, nI_add, pk_mul, pk_sub, nI_clamp, imin_nI, imax_nI, nl_0, nl_1, nl_2, nl_3, nl_4, nl_5, nl_6, nl_7, nl_8, nl_9, nl_10, nl_11, nl_12, nl_13, nl_15, nl_16, nl_20, nl_24, nl_26, nl_30, nl_32, nl_36, nl_39, nl_40, nl_45, nl_48, nl_50, nl_57, nl_59, nl_60, nl_61, nl_62, nl_64, nl_72, nl_73, nl_80, nl_90, nl_97, nl_99, nl_100, nl_120, nl_122, nl_123, nl_127, nl_128, nl_199, nl_200, nl_255, nl_256, nl_290, nl_399, nl_400, nl_500, nl_512, nl_520, nl_600, nl_999, nl_1000, nl_2000, nl_9999, nl_10000, nl_14, nl_17, nl_18, nl_19, nl_21, nl_22, nl_23, nl_25, nl_27, nl_28, nl_29, nl_31, nl_33, nl_34, nl_35, nl_47, nl_51, nl_63, nl_110, nl_195, nl_240, nl_1370, nl_3710, nl_6030, nl_6690, nl_7490, nl_7610, nl_9170, nl_11570, gA_sF, gL_sF, gB_sF, gZ_sF, gO_sF, gX_sF, gF_sA, gL_sA, gB_sA, gZ_sA, gO_sA, gX_sA, gF_sL, gA_sL, gB_sL, gZ_sL, gO_sL, gX_sL, gF_sB, gA_sB, gL_sB, gZ_sB, gO_sB, gX_sB, gF_sZ, gA_sZ, gL_sZ, gB_sZ, gO_sZ, gX_sZ, gF_sO, gA_sO, gL_sO, gB_sO, gZ_sO, gX_sO, gF_sX, gA_sX, gL_sX, gB_sX, gZ_sX, gO_sX, gF_tA, gL_tA, gB_tA, gZ_tA, gO_tA, gX_tA, gF_tL, gA_tL, gB_tL, gZ_tL, gO_tL, gX_tL, gF_tB, gA_tB, gL_tB, gZ_tB, gO_tB, gX_tB, gF_tZ, gA_tZ, gL_tZ, gB_tZ, gO_tZ, gX_tZ, gF_sF, gA_sA, gL_sL, gB_sB, gZ_sZ, gO_sO, gX_sX, gA_tA, gL_tL, gB_tB, gZ_tZ, reduceIte, Nat.reduceEqDiff, Nat.zero_ne_one, Nat.one_ne_zero, Nat.succ_ne_self, forall_eq, vpT, cpyT, nI_leI, nI_ltI, nI_eq, nI_m1, oI_eqn, oI_eqm, va_up_ne', va_up_eq, eq_self_iff_true, true_or, or_true, true_implies, not_true_eq_false, not_false_eq_true, false_implies, and_true, true_and, forall_const, implies_true, ne_eq, Nat.add_sub_cancel, nI_pos, ite_self]
  generalize hm' : tA (tA (tA (tA (tA m 1 _ _) 1 _ _) 1 _ _) 1 _ _) 1 _ _ = m'
  have hV : gA m' 1 = va_up (va_up (va_up (va_up (va_up (gA m 1) (9170 + 4 * A 59 0) (nI p)) (9170 + 4 * A 59 0 + 1) (nI t)) (9170 + 4 * A 59 0 + 2) (oI x)) (9170 + 4 * A 59 0 + 3) (nI (A 50 0))) 9 (nI (A 59 0 + 1)) := by
    rw [← hm']; simp (disch := omega) only [ofI1, nI_add, pk_mul, pk_sub, nI_clamp, imin_nI, imax_nI, nl_0, nl_1, nl_2, nl_3, nl_4, nl_5, nl_6, nl_7, nl_8, nl_9, nl_10, nl_11, nl_12, nl_13, nl_15, nl_16, nl_20, nl_24, nl_26, nl_30, nl_32, nl_36, nl_39, nl_40, nl_45, nl_48, nl_50, nl_57, nl_59, nl_60, nl_61, nl_62, nl_64, nl_72, nl_73, nl_80, nl_90, nl_97, nl_99, nl_100, nl_120, nl_122, nl_123, nl_127, nl_128, nl_199, nl_200, nl_255, nl_256, nl_290, nl_399, nl_400, nl_500, nl_512, nl_520, nl_600, nl_999, nl_1000, nl_2000, nl_9999, nl_10000, nl_14, nl_17, nl_18, nl_19, nl_21, nl_22, nl_23, nl_25, nl_27, nl_28, nl_29, nl_31, nl_33, nl_34, nl_35, nl_47, nl_51, nl_63, nl_110, nl_195, nl_240, nl_1370, nl_3710, nl_6030, nl_6690, nl_7490, nl_7610, nl_9170, nl_11570, gA_sF, gL_sF, gB_sF, gZ_sF, gO_sF, gX_sF, gF_sA, gL_sA, gB_sA, gZ_sA, gO_sA, gX_sA, gF_sL, gA_sL, gB_sL, gZ_sL, gO_sL, gX_sL, gF_sB, gA_sB, gL_sB, gZ_sB, gO_sB, gX_sB, gF_sZ, gA_sZ, gL_sZ, gB_sZ, gO_sZ, gX_sZ, gF_sO, gA_sO, gL_sO, gB_sO, gZ_sO, gX_sO, gF_sX, gA_sX, gL_sX, gB_sX, gZ_sX, gO_sX, gF_tA, gL_tA, gB_tA, gZ_tA, gO_tA, gX_tA, gF_tL, gA_tL, gB_tL, gZ_tL, gO_tL, gX_tL, gF_tB, gA_tB, gL_tB, gZ_tB, gO_tB, gX_tB, gF_tZ, gA_tZ, gL_tZ, gB_tZ, gO_tZ, gX_tZ, gF_sF, gA_sA, gL_sL, gB_sB, gZ_sZ, gO_sO, gX_sX, gA_tA, gL_tL, gB_tB, gZ_tZ, reduceIte, Nat.reduceEqDiff, Nat.zero_ne_one, Nat.one_ne_zero, Nat.succ_ne_self, forall_eq, vpT, cpyT, nI_leI, nI_ltI, nI_eq, nI_m1, oI_eqn, oI_eqm, va_up_ne', va_up_eq, eq_self_iff_true, true_or, or_true, true_implies, not_true_eq_false, not_false_eq_true, false_implies, and_true, true_and, forall_const, implies_true, ne_eq, Nat.add_sub_cancel, nI_pos, ite_self]
  have hv : ∀ k, k ≠ 9 → (k < 9170 + 4 * A 59 0 ∨ 9170 + 4 * A 59 0 + 3 < k) → gA m' 1 k = gA m 1 k := fun k q1 q2 => by rw [hV, va_up_ne' _ _ q1, va_up_ne' _ _ (by omega), va_up_ne' _ _ (by omega), va_up_ne' _ _ (by omega), va_up_ne' _ _ (by omega)]
  refine hQ m' (by rw [← hm']; exact Fr.tr (Fr.tr (Fr.tr (Fr.tr (Fr.tA 1 _ _ (by decide)) (Fr.tA 1 _ _ (by decide))) (Fr.tA 1 _ _ (by decide))) (Fr.tA 1 _ _ (by decide))) (Fr.tA 1 _ _ (by decide))) ?_
  obtain ⟨⟨k0, k1, k2, k3, k4, k5, k6, k7, k8, k9⟩, h1, h2, h3, h4, h5, h6, h7, h8, h9⟩ := id hm; obtain ⟨⟨w0, w1, w2, w3, w4, w5, w6, w7, w8, w9, wc⟩, -, -, -, wn, ws, wa, -⟩ := id hw; refine ⟨⟨(hv 0 (by omega) (by omega)).trans k0, (hv 1 (by omega) (by omega)).trans k1, (hv 2 (by omega) (by omega)).trans k2, (hv 3 (by omega) (by omega)).trans k3, (hv 4 (by omega) (by omega)).trans k4, (hv 5 (by omega) (by omega)).trans k5, (hv 6 (by omega) (by omega)).trans k6, (hv 7 (by omega) (by omega)).trans k7, (hv 8 (by omega) (by omega)).trans k8, by rw [hV]; rfl⟩, h1.w w1 (fun k _ _ => hv k (by omega) (by omega)), h2.w (by omega) (fun k _ _ => hv k (by omega) (by omega)), h3.w w6 (fun k _ _ => hv k (by omega) (by omega)), h4.w w2 wn (fun k _ _ => hv k (by omega) (by omega)), h5.w w3 ws (fun k _ _ => hv k (by omega) (by omega)), h6.w w4 wa (fun k _ _ => hv k (by omega) (by omega)), h7.w w5 (fun k _ _ => hv k (by omega) (by omega)), h8.w w7 (fun k _ _ => hv k (by omega) (by omega)), ?_⟩
  intro k hk
  have hk' : k < A 59 0 + 1 := hk
  show _ = nI (va_up (A 43) (A 59 0) p k) ∧ _ = nI (va_up (A 44) (A 59 0) t k) ∧ _ = oI (va_up (A 45) (A 59 0) x k) ∧ _ = nI (va_up (A 46) (A 59 0) (A 50 0) k)
  by_cases e : k = A 59 0
  · subst e; rw [hV]; simp (disch := omega) only [ofI1, nI_add, pk_mul, pk_sub, nI_clamp, imin_nI, imax_nI, nl_0, nl_1, nl_2, nl_3, nl_4, nl_5, nl_6, nl_7, nl_8, nl_9, nl_10, nl_11, nl_12, nl_13, nl_15, nl_16, nl_20, nl_24, nl_26, nl_30, nl_32, nl_36, nl_39, nl_40, nl_45, nl_48, nl_50, nl_57, nl_59, nl_60, nl_61, nl_62, nl_64, nl_72, nl_73, nl_80, nl_90, nl_97, nl_99, nl_100, nl_120, nl_122, nl_123, nl_127, nl_128, nl_199, nl_200, nl_255, nl_256, nl_290, nl_399, nl_400, nl_500, nl_512, nl_520, nl_600, nl_999, nl_1000, nl_2000, nl_9999, nl_10000, nl_14, nl_17, nl_18, nl_19, nl_21, nl_22, nl_23, nl_25, nl_27, nl_28, nl_29, nl_31, nl_33, nl_34, nl_35, nl_47, nl_51, nl_63, nl_110, nl_195, nl_240, nl_1370, nl_3710, nl_6030, nl_6690, nl_7490, nl_7610, nl_9170, nl_11570, gA_sF, gL_sF, gB_sF, gZ_sF, gO_sF, gX_sF, gF_sA, gL_sA, gB_sA, gZ_sA, gO_sA, gX_sA, gF_sL, gA_sL, gB_sL, gZ_sL, gO_sL, gX_sL, gF_sB, gA_sB, gL_sB, gZ_sB, gO_sB, gX_sB, gF_sZ, gA_sZ, gL_sZ, gB_sZ, gO_sZ, gX_sZ, gF_sO, gA_sO, gL_sO, gB_sO, gZ_sO, gX_sO, gF_sX, gA_sX, gL_sX, gB_sX, gZ_sX, gO_sX, gF_tA, gL_tA, gB_tA, gZ_tA, gO_tA, gX_tA, gF_tL, gA_tL, gB_tL, gZ_tL, gO_tL, gX_tL, gF_tB, gA_tB, gL_tB, gZ_tB, gO_tB, gX_tB, gF_tZ, gA_tZ, gL_tZ, gB_tZ, gO_tZ, gX_tZ, gF_sF, gA_sA, gL_sL, gB_sB, gZ_sZ, gO_sO, gX_sX, gA_tA, gL_tL, gB_tB, gZ_tZ, reduceIte, Nat.reduceEqDiff, Nat.zero_ne_one, Nat.one_ne_zero, Nat.succ_ne_self, forall_eq, vpT, cpyT, nI_leI, nI_ltI, nI_eq, nI_m1, oI_eqn, oI_eqm, va_up_ne', va_up_eq, eq_self_iff_true, true_or, or_true, true_implies, not_true_eq_false, not_false_eq_true, false_implies, and_true, true_and, forall_const, implies_true, ne_eq, Nat.add_sub_cancel, nI_pos, ite_self]
  · rw [hv _ (by omega) (by omega), hv _ (by omega) (by omega), hv _ (by omega) (by omega), hv _ (by omega) (by omega), va_up_ne' _ _ e, va_up_ne' _ _ e, va_up_ne' _ _ e, va_up_ne' _ _ e]
    exact h9 k (by omega)
theorem stkC_c {na pl to yr un na' pl' to' yr' un' : Nat → Nat} {p t y : Nat} : ∀ n, (∀ i, i < n → (mts pl to yr un p t y i ↔ mts pl' to' yr' un' p t y i) ∧ na i = na' i) → stkC na pl to yr un p t y n = stkC na' pl' to' yr' un' p t y n := by
  intro n
  induction n with
  | zero => intro _; rfl
  | succ n ih =>
    intro h
    have h1 := ih (fun i hi => h i (by omega))
    obtain ⟨h2, h3⟩ := h n (by omega)
    show (if pl n = p ∧ to n = t ∧ yr n ≤ y ∧ y < un n then na n :: stkC na pl to yr un p t y n else stkC na pl to yr un p t y n) = (if pl' n = p ∧ to' n = t ∧ yr' n ≤ y ∧ y < un' n then na' n :: stkC na' pl' to' yr' un' p t y n else stkC na' pl' to' yr' un' p t y n)
    rw [h1, h3]
    by_cases q : mts pl to yr un p t y n
    · rw [if_pos (show pl n = p ∧ to n = t ∧ yr n ≤ y ∧ y < un n from q), if_pos (show pl' n = p ∧ to' n = t ∧ yr' n ≤ y ∧ y < un' n from h2.mp q)]
    · rw [if_neg (show ¬ (pl n = p ∧ to n = t ∧ yr n ≤ y ∧ y < un n) from q), if_neg (show ¬ (pl' n = p ∧ to' n = t ∧ yr' n ≤ y ∧ y < un' n) from fun z => q (h2.mpr z))]
theorem N_undoLast {bd : Md} {A : Nat → Nat → Nat} {c p t : Nat} (hw : Wf A c) (h : Nbd bd A) (hp : p < A 51 0) (ht : t < 3) {Q : Int32 → Md → Prop} (h0 : stkA A p t (A 50 0) = [] → Q 0 bd) (h1 : stkA A p t (A 50 0) ≠ [] → ∀ bd', Nbd bd' (evtA A p t 0) → Q 1 bd') : qX1_undoLast bd (nI p) (nI t) (nI (A 50 0)) Q := by
  obtain ⟨hh, n, na, pl, to, yr, un, n1, n2, n3, n4⟩ := h
  have b0 : A 50 0 < 400 := hw.1.1
  have b1 : A 51 0 ≤ 40 := hw.1.2.1
  have n60 : n ≤ 60 := by rw [n1]; exact Nse.c60 hw
  unfold qX1_undoLast
  have e4 := n4 p t (A 50 0) b0
  refine N_settlingAt (na := na) n60 n2 (fun i hi => by obtain ⟨a1, a2, a3, a4, a5, a6, a7, a8, a9, a10, a11⟩ := n3 i hi; exact ⟨by omega, a3, by omega, a5, a8, a9, a10, a11⟩) (by omega) ht b0 (fun e => ?_) (fun i hi hmt hno => ?_)
  · exact c_y' rfl (h0 (by rw [← e4]; exact e))
  · rw [stkC_hd hi hmt hno] at e4
    refine c_n' (nI_m1 (by omega)) ⟨vp_in_nI (by omega) (by decide), fun w hw' => ?_⟩
    have g11 : gA w 11 = va_up (gA bd 11) i (nI (A 50 0)) := by
      rw [hw']; simp (disch := omega) only [ofI1, nI_add, pk_mul, pk_sub, nI_clamp, imin_nI, imax_nI, nl_0, nl_1, nl_2, nl_3, nl_4, nl_5, nl_6, nl_7, nl_8, nl_9, nl_10, nl_11, nl_12, nl_13, nl_15, nl_16, nl_20, nl_24, nl_26, nl_30, nl_32, nl_36, nl_39, nl_40, nl_45, nl_48, nl_50, nl_57, nl_59, nl_60, nl_61, nl_62, nl_64, nl_72, nl_73, nl_80, nl_90, nl_97, nl_99, nl_100, nl_120, nl_122, nl_123, nl_127, nl_128, nl_199, nl_200, nl_255, nl_256, nl_290, nl_399, nl_400, nl_500, nl_512, nl_520, nl_600, nl_999, nl_1000, nl_2000, nl_9999, nl_10000, nl_14, nl_17, nl_18, nl_19, nl_21, nl_22, nl_23, nl_25, nl_27, nl_28, nl_29, nl_31, nl_33, nl_34, nl_35, nl_47, nl_51, nl_63, nl_110, nl_195, nl_240, nl_1370, nl_3710, nl_6030, nl_6690, nl_7490, nl_7610, nl_9170, nl_11570, gA_sF, gL_sF, gB_sF, gZ_sF, gO_sF, gX_sF, gF_sA, gL_sA, gB_sA, gZ_sA, gO_sA, gX_sA, gF_sL, gA_sL, gB_sL, gZ_sL, gO_sL, gX_sL, gF_sB, gA_sB, gL_sB, gZ_sB, gO_sB, gX_sB, gF_sZ, gA_sZ, gL_sZ, gB_sZ, gO_sZ, gX_sZ, gF_sO, gA_sO, gL_sO, gB_sO, gZ_sO, gX_sO, gF_sX, gA_sX, gL_sX, gB_sX, gZ_sX, gO_sX, gF_tA, gL_tA, gB_tA, gZ_tA, gO_tA, gX_tA, gF_tL, gA_tL, gB_tL, gZ_tL, gO_tL, gX_tL, gF_tB, gA_tB, gL_tB, gZ_tB, gO_tB, gX_tB, gF_tZ, gA_tZ, gL_tZ, gB_tZ, gO_tZ, gX_tZ, gF_sF, gA_sA, gL_sL, gB_sB, gZ_sZ, gO_sO, gX_sX, gA_tA, gL_tL, gB_tB, gZ_tZ, reduceIte, Nat.reduceEqDiff, Nat.zero_ne_one, Nat.one_ne_zero, Nat.succ_ne_self, forall_eq, vpT, cpyT, nI_leI, nI_ltI, nI_eq, nI_m1, oI_eqn, oI_eqm, va_up_ne', va_up_eq, eq_self_iff_true, true_or, or_true, true_implies, not_true_eq_false, not_false_eq_true, false_implies, and_true, true_and, forall_const, implies_true, ne_eq, Nat.add_sub_cancel, nI_pos, ite_self]
    have fw : Fr [(1, 11)] bd w := by rw [hw']; exact Fr.tA 11 _ _ (by decide)
    refine h1 (by rw [← e4]; exact List.cons_ne_nil _ _) w ⟨?_, n, na, pl, to, yr, va_up un i (A 50 0), ?_, (fw.1 6 (by decide)).trans n2, fun j hj => ?_, fun p' t' y hy => ?_⟩
    · unfold Nhe at hh ⊢
      rw [fw.1 0 (by decide), fw.2.1 1 (by decide), fw.2.1 2 (by decide), fw.2.2.2.2.1 3 (by decide), fw.2.1 4 (by decide), fw.2.1 5 (by decide)]
      exact hh
    · show n = cntF (fun k => evtA A p t 0 45 k != 0) (A 59 0 + 1)
      rw [evt_cnt]; exact n1
    · obtain ⟨a1, a2, a3, a4, a5, a6, a7, a8, a9, a10, a11⟩ := n3 j hj
      rw [fw.2.1 7 (by decide), fw.2.1 8 (by decide), fw.2.1 9 (by decide), fw.2.1 10 (by decide), g11]
      refine ⟨a1, a2, a3, a4, ?_, ?_, a7, a8, a9, a10, ?_⟩
      · by_cases e : j = i
        · rw [e, va_up_eq]; omega
        · rw [va_up_ne' _ _ e]; exact a5
      · show va_up un i (A 50 0) j ≤ A 50 0 ∨ va_up un i (A 50 0) j = 400
        by_cases e : j = i
        · rw [e, va_up_eq]; exact Or.inl (Nat.le_refl _)
        · rw [va_up_ne' _ _ e]; exact a6
      · by_cases e : j = i
        · rw [e, va_up_eq, va_up_eq]
        · rw [va_up_ne' _ _ e, va_up_ne' _ _ e]; exact a11
    · rw [evt_stk]
      obtain ⟨m1, m2, m3, m4⟩ := hmt
      have hui : un i = 400 := by have := (n3 i hi).2.2.2.2.2.1; omega
      have hsame : ∀ j, j ≠ i → (mts pl to yr un p' t' y j ↔ mts pl to yr (va_up un i (A 50 0)) p' t' y j) := fun j hj => by
        unfold mts; rw [va_up_ne' _ _ hj]
      by_cases hc : p = p' ∧ t = t' ∧ A 50 0 ≤ y
      · obtain ⟨rfl, rfl, hc⟩ := hc
        rw [if_pos ⟨rfl, rfl, hc⟩, if_pos rfl, ← n4 p t y hy]
        have hno' : ∀ j, i < j → j < n → ¬ mts pl to yr un p t y j := fun j q1 q2 q3 => by
          apply hno j q1 q2
          refine ⟨q3.1, q3.2.1, (n3 j q2).2.2.2.1, ?_⟩
          have := q3.2.2.2; omega
        rw [stkC_hd hi ⟨m1, m2, by have := (n3 i hi).2.2.2.1; omega, by omega⟩ hno', List.tail_cons, stkC_up (i := i) n (by omega) (fun j q1 q2 q3 => ?_)]
        · exact stkC_c i (fun j hj => ⟨(hsame j (by omega)).symm, rfl⟩)
        · by_cases e : j = i
          · rw [e] at q3; have := q3.2.2.2; rw [va_up_eq] at this; omega
          · exact hno' j (by omega) q2 ((hsame j e).mpr q3)
      · rw [if_neg hc, ← n4 p' t' y hy]
        refine stkC_c n (fun j hj => ⟨?_, rfl⟩)
        by_cases e : j = i
        · rw [e]; unfold mts; rw [va_up_eq, hui, m1, m2]
          constructor
          · intro q; exact ⟨q.1, q.2.1, q.2.2.1, by omega⟩
          · intro q; exact ⟨q.1, q.2.1, q.2.2.1, Nat.lt_of_not_le (fun h => hc ⟨q.1, q.2.1, h⟩)⟩
        · exact (hsame j e).symm
theorem sim_undo {c : Nat} (hc : c + 1 ≤ 512) {nb m st la sp ac bd sg : Md} (hR : RW c m st la sp ac bd sg) {x1 x2 : Int32} {Q : Int32 → Md → Md → Md → Md → Int32 → Md → Prop} (hQ : ∀ r st' bd' m', RW (c + 1) m' st' la sp ac bd' sg → Fr [(1, 1), (1, 28)] m m' → Q r nb st' la bd' r m') : qX11_undo nb st la bd x1 x2 (fun r nb' st' la' bd' => qX12_undo m x1 x2 (fun r' m' => Q r nb' st' la' bd' r' m')) := by
  obtain ⟨A, hm, hw, hs, hn⟩ := id hR
  have hR1 := hR.up hc
  have e0 : gA m 1 0 = nI (A 50 0) := hm.1.1
  have e1 : gA m 1 1 = nI (A 51 0) := hm.1.2.1
  have s1 : gF la 0 = nI (A 51 0) := hn.1.1.1
  have s0 : gF st 0 = nI (A 50 0) := hs.1
  have b0 : A 50 0 < 400 := hw.1.1
  have b1 : A 51 0 ≤ 40 := hw.1.2.1
  have z : vp_in 0 11570 := vp_in_nI (n := 0) (by decide) (by decide)
  unfold qX11_undo qX12_undo
  rcases ix32 x1 (n := A 51 0) (by omega) with h | ⟨p, hp, rfl⟩
  · exact la_has0 s1 (by omega) h (b_0' (m_isPl0 e1 b1 h (b_0' (hQ _ _ _ _ hR1 Fr.rf))))
  refine la_has1 s1 (by omega) hp (b_1' ?_)
  rcases ix32 x2 (n := 3) (by omega) with h | ⟨t, ht, rfl⟩
  · exact q_to0 h (b_0 (m_isPl1 e1 b1 hp (b_1' (m_to0 h (b_0 (hQ _ _ _ _ hR1 Fr.rf))))))
  refine q_to1 ht (b_1 ?_)
  rw [s0]
  have hM : ∀ {P : Int32 → Md → Prop}, (stkA A p t (A 50 0) = [] → ∀ m', Fr [(1, 28)] m m' → P (-5) m') → (stkA A p t (A 50 0) ≠ [] → ∀ m', Fr [(1, 28)] m m' → qX12_event m' (nI p) (nI t) ((-1)) (fun v39_0 => qX12_now v39_0 (fun r46 v46_0 => qX12_settledOf v46_0 (nI p) (nI t) r46 (fun r49 v49_0 => P r49 v49_0)))) → qX12_isPlace m (nI p) (fun r2 v2_0 => (r2 = 0 ∨ r2 = 1) → (r2 = 0 → P ((-2)) v2_0) ∧ (¬ r2 = 0 → qX12_isTongue (nI t) (fun r9 => (r9 = 0 ∨ r9 = 1) → (¬ r9 = 0 → qX12_now v2_0 (fun r22 v22_0 => qX12_settledOf v22_0 (nI p) (nI t) r22 (fun r25 v25_0 => (¬ r25 = ((-1)) → qX12_event v25_0 (nI p) (nI t) ((-1)) (fun v39_0 => qX12_now v39_0 (fun r46 v46_0 => qX12_settledOf v46_0 (nI p) (nI t) r46 (fun r49 v49_0 => P r49 v49_0)))) ∧ (r25 = ((-1)) → P ((-5)) v25_0)))) ∧ (r9 = 0 → P ((-2)) v2_0)))) := by
    intro P k0 k1
    refine m_isPl1 e1 b1 hp (b_1' (m_to1 ht (b_1 ?_)))
    unfold qX12_now
    refine ⟨z, ?_⟩
    rw [show gA m 1 (0 : Int32).toNatClampNeg = nI (A 50 0) from e0]
    refine M_settledOf hw hm hp ht b0 (fun m' fm => ?_)
    cases hst : stkA A p t (A 50 0) with
    | nil => exact c_y' rfl (k0 hst m' fm)
    | cons x r =>
      have hx := stkA_lt hw (show x ∈ stkA A p t (A 50 0) by rw [hst]; exact List.mem_cons_self)
      have b2 : A 52 0 ≤ 80 := hw.1.2.2.1
      exact c_n' (nI_m1 (by omega)) (k1 (by rw [hst]; exact List.cons_ne_nil _ _) m' fm)
  refine N_undoLast hw hn.2.2.2.1 hp ht (fun e => b_0 ?_) (fun e bd' hbd' => b_1 (N_mark s0 b0 ?_))
  · exact hM (fun _ m' fm => hQ _ _ _ _ (hR1.fr fm (by decide)) (fm.mono (by decide))) (fun h => absurd e h)
  · have hw' := evt_Wf (x := 0) hw hc hp ht (by omega) (fun _ => e) (fun h => absurd rfl h)
    have s0' : gF (tZ st 1 (nI (A 50 0)) 1) 0 = nI (A 50 0) := s0
    rw [s0']
    refine N_nameAt hw' hbd'.2 hp ht b0 ?_
    refine hM (fun h => absurd h e) (fun _ m' fm => ?_)
    have hm1 : MW (gA m' 1) A := by rw [fm.2.1 1 (by decide)]; exact hm
    refine M_event (x := 0) hw hc hm1 (fun m2 fm2 hm2 => ?_)
    unfold qX12_now
    refine ⟨z, ?_⟩
    rw [show gA m2 1 (0 : Int32).toNatClampNeg = nI (A 50 0) from hm2.1.1]
    refine M_settledOf hw' hm2 hp ht b0 (fun m3 fm3 => ?_)
    refine hQ _ _ _ _ ⟨evtA A p t 0, by rw [fm3.2.1 1 (by decide)]; exact hm2, hw', hs.tell hw' rfl (fun y hy => evt_low y hy), hn.1, hn.2.1, hn.2.2.1, hbd', hn.2.2.2.2⟩ ((fm.mono (by decide)).tr ((fm2.mono (by decide)).tr (fm3.mono (by decide))))
