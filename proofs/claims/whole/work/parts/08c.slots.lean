theorem e32_10 : ((1 : Int32) = 0) = False := by decide
theorem e32_01 : ((0 : Int32) = 1) = False := by decide
theorem ix32 (x : Int32) {n : Nat} (hn : n < 2 ^ 31) : (¬ (0 ≤ x.toInt ∧ x.toInt < n)) ∨ ∃ s : Nat, s < n ∧ x = nI s := by
  by_cases h : 0 ≤ x.toInt ∧ x.toInt < n
  · refine Or.inr ⟨x.toInt.toNat, by omega, ?_⟩
    rw [← Int32.toInt_inj, nI_toInt (by omega)]
    omega
  · exact Or.inl h
theorem N_isSlot_bad {x : Int32} {Q : Int32 → Prop} (h : ¬ (0 ≤ x.toInt ∧ x.toInt < 4)) (hQ : Q 0) : qX11_isSlot x Q := by
  unfold qX11_isSlot
  refine ⟨fun _ => hQ, fun h1 => ⟨fun _ => hQ, fun h2 => ?_⟩⟩
  simp only [Int32.lt_iff_toInt_lt, Int32.le_iff_toInt_le, ← Int32.toInt_inj, tl_0, tl_1, tl_2, tl_3, tl_4, tl_5, tl_6, tl_7, tl_8, tl_9, tl_10, tl_11, tl_12, tl_13, tl_15, tl_16, tl_20, tl_24, tl_26, tl_30, tl_32, tl_36, tl_39, tl_40, tl_45, tl_48, tl_50, tl_57, tl_59, tl_60, tl_61, tl_62, tl_64, tl_72, tl_73, tl_80, tl_90, tl_97, tl_99, tl_100, tl_120, tl_122, tl_123, tl_127, tl_128, tl_199, tl_200, tl_255, tl_256, tl_290, tl_399, tl_400, tl_500, tl_512, tl_520, tl_600, tl_999, tl_1000, tl_2000, tl_9999, tl_10000, tm_1, tm_2, tm_3, tm_4, tm_5, tm_6, tm_7, tm_8, tm_9, tm_128] at h1 h2
  omega
theorem N_isSlot_ok {s : Nat} {Q : Int32 → Prop} (h : s < 4) (hQ : Q 1) : qX11_isSlot (nI s) Q := by
  unfold qX11_isSlot
  refine ⟨fun h1 => ?_, fun _ => ⟨fun h2 => ?_, fun _ => hQ⟩⟩
  · exact absurd h1 (nI_pos (by omega))
  · exact absurd h2 (nI_ge (b := 4) h (by decide))
theorem M_isSlot_bad {x : Int32} {Q : Int32 → Prop} (h : ¬ (0 ≤ x.toInt ∧ x.toInt < 4)) (hQ : Q 0) : qX12_isSlot x Q := by
  unfold qX12_isSlot
  refine s_in (fun h1 h2 => ?_) (fun _ _ => hQ)
  simp only [Int32.toInt_toInt64] at h1 h2
  exact absurd ⟨h1, by have : x.toInt ≤ 3 := h2; omega⟩ h
theorem M_isSlot_ok {s : Nat} {Q : Int32 → Prop} (h : s < 4) (hQ : Q 1) : qX12_isSlot (nI s) Q := by
  unfold qX12_isSlot
  refine s_in (fun _ _ _ => hQ) (fun h1 => ?_)
  exfalso
  apply h1
  rw [Int32.toInt_toInt64, nI_toInt (by omega)]
  refine ⟨by show (0 : Int) ≤ _; omega, by show _ ≤ (3 : Int); omega⟩
theorem sim_tear {nb m : Md} (hR : RSlot nb m) {x1 : Int32} {Q : Int32 → Md → Int32 → Md → Prop} (hQ : ∀ r nb' m', RSlot nb' m' → Fr [(1, 9)] nb nb' → Fr [(1, 48)] m m' → Q r nb' r m') : qX11_tear nb x1 (fun r nb' => qX12_tear m x1 (fun r' m' => Q r nb' r' m')) := by
  unfold qX11_tear qX12_tear
  rcases ix32 x1 (n := 4) (by decide) with h | ⟨s, hs, rfl⟩
  · refine N_isSlot_bad h ?_
    simp only [eq_self_iff_true, e32_10, e32_01, true_or, or_true, true_implies, not_true_eq_false, not_false_eq_true, false_implies, and_true, true_and, forall_const, implies_true]
    refine M_isSlot_bad h ?_
    simp only [eq_self_iff_true, e32_10, e32_01, true_or, or_true, true_implies, not_true_eq_false, not_false_eq_true, false_implies, and_true, true_and, forall_const, implies_true]
    exact hQ 0 nb m hR Fr.rf Fr.rf
  · refine N_isSlot_ok hs ?_
    simp only [eq_self_iff_true, e32_10, e32_01, true_or, or_true, true_implies, not_true_eq_false, not_false_eq_true, false_implies, and_true, true_and, forall_const, implies_true]
    have hv : vp_in (nI s) 4 := vp_in_nI hs (by decide)
    obtain ⟨e1, e2, e3, e4⟩ := hR s hs
    refine ⟨hv, fun h1 => ⟨hv, fun w hw => ?_⟩, fun h1 => ?_⟩
    · refine M_isSlot_ok hs ?_
      simp only [eq_self_iff_true, e32_10, e32_01, true_or, or_true, true_implies, not_true_eq_false, not_false_eq_true, false_implies, and_true, true_and, forall_const, implies_true]
      rw [nI_clamp (by omega)] at h1 ⊢
      refine ⟨hv, fun h2 => ⟨hv, fun w2 hw2 => ?_⟩, fun h2 => absurd (e2.trans h2) h1⟩
      subst hw hw2
      refine hQ 1 _ _ ?_ (Fr.tA 9 _ _ (by decide)) (Fr.tA 48 _ _ (by decide))
      intro t ht
      obtain ⟨d1, d2, d3, d4⟩ := hR t ht
      refine ⟨d1, ?_, d3, ?_⟩
      · show va_up (gA nb 9) _ _ t = va_up (gA m 48) _ _ t
        unfold va_up
        rw [d2]
      · show va_up (gA nb 9) _ _ t = -1 ∨ ∃ n : Nat, n ≤ 60 ∧ va_up (gA nb 9) _ _ t = nI n ∧ _
        unfold va_up
        rw [nI_clamp (by omega)]
        by_cases hts : t = s
        · rw [if_pos hts]; exact Or.inl rfl
        · rw [if_neg hts]; exact d4
    · refine M_isSlot_ok hs ?_
      simp only [eq_self_iff_true, e32_10, e32_01, true_or, or_true, true_implies, not_true_eq_false, not_false_eq_true, false_implies, and_true, true_and, forall_const, implies_true]
      rw [nI_clamp (by omega)] at h1 ⊢
      exact ⟨hv, fun h2 => absurd (e2.symm.trans h1) h2, fun _ => hQ 0 nb m hR Fr.rf Fr.rf⟩
