theorem N_row_loop {s n : Nat} (hs : s < 4) (hn : n ≤ 60) (Q : Int32 → Md → Prop) : ∀ (r k : Nat), k + r = n → ∀ u : Md, (∀ u', Fr [(2, 7)] u u' → (∀ j, 60 * s + k ≤ j → j < 60 * s + n → gL u' 7 j = 0) → (∀ j, (j < 60 * s + k ∨ 60 * s + n ≤ j) → gL u' 7 j = gL u 7 j) → Q 0 u') → qX11_row_49 Q (r + 1) u (nI s) (nI n) (nI k) := by
  intro r
  induction r with
  | zero =>
    intro k hk u hQ
    obtain rfl : k = n := by omega
    unfold qX11_row_49
    exact ⟨fun _ => hQ u Fr.rf (fun j h1 h2 => by omega) (fun _ _ => rfl), fun h => absurd (nI_le (Nat.le_refl k) (by omega)) h⟩
  | succ r ih =>
    intro k hk u hQ
    unfold qX11_row_49
    have ix : nI s * 60 + nI k = nI (60 * s + k) := by rw [nl_60, pk_mul, nI_add, Nat.mul_comm]
    refine ⟨fun h => absurd h (nI_ge (by omega) (by omega)), fun _ => ⟨?_, fun w hw => ?_⟩⟩
    · rw [ix]; exact vp_in_nI (by omega) (by decide)
    · rw [show nI k + Int32.ofInt 1 = nI (k + 1) from nI_1 k]
      have gw : gL w 7 = va_up (gL u 7) (60 * s + k) 0 := by rw [hw, gL_tL, if_pos rfl, ix, nI_clamp (by omega)]
      have fr : Fr [(2, 7)] u w := by rw [hw]; exact Fr.tL 7 _ _ (by decide)
      refine ih (k + 1) (by omega) w (fun u' f1 f2 f3 => hQ u' (fr.tr f1) (fun j h1 h2 => ?_) (fun j h1 => ?_))
      · by_cases hj : j = 60 * s + k
        · rw [f3 j (by omega), gw, hj, va_up_eq]
        · exact f2 j (by omega) h2
      · rw [f3 j (by omega), gw, va_up_ne' _ _ (by omega)]
theorem M_row_loop {s : Nat} (hs : s < 4) (Q : Int32 → Md → Prop) : ∀ (r k : Nat), k + r = 60 → ∀ u : Md, (∀ u', Fr [(2, 50)] u u' → (∀ j, 60 * s + k ≤ j → j < 60 * s + 60 → gL u' 50 j = 0) → (∀ j, (j < 60 * s + k ∨ 60 * s + 60 ≤ j) → gL u' 50 j = gL u 50 j) → Q 0 u') → qX12_row_52 Q (r + 1) u (nI s) (nI k) := by
  intro r
  induction r with
  | zero =>
    intro k hk u hQ
    obtain rfl : k = 60 := by omega
    unfold qX12_row_52
    exact ⟨fun _ => hQ u Fr.rf (fun j h1 h2 => by omega) (fun _ _ => rfl), fun h => absurd (by decide) h⟩
  | succ r ih =>
    intro k hk u hQ
    unfold qX12_row_52
    have ix : 60 * nI s + nI k = nI (60 * s + k) := by rw [nl_60, pk_mul, nI_add]
    refine ⟨fun h => absurd h (nI_ge (b := 60) (by omega) (by decide)), fun _ => ⟨?_, fun w hw => ?_⟩⟩
    · rw [ix]; exact vp_in_nI (by omega) (by decide)
    · rw [show nI k + Int32.ofInt 1 = nI (k + 1) from nI_1 k]
      have gw : gL w 50 = va_up (gL u 50) (60 * s + k) 0 := by rw [hw, gL_tL, if_pos rfl, ix, nI_clamp (by omega)]
      have fr : Fr [(2, 50)] u w := by rw [hw]; exact Fr.tL 50 _ _ (by decide)
      refine ih (k + 1) (by omega) w (fun u' f1 f2 f3 => hQ u' (fr.tr f1) (fun j h1 h2 => ?_) (fun j h1 => ?_))
      · by_cases hj : j = 60 * s + k
        · rw [f3 j (by omega), gw, hj, va_up_eq]
        · exact f2 j (by omega) h2
      · rw [f3 j (by omega), gw, va_up_ne' _ _ (by omega)]
theorem sim_row {nb m : Md} (hR : RSlot nb m) {x1 x2 x3 : Int32} {Q : Int32 → Md → Int32 → Md → Prop} (hQ : ∀ r nb' m', RSlot nb' m' → Fr [(1, 8), (1, 9), (2, 7)] nb nb' → Fr [(1, 48), (1, 49), (2, 50)] m m' → Q r nb' r m') : qX11_row nb x1 x2 x3 (fun r nb' => qX12_row m x1 x2 x3 (fun r' m' => Q r nb' r' m')) := by
  unfold qX11_row qX12_row
  rcases ix32 x1 (n := 4) (by decide) with h | ⟨s, hs, rfl⟩
  · refine N_isSlot_bad h ?_
    simp only [eq_self_iff_true, e32_10, e32_01, true_or, or_true, true_implies, not_true_eq_false, not_false_eq_true, false_implies, and_true, true_and, forall_const, implies_true]
    refine M_isSlot_bad h ?_
    simp only [eq_self_iff_true, e32_10, e32_01, true_or, or_true, true_implies, not_true_eq_false, not_false_eq_true, false_implies, and_true, true_and, forall_const, implies_true]
    exact hQ _ nb m hR Fr.rf Fr.rf
  refine N_isSlot_ok hs ?_
  simp only [eq_self_iff_true, e32_10, e32_01, true_or, or_true, true_implies, not_true_eq_false, not_false_eq_true, false_implies, and_true, true_and, forall_const, implies_true]
  rcases ix32 x2 (n := 4) (by decide) with h | ⟨w, hw, rfl⟩
  · have hM : qX12_isSlot (nI s) fun r1 => (r1 = 0 ∨ r1 = 1) → (r1 = 0 → Q (-2) nb (-2) m) ∧ (¬ r1 = 0 → qX12_in x2.toInt64 0 3 (fun r13 => (r13 = 0 ∨ r13 = 1) → (r13 = 0 → Q (-2) nb (-2) m) ∧ (¬ r13 = 0 → (x3 ≤ 60 → (0 ≤ x3 → vp_in (nI s) 4 ∧ (∀ w41 : Md, w41 = tA m 48 (nI s) x3 → vp_in (nI s) 4 ∧ (∀ w48 : Md, w48 = tA w41 49 (nI s) x2 → ∃ n' : Nat, qX12_row_52 (fun r' m' => Q (-2) nb r' m') n' w48 (nI s) 0))) ∧ (¬ 0 ≤ x3 → Q (-2) nb (-3) m)) ∧ (¬ x3 ≤ 60 → Q (-2) nb (-2) m)))) := by
      refine M_isSlot_ok hs ?_
      simp only [eq_self_iff_true, e32_10, e32_01, true_or, or_true, true_implies, not_true_eq_false, not_false_eq_true, false_implies, and_true, true_and, forall_const, implies_true]
      refine inN_bad (n := 3) rfl h ?_
      simp only [eq_self_iff_true, e32_10, e32_01, true_or, or_true, true_implies, not_true_eq_false, not_false_eq_true, false_implies, and_true, true_and, forall_const, implies_true]
      exact hQ _ nb m hR Fr.rf Fr.rf
    exact has_bad (n := 4) (by decide) rfl h hM
  refine has_ok (n := 4) (by decide) rfl hw ?_
  by_cases h60 : x3 ≤ 60
  · refine ⟨fun _ => ?_, fun h => absurd h60 h⟩
    by_cases h0 : 0 ≤ x3
    · refine ⟨fun _ => ?_, fun h => absurd h0 h⟩
      obtain ⟨n, hn, rfl⟩ : ∃ n : Nat, n ≤ 60 ∧ x3 = nI n := by
        rcases ix32 x3 (n := 61) (by decide) with hb | ⟨n, hn, e⟩
        · simp only [Int32.lt_iff_toInt_lt, Int32.le_iff_toInt_le, ← Int32.toInt_inj, tl_0, tl_1, tl_2, tl_3, tl_4, tl_5, tl_6, tl_7, tl_8, tl_9, tl_10, tl_11, tl_12, tl_13, tl_15, tl_16, tl_20, tl_24, tl_26, tl_30, tl_32, tl_36, tl_39, tl_40, tl_45, tl_48, tl_50, tl_57, tl_59, tl_60, tl_61, tl_62, tl_64, tl_72, tl_73, tl_80, tl_90, tl_97, tl_99, tl_100, tl_120, tl_122, tl_123, tl_127, tl_128, tl_199, tl_200, tl_255, tl_256, tl_290, tl_399, tl_400, tl_500, tl_512, tl_520, tl_600, tl_999, tl_1000, tl_2000, tl_9999, tl_10000, tm_1, tm_2, tm_3, tm_4, tm_5, tm_6, tm_7, tm_8, tm_9, tm_128] at h60 h0
          omega
        · exact ⟨n, by omega, e⟩
      have hv : vp_in (nI s) 4 := vp_in_nI hs (by decide)
      refine ⟨hv, fun w1 k1 => ⟨hv, fun w2 k2 => ⟨n + 1, N_row_loop hs hn _ n 0 (by omega) w2 (fun nb' a b c => ?_)⟩⟩⟩
      refine M_isSlot_ok hs ?_
      simp only [eq_self_iff_true, e32_10, e32_01, true_or, or_true, true_implies, not_true_eq_false, not_false_eq_true, false_implies, and_true, true_and, forall_const, implies_true]
      refine inN_ok (n := 3) (by decide) rfl (by omega) ?_
      simp only [eq_self_iff_true, e32_10, e32_01, true_or, or_true, true_implies, not_true_eq_false, not_false_eq_true, false_implies, and_true, true_and, forall_const, implies_true]
      refine ⟨fun _ => ⟨fun _ => ⟨hv, fun w3 k3 => ⟨hv, fun w4 k4 => ⟨60 + 1, M_row_loop hs _ 60 0 rfl w4 (fun m' a' b' c' => ?_)⟩⟩⟩, fun h => absurd h0 h⟩, fun h => absurd h60 h⟩
      have fn : Fr [(1, 8), (1, 9), (2, 7)] nb nb' := by
        refine Fr.tr ?_ (a.mono (by decide))
        rw [k2, k1]; exact Fr.tr (Fr.tA 8 _ _ (by decide)) (Fr.tA 9 _ _ (by decide))
      have fm : Fr [(1, 48), (1, 49), (2, 50)] m m' := by
        refine Fr.tr ?_ (a'.mono (by decide))
        rw [k4, k3]; exact Fr.tr (Fr.tA 48 _ _ (by decide)) (Fr.tA 49 _ _ (by decide))
      refine hQ _ _ _ (fun t ht => ?_) fn fm
      obtain ⟨d1, d2, d3, d4⟩ := hR t ht
      have e8 : gA nb' 8 = va_up (gA nb 8) s (nI w) := by rw [a.2.1 8 (by decide), k2, gA_tA, if_neg (by decide), k1, gA_tA, if_pos rfl, nI_clamp (by omega)]
      have e9 : gA nb' 9 = va_up (gA nb 9) s (nI n) := by rw [a.2.1 9 (by decide), k2, gA_tA, if_pos rfl, nI_clamp (by omega), k1]; rfl
      have e48 : gA m' 48 = va_up (gA m 48) s (nI n) := by rw [a'.2.1 48 (by decide), k4, gA_tA, if_neg (by decide), k3, gA_tA, if_pos rfl, nI_clamp (by omega)]
      have e49 : gA m' 49 = va_up (gA m 49) s (nI w) := by rw [a'.2.1 49 (by decide), k4, gA_tA, if_pos rfl, nI_clamp (by omega), k3]; rfl
      have l7 : gL w2 7 = gL nb 7 := by rw [k2, k1]; rfl
      have l50 : gL w4 50 = gL m 50 := by rw [k4, k3]; rfl
      rw [e8, e9, e48, e49]
      by_cases hts : t = s
      · subst hts
        rw [va_up_eq, va_up_eq, va_up_eq, va_up_eq]
        refine ⟨rfl, rfl, ⟨w, hw, rfl⟩, Or.inr ⟨n, hn, rfl, fun i hi => ?_⟩⟩
        rw [b _ (by omega) (by omega), b' _ (by omega) (by omega)]
      · rw [va_up_ne' _ _ hts, va_up_ne' _ _ hts, va_up_ne' _ _ hts, va_up_ne' _ _ hts]
        refine ⟨d1, d2, d3, ?_⟩
        rcases d4 with d4 | ⟨k, hk, d5, d6⟩
        · exact Or.inl d4
        · refine Or.inr ⟨k, hk, d5, fun i hi => ?_⟩
          rw [c _ (by omega), c' _ (by omega), l7, l50]
          exact d6 i hi
    · refine ⟨fun h => absurd h h0, fun _ => ?_⟩
      refine M_isSlot_ok hs ?_
      simp only [eq_self_iff_true, e32_10, e32_01, true_or, or_true, true_implies, not_true_eq_false, not_false_eq_true, false_implies, and_true, true_and, forall_const, implies_true]
      refine inN_ok (n := 3) (by decide) rfl (by omega) ?_
      simp only [eq_self_iff_true, e32_10, e32_01, true_or, or_true, true_implies, not_true_eq_false, not_false_eq_true, false_implies, and_true, true_and, forall_const, implies_true]
      exact ⟨fun _ => ⟨fun h => absurd h h0, fun _ => hQ _ nb m hR Fr.rf Fr.rf⟩, fun h => absurd h60 h⟩
  · refine ⟨fun h => absurd h h60, fun _ => ?_⟩
    refine M_isSlot_ok hs ?_
    simp only [eq_self_iff_true, e32_10, e32_01, true_or, or_true, true_implies, not_true_eq_false, not_false_eq_true, false_implies, and_true, true_and, forall_const, implies_true]
    refine inN_ok (n := 3) (by decide) rfl (by omega) ?_
    simp only [eq_self_iff_true, e32_10, e32_01, true_or, or_true, true_implies, not_true_eq_false, not_false_eq_true, false_implies, and_true, true_and, forall_const, implies_true]
    exact ⟨fun h => absurd h h60, fun _ => hQ _ nb m hR Fr.rf Fr.rf⟩
