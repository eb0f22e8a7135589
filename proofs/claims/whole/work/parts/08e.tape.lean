def fb (x : Int32) (k : Nat) : Int8 := ((x >>> ((24 - 8 * nI k) &&& 31)).toInt8.toInt32).toInt8
theorem N_push_loop {T : Nat} (hT : T + 4 ≤ 500) (x : Int32) (Q : Md → Prop) : ∀ (r k : Nat), k + r = 4 → ∀ u : Md, gF u 1 = nI (T + k) → (∀ u', Fr [(0, 1), (3, 0)] u u' → gF u' 1 = nI (T + 4) → (∀ j, j < T + k → gB u' 0 j = gB u 0 j) → (∀ i, k ≤ i → i < 4 → gB u' 0 (T + i) = fb x i) → Q u') → qX9_push_3 Q (r + 1) u x (24 - 8 * nI k) := by
  intro r
  induction r with
  | zero =>
    intro k hk u e hQ
    obtain rfl : k = 4 := by omega
    unfold qX9_push_3
    refine ⟨fun _ => hQ u Fr.rf e (fun _ _ => rfl) (fun i h1 h2 => by omega), fun h => absurd (by decide) h⟩
  | succ r ih =>
    intro k hk u e hQ
    unfold qX9_push_3
    have h1 : ¬ (24 - 8 * nI k) < 0 ∧ (24 - 8 * nI k) + Int32.ofInt (-8) = 24 - 8 * nI (k + 1) := by
      rcases (show k = 0 ∨ k = 1 ∨ k = 2 ∨ k = 3 by omega) with rfl | rfl | rfl | rfl <;> decide
    refine ⟨fun h => absurd h h1.1, fun _ => ⟨fun h => ?_, fun _ => ⟨?_, ?_⟩⟩⟩
    · rw [e] at h; exact absurd h (nI_ge (b := 500) (by omega) (by decide))
    · rw [e]; exact vp_in_nI (by omega) (by decide)
    · intro w hw w2 hw2
      rw [h1.2]
      have ew : gF w2 1 = nI (T + (k + 1)) := by
        rw [hw2, gF_sF, if_pos rfl, hw, gF_tB, e]; exact nI_1 _
      have fr : Fr [(0, 1), (3, 0)] u w2 := by
        rw [hw2, hw]; exact Fr.tr (Fr.tB 0 _ _ (by decide)) (Fr.sF 1 _ (by decide))
      have gw : gB w2 0 = va_up (gB u 0) (T + k) (fb x k) := by
        rw [hw2, gB_sF, hw, gB_tB, if_pos rfl, e, nI_clamp (by omega)]; rfl
      refine ih (k + 1) (by omega) w2 ew (fun u' f1 f2 f3 f4 => hQ u' (fr.tr f1) f2 (fun j hj => ?_) (fun i h2 h3 => ?_))
      · rw [f3 j (by omega), gw, va_up_ne' _ _ (by omega)]
      · by_cases hi : i = k
        · subst hi; rw [f3 (T + i) (by omega), gw, va_up_eq]
        · exact f4 i (by omega) h3
theorem N_push {T : Nat} (hT : T + 4 ≤ 500) {u : Md} (e : gF u 1 = nI T) {x : Int32} {Q : Md → Prop} (hQ : ∀ u', Fr [(0, 1), (3, 0)] u u' → gF u' 1 = nI (T + 4) → (∀ j, j < T → gB u' 0 j = gB u 0 j) → (∀ i, i < 4 → gB u' 0 (T + i) = fb x i) → Q u') : qX9_push u x Q :=
  ⟨4 + 1, N_push_loop hT x Q 4 0 rfl u e (fun u' a b c d => hQ u' a b c (fun i hi => d i (Nat.zero_le _) hi))⟩
theorem M_feed_loop {T : Nat} (hT : T + 20 ≤ 500) (f : Nat → Int32) (Q : Int32 → Md → Prop) : ∀ (r k : Nat), k + r = 20 → ∀ u : Md, gF u 5 = nI T → gA u 6 = f → (∀ u', Fr [(0, 5), (3, 4)] u u' → gF u' 5 = nI (T + 20) → (∀ j, j < T + k → gB u' 4 j = gB u 4 j) → (∀ i, k ≤ i → i < 20 → gB u' 4 (T + i) = fb (f (i / 4)) (i % 4)) → Q (nI (T + 20)) u') → qX12_feed_55 Q (r + 1) u (nI k) := by
  intro r
  induction r with
  | zero =>
    intro k hk u e e6 hQ
    obtain rfl : k = 20 := by omega
    unfold qX12_feed_55
    refine ⟨fun _ w hw => ?_, fun h => absurd (by decide) h⟩
    have ew : gF w 5 = nI (T + 20) := by rw [hw, gF_sF, if_pos rfl, e]; exact nI_add T 20
    rw [ew]
    subst hw
    exact hQ _ (Fr.sF 5 _ (by decide)) ew (fun _ _ => rfl) (fun i h1 h2 => by omega)
  | succ r ih =>
    intro k hk u e e6 hQ
    unfold qX12_feed_55
    have d4 : nI k / 4 = nI (k / 4) := pk_div (d := 4) (by omega) (by decide) (by decide)
    have r4 : nI k - nI k / 4 * 4 = nI (k % 4) := pk_rem (d := 4) (by omega) (by decide) (by decide)
    refine ⟨fun h => absurd h (nI_ge (b := 20) (by omega) (by decide)), fun _ => ⟨?_, ?_, ?_⟩⟩
    · rw [d4]; exact vp_in_nI (by omega) (by decide)
    · rw [e, nI_add]; exact vp_in_nI (by omega) (by decide)
    · intro w hw
      rw [show nI k + Int32.ofInt 1 = nI (k + 1) from nI_1 k]
      have ew : gF w 5 = nI T := by rw [hw, gF_tB, e]
      have ew6 : gA w 6 = f := by rw [hw, gA_tB, e6]
      have gw : gB w 4 = va_up (gB u 4) (T + k) (fb (f (k / 4)) (k % 4)) := by
        rw [hw, gB_tB, if_pos rfl, e, nI_add, nI_clamp (by omega), r4, d4, nI_clamp (by omega), e6]; rfl
      have fr : Fr [(0, 5), (3, 4)] u w := by rw [hw]; exact Fr.tB 4 _ _ (by decide)
      refine ih (k + 1) (by omega) w ew ew6 (fun u' f1 f2 f3 f4 => hQ u' (fr.tr f1) f2 (fun j hj => ?_) (fun i h2 h3 => ?_))
      · rw [f3 j (by omega), gw, va_up_ne' _ _ (by omega)]
      · by_cases hi : i = k
        · subst hi; rw [f3 (T + i) (by omega), gw, va_up_eq]
        · exact f4 i (by omega) h3
theorem sim_feed {nb tp m : Md} (hR : RTape tp m) {x1 x2 x3 x4 x5 : Int32} {Q : Int32 → Md → Md → Int32 → Md → Prop} (hQ : ∀ r tp' m', RTape tp' m' → Fr [(0, 5), (3, 4), (1, 6)] m m' → Q r nb tp' r m') : qX11_feed nb tp x1 x2 x3 x4 x5 (fun r nb' tp' => qX12_feed m x1 x2 x3 x4 x5 (fun r' m' => Q r nb' tp' r' m')) := by
  obtain ⟨T, hT, e1, e2, hb, f1, f2⟩ := id hR
  unfold qX11_feed qX12_feed
  rw [e1, e2, show nI T + 20 = nI (T + 20) from nI_add T 20]
  by_cases h : T + 20 ≤ 500
  · refine ⟨fun _ => ?_, fun h1 => absurd (nI_le (b := 500) h (by decide)) h1⟩
    refine N_push (T := T) (by omega) e1 (fun u1 a1 b1 c1 d1 => ?_)
    refine N_push (T := T + 4) (by omega) b1 (fun u2 a2 b2 c2 d2 => ?_)
    refine N_push (T := T + 8) (by omega) b2 (fun u3 a3 b3 c3 d3 => ?_)
    refine N_push (T := T + 12) (by omega) b3 (fun u4 a4 b4 c4 d4 => ?_)
    refine N_push (T := T + 16) (by omega) b4 (fun u5 a5 b5 c5 d5 => ?_)
    refine ⟨fun _ => ⟨by unfold vp_in; decide, fun w1 k1 => ⟨by unfold vp_in; decide, fun w2 k2 => ⟨by unfold vp_in; decide, fun w3 k3 => ⟨by unfold vp_in; decide, fun w4 k4 => ⟨by unfold vp_in; decide, fun w5 k5 => ?_⟩⟩⟩⟩⟩, fun h1 => absurd (nI_le (b := 500) h (by decide)) h1⟩
    have fw : Fr [(0, 5), (3, 4), (1, 6)] m w5 := by
      rw [k5, k4, k3, k2, k1]
      exact Fr.tr (Fr.tr (Fr.tr (Fr.tr (Fr.tA 6 _ _ (by decide)) (Fr.tA 6 _ _ (by decide))) (Fr.tA 6 _ _ (by decide))) (Fr.tA 6 _ _ (by decide))) (Fr.tA 6 _ _ (by decide))
    have e5 : gF w5 5 = nI T := by rw [k5, k4, k3, k2, k1]; exact e2
    have g6 : gA w5 6 = va_up (va_up (va_up (va_up (va_up (gA m 6) 0 x1) 1 x2) 2 x3) 3 x4) 4 x5 := by
      rw [k5, k4, k3, k2, k1]; rfl
    have gb : gB w5 4 = gB m 4 := by rw [k5, k4, k3, k2, k1]; rfl
    have g15 : gF w5 15 = gF m 15 := by rw [k5, k4, k3, k2, k1]; rfl
    have g16 : gF w5 16 = gF m 16 := by rw [k5, k4, k3, k2, k1]; rfl
    refine ⟨20 + 1, M_feed_loop h _ _ 20 0 rfl w5 e5 g6 (fun m' a b c d => ?_)⟩
    rw [b5]
    refine hQ _ _ _ ⟨T + 20, h, b5, b, fun j hj => ?_, ?_, ?_⟩ (fw.tr (a.mono (by decide)))
    · by_cases h0 : j < T
      · rw [c j (by omega), gb, c5 j (by omega), c4 j (by omega), c3 j (by omega), c2 j (by omega), c1 j h0]
        exact hb j h0
      · obtain ⟨i, rfl⟩ : ∃ i, j = T + i := ⟨j - T, by omega⟩
        rw [d i (by omega) (by omega)]
        rcases (show i / 4 = 0 ∨ i / 4 = 1 ∨ i / 4 = 2 ∨ i / 4 = 3 ∨ i / 4 = 4 by omega) with q | q | q | q | q
        · rw [q, c5 _ (by omega), c4 _ (by omega), c3 _ (by omega), c2 _ (by omega), d1 i (by omega), show i % 4 = i by omega]; rfl
        · rw [q, c5 _ (by omega), c4 _ (by omega), c3 _ (by omega), show T + i = T + 4 + i % 4 by omega, d2 _ (by omega)]; rfl
        · rw [q, c5 _ (by omega), c4 _ (by omega), show T + i = T + 8 + i % 4 by omega, d3 _ (by omega)]; rfl
        · rw [q, c5 _ (by omega), show T + i = T + 12 + i % 4 by omega, d4 _ (by omega)]; rfl
        · rw [q, show T + i = T + 16 + i % 4 by omega, d5 _ (by omega)]; rfl
    · rw [a5.1 2 (by decide), a4.1 2 (by decide), a3.1 2 (by decide), a2.1 2 (by decide), a1.1 2 (by decide), a.1 15 (by decide), g15]; exact f1
    · rw [a5.1 3 (by decide), a4.1 3 (by decide), a3.1 3 (by decide), a2.1 3 (by decide), a1.1 3 (by decide), a.1 16 (by decide), g16]; exact f2
  · refine ⟨fun h1 => absurd h1 (nI_ge (a := 500) (b := T + 20) (by omega) (by omega)), fun _ => ⟨fun h1 => absurd h1 (nI_ge (a := 500) (b := T + 20) (by omega) (by omega)), fun _ => ?_⟩⟩
    exact hQ _ _ _ hR Fr.rf
theorem sim_end {nb tp m : Md} (hR : RTape tp m) {x1 : Int32} {Q : Int32 → Md → Md → Int32 → Md → Prop} (hQ : ∀ r tp' m', RTape tp' m' → Fr [(0, 5)] m m' → Q r nb tp' r m') : qX11_end nb tp x1 (fun r nb' tp' => qX12_end m x1 (fun r' m' => Q r nb' tp' r' m')) := by
  obtain ⟨T, hT, e1, e2, hb, f1, f2⟩ := id hR
  unfold qX11_end qX12_end
  rcases ix32 x1 (n := T + 1) (by omega) with hbad | ⟨s, hs, rfl⟩
  · have hM : qX12_in x1.toInt64 0 ((gF m 5).toInt64) (fun r8 => (r8 = 0 ∨ r8 = 1) → (¬ r8 = 0 → ∀ w18 : Md, w18 = sF m 5 x1 → Q (-1) nb tp x1 w18) ∧ (r8 = 0 → Q (-1) nb tp (-1) m)) := by
      refine inN_bad (n := T) (by rw [e2, Int32.toInt_toInt64, nI_toInt (by omega)]) (by omega) ?_
      simp only [eq_self_iff_true, e32_10, e32_01, true_or, or_true, true_implies, not_true_eq_false, not_false_eq_true, false_implies, and_true, true_and, forall_const, implies_true]
      exact hQ _ _ _ hR Fr.rf
    refine ⟨fun _ => hM, fun h1 => ⟨fun h2 => ?_, fun _ => hM⟩⟩
    exfalso
    rw [Int32.lt_iff_toInt_lt, tl_0] at h1
    rw [e1, Int32.le_iff_toInt_le, nI_toInt (by omega)] at h2
    omega
  · refine ⟨fun h1 => absurd h1 (nI_pos (by omega)), fun _ => ⟨fun _ w hw => ?_, fun h1 => absurd (by rw [e1]; exact nI_le (by omega) (by omega)) h1⟩⟩
    refine inN_ok (n := T) (by omega) (by rw [e2, Int32.toInt_toInt64, nI_toInt (by omega)]) (by omega) ?_
    simp only [eq_self_iff_true, e32_10, e32_01, true_or, or_true, true_implies, not_true_eq_false, not_false_eq_true, false_implies, and_true, true_and, forall_const, implies_true]
    intro w2 hw2
    subst hw hw2
    refine hQ _ _ _ ⟨s, by omega, rfl, rfl, fun j hj => hb j (by omega), f1, f2⟩ (Fr.sF 5 _ (by decide))
