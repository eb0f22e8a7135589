/-- x < 0 or n ≤ x, else -/
theorem has_bad {x y : Int32} {n : Nat} {P0 P1 : Prop} (hn : n < 2 ^ 31) (hy : y = nI n) (h : ¬ (0 ≤ x.toInt ∧ x.toInt < n)) (h0 : P0) : (x < 0 → P0) ∧ (¬ x < 0 → (y ≤ x → P0) ∧ (¬ y ≤ x → P1)) := by
  refine ⟨fun _ => h0, fun h1 => ⟨fun _ => h0, fun h2 => ?_⟩⟩
  exfalso
  rw [Int32.lt_iff_toInt_lt, tl_0] at h1
  rw [hy, Int32.le_iff_toInt_le, nI_toInt hn] at h2
  omega
theorem has_ok {s n : Nat} {y : Int32} {P0 P1 : Prop} (hn : n < 2 ^ 31) (hy : y = nI n) (h : s < n) (h1 : P1) : (nI s < 0 → P0) ∧ (¬ nI s < 0 → (y ≤ nI s → P0) ∧ (¬ y ≤ nI s → P1)) := by
  subst hy
  exact ⟨fun h2 => absurd h2 (nI_pos (by omega)), fun _ => ⟨fun h2 => absurd h2 (nI_ge h hn), fun _ => h1⟩⟩
theorem nI_pred_toInt {n : Nat} (hn : n < 2 ^ 30) : (nI n - 1).toInt = (n : Int) - 1 := pk_sub_toInt (b := 1) hn (by decide)
theorem inC_ok {s n : Nat} {y : Int32} {Q : Int32 → Prop} (hn : n < 2 ^ 30) (hy : y = nI n) (h : s < n) (hQ : Q 1) : qX12_in (nI s).toInt64 0 ((y - 1).toInt64) Q := by
  subst hy
  refine s_in (fun _ _ => hQ) (fun h1 => absurd ?_ h1)
  rw [Int32.toInt_toInt64, Int32.toInt_toInt64, nI_toInt (by omega), nI_pred_toInt hn]
  exact ⟨by show (0 : Int) ≤ _; omega, by omega⟩
theorem inC_bad {x y : Int32} {n : Nat} {Q : Int32 → Prop} (hn : n < 2 ^ 30) (hy : y = nI n) (h : ¬ (0 ≤ x.toInt ∧ x.toInt < n)) (hQ : Q 0) : qX12_in x.toInt64 0 ((y - 1).toInt64) Q := by
  subst hy
  refine s_in (fun h1 h2 => ?_) (fun _ => hQ)
  rw [Int32.toInt_toInt64] at h1 h2
  rw [Int32.toInt_toInt64, nI_pred_toInt hn] at h2
  exact absurd ⟨h1, by omega⟩ h
/-- 0 .. n -/
theorem inN_ok {s n : Nat} {y : Int64} {Q : Int32 → Prop} (hn : n < 2 ^ 30) (hy : y.toInt = n) (h : s ≤ n) (hQ : Q 1) : qX12_in (nI s).toInt64 0 y Q := by
  refine s_in (fun _ _ => hQ) (fun h1 => absurd ?_ h1)
  rw [Int32.toInt_toInt64, hy, nI_toInt (by omega)]
  exact ⟨by show (0 : Int) ≤ _; omega, by omega⟩
theorem inN_bad {x : Int32} {y : Int64} {n : Nat} {Q : Int32 → Prop} (hy : y.toInt = n) (h : ¬ (0 ≤ x.toInt ∧ x.toInt < n + 1)) (hQ : Q 0) : qX12_in x.toInt64 0 y Q := by
  refine s_in (fun h1 h2 => ?_) (fun _ => hQ)
  rw [Int32.toInt_toInt64] at h1 h2
  exact absurd ⟨h1, by omega⟩ h
theorem sim_letter {nb hd m : Md} (hR : RHand hd m) {x1 : Int32} {Q : Int32 → Md → Md → Int32 → Md → Prop} (hQ : ∀ r, Q r nb hd r m) : qX11_letter nb hd x1 (fun r nb' hd' => qX12_letter m x1 (fun r' m' => Q r nb' hd' r' m')) := by
  obtain ⟨n, hn, e1, e2, h⟩ := hR
  unfold qX11_letter qX12_letter qX5_has
  rcases ix32 x1 (n := n) (by omega) with hb | ⟨s, hs, rfl⟩
  · refine has_bad (by omega) e1 hb ?_
    simp only [eq_self_iff_true, e32_10, e32_01, true_or, or_true, true_implies, not_true_eq_false, not_false_eq_true, false_implies, and_true, true_and, forall_const, implies_true]
    refine inC_bad (by omega) e2 hb ?_
    simp only [eq_self_iff_true, e32_10, e32_01, true_or, or_true, true_implies, not_true_eq_false, not_false_eq_true, false_implies, and_true, true_and, forall_const, implies_true]
    exact hQ _
  · refine has_ok (by omega) e1 hs ?_
    simp only [eq_self_iff_true, e32_10, e32_01, true_or, or_true, true_implies, not_true_eq_false, not_false_eq_true, false_implies, and_true, true_and, forall_const, implies_true]
    refine ⟨vp_in_nI (by omega) (by decide), ?_⟩
    refine inC_ok (by omega) e2 hs ?_
    simp only [eq_self_iff_true, e32_10, e32_01, true_or, or_true, true_implies, not_true_eq_false, not_false_eq_true, false_implies, and_true, true_and, forall_const, implies_true]
    refine ⟨vp_in_nI (by omega) (by decide), ?_⟩
    rw [nI_clamp (by omega), (h s hs).1]
    exact hQ _
theorem sim_led {nb hd m : Md} (hR : RHand hd m) {x1 : Int32} {Q : Int32 → Md → Md → Int32 → Md → Prop} (hQ : ∀ r, Q r nb hd r m) : qX11_led nb hd x1 (fun r nb' hd' => qX12_led m x1 (fun r' m' => Q r nb' hd' r' m')) := by
  obtain ⟨n, hn, e1, e2, h⟩ := hR
  unfold qX11_led qX12_led qX5_has
  rcases ix32 x1 (n := n) (by omega) with hb | ⟨s, hs, rfl⟩
  · refine has_bad (by omega) e1 hb ?_
    simp only [eq_self_iff_true, e32_10, e32_01, true_or, or_true, true_implies, not_true_eq_false, not_false_eq_true, false_implies, and_true, true_and, forall_const, implies_true]
    refine inC_bad (by omega) e2 hb ?_
    simp only [eq_self_iff_true, e32_10, e32_01, true_or, or_true, true_implies, not_true_eq_false, not_false_eq_true, false_implies, and_true, true_and, forall_const, implies_true]
    exact hQ _
  · refine has_ok (by omega) e1 hs ?_
    simp only [eq_self_iff_true, e32_10, e32_01, true_or, or_true, true_implies, not_true_eq_false, not_false_eq_true, false_implies, and_true, true_and, forall_const, implies_true]
    refine ⟨vp_in_nI (by omega) (by decide), ?_⟩
    refine inC_ok (by omega) e2 hs ?_
    simp only [eq_self_iff_true, e32_10, e32_01, true_or, or_true, true_implies, not_true_eq_false, not_false_eq_true, false_implies, and_true, true_and, forall_const, implies_true]
    refine ⟨vp_in_nI (by omega) (by decide), ?_⟩
    rw [nI_clamp (by omega), (h s hs).2]
    exact hQ _
theorem sim_fault {nb tp m : Md} (hR : RTape tp m) {x1 : Int32} {Q : Int32 → Md → Md → Int32 → Md → Prop} (hQ : ∀ r, Q r nb tp r m) : qX11_fault nb tp x1 (fun r nb' tp' => qX12_fault m x1 (fun r' m' => Q r nb' tp' r' m')) := by
  obtain ⟨n, hn, e1, e2, h, f1, f2⟩ := hR
  unfold qX11_fault qX12_fault
  rw [f1, f2]
  by_cases h0 : x1 = 0
  · subst h0
    simp only [eq_self_iff_true, e32_10, e32_01, true_or, or_true, true_implies, not_true_eq_false, not_false_eq_true, false_implies, and_true, true_and, forall_const, implies_true]
    exact hQ _
  · by_cases h1 : x1 = 1
    · subst h1
      simp only [eq_self_iff_true, e32_10, e32_01, true_or, or_true, true_implies, not_true_eq_false, not_false_eq_true, false_implies, and_true, true_and, forall_const, implies_true]
      exact hQ _
    · exact ⟨fun _ => ⟨fun _ => ⟨fun _ => ⟨fun _ => hQ _, fun h => absurd h h1⟩, fun h => absurd h h0⟩, fun h => absurd h h1⟩, fun h => absurd h h0⟩
theorem sim_planned {nb pl m : Md} (hR : RPlan pl m) {x1 : Int32} {Q : Int32 → Md → Md → Int32 → Md → Prop} (hQ : ∀ r, Q r nb pl r m) : qX11_planned nb pl x1 (fun r nb' pl' => qX12_planned m x1 (fun r' m' => Q r nb' pl' r' m')) := by
  obtain ⟨h01, h⟩ := hR
  unfold qX11_planned qX12_planned
  rcases ix32 x1 (n := 40) (by decide) with hb | ⟨s, hs, rfl⟩
  · refine has_bad (n := 40) (by decide) rfl hb ?_
    refine ⟨fun _ => hQ _, fun _ => ?_⟩
    refine inN_bad (n := 39) rfl hb ?_
    simp only [eq_self_iff_true, e32_10, e32_01, true_or, or_true, true_implies, not_true_eq_false, not_false_eq_true, false_implies, and_true, true_and, forall_const, implies_true]
    exact hQ _
  · refine has_ok (n := 40) (by decide) rfl hs ?_
    refine ⟨vp_in_nI (by omega) (by decide), ?_⟩
    rw [nI_clamp (by omega), h s hs]
    refine ⟨fun h0 => ?_, fun h0 => ?_⟩
    · rw [if_pos h0]; exact hQ _
    · rw [if_neg h0]
      refine inN_ok (n := 39) (by decide) rfl (by omega) ?_
      simp only [eq_self_iff_true, e32_10, e32_01, true_or, or_true, true_implies, not_true_eq_false, not_false_eq_true, false_implies, and_true, true_and, forall_const, implies_true]
      exact ⟨vp_in_nI (by omega) (by decide), hQ _⟩
theorem sim_joined {nb pp m : Md} (hR : RPaper pp m) {x1 : Int32} {Q : Int32 → Md → Md → Int32 → Md → Prop} (hQ : ∀ r, Q r nb pp r m) : qX11_joined nb pp x1 (fun r nb' pp' => qX12_joined m x1 (fun r' m' => Q r nb' pp' r' m')) := by
  obtain ⟨-, -, -, ⟨n, hn, e1, e2, h⟩, -⟩ := hR
  unfold qX11_joined qX12_joined
  rcases ix32 x1 (n := n) (by omega) with hb | ⟨s, hs, rfl⟩
  · refine has_bad (by omega) e1 hb ?_
    rcases e2 with e2 | ⟨e3, e2⟩
    · refine inC_bad (by omega) e2 hb ?_
      simp only [eq_self_iff_true, e32_10, e32_01, true_or, or_true, true_implies, not_true_eq_false, not_false_eq_true, false_implies, and_true, true_and, forall_const, implies_true]
      exact hQ _
    · rw [e2]
      refine s_in (fun h1 h2 => ?_) (fun _ => ?_)
      · exfalso
        rw [Int32.toInt_toInt64] at h1 h2
        have h3 : x1.toInt ≤ -2 := h2
        have h4 : (0 : Int) ≤ x1.toInt := h1
        omega
      · simp only [eq_self_iff_true, e32_10, e32_01, true_or, or_true, true_implies, not_true_eq_false, not_false_eq_true, false_implies, and_true, true_and, forall_const, implies_true]
        exact hQ _
  · refine has_ok (by omega) e1 hs ?_
    refine ⟨vp_in_nI (by omega) (by decide), ?_⟩
    have e2 : gF m 47 = nI n := by
      rcases e2 with e2 | ⟨e3, e2⟩
      · exact e2
      · omega
    refine inC_ok (by omega) e2 hs ?_
    simp only [eq_self_iff_true, e32_10, e32_01, true_or, or_true, true_implies, not_true_eq_false, not_false_eq_true, false_implies, and_true, true_and, forall_const, implies_true]
    refine ⟨vp_in_nI (by omega) (by decide), ?_⟩
    rw [nI_clamp (by omega), h s hs]
    exact hQ _
