theorem N_dependsOnYear {ac : Md} {A : Nat → Nat → Nat} {c a : Nat} (hw : Wf A c) (h : Nac ac A) (ha : a ≤ A 54 0) {Q : Int32 → Md → Prop} (h0 : (a ≠ 0 → ∀ l, l < A 27 (a - 1) → ∀ c, c < A 31 (12 * (a - 1) + l) → A 33 (4 * (12 * (a - 1) + l) + c) ≠ 3) → Q 0 ac) (h1 : Q 1 ac) : qX0_dependsOnYear ac (oI a) Q := by
  have b4 : A 54 0 ≤ 8 := hw.1.2.2.2.2.1
  unfold qX0_dependsOnYear
  by_cases e : a = 0
  · exact c_y (by rw [e]; rfl) (h0 (fun q => absurd e q))
  · rw [oI_pos (by omega), nI_clamp (by omega)]
    refine c_n (nI_m1 (by omega)) ⟨vp_in_nI (by omega) (by decide), ?_⟩
    cases hz : gZ ac 3 (a - 1) with
    | false => exact c_y rfl (h0 (fun _ => (h.2 (a - 1) (by omega)).2.2.1 hz))
    | true => exact c_n (by decide) h1
theorem N_dueYear {vw o1 o2 st la sp ac bd sg : Md} {A : Nat → Nat → Nat} {c s : Nat} (hw : Wf A c) (hst : Nst st A) (hl : Nla la A) (hp : Nsc sp A) (ha : Nac ac A) (hb : Nse bd A) (hsg : Nsi sg A) (hs : s < A 57 0) (hlame : unl A s (A 50 0) = true) {Q : Int32 → Md → Md → Md → Md → Md → Md → Md → Md → Md → Prop} (hQ : ∀ vw' o1' o2', Q (nI (snc A s (A 50 0) + numA A 4 10)) vw' o1' o2' st la sp ac bd sg) : qX10_dueYear vw o1 o2 st la sp ac bd sg (nI s) Q := by
  have b0 : A 50 0 < 400 := hw.1.1
  have b7 : A 57 0 ≤ 40 := hw.1.2.2.2.2.2.2.2.1
  obtain ⟨q1, q2, q3⟩ := hsg.2 s hs
  obtain ⟨w1, w2, w3⟩ := hw.2.2.2.2.2.2.2.2.1 s hs
  unfold qX10_dueYear
  rw [nI_clamp (by omega), q1, q3]
  refine ⟨vp_in_nI (by omega) (by decide), vp_in_nI (by omega) (by decide), N_show hw hl hp ha hb w1 (by omega) (by omega) (fun v1 r1 h1 => ?_)⟩
  rw [hst.1]
  have k145 : ∀ v1 v2 v3 : Md, qX10_dueYear_145 Q v1 v2 v3 st la sp ac bd sg (nI (snc A s (A 50 0))) := fun v1 v2 v3 => by
    unfold qX10_dueYear_145
    rw [hst.1]
    refine N_inForce hw ha b0 (N_numberOf (kind := 4) (wo := 10) hw ha acA_le (by omega) ?_)
    rw [nI_add]
    exact hQ v1 v2 v3
  refine ⟨A 50 0 + 1, ?_⟩
  -- the state: the row of the sign, since, unlike; the year looked at is y - 1
  refine pk_loopD (fun k y (z : Md × Md × Md × Nat × Bool) => qX10_dueYear_52 Q k z.1 z.2.1 z.2.2.1 st la sp ac bd sg (nI (A 40 s)) (nI (A 42 s)) (nI z.2.2.2.1) (bI z.2.2.2.2) (oI y)) (fun y z => y ≤ A 50 0 ∧ RowIs z.2.1 (shwA A (A 40 s) (A 42 s) (A 42 s)) ∧ (z.2.2.2.2 = true → z.2.2.2.1 = y ∧ unl A s y = true ∧ snc A s y = snc A s (A 50 0)) ∧ (z.2.2.2.2 = false → z.2.2.2.1 = snc A s (A 50 0))) (fun k z hI => ?_) (fun k y z hI ih => ?_) (A 50 0) (v1, r1, o2, A 50 0, true) ⟨Nat.le_refl _, h1, fun _ => ⟨rfl, hlame, rfl⟩, fun h => absurd (show true = false from h) (by decide)⟩
  · obtain ⟨v1, v2, v3, si, b⟩ := z
    obtain ⟨i1, i2, i3, i4⟩ := hI
    dsimp only at i2 i3 i4 ⊢
    unfold qX10_dueYear_52
    have e : si = snc A s (A 50 0) := by
      cases b with
      | true => obtain ⟨j1, j2, j3⟩ := i3 rfl; rw [j1, ← j3]; rfl
      | false => exact i4 rfl
    rw [e]
    refine c_y ?_ (k145 _ _ _)
    rw [Int32.lt_iff_toInt_lt, oI_toInt (by omega), nI_toInt (by omega)]; omega
  · obtain ⟨v1, v2, v3, si, b⟩ := z
    obtain ⟨i1, i2, i3, i4⟩ := hI
    dsimp only at i2 i3 i4 ⊢
    unfold qX10_dueYear_52
    rw [oI_s]
    refine c_lt rfl rfl (by omega) (by omega) (fun e => ?_) (fun e => ?_)
    · have e2 : si = snc A s (A 50 0) := by
        cases b with
        | true =>
          obtain ⟨j1, j2, j3⟩ := i3 rfl
          have : snc A s (y + 1) = y + 1 := by show (if y + 1 ≤ A 42 s then y + 1 else _) = _; rw [if_pos (by omega)]
          rw [j1, ← j3, this]
        | false => exact i4 rfl
      rw [e2]; exact k145 _ _ _
    · cases b with
      | false =>
        rw [i4 rfl]; exact c_y rfl (k145 _ _ _)
      | true =>
        obtain ⟨j1, j2, j3⟩ := i3 rfl
        have hs1 : (if y + 1 ≤ A 42 s then y + 1 else if unl A s y = true then snc A s y else y + 1) = snc A s (A 50 0) := j3
        have k130 : ∀ (v1 v2 v3 : Md), RowIs v2 (shwA A (A 40 s) (A 42 s) (A 42 s)) → unl A s y = true → qX10_dueYear_130 Q (qX10_dueYear_52 Q k) v1 v2 v3 st la sp ac bd sg (nI (A 40 s)) (nI (A 42 s)) (nI si) 1 (nI y) := by
          intro v1 v2 v3 hr hun
          unfold qX10_dueYear_130
          rw [oI_dec]
          refine c_n (by decide) (ih (v1, v2, v3, y, true) ⟨by omega, hr, fun _ => ⟨rfl, hun, ?_⟩, fun h => absurd (show true = false from h) (by decide)⟩)
          by_cases em : y + 1 ≤ A 42 s
          · omega
          · rw [if_neg em, hun, if_pos rfl] at hs1; exact hs1
        have k95 : qX10_dueYear_95 Q (qX10_dueYear_52 Q k) v1 v2 v3 st la sp ac bd sg (nI (A 40 s)) (nI (A 42 s)) (nI si) (nI y) := by
          unfold qX10_dueYear_95
          refine N_show hw hl hp ha hb w1 (by omega) (by omega) (fun u1 r2 h2 => N_readsAs i2 h2 (shw_len hw _ _ _) (shw_len hw _ _ _) (shw_ok hw _ _ _) (shw_ok hw _ _ _) ?_)
          unfold qX10_dueYear_128
          cases hal : alk (shwA A (A 40 s) (A 42 s) (A 42 s)) (shwA A (A 40 s) y y) with
          | false => exact b_0 (k130 _ _ _ i2 (by unfold unl; rw [hal]; rfl))
          | true =>
            have hun : unl A s y = false := by unfold unl; rw [hal]; rfl
            refine b_1 ?_
            unfold qX10_dueYear_130
            rw [oI_dec]
            refine c_y rfl (ih (u1, v2, r2, si, false) ⟨by omega, i2, fun h => absurd (show false = true from h) (by decide), fun _ => ?_⟩)
            show si = _
            by_cases em : y + 1 ≤ A 42 s
            · rw [if_pos em] at hs1; rw [j1]; exact hs1
            · rw [if_neg em, hun, if_neg (by decide)] at hs1; rw [j1]; exact hs1
        refine c_n (by decide) ?_
        rw [nl_1, nI_add, nI_clamp (by omega)]
        refine ⟨vp_in_nI (by omega) (by decide), ?_⟩
        cases hz : gZ st 1 (y + 1) with
        | true => exact c_n' (by decide) k95
        | false =>
          refine c_y' rfl (N_inForce hw ha (by omega) (N_dependsOnYear hw ha acA_le (fun hno => b_0' (k130 _ _ _ i2 ?_)) (b_1' k95)))
          have := shw_same (p := A 40 s) hw (hst.2 y (by omega) hz) hno
          unfold unl at j2 ⊢
          rw [← this]; exact j2
theorem N_lameSigns {vw o1 o2 st la sp ac bd sg : Md} {A : Nat → Nat → Nat} {c : Nat} (hw : Wf A c) (hst : Nst st A) (hl : Nla la A) (hp : Nsc sp A) (ha : Nac ac A) (hb : Nse bd A) (hsg : Nsi sg A) {Q : Int32 → Md → Md → Md → Md → Md → Md → Md → Md → Md → Prop} (hQ : ∀ vw' o1' o2', Q (nI (cntF (fun s => unl A s (A 50 0)) (A 57 0))) vw' o1' o2' st la sp ac bd sg) : qX10_lameSigns vw o1 o2 st la sp ac bd sg Q := by
  have b7 : A 57 0 ≤ 40 := hw.1.2.2.2.2.2.2.2.1
  unfold qX10_lameSigns
  refine pk_loop (fun k s (z : Md × Md × Md × Nat) => qX10_lameSigns_4 Q k z.1 z.2.1 z.2.2.1 st la sp ac bd sg (nI z.2.2.2) (nI s)) (fun s z => z.2.2.2 = cntF (fun s => unl A s (A 50 0)) s) (A 57 0) 0 (vw, o1, o2, 0) (by omega) rfl (fun k z hI => ?_) (fun k s z hs hI ih => ?_)
  · unfold qX10_lameSigns_4
    rw [hsg.1, hI]
    exact c_y (nI_le (Nat.le_refl _) (by omega)) (hQ _ _ _)
  · have ec : cntF (fun s => unl A s (A 50 0)) (s + 1) = cntF (fun s => unl A s (A 50 0)) s + (if unl A s (A 50 0) = true then 1 else 0) := rfl
    unfold qX10_lameSigns_4
    rw [hsg.1]
    refine c_n (nI_ge hs (by omega)) (N_isLame hw hst hl hp ha hb hsg hs (fun v1 v2 v3 => ?_))
    unfold qX10_lameSigns_30
    cases hu : unl A s (A 50 0) with
    | true =>
      refine b_1' ?_
      rw [nl_1, nI_add, ofI1, nI_add]
      exact ih (v1, v2, v3, z.2.2.2 + 1) (by show z.2.2.2 + 1 = _; rw [ec, hu, hI]; rfl)
    | false =>
      refine b_0' ?_
      rw [nl_0, nI_add, ofI1, nI_add]
      exact ih (v1, v2, v3, z.2.2.2 + 0) (by show z.2.2.2 + 0 = _; rw [ec, hu, hI]; rfl)
theorem late_eq {a b : Nat} (ha : a < 2 ^ 30) (hb : b < 2 ^ 30) : imax 0 (nI a - nI b) = nI (a - b) := by
  unfold imax
  by_cases h : b < a
  · rw [pk_sub (by omega), if_pos (show (0 : Int32) < nI (a - b) from nI_lt (a := 0) (b := a - b) (by omega) (by omega))]
  · rw [if_neg (by rw [Int32.lt_iff_toInt_lt, tl_0, pk_sub_toInt ha hb]; omega), show a - b = 0 by omega]; rfl
theorem sim_signOf {c : Nat} {nb m st la sp ac bd sg vw o1 o2 : Md} (hR : RW c m st la sp ac bd sg) {x1 x2 : Int32} {Q : Int32 → Md → Md → Md → Md → Md → Md → Md → Md → Md → Md → Int32 → Md → Prop} (hQ : ∀ r vw' o1' o2' m', Fr [(1, 7), (1, 8), (1, 9), (1, 28), (0, 21), (1, 19), (1, 20), (0, 26), (1, 25)] m m' → Q r nb st la sp ac bd sg vw' o1' o2' r m') : qX11_signOf nb st la sp ac bd sg vw o1 o2 x1 x2 (fun r nb' st' la' sp' ac' bd' sg' vw' o1' o2' => qX12_signOf m x1 x2 (fun r' m' => Q r nb' st' la' sp' ac' bd' sg' vw' o1' o2' r' m')) := by
  obtain ⟨A, hm, hw, hst, hl, hp, ha, hb, hsg⟩ := id hR
  have e7 : gA m 1 7 = nI (A 57 0) := hm.1.2.2.2.2.2.2.2.1
  have s7 : gF sg 0 = nI (A 57 0) := hsg.1
  have b0 : A 50 0 < 400 := hw.1.1
  have b7 : A 57 0 ≤ 40 := hw.1.2.2.2.2.2.2.2.1
  have n4 := numA_le hw (kind := 4) (wo := 10) (by omega)
  unfold qX11_signOf qX12_signOf
  rcases ix32 x1 (n := A 57 0) (by omega) with h | ⟨s, hs, rfl⟩
  · exact sg_has0 s7 (by omega) h (b_0 (m_isSi0 e7 (by omega) h (b_0' (hQ _ _ _ _ _ Fr.rf))))
  have sl := snc_le A s (A 50 0)
  obtain ⟨q1, q2, q3⟩ := hsg.2 s hs
  refine sg_has1 s7 (by omega) hs (b_1 ?_)
  rcases ix32 x2 (n := 6) (by omega) with h | ⟨w, hw6, rfl⟩
  · have hne : ∀ k : Nat, k < 6 → ¬ x2 = nI k := fun k hk e => h (by rw [e, nI_toInt (by omega)]; omega)
    refine c_n (hne 0 (by omega)) (c_n (hne 1 (by omega)) (c_n (hne 2 (by omega)) (c_n (hne 3 (by omega)) (c_n (hne 4 (by omega)) (c_n (hne 5 (by omega)) ?_)))))
    exact m_isSi1 e7 (by omega) hs (b_1' (inN_bad (n := 5) rfl h (b_0 (hQ _ _ _ _ _ Fr.rf))))
  have hS := @M_signIs m A c s hw hm hs
  rcases (show w = 0 ∨ w = 1 ∨ w = 2 ∨ w = 3 ∨ w = 4 ∨ w = 5 by omega) with rfl | rfl | rfl | rfl | rfl | rfl
  · refine c_y rfl (N_isLame hw hst hl hp ha hb.2 hsg hs (fun v1 v2 v3 => ?_))
    cases hu : unl A s (A 50 0) with
    | true =>
      refine b_1' (m_isSi1 e7 (by omega) hs (b_1' (inN_ok (n := 5) (by decide) rfl (by omega) (b_1 (c_y (by decide) (M_isLame hw hm hs (fun m' fm => ?_)))))))
      rw [hu]
      exact fun _ => c_y' rfl (c_n (by decide) (hQ _ _ _ _ _ fm))
    | false =>
      refine b_0' (m_isSi1 e7 (by omega) hs (b_1' (inN_ok (n := 5) (by decide) rfl (by omega) (b_1 (c_y (by decide) (M_isLame hw hm hs (fun m' fm => ?_)))))))
      rw [hu]
      exact fun _ => c_y' rfl (c_y rfl (hQ _ _ _ _ _ fm))
  · refine c_n (by decide) (c_y rfl (N_isLame hw hst hl hp ha hb.2 hsg hs (fun v1 v2 v3 => ?_)))
    cases hu : unl A s (A 50 0) with
    | true =>
      refine b_1' (N_dueYear hw hst hl hp ha hb.2 hsg hs hu (fun u1 u2 u3 => ?_))
      refine m_isSi1 e7 (by omega) hs (b_1' (inN_ok (n := 5) (by decide) rfl (by omega) (b_1 (c_y (by decide) (M_isLame hw hm hs (fun m' fm => ?_))))))
      rw [hu]
      refine fun _ => c_n' (by decide) (c_n' (by decide) (M_lameSince hw (by rw [fm.2.1 1 (by decide)]; exact hm) hs (fun m2 fm2 => ?_)))
      have f2 := fm.tr fm2
      refine M_num (kind := 4) (wo := 10) hw (by rw [f2.2.1 1 (by decide)]; exact hm) (by omega) (c_y' rfl ?_)
      rw [nI_add]
      exact hQ _ _ _ _ _ f2
    | false =>
      refine b_0' (m_isSi1 e7 (by omega) hs (b_1' (inN_ok (n := 5) (by decide) rfl (by omega) (b_1 (c_y (by decide) (M_isLame hw hm hs (fun m' fm => ?_)))))))
      rw [hu]
      exact fun _ => c_n' (by decide) (c_y' rfl (c_y' rfl (hQ _ _ _ _ _ fm)))
  · refine c_n (by decide) (c_n (by decide) (c_y rfl (N_isLame hw hst hl hp ha hb.2 hsg hs (fun v1 v2 v3 => ?_))))
    cases hu : unl A s (A 50 0) with
    | true =>
      refine b_1' (N_dueYear hw hst hl hp ha hb.2 hsg hs hu (fun u1 u2 u3 => ?_))
      rw [hst.1, late_eq (by omega) (by omega)]
      refine m_isSi1 e7 (by omega) hs (b_1' (inN_ok (n := 5) (by decide) rfl (by omega) (b_1 (c_y (by decide) (M_isLame hw hm hs (fun m' fm => ?_))))))
      rw [hu]
      refine fun _ => c_n' (by decide) (c_n' (by decide) (M_lameSince hw (by rw [fm.2.1 1 (by decide)]; exact hm) hs (fun m2 fm2 => ?_)))
      have f2 := fm.tr fm2
      have hm2 : MW (gA m2 1) A := by rw [f2.2.1 1 (by decide)]; exact hm
      refine M_num (kind := 4) (wo := 10) hw hm2 (by omega) (c_n' (by decide) (M_now hm2 ?_))
      rw [nI_add, late_eq (by omega) (by omega)]
      exact hQ _ _ _ _ _ f2
    | false =>
      refine b_0' (m_isSi1 e7 (by omega) hs (b_1' (inN_ok (n := 5) (by decide) rfl (by omega) (b_1 (c_y (by decide) (M_isLame hw hm hs (fun m' fm => ?_)))))))
      rw [hu]
      exact fun _ => c_n' (by decide) (c_y' rfl (c_n' (by decide) (hQ _ _ _ _ _ fm)))
  · refine c_n (by decide) (c_n (by decide) (c_n (by decide) (c_y rfl ⟨vp_in_nI (by omega) (by decide), ?_⟩)))
    rw [nI_clamp (by omega), q3]
    exact m_isSi1 e7 (by omega) hs (b_1' (inN_ok (n := 5) (by decide) rfl (by omega) (b_1 (c_n (by decide) (c_y' rfl (hS.2.2 (hQ _ _ _ _ _ Fr.rf)))))))
  · refine c_n (by decide) (c_n (by decide) (c_n (by decide) (c_n (by decide) (c_y rfl ⟨vp_in_nI (by omega) (by decide), ?_⟩))))
    rw [nI_clamp (by omega), q1]
    exact m_isSi1 e7 (by omega) hs (b_1' (inN_ok (n := 5) (by decide) rfl (by omega) (b_1 (c_n (by decide) (c_n' (by decide) (c_y' rfl (hS.1 (hQ _ _ _ _ _ Fr.rf))))))))
  · refine c_n (by decide) (c_n (by decide) (c_n (by decide) (c_n (by decide) (c_n (by decide) (c_y rfl ⟨vp_in_nI (by omega) (by decide), ?_⟩)))))
    rw [nI_clamp (by omega), q2]
    exact m_isSi1 e7 (by omega) hs (b_1' (inN_ok (n := 5) (by decide) rfl (by omega) (b_1 (c_n (by decide) (c_n' (by decide) (c_n' (by decide) (hS.2.1 (hQ _ _ _ _ _ Fr.rf))))))))
