def stN (A : Nat → Nat → Nat) (p : Nat) : Nat := cntF (fun t => stkA A p t (A 50 0) != []) 3
theorem N_namesAt {bd : Md} {A : Nat → Nat → Nat} {c : Nat} (hw : Wf A c) (h : Nse bd A) {Q : Int32 → Md → Prop} (hQ : Q (nI (sumF (stN A) (A 51 0))) bd) : qX1_namesAt bd (nI (A 51 0)) (nI (A 50 0)) Q := by
  obtain ⟨n, na, pl, to, yr, un, n1, n2, n3, n4⟩ := h
  have b0 : A 50 0 < 400 := hw.1.1
  have b1 : A 51 0 ≤ 40 := hw.1.2.1
  have n60 : n ≤ 60 := by rw [n1]; exact Nse.c60 hw
  unfold qX1_namesAt
  refine pk_loop (fun k p (z : Nat) => qX1_namesAt_5 Q k bd (nI (A 51 0)) (nI (A 50 0)) (nI z) (nI p)) (fun p z => z = sumF (stN A) p) (A 51 0) 0 0 (by omega) rfl (fun k z hI => ?_) (fun ko p z hp hI ih => ?_)
  · unfold qX1_namesAt_5
    rw [hI]
    exact c_y (nI_le (Nat.le_refl _) (by omega)) hQ
  · unfold qX1_namesAt_5
    refine c_n (nI_ge hp (by omega)) ?_
    refine pk_loop (fun k t (y : Nat) => qX1_namesAt_14 Q (qX1_namesAt_5 Q ko) k bd (nI (A 51 0)) (nI (A 50 0)) (nI y) (nI p) (nI t)) (fun t y => y = z + cntF (fun t => stkA A p t (A 50 0) != []) t) 3 0 z (by omega) rfl (fun k y hJ => ?_) (fun k t y ht hJ jh => ?_)
    · unfold qX1_namesAt_14
      rw [ofI1, nI_add]
      exact c_y (by decide) (ih y (by show y = sumF (stN A) p + stN A p; rw [hJ, hI]; rfl))
    · have ec : cntF (fun t => stkA A p t (A 50 0) != []) (t + 1) = cntF (fun t => stkA A p t (A 50 0) != []) t + (if (stkA A p t (A 50 0) != []) = true then 1 else 0) := rfl
      have e4 := n4 p t (A 50 0) b0
      unfold qX1_namesAt_14
      refine c_n (nI_ge (b := 3) ht (by decide)) ?_
      rw [ofI1, nI_add, nI_add]
      refine N_settlingAt (na := na) n60 n2 (fun i hi => by obtain ⟨a1, a2, a3, a4, a5, a6, a7, a8, a9, a10, a11⟩ := n3 i hi; exact ⟨by omega, a3, by omega, a5, a8, a9, a10, a11⟩) (by omega) ht b0 (fun e => ?_) (fun i hi hmt hno => ?_)
      · refine c_y rfl (jh y ?_)
        rw [ec, ← e4, e, hJ]; rfl
      · refine c_n (nI_m1 (by omega)) (jh (y + 1) ?_)
        rw [ec, ← e4, stkC_hd hi hmt hno, hJ]; rfl
theorem M_settledNow {m : Md} {A : Nat → Nat → Nat} {c : Nat} (hw : Wf A c) (hm : MW (gA m 1) A) {Q : Int32 → Md → Prop} (hQ : ∀ m', Fr [(1, 28)] m m' → Q (nI (sumF (stN A) (A 51 0))) m') : qX12_settledNow m Q := by
  have b0 : A 50 0 < 400 := hw.1.1
  have b1 : A 51 0 ≤ 40 := hw.1.2.1
  have b2 : A 52 0 ≤ 80 := hw.1.2.2.1
  have e1 : gA m 1 1 = nI (A 51 0) := hm.1.2.1
  unfold qX12_settledNow
  refine pk_loop (fun k p (z : Md × Nat) => qX12_settledNow_4 Q k z.1 (nI z.2) (nI p)) (fun p z => Fr [(1, 28)] m z.1 ∧ z.2 = sumF (stN A) p) (A 51 0) 0 (m, 0) (by omega) ⟨Fr.rf, rfl⟩ (fun k z hI => ?_) (fun ko p z hp hI ih => ?_)
  · unfold qX12_settledNow_4
    rw [nl_1, nI_clamp (by omega), hI.1.2.1 1 (by decide), e1, hI.2]
    exact ⟨vp_in_nI (by decide) (by decide), c_y (nI_le (Nat.le_refl _) (by omega)) (hQ z.1 hI.1)⟩
  · obtain ⟨u, z⟩ := z
    obtain ⟨i1, i2⟩ := hI
    dsimp only at i1 i2 ⊢
    unfold qX12_settledNow_4
    rw [nl_1, nI_clamp (by omega), i1.2.1 1 (by decide), e1]
    refine ⟨vp_in_nI (by decide) (by decide), c_n (nI_ge hp (by omega)) ?_⟩
    refine pk_loop (fun k t (y : Md × Nat) => qX12_settledNow_16 Q (qX12_settledNow_4 Q ko) k y.1 (nI y.2) (nI p) (nI t)) (fun t y => Fr [(1, 28)] m y.1 ∧ y.2 = z + cntF (fun t => stkA A p t (A 50 0) != []) t) 3 0 (u, z) (by omega) ⟨i1, rfl⟩ (fun k y hJ => ?_) (fun k t y ht hJ jh => ?_)
    · unfold qX12_settledNow_16
      rw [ofI1, nI_add]
      exact c_y (by decide) (ih (y.1, y.2) ⟨hJ.1, by show y.2 = sumF (stN A) p + stN A p; rw [hJ.2, i2]; rfl⟩)
    · obtain ⟨v, y⟩ := y
      obtain ⟨j1, j2⟩ := hJ
      dsimp only at j1 j2 ⊢
      have hmv : MW (gA v 1) A := by rw [j1.2.1 1 (by decide)]; exact hm
      have ec : cntF (fun t => stkA A p t (A 50 0) != []) (t + 1) = cntF (fun t => stkA A p t (A 50 0) != []) t + (if (stkA A p t (A 50 0) != []) = true then 1 else 0) := rfl
      unfold qX12_settledNow_16
      refine c_n (nI_ge (b := 3) ht (by decide)) (M_now hmv (M_settledOf hw hmv hp ht b0 (fun v2 f2 => ?_)))
      unfold qX12_settledNow_41
      rw [nl_1, nl_0, nI_add, nI_add, ofI1, nI_add]
      cases hst : stkA A p t (A 50 0) with
      | nil => exact c_y' rfl (jh (v2, y + 0) ⟨j1.tr f2, by show y + 0 = _; rw [ec, hst, j2]; rfl⟩)
      | cons x r =>
        have hx := stkA_lt hw (show x ∈ stkA A p t (A 50 0) by rw [hst]; exact List.mem_cons_self)
        exact c_n' (nI_m1 (by omega)) (jh (v2, y + 1) ⟨j1.tr f2, by show y + 1 = _; rw [ec, hst, j2]; rfl⟩)
theorem M_lameCount {m : Md} {A : Nat → Nat → Nat} {c : Nat} (hw : Wf A c) (hm : MW (gA m 1) A) {Q : Int32 → Md → Prop} (hQ : ∀ m', Fr [(1, 7), (1, 8), (1, 9), (1, 28), (0, 21), (1, 19), (1, 20), (0, 26), (1, 25)] m m' → Q (nI (cntF (fun s => unl A s (A 50 0)) (A 57 0))) m') : ∃ n', qX12_count_126 Q n' m 0 0 := by
  have b7 : A 57 0 ≤ 40 := hw.1.2.2.2.2.2.2.2.1
  have e7 : gA m 1 7 = nI (A 57 0) := hm.1.2.2.2.2.2.2.2.1
  refine pk_loop (fun k s (z : Md × Nat) => qX12_count_126 Q k z.1 (nI z.2) (nI s)) (fun s z => Fr [(1, 7), (1, 8), (1, 9), (1, 28), (0, 21), (1, 19), (1, 20), (0, 26), (1, 25)] m z.1 ∧ z.2 = cntF (fun s => unl A s (A 50 0)) s) (A 57 0) 0 (m, 0) (by omega) ⟨Fr.rf, rfl⟩ (fun k z hI => ?_) (fun k s z hs hI ih => ?_)
  · unfold qX12_count_126
    rw [nl_7, nI_clamp (by omega), hI.1.2.1 1 (by decide), e7, hI.2]
    exact ⟨vp_in_nI (by decide) (by decide), c_y (nI_le (Nat.le_refl _) (by omega)) (hQ z.1 hI.1)⟩
  · obtain ⟨u, z⟩ := z
    obtain ⟨i1, i2⟩ := hI
    dsimp only at i1 i2 ⊢
    have ec : cntF (fun s => unl A s (A 50 0)) (s + 1) = cntF (fun s => unl A s (A 50 0)) s + (if unl A s (A 50 0) = true then 1 else 0) := rfl
    unfold qX12_count_126
    rw [nl_7, nI_clamp (by omega), i1.2.1 1 (by decide), e7]
    refine ⟨vp_in_nI (by decide) (by decide), c_n (nI_ge hs (by omega)) (M_isLame hw (by rw [i1.2.1 1 (by decide)]; exact hm) hs (fun m' fm => ?_))⟩
    unfold qX12_count_151
    rw [ofI1, nI_add]
    cases hu : unl A s (A 50 0) with
    | true =>
      refine b_1' ?_
      rw [nl_1, nI_add]
      exact ih (m', z + 1) ⟨i1.tr fm, by show z + 1 = _; rw [ec, hu, i2]; rfl⟩
    | false =>
      refine b_0' ?_
      rw [nl_0, nI_add]
      exact ih (m', z + 0) ⟨i1.tr fm, by show z + 0 = _; rw [ec, hu, i2]; rfl⟩
theorem bI01 (b : Bool) : bI b = 0 ∨ bI b = 1 := by cases b <;> decide
def slB (f : Nat → Int32) (s : Nat) : Bool := !decide (f s = -1)
theorem N_rowsHad {nb : Md} {Q : Int32 → Md → Prop} (hQ : Q (nI (cntF (slB (gA nb 9)) 4)) nb) : qX11_rowsHad nb Q := by
  unfold qX11_rowsHad
  refine pk_loop (fun k s (z : Nat) => qX11_rowsHad_4 Q k nb (nI z) (nI s)) (fun s z => z = cntF (slB (gA nb 9)) s) 4 0 0 (by omega) rfl (fun k z hI => ?_) (fun k s z hs hI ih => ?_)
  · unfold qX11_rowsHad_4; rw [hI]; exact c_y (by decide) hQ
  · have ec : cntF (slB (gA nb 9)) (s + 1) = cntF (slB (gA nb 9)) s + (if slB (gA nb 9) s = true then 1 else 0) := rfl
    unfold qX11_rowsHad_4
    rw [nI_clamp (by omega), ofI1, nI_add, nI_add]
    refine c_n (nI_ge (b := 4) hs (by decide)) ⟨vp_in_nI hs (by decide), fun e => ih z ?_, fun e => ih (z + 1) ?_⟩
    · rw [ec, show slB (gA nb 9) s = false by unfold slB; rw [decide_eq_true e]; rfl, hI]; rfl
    · rw [ec, show slB (gA nb 9) s = true by unfold slB; rw [decide_eq_false e]; rfl, hI]; rfl
theorem M_rowsHad {m : Md} {Q : Int32 → Md → Prop} (hQ : Q (nI (cntF (slB (gA m 48)) 4)) m) : ∃ n', qX12_count_178 Q n' m 0 0 := by
  refine pk_loop (fun k s (z : Nat) => qX12_count_178 Q k m (nI z) (nI s)) (fun s z => z = cntF (slB (gA m 48)) s) 4 0 0 (by omega) rfl (fun k z hI => ?_) (fun k s z hs hI ih => ?_)
  · unfold qX12_count_178; rw [hI]; exact c_y (by decide) hQ
  · have ec : cntF (slB (gA m 48)) (s + 1) = cntF (slB (gA m 48)) s + (if slB (gA m 48) s = true then 1 else 0) := rfl
    unfold qX12_count_178 qX12_count_199
    refine c_n (nI_ge (b := 4) hs (by decide)) ⟨vp_in_nI hs (by decide), ?_⟩
    rw [nI_clamp (by omega), nl_0, nI_add, ofI1, nI_add, nl_1, nI_add]
    refine ⟨fun e => ih (z + 1) ?_, fun e => ih (z + 0) ?_⟩
    · rw [ec, show slB (gA m 48) s = true by unfold slB; rw [decide_eq_false (show ¬ gA m 48 s = -1 from e)]; rfl, hI]; rfl
    · rw [ec, show slB (gA m 48) s = false by unfold slB; rw [decide_eq_true (show gA m 48 s = -1 from e)]; rfl, hI]; rfl
theorem sim_count {c : Nat} {nb m st la sp ac bd sg tp vw o1 o2 pp : Md} (hR : RW c m st la sp ac bd sg) (hS : RSlot nb m) (hT : RTape tp m) (hP : RPaper pp m) {x1 : Int32} {Q : Int32 → Md → Md → Md → Md → Md → Md → Md → Md → Md → Md → Md → Md → Int32 → Md → Prop} (hQ : ∀ r vw' o1' o2' m', Fr [(1, 7), (1, 8), (1, 9), (1, 28), (0, 21), (1, 19), (1, 20), (0, 26), (1, 25)] m m' → Q r nb st la sp ac bd sg tp vw' o1' o2' pp r m') : qX11_count nb st la sp ac bd sg tp vw o1 o2 pp x1 (fun r nb' st' la' sp' ac' bd' sg' tp' vw' o1' o2' pp' => qX12_count m x1 (fun r' m' => Q r nb' st' la' sp' ac' bd' sg' tp' vw' o1' o2' pp' r' m')) := by
  obtain ⟨A, hm, hw, hst, hl, hp, ha, hb, hsg⟩ := id hR
  obtain ⟨k0, k1, k2, k3, k4, k5, k6, k7, k8, k9⟩ := hm.1
  obtain ⟨T, -, t1, t2, -⟩ := hT
  obtain ⟨-, -, ⟨n, -, n1, n2, -⟩, -⟩ := hP
  have b0 : A 50 0 < 400 := hw.1.1
  have zi : ∀ k : Nat, k < 10 → vp_in (nI k) 11570 := fun k hk => vp_in_nI (by omega) (by decide)
  unfold qX11_count qX12_count
  rcases ix32 x1 (n := 13) (by omega) with h | ⟨w, hw13, rfl⟩
  · have hne : ∀ k : Nat, k < 13 → ¬ x1 = nI k := fun k hk e => h (by rw [e, nI_toInt (by omega)]; omega)
    refine c_n (hne 0 (by omega)) (c_n (hne 1 (by omega)) (c_n (hne 2 (by omega)) (c_n (hne 3 (by omega)) (c_n (hne 4 (by omega)) (c_n (hne 5 (by omega)) (c_n (hne 6 (by omega)) (c_n (hne 7 (by omega)) (c_n (hne 8 (by omega)) (c_n (hne 9 (by omega)) (c_n (hne 10 (by omega)) (c_n (hne 11 (by omega)) (c_n (hne 12 (by omega)) ?_))))))))))))
    exact c_n (hne 0 (by omega)) (c_n (hne 1 (by omega)) (c_n (hne 2 (by omega)) (c_n (hne 3 (by omega)) (c_n (hne 4 (by omega)) (c_n (hne 5 (by omega)) (c_n (hne 6 (by omega)) (c_n (hne 7 (by omega)) (c_n (hne 8 (by omega)) (c_n (hne 9 (by omega)) (c_n (hne 10 (by omega)) (c_n (hne 11 (by omega)) (c_n (hne 12 (by omega)) (hQ _ _ _ _ _ Fr.rf)))))))))))))
  rcases (show w = 0 ∨ w = 1 ∨ w = 2 ∨ w = 3 ∨ w = 4 ∨ w = 5 ∨ w = 6 ∨ w = 7 ∨ w = 8 ∨ w = 9 ∨ w = 10 ∨ w = 11 ∨ w = 12 by omega) with rfl | rfl | rfl | rfl | rfl | rfl | rfl | rfl | rfl | rfl | rfl | rfl | rfl
  · refine c_y rfl (c_y rfl (M_now hm ?_)); rw [hst.1]; exact hQ _ _ _ _ _ Fr.rf
  · refine c_n (by decide) (c_y rfl (c_n (by decide) (c_y rfl ⟨zi 1 (by omega), ?_⟩))); rw [hl.1.1, show gA m 1 (1 : Int32).toNatClampNeg = _ from k1]; exact hQ _ _ _ _ _ Fr.rf
  · refine c_n (by decide) (c_n (by decide) (c_y rfl (c_n (by decide) (c_n (by decide) (c_y rfl ⟨zi 2 (by omega), ?_⟩))))); rw [hp.1.1, show gA m 1 (2 : Int32).toNatClampNeg = _ from k2]; exact hQ _ _ _ _ _ Fr.rf
  · refine c_n (by decide) (c_n (by decide) (c_n (by decide) (c_y rfl (c_n (by decide) (c_n (by decide) (c_n (by decide) (c_y rfl ⟨zi 3 (by omega), ?_⟩))))))); rw [hp.2.1, show gA m 1 (3 : Int32).toNatClampNeg = _ from k3]; exact hQ _ _ _ _ _ Fr.rf
  · refine c_n (by decide) (c_n (by decide) (c_n (by decide) (c_n (by decide) (c_y rfl (c_n (by decide) (c_n (by decide) (c_n (by decide) (c_n (by decide) (c_y rfl ⟨zi 4 (by omega), ?_⟩))))))))); rw [ha.1, show gA m 1 (4 : Int32).toNatClampNeg = _ from k4]; exact hQ _ _ _ _ _ Fr.rf
  · refine c_n (by decide) (c_n (by decide) (c_n (by decide) (c_n (by decide) (c_n (by decide) (c_y rfl (c_n (by decide) (c_n (by decide) (c_n (by decide) (c_n (by decide) (c_n (by decide) (c_y rfl ⟨zi 5 (by omega), ?_⟩))))))))))); rw [hb.1.1, show gA m 1 (5 : Int32).toNatClampNeg = _ from k5]; exact hQ _ _ _ _ _ Fr.rf
  · refine c_n (by decide) (c_n (by decide) (c_n (by decide) (c_n (by decide) (c_n (by decide) (c_n (by decide) (c_y rfl (c_n (by decide) (c_n (by decide) (c_n (by decide) (c_n (by decide) (c_n (by decide) (c_n (by decide) (c_y rfl ⟨zi 6 (by omega), ?_⟩))))))))))))); rw [hl.2.2.1, show gA m 1 (6 : Int32).toNatClampNeg = _ from k6]; exact hQ _ _ _ _ _ Fr.rf
  · refine c_n (by decide) (c_n (by decide) (c_n (by decide) (c_n (by decide) (c_n (by decide) (c_n (by decide) (c_n (by decide) (c_y rfl (c_n (by decide) (c_n (by decide) (c_n (by decide) (c_n (by decide) (c_n (by decide) (c_n (by decide) (c_n (by decide) (c_y rfl ⟨zi 7 (by omega), ?_⟩))))))))))))))); rw [hsg.1, show gA m 1 (7 : Int32).toNatClampNeg = _ from k7]; exact hQ _ _ _ _ _ Fr.rf
  · refine c_n (by decide) (c_n (by decide) (c_n (by decide) (c_n (by decide) (c_n (by decide) (c_n (by decide) (c_n (by decide) (c_n (by decide) (c_y rfl (N_lameSigns hw hst hl hp ha hb.2 hsg (fun v1 v2 v3 => ?_))))))))))
    exact c_n (by decide) (c_n (by decide) (c_n (by decide) (c_n (by decide) (c_n (by decide) (c_n (by decide) (c_n (by decide) (c_n (by decide) (c_y rfl (M_lameCount hw hm (fun m' fm => hQ _ _ _ _ _ fm))))))))))
  · refine c_n (by decide) (c_n (by decide) (c_n (by decide) (c_n (by decide) (c_n (by decide) (c_n (by decide) (c_n (by decide) (c_n (by decide) (c_n (by decide) (c_y rfl ?_)))))))))
    rw [t1, ← t2]
    exact c_n (by decide) (c_n (by decide) (c_n (by decide) (c_n (by decide) (c_n (by decide) (c_n (by decide) (c_n (by decide) (c_n (by decide) (c_n (by decide) (c_y rfl (hQ _ _ _ _ _ Fr.rf))))))))))
  · refine c_n (by decide) (c_n (by decide) (c_n (by decide) (c_n (by decide) (c_n (by decide) (c_n (by decide) (c_n (by decide) (c_n (by decide) (c_n (by decide) (c_n (by decide) (c_y rfl ?_))))))))))
    rw [n1, ← n2]
    exact c_n (by decide) (c_n (by decide) (c_n (by decide) (c_n (by decide) (c_n (by decide) (c_n (by decide) (c_n (by decide) (c_n (by decide) (c_n (by decide) (c_n (by decide) (c_y rfl (hQ _ _ _ _ _ Fr.rf)))))))))))
  · refine c_n (by decide) (c_n (by decide) (c_n (by decide) (c_n (by decide) (c_n (by decide) (c_n (by decide) (c_n (by decide) (c_n (by decide) (c_n (by decide) (c_n (by decide) (c_n (by decide) (c_y rfl ?_)))))))))))
    rw [hl.1.1, hst.1]
    refine N_namesAt hw hb.2 ?_
    exact c_n (by decide) (c_n (by decide) (c_n (by decide) (c_n (by decide) (c_n (by decide) (c_n (by decide) (c_n (by decide) (c_n (by decide) (c_n (by decide) (c_n (by decide) (c_n (by decide) (c_y rfl (M_settledNow hw hm (fun m' fm => hQ _ _ _ _ _ (fm.mono (by decide)))))))))))))))
  · refine c_n (by decide) (c_n (by decide) (c_n (by decide) (c_n (by decide) (c_n (by decide) (c_n (by decide) (c_n (by decide) (c_n (by decide) (c_n (by decide) (c_n (by decide) (c_n (by decide) (c_n (by decide) (c_y rfl (N_rowsHad ?_)))))))))))))
    have e : cntF (slB (gA nb 9)) 4 = cntF (slB (gA m 48)) 4 := cntF_c 4 (fun s hs => by unfold slB; rw [(hS s hs).2.1])
    rw [e]
    exact c_n (by decide) (c_n (by decide) (c_n (by decide) (c_n (by decide) (c_n (by decide) (c_n (by decide) (c_n (by decide) (c_n (by decide) (c_n (by decide) (c_n (by decide) (c_n (by decide) (c_n (by decide) (c_y rfl (M_rowsHad (hQ _ _ _ _ _ Fr.rf))))))))))))))
