theorem rulA_cg {A B : Nat → Nat → Nat} (hB : ∀ c, c ≠ 38 → B c = A c) (s n i : Nat) : rulA B s n i = rulA A s n i := by
  unfold rulA fitB prvA nxtA
  rw [hB 13 (by decide), hB 14 (by decide), hB 17 (by decide), hB 18 (by decide), hB 19 (by decide), hB 20 (by decide), hB 21 (by decide), hB 24 (by decide), hB 25 (by decide)]
theorem splF_cg {A B : Nat → Nat → Nat} (hB : ∀ c, c ≠ 38 → B c = A c) (s n : Nat) : ∀ k i, splF B s n k i = splF A s n k i := by
  intro k
  induction k with
  | zero => intro i; rfl
  | succ k ih =>
    intro i
    unfold splF
    rw [rulA_cg hB, ih, ih, hB 13 (by decide), hB 14 (by decide), hB 20 (by decide), hB 22 (by decide), hB 23 (by decide)]
theorem spl_cg {A B : Nat → Nat → Nat} (hB : ∀ c, c ≠ 38 → B c = A c) : spl B = spl A := by
  funext n y
  unfold spl spA
  rw [splF_cg hB, hB 11 (by decide), hB 15 (by decide), hB 16 (by decide), hB 53 (by decide)]
theorem cls_ne {A : Nat → Nat → Nat} {h : Nat} : ∀ c, c ≠ 38 → clsA A h c = A c := fun c hc => upc_ne A _ _ hc
theorem nAlk_cls {A : Nat → Nat → Nat} {h n : Nat} : nAlk (clsA A h) n = nAlk A n := by
  unfold nAlk AlkX edA
  rw [spl_cg (A := A) (B := clsA A h) cls_ne]
  rfl
theorem why_cls {A : Nat → Nat → Nat} {h x n r : Nat} (hy : why (clsA A h) x n r) : why A x n r := by
  unfold why at hy ⊢
  rw [nAlk_cls] at hy
  exact hy
theorem M_close191 {m : Md} {A : Nat → Nat → Nat} {c n : Nat} (hw : Wf A c) (hc : c + 1 ≤ 512) (hm : MW (gA m 1) A) (hn : n < A 52 0) {Q : Int32 → Md → Prop} (h3 : nAlk A n → ∀ m', Fr [(1, 28), (0, 21), (1, 19), (1, 20), (0, 26), (1, 25), (1, 27)] m m' → Q 3 m') (h0 : ¬ nAlk A n → ∀ m', Fr [(1, 1), (1, 28), (0, 21), (1, 19), (1, 20), (0, 26), (1, 25), (1, 27)] m m' → MW (gA m' 1) (evtA A (A 10 n) (A 11 n) (n + 1)) → Q 0 m') : qX12_close_191 Q m (nI n) := by
  have b2 : A 52 0 ≤ 80 := hw.1.2.2.1
  have pn := hm.2.2.2.2.1 n hn
  unfold qX12_close_191
  have key : ¬ nAlk A n → ∀ m', Fr [(1, 28), (0, 21), (1, 19), (1, 20), (0, 26), (1, 25), (1, 27)] m m' → qX12_nameIs m' (nI n) 0 (fun r207 v207_0 => qX12_nameIs v207_0 (nI n) 1 (fun r214 v214_0 => qX12_event v214_0 r207 r214 (nI n) (fun v219_0 => Q 0 v219_0))) := by
    intro hno m' fm
    have g1 : gA m' 1 = gA m 1 := fm.2.1 1 (by decide)
    unfold qX12_nameIs
    dsimp only
    rw [nl_90, nl_16, nl_0, nl_1, pk_mul, nI_add, nI_add, nI_add, nI_clamp (by omega), nI_clamp (by omega), Nat.add_zero, g1, pn.1, pn.2.1]
    refine ⟨vp_in_nI (by omega) (by decide), vp_in_nI (by omega) (by decide), ?_⟩
    rw [← oI_s n]
    exact M_event hw hc (by rw [g1]; exact hm) (fun m2 fm2 hm2 => h0 hno m2 ((fm.mono (by decide)).tr (fm2.mono (by decide))) hm2)
  refine M_isTooAlike hw hm hn (fun e => b_0' (key (fun q => q.1 e) m Fr.rf)) (fun e hx m' fm => b_1' (h3 ⟨e, hx⟩ m' fm)) (fun e hno m' fm => b_0' (key (fun q => by obtain ⟨p, t, q1, q2, q3⟩ := q.2; exact hno p t q1 q2 q3) m' fm))
theorem M_close {m : Md} {A : Nat → Nat → Nat} {c h : Nat} (hw : Wf A c) (hc : c + 1 ≤ 512) (hm : MW (gA m 1) A) (hh : h < A 55 0) (ho : A 38 h = 1) {Q : Int32 → Md → Prop} (hQ : ∀ r m', r ≤ 3 → why A h (A 37 h) r → Fr [(1, 1), (1, 28), (0, 21), (1, 19), (1, 20), (0, 26), (1, 25), (1, 27)] m m' → (r ≠ 0 → MW (gA m' 1) (clsA A h)) → (r = 0 → MW (gA m' 1) (evtA (clsA A h) (A 10 (A 37 h)) (A 11 (A 37 h)) (A 37 h + 1))) → Q (nI r) m') : qX12_close m (nI h) Q := by
  have b0 : A 50 0 < 400 := hw.1.1
  have b2 : A 52 0 ≤ 80 := hw.1.2.2.1
  have b5 : A 55 0 ≤ 60 := hw.1.2.2.2.2.2.1
  have e5 : gA m 1 5 = nI (A 55 0) := hm.1.2.2.2.2.2.1
  obtain ⟨p1, p2, p3⟩ := hm.2.2.2.2.2.2.2.1 h hh
  obtain ⟨w1, w2, w3⟩ := hw.2.2.2.2.2.2.2.1.1 h hh
  have hw' := (cls_Wf hw hh ho).1
  unfold qX12_close
  refine m_isHe1 e5 (by omega) hh (b_1 ?_)
  unfold qX12_hearing
  dsimp only
  rw [nl_6030, nl_11, pk_mul, nI_add, nl_1, nI_add, nI_clamp (by omega), p2, ho]
  refine ⟨vp_in_nI (by omega) (by decide), c_n' (by decide) ⟨vp_in_nI (by omega) (by decide), fun w hw1 => ?_⟩⟩
  have fw : Fr [(1, 1)] m w := by rw [hw1]; exact Fr.tA 1 _ _ (by decide)
  have hV : gA w 1 = va_up (gA m 1) (6030 + 11 * h + 1) 0 := by rw [hw1]; simp (disch := omega) only [ofI1, nI_add, pk_mul, pk_sub, nI_clamp, imin_nI, imax_nI, nl_0, nl_1, nl_2, nl_3, nl_4, nl_5, nl_6, nl_7, nl_8, nl_9, nl_10, nl_11, nl_12, nl_13, nl_15, nl_16, nl_20, nl_24, nl_26, nl_30, nl_32, nl_36, nl_39, nl_40, nl_45, nl_48, nl_50, nl_57, nl_59, nl_60, nl_61, nl_62, nl_64, nl_72, nl_73, nl_80, nl_90, nl_97, nl_99, nl_100, nl_120, nl_122, nl_123, nl_127, nl_128, nl_199, nl_200, nl_255, nl_256, nl_290, nl_399, nl_400, nl_500, nl_512, nl_520, nl_600, nl_999, nl_1000, nl_2000, nl_9999, nl_10000, nl_14, nl_17, nl_18, nl_19, nl_21, nl_22, nl_23, nl_25, nl_27, nl_28, nl_29, nl_31, nl_33, nl_34, nl_35, nl_47, nl_51, nl_63, nl_110, nl_195, nl_240, nl_1370, nl_3710, nl_6030, nl_6690, nl_7490, nl_7610, nl_9170, nl_11570, gA_sF, gL_sF, gB_sF, gZ_sF, gO_sF, gX_sF, gF_sA, gL_sA, gB_sA, gZ_sA, gO_sA, gX_sA, gF_sL, gA_sL, gB_sL, gZ_sL, gO_sL, gX_sL, gF_sB, gA_sB, gL_sB, gZ_sB, gO_sB, gX_sB, gF_sZ, gA_sZ, gL_sZ, gB_sZ, gO_sZ, gX_sZ, gF_sO, gA_sO, gL_sO, gB_sO, gZ_sO, gX_sO, gF_sX, gA_sX, gL_sX, gB_sX, gZ_sX, gO_sX, gF_tA, gL_tA, gB_tA, gZ_tA, gO_tA, gX_tA, gF_tL, gA_tL, gB_tL, gZ_tL, gO_tL, gX_tL, gF_tB, gA_tB, gL_tB, gZ_tB, gO_tB, gX_tB, gF_tZ, gA_tZ, gL_tZ, gB_tZ, gO_tZ, gX_tZ, gF_sF, gA_sA, gL_sL, gB_sB, gZ_sZ, gO_sO, gX_sX, gA_tA, gL_tL, gB_tB, gZ_tZ, reduceIte, Nat.reduceEqDiff, Nat.zero_ne_one, Nat.one_ne_zero, Nat.succ_ne_self, forall_eq, vpT, cpyT, nI_leI, nI_ltI, nI_eq, nI_m1, oI_eqn, oI_eqm, va_up_ne', va_up_eq, eq_self_iff_true, true_or, or_true, true_implies, not_true_eq_false, not_false_eq_true, false_implies, and_true, true_and, forall_const, implies_true, ne_eq, Nat.add_sub_cancel, nI_pos, ite_self]
  have hv : ∀ k, k ≠ 6030 + 11 * h + 1 → gA w 1 k = gA m 1 k := fun k q => by rw [hV, va_up_ne' _ _ q]
  have hmw : MW (gA w 1) (clsA A h) := by
    obtain ⟨⟨k0, k1, k2, k3, k4, k5, k6, k7, k8, k9⟩, h1, h2, h3, h4, h5, h6, h7, h8, h9⟩ := id hm; obtain ⟨⟨w0, w1, w2, w3, w4, w5, w6, w7, w8, w9, wc⟩, -, -, -, wn, ws, wa, -⟩ := id hw; refine ⟨⟨(hv 0 (by omega)).trans k0, (hv 1 (by omega)).trans k1, (hv 2 (by omega)).trans k2, (hv 3 (by omega)).trans k3, (hv 4 (by omega)).trans k4, (hv 5 (by omega)).trans k5, (hv 6 (by omega)).trans k6, (hv 7 (by omega)).trans k7, (hv 8 (by omega)).trans k8, (hv 9 (by omega)).trans k9⟩, h1.w w1 (fun k _ _ => hv k (by omega)), h2.w (by omega) (fun k _ _ => hv k (by omega)), h3.w w6 (fun k _ _ => hv k (by omega)), h4.w w2 wn (fun k _ _ => hv k (by omega)), h5.w w3 ws (fun k _ _ => hv k (by omega)), h6.w w4 wa (fun k _ _ => hv k (by omega)), ?_, h8.w w7 (fun k _ _ => hv k (by omega)), h9.w (by omega) (fun k _ _ => hv k (by omega))⟩
    intro h' hh'
    have hh2 : h' < A 55 0 := hh'
    obtain ⟨r1, r2, r3⟩ := h7 h' hh'
    rw [hv _ (by omega)]
    refine ⟨r1, ?_, fun v hv9 => by rw [hv _ (by omega)]; exact r3 v hv9⟩
    show _ = nI (va_up (A 38) h 0 h')
    by_cases e : h' = h
    · rw [e, hV, va_up_eq, va_up_eq]; rfl
    · rw [hv _ (by omega), va_up_ne' _ _ e]; exact r2
  have q1 : gA w 1 (6030 + 11 * h) = nI (A 37 h) := by rw [hv _ (by omega)]; exact p1
  have q3 : ∀ v, v < 9 → gA w 1 (6030 + 11 * h + 2 + v) = nI (A 39 (9 * h + v)) := fun v hv9 => by rw [hv _ (by omega)]; exact p3 v hv9
  generalize hn : A 37 h = n at *
  have hn52 : n < A 52 0 := w1
  have pd : gA w 1 (90 + 16 * n + 2) = dI (A 12 n) := (hmw.2.2.2.2.1 n hn52).2.2.1
  have wd := (hw.2.2.2.2.1 n hn52).2.2.1
  have n5 := numA_le hw (kind := 5) (wo := 50) (by omega)
  have n3 := numA_le hw (kind := 3) (wo := 0) (by omega)
  have cv := cntF_le (f := fun v => A 39 (9 * h + v) != 0) 9
  have cp := cntF_le (f := fun v => A 39 (9 * h + v) == 1) 9
  refine pk_loop (fun k v (s : Nat × Nat) => qX12_close_49 Q k w (nI h) (nI s.1) (nI s.2) (nI v)) (fun v s => s.1 = cntF (fun v => A 39 (9 * h + v) != 0) v ∧ s.2 = cntF (fun v => A 39 (9 * h + v) == 1) v) 9 0 (0, 0) (by omega) ⟨rfl, rfl⟩ (fun k s hI => ?_) (fun k v s hv9 hI ih => ?_)
  · obtain ⟨i1, i2⟩ := hI
    have hmu : numA A 5 50 * cntF (fun v => A 39 (9 * h + v) != 0) 9 ≤ 9999 * 9 := Nat.mul_le_mul n5 cv
    unfold qX12_close_49
    rw [i1, i2]
    refine c_y (by decide) (c_eq rfl nl_0 (by omega) (by decide) (fun e => ?_) (fun e => ?_))
    · refine hQ 1 w (by omega) (Or.inl ⟨?_, rfl⟩) (fw.mono (by decide)) (fun _ => hmw) (fun q => absurd q (by decide))
      unfold tfB; rw [e]; rfl
    · refine M_num (kind := 5) (wo := 50) hw' hmw (by omega) ?_
      show (nI (numA A 5 50) * nI (cntF (fun v => A 39 (9 * h + v) != 0) 9) ≤ 100 * nI (cntF (fun v => A 39 (9 * h + v) == 1) 9) → _) ∧ (¬ nI (numA A 5 50) * nI (cntF (fun v => A 39 (9 * h + v) != 0) 9) ≤ 100 * nI (cntF (fun v => A 39 (9 * h + v) == 1) 9) → _)
      rw [pk_mul, nl_100, pk_mul]
      refine c_le rfl rfl (by omega) (by omega) (fun e2 => ?_) (fun e2 => ?_)
      · have htf : tfB A h (numA A 5 50) = false := by unfold tfB; rw [beq_false_of_ne e, decide_eq_false (by omega)]; rfl
        have k191 : ¬ (A 12 n = 1 ∨ (2 ≤ A 12 n ∧ A 50 0 < numA A 3 0 + (A 12 n - 2))) → qX12_close_191 Q w (nI n) := by
          intro hd
          refine M_close191 (A := clsA A h) hw' hc hmw hn52 (fun hx m' fm => ?_) (fun hno m' fm hm' => ?_)
          · exact hQ 3 m' (by omega) (Or.inr (Or.inr (Or.inl ⟨htf, hd, by rw [nAlk_cls] at hx; exact hx, rfl⟩))) ((fw.mono (by decide)).tr (fm.mono (by decide))) (fun _ => by rw [fm.2.1 1 (by decide)]; exact hmw) (fun q => absurd q (by decide))
          · exact hQ 0 m' (by omega) (Or.inr (Or.inr (Or.inr ⟨htf, hd, by rw [nAlk_cls] at hno; exact hno, rfl⟩))) ((fw.mono (by decide)).tr fm) (fun q => absurd rfl q) (fun _ => hm')
        unfold qX12_hearing qX12_nameIs
        dsimp only
        rw [nl_6030, nl_11, pk_mul, nI_add, nI_clamp (by omega), q1, nl_90, nl_16, nl_2, pk_mul, nI_add, nI_add, nI_clamp (by omega), pd]
        refine ⟨vp_in_nI (by omega) (by decide), vp_in_nI (by omega) (by decide), dI_c (by omega) (fun e => ?_) (fun e => k191 (fun q => by rcases q with q | q <;> omega)) (fun e ed => ?_)⟩
        · exact hQ 2 w (by omega) (Or.inr (Or.inl ⟨htf, Or.inl e, rfl⟩)) (fw.mono (by decide)) (fun _ => hmw) (fun q => absurd q (by decide))
        · show qX12_now w _
          unfold qX12_now
          refine ⟨vp_in_nI (n := 0) (by decide) (by decide), ?_⟩
          rw [show gA w 1 (0 : Int32).toNatClampNeg = nI (A 50 0) from hmw.1.1]
          refine M_num (kind := 3) (wo := 0) hw' hmw (by omega) ?_
          show (nI (numA A 3 0) ≤ nI (A 50 0) - dI (A 12 n) → _) ∧ _
          rw [ed]
          refine subI (k := numA A 3 0) b0 (by omega) n3 (fun q => k191 (fun q2 => by rcases q2 with q2 | q2 <;> omega)) (fun q => ?_)
          exact hQ 2 w (by omega) (Or.inr (Or.inl ⟨htf, Or.inr ⟨e, q⟩, rfl⟩)) (fw.mono (by decide)) (fun _ => hmw) (fun q => absurd q (by decide))
      · refine hQ 1 w (by omega) (Or.inl ⟨?_, rfl⟩) (fw.mono (by decide)) (fun _ => hmw) (fun q => absurd q (by decide))
        unfold tfB; rw [decide_eq_true (by omega), Bool.or_true]
  · obtain ⟨x, y⟩ := s
    obtain ⟨i1, i2⟩ := hI
    dsimp only at i1 i2 ⊢
    have w39 := w3 v hv9
    have hq := q3 v hv9
    have ev : cntF (fun v => A 39 (9 * h + v) != 0) (v + 1) = cntF (fun v => A 39 (9 * h + v) != 0) v + (if (A 39 (9 * h + v) != 0) = true then 1 else 0) := rfl
    have ep : cntF (fun v => A 39 (9 * h + v) == 1) (v + 1) = cntF (fun v => A 39 (9 * h + v) == 1) v + (if (A 39 (9 * h + v) == 1) = true then 1 else 0) := rfl
    have k80 : ∀ z : Nat, z = (if (A 39 (9 * h + v) != 0) = true then 1 else 0) → qX12_close_80 Q (qX12_close_49 Q k) w (nI h) (nI y) (nI v) (nI z) (nI x) := by
      intro z hz
      unfold qX12_close_80 qX12_hearing qX12_close_107
      dsimp only
      rw [nl_6030, nl_11, pk_mul, nI_add, nl_2, nI_add, nI_add, nI_clamp (by omega), hq, ofI1, nI_add, nI_add]
      refine ⟨vp_in_nI (by omega) (by decide), c_eq' rfl nl_1 (by omega) (by decide) (fun e => ?_) (fun e => ?_)⟩
      · rw [nl_1, nI_add]
        exact ih (x + z, y + 1) ⟨by show x + z = _; rw [ev, i1, hz], by show y + 1 = _; rw [ep, i2, e]; rfl⟩
      · rw [nl_0, nI_add]
        exact ih (x + z, y + 0) ⟨by show x + z = _; rw [ev, i1, hz], by show y + 0 = _; rw [ep, i2, beq_false_of_ne e]; rfl⟩
    unfold qX12_close_49
    refine c_n (nI_ge (b := 9) hv9 (by decide)) ?_
    unfold qX12_hearing
    dsimp only
    rw [nl_6030, nl_11, pk_mul, nI_add, nl_2, nI_add, nI_add, nI_clamp (by omega), hq]
    refine ⟨vp_in_nI (by omega) (by decide), c_le rfl nl_0 (by omega) (by decide) (fun e => k80 0 ?_) (fun e => k80 1 ?_)⟩
    · rw [show A 39 (9 * h + v) = 0 by omega]; rfl
    · rw [show (A 39 (9 * h + v) != 0) = true from bne_iff_ne.mpr (by omega)]; rfl
theorem sim_close {c : Nat} (hc : c + 1 ≤ 512) {nb m st la sp ac bd sg vw o1 o2 : Md} (hR : RW c m st la sp ac bd sg) {x1 : Int32} {Q : Int32 → Md → Md → Md → Md → Md → Md → Md → Md → Md → Int32 → Md → Prop} (hQ : ∀ r st' bd' vw' o1' o2' m', RW (c + 1) m' st' la sp ac bd' sg → Fr [(1, 1), (1, 28), (0, 21), (1, 19), (1, 20), (0, 26), (1, 25), (1, 27)] m m' → Q r nb st' la sp ac bd' vw' o1' o2' r m') : qX11_close nb st la sp ac bd vw o1 o2 x1 (fun r nb' st' la' sp' ac' bd' vw' o1' o2' => qX12_close m x1 (fun r' m' => Q r nb' st' la' sp' ac' bd' vw' o1' o2' r' m')) := by
  obtain ⟨A, hm, hw, hs, hn⟩ := id hR
  have hR1 := hR.up hc
  have e5 : gA m 1 5 = nI (A 55 0) := hm.1.2.2.2.2.2.1
  have s5 : gF bd 0 = nI (A 55 0) := hn.2.2.2.1.1.1
  have b5 : A 55 0 ≤ 60 := hw.1.2.2.2.2.2.1
  have b0 : A 50 0 < 400 := hw.1.1
  have b2 : A 52 0 ≤ 80 := hw.1.2.2.1
  unfold qX11_close
  rcases ix32 x1 (n := A 55 0) (by omega) with hb | ⟨h, hh, rfl⟩
  · refine bd_has0 s5 (by omega) hb (b_0 ?_)
    unfold qX12_close
    exact m_isHe0 e5 (by omega) hb (b_0 (hQ _ _ _ _ _ _ _ hR1 Fr.rf))
  obtain ⟨q1, q2, q3, q4, q5⟩ := hn.2.2.2.1.1.2 h hh
  obtain ⟨w1, w2, w3⟩ := hw.2.2.2.2.2.2.2.1.1 h hh
  refine bd_has1 s5 (by omega) hh (b_1 ⟨vp_in_nI (by omega) (by decide), ?_⟩)
  rw [nI_clamp (by omega), q3]
  by_cases ho : A 38 h = 0
  · refine c_y' (by rw [ho]; decide) ?_
    have p2 := (hm.2.2.2.2.2.2.2.1 h hh).2.1
    unfold qX12_close
    refine m_isHe1 e5 (by omega) hh (b_1 ?_)
    unfold qX12_hearing
    dsimp only
    rw [nl_6030, nl_11, pk_mul, nI_add, nl_1, nI_add, nI_clamp (by omega), p2, ho]
    exact ⟨vp_in_nI (by omega) (by decide), c_y' rfl (hQ _ _ _ _ _ _ _ hR1 Fr.rf)⟩
  have ho1 : A 38 h = 1 := by omega
  rw [ho1]
  refine c_n' (by decide) ⟨vp_in_nI (by omega) (by decide), fun w hw1 => ⟨vp_in_nI (by omega) (by decide), ?_⟩⟩
  have fw : Fr [(4, 3)] bd w := by rw [hw1]; exact Fr.tZ 3 _ _ (by decide)
  have g3 : gZ w 3 = va_up (gZ bd 3) h false := by rw [hw1, gZ_tZ, if_pos rfl, nI_clamp (by omega)]; rfl
  obtain ⟨hw', hcnt⟩ := cls_Wf hw hh ho1
  have hbd' : Nbd w (clsA A h) := by
    refine ⟨⟨(fw.1 0 (by decide)).trans s5, fun h' hh' => ?_⟩, ?_⟩
    · obtain ⟨r1, r2, r3, r4, r5⟩ := hn.2.2.2.1.1.2 h' hh'
      rw [fw.2.1 1 (by decide), fw.2.1 2 (by decide), fw.2.1 4 (by decide), fw.2.1 5 (by decide), g3]
      refine ⟨r1, r2, ?_, r4, r5⟩
      show _ = (va_up (A 38) h 0 h' == 1)
      by_cases e : h' = h
      · rw [e, va_up_eq, va_up_eq]; rfl
      · rw [va_up_ne' _ _ e, va_up_ne' _ _ e]; exact r3
    · obtain ⟨n, na, pl, to, yr, un, k1, k2, k3, k4⟩ := hn.2.2.2.1.2
      refine ⟨n, na, pl, to, yr, un, k1, (fw.1 6 (by decide)).trans k2, fun i hi => ?_, k4⟩
      rw [fw.2.1 7 (by decide), fw.2.1 8 (by decide), fw.2.1 9 (by decide), fw.2.1 10 (by decide), fw.2.1 11 (by decide)]
      exact k3 i hi
  have g1 : gA w 1 h = nI (A 37 h) := by rw [fw.2.1 1 (by decide)]; exact q1
  have wn := hw.2.2.2.2.1 _ w1
  have pn := hn.2.1.1.2 _ w1
  rw [g1]
  refine N_whyRefused (A := clsA A h) hw' hs hn.1 hn.2.1 hn.2.2.1 hbd'.2 (by omega) (hbd'.1.2 h hh).2.2.2.1 (hbd'.1.2 h hh).2.2.2.2 w1 (fun r v1 v2 v3 hr3 hwhy => ?_)
  by_cases hr0 : r = 0
  · subst hr0
    refine c_y' rfl ⟨vp_in_nI (by omega) (by decide), vp_in_nI (by omega) (by decide), ?_⟩
    rw [nI_clamp (by omega), pn.1, pn.2.1, hs.1]
    refine N_settle (A := clsA A h) hw' hbd' w1 wn.1 wn.2.1 (by show cntF (fun k => A 45 k != 0) (A 59 0) < 60; omega) (fun bd' hbd2 => N_mark hs.1 b0 ?_)
    refine M_close hw hc hm hh ho1 (fun r' m' hr' hwhy' fm k1 k2 => ?_)
    obtain rfl : 0 = r' := why_un (why_cls hwhy) hwhy'
    have hw2 := evt_Wf (A := clsA A h) (x := A 37 h + 1) hw' hc wn.1 wn.2.1 (by show A 37 h + 1 ≤ A 52 0; omega) (fun q => absurd q (by omega)) (fun _ => hcnt)
    refine hQ _ _ _ _ _ _ _ ⟨evtA (clsA A h) (A 10 (A 37 h)) (A 11 (A 37 h)) (A 37 h + 1), k2 rfl, hw2, Nst.tell (A := clsA A h) hs hw2 rfl (fun y hy => evt_low (A := clsA A h) y hy), hn.1, hn.2.1, hn.2.2.1, hbd2, hn.2.2.2.2⟩ fm
  · refine c_n' (by rw [show (0 : Int32) = nI 0 from rfl, nI_eq (by omega) (by omega)]; exact hr0) ?_
    refine M_close hw hc hm hh ho1 (fun r' m' hr' hwhy' fm k1 k2 => ?_)
    obtain rfl : r = r' := why_un (why_cls hwhy) hwhy'
    exact hQ _ _ _ _ _ _ _ ⟨clsA A h, k1 hr0, hw'.up hc, hs, hn.1, hn.2.1, hn.2.2.1, hbd', hn.2.2.2.2⟩ fm
