def wrl (h : Nat → Nat) (k : Nat) : List (Nat × Int32) := (List.range k).map (fun j => (h j, -3))
theorem wrl_len (h : Nat → Nat) (k : Nat) : (wrl h k).length = k := by unfold wrl; simp
theorem wrl_get {h : Nat → Nat} {k j : Nat} {x : Nat × Int32} (e : (wrl h k)[j]? = some x) : j < k ∧ x = (h j, -3) := by
  have hj : j < k := by
    apply Classical.byContradiction
    intro hc
    rw [List.getElem?_eq_none (by rw [wrl_len]; omega)] at e
    exact absurd e (by simp)
  refine ⟨hj, ?_⟩
  unfold wrl at e
  rw [List.getElem?_map, List.getElem?_range hj] at e
  simpa using e.symm
theorem wrl_at {h : Nat → Nat} {k j : Nat} (hj : j < k) : lch (wrl h k) j = h j := by
  have e : (wrl h k)[j]? = some (h j, -3) := by
    unfold wrl
    rw [List.getElem?_map, List.getElem?_range hj]; rfl
  unfold lch; rw [e]
theorem wrl_ok {h : Nat → Nat} {k : Nat} (ha : ∀ j, j < k → h j < 128) : okL (wrl h k) := by
  intro x hx
  unfold wrl at hx
  obtain ⟨j, hj, e⟩ := List.mem_map.1 hx
  rw [← e]; exact ha j (List.mem_range.1 hj)
theorem sim_join {c : Nat} {nb m st la sp ac bd sg vw o1 o2 pa : Md} (hR : RW c m st la sp ac bd sg) (hP : RPaper pa m) {Q : Int32 → Md → Md → Md → Md → Md → Md → Md → Md → Int32 → Md → Prop} (hQ : ∀ r vw' o1' o2' pa' m', Fr [(0, 21), (1, 19), (1, 20), (0, 26), (1, 25), (1, 27), (0, 40), (1, 41), (1, 42), (1, 43), (1, 44), (0, 45), (0, 47), (1, 46)] m m' → RPaper pa' m' → Q r nb st la sp vw' o1' o2' pa' r m') : qX11_join nb st la sp vw o1 o2 pa (fun r nb' st' la' sp' vw' o1' o2' pa' => qX12_join m (fun r' m' => Q r nb' st' la' sp' vw' o1' o2' pa' r' m')) := by
  obtain ⟨A, hm, hw, hst, hl, hsp, ha, hb, hsg⟩ := id hR
  obtain ⟨p1, p2, ⟨n, n7, n1, n2, n3⟩, p4, p5⟩ := id hP
  have b1 : A 51 0 ≤ 40 := hw.1.2.1
  unfold qX11_join qX12_join
  rcases p2 with p2 | ⟨y, hy, p2⟩
  · refine c_y' p2 (c_y' (by rw [← p1]; exact p2) (hQ _ _ _ _ _ _ Fr.rf hP))
  have h36 : gF m 36 = nI y := by rw [← p1]; exact p2
  have hWe : ∀ i : Nat, ∃ l : List (Nat × Int32), i < n → l.length ≤ 24 ∧ okL l ∧ gA pa 2 i = nI l.length ∧ gA m 39 i = nI l.length ∧ (∀ j x, l[j]? = some x → (gB pa 3 (24 * i + j)).toInt32 = nI x.1 ∧ x.2 = -3) ∧ ∀ j, j < l.length → gA m 38 (24 * i + j) = nI (lch l j) := fun i => by
    by_cases hi : i < n
    · obtain ⟨k, k1, k2, k3, k4, k5⟩ := n3 i hi
      have hh : ∀ j : Nat, ∃ a : Nat, j < k → a < 128 ∧ gA m 38 (24 * i + j) = nI a := fun j => by
        by_cases hj : j < k
        · obtain ⟨a, a1, a2⟩ := (k5 j hj).2; exact ⟨a, fun _ => ⟨a1, a2⟩⟩
        · exact ⟨0, fun h => absurd h hj⟩
      obtain ⟨h, hh'⟩ := Classical.axiomOfChoice hh
      refine ⟨wrl h k, fun _ => ⟨by rw [wrl_len]; exact k2, wrl_ok (fun j hj => (hh' j hj).1), by rw [wrl_len]; exact k3, by rw [wrl_len]; exact k4, fun j x hx => ?_, fun j hj => ?_⟩⟩
      · obtain ⟨hj, rfl⟩ := wrl_get hx
        exact ⟨(k5 j hj).1.trans (hh' j hj).2, rfl⟩
      · rw [wrl_len] at hj
        rw [wrl_at hj]; exact (hh' j hj).2
    · exact ⟨[], fun h => absurd h hi⟩
  obtain ⟨W, hW⟩ := Classical.axiomOfChoice hWe
  have hWn : Wr pa n W := fun i hi => ⟨(hW i hi).1, (hW i hi).2.1, (hW i hi).2.2.1, (hW i hi).2.2.2.2.1⟩
  have hWm : WrM m n W := fun i hi => ⟨(hW i hi).1, (hW i hi).2.1, (hW i hi).2.2.2.1, (hW i hi).2.2.2.2.2⟩
  have hl51 := lcn_le (hnF A) (A 51 0)
  -- the reference's first loop
  have hM : ∀ {Q2 : Int32 → Md → Prop}, (noJoin A n → ∀ m', Fr [(0, 40), (1, 41)] m m' → Q2 (-1) m') → (¬ noJoin A n → ∀ m', Fr [(0, 40), (1, 41)] m m' → gF m' 40 = nI (lcn (hnF A) (A 51 0)) → (∀ c, c < lcn (hnF A) (A 51 0) → gA m' 41 c = nI (lsg (hnF A) (A 51 0) c)) → ∃ n', qX12_join_90 Q2 n' m' 0) → ∃ n', qX12_join_17 Q2 n' (sF m 40 0) 0 := by
    intro Q2 h0 h1
    refine pk_loop (fun f p u => qX12_join_17 Q2 f u (nI p)) (fun p u => Fr [(0, 40), (1, 41)] m u ∧ gF u 40 = nI (lcn (hnF A) p) ∧ lcn (hnF A) p ≤ 10 ∧ ∀ c, c < lcn (hnF A) p → gA u 41 c = nI (lsg (hnF A) p c)) (A 51 0) 0 _ (Nat.zero_le _) ⟨Fr.sF 40 _ (by decide), rfl, Nat.zero_le _, fun c hc => absurd hc (Nat.not_lt_zero _)⟩ (fun f u hI => ?_) (fun f p u hp hI ih => ?_)
    · obtain ⟨i1, i2, i3, i4⟩ := hI
      have e1 : gA u 1 1 = nI (A 51 0) := by rw [i1.2.1 1 (by decide)]; exact hm.1.2.1
      unfold qX12_join_17
      refine c_in nl_1 (by decide) (by decide) ?_
      rw [show gA u 1 (1 : Int32).toNatClampNeg = nI (A 51 0) from e1, show gF u 37 = nI n from (i1.1 37 (by decide)).trans n2, i2]
      refine c_y (nI_le (Nat.le_refl _) (by omega)) (c_le rfl rfl (by omega) (by omega) (fun hnk => h1 ?_ u i1 i2 i4) (fun hnk => h0 (Or.inr (by omega)) u i1))
      rintro (q | q) <;> omega
    · obtain ⟨i1, i2, i3, i4⟩ := hI
      have hmu : MW (gA u 1) A := by rw [i1.2.1 1 (by decide)]; exact hm
      have e1 : gA u 1 1 = nI (A 51 0) := hmu.1.2.1
      unfold qX12_join_17
      refine c_in nl_1 (by decide) (by decide) ?_
      rw [show gA u 1 (1 : Int32).toNatClampNeg = nI (A 51 0) from e1]
      refine c_n (nI_ge hp (by omega)) (M_hasName hw hmu (by omega) ?_)
      rw [ofI1, nI_add]
      cases hb : hnF A p with
      | false =>
        obtain ⟨e1, e2⟩ := lcn_s0 hb
        refine b_0 (ih u ?_)
        rw [e1, e2]
        exact ⟨i1, i2, i3, i4⟩
      | true =>
        obtain ⟨e1, e2⟩ := lcn_s1 hb
        have mono := lcn_mono (hnF A) (show p + 1 ≤ A 51 0 by omega)
        rw [i2]
        refine b_1 (c_eq' (b := 10) rfl rfl (by omega) (by decide) (fun e => h0 (Or.inl (by omega)) u i1) (fun e => c_in rfl (by omega) (by decide) (fun w58 hw58 w66 hw66 => ?_)))
        have e6 : gF w58 40 = nI (lcn (hnF A) p) := by rw [hw58]; exact i2
        rw [e6, nl_1, nI_add] at hw66
        subst hw66 hw58
        refine ih _ ⟨(i1.tr (Fr.tA 41 _ _ (by decide))).tr (Fr.sF 40 _ (by decide)), ?_, by omega, fun c hc => ?_⟩
        · rw [e1]; simp (disch := omega) only [ofI1, nI_add, pk_mul, pk_sub, nI_clamp, imin_nI, imax_nI, nl_0, nl_1, nl_2, nl_3, nl_4, nl_5, nl_6, nl_7, nl_8, nl_9, nl_10, nl_11, nl_12, nl_13, nl_15, nl_16, nl_20, nl_24, nl_26, nl_30, nl_32, nl_36, nl_39, nl_40, nl_45, nl_48, nl_50, nl_57, nl_59, nl_60, nl_61, nl_62, nl_64, nl_72, nl_73, nl_80, nl_90, nl_97, nl_99, nl_100, nl_120, nl_122, nl_123, nl_127, nl_128, nl_199, nl_200, nl_255, nl_256, nl_290, nl_399, nl_400, nl_500, nl_512, nl_520, nl_600, nl_999, nl_1000, nl_2000, nl_9999, nl_10000, nl_14, nl_17, nl_18, nl_19, nl_21, nl_22, nl_23, nl_25, nl_27, nl_28, nl_29, nl_31, nl_33, nl_34, nl_35, nl_47, nl_51, nl_63, nl_110, nl_195, nl_240, nl_1370, nl_3710, nl_6030, nl_6690, nl_7490, nl_7610, nl_9170, nl_11570, gA_sF, gL_sF, gB_sF, gZ_sF, gO_sF, gX_sF, gF_sA, gL_sA, gB_sA, gZ_sA, gO_sA, gX_sA, gF_sL, gA_sL, gB_sL, gZ_sL, gO_sL, gX_sL, gF_sB, gA_sB, gL_sB, gZ_sB, gO_sB, gX_sB, gF_sZ, gA_sZ, gL_sZ, gB_sZ, gO_sZ, gX_sZ, gF_sO, gA_sO, gL_sO, gB_sO, gZ_sO, gX_sO, gF_sX, gA_sX, gL_sX, gB_sX, gZ_sX, gO_sX, gF_tA, gL_tA, gB_tA, gZ_tA, gO_tA, gX_tA, gF_tL, gA_tL, gB_tL, gZ_tL, gO_tL, gX_tL, gF_tB, gA_tB, gL_tB, gZ_tB, gO_tB, gX_tB, gF_tZ, gA_tZ, gL_tZ, gB_tZ, gO_tZ, gX_tZ, gF_sF, gA_sA, gL_sL, gB_sB, gZ_sZ, gO_sO, gX_sX, gA_tA, gL_tL, gB_tB, gZ_tZ, reduceIte, Nat.reduceEqDiff, Nat.zero_ne_one, Nat.one_ne_zero, Nat.succ_ne_self, forall_eq, vpT, cpyT, nI_leI, nI_ltI, nI_eq, nI_m1, oI_eqn, oI_eqm, va_up_ne', va_up_eq, eq_self_iff_true, true_or, or_true, true_implies, not_true_eq_false, not_false_eq_true, false_implies, and_true, true_and, forall_const, implies_true, ne_eq, Nat.add_sub_cancel, nI_pos, ite_self]
        · rw [e2]
          by_cases e : c = lcn (hnF A) p
          · subst e
            rw [va_up_eq]
            simp (disch := omega) only [ofI1, nI_add, pk_mul, pk_sub, nI_clamp, imin_nI, imax_nI, nl_0, nl_1, nl_2, nl_3, nl_4, nl_5, nl_6, nl_7, nl_8, nl_9, nl_10, nl_11, nl_12, nl_13, nl_15, nl_16, nl_20, nl_24, nl_26, nl_30, nl_32, nl_36, nl_39, nl_40, nl_45, nl_48, nl_50, nl_57, nl_59, nl_60, nl_61, nl_62, nl_64, nl_72, nl_73, nl_80, nl_90, nl_97, nl_99, nl_100, nl_120, nl_122, nl_123, nl_127, nl_128, nl_199, nl_200, nl_255, nl_256, nl_290, nl_399, nl_400, nl_500, nl_512, nl_520, nl_600, nl_999, nl_1000, nl_2000, nl_9999, nl_10000, nl_14, nl_17, nl_18, nl_19, nl_21, nl_22, nl_23, nl_25, nl_27, nl_28, nl_29, nl_31, nl_33, nl_34, nl_35, nl_47, nl_51, nl_63, nl_110, nl_195, nl_240, nl_1370, nl_3710, nl_6030, nl_6690, nl_7490, nl_7610, nl_9170, nl_11570, gA_sF, gL_sF, gB_sF, gZ_sF, gO_sF, gX_sF, gF_sA, gL_sA, gB_sA, gZ_sA, gO_sA, gX_sA, gF_sL, gA_sL, gB_sL, gZ_sL, gO_sL, gX_sL, gF_sB, gA_sB, gL_sB, gZ_sB, gO_sB, gX_sB, gF_sZ, gA_sZ, gL_sZ, gB_sZ, gO_sZ, gX_sZ, gF_sO, gA_sO, gL_sO, gB_sO, gZ_sO, gX_sO, gF_sX, gA_sX, gL_sX, gB_sX, gZ_sX, gO_sX, gF_tA, gL_tA, gB_tA, gZ_tA, gO_tA, gX_tA, gF_tL, gA_tL, gB_tL, gZ_tL, gO_tL, gX_tL, gF_tB, gA_tB, gL_tB, gZ_tB, gO_tB, gX_tB, gF_tZ, gA_tZ, gL_tZ, gB_tZ, gO_tZ, gX_tZ, gF_sF, gA_sA, gL_sL, gB_sB, gZ_sZ, gO_sO, gX_sX, gA_tA, gL_tL, gB_tB, gZ_tZ, reduceIte, Nat.reduceEqDiff, Nat.zero_ne_one, Nat.one_ne_zero, Nat.succ_ne_self, forall_eq, vpT, cpyT, nI_leI, nI_ltI, nI_eq, nI_m1, oI_eqn, oI_eqm, va_up_ne', va_up_eq, eq_self_iff_true, true_or, or_true, true_implies, not_true_eq_false, not_false_eq_true, false_implies, and_true, true_and, forall_const, implies_true, ne_eq, Nat.add_sub_cancel, nI_pos, ite_self]
          · rw [va_up_ne' _ _ e]
            have := i4 c (by omega)
            simp (disch := omega) only [this, ofI1, nI_add, pk_mul, pk_sub, nI_clamp, imin_nI, imax_nI, nl_0, nl_1, nl_2, nl_3, nl_4, nl_5, nl_6, nl_7, nl_8, nl_9, nl_10, nl_11, nl_12, nl_13, nl_15, nl_16, nl_20, nl_24, nl_26, nl_30, nl_32, nl_36, nl_39, nl_40, nl_45, nl_48, nl_50, nl_57, nl_59, nl_60, nl_61, nl_62, nl_64, nl_72, nl_73, nl_80, nl_90, nl_97, nl_99, nl_100, nl_120, nl_122, nl_123, nl_127, nl_128, nl_199, nl_200, nl_255, nl_256, nl_290, nl_399, nl_400, nl_500, nl_512, nl_520, nl_600, nl_999, nl_1000, nl_2000, nl_9999, nl_10000, nl_14, nl_17, nl_18, nl_19, nl_21, nl_22, nl_23, nl_25, nl_27, nl_28, nl_29, nl_31, nl_33, nl_34, nl_35, nl_47, nl_51, nl_63, nl_110, nl_195, nl_240, nl_1370, nl_3710, nl_6030, nl_6690, nl_7490, nl_7610, nl_9170, nl_11570, gA_sF, gL_sF, gB_sF, gZ_sF, gO_sF, gX_sF, gF_sA, gL_sA, gB_sA, gZ_sA, gO_sA, gX_sA, gF_sL, gA_sL, gB_sL, gZ_sL, gO_sL, gX_sL, gF_sB, gA_sB, gL_sB, gZ_sB, gO_sB, gX_sB, gF_sZ, gA_sZ, gL_sZ, gB_sZ, gO_sZ, gX_sZ, gF_sO, gA_sO, gL_sO, gB_sO, gZ_sO, gX_sO, gF_sX, gA_sX, gL_sX, gB_sX, gZ_sX, gO_sX, gF_tA, gL_tA, gB_tA, gZ_tA, gO_tA, gX_tA, gF_tL, gA_tL, gB_tL, gZ_tL, gO_tL, gX_tL, gF_tB, gA_tB, gL_tB, gZ_tB, gO_tB, gX_tB, gF_tZ, gA_tZ, gL_tZ, gB_tZ, gO_tZ, gX_tZ, gF_sF, gA_sA, gL_sL, gB_sB, gZ_sZ, gO_sO, gX_sX, gA_tA, gL_tL, gB_tB, gZ_tZ, reduceIte, Nat.reduceEqDiff, Nat.zero_ne_one, Nat.one_ne_zero, Nat.succ_ne_self, forall_eq, vpT, cpyT, nI_leI, nI_ltI, nI_eq, nI_m1, oI_eqn, oI_eqm, va_up_ne', va_up_eq, eq_self_iff_true, true_or, or_true, true_implies, not_true_eq_false, not_false_eq_true, false_implies, and_true, true_and, forall_const, implies_true, ne_eq, Nat.add_sub_cancel, nI_pos, ite_self]
  refine c_n' (by rw [p2]; exact nI_m1 (by omega)) ?_
  refine N_greatestSum (k := lcn (hnF A) (A 51 0)) (pp := lsg (hnF A) (A 51 0)) (g := fun i c => gn A (W i) y (lsg (hnF A) (A 51 0) c)) (nr := fun a b => nearB A (lsg (hnF A) (A 51 0) a) (lsg (hnF A) (A 51 0) b) 30) (W := W) hw hl.1 hsp hy p2 n1 n7 p5 hWn rfl rfl rfl rfl (fun hno pa' f' x1 x4 x5 => ?_) (fun hno pa' vw' o1' o2' f' x1 x4 x5 => ?_)
  · refine c_n' (by rw [h36]; exact nI_m1 (by omega)) (fun w12 hw12 => ?_)
    subst hw12
    refine hM (fun _ m' fm => hQ _ _ _ _ _ _ (fm.mono (by decide)) ?_) (fun h => absurd hno h)
    unfold RPaper
    rw [f'.1 0 (by decide), f'.1 1 (by decide), f'.2.1 2 (by decide), f'.2.2.2.1 3 (by decide), x4, x5, x1, fm.1 36 (by decide), fm.1 37 (by decide), fm.2.1 39 (by decide), fm.2.1 38 (by decide), fm.1 47 (by decide), fm.2.1 46 (by decide)]
    exact hP
  · refine c_n' (by rw [h36]; exact nI_m1 (by omega)) (fun w12 hw12 => ?_)
    subst hw12
    refine hM (fun h => absurd h hno) (fun _ m' fm e40 e41 => ?_)
    have k10 : lcn (hnF A) (A 51 0) ≤ 10 := Nat.le_of_not_lt (fun h => hno (Or.inl h))
    have hnk : n ≤ lcn (hnF A) (A 51 0) := Nat.le_of_not_lt (fun h => hno (Or.inr h))
    refine M_joinRest hw hm hy h36 n2 n7 hWm rfl rfl rfl rfl k10 hnk (fm.mono (by decide)) e40 e41 (fun m2 f2 e47 e46 => hQ _ _ _ _ _ _ f2 ?_)
    unfold RPaper
    rw [f'.1 0 (by decide), f'.1 1 (by decide), f'.2.1 2 (by decide), f'.2.2.2.1 3 (by decide), f2.1 36 (by decide), f2.1 37 (by decide), f2.2.1 39 (by decide), f2.2.1 38 (by decide)]
    exact ⟨p1, Or.inr ⟨y, hy, p2⟩, ⟨n, n7, n1, n2, n3⟩, ⟨n, n7, x4, Or.inl e47, fun i hi => by rw [(x5 i hi).2, e46 i hi]⟩, x1⟩
