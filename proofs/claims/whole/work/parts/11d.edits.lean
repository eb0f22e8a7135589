def lch (l : List (Nat × Int32)) (k : Nat) : Nat := match l[k]? with
  | some x => x.1
  | none => 0
def okL (l : List (Nat × Int32)) : Prop := ∀ x ∈ l, x.1 < 128
theorem lch_lt {l : List (Nat × Int32)} (h : okL l) (k : Nat) : lch l k < 128 := by
  unfold lch
  cases e : l[k]? with
  | none => exact (by decide : 0 < 128)
  | some x => exact h x (List.mem_of_getElem? e)
theorem lch_some {l : List (Nat × Int32)} {k : Nat} (h : k < l.length) : ∃ x, l[k]? = some x ∧ lch l k = x.1 := by
  refine ⟨l[k], List.getElem?_eq_getElem h, ?_⟩
  unfold lch; rw [List.getElem?_eq_getElem h]
theorem RowIs.ch {u : Md} {l : List (Nat × Int32)} (h : RowIs u l) {k : Nat} (hk : k < l.length) : (gB u 1 k).toInt32 = nI (lch l k) := by
  obtain ⟨x, h1, h2⟩ := lch_some hk
  rw [h2]; exact (h.2 k x h1).1
theorem Laid.ch {u : Md} {l : List (Nat × Int32)} (h : Laid u l) {k : Nat} (hk : k < l.length) : gA u 19 k = nI (lch l k) := by
  obtain ⟨x, h1, h2⟩ := lch_some hk
  rw [h2]; exact (h.2 k x h1).1
def Held (m : Md) (l : List (Nat × Int32)) : Prop := gF m 26 = nI l.length ∧ ∀ k, k < l.length → gA m 25 k = nI (lch l k)
theorem Held.fr {m m' : Md} {l : List (Nat × Int32)} {L : List (Nat × Nat)} (h : Held m l) (hf : Fr L m m') (h1 : (0, 26) ∉ L) (h2 : (1, 25) ∉ L) : Held m' l := ⟨(hf.1 26 h1).trans h.1, fun k hk => by rw [hf.2.1 25 h2]; exact h.2 k hk⟩
theorem Laid.fr {m m' : Md} {l : List (Nat × Int32)} {L : List (Nat × Nat)} (h : Laid m l) (hf : Fr L m m') (h1 : (0, 21) ∉ L) (h2 : (1, 19) ∉ L) (h3 : (1, 20) ∉ L) : Laid m' l := ⟨(hf.1 21 h1).trans h.1, fun k x hk => by rw [hf.2.1 19 h2, hf.2.1 20 h3]; exact h.2 k x hk⟩
theorem spl_len {A : Nat → Nat → Nat} {c : Nat} (hw : Wf A c) {s n : Nat} (hs : s ≤ A 53 0) : ∀ k i, (splF A s n k i).length ≤ 3 * k := by
  intro k
  induction k with
  | zero => intro i; exact Nat.le_refl _
  | succ k ih =>
    intro i
    show (if A 13 n ≤ i then [] else if rulA A s n i = 0 then (A 14 (12 * n + i), (-3 : Int32)) :: splF A s n k (i + 1) else lsF (fun j => (A 23 (3 * (16 * (s - 1) + (rulA A s n i - 1)) + j), ldI (s - 1) (rulA A s n i - 1))) (A 22 (16 * (s - 1) + (rulA A s n i - 1))) ++ splF A s n k (i + A 20 (16 * (s - 1) + (rulA A s n i - 1)))).length ≤ 3 * (k + 1)
    by_cases h : A 13 n ≤ i
    · rw [if_pos h]; exact Nat.zero_le _
    rw [if_neg h]
    by_cases hr : rulA A s n i = 0
    · rw [if_pos hr, List.length_cons]; have := ih (i + 1); omega
    · rw [if_neg hr, List.length_append, lsF_len]
      have h0 : s ≠ 0 := fun e => hr (by unfold rulA; rw [if_pos e])
      obtain ⟨r, hrr⟩ : ∃ r, rulA A s n i = r + 1 := ⟨rulA A s n i - 1, by omega⟩
      have h17 : r < A 17 (s - 1) := by
        unfold rulA at hrr; rw [if_neg h0] at hrr; exact (fstF_some _ r hrr).1
      have := ((hw.2.2.2.2.2.1 (s - 1) (by omega)).2.2.2 r h17).2.2.2.2.2.1
      rw [hrr, Nat.add_sub_cancel]
      have h4 := ih (i + A 20 (16 * (s - 1) + r))
      omega
theorem spl_ok {A : Nat → Nat → Nat} {c : Nat} (hw : Wf A c) {s n : Nat} (hs : s ≤ A 53 0) (hn : n < A 52 0) : ∀ k i, okL (splF A s n k i) := by
  intro k
  induction k with
  | zero => intro i x hx; exact absurd hx (List.not_mem_nil)
  | succ k ih =>
    intro i x hx
    have hx' : x ∈ (if A 13 n ≤ i then [] else if rulA A s n i = 0 then (A 14 (12 * n + i), (-3 : Int32)) :: splF A s n k (i + 1) else lsF (fun j => (A 23 (3 * (16 * (s - 1) + (rulA A s n i - 1)) + j), ldI (s - 1) (rulA A s n i - 1))) (A 22 (16 * (s - 1) + (rulA A s n i - 1))) ++ splF A s n k (i + A 20 (16 * (s - 1) + (rulA A s n i - 1)))) := hx
    by_cases h : A 13 n ≤ i
    · rw [if_pos h] at hx'; exact absurd hx' (List.not_mem_nil)
    rw [if_neg h] at hx'
    by_cases hr : rulA A s n i = 0
    · rw [if_pos hr] at hx'
      rcases List.mem_cons.mp hx' with e | e
      · have := (hw.2.2.2.2.1 n hn).2.2.2.2.2 i (by omega)
        rw [e]; show A 14 (12 * n + i) < 128; omega
      · exact ih _ x e
    · rw [if_neg hr] at hx'
      rcases List.mem_append.mp hx' with e | e
      · obtain ⟨j, hj, e⟩ := lsF_mem _ _ _ e
        have h0 : s ≠ 0 := fun e => hr (by unfold rulA; rw [if_pos e])
        obtain ⟨r, hrr⟩ : ∃ r, rulA A s n i = r + 1 := ⟨rulA A s n i - 1, by omega⟩
        have h17 : r < A 17 (s - 1) := by
          unfold rulA at hrr; rw [if_neg h0] at hrr; exact (fstF_some _ r hrr).1
        rw [hrr, Nat.add_sub_cancel] at e hj
        have := ((hw.2.2.2.2.2.1 (s - 1) (by omega)).2.2.2 r h17).2.2.2.2.2.2.1 j hj
        rw [e]; show A 23 _ < 128; omega
      · exact ih _ x e
theorem spA_le {A : Nat → Nat → Nat} {t y : Nat} : spA A t y ≤ A 53 0 := lastF_le _
theorem splL {A : Nat → Nat → Nat} {c : Nat} (hw : Wf A c) (n y : Nat) : (spl A n y).length ≤ 36 := spl_len hw spA_le 12 0
theorem splO {A : Nat → Nat → Nat} {c : Nat} (hw : Wf A c) {n : Nat} (hn : n < A 52 0) (y : Nat) : okL (spl A n y) := spl_ok hw spA_le hn 12 0
theorem M_hand {m : Md} {l : List (Nat × Int32)} (h : Laid m l) (hl : l.length ≤ 73) {Q : Int32 → Md → Prop} (hQ : ∀ m', Fr [(0, 24), (1, 22), (1, 23)] m m' → gF m' 24 = nI l.length → (∀ j x, l[j]? = some x → gA m' 22 j = nI x.1 ∧ gA m' 23 j = x.2) → Q (nI l.length) m') : qX12_takesInHand m Q := by
  unfold qX12_takesInHand
  rw [h.1]
  intro w hw
  have f0 : Fr [(0, 24), (1, 22), (1, 23)] m w := by rw [hw]; exact Fr.sF 24 _ (by decide)
  have g24 : gF w 24 = nI l.length := by rw [hw]; rfl
  refine pk_loop (fun k i s => qX12_takesInHand_10 Q k s (nI i)) (fun i s => Fr [(1, 22), (1, 23)] w s ∧ ∀ j x, j < i → l[j]? = some x → gA s 22 j = nI x.1 ∧ gA s 23 j = x.2) l.length 0 w (by omega) ⟨Fr.rf, fun j x hj => by omega⟩ (fun k s hI => ?_) (fun k i s hi hI ih => ?_)
  · obtain ⟨i1, i2⟩ := hI
    have g21 : gF s 21 = nI l.length := (i1.1 21 (by decide)).trans ((f0.1 21 (by decide)).trans h.1)
    have g24' : gF s 24 = nI l.length := (i1.1 24 (by decide)).trans g24
    unfold qX12_takesInHand_10
    rw [g21, g24']
    refine c_y (nI_le (Nat.le_refl _) (by omega)) (hQ s (f0.tr (i1.mono (by decide))) g24' (fun j x hx => i2 j x ?_ hx))
    exact (List.getElem?_eq_some_iff.mp hx).1
  · obtain ⟨i1, i2⟩ := hI
    have g21 : gF s 21 = nI l.length := (i1.1 21 (by decide)).trans ((f0.1 21 (by decide)).trans h.1)
    have g19 : gA s 19 = gA m 19 := (i1.2.1 19 (by decide)).trans (f0.2.1 19 (by decide))
    have g20 : gA s 20 = gA m 20 := (i1.2.1 20 (by decide)).trans (f0.2.1 20 (by decide))
    have z : ¬ l.length ≤ i := by omega
    unfold qX12_takesInHand_10
    simp (disch := omega) only [g21, g19, g20, z, ofI1, nI_add, pk_mul, pk_sub, nI_clamp, imin_nI, imax_nI, nl_0, nl_1, nl_2, nl_3, nl_4, nl_5, nl_6, nl_7, nl_8, nl_9, nl_10, nl_11, nl_12, nl_13, nl_15, nl_16, nl_20, nl_24, nl_26, nl_30, nl_32, nl_36, nl_39, nl_40, nl_45, nl_48, nl_50, nl_57, nl_59, nl_60, nl_61, nl_62, nl_64, nl_72, nl_73, nl_80, nl_90, nl_97, nl_99, nl_100, nl_120, nl_122, nl_123, nl_127, nl_128, nl_199, nl_200, nl_255, nl_256, nl_290, nl_399, nl_400, nl_500, nl_512, nl_520, nl_600, nl_999, nl_1000, nl_2000, nl_9999, nl_10000, nl_14, nl_17, nl_18, nl_19, nl_21, nl_22, nl_23, nl_25, nl_27, nl_28, nl_29, nl_31, nl_33, nl_34, nl_35, nl_47, nl_51, nl_63, nl_110, nl_195, nl_240, nl_1370, nl_3710, nl_6030, nl_6690, nl_7490, nl_7610, nl_9170, nl_11570, gA_sF, gL_sF, gB_sF, gZ_sF, gO_sF, gX_sF, gF_sA, gL_sA, gB_sA, gZ_sA, gO_sA, gX_sA, gF_sL, gA_sL, gB_sL, gZ_sL, gO_sL, gX_sL, gF_sB, gA_sB, gL_sB, gZ_sB, gO_sB, gX_sB, gF_sZ, gA_sZ, gL_sZ, gB_sZ, gO_sZ, gX_sZ, gF_sO, gA_sO, gL_sO, gB_sO, gZ_sO, gX_sO, gF_sX, gA_sX, gL_sX, gB_sX, gZ_sX, gO_sX, gF_tA, gL_tA, gB_tA, gZ_tA, gO_tA, gX_tA, gF_tL, gA_tL, gB_tL, gZ_tL, gO_tL, gX_tL, gF_tB, gA_tB, gL_tB, gZ_tB, gO_tB, gX_tB, gF_tZ, gA_tZ, gL_tZ, gB_tZ, gO_tZ, gX_tZ, gF_sF, gA_sA, gL_sL, gB_sB, gZ_sZ, gO_sO, gX_sX, gA_tA, gL_tL, gB_tB, gZ_tZ, reduceIte, Nat.reduceEqDiff, Nat.zero_ne_one, Nat.one_ne_zero, Nat.succ_ne_self, forall_eq, vpT, cpyT, nI_leI, nI_ltI, nI_eq, nI_m1, oI_eqn, oI_eqm, va_up_ne', va_up_eq, eq_self_iff_true, true_or, or_true, true_implies, not_true_eq_false, not_false_eq_true, false_implies, and_true, true_and, forall_const, implies_true, ne_eq, Nat.add_sub_cancel, nI_pos, ite_self]
    refine ih _ ⟨i1.tr (Fr.tr (Fr.tA 22 _ _ (by decide)) (Fr.tA 23 _ _ (by decide))), fun j x hj hx => ?_⟩
    by_cases e : j = i
    · subst e; simp (disch := omega) only [ofI1, nI_add, pk_mul, pk_sub, nI_clamp, imin_nI, imax_nI, nl_0, nl_1, nl_2, nl_3, nl_4, nl_5, nl_6, nl_7, nl_8, nl_9, nl_10, nl_11, nl_12, nl_13, nl_15, nl_16, nl_20, nl_24, nl_26, nl_30, nl_32, nl_36, nl_39, nl_40, nl_45, nl_48, nl_50, nl_57, nl_59, nl_60, nl_61, nl_62, nl_64, nl_72, nl_73, nl_80, nl_90, nl_97, nl_99, nl_100, nl_120, nl_122, nl_123, nl_127, nl_128, nl_199, nl_200, nl_255, nl_256, nl_290, nl_399, nl_400, nl_500, nl_512, nl_520, nl_600, nl_999, nl_1000, nl_2000, nl_9999, nl_10000, nl_14, nl_17, nl_18, nl_19, nl_21, nl_22, nl_23, nl_25, nl_27, nl_28, nl_29, nl_31, nl_33, nl_34, nl_35, nl_47, nl_51, nl_63, nl_110, nl_195, nl_240, nl_1370, nl_3710, nl_6030, nl_6690, nl_7490, nl_7610, nl_9170, nl_11570, gA_sF, gL_sF, gB_sF, gZ_sF, gO_sF, gX_sF, gF_sA, gL_sA, gB_sA, gZ_sA, gO_sA, gX_sA, gF_sL, gA_sL, gB_sL, gZ_sL, gO_sL, gX_sL, gF_sB, gA_sB, gL_sB, gZ_sB, gO_sB, gX_sB, gF_sZ, gA_sZ, gL_sZ, gB_sZ, gO_sZ, gX_sZ, gF_sO, gA_sO, gL_sO, gB_sO, gZ_sO, gX_sO, gF_sX, gA_sX, gL_sX, gB_sX, gZ_sX, gO_sX, gF_tA, gL_tA, gB_tA, gZ_tA, gO_tA, gX_tA, gF_tL, gA_tL, gB_tL, gZ_tL, gO_tL, gX_tL, gF_tB, gA_tB, gL_tB, gZ_tB, gO_tB, gX_tB, gF_tZ, gA_tZ, gL_tZ, gB_tZ, gO_tZ, gX_tZ, gF_sF, gA_sA, gL_sL, gB_sB, gZ_sZ, gO_sO, gX_sX, gA_tA, gL_tL, gB_tB, gZ_tZ, reduceIte, Nat.reduceEqDiff, Nat.zero_ne_one, Nat.one_ne_zero, Nat.succ_ne_self, forall_eq, vpT, cpyT, nI_leI, nI_ltI, nI_eq, nI_m1, oI_eqn, oI_eqm, va_up_ne', va_up_eq, eq_self_iff_true, true_or, or_true, true_implies, not_true_eq_false, not_false_eq_true, false_implies, and_true, true_and, forall_const, implies_true, ne_eq, Nat.add_sub_cancel, nI_pos, ite_self]; exact h.2 j x hx
    · simp (disch := omega) only [ofI1, nI_add, pk_mul, pk_sub, nI_clamp, imin_nI, imax_nI, nl_0, nl_1, nl_2, nl_3, nl_4, nl_5, nl_6, nl_7, nl_8, nl_9, nl_10, nl_11, nl_12, nl_13, nl_15, nl_16, nl_20, nl_24, nl_26, nl_30, nl_32, nl_36, nl_39, nl_40, nl_45, nl_48, nl_50, nl_57, nl_59, nl_60, nl_61, nl_62, nl_64, nl_72, nl_73, nl_80, nl_90, nl_97, nl_99, nl_100, nl_120, nl_122, nl_123, nl_127, nl_128, nl_199, nl_200, nl_255, nl_256, nl_290, nl_399, nl_400, nl_500, nl_512, nl_520, nl_600, nl_999, nl_1000, nl_2000, nl_9999, nl_10000, nl_14, nl_17, nl_18, nl_19, nl_21, nl_22, nl_23, nl_25, nl_27, nl_28, nl_29, nl_31, nl_33, nl_34, nl_35, nl_47, nl_51, nl_63, nl_110, nl_195, nl_240, nl_1370, nl_3710, nl_6030, nl_6690, nl_7490, nl_7610, nl_9170, nl_11570, gA_sF, gL_sF, gB_sF, gZ_sF, gO_sF, gX_sF, gF_sA, gL_sA, gB_sA, gZ_sA, gO_sA, gX_sA, gF_sL, gA_sL, gB_sL, gZ_sL, gO_sL, gX_sL, gF_sB, gA_sB, gL_sB, gZ_sB, gO_sB, gX_sB, gF_sZ, gA_sZ, gL_sZ, gB_sZ, gO_sZ, gX_sZ, gF_sO, gA_sO, gL_sO, gB_sO, gZ_sO, gX_sO, gF_sX, gA_sX, gL_sX, gB_sX, gZ_sX, gO_sX, gF_tA, gL_tA, gB_tA, gZ_tA, gO_tA, gX_tA, gF_tL, gA_tL, gB_tL, gZ_tL, gO_tL, gX_tL, gF_tB, gA_tB, gL_tB, gZ_tB, gO_tB, gX_tB, gF_tZ, gA_tZ, gL_tZ, gB_tZ, gO_tZ, gX_tZ, gF_sF, gA_sA, gL_sL, gB_sB, gZ_sZ, gO_sO, gX_sX, gA_tA, gL_tL, gB_tB, gZ_tZ, reduceIte, Nat.reduceEqDiff, Nat.zero_ne_one, Nat.one_ne_zero, Nat.succ_ne_self, forall_eq, vpT, cpyT, nI_leI, nI_ltI, nI_eq, nI_m1, oI_eqn, oI_eqm, va_up_ne', va_up_eq, eq_self_iff_true, true_or, or_true, true_implies, not_true_eq_false, not_false_eq_true, false_implies, and_true, true_and, forall_const, implies_true, ne_eq, Nat.add_sub_cancel, nI_pos, ite_self]; exact i2 j x (by omega) hx
theorem RHand_of {hd m : Md} {l : List (Nat × Int32)} (hl : l.length ≤ 73) (h : RowIs hd l) (g : gF m 24 = nI l.length) (hh : ∀ j x, l[j]? = some x → gA m 22 j = nI x.1 ∧ gA m 23 j = x.2) : RHand hd m := by
  refine ⟨l.length, hl, h.1, g, fun j hj => ?_⟩
  have e := List.getElem?_eq_getElem hj
  rw [(h.2 j _ e).1, (h.2 j _ e).2, (hh j _ e).1, (hh j _ e).2]
  exact ⟨rfl, rfl⟩
theorem RowIs_nil {u : Md} (h : gF u 0 = 0) : RowIs u [] := ⟨h, fun j x hx => by simp at hx⟩
theorem Laid_nil {u : Md} (h : gF u 21 = 0) : Laid u [] := ⟨h, fun j x hx => by simp at hx⟩
theorem sim_spell {c : Nat} {nb m st la sp ac bd sg hd : Md} (hR : RW c m st la sp ac bd sg) (hH : RHand hd m) {x1 x2 : Int32} {Q : Int32 → Md → Md → Md → Md → Int32 → Md → Prop} (hQ : ∀ r hd' m', RHand hd' m' → Fr [(0, 21), (1, 19), (1, 20), (0, 24), (1, 22), (1, 23)] m m' → Q r nb st sp hd' r m') : qX11_spell nb st sp hd x1 x2 (fun r nb' st' sp' hd' => qX12_spell m x1 x2 (fun r' m' => Q r nb' st' sp' hd' r' m')) := by
  obtain ⟨A, hm, hw, hs, hn⟩ := id hR
  have e2 : gA m 1 2 = nI (A 52 0) := hm.1.2.2.1
  have s2 : gF sp 0 = nI (A 52 0) := hn.2.1.1.1
  have b2 : A 52 0 ≤ 80 := hw.1.2.2.1
  unfold qX11_spell qX12_spell
  rcases ix32 x1 (n := A 52 0) (by omega) with h | ⟨n, hnn, rfl⟩
  · exact sp_has0 s2 (by omega) h (b_0' (m_isNa0 e2 (by omega) h (b_0' (hQ _ _ _ hH Fr.rf))))
  refine sp_has1 s2 (by omega) hnn (b_1' ?_)
  rcases ix32 x2 (n := 400) (by omega) with h | ⟨y, hy, rfl⟩
  · exact q_yr0 h (b_0 (m_isNa1 e2 (by omega) hnn (b_1' (m_yr0 h (b_0 (hQ _ _ _ hH Fr.rf))))))
  refine q_yr1 hy (b_1 ?_)
  intro w hw'
  have lw := splL hw n y
  refine N_spellInto hw hn.2.1.1 hn.2.1.2 hnn hy (RowIs_nil (u := w) (by rw [hw']; rfl)) (by simp) (fun hd' fh hrow => ?_)
  rw [List.nil_append] at hrow
  rw [hrow.1]
  refine m_isNa1 e2 (by omega) hnn (b_1' (m_yr1 hy (b_1 ?_)))
  intro w2 hw2
  have f2 : Fr [(0, 21)] m w2 := by rw [hw2]; exact Fr.sF 21 _ (by decide)
  refine M_spells hw (by rw [f2.2.1 1 (by decide)]; exact hm) hnn hy (Laid_nil (u := w2) (by rw [hw2]; rfl)) (by simp) (fun m' fm hl => ?_)
  rw [List.nil_append] at hl
  refine M_hand hl (by omega) (fun m'' fm' g hh => hQ _ _ _ (RHand_of (by omega) hrow g hh) ?_)
  exact (f2.mono (by decide)).tr ((fm.mono (by decide)).tr (fm'.mono (by decide)))
theorem M_holds {m : Md} {l : List (Nat × Int32)} (h : Laid m l) (hl : l.length ≤ 80) {Q : Md → Prop} (hQ : ∀ m', Fr [(0, 26), (1, 25)] m m' → Held m' l → Q m') : qX12_holds m Q := by
  unfold qX12_holds
  rw [h.1]
  intro w hw
  have f0 : Fr [(0, 26), (1, 25)] m w := by rw [hw]; exact Fr.sF 26 _ (by decide)
  have g26 : gF w 26 = nI l.length := by rw [hw]; rfl
  refine pk_loop (fun k i s => qX12_holds_10 Q k s (nI i)) (fun i s => Fr [(1, 25)] w s ∧ ∀ j, j < i → gA s 25 j = nI (lch l j)) l.length 0 w (by omega) ⟨Fr.rf, fun j hj => by omega⟩ (fun k s hI => ?_) (fun k i s hi hI ih => ?_)
  · obtain ⟨i1, i2⟩ := hI
    have g21 : gF s 21 = nI l.length := (i1.1 21 (by decide)).trans ((f0.1 21 (by decide)).trans h.1)
    unfold qX12_holds_10
    rw [g21]
    exact c_y (nI_le (Nat.le_refl _) (by omega)) (hQ s (f0.tr (i1.mono (by decide))) ⟨(i1.1 26 (by decide)).trans g26, i2⟩)
  · obtain ⟨i1, i2⟩ := hI
    have g21 : gF s 21 = nI l.length := (i1.1 21 (by decide)).trans ((f0.1 21 (by decide)).trans h.1)
    have g19 : gA s 19 = gA m 19 := (i1.2.1 19 (by decide)).trans (f0.2.1 19 (by decide))
    have z : ¬ l.length ≤ i := by omega
    have c := h.ch hi
    unfold qX12_holds_10
    simp (disch := omega) only [g21, g19, c, z, ofI1, nI_add, pk_mul, pk_sub, nI_clamp, imin_nI, imax_nI, nl_0, nl_1, nl_2, nl_3, nl_4, nl_5, nl_6, nl_7, nl_8, nl_9, nl_10, nl_11, nl_12, nl_13, nl_15, nl_16, nl_20, nl_24, nl_26, nl_30, nl_32, nl_36, nl_39, nl_40, nl_45, nl_48, nl_50, nl_57, nl_59, nl_60, nl_61, nl_62, nl_64, nl_72, nl_73, nl_80, nl_90, nl_97, nl_99, nl_100, nl_120, nl_122, nl_123, nl_127, nl_128, nl_199, nl_200, nl_255, nl_256, nl_290, nl_399, nl_400, nl_500, nl_512, nl_520, nl_600, nl_999, nl_1000, nl_2000, nl_9999, nl_10000, nl_14, nl_17, nl_18, nl_19, nl_21, nl_22, nl_23, nl_25, nl_27, nl_28, nl_29, nl_31, nl_33, nl_34, nl_35, nl_47, nl_51, nl_63, nl_110, nl_195, nl_240, nl_1370, nl_3710, nl_6030, nl_6690, nl_7490, nl_7610, nl_9170, nl_11570, gA_sF, gL_sF, gB_sF, gZ_sF, gO_sF, gX_sF, gF_sA, gL_sA, gB_sA, gZ_sA, gO_sA, gX_sA, gF_sL, gA_sL, gB_sL, gZ_sL, gO_sL, gX_sL, gF_sB, gA_sB, gL_sB, gZ_sB, gO_sB, gX_sB, gF_sZ, gA_sZ, gL_sZ, gB_sZ, gO_sZ, gX_sZ, gF_sO, gA_sO, gL_sO, gB_sO, gZ_sO, gX_sO, gF_sX, gA_sX, gL_sX, gB_sX, gZ_sX, gO_sX, gF_tA, gL_tA, gB_tA, gZ_tA, gO_tA, gX_tA, gF_tL, gA_tL, gB_tL, gZ_tL, gO_tL, gX_tL, gF_tB, gA_tB, gL_tB, gZ_tB, gO_tB, gX_tB, gF_tZ, gA_tZ, gL_tZ, gB_tZ, gO_tZ, gX_tZ, gF_sF, gA_sA, gL_sL, gB_sB, gZ_sZ, gO_sO, gX_sX, gA_tA, gL_tL, gB_tB, gZ_tZ, reduceIte, Nat.reduceEqDiff, Nat.zero_ne_one, Nat.one_ne_zero, Nat.succ_ne_self, forall_eq, vpT, cpyT, nI_leI, nI_ltI, nI_eq, nI_m1, oI_eqn, oI_eqm, va_up_ne', va_up_eq, eq_self_iff_true, true_or, or_true, true_implies, not_true_eq_false, not_false_eq_true, false_implies, and_true, true_and, forall_const, implies_true, ne_eq, Nat.add_sub_cancel, nI_pos, ite_self]
    refine ih _ ⟨i1.tr (Fr.tA 25 _ _ (by decide)), fun j hj => ?_⟩
    by_cases e : j = i
    · subst e; simp (disch := omega) only [ofI1, nI_add, pk_mul, pk_sub, nI_clamp, imin_nI, imax_nI, nl_0, nl_1, nl_2, nl_3, nl_4, nl_5, nl_6, nl_7, nl_8, nl_9, nl_10, nl_11, nl_12, nl_13, nl_15, nl_16, nl_20, nl_24, nl_26, nl_30, nl_32, nl_36, nl_39, nl_40, nl_45, nl_48, nl_50, nl_57, nl_59, nl_60, nl_61, nl_62, nl_64, nl_72, nl_73, nl_80, nl_90, nl_97, nl_99, nl_100, nl_120, nl_122, nl_123, nl_127, nl_128, nl_199, nl_200, nl_255, nl_256, nl_290, nl_399, nl_400, nl_500, nl_512, nl_520, nl_600, nl_999, nl_1000, nl_2000, nl_9999, nl_10000, nl_14, nl_17, nl_18, nl_19, nl_21, nl_22, nl_23, nl_25, nl_27, nl_28, nl_29, nl_31, nl_33, nl_34, nl_35, nl_47, nl_51, nl_63, nl_110, nl_195, nl_240, nl_1370, nl_3710, nl_6030, nl_6690, nl_7490, nl_7610, nl_9170, nl_11570, gA_sF, gL_sF, gB_sF, gZ_sF, gO_sF, gX_sF, gF_sA, gL_sA, gB_sA, gZ_sA, gO_sA, gX_sA, gF_sL, gA_sL, gB_sL, gZ_sL, gO_sL, gX_sL, gF_sB, gA_sB, gL_sB, gZ_sB, gO_sB, gX_sB, gF_sZ, gA_sZ, gL_sZ, gB_sZ, gO_sZ, gX_sZ, gF_sO, gA_sO, gL_sO, gB_sO, gZ_sO, gX_sO, gF_sX, gA_sX, gL_sX, gB_sX, gZ_sX, gO_sX, gF_tA, gL_tA, gB_tA, gZ_tA, gO_tA, gX_tA, gF_tL, gA_tL, gB_tL, gZ_tL, gO_tL, gX_tL, gF_tB, gA_tB, gL_tB, gZ_tB, gO_tB, gX_tB, gF_tZ, gA_tZ, gL_tZ, gB_tZ, gO_tZ, gX_tZ, gF_sF, gA_sA, gL_sL, gB_sB, gZ_sZ, gO_sO, gX_sX, gA_tA, gL_tL, gB_tB, gZ_tZ, reduceIte, Nat.reduceEqDiff, Nat.zero_ne_one, Nat.one_ne_zero, Nat.succ_ne_self, forall_eq, vpT, cpyT, nI_leI, nI_ltI, nI_eq, nI_m1, oI_eqn, oI_eqm, va_up_ne', va_up_eq, eq_self_iff_true, true_or, or_true, true_implies, not_true_eq_false, not_false_eq_true, false_implies, and_true, true_and, forall_const, implies_true, ne_eq, Nat.add_sub_cancel, nI_pos, ite_self]
    · simp (disch := omega) only [ofI1, nI_add, pk_mul, pk_sub, nI_clamp, imin_nI, imax_nI, nl_0, nl_1, nl_2, nl_3, nl_4, nl_5, nl_6, nl_7, nl_8, nl_9, nl_10, nl_11, nl_12, nl_13, nl_15, nl_16, nl_20, nl_24, nl_26, nl_30, nl_32, nl_36, nl_39, nl_40, nl_45, nl_48, nl_50, nl_57, nl_59, nl_60, nl_61, nl_62, nl_64, nl_72, nl_73, nl_80, nl_90, nl_97, nl_99, nl_100, nl_120, nl_122, nl_123, nl_127, nl_128, nl_199, nl_200, nl_255, nl_256, nl_290, nl_399, nl_400, nl_500, nl_512, nl_520, nl_600, nl_999, nl_1000, nl_2000, nl_9999, nl_10000, nl_14, nl_17, nl_18, nl_19, nl_21, nl_22, nl_23, nl_25, nl_27, nl_28, nl_29, nl_31, nl_33, nl_34, nl_35, nl_47, nl_51, nl_63, nl_110, nl_195, nl_240, nl_1370, nl_3710, nl_6030, nl_6690, nl_7490, nl_7610, nl_9170, nl_11570, gA_sF, gL_sF, gB_sF, gZ_sF, gO_sF, gX_sF, gF_sA, gL_sA, gB_sA, gZ_sA, gO_sA, gX_sA, gF_sL, gA_sL, gB_sL, gZ_sL, gO_sL, gX_sL, gF_sB, gA_sB, gL_sB, gZ_sB, gO_sB, gX_sB, gF_sZ, gA_sZ, gL_sZ, gB_sZ, gO_sZ, gX_sZ, gF_sO, gA_sO, gL_sO, gB_sO, gZ_sO, gX_sO, gF_sX, gA_sX, gL_sX, gB_sX, gZ_sX, gO_sX, gF_tA, gL_tA, gB_tA, gZ_tA, gO_tA, gX_tA, gF_tL, gA_tL, gB_tL, gZ_tL, gO_tL, gX_tL, gF_tB, gA_tB, gL_tB, gZ_tB, gO_tB, gX_tB, gF_tZ, gA_tZ, gL_tZ, gB_tZ, gO_tZ, gX_tZ, gF_sF, gA_sA, gL_sL, gB_sB, gZ_sZ, gO_sO, gX_sX, gA_tA, gL_tL, gB_tB, gZ_tZ, reduceIte, Nat.reduceEqDiff, Nat.zero_ne_one, Nat.one_ne_zero, Nat.succ_ne_self, forall_eq, vpT, cpyT, nI_leI, nI_ltI, nI_eq, nI_m1, oI_eqn, oI_eqm, va_up_ne', va_up_eq, eq_self_iff_true, true_or, or_true, true_implies, not_true_eq_false, not_false_eq_true, false_implies, and_true, true_and, forall_const, implies_true, ne_eq, Nat.add_sub_cancel, nI_pos, ite_self]; exact i2 j (by omega)
/-- the same row of letters -/
def alk (a b : List (Nat × Int32)) : Bool := (a.length == b.length) && eqB (lch a) (lch b) b.length
theorem M_isAlike {m : Md} {a b : List (Nat × Int32)} (ha : Held m a) (hb : Laid m b) (la : a.length ≤ 80) (lb : b.length ≤ 80) (oa : okL a) (ob : okL b) {Q : Int32 → Md → Prop} (hQ : Q (bI (alk a b)) m) : qX12_isAlike m Q := by
  unfold qX12_isAlike
  rw [ha.1, hb.1]
  have bi : ∀ t : Bool, bI t = 0 ∨ bI t = 1 := fun t => by cases t <;> decide
  have key : ∀ r0 : Bool, (a.length == b.length) = r0 → ∃ n', qX12_isAlike_19 Q n' m (bI r0) 0 := by
    intro r0 h0
    refine pk_loop (fun k i (z : Bool) => qX12_isAlike_19 Q k m (bI z) (nI i)) (fun i z => ((a.length == b.length) && eqB (lch a) (lch b) i) = z) b.length 0 r0 (by omega) (by show (_ && true) = _; rw [Bool.and_true]; exact h0) (fun k z hI => ?_) (fun k i z hi hI ih => ?_)
    · unfold qX12_isAlike_19
      rw [hb.1]
      unfold alk at hQ; rw [hI] at hQ
      exact c_y (nI_le (Nat.le_refl _) (by omega)) ⟨bi z, hQ⟩
    · have el : eqB (lch a) (lch b) (i + 1) = (eqB (lch a) (lch b) i && (lch a i == lch b i)) := rfl
      unfold qX12_isAlike_19
      rw [hb.1]
      refine c_n (nI_ge hi (by omega)) ?_
      cases z with
      | false =>
        have : alk a b = false := by
          unfold alk
          rcases Bool.and_eq_false_iff.mp hI with h | h
          · rw [h]; rfl
          · by_cases hall : ∀ j, j < b.length → lch a j = lch b j
            · rw [eqB_t i (fun j hj => hall j (by omega))] at h; exact absurd h (by decide)
            · obtain ⟨j, hj⟩ := Classical.not_forall.mp hall
              obtain ⟨hj1, hj2⟩ := Classical.not_imp.mp hj
              rw [eqB_f _ j hj1 hj2, Bool.and_false]
        rw [this] at hQ
        exact c_y rfl ⟨Or.inl rfl, hQ⟩
      | true =>
        obtain ⟨h1, h2⟩ := Bool.and_eq_true_iff.mp hI
        have hlen : a.length = b.length := by simpa using h1
        refine c_n (by decide) ⟨vp_in_nI (by omega) (by decide), vp_in_nI (by omega) (by decide), ?_⟩
        have := lch_lt oa i
        have := lch_lt ob i
        rw [nI_clamp (by omega), ha.2 i (by omega), hb.ch hi, ofI1, nI_add]
        refine c_eq' rfl rfl (by omega) (by omega) (fun e => ih true ?_) (fun e => ih false ?_)
        · rw [el, h1, h2, e, beq_self_eq_true]; rfl
        · rw [el, h1, h2, beq_false_of_ne e]; rfl
  refine c_eq' rfl rfl (by omega) (by omega) (fun e => key true (by rw [e, beq_self_eq_true])) (fun e => key false (beq_false_of_ne e))
def edR (f g : Nat → Nat) (i : Nat) (prev : Nat → Nat) : Nat → Nat
  | 0 => i + 1
  | k + 1 => min (prev k + (if f i = g k then 0 else 1)) (min (prev (k + 1)) (edR f g i prev k) + 1)
def edD (f g : Nat → Nat) : Nat → Nat → Nat
  | 0 => fun k => k
  | i + 1 => edR f g i (edD f g i)
theorem edD_le (f g : Nat → Nat) : ∀ i k, edD f g i k ≤ i + k := by
  intro i
  induction i with
  | zero => intro k; show k ≤ 0 + k; omega
  | succ i ih =>
    intro k
    show edR f g i (edD f g i) k ≤ i + 1 + k
    cases k with
    | zero => exact Nat.le_refl _
    | succ k =>
      show min (edD f g i k + _) (min (edD f g i (k + 1)) _ + 1) ≤ _
      have := ih (k + 1)
      omega
theorem edD_s (f g : Nat → Nat) (i k : Nat) : edD f g (i + 1) (k + 1) = min (edD f g i k + (if f i = g k then 0 else 1)) (min (edD f g i (k + 1)) (edD f g (i + 1) k) + 1) := rfl
theorem edD_0 (f g : Nat → Nat) (i : Nat) : edD f g i 0 = i := by cases i <;> rfl
