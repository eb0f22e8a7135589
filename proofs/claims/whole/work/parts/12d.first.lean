theorem MLk_of {m : Md} {A : Nat → Nat → Nat} {c u p : Nat} (hw : Wf A c) (hp : p < 40) (d7 : ∀ j, j < 40 → gA m 7 j = oI (parA A u j)) (d9 : ∀ q t, q < 40 → t < 3 → gA m 9 (3 * q + t) = nI (livA A u q t)) : MLk m A (parA A u) (livA A u p) p := by
  have b1 : A 51 0 ≤ 40 := hw.1.2.1
  exact ⟨fun j hj => d7 j (by omega), fun j hj => (hw.2.2.1.2.2 u).le hj, fun t ht => d9 p t hp ht, fun t _ => by have := livA_le hw u p t; omega⟩
theorem sim_first {c : Nat} {nb m st la sp ac bd sg vw : Md} (hR : RW c m st la sp ac bd sg) {x1 x2 x3 : Int32} {Q : Int32 → Md → Md → Md → Md → Md → Int32 → Md → Prop} (hQ : ∀ r vw' m', Fr [(1, 7), (1, 8), (1, 9)] m m' → Q r nb st la ac vw' r m') : qX11_first nb st la ac vw x1 x2 x3 (fun r nb' st' la' ac' vw' => qX12_first m x1 x2 x3 (fun r' m' => Q r nb' st' la' ac' vw' r' m')) := by
  obtain ⟨A, hm, hw, hs, hn⟩ := id hR
  have e1 : gA m 1 1 = nI (A 51 0) := hm.1.2.1
  have s1 : gF la 0 = nI (A 51 0) := hn.1.1.1
  have b1 : A 51 0 ≤ 40 := hw.1.2.1
  unfold qX11_first qX12_first
  rcases ix32 x1 (n := A 51 0) (by omega) with h | ⟨p, hp, rfl⟩
  · exact la_has0 s1 (by omega) h (b_0' (m_isPl0 e1 b1 h (b_0' (hQ _ _ _ Fr.rf))))
  refine la_has1 s1 (by omega) hp (b_1' ?_)
  rcases ix32 x2 (n := 400) (by omega) with h | ⟨y, hy, rfl⟩
  · exact q_yr0 h (b_0' (m_isPl1 e1 b1 hp (b_1' (m_yr0 h (b_0' (hQ _ _ _ Fr.rf))))))
  refine q_yr1 hy (b_1' ?_)
  rcases ix32 x3 (n := 400) (by omega) with h | ⟨z, hz, rfl⟩
  · exact q_yr0 h (b_0 (m_isPl1 e1 b1 hp (b_1' (m_yr1 hy (b_1' (m_yr0 h (b_0 (hQ _ _ _ Fr.rf))))))))
  refine q_yr1 hz (b_1 (N_look hw hn.1 hn.2.2.1 hp hy hz (fun vw' fv a4 a5 a1 a2 a3 => ?_)))
  rw [a4]
  refine m_isPl1 e1 b1 hp (b_1' (m_yr1 hy (b_1' (m_yr1 hz (b_1 ?_)))))
  rw [imin_nI (by omega) (by omega)]
  refine M_looks hw hm (by omega) (fun m' fm d7 d8 d9 => ?_)
  exact M_firstOf hw (by rw [fm.2.1 1 (by decide)]; exact hm) (MLk_of hw (by omega) d7 d9) (by omega) (by omega) hy (hQ _ _ _ fm)
theorem sim_beside {c : Nat} {nb m st la sp ac bd sg vw : Md} (hR : RW c m st la sp ac bd sg) {x1 x2 x3 : Int32} {Q : Int32 → Md → Md → Md → Md → Md → Int32 → Md → Prop} (hQ : ∀ r vw' m', Fr [(1, 7), (1, 8), (1, 9)] m m' → Q r nb st la ac vw' r m') : qX11_beside nb st la ac vw x1 x2 x3 (fun r nb' st' la' ac' vw' => qX12_beside m x1 x2 x3 (fun r' m' => Q r nb' st' la' ac' vw' r' m')) := by
  obtain ⟨A, hm, hw, hs, hn⟩ := id hR
  have e1 : gA m 1 1 = nI (A 51 0) := hm.1.2.1
  have s1 : gF la 0 = nI (A 51 0) := hn.1.1.1
  have b1 : A 51 0 ≤ 40 := hw.1.2.1
  unfold qX11_beside qX12_beside
  rcases ix32 x1 (n := A 51 0) (by omega) with h | ⟨p, hp, rfl⟩
  · exact la_has0 s1 (by omega) h (b_0' (m_isPl0 e1 b1 h (b_0' (hQ _ _ _ Fr.rf))))
  refine la_has1 s1 (by omega) hp (b_1' ?_)
  rcases ix32 x2 (n := 400) (by omega) with h | ⟨y, hy, rfl⟩
  · exact q_yr0 h (b_0' (m_isPl1 e1 b1 hp (b_1' (m_yr0 h (b_0' (hQ _ _ _ Fr.rf))))))
  refine q_yr1 hy (b_1' ?_)
  rcases ix32 x3 (n := 400) (by omega) with h | ⟨z, hz, rfl⟩
  · exact q_yr0 h (b_0 (m_isPl1 e1 b1 hp (b_1' (m_yr1 hy (b_1' (m_yr0 h (b_0 (hQ _ _ _ Fr.rf))))))))
  refine q_yr1 hz (b_1 (N_look hw hn.1 hn.2.2.1 hp hy hz (fun vw' fv a4 a5 a1 a2 a3 => ?_)))
  rw [a5]
  refine m_isPl1 e1 b1 hp (b_1' (m_yr1 hy (b_1' (m_yr1 hz (b_1 ?_)))))
  rw [imin_nI (by omega) (by omega)]
  refine M_looks hw hm (by omega) (fun m' fm d7 d8 d9 => ?_)
  exact M_besideOf hw (by rw [fm.2.1 1 (by decide)]; exact hm) (MLk_of hw (by omega) d7 d9) (by omega) (by omega) hy (hQ _ _ _ fm)
theorem sumF_ge {g : Nat → Nat} : ∀ k i, i < k → g i ≤ sumF g k := by
  intro k
  induction k with
  | zero => intro i h; omega
  | succ k ih =>
    intro i hi
    show g i ≤ sumF g k + g k
    by_cases e : i = k
    · rw [e]; omega
    · have := ih i (by omega); omega
theorem own_liv {A : Nat → Nat → Nat} {u p t : Nat} (hp : p < A 51 0) : ownA A u (3 * p + t) ≤ livA A u p t := by
  have h := sumF_ge (g := livG A u p t) (A 51 0) p hp
  have e : livG A u p t p = ownA A u (3 * p + t) := by
    unfold livG; rw [und_s, if_pos rfl]; rfl
  rw [e] at h; exact h
/-- the people after d of a were of b -/
def swL (L : Nat → Nat) (a b d : Nat) : Nat → Nat := va_up (va_up L a (L a - d)) b (L b + d)
def swB (A : Nat → Nat → Nat) (L : Nat → Nat) (pts yr act was a b d : Nat) : Bool := frA A (fcF (swL L a b d) pts yr) (swL L a b d) act != was
def Pw (A : Nat → Nat → Nat) (L own : Nat → Nat) (pts yr act was a b d : Nat) : Prop := d ≤ own a ∧ swB A L pts yr act was a b d = true
def IsB (P X : Nat → Nat → Nat → Prop) (r : Nat) : Prop := (r = 0 ∧ ∀ a b d, X a b d → ¬ P a b d) ∨ (1 ≤ r ∧ (∃ a b, X a b r ∧ P a b r) ∧ ∀ a b d, d < r → X a b d → ¬ P a b d)
theorem IsB.un {P X : Nat → Nat → Nat → Prop} {r s : Nat} (h1 : IsB P X r) (h2 : IsB P X s) : r = s := by
  rcases h1 with ⟨h1, k1⟩ | ⟨h1, ⟨a, b, x1, p1⟩, k1⟩
  · rcases h2 with ⟨h2, k2⟩ | ⟨h2, ⟨a, b, x2, p2⟩, k2⟩
    · omega
    · exact absurd p2 (k1 a b s x2)
  · rcases h2 with ⟨h2, k2⟩ | ⟨h2, ⟨a', b', x2, p2⟩, k2⟩
    · exact absurd p1 (k2 a b r x1)
    · rcases Nat.lt_trichotomy r s with h | h | h
      · exact absurd p1 (k2 a b r h x1)
      · exact h
      · exact absurd p2 (k1 a' b' s h x2)
def X3 (a b d : Nat) : Prop := a < 3 ∧ b < 3 ∧ a ≠ b ∧ 1 ≤ d
def mI (b : Nat) : Int32 := if b = 0 then -1 else nI b
def SwI (vw : Md) (A : Nat → Nat → Nat) (L : Nat → Nat) (u pts yr was : Nat) : Prop := (∀ t, t < 3 → gA vw 2 t = nI (L t)) ∧ gA vw 3 4 = nI pts ∧ gA vw 3 5 = nI yr ∧ gF vw 4 = nI was ∧ ∀ j, j < 120 → gA vw 1 j = nI (ownA A u j)
theorem swL_le {L : Nat → Nat} {a b d : Nat} (hL : ∀ t, t < 3 → L t ≤ 80000) (hd : d ≤ 2000) (ha : a < 3) (hb : b < 3) : ∀ t, t < 3 → swL L a b d t ≤ 100000 := by
  intro t ht
  have h1 := hL a ha
  have h2 := hL b hb
  unfold swL
  by_cases e : t = b
  · rw [e, va_up_eq]; omega
  · rw [va_up_ne' _ _ e]
    by_cases e2 : t = a
    · rw [e2, va_up_eq]; omega
    · rw [va_up_ne' _ _ e2]; have := hL t ht; omega
theorem N_swungBy {vw ac : Md} {A : Nat → Nat → Nat} {L : Nat → Nat} {c u pts yr was act a b d : Nat} (hw : Wf A c) (hac : Nac ac A) (hact : act ≤ A 54 0) (hL : ∀ t, t < 3 → L t ≤ 80000) (hpts : pts ≤ 40) (hyr : yr < 400) (hwas : was < 3) (h : SwI vw A L u pts yr was) (ha : a < 3) (hb : b < 3) (hab : a ≠ b) (hd : d ≤ L a) (hd2 : d ≤ 2000) {Q : Int32 → Md → Md → Prop} (hQ : ∀ vw', SwI vw' A L u pts yr was → Q (bI (swB A L pts yr act was a b d)) vw' ac) : qX10_swungBy vw ac (oI act) (nI a) (nI b) (nI d) Q := by
  obtain ⟨h1, h2, h3, h4, h5⟩ := h
  have la := hL a ha
  have lb := hL b hb
  have qa := h1 a ha
  have qb := h1 b hb
  unfold qX10_swungBy
  simp (disch := omega) only [qa, qb, ofI1, nI_add, pk_mul, pk_sub, nI_clamp, imin_nI, imax_nI, nl_0, nl_1, nl_2, nl_3, nl_4, nl_5, nl_6, nl_7, nl_8, nl_9, nl_10, nl_11, nl_12, nl_13, nl_15, nl_16, nl_20, nl_24, nl_26, nl_30, nl_32, nl_36, nl_39, nl_40, nl_45, nl_48, nl_50, nl_57, nl_59, nl_60, nl_61, nl_62, nl_64, nl_72, nl_73, nl_80, nl_90, nl_97, nl_99, nl_100, nl_120, nl_122, nl_123, nl_127, nl_128, nl_199, nl_200, nl_255, nl_256, nl_290, nl_399, nl_400, nl_500, nl_512, nl_520, nl_600, nl_999, nl_1000, nl_2000, nl_9999, nl_10000, nl_14, nl_17, nl_18, nl_19, nl_21, nl_22, nl_23, nl_25, nl_27, nl_28, nl_29, nl_31, nl_33, nl_34, nl_35, nl_47, nl_51, nl_63, nl_110, nl_195, nl_240, nl_1370, nl_3710, nl_6030, nl_6690, nl_7490, nl_7610, nl_9170, nl_11570, gA_sF, gL_sF, gB_sF, gZ_sF, gO_sF, gX_sF, gF_sA, gL_sA, gB_sA, gZ_sA, gO_sA, gX_sA, gF_sL, gA_sL, gB_sL, gZ_sL, gO_sL, gX_sL, gF_sB, gA_sB, gL_sB, gZ_sB, gO_sB, gX_sB, gF_sZ, gA_sZ, gL_sZ, gB_sZ, gO_sZ, gX_sZ, gF_sO, gA_sO, gL_sO, gB_sO, gZ_sO, gX_sO, gF_sX, gA_sX, gL_sX, gB_sX, gZ_sX, gO_sX, gF_tA, gL_tA, gB_tA, gZ_tA, gO_tA, gX_tA, gF_tL, gA_tL, gB_tL, gZ_tL, gO_tL, gX_tL, gF_tB, gA_tB, gL_tB, gZ_tB, gO_tB, gX_tB, gF_tZ, gA_tZ, gL_tZ, gB_tZ, gO_tZ, gX_tZ, gF_sF, gA_sA, gL_sL, gB_sB, gZ_sZ, gO_sO, gX_sX, gA_tA, gL_tL, gB_tB, gZ_tZ, reduceIte, Nat.reduceEqDiff, Nat.zero_ne_one, Nat.one_ne_zero, Nat.succ_ne_self, forall_eq, vpT, cpyT, nI_leI, nI_ltI, nI_eq, nI_m1, oI_eqn, oI_eqm, va_up_ne', va_up_eq, eq_self_iff_true, true_or, or_true, true_implies, not_true_eq_false, not_false_eq_true, false_implies, and_true, true_and, forall_const, implies_true, ne_eq, Nat.add_sub_cancel, nI_pos, ite_self]
  generalize hv' : tA (tA vw 2 _ _) 2 _ _ = v1
  have g2 : gA v1 2 = va_up (va_up (gA vw 2) a (nI (L a - d))) b (nI (L b + d)) := by
    rw [← hv']; simp (disch := omega) only [ofI1, nI_add, pk_mul, pk_sub, nI_clamp, imin_nI, imax_nI, nl_0, nl_1, nl_2, nl_3, nl_4, nl_5, nl_6, nl_7, nl_8, nl_9, nl_10, nl_11, nl_12, nl_13, nl_15, nl_16, nl_20, nl_24, nl_26, nl_30, nl_32, nl_36, nl_39, nl_40, nl_45, nl_48, nl_50, nl_57, nl_59, nl_60, nl_61, nl_62, nl_64, nl_72, nl_73, nl_80, nl_90, nl_97, nl_99, nl_100, nl_120, nl_122, nl_123, nl_127, nl_128, nl_199, nl_200, nl_255, nl_256, nl_290, nl_399, nl_400, nl_500, nl_512, nl_520, nl_600, nl_999, nl_1000, nl_2000, nl_9999, nl_10000, nl_14, nl_17, nl_18, nl_19, nl_21, nl_22, nl_23, nl_25, nl_27, nl_28, nl_29, nl_31, nl_33, nl_34, nl_35, nl_47, nl_51, nl_63, nl_110, nl_195, nl_240, nl_1370, nl_3710, nl_6030, nl_6690, nl_7490, nl_7610, nl_9170, nl_11570, gA_sF, gL_sF, gB_sF, gZ_sF, gO_sF, gX_sF, gF_sA, gL_sA, gB_sA, gZ_sA, gO_sA, gX_sA, gF_sL, gA_sL, gB_sL, gZ_sL, gO_sL, gX_sL, gF_sB, gA_sB, gL_sB, gZ_sB, gO_sB, gX_sB, gF_sZ, gA_sZ, gL_sZ, gB_sZ, gO_sZ, gX_sZ, gF_sO, gA_sO, gL_sO, gB_sO, gZ_sO, gX_sO, gF_sX, gA_sX, gL_sX, gB_sX, gZ_sX, gO_sX, gF_tA, gL_tA, gB_tA, gZ_tA, gO_tA, gX_tA, gF_tL, gA_tL, gB_tL, gZ_tL, gO_tL, gX_tL, gF_tB, gA_tB, gL_tB, gZ_tB, gO_tB, gX_tB, gF_tZ, gA_tZ, gL_tZ, gB_tZ, gO_tZ, gX_tZ, gF_sF, gA_sA, gL_sL, gB_sB, gZ_sZ, gO_sO, gX_sX, gA_tA, gL_tL, gB_tB, gZ_tZ, reduceIte, Nat.reduceEqDiff, Nat.zero_ne_one, Nat.one_ne_zero, Nat.succ_ne_self, forall_eq, vpT, cpyT, nI_leI, nI_ltI, nI_eq, nI_m1, oI_eqn, oI_eqm, va_up_ne', va_up_eq, eq_self_iff_true, true_or, or_true, true_implies, not_true_eq_false, not_false_eq_true, false_implies, and_true, true_and, forall_const, implies_true, ne_eq, Nat.add_sub_cancel, nI_pos, ite_self]
  have f1 : Fr [(1, 2)] vw v1 := by rw [← hv']; exact Fr.tr (Fr.tA 2 _ _ (by decide)) (Fr.tA 2 _ _ (by decide))
  have hl1 : ∀ t, t < 3 → gA v1 2 t = nI (swL L a b d t) := by
    intro t ht
    rw [g2]; unfold swL
    by_cases e : t = b
    · rw [e, va_up_eq, va_up_eq]
    · rw [va_up_ne' _ _ e, va_up_ne' _ _ e]
      by_cases e2 : t = a
      · rw [e2, va_up_eq, va_up_eq]
      · rw [va_up_ne' _ _ e2, va_up_ne' _ _ e2]; exact h1 t ht
  have hsl := swL_le hL hd2 ha hb
  refine N_setShares hl1 hsl (fun v2 f2 k1 k2 k3 k4 => ?_)
  have hF := k1 pts yr (by rw [f1.2.1 3 (by decide)]; exact h2) (by rw [f1.2.1 3 (by decide)]; exact h3)
  have hl2 : ∀ t, t < 3 → gA v2 2 t = nI (swL L a b d t) := fun t ht => by rw [f2.2.1 2 (by decide)]; exact hl1 t ht
  have hsl2 : ∀ t, t < 3 → swL L a b d t < 2 ^ 31 := fun t ht => by have := hsl t ht; omega
  refine N_firstBy (F := fcF (swL L a b d) pts yr) (L := swL L a b d) hw hac hact hF (fcF_lt hsl hpts hyr) hl2 hsl2 ?_
  have hfr := frA_lt hw (F := fcF (swL L a b d) pts yr) (L := swL L a b d) (a := act) hact
  have g4 : gF v2 4 = nI was := by rw [f2.1 4 (by decide), f1.1 4 (by decide)]; exact h4
  have k45 : ∀ t : Bool, swB A L pts yr act was a b d = t → qX10_swungBy_45 Q v2 ac (nI a) (nI b) (nI d) (bI t) := by
    intro t ht
    have pa : gA v2 2 a = nI (L a - d) := by
      rw [hl2 a ha]; unfold swL; rw [va_up_ne' _ _ hab, va_up_eq]
    have pb : gA v2 2 b = nI (L b + d) := by
      rw [hl2 b hb]; unfold swL; rw [va_up_eq]
    have bi : bI t = 0 ∨ bI t = 1 := by cases t <;> decide
    have ea : L a - d + d = L a := by omega
    unfold qX10_swungBy_45
    simp (disch := omega) only [pa, pb, ea, ofI1, nI_add, pk_mul, pk_sub, nI_clamp, imin_nI, imax_nI, nl_0, nl_1, nl_2, nl_3, nl_4, nl_5, nl_6, nl_7, nl_8, nl_9, nl_10, nl_11, nl_12, nl_13, nl_15, nl_16, nl_20, nl_24, nl_26, nl_30, nl_32, nl_36, nl_39, nl_40, nl_45, nl_48, nl_50, nl_57, nl_59, nl_60, nl_61, nl_62, nl_64, nl_72, nl_73, nl_80, nl_90, nl_97, nl_99, nl_100, nl_120, nl_122, nl_123, nl_127, nl_128, nl_199, nl_200, nl_255, nl_256, nl_290, nl_399, nl_400, nl_500, nl_512, nl_520, nl_600, nl_999, nl_1000, nl_2000, nl_9999, nl_10000, nl_14, nl_17, nl_18, nl_19, nl_21, nl_22, nl_23, nl_25, nl_27, nl_28, nl_29, nl_31, nl_33, nl_34, nl_35, nl_47, nl_51, nl_63, nl_110, nl_195, nl_240, nl_1370, nl_3710, nl_6030, nl_6690, nl_7490, nl_7610, nl_9170, nl_11570, gA_sF, gL_sF, gB_sF, gZ_sF, gO_sF, gX_sF, gF_sA, gL_sA, gB_sA, gZ_sA, gO_sA, gX_sA, gF_sL, gA_sL, gB_sL, gZ_sL, gO_sL, gX_sL, gF_sB, gA_sB, gL_sB, gZ_sB, gO_sB, gX_sB, gF_sZ, gA_sZ, gL_sZ, gB_sZ, gO_sZ, gX_sZ, gF_sO, gA_sO, gL_sO, gB_sO, gZ_sO, gX_sO, gF_sX, gA_sX, gL_sX, gB_sX, gZ_sX, gO_sX, gF_tA, gL_tA, gB_tA, gZ_tA, gO_tA, gX_tA, gF_tL, gA_tL, gB_tL, gZ_tL, gO_tL, gX_tL, gF_tB, gA_tB, gL_tB, gZ_tB, gO_tB, gX_tB, gF_tZ, gA_tZ, gL_tZ, gB_tZ, gO_tZ, gX_tZ, gF_sF, gA_sA, gL_sL, gB_sB, gZ_sZ, gO_sO, gX_sX, gA_tA, gL_tL, gB_tB, gZ_tZ, reduceIte, Nat.reduceEqDiff, Nat.zero_ne_one, Nat.one_ne_zero, Nat.succ_ne_self, forall_eq, vpT, cpyT, nI_leI, nI_ltI, nI_eq, nI_m1, oI_eqn, oI_eqm, va_up_ne', va_up_eq, eq_self_iff_true, true_or, or_true, true_implies, not_true_eq_false, not_false_eq_true, false_implies, and_true, true_and, forall_const, implies_true, ne_eq, Nat.add_sub_cancel, nI_pos, ite_self]
    refine ⟨bi, ?_⟩
    rw [ht] at hQ
    refine hQ _ ⟨fun t ht => ?_, ?_, ?_, ?_, fun j hj => ?_⟩
    · by_cases e : t = b
      · subst e; simp (disch := omega) only [ofI1, nI_add, pk_mul, pk_sub, nI_clamp, imin_nI, imax_nI, nl_0, nl_1, nl_2, nl_3, nl_4, nl_5, nl_6, nl_7, nl_8, nl_9, nl_10, nl_11, nl_12, nl_13, nl_15, nl_16, nl_20, nl_24, nl_26, nl_30, nl_32, nl_36, nl_39, nl_40, nl_45, nl_48, nl_50, nl_57, nl_59, nl_60, nl_61, nl_62, nl_64, nl_72, nl_73, nl_80, nl_90, nl_97, nl_99, nl_100, nl_120, nl_122, nl_123, nl_127, nl_128, nl_199, nl_200, nl_255, nl_256, nl_290, nl_399, nl_400, nl_500, nl_512, nl_520, nl_600, nl_999, nl_1000, nl_2000, nl_9999, nl_10000, nl_14, nl_17, nl_18, nl_19, nl_21, nl_22, nl_23, nl_25, nl_27, nl_28, nl_29, nl_31, nl_33, nl_34, nl_35, nl_47, nl_51, nl_63, nl_110, nl_195, nl_240, nl_1370, nl_3710, nl_6030, nl_6690, nl_7490, nl_7610, nl_9170, nl_11570, gA_sF, gL_sF, gB_sF, gZ_sF, gO_sF, gX_sF, gF_sA, gL_sA, gB_sA, gZ_sA, gO_sA, gX_sA, gF_sL, gA_sL, gB_sL, gZ_sL, gO_sL, gX_sL, gF_sB, gA_sB, gL_sB, gZ_sB, gO_sB, gX_sB, gF_sZ, gA_sZ, gL_sZ, gB_sZ, gO_sZ, gX_sZ, gF_sO, gA_sO, gL_sO, gB_sO, gZ_sO, gX_sO, gF_sX, gA_sX, gL_sX, gB_sX, gZ_sX, gO_sX, gF_tA, gL_tA, gB_tA, gZ_tA, gO_tA, gX_tA, gF_tL, gA_tL, gB_tL, gZ_tL, gO_tL, gX_tL, gF_tB, gA_tB, gL_tB, gZ_tB, gO_tB, gX_tB, gF_tZ, gA_tZ, gL_tZ, gB_tZ, gO_tZ, gX_tZ, gF_sF, gA_sA, gL_sL, gB_sB, gZ_sZ, gO_sO, gX_sX, gA_tA, gL_tL, gB_tB, gZ_tZ, reduceIte, Nat.reduceEqDiff, Nat.zero_ne_one, Nat.one_ne_zero, Nat.succ_ne_self, forall_eq, vpT, cpyT, nI_leI, nI_ltI, nI_eq, nI_m1, oI_eqn, oI_eqm, va_up_ne', va_up_eq, eq_self_iff_true, true_or, or_true, true_implies, not_true_eq_false, not_false_eq_true, false_implies, and_true, true_and, forall_const, implies_true, ne_eq, Nat.add_sub_cancel, nI_pos, ite_self]
      · by_cases e2 : t = a
        · subst e2; simp (disch := omega) only [ofI1, nI_add, pk_mul, pk_sub, nI_clamp, imin_nI, imax_nI, nl_0, nl_1, nl_2, nl_3, nl_4, nl_5, nl_6, nl_7, nl_8, nl_9, nl_10, nl_11, nl_12, nl_13, nl_15, nl_16, nl_20, nl_24, nl_26, nl_30, nl_32, nl_36, nl_39, nl_40, nl_45, nl_48, nl_50, nl_57, nl_59, nl_60, nl_61, nl_62, nl_64, nl_72, nl_73, nl_80, nl_90, nl_97, nl_99, nl_100, nl_120, nl_122, nl_123, nl_127, nl_128, nl_199, nl_200, nl_255, nl_256, nl_290, nl_399, nl_400, nl_500, nl_512, nl_520, nl_600, nl_999, nl_1000, nl_2000, nl_9999, nl_10000, nl_14, nl_17, nl_18, nl_19, nl_21, nl_22, nl_23, nl_25, nl_27, nl_28, nl_29, nl_31, nl_33, nl_34, nl_35, nl_47, nl_51, nl_63, nl_110, nl_195, nl_240, nl_1370, nl_3710, nl_6030, nl_6690, nl_7490, nl_7610, nl_9170, nl_11570, gA_sF, gL_sF, gB_sF, gZ_sF, gO_sF, gX_sF, gF_sA, gL_sA, gB_sA, gZ_sA, gO_sA, gX_sA, gF_sL, gA_sL, gB_sL, gZ_sL, gO_sL, gX_sL, gF_sB, gA_sB, gL_sB, gZ_sB, gO_sB, gX_sB, gF_sZ, gA_sZ, gL_sZ, gB_sZ, gO_sZ, gX_sZ, gF_sO, gA_sO, gL_sO, gB_sO, gZ_sO, gX_sO, gF_sX, gA_sX, gL_sX, gB_sX, gZ_sX, gO_sX, gF_tA, gL_tA, gB_tA, gZ_tA, gO_tA, gX_tA, gF_tL, gA_tL, gB_tL, gZ_tL, gO_tL, gX_tL, gF_tB, gA_tB, gL_tB, gZ_tB, gO_tB, gX_tB, gF_tZ, gA_tZ, gL_tZ, gB_tZ, gO_tZ, gX_tZ, gF_sF, gA_sA, gL_sL, gB_sB, gZ_sZ, gO_sO, gX_sX, gA_tA, gL_tL, gB_tB, gZ_tZ, reduceIte, Nat.reduceEqDiff, Nat.zero_ne_one, Nat.one_ne_zero, Nat.succ_ne_self, forall_eq, vpT, cpyT, nI_leI, nI_ltI, nI_eq, nI_m1, oI_eqn, oI_eqm, va_up_ne', va_up_eq, eq_self_iff_true, true_or, or_true, true_implies, not_true_eq_false, not_false_eq_true, false_implies, and_true, true_and, forall_const, implies_true, ne_eq, Nat.add_sub_cancel, nI_pos, ite_self]
        · simp (disch := omega) only [ofI1, nI_add, pk_mul, pk_sub, nI_clamp, imin_nI, imax_nI, nl_0, nl_1, nl_2, nl_3, nl_4, nl_5, nl_6, nl_7, nl_8, nl_9, nl_10, nl_11, nl_12, nl_13, nl_15, nl_16, nl_20, nl_24, nl_26, nl_30, nl_32, nl_36, nl_39, nl_40, nl_45, nl_48, nl_50, nl_57, nl_59, nl_60, nl_61, nl_62, nl_64, nl_72, nl_73, nl_80, nl_90, nl_97, nl_99, nl_100, nl_120, nl_122, nl_123, nl_127, nl_128, nl_199, nl_200, nl_255, nl_256, nl_290, nl_399, nl_400, nl_500, nl_512, nl_520, nl_600, nl_999, nl_1000, nl_2000, nl_9999, nl_10000, nl_14, nl_17, nl_18, nl_19, nl_21, nl_22, nl_23, nl_25, nl_27, nl_28, nl_29, nl_31, nl_33, nl_34, nl_35, nl_47, nl_51, nl_63, nl_110, nl_195, nl_240, nl_1370, nl_3710, nl_6030, nl_6690, nl_7490, nl_7610, nl_9170, nl_11570, gA_sF, gL_sF, gB_sF, gZ_sF, gO_sF, gX_sF, gF_sA, gL_sA, gB_sA, gZ_sA, gO_sA, gX_sA, gF_sL, gA_sL, gB_sL, gZ_sL, gO_sL, gX_sL, gF_sB, gA_sB, gL_sB, gZ_sB, gO_sB, gX_sB, gF_sZ, gA_sZ, gL_sZ, gB_sZ, gO_sZ, gX_sZ, gF_sO, gA_sO, gL_sO, gB_sO, gZ_sO, gX_sO, gF_sX, gA_sX, gL_sX, gB_sX, gZ_sX, gO_sX, gF_tA, gL_tA, gB_tA, gZ_tA, gO_tA, gX_tA, gF_tL, gA_tL, gB_tL, gZ_tL, gO_tL, gX_tL, gF_tB, gA_tB, gL_tB, gZ_tB, gO_tB, gX_tB, gF_tZ, gA_tZ, gL_tZ, gB_tZ, gO_tZ, gX_tZ, gF_sF, gA_sA, gL_sL, gB_sB, gZ_sZ, gO_sO, gX_sX, gA_tA, gL_tL, gB_tB, gZ_tZ, reduceIte, Nat.reduceEqDiff, Nat.zero_ne_one, Nat.one_ne_zero, Nat.succ_ne_self, forall_eq, vpT, cpyT, nI_leI, nI_ltI, nI_eq, nI_m1, oI_eqn, oI_eqm, va_up_ne', va_up_eq, eq_self_iff_true, true_or, or_true, true_implies, not_true_eq_false, not_false_eq_true, false_implies, and_true, true_and, forall_const, implies_true, ne_eq, Nat.add_sub_cancel, nI_pos, ite_self]
          rw [hl2 t ht]; unfold swL; rw [va_up_ne' _ _ e, va_up_ne' _ _ e2]
    · simp only [gA_sF, gL_sF, gB_sF, gZ_sF, gO_sF, gX_sF, gF_sA, gL_sA, gB_sA, gZ_sA, gO_sA, gX_sA, gF_sL, gA_sL, gB_sL, gZ_sL, gO_sL, gX_sL, gF_sB, gA_sB, gL_sB, gZ_sB, gO_sB, gX_sB, gF_sZ, gA_sZ, gL_sZ, gB_sZ, gO_sZ, gX_sZ, gF_sO, gA_sO, gL_sO, gB_sO, gZ_sO, gX_sO, gF_sX, gA_sX, gL_sX, gB_sX, gZ_sX, gO_sX, gF_tA, gL_tA, gB_tA, gZ_tA, gO_tA, gX_tA, gF_tL, gA_tL, gB_tL, gZ_tL, gO_tL, gX_tL, gF_tB, gA_tB, gL_tB, gZ_tB, gO_tB, gX_tB, gF_tZ, gA_tZ, gL_tZ, gB_tZ, gO_tZ, gX_tZ, gF_sF, gA_sA, gL_sL, gB_sB, gZ_sZ, gO_sO, gX_sX, gA_tA, gL_tL, gB_tB, gZ_tZ, reduceIte, Nat.reduceEqDiff, Nat.zero_ne_one, Nat.one_ne_zero, Nat.succ_ne_self]; rw [k3, f1.2.1 3 (by decide)]; exact h2
    · simp only [gA_sF, gL_sF, gB_sF, gZ_sF, gO_sF, gX_sF, gF_sA, gL_sA, gB_sA, gZ_sA, gO_sA, gX_sA, gF_sL, gA_sL, gB_sL, gZ_sL, gO_sL, gX_sL, gF_sB, gA_sB, gL_sB, gZ_sB, gO_sB, gX_sB, gF_sZ, gA_sZ, gL_sZ, gB_sZ, gO_sZ, gX_sZ, gF_sO, gA_sO, gL_sO, gB_sO, gZ_sO, gX_sO, gF_sX, gA_sX, gL_sX, gB_sX, gZ_sX, gO_sX, gF_tA, gL_tA, gB_tA, gZ_tA, gO_tA, gX_tA, gF_tL, gA_tL, gB_tL, gZ_tL, gO_tL, gX_tL, gF_tB, gA_tB, gL_tB, gZ_tB, gO_tB, gX_tB, gF_tZ, gA_tZ, gL_tZ, gB_tZ, gO_tZ, gX_tZ, gF_sF, gA_sA, gL_sL, gB_sB, gZ_sZ, gO_sO, gX_sX, gA_tA, gL_tL, gB_tB, gZ_tZ, reduceIte, Nat.reduceEqDiff, Nat.zero_ne_one, Nat.one_ne_zero, Nat.succ_ne_self]; rw [k4, f1.2.1 3 (by decide)]; exact h3
    · simp only [gA_sF, gL_sF, gB_sF, gZ_sF, gO_sF, gX_sF, gF_sA, gL_sA, gB_sA, gZ_sA, gO_sA, gX_sA, gF_sL, gA_sL, gB_sL, gZ_sL, gO_sL, gX_sL, gF_sB, gA_sB, gL_sB, gZ_sB, gO_sB, gX_sB, gF_sZ, gA_sZ, gL_sZ, gB_sZ, gO_sZ, gX_sZ, gF_sO, gA_sO, gL_sO, gB_sO, gZ_sO, gX_sO, gF_sX, gA_sX, gL_sX, gB_sX, gZ_sX, gO_sX, gF_tA, gL_tA, gB_tA, gZ_tA, gO_tA, gX_tA, gF_tL, gA_tL, gB_tL, gZ_tL, gO_tL, gX_tL, gF_tB, gA_tB, gL_tB, gZ_tB, gO_tB, gX_tB, gF_tZ, gA_tZ, gL_tZ, gB_tZ, gO_tZ, gX_tZ, gF_sF, gA_sA, gL_sL, gB_sB, gZ_sZ, gO_sO, gX_sX, gA_tA, gL_tL, gB_tB, gZ_tZ, reduceIte, Nat.reduceEqDiff, Nat.zero_ne_one, Nat.one_ne_zero, Nat.succ_ne_self]; exact g4
    · simp only [gA_sF, gL_sF, gB_sF, gZ_sF, gO_sF, gX_sF, gF_sA, gL_sA, gB_sA, gZ_sA, gO_sA, gX_sA, gF_sL, gA_sL, gB_sL, gZ_sL, gO_sL, gX_sL, gF_sB, gA_sB, gL_sB, gZ_sB, gO_sB, gX_sB, gF_sZ, gA_sZ, gL_sZ, gB_sZ, gO_sZ, gX_sZ, gF_sO, gA_sO, gL_sO, gB_sO, gZ_sO, gX_sO, gF_sX, gA_sX, gL_sX, gB_sX, gZ_sX, gO_sX, gF_tA, gL_tA, gB_tA, gZ_tA, gO_tA, gX_tA, gF_tL, gA_tL, gB_tL, gZ_tL, gO_tL, gX_tL, gF_tB, gA_tB, gL_tB, gZ_tB, gO_tB, gX_tB, gF_tZ, gA_tZ, gL_tZ, gB_tZ, gO_tZ, gX_tZ, gF_sF, gA_sA, gL_sL, gB_sB, gZ_sZ, gO_sO, gX_sX, gA_tA, gL_tL, gB_tB, gZ_tZ, reduceIte, Nat.reduceEqDiff, Nat.zero_ne_one, Nat.one_ne_zero, Nat.succ_ne_self]; rw [f2.2.1 1 (by decide), f1.2.1 1 (by decide)]; exact h5 j hj
  rw [g4]
  refine c_eq rfl rfl (by omega) (by omega) (fun e => k45 false ?_) (fun e => k45 true ?_)
  · unfold swB; rw [e, bne_self_eq_false]
  · unfold swB; exact bne_iff_ne.mpr e
theorem N_swingsBy {vw ac : Md} {A : Nat → Nat → Nat} {L : Nat → Nat} {c u pts yr was act p d : Nat} (hw : Wf A c) (hac : Nac ac A) (hact : act ≤ A 54 0) (hL : ∀ t, t < 3 → L t ≤ 80000) (hpts : pts ≤ 40) (hyr : yr < 400) (hwas : was < 3) (h : SwI vw A L u pts yr was) (hp : p < 40) (hown : ∀ t, t < 3 → ownA A u (3 * p + t) ≤ L t) (hd : d ≤ 2000) {Q : Int32 → Md → Md → Prop} (h1 : ∀ vw', SwI vw' A L u pts yr was → (∃ a b, a < 3 ∧ b < 3 ∧ a ≠ b ∧ Pw A L (fun t => ownA A u (3 * p + t)) pts yr act was a b d) → Q 1 vw' ac) (h0 : ∀ vw', SwI vw' A L u pts yr was → (∀ a b, a < 3 → b < 3 → a ≠ b → ¬ Pw A L (fun t => ownA A u (3 * p + t)) pts yr act was a b d) → Q 0 vw' ac) : qX10_swingsBy vw ac (oI act) (nI (3 * p)) (nI d) Q := by
  unfold qX10_swingsBy
  refine pk_loop (fun k a (v : Md) => qX10_swingsBy_3 Q k v ac (oI act) (nI (3 * p)) (nI d) (nI a)) (fun a v => SwI v A L u pts yr was ∧ ∀ a' b, a' < a → b < 3 → a' ≠ b → ¬ Pw A L (fun t => ownA A u (3 * p + t)) pts yr act was a' b d) 3 0 vw (by omega) ⟨h, fun a' b q => by omega⟩ (fun k v hI => ?_) (fun ko a v ha hI ih => ?_)
  · unfold qX10_swingsBy_3
    exact c_y (by decide) (h0 v hI.1 hI.2)
  · obtain ⟨i1, i2⟩ := hI
    unfold qX10_swingsBy_3
    refine c_n (nI_ge (b := 3) ha (by decide)) ?_
    refine pk_loop (fun k b (v : Md) => qX10_swingsBy_12 Q (qX10_swingsBy_3 Q ko) k v ac (oI act) (nI (3 * p)) (nI d) (nI a) (nI b)) (fun b v => SwI v A L u pts yr was ∧ ∀ b', b' < b → a ≠ b' → ¬ Pw A L (fun t => ownA A u (3 * p + t)) pts yr act was a b' d) 3 0 v (by omega) ⟨i1, fun b q => by omega⟩ (fun k v hJ => ?_) (fun k b v hb hJ jh => ?_)
    · unfold qX10_swingsBy_12
      rw [ofI1, nI_add]
      refine c_y (by decide) (ih v ⟨hJ.1, fun a' b q1 q2 q3 => ?_⟩)
      by_cases e : a' = a
      · rw [e]; exact hJ.2 b q2 (by omega)
      · exact i2 a' b (by omega) q2 q3
    · obtain ⟨j1, j2⟩ := hJ
      have own1 := hown a ha
      have ownb := ownA_le hw u (3 * p + a)
      unfold qX10_swingsBy_12
      rw [nI_add, nI_clamp (by omega), j1.2.2.2.2 _ (by omega), ofI1, nI_add, nI_add]
      refine c_n (nI_ge (b := 3) hb (by decide)) ⟨vp_in_nI (by omega) (by decide), c_lt rfl rfl (by omega) (by omega) (fun e => ?_) (fun e => c_eq rfl rfl (by omega) (by omega) (fun e2 => ?_) (fun e2 => ?_))⟩
      · refine ih v ⟨j1, fun a' b q1 q2 q3 q4 => ?_⟩
        by_cases ea : a' = a
        · rw [ea] at q4; have q5 : d ≤ ownA A u (3 * p + a) := q4.1; omega
        · exact i2 a' b (by omega) q2 q3 q4
      · refine jh v ⟨j1, fun b' q1 q2 => ?_⟩
        by_cases eb : b' = b
        · omega
        · exact j2 b' (by omega) q2
      · refine N_swungBy hw hac hact hL hpts hyr hwas j1 ha hb e2 (by omega) hd (fun v' hv' => ?_)
        cases hs : swB A L pts yr act was a b d with
        | true => exact b_1' (h1 v' hv' ⟨a, b, ha, hb, e2, by show d ≤ ownA A u (3 * p + a); omega, hs⟩)
        | false =>
          refine b_0' (jh v' ⟨hv', fun b' q1 q2 => ?_⟩)
          by_cases eb : b' = b
          · rw [eb]; exact fun q => absurd (hs.symm.trans q.2) (by decide)
          · exact j2 b' (by omega) q2
