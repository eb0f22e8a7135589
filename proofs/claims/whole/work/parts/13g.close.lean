def numA (A : Nat → Nat → Nat) (kind wo : Nat) : Nat := if lnA A (acA A (A 50 0)) kind = 0 then wo else A 29 (12 * (acA A (A 50 0) - 1) + (lnA A (acA A (A 50 0)) kind - 1))
theorem numA_le {A : Nat → Nat → Nat} {c : Nat} (hw : Wf A c) {kind wo : Nat} (h : wo ≤ 9999) : numA A kind wo ≤ 9999 := by
  unfold numA
  by_cases h0 : lnA A (acA A (A 50 0)) kind = 0
  · rw [if_pos h0]; exact h
  · rw [if_neg h0]
    obtain ⟨k1, k2⟩ := lnA_lt h0
    exact ((hw.2.2.2.2.2.2.1 (acA A (A 50 0) - 1) (by have := acA_le (A := A) (y := A 50 0); omega)).2.2 _ k2).2.1
theorem M_num {m : Md} {A : Nat → Nat → Nat} {c kind wo : Nat} (hw : Wf A c) (hm : MW (gA m 1) A) (hk : kind ≤ 5) {Q : Int32 → Md → Prop} (hQ : Q (nI (numA A kind wo)) m) : qX12_termOf m (nI kind) 1 (nI wo) Q := by
  refine M_termOf (i := 1) hw hm hk (Or.inl rfl) ?_
  unfold numA at hQ
  by_cases h0 : lnA A (acA A (A 50 0)) kind = 0
  · rw [if_pos h0] at hQ ⊢; exact hQ
  · rw [if_neg h0] at hQ ⊢; exact hQ
def nAlk (A : Nat → Nat → Nat) (n : Nat) : Prop := lnA A (acA A (A 50 0)) 2 ≠ 0 ∧ ∃ p t, p < A 51 0 ∧ t < 3 ∧ AlkX A n (A 29 (12 * (acA A (A 50 0) - 1) + (lnA A (acA A (A 50 0)) 2 - 1))) (A 30 (12 * (acA A (A 50 0) - 1) + (lnA A (acA A (A 50 0)) 2 - 1))) p t
/-- why a hearing h about n does not settle it: 0 it does -/
def why (A : Nat → Nat → Nat) (h n r : Nat) : Prop := (tfB A h (numA A 5 50) = true ∧ r = 1) ∨ (tfB A h (numA A 5 50) = false ∧ (A 12 n = 1 ∨ (2 ≤ A 12 n ∧ A 50 0 < numA A 3 0 + (A 12 n - 2))) ∧ r = 2) ∨ (tfB A h (numA A 5 50) = false ∧ ¬ (A 12 n = 1 ∨ (2 ≤ A 12 n ∧ A 50 0 < numA A 3 0 + (A 12 n - 2))) ∧ nAlk A n ∧ r = 3) ∨ (tfB A h (numA A 5 50) = false ∧ ¬ (A 12 n = 1 ∨ (2 ≤ A 12 n ∧ A 50 0 < numA A 3 0 + (A 12 n - 2))) ∧ ¬ nAlk A n ∧ r = 0)
theorem why_un {A : Nat → Nat → Nat} {h n r s : Nat} (h1 : why A h n r) (h2 : why A h n s) : r = s := by
  rcases h1 with ⟨a, e⟩ | ⟨a, b, e⟩ | ⟨a, b, d, e⟩ | ⟨a, b, d, e⟩ <;> rcases h2 with ⟨a', e'⟩ | ⟨a', b', e'⟩ | ⟨a', b', d', e'⟩ | ⟨a', b', d', e'⟩ <;> first | omega | exact absurd (a.symm.trans a') (by decide) | exact absurd b b' | exact absurd b' b | exact absurd d d' | exact absurd d' d
theorem dI_c {d : Nat} {P0 P1 P2 : Prop} (hd : d < 2 ^ 30) (h1 : d = 1 → P1) (h0 : d = 0 → P0) (h2 : 2 ≤ d → dI d = nI (d - 2) → P2) : (dI d = -9 → P1) ∧ (¬ dI d = -9 → (dI d = -1 → P0) ∧ (¬ dI d = -1 → P2)) := by
  rcases (show d = 0 ∨ d = 1 ∨ 2 ≤ d by omega) with rfl | rfl | h
  · exact ⟨fun e => absurd e (by decide), fun _ => ⟨fun _ => h0 rfl, fun e => absurd rfl e⟩⟩
  · exact ⟨fun _ => h1 rfl, fun e => absurd rfl e⟩
  · have e : dI d = nI (d - 2) := by unfold dI; rw [if_neg (by omega), if_neg (by omega)]
    have k2 := h2 h e
    rw [e]
    exact ⟨fun q => absurd q (nI_m9 (by omega)), fun _ => ⟨fun q => absurd q (nI_m1 (by omega)), fun _ => k2⟩⟩
theorem subI {a b k : Nat} {P R : Prop} (ha : a < 400) (hb : b < 1000) (hk : k ≤ 9999) (f : ¬ a < k + b → P) (g : a < k + b → R) : (nI k ≤ nI a - nI b → P) ∧ (¬ nI k ≤ nI a - nI b → R) := by
  rw [Int32.le_iff_toInt_le, nI_toInt (by omega), pk_sub_toInt (by omega) (by omega)]
  exact ⟨fun h => f (by omega), fun h => g (by omega)⟩
theorem N_whyRefused {vw o1 o2 st la sp ac bd : Md} {A : Nat → Nat → Nat} {c h n : Nat} (hw : Wf A c) (hs : Nst st A) (hl : Nla la A) (hp : Nsc sp A) (hac : Nac ac A) (hb : Nse bd A) (hh : h < 60) (g4 : gA bd 4 h = nI (bitF (fun v => A 39 (9 * h + v) != 0) 9)) (g5 : gA bd 5 h = nI (bitF (fun v => A 39 (9 * h + v) == 1) 9)) (hn : n < A 52 0) {Q : Int32 → Md → Md → Md → Md → Md → Md → Md → Md → Prop} (hQ : ∀ r vw' o1' o2', r ≤ 3 → why A h n r → Q (nI r) vw' o1' o2' st la sp ac bd) : qX10_whyRefused vw o1 o2 st la sp ac bd (nI h) (nI n) Q := by
  have b0 : A 50 0 < 400 := hw.1.1
  have b2 : A 52 0 ≤ 80 := hw.1.2.2.1
  have b4 : A 54 0 ≤ 8 := hw.1.2.2.2.2.1
  have wd := (hw.2.2.2.2.1 n hn).2.2.1
  have n5 := numA_le hw (kind := 5) (wo := 50) (by omega)
  have n3 := numA_le hw (kind := 3) (wo := 0) (by omega)
  unfold qX10_whyRefused
  rw [hs.1]
  refine N_inForce hw hac b0 (N_numberOf (kind := 5) (wo := 50) hw hac acA_le (by omega) ?_)
  refine N_tooFew (hd := numA A 5 50) hh g4 g5 n5 ?_
  cases htf : tfB A h (numA A 5 50) with
  | true => exact b_1' (hQ 1 _ _ _ (by omega) (Or.inl ⟨htf, rfl⟩))
  | false =>
    refine b_0' ⟨vp_in_nI (by omega) (by decide), N_numberOf (kind := 3) (wo := 0) hw hac acA_le (by omega) ?_⟩
    show (gA sp 3 (nI n).toNatClampNeg = -9 → _) ∧ _
    rw [nI_clamp (by omega), (hp.1.2 n hn).2.2.1]
    have k89 : ¬ (A 12 n = 1 ∨ (2 ≤ A 12 n ∧ A 50 0 < numA A 3 0 + (A 12 n - 2))) → qX10_whyRefused_89 Q vw o1 o2 st la sp ac bd (nI n) (oI (acA A (A 50 0))) := by
      intro hd
      unfold qX10_whyRefused_89
      refine N_lastLine (kind := 2) hw hac acA_le (by omega) ?_
      by_cases hl0 : lnA A (acA A (A 50 0)) 2 = 0
      · rw [if_pos hl0]
        exact c_y rfl (hQ 0 _ _ _ (by omega) (Or.inr (Or.inr (Or.inr ⟨htf, hd, fun q => q.1 hl0, rfl⟩))))
      · rw [if_neg hl0]
        obtain ⟨k1, k2⟩ := lnA_lt hl0
        have kal := acA_le (A := A) (y := A 50 0)
        have kw := (hw.2.2.2.2.2.2.1 (acA A (A 50 0) - 1) (by omega))
        have kl := (hac.2 (acA A (A 50 0) - 1) (by omega)).2.2.2 _ k2
        have kww := kw.2.2 _ k2
        have := kw.2.1
        refine c_n (nI_m1 (by omega)) ⟨vp_in_nI (by omega) (by decide), vp_in_nI (by omega) (by decide), ?_⟩
        rw [nI_clamp (by omega), kl.2.1, kl.2.2.1]
        refine N_isAlike hw hs hl hp hb hn kww.2.1 kww.2.2.2.1 (fun hx v1 v2 v3 => b_1' ?_) (fun hno v1 v2 v3 => b_0' ?_)
        · exact hQ 3 _ _ _ (by omega) (Or.inr (Or.inr (Or.inl ⟨htf, hd, ⟨hl0, hx⟩, rfl⟩)))
        · exact hQ 0 _ _ _ (by omega) (Or.inr (Or.inr (Or.inr ⟨htf, hd, fun q => by obtain ⟨p, t, q1, q2, q3⟩ := q.2; exact hno p t q1 q2 q3, rfl⟩)))
    refine dI_c (by omega) (fun e => hQ 2 _ _ _ (by omega) (Or.inr (Or.inl ⟨htf, Or.inl e, rfl⟩))) (fun e => k89 (fun q => ?_)) (fun e ed => ?_)
    · rcases q with q | q <;> omega
    · rw [ed]
      refine subI (k := numA A 3 0) b0 (by omega) n3 (fun q => k89 (fun q2 => ?_)) (fun q => hQ 2 _ _ _ (by omega) (Or.inr (Or.inl ⟨htf, Or.inr ⟨e, q⟩, rfl⟩)))
      rcases q2 with q2 | q2 <;> omega
/-- a hearing is closed -/
def clsA (A : Nat → Nat → Nat) (h : Nat) : Nat → Nat → Nat := upc A 38 h 0
theorem cnt_off {A : Nat → Nat → Nat} {h : Nat} : ∀ k, h < k → A 38 h = 1 → cntF (fun i => va_up (A 38) h 0 i == 1) k + 1 = cntF (fun i => A 38 i == 1) k := by
  intro k
  induction k with
  | zero => intro hk; omega
  | succ k ih =>
    intro hk h1
    show cntF (fun i => va_up (A 38) h 0 i == 1) k + (if (va_up (A 38) h 0 k == 1) = true then 1 else 0) + 1 = cntF (fun i => A 38 i == 1) k + (if (A 38 k == 1) = true then 1 else 0)
    by_cases e : h = k
    · subst e
      rw [va_up_eq, h1, cntF_c (g := fun i => A 38 i == 1) h (fun i hi => by rw [va_up_ne' _ _ (by omega)])]
      rfl
    · rw [va_up_ne' _ _ (fun q => e q.symm), ← ih (by omega) h1]; omega
theorem cls_Wf {A : Nat → Nat → Nat} {c h : Nat} (hw : Wf A c) (hh : h < A 55 0) (ho : A 38 h = 1) : Wf (clsA A h) c ∧ cntF (fun k => A 45 k != 0) (A 59 0) + 1 + cntF (fun i => clsA A h 38 i == 1) (A 55 0) ≤ A 55 0 := by
  have hc := cnt_off (A := A) (A 55 0) hh ho
  have h2 := hw.2.2.2.2.2.2.2.1.2
  refine ⟨?_, ?_⟩
  · obtain ⟨⟨w0, w1, w2, w3, w4, w5, w6, w7, w8, w9, wc⟩, v1, ⟨v2, v2b, v2c⟩, ⟨v3, v3b, v3c⟩, v4, v5, v6, v7, v8, ⟨v9, v9b, v9c⟩⟩ := id hw; refine ⟨⟨w0, w1, w2, w3, w4, w5, w6, w7, w8, w9, wc⟩, v1, ⟨v2, v2b, v2c⟩, ⟨v3, v3b, v3c⟩, v4, v5, v6, ⟨fun h' hh' => ⟨(v7.1 h' hh').1, ?_, (v7.1 h' hh').2.2⟩, ?_⟩, v8, ⟨v9, v9b, v9c⟩⟩
    · show va_up (A 38) h 0 h' ≤ 1
      by_cases e : h' = h
      · rw [e, va_up_eq]; omega
      · rw [va_up_ne' _ _ e]; exact (v7.1 h' hh').2.1
    · show cntF (fun k => A 45 k != 0) (A 59 0) + cntF (fun i => va_up (A 38) h 0 i == 1) (A 55 0) ≤ A 55 0
      omega
  · show cntF (fun k => A 45 k != 0) (A 59 0) + 1 + cntF (fun i => va_up (A 38) h 0 i == 1) (A 55 0) ≤ A 55 0
    omega
theorem N_settle {bd : Md} {A : Nat → Nat → Nat} {c n p t : Nat} (hw : Wf A c) (h : Nbd bd A) (hn : n < A 52 0) (hp : p < A 51 0) (ht : t < 3) (hcnt : cntF (fun k => A 45 k != 0) (A 59 0) < 60) {Q : Md → Prop} (hQ : ∀ bd', Nbd bd' (evtA A p t (n + 1)) → Q bd') : qX1_settle bd (nI n) (nI p) (nI t) (nI (A 50 0)) Q := by
  obtain ⟨hh, k, na, pl, to, yr, un, n1, n2, n3, n4⟩ := h
  have b0 : A 50 0 < 400 := hw.1.1
  rw [← n1] at hcnt
  unfold qX1_settle
  simp (disch := omega) only [n2, hcnt, ofI1, nI_add, pk_mul, pk_sub, nI_clamp, imin_nI, imax_nI, nl_0, nl_1, nl_2, nl_3, nl_4, nl_5, nl_6, nl_7, nl_8, nl_9, nl_10, nl_11, nl_12, nl_13, nl_15, nl_16, nl_20, nl_24, nl_26, nl_30, nl_32, nl_36, nl_39, nl_40, nl_45, nl_48, nl_50, nl_57, nl_59, nl_60, nl_61, nl_62, nl_64, nl_72, nl_73, nl_80, nl_90, nl_97, nl_99, nl_100, nl_120, nl_122, nl_123, nl_127, nl_128, nl_199, nl_200, nl_255, nl_256, nl_290, nl_399, nl_400, nl_500, nl_512, nl_520, nl_600, nl_999, nl_1000, nl_2000, nl_9999, nl_10000, nl_14, nl_17, nl_18, nl_19, nl_21, nl_22, nl_23, nl_25, nl_27, nl_28, nl_29, nl_31, nl_33, nl_34, nl_35, nl_47, nl_51, nl_63, nl_110, nl_195, nl_240, nl_1370, nl_3710, nl_6030, nl_6690, nl_7490, nl_7610, nl_9170, nl_11570, gA_sF, gL_sF, gB_sF, gZ_sF, gO_sF, gX_sF, gF_sA, gL_sA, gB_sA, gZ_sA, gO_sA, gX_sA, gF_sL, gA_sL, gB_sL, gZ_sL, gO_sL, gX_sL, gF_sB, gA_sB, gL_sB, gZ_sB, gO_sB, gX_sB, gF_sZ, gA_sZ, gL_sZ, gB_sZ, gO_sZ, gX_sZ, gF_sO, gA_sO, gL_sO, gB_sO, gZ_sO, gX_sO, gF_sX, gA_sX, gL_sX, gB_sX, gZ_sX, gO_sX, gF_tA, gL_tA, gB_tA, gZ_tA, gO_tA, gX_tA, gF_tL, gA_tL, gB_tL, gZ_tL, gO_tL, gX_tL, gF_tB, gA_tB, gL_tB, gZ_tB, gO_tB, gX_tB, gF_tZ, gA_tZ, gL_tZ, gB_tZ, gO_tZ, gX_tZ, gF_sF, gA_sA, gL_sL, gB_sB, gZ_sZ, gO_sO, gX_sX, gA_tA, gL_tL, gB_tB, gZ_tZ, reduceIte, Nat.reduceEqDiff, Nat.zero_ne_one, Nat.one_ne_zero, Nat.succ_ne_self, forall_eq, vpT, cpyT, nI_leI, nI_ltI, nI_eq, nI_m1, oI_eqn, oI_eqm, va_up_ne', va_up_eq, eq_self_iff_true, true_or, or_true, true_implies, not_true_eq_false, not_false_eq_true, false_implies, and_true, true_and, forall_const, implies_true, ne_eq, Nat.add_sub_cancel, nI_pos, ite_self]
  generalize hb' : sF (tA (tA (tA (tA (tA bd 7 _ _) 8 _ _) 9 _ _) 10 _ _) 11 _ _) 6 _ = b'
  have fb : Fr [(0, 6), (1, 7), (1, 8), (1, 9), (1, 10), (1, 11)] bd b' := by
    rw [← hb']
    refine Fr.tr (Fr.tr (Fr.tr (Fr.tr (Fr.tr (Fr.tA 7 _ _ ?_) (Fr.tA 8 _ _ ?_)) (Fr.tA 9 _ _ ?_)) (Fr.tA 10 _ _ ?_)) (Fr.tA 11 _ _ ?_)) (Fr.sF 6 _ ?_) <;> decide
  refine hQ b' ⟨?_, k + 1, va_up na k n, va_up pl k p, va_up to k t, va_up yr k (A 50 0), va_up un k 400, ?_, by rw [← hb']; rfl, fun i hi => ?_, fun p' t' y hy => ?_⟩
  · unfold Nhe at hh ⊢
    rw [fb.1 0 (by decide), fb.2.1 1 (by decide), fb.2.1 2 (by decide), fb.2.2.2.2.1 3 (by decide), fb.2.1 4 (by decide), fb.2.1 5 (by decide)]
    exact hh
  · show k + 1 = cntF (fun k => evtA A p t (n + 1) 45 k != 0) (A 59 0 + 1)
    rw [evt_cnt, if_neg (by omega), n1]
  · rw [← hb']
    show va_up na k n i < A 52 0 ∧ va_up pl k p i < A 51 0 ∧ va_up to k t i < 3 ∧ va_up yr k (A 50 0) i ≤ A 50 0 ∧ va_up un k 400 i ≤ 400 ∧ (va_up un k 400 i ≤ A 50 0 ∨ va_up un k 400 i = 400) ∧ _
    by_cases e : i = k
    · subst e
      simp (disch := omega) only [ofI1, nI_add, pk_mul, pk_sub, nI_clamp, imin_nI, imax_nI, nl_0, nl_1, nl_2, nl_3, nl_4, nl_5, nl_6, nl_7, nl_8, nl_9, nl_10, nl_11, nl_12, nl_13, nl_15, nl_16, nl_20, nl_24, nl_26, nl_30, nl_32, nl_36, nl_39, nl_40, nl_45, nl_48, nl_50, nl_57, nl_59, nl_60, nl_61, nl_62, nl_64, nl_72, nl_73, nl_80, nl_90, nl_97, nl_99, nl_100, nl_120, nl_122, nl_123, nl_127, nl_128, nl_199, nl_200, nl_255, nl_256, nl_290, nl_399, nl_400, nl_500, nl_512, nl_520, nl_600, nl_999, nl_1000, nl_2000, nl_9999, nl_10000, nl_14, nl_17, nl_18, nl_19, nl_21, nl_22, nl_23, nl_25, nl_27, nl_28, nl_29, nl_31, nl_33, nl_34, nl_35, nl_47, nl_51, nl_63, nl_110, nl_195, nl_240, nl_1370, nl_3710, nl_6030, nl_6690, nl_7490, nl_7610, nl_9170, nl_11570, gA_sF, gL_sF, gB_sF, gZ_sF, gO_sF, gX_sF, gF_sA, gL_sA, gB_sA, gZ_sA, gO_sA, gX_sA, gF_sL, gA_sL, gB_sL, gZ_sL, gO_sL, gX_sL, gF_sB, gA_sB, gL_sB, gZ_sB, gO_sB, gX_sB, gF_sZ, gA_sZ, gL_sZ, gB_sZ, gO_sZ, gX_sZ, gF_sO, gA_sO, gL_sO, gB_sO, gZ_sO, gX_sO, gF_sX, gA_sX, gL_sX, gB_sX, gZ_sX, gO_sX, gF_tA, gL_tA, gB_tA, gZ_tA, gO_tA, gX_tA, gF_tL, gA_tL, gB_tL, gZ_tL, gO_tL, gX_tL, gF_tB, gA_tB, gL_tB, gZ_tB, gO_tB, gX_tB, gF_tZ, gA_tZ, gL_tZ, gB_tZ, gO_tZ, gX_tZ, gF_sF, gA_sA, gL_sL, gB_sB, gZ_sZ, gO_sO, gX_sX, gA_tA, gL_tL, gB_tB, gZ_tZ, reduceIte, Nat.reduceEqDiff, Nat.zero_ne_one, Nat.one_ne_zero, Nat.succ_ne_self, forall_eq, vpT, cpyT, nI_leI, nI_ltI, nI_eq, nI_m1, oI_eqn, oI_eqm, va_up_ne', va_up_eq, eq_self_iff_true, true_or, or_true, true_implies, not_true_eq_false, not_false_eq_true, false_implies, and_true, true_and, forall_const, implies_true, ne_eq, Nat.add_sub_cancel, nI_pos, ite_self]
      exact ⟨hn, hp, ht, Nat.le_refl _, Nat.le_refl _⟩
    · simp (disch := omega) only [ofI1, nI_add, pk_mul, pk_sub, nI_clamp, imin_nI, imax_nI, nl_0, nl_1, nl_2, nl_3, nl_4, nl_5, nl_6, nl_7, nl_8, nl_9, nl_10, nl_11, nl_12, nl_13, nl_15, nl_16, nl_20, nl_24, nl_26, nl_30, nl_32, nl_36, nl_39, nl_40, nl_45, nl_48, nl_50, nl_57, nl_59, nl_60, nl_61, nl_62, nl_64, nl_72, nl_73, nl_80, nl_90, nl_97, nl_99, nl_100, nl_120, nl_122, nl_123, nl_127, nl_128, nl_199, nl_200, nl_255, nl_256, nl_290, nl_399, nl_400, nl_500, nl_512, nl_520, nl_600, nl_999, nl_1000, nl_2000, nl_9999, nl_10000, nl_14, nl_17, nl_18, nl_19, nl_21, nl_22, nl_23, nl_25, nl_27, nl_28, nl_29, nl_31, nl_33, nl_34, nl_35, nl_47, nl_51, nl_63, nl_110, nl_195, nl_240, nl_1370, nl_3710, nl_6030, nl_6690, nl_7490, nl_7610, nl_9170, nl_11570, gA_sF, gL_sF, gB_sF, gZ_sF, gO_sF, gX_sF, gF_sA, gL_sA, gB_sA, gZ_sA, gO_sA, gX_sA, gF_sL, gA_sL, gB_sL, gZ_sL, gO_sL, gX_sL, gF_sB, gA_sB, gL_sB, gZ_sB, gO_sB, gX_sB, gF_sZ, gA_sZ, gL_sZ, gB_sZ, gO_sZ, gX_sZ, gF_sO, gA_sO, gL_sO, gB_sO, gZ_sO, gX_sO, gF_sX, gA_sX, gL_sX, gB_sX, gZ_sX, gO_sX, gF_tA, gL_tA, gB_tA, gZ_tA, gO_tA, gX_tA, gF_tL, gA_tL, gB_tL, gZ_tL, gO_tL, gX_tL, gF_tB, gA_tB, gL_tB, gZ_tB, gO_tB, gX_tB, gF_tZ, gA_tZ, gL_tZ, gB_tZ, gO_tZ, gX_tZ, gF_sF, gA_sA, gL_sL, gB_sB, gZ_sZ, gO_sO, gX_sX, gA_tA, gL_tL, gB_tB, gZ_tZ, reduceIte, Nat.reduceEqDiff, Nat.zero_ne_one, Nat.one_ne_zero, Nat.succ_ne_self, forall_eq, vpT, cpyT, nI_leI, nI_ltI, nI_eq, nI_m1, oI_eqn, oI_eqm, va_up_ne', va_up_eq, eq_self_iff_true, true_or, or_true, true_implies, not_true_eq_false, not_false_eq_true, false_implies, and_true, true_and, forall_const, implies_true, ne_eq, Nat.add_sub_cancel, nI_pos, ite_self]
      exact n3 i (by omega)
  · rw [evt_stk, if_neg (by omega : ¬ n + 1 = 0), Nat.add_sub_cancel]
    show (if va_up pl k p k = p' ∧ va_up to k t k = t' ∧ va_up yr k (A 50 0) k ≤ y ∧ y < va_up un k 400 k then va_up na k n k :: stkC (va_up na k n) (va_up pl k p) (va_up to k t) (va_up yr k (A 50 0)) (va_up un k 400) p' t' y k else stkC (va_up na k n) (va_up pl k p) (va_up to k t) (va_up yr k (A 50 0)) (va_up un k 400) p' t' y k) = _
    have e : stkC (va_up na k n) (va_up pl k p) (va_up to k t) (va_up yr k (A 50 0)) (va_up un k 400) p' t' y k = stkA A p' t' y := by
      rw [← n4 p' t' y hy]
      refine stkC_c k (fun i hi => ⟨?_, va_up_ne' _ _ (by omega)⟩)
      unfold mts
      rw [va_up_ne' _ _ (show i ≠ k by omega), va_up_ne' _ _ (show i ≠ k by omega), va_up_ne' _ _ (show i ≠ k by omega), va_up_ne' _ _ (show i ≠ k by omega)]
    rw [e, va_up_eq, va_up_eq, va_up_eq, va_up_eq, va_up_eq]
    by_cases hc : p = p' ∧ t = t' ∧ A 50 0 ≤ y
    · rw [if_pos ⟨hc.1, hc.2.1, hc.2.2, hy⟩, if_pos hc]
    · rw [if_neg (fun q => hc ⟨q.1, q.2.1, q.2.2.1⟩), if_neg hc]
