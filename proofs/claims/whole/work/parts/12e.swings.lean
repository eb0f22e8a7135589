theorem N_fewest {vw st la ac : Md} {A : Nat → Nat → Nat} {c p : Nat} (hw : Wf A c) (hs : Nst st A) (hl : Nla la A) (hac : Nac ac A) (hp : p < A 51 0) {Q : Int32 → Md → Md → Md → Md → Prop} (hQ : ∀ r vw', IsB (Pw A (livA A (A 50 0) p) (fun t => ownA A (A 50 0) (3 * p + t)) (ptsA A (A 50 0) p) (A 50 0) (acA A (A 50 0)) (ldA A (A 50 0) p (A 50 0))) X3 r → Q (mI r) vw' st la ac) : qX10_fewestToSwing vw st la ac (nI p) Q := by
  have b0 : A 50 0 < 400 := hw.1.1
  have b1 : A 51 0 ≤ 40 := hw.1.2.1
  unfold qX10_fewestToSwing
  rw [hs.1]
  refine N_look hw hl hac hp b0 b0 (fun v1 f1 a4 a5 a1 a2 a3 => ?_)
  rw [Nat.min_self] at a4 a5 a1 a2 a3
  rw [hs.1]
  refine N_inForce hw hac b0 ?_
  generalize hu : A 50 0 = u at *
  have hL : ∀ t, t < 3 → livA A u p t ≤ 80000 := fun t _ => livA_le hw u p t
  have hpts : ptsA A u p ≤ 40 := by have := cntF_le (f := fun q => parA A u q == p + 1) (A 51 0); show cntF _ _ ≤ 40; omega
  have hld := ldA_lt hw (u := u) (p := p) (yr := u)
  have hown : ∀ t, t < 3 → ownA A u (3 * p + t) ≤ livA A u p t := fun t _ => own_liv hp
  have h0 : SwI v1 A (livA A u p) u (ptsA A u p) u (ldA A u p u) := ⟨a2, a3 4 (by omega), a3 5 (by omega), a4, a1⟩
  have o0 := a1 (3 * p) (by omega)
  have o1 := a1 (3 * p + 1) (by omega)
  have o2 := a1 (3 * p + 2) (by omega)
  have l0 := ownA_le hw u (3 * p)
  have l1 := ownA_le hw u (3 * p + 1)
  have l2 := ownA_le hw u (3 * p + 2)
  rw [nl_3, pk_mul, Nat.mul_comm p 3, nl_1, nl_2, nI_add, nI_add, nI_clamp (by omega), nI_clamp (by omega), nI_clamp (by omega), o0, o1, o2, imax_nI (by omega) (by omega), imax_nI (by omega) (by omega)]
  refine ⟨vp_in_nI (by omega) (by decide), vp_in_nI (by omega) (by decide), vp_in_nI (by omega) (by decide), ?_⟩
  generalize hmx : max (ownA A u (3 * p)) (max (ownA A u (3 * p + 1)) (ownA A u (3 * p + 2))) = mx at *
  have hmx2 : ∀ t, t < 3 → ownA A u (3 * p + t) ≤ mx := by
    intro t ht
    rcases (show t = 0 ∨ t = 1 ∨ t = 2 by omega) with rfl | rfl | rfl
    · show ownA A u (3 * p) ≤ mx; omega
    · omega
    · omega
  refine pk_loop (fun k d (v : Md) => qX10_fewestToSwing_67 Q k v st la ac (oI (acA A u)) (nI (3 * p)) (nI mx) (nI d)) (fun d v => SwI v A (livA A u p) u (ptsA A u p) u (ldA A u p u) ∧ 1 ≤ d ∧ ∀ a b d', d' < d → X3 a b d' → ¬ Pw A (livA A u p) (fun t => ownA A u (3 * p + t)) (ptsA A u p) u (acA A u) (ldA A u p u) a b d') (mx + 1) 1 v1 (by omega) ⟨h0, by omega, fun a b d' q1 q2 => by have := q2.2.2.2; omega⟩ (fun k v hI => ?_) (fun k d v hd hI ih => ?_)
  · unfold qX10_fewestToSwing_67
    refine c_y (nI_lt (by omega) (by omega)) (hQ 0 v (Or.inl ⟨rfl, fun a b d q1 q2 => ?_⟩))
    by_cases e : d < mx + 1
    · exact hI.2.2 a b d e q1 q2
    · have := hmx2 a q1.1
      have q3 : d ≤ ownA A u (3 * p + a) := q2.1
      omega
  · obtain ⟨i1, i2, i3⟩ := hI
    unfold qX10_fewestToSwing_67
    refine c_n (nI_nlt (by omega) (by omega)) (N_swingsBy hw hac acA_le hL hpts b0 hld i1 (by omega) hown (by omega) (fun v' hv' hex => ?_) (fun v' hv' hno => ?_))
    · refine b_1' ?_
      have hr : IsB (Pw A (livA A u p) (fun t => ownA A u (3 * p + t)) (ptsA A u p) u (acA A u) (ldA A u p u)) X3 d := by
        obtain ⟨a, b, ha, hb, hab, hpw⟩ := hex
        exact Or.inr ⟨i2, ⟨a, b, ⟨ha, hb, hab, i2⟩, hpw⟩, fun a b d' q1 q2 => i3 a b d' q1 q2⟩
      have := hQ d v' hr
      unfold mI at this; rw [if_neg (by omega)] at this
      exact this
    · refine b_0' ?_
      rw [ofI1, nI_add]
      refine ih v' ⟨hv', by omega, fun a b d' q1 q2 => ?_⟩
      by_cases e : d' = d
      · rw [e]; exact hno a b q2.1 q2.2.1 q2.2.2.1
      · exact i3 a b d' (by omega) q2
def Xd (a b d a' b' d' : Nat) : Prop := X3 a' b' d' ∧ (a' < a ∨ (a' = a ∧ (b' < b ∨ (b' = b ∧ d' < d))))
theorem mI_m1 {r : Nat} (h : r < 2 ^ 31) : mI r = -1 ↔ r = 0 := by
  unfold mI
  by_cases e : r = 0
  · rw [if_pos e]; exact ⟨fun _ => e, fun _ => rfl⟩
  · rw [if_neg e]; exact ⟨fun q => absurd q (nI_m1 h), fun q => absurd q e⟩
theorem M_swingsLoop {m0 : Md} {A : Nat → Nat → Nat} {f L : Nat → Nat} {c p u : Nat} (hw : Wf A c) (hm : MW (gA m0 1) A) (hu : u = A 50 0) (hp : p < 40) (hL : ∀ t, t < 3 → L t ≤ 80000) (h8 : ∀ j, j < 120 → gA m0 8 j = nI (ownA A u j)) (hown : ∀ t, t < 3 → ownA A u (3 * p + t) ≤ L t) (hk : MLk m0 A f L p) {was : Nat} (hwas : was < 3) {Q : Int32 → Md → Prop} (hQ : ∀ r m', Fr [(1, 9)] m0 m' → IsB (Pw A L (fun t => ownA A u (3 * p + t)) (ptF A f p) u (acA A u) was) X3 r → Q (mI r) m') : ∃ n', qX12_swings_38 Q n' m0 (nI p) (nI was) (-1) 0 := by
  have b0 : A 50 0 < 400 := hw.1.1
  have e0 : gA m0 1 0 = nI (A 50 0) := hm.1.1
  have hpts : ptF A f p ≤ 40 := by have := cntF_le (f := fun q => f q == p + 1) (A 51 0); have := hw.1.2.1; show cntF _ _ ≤ 40; omega
  generalize hP : Pw A L (fun t => ownA A u (3 * p + t)) (ptF A f p) u (acA A u) was = P at *
  have hPd : ∀ a b d, P a b d → d ≤ ownA A u (3 * p + a) := fun a b d q => by rw [← hP] at q; exact q.1
  have hlim : ∀ X r, IsB P X r → r ≤ 2000 := by
    intro X r h
    rcases h with ⟨h, _⟩ | ⟨_, ⟨a, b, _, q⟩, _⟩
    · omega
    · have := hPd a b r q
      have := ownA_le hw u (3 * p + a)
      omega
  have hM : ∀ v, Fr [(1, 9)] m0 v → (∀ t, t < 3 → gA v 9 (3 * p + t) = nI (L t)) → MLk v A f L p := fun v fv h9 => ⟨fun j hj => by rw [fv.2.1 7 (by decide)]; exact hk.1 j hj, hk.2.1, h9, hk.2.2.2⟩
  refine pk_loop (fun k a (s : Md × Nat) => qX12_swings_38 Q k s.1 (nI p) (nI was) (mI s.2) (nI a)) (fun a s => Fr [(1, 9)] m0 s.1 ∧ (∀ t, t < 3 → gA s.1 9 (3 * p + t) = nI (L t)) ∧ IsB P (Xd a 0 0) s.2) 3 0 (m0, 0) (by omega) ⟨Fr.rf, hk.2.2.1, Or.inl ⟨rfl, fun a b d q => by have := q.2; omega⟩⟩ (fun k s hI => ?_) (fun ko a s ha hI ih => ?_)
  · unfold qX12_swings_38
    refine c_y (by decide) (hQ s.2 s.1 hI.1 ?_)
    have eX : Xd 3 0 0 = X3 := by
      funext a b d
      exact propext ⟨fun q => q.1, fun q => ⟨q, Or.inl q.1⟩⟩
    have := hI.2.2
    rw [eX] at this; exact this
  · obtain ⟨i1, i2, i3⟩ := hI
    unfold qX12_swings_38
    refine c_n (nI_ge (b := 3) ha (by decide)) ?_
    refine pk_loop (fun k b (s : Md × Nat) => qX12_swings_47 Q (qX12_swings_38 Q ko) k s.1 (nI p) (nI was) (mI s.2) (nI a) (nI b)) (fun b s => Fr [(1, 9)] m0 s.1 ∧ (∀ t, t < 3 → gA s.1 9 (3 * p + t) = nI (L t)) ∧ IsB P (Xd a b 0) s.2) 3 0 s (by omega) ⟨i1, i2, i3⟩ (fun k s hJ => ?_) (fun kb b s hb hJ jh => ?_)
    · obtain ⟨j1, j2, j3⟩ := hJ
      unfold qX12_swings_47
      rw [ofI1, nI_add]
      refine c_y (by decide) (ih s ⟨j1, j2, ?_⟩)
      have eX : Xd a 3 0 = Xd (a + 1) 0 0 := by
        funext a' b' d'
        exact propext ⟨fun q => ⟨q.1, by have := q.2; omega⟩, fun q => ⟨q.1, by have := q.2; have := q.1.2.1; omega⟩⟩
      rw [← eX]; exact j3
    · obtain ⟨v, r⟩ := s
      obtain ⟨j1, j2, j3⟩ := hJ
      dsimp only at j1 j2 j3 ⊢
      unfold qX12_swings_47
      rw [ofI1, nI_add, nI_add]
      refine c_n (nI_ge (b := 3) hb (by decide)) (c_eq' rfl rfl (by omega) (by omega) (fun e => jh (v, r) ⟨j1, j2, ?_⟩) (fun e => ?_))
      · have eX : Xd a b 0 = Xd a (b + 1) 0 := by
          funext a' b' d'
          exact propext ⟨fun q => ⟨q.1, by have := q.2; omega⟩, fun q => ⟨q.1, by have := q.2; have := q.1.2.2.1; omega⟩⟩
        rw [← eX]; exact j3
      · have lA := hL a ha
        have lB := hL b hb
        have oA := hown a ha
        have oB := ownA_le hw u (3 * p + a)
        rw [nl_3, pk_mul, nI_add, nI_add, nI_clamp (by omega), nI_clamp (by omega), j2 a ha, j2 b hb]
        refine ⟨vp_in_nI (by omega) (by decide), vp_in_nI (by omega) (by decide), ?_⟩
        have k177 : ∀ v r, Fr [(1, 9)] m0 v → (∀ t, t < 3 → t ≠ a → t ≠ b → gA v 9 (3 * p + t) = nI (L t)) → IsB P (Xd a (b + 1) 0) r → qX12_swings_177 Q (qX12_swings_38 Q ko) (qX12_swings_47 Q (qX12_swings_38 Q ko) kb) v (nI p) (nI was) (mI r) (nI a) (nI b) (nI (L a)) (nI (L b)) := by
          intro v r fv hv hr
          unfold qX12_swings_177
          simp (disch := omega) only [ofI1, nI_add, pk_mul, pk_sub, nI_clamp, imin_nI, imax_nI, nl_0, nl_1, nl_2, nl_3, nl_4, nl_5, nl_6, nl_7, nl_8, nl_9, nl_10, nl_11, nl_12, nl_13, nl_15, nl_16, nl_20, nl_24, nl_26, nl_30, nl_32, nl_36, nl_39, nl_40, nl_45, nl_48, nl_50, nl_57, nl_59, nl_60, nl_61, nl_62, nl_64, nl_72, nl_73, nl_80, nl_90, nl_97, nl_99, nl_100, nl_120, nl_122, nl_123, nl_127, nl_128, nl_199, nl_200, nl_255, nl_256, nl_290, nl_399, nl_400, nl_500, nl_512, nl_520, nl_600, nl_999, nl_1000, nl_2000, nl_9999, nl_10000, nl_14, nl_17, nl_18, nl_19, nl_21, nl_22, nl_23, nl_25, nl_27, nl_28, nl_29, nl_31, nl_33, nl_34, nl_35, nl_47, nl_51, nl_63, nl_110, nl_195, nl_240, nl_1370, nl_3710, nl_6030, nl_6690, nl_7490, nl_7610, nl_9170, nl_11570, gA_sF, gL_sF, gB_sF, gZ_sF, gO_sF, gX_sF, gF_sA, gL_sA, gB_sA, gZ_sA, gO_sA, gX_sA, gF_sL, gA_sL, gB_sL, gZ_sL, gO_sL, gX_sL, gF_sB, gA_sB, gL_sB, gZ_sB, gO_sB, gX_sB, gF_sZ, gA_sZ, gL_sZ, gB_sZ, gO_sZ, gX_sZ, gF_sO, gA_sO, gL_sO, gB_sO, gZ_sO, gX_sO, gF_sX, gA_sX, gL_sX, gB_sX, gZ_sX, gO_sX, gF_tA, gL_tA, gB_tA, gZ_tA, gO_tA, gX_tA, gF_tL, gA_tL, gB_tL, gZ_tL, gO_tL, gX_tL, gF_tB, gA_tB, gL_tB, gZ_tB, gO_tB, gX_tB, gF_tZ, gA_tZ, gL_tZ, gB_tZ, gO_tZ, gX_tZ, gF_sF, gA_sA, gL_sL, gB_sB, gZ_sZ, gO_sO, gX_sX, gA_tA, gL_tL, gB_tB, gZ_tZ, reduceIte, Nat.reduceEqDiff, Nat.zero_ne_one, Nat.one_ne_zero, Nat.succ_ne_self, forall_eq, vpT, cpyT, nI_leI, nI_ltI, nI_eq, nI_m1, oI_eqn, oI_eqm, va_up_ne', va_up_eq, eq_self_iff_true, true_or, or_true, true_implies, not_true_eq_false, not_false_eq_true, false_implies, and_true, true_and, forall_const, implies_true, ne_eq, Nat.add_sub_cancel, nI_pos, ite_self]
          generalize hv' : tA (tA v 9 _ _) 9 _ _ = v'
          have g9 : gA v' 9 = va_up (va_up (gA v 9) (3 * p + a) (nI (L a))) (3 * p + b) (nI (L b)) := by
            rw [← hv']; simp (disch := omega) only [ofI1, nI_add, pk_mul, pk_sub, nI_clamp, imin_nI, imax_nI, nl_0, nl_1, nl_2, nl_3, nl_4, nl_5, nl_6, nl_7, nl_8, nl_9, nl_10, nl_11, nl_12, nl_13, nl_15, nl_16, nl_20, nl_24, nl_26, nl_30, nl_32, nl_36, nl_39, nl_40, nl_45, nl_48, nl_50, nl_57, nl_59, nl_60, nl_61, nl_62, nl_64, nl_72, nl_73, nl_80, nl_90, nl_97, nl_99, nl_100, nl_120, nl_122, nl_123, nl_127, nl_128, nl_199, nl_200, nl_255, nl_256, nl_290, nl_399, nl_400, nl_500, nl_512, nl_520, nl_600, nl_999, nl_1000, nl_2000, nl_9999, nl_10000, nl_14, nl_17, nl_18, nl_19, nl_21, nl_22, nl_23, nl_25, nl_27, nl_28, nl_29, nl_31, nl_33, nl_34, nl_35, nl_47, nl_51, nl_63, nl_110, nl_195, nl_240, nl_1370, nl_3710, nl_6030, nl_6690, nl_7490, nl_7610, nl_9170, nl_11570, gA_sF, gL_sF, gB_sF, gZ_sF, gO_sF, gX_sF, gF_sA, gL_sA, gB_sA, gZ_sA, gO_sA, gX_sA, gF_sL, gA_sL, gB_sL, gZ_sL, gO_sL, gX_sL, gF_sB, gA_sB, gL_sB, gZ_sB, gO_sB, gX_sB, gF_sZ, gA_sZ, gL_sZ, gB_sZ, gO_sZ, gX_sZ, gF_sO, gA_sO, gL_sO, gB_sO, gZ_sO, gX_sO, gF_sX, gA_sX, gL_sX, gB_sX, gZ_sX, gO_sX, gF_tA, gL_tA, gB_tA, gZ_tA, gO_tA, gX_tA, gF_tL, gA_tL, gB_tL, gZ_tL, gO_tL, gX_tL, gF_tB, gA_tB, gL_tB, gZ_tB, gO_tB, gX_tB, gF_tZ, gA_tZ, gL_tZ, gB_tZ, gO_tZ, gX_tZ, gF_sF, gA_sA, gL_sL, gB_sB, gZ_sZ, gO_sO, gX_sX, gA_tA, gL_tL, gB_tB, gZ_tZ, reduceIte, Nat.reduceEqDiff, Nat.zero_ne_one, Nat.one_ne_zero, Nat.succ_ne_self, forall_eq, vpT, cpyT, nI_leI, nI_ltI, nI_eq, nI_m1, oI_eqn, oI_eqm, va_up_ne', va_up_eq, eq_self_iff_true, true_or, or_true, true_implies, not_true_eq_false, not_false_eq_true, false_implies, and_true, true_and, forall_const, implies_true, ne_eq, Nat.add_sub_cancel, nI_pos, ite_self]
          refine jh (v', r) ⟨fv.tr (by rw [← hv']; exact Fr.tr (Fr.tA 9 _ _ (by decide)) (Fr.tA 9 _ _ (by decide))), fun t ht => ?_, hr⟩
          show gA v' 9 (3 * p + t) = _
          rw [g9]
          by_cases e1 : t = b
          · rw [e1, va_up_eq]
          · rw [va_up_ne' _ _ (by omega)]
            by_cases e2 : t = a
            · rw [e2, va_up_eq]
            · rw [va_up_ne' _ _ (by omega)]; exact hv t ht e2 e1
        have hdone : ∀ d r, IsB P (Xd a b d) r → (ownA A u (3 * p + a) < d ∨ (r ≠ 0 ∧ r ≤ d)) → IsB P (Xd a (b + 1) 0) r := by
          intro d r h hor
          have hmore : ∀ a' b' d', Xd a (b + 1) 0 a' b' d' → Xd a b d a' b' d' ∨ (a' = a ∧ b' = b ∧ d ≤ d') := by
            intro a' b' d' q
            by_cases q2 : a' = a ∧ b' = b ∧ d ≤ d'
            · exact Or.inr q2
            · exact Or.inl ⟨q.1, by have := q.2; omega⟩
          have hsub : ∀ a' b' d', Xd a b d a' b' d' → Xd a (b + 1) 0 a' b' d' := fun a' b' d' q => ⟨q.1, by have := q.2; omega⟩
          rcases h with ⟨h1, h2⟩ | ⟨h1, ⟨a1, b1, x1, p1⟩, h2⟩
          · refine Or.inl ⟨h1, fun a' b' d' q pp => ?_⟩
            rcases hmore a' b' d' q with q1 | ⟨rfl, rfl, q1⟩
            · exact h2 a' b' d' q1 pp
            · have := hPd _ _ _ pp; omega
          · refine Or.inr ⟨h1, ⟨a1, b1, hsub _ _ _ x1, p1⟩, fun a' b' d' hlt q pp => ?_⟩
            rcases hmore a' b' d' q with q1 | ⟨rfl, rfl, q1⟩
            · exact h2 a' b' d' hlt q1 pp
            · have := hPd _ _ _ pp; omega
        refine lp3 (fun k (v : Md) (y3 y8 : Int32) => qX12_swings_92 Q (qX12_swings_38 Q ko) (qX12_swings_47 Q (qX12_swings_38 Q ko) kb) k v (nI p) (nI was) y3 (nI a) (nI b) (nI (L a)) (nI (L b)) y8) (fun v y3 y8 => ∃ r d, y3 = mI r ∧ y8 = nI d ∧ 1 ≤ d ∧ d ≤ 2001 ∧ Fr [(1, 9)] m0 v ∧ (∀ t, t < 3 → t ≠ a → t ≠ b → gA v 9 (3 * p + t) = nI (L t)) ∧ IsB P (Xd a b d) r) (fun v y3 y8 => 2002 - y8.toNatClampNeg) (fun k v y3 y8 hI lh => ?_) v (mI r) 1 ⟨r, 1, rfl, rfl, by omega, by omega, j1, fun t ht _ _ => j2 t ht, ?_⟩
        · obtain ⟨r, d, rfl, rfl, d1, d2, fv, hv, hr⟩ := hI
          have g8 : gA v 8 (3 * p + a) = nI (ownA A u (3 * p + a)) := by rw [fv.2.1 8 (by decide)]; exact h8 _ (by omega)
          have hr2 := hlim _ _ hr
          unfold qX12_swings_92
          rw [nl_3, pk_mul, nI_add, nI_clamp (by omega), g8]
          refine ⟨vp_in_nI (by omega) (by decide), c_lt rfl rfl (by omega) (by omega) (fun h => k177 v r fv hv (hdone d r hr (Or.inl h))) (fun h => ?_)⟩
          have k119 : (r = 0 ∨ d < r) → qX12_swings_119 Q (qX12_swings_38 Q ko) (qX12_swings_47 Q (qX12_swings_38 Q ko) kb) (qX12_swings_92 Q (qX12_swings_38 Q ko) (qX12_swings_47 Q (qX12_swings_38 Q ko) kb) k) v (nI p) (nI was) (mI r) (nI a) (nI b) (nI (L a)) (nI (L b)) (nI d) := by
            intro hrd
            unfold qX12_swings_119 qX12_now
            simp (disch := omega) only [ofI1, nI_add, pk_mul, pk_sub, nI_clamp, imin_nI, imax_nI, nl_0, nl_1, nl_2, nl_3, nl_4, nl_5, nl_6, nl_7, nl_8, nl_9, nl_10, nl_11, nl_12, nl_13, nl_15, nl_16, nl_20, nl_24, nl_26, nl_30, nl_32, nl_36, nl_39, nl_40, nl_45, nl_48, nl_50, nl_57, nl_59, nl_60, nl_61, nl_62, nl_64, nl_72, nl_73, nl_80, nl_90, nl_97, nl_99, nl_100, nl_120, nl_122, nl_123, nl_127, nl_128, nl_199, nl_200, nl_255, nl_256, nl_290, nl_399, nl_400, nl_500, nl_512, nl_520, nl_600, nl_999, nl_1000, nl_2000, nl_9999, nl_10000, nl_14, nl_17, nl_18, nl_19, nl_21, nl_22, nl_23, nl_25, nl_27, nl_28, nl_29, nl_31, nl_33, nl_34, nl_35, nl_47, nl_51, nl_63, nl_110, nl_195, nl_240, nl_1370, nl_3710, nl_6030, nl_6690, nl_7490, nl_7610, nl_9170, nl_11570, gA_sF, gL_sF, gB_sF, gZ_sF, gO_sF, gX_sF, gF_sA, gL_sA, gB_sA, gZ_sA, gO_sA, gX_sA, gF_sL, gA_sL, gB_sL, gZ_sL, gO_sL, gX_sL, gF_sB, gA_sB, gL_sB, gZ_sB, gO_sB, gX_sB, gF_sZ, gA_sZ, gL_sZ, gB_sZ, gO_sZ, gX_sZ, gF_sO, gA_sO, gL_sO, gB_sO, gZ_sO, gX_sO, gF_sX, gA_sX, gL_sX, gB_sX, gZ_sX, gO_sX, gF_tA, gL_tA, gB_tA, gZ_tA, gO_tA, gX_tA, gF_tL, gA_tL, gB_tL, gZ_tL, gO_tL, gX_tL, gF_tB, gA_tB, gL_tB, gZ_tB, gO_tB, gX_tB, gF_tZ, gA_tZ, gL_tZ, gB_tZ, gO_tZ, gX_tZ, gF_sF, gA_sA, gL_sL, gB_sB, gZ_sZ, gO_sO, gX_sX, gA_tA, gL_tL, gB_tB, gZ_tZ, reduceIte, Nat.reduceEqDiff, Nat.zero_ne_one, Nat.one_ne_zero, Nat.succ_ne_self, forall_eq, vpT, cpyT, nI_leI, nI_ltI, nI_eq, nI_m1, oI_eqn, oI_eqm, va_up_ne', va_up_eq, eq_self_iff_true, true_or, or_true, true_implies, not_true_eq_false, not_false_eq_true, false_implies, and_true, true_and, forall_const, implies_true, ne_eq, Nat.add_sub_cancel, nI_pos, ite_self]
            generalize hv' : tA (tA v 9 _ _) 9 _ _ = v'
            have g9 : gA v' 9 = va_up (va_up (gA v 9) (3 * p + a) (nI (L a - d))) (3 * p + b) (nI (L b + d)) := by
              rw [← hv']; simp (disch := omega) only [ofI1, nI_add, pk_mul, pk_sub, nI_clamp, imin_nI, imax_nI, nl_0, nl_1, nl_2, nl_3, nl_4, nl_5, nl_6, nl_7, nl_8, nl_9, nl_10, nl_11, nl_12, nl_13, nl_15, nl_16, nl_20, nl_24, nl_26, nl_30, nl_32, nl_36, nl_39, nl_40, nl_45, nl_48, nl_50, nl_57, nl_59, nl_60, nl_61, nl_62, nl_64, nl_72, nl_73, nl_80, nl_90, nl_97, nl_99, nl_100, nl_120, nl_122, nl_123, nl_127, nl_128, nl_199, nl_200, nl_255, nl_256, nl_290, nl_399, nl_400, nl_500, nl_512, nl_520, nl_600, nl_999, nl_1000, nl_2000, nl_9999, nl_10000, nl_14, nl_17, nl_18, nl_19, nl_21, nl_22, nl_23, nl_25, nl_27, nl_28, nl_29, nl_31, nl_33, nl_34, nl_35, nl_47, nl_51, nl_63, nl_110, nl_195, nl_240, nl_1370, nl_3710, nl_6030, nl_6690, nl_7490, nl_7610, nl_9170, nl_11570, gA_sF, gL_sF, gB_sF, gZ_sF, gO_sF, gX_sF, gF_sA, gL_sA, gB_sA, gZ_sA, gO_sA, gX_sA, gF_sL, gA_sL, gB_sL, gZ_sL, gO_sL, gX_sL, gF_sB, gA_sB, gL_sB, gZ_sB, gO_sB, gX_sB, gF_sZ, gA_sZ, gL_sZ, gB_sZ, gO_sZ, gX_sZ, gF_sO, gA_sO, gL_sO, gB_sO, gZ_sO, gX_sO, gF_sX, gA_sX, gL_sX, gB_sX, gZ_sX, gO_sX, gF_tA, gL_tA, gB_tA, gZ_tA, gO_tA, gX_tA, gF_tL, gA_tL, gB_tL, gZ_tL, gO_tL, gX_tL, gF_tB, gA_tB, gL_tB, gZ_tB, gO_tB, gX_tB, gF_tZ, gA_tZ, gL_tZ, gB_tZ, gO_tZ, gX_tZ, gF_sF, gA_sA, gL_sL, gB_sB, gZ_sZ, gO_sO, gX_sX, gA_tA, gL_tL, gB_tB, gZ_tZ, reduceIte, Nat.reduceEqDiff, Nat.zero_ne_one, Nat.one_ne_zero, Nat.succ_ne_self, forall_eq, vpT, cpyT, nI_leI, nI_ltI, nI_eq, nI_m1, oI_eqn, oI_eqm, va_up_ne', va_up_eq, eq_self_iff_true, true_or, or_true, true_implies, not_true_eq_false, not_false_eq_true, false_implies, and_true, true_and, forall_const, implies_true, ne_eq, Nat.add_sub_cancel, nI_pos, ite_self]
            have fv' : Fr [(1, 9)] m0 v' := fv.tr (by rw [← hv']; exact Fr.tr (Fr.tA 9 _ _ (by decide)) (Fr.tA 9 _ _ (by decide)))
            have g1 : gA v' 1 = gA m0 1 := fv'.2.1 1 (by decide)
            have g1' : gA v 1 0 = nI (A 50 0) := by rw [fv.2.1 1 (by decide)]; exact e0
            have hM' : MLk v' A f (swL L a b d) p := ⟨fun j hj => by rw [fv'.2.1 7 (by decide)]; exact hk.1 j hj, hk.2.1, fun t ht => by
              rw [g9]; unfold swL
              by_cases e1 : t = b
              · rw [e1, va_up_eq, va_up_eq]
              · rw [va_up_ne' _ _ (by omega), va_up_ne' _ _ e1]
                by_cases e2 : t = a
                · rw [e2, va_up_eq, va_up_eq]
                · rw [va_up_ne' _ _ (by omega), va_up_ne' _ _ e2]; exact hv t ht e2 e1, swL_le hL (by omega) ha hb⟩
            have hgo : ∀ r', IsB P (Xd a b (d + 1)) r' → qX12_swings_92 Q (qX12_swings_38 Q ko) (qX12_swings_47 Q (qX12_swings_38 Q ko) kb) k v' (nI p) (nI was) (mI r') (nI a) (nI b) (nI (L a)) (nI (L b)) (nI (d + 1)) := fun r' hr' => by
              refine lh v' (mI r') (nI (d + 1)) ⟨r', d + 1, rfl, rfl, by omega, by omega, fv', fun t ht q1 q2 => ?_, hr'⟩ (by rw [nI_clamp (by omega), nI_clamp (by omega)]; omega)
              rw [g9, va_up_ne' _ _ (by omega), va_up_ne' _ _ (by omega)]; exact hv t ht q1 q2
            have hadd : ∀ a' b' d', Xd a b (d + 1) a' b' d' → Xd a b d a' b' d' ∨ (a' = a ∧ b' = b ∧ d' = d) := by
              intro a' b' d' q
              by_cases q2 : a' = a ∧ b' = b ∧ d' = d
              · exact Or.inr q2
              · exact Or.inl ⟨q.1, by have := q.2; omega⟩
            have hsub : ∀ a' b' d', Xd a b d a' b' d' → Xd a b (d + 1) a' b' d' := fun a' b' d' q => ⟨q.1, by have := q.2; omega⟩
            rw [g1', ← hu]
            refine M_firstOf (f := f) (L := swL L a b d) hw (by rw [g1]; exact hm) hM' hp (by omega) (by omega) ?_
            have hfr := frA_lt hw (F := fcF (swL L a b d) (ptF A f p) u) (L := swL L a b d) (a := acA A u) acA_le
            refine c_eq rfl rfl (by omega) (by omega) (fun e => hgo r ?_) (fun e => ?_)
            · have hnp : ¬ P a b d := by
                rw [← hP]; intro q
                have q2 := q.2
                unfold swB at q2; rw [e, bne_self_eq_false] at q2
                exact absurd q2 (by decide)
              rcases hr with ⟨h1, h2⟩ | ⟨h1, ⟨a1, b1, x1, p1⟩, h2⟩
              · refine Or.inl ⟨h1, fun a' b' d' q pp => ?_⟩
                rcases hadd a' b' d' q with q1 | ⟨rfl, rfl, rfl⟩
                · exact h2 a' b' d' q1 pp
                · exact hnp pp
              · refine Or.inr ⟨h1, ⟨a1, b1, hsub _ _ _ x1, p1⟩, fun a' b' d' hlt q pp => ?_⟩
                rcases hadd a' b' d' q with q1 | ⟨rfl, rfl, rfl⟩
                · exact h2 a' b' d' hlt q1 pp
                · exact hnp pp
            · have hp' : P a b d := by
                rw [← hP]; exact ⟨by show d ≤ ownA A u (3 * p + a); omega, by unfold swB; exact bne_iff_ne.mpr e⟩
              have := hgo d (Or.inr ⟨d1, ⟨a, b, ⟨⟨ha, hb, by omega, d1⟩, by omega⟩, hp'⟩, fun a' b' d' hlt q pp => by
                rcases hadd a' b' d' q with q1 | ⟨_, _, q1⟩
                · rcases hr with ⟨h1, h2⟩ | ⟨h1, _, h2⟩
                  · exact h2 a' b' d' q1 pp
                  · exact h2 a' b' d' (by omega) q1 pp
                · omega⟩)
              have em : mI d = nI d := by unfold mI; rw [if_neg (by omega)]
              rw [em] at this
              exact this
          refine ⟨fun q => k119 (Or.inl ((mI_m1 (by omega)).mp q)), fun q => ?_⟩
          have q0 : r ≠ 0 := fun e => q ((mI_m1 (by omega)).mpr e)
          have em : mI r = nI r := by unfold mI; rw [if_neg q0]
          have k1 := k177 v r fv hv
          have k2 := hdone d r hr
          rw [em] at k1 k119 ⊢
          refine c_le rfl rfl (by omega) (by omega) (fun h2 => k1 (k2 (Or.inr ⟨q0, h2⟩))) (fun h2 => k119 (Or.inr (by omega)))
        · have eX : Xd a b 1 = Xd a b 0 := by
            funext a' b' d'
            exact propext ⟨fun q => ⟨q.1, by have := q.2; have := q.1.2.2.2; omega⟩, fun q => ⟨q.1, by have := q.2; omega⟩⟩
          rw [eX]; exact j3
theorem sim_swings {c : Nat} {nb m st la sp ac bd sg vw : Md} (hR : RW c m st la sp ac bd sg) {x1 : Int32} {Q : Int32 → Md → Md → Md → Md → Md → Int32 → Md → Prop} (hQ : ∀ r vw' m', Fr [(1, 7), (1, 8), (1, 9)] m m' → Q r nb st la ac vw' r m') : qX11_swings nb st la ac vw x1 (fun r nb' st' la' ac' vw' => qX12_swings m x1 (fun r' m' => Q r nb' st' la' ac' vw' r' m')) := by
  obtain ⟨A, hm, hw, hs, hn⟩ := id hR
  have e0 : gA m 1 0 = nI (A 50 0) := hm.1.1
  have e1 : gA m 1 1 = nI (A 51 0) := hm.1.2.1
  have s1 : gF la 0 = nI (A 51 0) := hn.1.1.1
  have b0 : A 50 0 < 400 := hw.1.1
  have b1 : A 51 0 ≤ 40 := hw.1.2.1
  unfold qX11_swings qX12_swings
  rcases ix32 x1 (n := A 51 0) (by omega) with h | ⟨p, hp, rfl⟩
  · exact la_has0 s1 (by omega) h (b_0' (m_isPl0 e1 b1 h (b_0 (hQ _ _ _ Fr.rf))))
  refine la_has1 s1 (by omega) hp (b_1' (N_fewest hw hs hn.1 hn.2.2.1 hp (fun r vw' hr => ?_)))
  refine m_isPl1 e1 b1 hp (b_1 ?_)
  have z : vp_in 0 11570 := vp_in_nI (n := 0) (by decide) (by decide)
  unfold qX12_now
  refine ⟨z, ?_⟩
  rw [show gA m 1 (0 : Int32).toNatClampNeg = nI (A 50 0) from e0]
  refine M_looks hw hm b0 (fun m' fm d7 d8 d9 => ⟨z, z, ?_⟩)
  have g1 : gA m' 1 = gA m 1 := fm.2.1 1 (by decide)
  have hm' : MW (gA m' 1) A := by rw [g1]; exact hm
  have hk := MLk_of (p := p) hw (by omega) d7 d9
  rw [show gA m' 1 (0 : Int32).toNatClampNeg = nI (A 50 0) from by rw [g1]; exact e0]
  refine M_firstOf hw hm' hk (by omega) b0 b0 ?_
  refine M_swingsLoop hw hm' rfl (by omega) (fun t _ => livA_le hw _ p t) d8 (fun t _ => own_liv hp) hk (frA_lt hw acA_le) (fun r' m'' fm' hr' => ?_)
  obtain rfl : r = r' := hr.un hr'
  exact hQ _ _ _ (fm.tr (fm'.mono (by decide)))
