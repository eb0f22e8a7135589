def edA (A : Nat → Nat → Nat) (n k y : Nat) : Nat := edD (lch (spl A n y)) (lch (spl A k y)) (spl A n y).length (spl A k y).length
theorem edA_le {A : Nat → Nat → Nat} {c : Nat} (hw : Wf A c) (n k y : Nat) : edA A n k y ≤ 72 := by
  have := edD_le (lch (spl A n y)) (lch (spl A k y)) (spl A n y).length (spl A k y).length
  have := splL hw n y
  have := splL hw k y
  unfold edA; omega
/-- some name settled NOW for another place near n's is alike -/
def AlkX (A : Nat → Nat → Nat) (n M ap p t : Nat) : Prop := p ≠ A 10 n ∧ nearB A p (A 10 n) M = true ∧ ∃ x r, stkA A p t (A 50 0) = x :: r ∧ edA A n x (A 50 0) ≤ ap
theorem N_isAlike {vw o1 o2 st la sp bd : Md} {A : Nat → Nat → Nat} {c n M ap : Nat} (hw : Wf A c) (hs : Nst st A) (hl : Nla la A) (hp : Nsc sp A) (hb : Nse bd A) (hn : n < A 52 0) (hM : M ≤ 9999) (hap : ap ≤ 9999) {Q : Int32 → Md → Md → Md → Md → Md → Md → Md → Prop} (h1 : (∃ p t, p < A 51 0 ∧ t < 3 ∧ AlkX A n M ap p t) → ∀ vw' o1' o2', Q 1 vw' o1' o2' st la sp bd) (h0 : (∀ p t, p < A 51 0 → t < 3 → ¬ AlkX A n M ap p t) → ∀ vw' o1' o2', Q 0 vw' o1' o2' st la sp bd) : qX10_isAlike vw o1 o2 st la sp bd (nI n) (nI M) (nI ap) Q := by
  have b0 : A 50 0 < 400 := hw.1.1
  have b1 : A 51 0 ≤ 40 := hw.1.2.1
  have b2 : A 52 0 ≤ 80 := hw.1.2.2.1
  have wn := (hw.2.2.2.2.1 n hn).1
  unfold qX10_isAlike
  rw [nI_clamp (by omega), (hp.1.2 n hn).1]
  refine ⟨vp_in_nI (by omega) (by decide), ?_⟩
  refine pk_loop (fun k p (s : Md × Md × Md) => qX10_isAlike_14 Q k s.1 s.2.1 s.2.2 st la sp bd (nI n) (nI M) (nI ap) (nI (A 10 n)) (nI p)) (fun p s => ∀ p' t, p' < p → t < 3 → ¬ AlkX A n M ap p' t) (A 51 0) 0 (vw, o1, o2) (by omega) (fun p' t h => by omega) (fun k s hI => ?_) (fun ko p s hpp hI ih => ?_)
  · unfold qX10_isAlike_14
    rw [hl.1.1]
    exact c_y (nI_le (Nat.le_refl _) (by omega)) (h0 hI _ _ _)
  · obtain ⟨v1, v2, v3⟩ := s
    dsimp only at hI ⊢
    have hnx : ∀ (v1 v2 v3 : Md), (∀ t, t < 3 → ¬ AlkX A n M ap p t) → qX10_isAlike_14 Q ko v1 v2 v3 st la sp bd (nI n) (nI M) (nI ap) (nI (A 10 n)) (nI (p + 1)) := fun v1 v2 v3 hno => ih (v1, v2, v3) (fun p' t q1 q2 => by
      by_cases e : p' = p
      · rw [e]; exact hno t q2
      · exact hI p' t (by omega) q2)
    have k52 : (∀ t, t < 3 → ¬ AlkX A n M ap p t) → qX10_isAlike_52 Q (qX10_isAlike_14 Q ko) v1 v2 v3 st la sp bd (nI n) (nI M) (nI ap) (nI (A 10 n)) (nI p) := fun hno => by
      unfold qX10_isAlike_52
      refine ⟨1, ?_⟩
      unfold qX10_isAlike_58
      rw [ofI1, nI_add]
      exact c_y rfl (hnx v1 v2 v3 hno)
    unfold qX10_isAlike_14
    rw [hl.1.1]
    refine c_n (nI_ge hpp (by omega)) (c_eq rfl rfl (by omega) (by omega) (fun e => k52 (fun t _ q => q.1 e)) (fun e => N_areNear hw hl.1 hpp wn hM ?_))
    cases hnr : nearB A p (A 10 n) M with
    | false => exact b_0' (k52 (fun t _ q => absurd (hnr.symm.trans q.2.1) (by decide)))
    | true =>
      refine b_1' ?_
      refine pk_loop (fun k t (s : Md × Md × Md) => qX10_isAlike_58 Q (qX10_isAlike_14 Q ko) k s.1 s.2.1 s.2.2 st la sp bd (nI n) (nI M) (nI ap) (nI (A 10 n)) (nI p) 1 (nI t)) (fun t s => ∀ t', t' < t → ¬ AlkX A n M ap p t') 3 0 (v1, v2, v3) (by omega) (fun t' h => by omega) (fun k s hJ => ?_) (fun k t s ht hJ jh => ?_)
      · unfold qX10_isAlike_58
        rw [ofI1, nI_add]
        exact c_n (by decide) (c_y (by decide) (hnx _ _ _ hJ))
      · obtain ⟨u1, u2, u3⟩ := s
        dsimp only at hJ ⊢
        have hgo : ∀ (u1 u2 u3 : Md), ¬ AlkX A n M ap p t → qX10_isAlike_58 Q (qX10_isAlike_14 Q ko) k u1 u2 u3 st la sp bd (nI n) (nI M) (nI ap) (nI (A 10 n)) (nI p) 1 (nI (t + 1)) := fun u1 u2 u3 hno => jh (u1, u2, u3) (fun t' q => by
          by_cases e : t' = t
          · rw [e]; exact hno
          · exact hJ t' (by omega))
        unfold qX10_isAlike_58
        refine c_n (by decide) (c_n (nI_ge (b := 3) ht (by decide)) ?_)
        rw [hs.1, ofI1, nI_add]
        refine N_nameAt hw hb hpp ht b0 ?_
        cases hst : stkA A p t (A 50 0) with
        | nil => exact c_y rfl (hgo _ _ _ (fun q => by obtain ⟨x, r, q1, _⟩ := q.2.2; rw [hst] at q1; exact absurd q1 (by simp)))
        | cons x r =>
          have hx := stkA_lt hw (show x ∈ stkA A p t (A 50 0) by rw [hst]; exact List.mem_cons_self)
          have he := edA_le hw n x (A 50 0)
          refine c_n (nI_m1 (by omega)) (N_editsOfNames hw hp hn hx b0 (fun w1 w2 w3 _ => ?_))
          show (nI ap < nI (edA A n x (A 50 0)) → _) ∧ _
          refine c_lt rfl rfl (by omega) (by omega) (fun e2 => hgo _ _ _ (fun q => ?_)) (fun e2 => h1 ⟨p, t, hpp, ht, e, hnr, x, r, hst, by omega⟩ _ _ _)
          obtain ⟨x', r', q1, q2⟩ := q.2.2
          rw [hst] at q1
          obtain ⟨rfl, _⟩ := List.cons.inj q1
          omega
theorem M_isTooAlike {m : Md} {A : Nat → Nat → Nat} {c n : Nat} (hw : Wf A c) (hm : MW (gA m 1) A) (hn : n < A 52 0) {Q : Int32 → Md → Prop} (hno : lnA A (acA A (A 50 0)) 2 = 0 → Q 0 m) (h1 : lnA A (acA A (A 50 0)) 2 ≠ 0 → (∃ p t, p < A 51 0 ∧ t < 3 ∧ AlkX A n (A 29 (12 * (acA A (A 50 0) - 1) + (lnA A (acA A (A 50 0)) 2 - 1))) (A 30 (12 * (acA A (A 50 0) - 1) + (lnA A (acA A (A 50 0)) 2 - 1))) p t) → ∀ m', Fr [(1, 28), (0, 21), (1, 19), (1, 20), (0, 26), (1, 25), (1, 27)] m m' → Q 1 m') (h0 : lnA A (acA A (A 50 0)) 2 ≠ 0 → (∀ p t, p < A 51 0 → t < 3 → ¬ AlkX A n (A 29 (12 * (acA A (A 50 0) - 1) + (lnA A (acA A (A 50 0)) 2 - 1))) (A 30 (12 * (acA A (A 50 0) - 1) + (lnA A (acA A (A 50 0)) 2 - 1))) p t) → ∀ m', Fr [(1, 28), (0, 21), (1, 19), (1, 20), (0, 26), (1, 25), (1, 27)] m m' → Q 0 m') : qX12_isTooAlike m (nI n) Q := by
  have b0 : A 50 0 < 400 := hw.1.1
  have b1 : A 51 0 ≤ 40 := hw.1.2.1
  have b2 : A 52 0 ≤ 80 := hw.1.2.2.1
  have b4 : A 54 0 ≤ 8 := hw.1.2.2.2.2.1
  have e0 : gA m 1 0 = nI (A 50 0) := hm.1.1
  have e1 : gA m 1 1 = nI (A 51 0) := hm.1.2.1
  have wn := (hw.2.2.2.2.1 n hn).1
  have pn := (hm.2.2.2.2.1 n hn).1
  have z : vp_in 0 11570 := vp_in_nI (n := 0) (by decide) (by decide)
  unfold qX12_isTooAlike
  refine M_termOf (kind := 2) (i := 1) hw hm (by omega) (Or.inl rfl) ?_
  by_cases hl0 : lnA A (acA A (A 50 0)) 2 = 0
  · rw [if_pos hl0]; exact c_y' rfl (hno hl0)
  rw [if_neg hl0]
  have h1' := h1 hl0
  have h0' := h0 hl0
  obtain ⟨k1, k2⟩ := lnA_lt hl0
  have kw := (hw.2.2.2.2.2.2.1 (acA A (A 50 0) - 1) (by have := acA_le (A := A) (y := A 50 0); omega)).2.2 _ k2
  have ht2 : ∀ {m' : Md} {P : Int32 → Md → Prop}, MW (gA m' 1) A → P (nI (A 30 (12 * (acA A (A 50 0) - 1) + (lnA A (acA A (A 50 0)) 2 - 1)))) m' → qX12_termOf m' 2 2 0 P := fun {m' P} hm' hP => M_termOf (kind := 2) (i := 2) hw hm' (by omega) (Or.inr rfl) (by rw [if_neg hl0]; exact hP)
  show (¬ nI (A 29 (12 * (acA A (A 50 0) - 1) + (lnA A (acA A (A 50 0)) 2 - 1))) = -1 → _) ∧ _
  have hM : A 29 (12 * (acA A (A 50 0) - 1) + (lnA A (acA A (A 50 0)) 2 - 1)) ≤ 9999 := kw.2.1
  have hap : A 30 (12 * (acA A (A 50 0) - 1) + (lnA A (acA A (A 50 0)) 2 - 1)) ≤ 9999 := kw.2.2.2.1
  generalize A 29 (12 * (acA A (A 50 0) - 1) + (lnA A (acA A (A 50 0)) 2 - 1)) = M at *
  generalize A 30 (12 * (acA A (A 50 0) - 1) + (lnA A (acA A (A 50 0)) 2 - 1)) = ap at *
  refine c_n' (nI_m1 (by omega)) ?_
  unfold qX12_nameIs
  rw [nl_90, nl_16, nl_0, pk_mul, nI_add, nI_add, nI_clamp (by omega), Nat.add_zero, pn]
  refine ⟨vp_in_nI (by omega) (by decide), ?_⟩
  refine pk_loop (fun k p (s : Md) => qX12_isTooAlike_25 Q k s (nI n) (nI M) (nI (A 10 n)) (nI p)) (fun p s => Fr [(1, 28), (0, 21), (1, 19), (1, 20), (0, 26), (1, 25), (1, 27)] m s ∧ ∀ p' t, p' < p → t < 3 → ¬ AlkX A n M ap p' t) (A 51 0) 0 m (by omega) ⟨Fr.rf, fun p' t h => by omega⟩ (fun k s hI => ?_) (fun ko p s hpp hI ih => ?_)
  · unfold qX12_isTooAlike_25
    rw [nl_1, nI_clamp (by omega), hI.1.2.1 1 (by decide), e1]
    exact ⟨vp_in_nI (by decide) (by decide), c_y (nI_le (Nat.le_refl _) (by omega)) (h0' hI.2 s hI.1)⟩
  · obtain ⟨i1, i2⟩ := hI
    have hms : MW (gA s 1) A := by rw [i1.2.1 1 (by decide)]; exact hm
    have hnx : ∀ v, Fr [(1, 28), (0, 21), (1, 19), (1, 20), (0, 26), (1, 25), (1, 27)] m v → (∀ t, t < 3 → ¬ AlkX A n M ap p t) → qX12_isTooAlike_25 Q ko v (nI n) (nI M) (nI (A 10 n)) (nI (p + 1)) := fun v fv hno => ih v ⟨fv, fun p' t q1 q2 => by
      by_cases e : p' = p
      · rw [e]; exact hno t q2
      · exact i2 p' t (by omega) q2⟩
    unfold qX12_isTooAlike_25
    rw [nl_1, nI_clamp (by omega), i1.2.1 1 (by decide), e1, ofI1, nI_add]
    refine ⟨vp_in_nI (by decide) (by decide), c_n (nI_ge hpp (by omega)) (c_eq rfl rfl (by omega) (by omega) (fun e => hnx s i1 (fun t _ q => q.1 e)) (fun e => M_isNear hw hms hpp wn hM ?_))⟩
    cases hnr : nearB A p (A 10 n) M with
    | false => exact b_0 (hnx s i1 (fun t _ q => absurd (hnr.symm.trans q.2.1) (by decide)))
    | true =>
      refine b_1 ?_
      refine pk_loop (fun k t (v : Md) => qX12_isTooAlike_59 Q (qX12_isTooAlike_25 Q ko) k v (nI n) (nI M) (nI (A 10 n)) (nI p) (nI t)) (fun t v => Fr [(1, 28), (0, 21), (1, 19), (1, 20), (0, 26), (1, 25), (1, 27)] m v ∧ ∀ t', t' < t → ¬ AlkX A n M ap p t') 3 0 s (by omega) ⟨i1, fun t' h => by omega⟩ (fun k v hJ => ?_) (fun k t v ht hJ jh => ?_)
      · unfold qX12_isTooAlike_59
        rw [ofI1, nI_add]
        exact c_y (by decide) (hnx v hJ.1 hJ.2)
      · obtain ⟨j1, j2⟩ := hJ
        have hgo : ∀ v, Fr [(1, 28), (0, 21), (1, 19), (1, 20), (0, 26), (1, 25), (1, 27)] m v → ¬ AlkX A n M ap p t → qX12_isTooAlike_59 Q (qX12_isTooAlike_25 Q ko) k v (nI n) (nI M) (nI (A 10 n)) (nI p) (nI (t + 1)) := fun v fv hno => jh v ⟨fv, fun t' q => by
          by_cases e : t' = t
          · rw [e]; exact hno
          · exact j2 t' (by omega)⟩
        unfold qX12_isTooAlike_59 qX12_now
        rw [ofI1, nI_add, nI_add]
        refine c_n (nI_ge (b := 3) ht (by decide)) ⟨z, ?_⟩
        rw [show gA v 1 (0 : Int32).toNatClampNeg = nI (A 50 0) from by rw [j1.2.1 1 (by decide)]; exact e0]
        refine M_settledOf hw (by rw [j1.2.1 1 (by decide)]; exact hm) hpp ht b0 (fun v2 fv2 => ?_)
        have j3 := j1.tr (fv2.mono (by decide))
        cases hst : stkA A p t (A 50 0) with
        | nil => exact c_y rfl (hgo v2 j3 (fun q => by obtain ⟨x, r, q1, _⟩ := q.2.2; rw [hst] at q1; exact absurd q1 (by simp)))
        | cons x r =>
          have hx := stkA_lt hw (show x ∈ stkA A p t (A 50 0) by rw [hst]; exact List.mem_cons_self)
          have he := edA_le hw n x (A 50 0)
          refine c_n (nI_m1 (by omega)) ⟨z, ?_⟩
          rw [show gA v2 1 (0 : Int32).toNatClampNeg = nI (A 50 0) from by rw [j3.2.1 1 (by decide)]; exact e0]
          refine M_editsOf hw (by rw [j3.2.1 1 (by decide)]; exact hm) hn hx b0 (fun v4 fv4 => ?_)
          have j5 := j3.tr (fv4.mono (by decide))
          refine ht2 (by rw [j5.2.1 1 (by decide)]; exact hm) ?_
          show (nI ap < nI (edA A n x (A 50 0)) → _) ∧ _
          refine c_lt rfl rfl (by omega) (by omega) (fun e2 => hgo v4 j5 (fun q => ?_)) (fun e2 => h1' ⟨p, t, hpp, ht, e, hnr, x, r, hst, by omega⟩ v4 j5)
          obtain ⟨x', r', q1, q2⟩ := q.2.2
          rw [hst] at q1
          obtain ⟨rfl, _⟩ := List.cons.inj q1
          omega
