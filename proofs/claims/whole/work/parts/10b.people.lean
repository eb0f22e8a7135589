theorem l2i {X : Int64} {p : Nat} (h : X.toInt = p) (hp : p < 2 ^ 31) : X.toInt32 = nI p := by
  rw [← Int32.toInt_inj, Int64.toInt_toInt32, h, nI_toInt hp]
  exact Int.bmod_eq_of_le (by omega) (by omega)
theorem i2n {x : Int32} {p : Nat} (h : x.toInt = p) (hp : p < 2 ^ 31) : x = nI p := by
  rw [← Int32.toInt_inj, h, nI_toInt hp]
def fndC (A : Nat → Nat → Nat) (p t N : Nat) : Nat → Nat
  | 0 => 0
  | k + 1 => if A 6 k = p ∧ A 7 k = t ∧ A 9 k = N then k + 1 else fndC A p t N k
theorem fndC_no {A : Nat → Nat → Nat} {p t N : Nat} : ∀ k, (∀ i, i < k → ¬ mtc A p t N i) → fndC A p t N k = 0 := by
  intro k
  induction k with
  | zero => intro _; rfl
  | succ k ih => intro h; unfold fndC; rw [if_neg (show ¬ (A 6 k = p ∧ A 7 k = t ∧ A 9 k = N) from h k (by omega))]; exact ih (fun i hi => h i (by omega))
theorem fndC_yes {A : Nat → Nat → Nat} {p t N i : Nat} : ∀ k, i < k → mtc A p t N i → (∀ j, j < k → mtc A p t N j → j = i) → fndC A p t N k = i + 1 := by
  intro k
  induction k with
  | zero => intro h; omega
  | succ k ih =>
    intro hi hm hu
    unfold fndC
    by_cases hk : A 6 k = p ∧ A 7 k = t ∧ A 9 k = N
    · rw [if_pos hk, hu k (by omega) hk]
    · rw [if_neg hk]
      refine ih ?_ hm (fun j hj => hu j (by omega))
      by_cases e : i = k
      · subst e; exact absurd hm hk
      · omega
theorem Wco.un {A : Nat → Nat → Nat} (h : Wco A) {p t N i j : Nat} (hi : i < A 56 0) (hj : j < A 56 0) (h1 : mtc A p t N i) (h2 : mtc A p t N j) : j = i := by
  obtain ⟨-, -, h3⟩ := h
  rcases Nat.lt_trichotomy i j with hl | hl | hl
  · exact absurd (h1.2.2.trans h2.2.2.symm) (h3 i j hl hj (h1.1.trans h2.1.symm) (h1.2.1.trans h2.2.1.symm))
  · exact hl.symm
  · exact absurd (h2.2.2.trans h1.2.2.symm) (h3 j i hl hi (h2.1.trans h1.1.symm) (h2.2.1.trans h1.2.1.symm))
def telA (A : Nat → Nat → Nat) (p t n : Nat) : Nat → Nat → Nat := if fndC A p t (A 50 0) (A 56 0) = 0 then upc (upc (upc (upc (upc A 6 (A 56 0) p) 7 (A 56 0) t) 8 (A 56 0) n) 9 (A 56 0) (A 50 0)) 56 0 (A 56 0 + 1) else upc A 8 (fndC A p t (A 50 0) (A 56 0) - 1) n
def telOk (A : Nat → Nat → Nat) (p t : Nat) : Prop := fndC A p t (A 50 0) (A 56 0) ≠ 0 ∨ A 56 0 < 200
theorem fndC_cases (A : Nat → Nat → Nat) (p t : Nat) : (∃ i, i < A 56 0 ∧ mtc A p t (A 50 0) i) ∨ (∀ i, i < A 56 0 → ¬ mtc A p t (A 50 0) i) := by
  by_cases h : ∃ i, i < A 56 0 ∧ mtc A p t (A 50 0) i
  · exact Or.inl h
  · exact Or.inr (fun i hi hm => h ⟨i, hi, hm⟩)
theorem telA_yes {A : Nat → Nat → Nat} (h : Wco A) {p t n i : Nat} (hi : i < A 56 0) (hm : mtc A p t (A 50 0) i) : telA A p t n = upc A 8 i n ∧ telOk A p t := by
  have e := fndC_yes _ hi hm (fun j hj hj2 => h.un hi hj hm hj2)
  unfold telA telOk
  rw [e, if_neg (by omega)]
  exact ⟨rfl, Or.inl (by omega)⟩
theorem telA_no {A : Nat → Nat → Nat} {p t n : Nat} (h : ∀ i, i < A 56 0 → ¬ mtc A p t (A 50 0) i) : telA A p t n = upc (upc (upc (upc (upc A 6 (A 56 0) p) 7 (A 56 0) t) 8 (A 56 0) n) 9 (A 56 0) (A 50 0)) 56 0 (A 56 0 + 1) ∧ (telOk A p t ↔ A 56 0 < 200) := by
  have e := fndC_no _ h
  unfold telA telOk
  rw [e, if_pos rfl]
  refine ⟨rfl, fun q => q.resolve_left (fun z => z rfl), Or.inr⟩
theorem tel_Wf {A : Nat → Nat → Nat} {c p t n : Nat} (hw : Wf A c) (hp : p < A 51 0) (ht : t < 3) (hn : n ≤ 2000) (hok : telOk A p t) : Wf (telA A p t n) c := by
  have hco : Wco A := hw.2.2.2.1
  rcases fndC_cases A p t with ⟨i, hi, hm⟩ | hno
  · rw [(telA_yes hco hi hm).1]
    obtain ⟨⟨w0, w1, w2, w3, w4, w5, w6, w7, w8, w9, wc⟩, v1, ⟨v2, v2b, v2c⟩, ⟨v3, v3b, v3c⟩, v4, v5, v6, v7, v8, ⟨v9, v9b, v9c⟩⟩ := id hw; refine ⟨⟨w0, w1, w2, w3, w4, w5, w6, w7, w8, w9, wc⟩, v1, ⟨v2, v2b, v2c⟩, ⟨fun k hk => ⟨(v3 k hk).1, (v3 k hk).2.1, ?_, (v3 k hk).2.2.2⟩, v3b, v3c⟩, v4, v5, v6, v7, v8, ⟨v9, v9b, v9c⟩⟩
    show va_up (A 8) i n k ≤ 2000
    by_cases e : k = i
    · rw [e, va_up_eq]; exact hn
    · rw [va_up_ne' _ _ e]; exact (v3 k hk).2.2.1
  · have hC := (telA_no (n := n) hno).2.mp hok
    rw [(telA_no hno).1]
    obtain ⟨⟨w0, w1, w2, w3, w4, w5, w6, w7, w8, w9, wc⟩, v1, ⟨v2, v2b, v2c⟩, ⟨v3, v3b, v3c⟩, v4, v5, v6, v7, v8, ⟨v9, v9b, v9c⟩⟩ := id hw; refine ⟨⟨w0, w1, w2, w3, w4, w5, by show A 56 0 + 1 ≤ 200; omega, w7, w8, w9, wc⟩, v1, ⟨v2, v2b, v2c⟩, ⟨?_, ?_, ?_⟩, v4, v5, v6, v7, v8, ⟨v9, v9b, v9c⟩⟩
    · intro k hk
      have hk' : k < A 56 0 + 1 := hk
      show va_up (A 6) (A 56 0) p k < A 51 0 ∧ va_up (A 7) (A 56 0) t k < 3 ∧ va_up (A 8) (A 56 0) n k ≤ 2000 ∧ va_up (A 9) (A 56 0) (A 50 0) k ≤ A 50 0
      by_cases e : k = A 56 0
      · rw [e, va_up_eq, va_up_eq, va_up_eq, va_up_eq]; exact ⟨hp, ht, hn, Nat.le_refl _⟩
      · rw [va_up_ne' _ _ e, va_up_ne' _ _ e, va_up_ne' _ _ e, va_up_ne' _ _ e]; exact v3 k (by omega)
    · intro i j hij hj
      have hj' : j < A 56 0 + 1 := hj
      show va_up (A 9) (A 56 0) (A 50 0) i ≤ va_up (A 9) (A 56 0) (A 50 0) j
      rw [va_up_ne' _ _ (show i ≠ A 56 0 by omega)]
      by_cases e : j = A 56 0
      · rw [e, va_up_eq]; exact (v3 i (by omega)).2.2.2
      · rw [va_up_ne' _ _ e]; exact v3b i j hij (by omega)
    · intro i j hij hj
      have hj' : j < A 56 0 + 1 := hj
      show va_up (A 6) (A 56 0) p i = va_up (A 6) (A 56 0) p j → va_up (A 7) (A 56 0) t i = va_up (A 7) (A 56 0) t j → va_up (A 9) (A 56 0) (A 50 0) i ≠ va_up (A 9) (A 56 0) (A 50 0) j
      rw [va_up_ne' _ _ (show i ≠ A 56 0 by omega), va_up_ne' _ _ (show i ≠ A 56 0 by omega), va_up_ne' _ _ (show i ≠ A 56 0 by omega)]
      by_cases e : j = A 56 0
      · rw [e, va_up_eq, va_up_eq, va_up_eq]
        exact fun a b d => hno i (by omega) ⟨a, b, d⟩
      · rw [va_up_ne' _ _ e, va_up_ne' _ _ e, va_up_ne' _ _ e]; exact v3c i j hij (by omega)
theorem tel_low {A : Nat → Nat → Nat} {c p t n : Nat} (hw : Wf A c) (y : Nat) (hy : y < A 50 0) : Alike (telA A p t n) A y ∧ telA A p t n 50 0 = A 50 0 ∧ telA A p t n 51 0 = A 51 0 := by
  have hco : Wco A := hw.2.2.2.1
  rcases fndC_cases A p t with ⟨i, hi, hm⟩ | hno
  · rw [(telA_yes hco hi hm).1]
    refine ⟨⟨rfl, ownF_c _ (fun k hk => ⟨Iff.rfl, fun hle => ⟨rfl, rfl, ?_⟩⟩), fun _ => rfl, rfl, fun _ _ => rfl⟩, rfl, rfl⟩
    refine va_up_ne' _ _ (fun e => ?_)
    have h9 : A 9 k ≤ y := hle
    rw [e, hm.2.2] at h9
    omega
  · rw [(telA_no hno).1]
    refine ⟨⟨rfl, ?_, fun _ => rfl, rfl, fun _ _ => rfl⟩, rfl, rfl⟩
    show ownF (va_up (A 6) (A 56 0) p) (va_up (A 7) (A 56 0) t) (va_up (A 8) (A 56 0) n) (va_up (A 9) (A 56 0) (A 50 0)) y (A 56 0 + 1) = _
    unfold ownF
    rw [va_up_eq, if_neg (by omega)]
    exact ownF_c _ (fun k hk => ⟨by rw [va_up_ne' _ _ (show k ≠ A 56 0 by omega)], fun _ => ⟨va_up_ne' _ _ (by omega), va_up_ne' _ _ (by omega), va_up_ne' _ _ (by omega)⟩⟩)
theorem N_cp {nb st la : Md} {A : Nat → Nat → Nat} {c : Nat} (hw : Wf A c) (hs : Nst st A) (hl : Nla la A) {X1 X2 X3 : Int64} {Q : Int32 → Md → Md → Md → Prop} (h2 : ¬ (0 ≤ X1.toInt ∧ X1.toInt < A 51 0 ∧ 0 ≤ X2.toInt ∧ X2.toInt < 3 ∧ 0 ≤ X3.toInt ∧ X3.toInt ≤ 2000) → Q (-2) nb st la) (h3 : ∀ p t n : Nat, X1.toInt = p → X2.toInt = t → X3.toInt = n → p < A 51 0 → t < 3 → n ≤ 2000 → ¬ telOk A p t → Q (-3) nb st la) (h0 : ∀ p t n : Nat, X1.toInt = p → X2.toInt = t → X3.toInt = n → p < A 51 0 → t < 3 → n ≤ 2000 → telOk A p t → ∀ st' la', Nst st' (telA A p t n) → Nla la' (telA A p t n) → Q 0 nb st' la') : qX11_countPeople nb st la X1 X2 X3 Q := by
  have s1 : gF la 0 = nI (A 51 0) := hl.1.1
  have s0 : gF st 0 = nI (A 50 0) := hs.1
  have b0 : A 50 0 < 400 := hw.1.1
  have b1 : A 51 0 ≤ 40 := hw.1.2.1
  have b6 : A 56 0 ≤ 200 := hw.1.2.2.2.2.2.2.1
  have hco : Wco A := hw.2.2.2.1
  have t0 : (0 : Int64).toInt = 0 := rfl
  have t3 : (3 : Int64).toInt = 3 := rfl
  have t2 : (2000 : Int64).toInt = 2000 := rfl
  unfold qX11_countPeople
  simp only [lcmp_lt, lcmp_le, lcmp_ge, Int32.toInt_toInt64, s1, t0, t3, t2, nI_toInt (show A 51 0 < 2 ^ 31 by omega)]
  by_cases hr : 0 ≤ X1.toInt ∧ X1.toInt < A 51 0 ∧ 0 ≤ X2.toInt ∧ X2.toInt < 3 ∧ 0 ≤ X3.toInt ∧ X3.toInt ≤ 2000
  · obtain ⟨p, hp⟩ : ∃ p : Nat, X1.toInt = p := ⟨X1.toInt.toNat, by omega⟩
    obtain ⟨t, ht⟩ : ∃ p : Nat, X2.toInt = p := ⟨X2.toInt.toNat, by omega⟩
    obtain ⟨n, hn⟩ : ∃ p : Nat, X3.toInt = p := ⟨X3.toInt.toNat, by omega⟩
    refine c_n (by omega) (c_n (by omega) (c_n (by omega) (c_y (by omega) (c_n (by omega) (c_y (by omega) ?_)))))
    rw [l2i hp (by omega), l2i ht (by omega), l2i hn (by omega), s0]
    have k0 := h0 p t n hp ht hn (by omega) (by omega) (by omega)
    have k3 := h3 p t n hp ht hn (by omega) (by omega) (by omega)
    have hm : ∀ la', telOk A p t → Nla la' (telA A p t n) → qX8_mark st (fun v92_0 => Q 0 nb v92_0 la') := fun la' hok hla => N_mark s0 b0 (k0 hok _ la' (by
      have := (tel_low (p := p) (t := t) (n := n) hw)
      exact hs.tell (tel_Wf hw (by omega) (by omega) (by omega) hok) (by
        rcases fndC_cases A p t with ⟨i, hi, hm⟩ | hno
        · rw [(telA_yes hco hi hm).1]; rfl
        · rw [(telA_no hno).1]; rfl) (fun y hy => (this y hy).1)) hla)
    refine N_tellCount (A := A) (C := A 56 0) (p := p) (t := t) (n := n) rfl b6 b0 (by omega) (by omega) (by omega) hl.2.2 (fun k hk => ⟨by have := (hco.1 k hk).1; omega, (hco.1 k hk).2.1, (hco.1 k hk).2.2.2⟩) hco.2.1 hco.2.2 (fun i hi hmt => b_1 (hm _ (telA_yes (n := n) hco hi hmt).2 ?_)) (fun hno hC => b_1 (hm _ ((telA_no (n := n) hno).2.mpr hC) ?_)) (fun hno hC => b_0 (k3 (fun q => by have := (telA_no (n := n) hno).2.mp q; omega)))
    · rw [(telA_yes hco hi hmt).1]
      refine ⟨hl.1, hl.2.1, rfl, fun k hk => ?_⟩
      show _ = nI (3 * A 6 k + A 7 k) ∧ _ = nI (va_up (A 8) i n k) ∧ _ = nI (A 9 k)
      have hk' : k < A 56 0 := hk
      obtain ⟨q1, q2, q3⟩ := hl.2.2.2 k hk
      by_cases e : k = i
      · subst e
        simp (disch := omega) only [ofI1, nI_add, pk_mul, pk_sub, nI_clamp, imin_nI, imax_nI, nl_0, nl_1, nl_2, nl_3, nl_4, nl_5, nl_6, nl_7, nl_8, nl_9, nl_10, nl_11, nl_12, nl_13, nl_15, nl_16, nl_20, nl_24, nl_26, nl_30, nl_32, nl_36, nl_39, nl_40, nl_45, nl_48, nl_50, nl_57, nl_59, nl_60, nl_61, nl_62, nl_64, nl_72, nl_73, nl_80, nl_90, nl_97, nl_99, nl_100, nl_120, nl_122, nl_123, nl_127, nl_128, nl_199, nl_200, nl_255, nl_256, nl_290, nl_399, nl_400, nl_500, nl_512, nl_520, nl_600, nl_999, nl_1000, nl_2000, nl_9999, nl_10000, nl_14, nl_17, nl_18, nl_19, nl_21, nl_22, nl_23, nl_25, nl_27, nl_28, nl_29, nl_31, nl_33, nl_34, nl_35, nl_47, nl_51, nl_63, nl_110, nl_195, nl_240, nl_1370, nl_3710, nl_6030, nl_6690, nl_7490, nl_7610, nl_9170, nl_11570, gA_sF, gL_sF, gB_sF, gZ_sF, gO_sF, gX_sF, gF_sA, gL_sA, gB_sA, gZ_sA, gO_sA, gX_sA, gF_sL, gA_sL, gB_sL, gZ_sL, gO_sL, gX_sL, gF_sB, gA_sB, gL_sB, gZ_sB, gO_sB, gX_sB, gF_sZ, gA_sZ, gL_sZ, gB_sZ, gO_sZ, gX_sZ, gF_sO, gA_sO, gL_sO, gB_sO, gZ_sO, gX_sO, gF_sX, gA_sX, gL_sX, gB_sX, gZ_sX, gO_sX, gF_tA, gL_tA, gB_tA, gZ_tA, gO_tA, gX_tA, gF_tL, gA_tL, gB_tL, gZ_tL, gO_tL, gX_tL, gF_tB, gA_tB, gL_tB, gZ_tB, gO_tB, gX_tB, gF_tZ, gA_tZ, gL_tZ, gB_tZ, gO_tZ, gX_tZ, gF_sF, gA_sA, gL_sL, gB_sB, gZ_sZ, gO_sO, gX_sX, gA_tA, gL_tL, gB_tB, gZ_tZ, reduceIte, Nat.reduceEqDiff, Nat.zero_ne_one, Nat.one_ne_zero, Nat.succ_ne_self, forall_eq, vpT, cpyT, nI_leI, nI_ltI, nI_eq, nI_m1, oI_eqn, oI_eqm, va_up_ne', va_up_eq, eq_self_iff_true, true_or, or_true, true_implies, not_true_eq_false, not_false_eq_true, false_implies, and_true, true_and, forall_const, implies_true, ne_eq, Nat.add_sub_cancel, nI_pos, ite_self]
        rw [hmt.1, hmt.2.1, hmt.2.2]
        exact ⟨rfl, rfl⟩
      · simp (disch := omega) only [ofI1, nI_add, pk_mul, pk_sub, nI_clamp, imin_nI, imax_nI, nl_0, nl_1, nl_2, nl_3, nl_4, nl_5, nl_6, nl_7, nl_8, nl_9, nl_10, nl_11, nl_12, nl_13, nl_15, nl_16, nl_20, nl_24, nl_26, nl_30, nl_32, nl_36, nl_39, nl_40, nl_45, nl_48, nl_50, nl_57, nl_59, nl_60, nl_61, nl_62, nl_64, nl_72, nl_73, nl_80, nl_90, nl_97, nl_99, nl_100, nl_120, nl_122, nl_123, nl_127, nl_128, nl_199, nl_200, nl_255, nl_256, nl_290, nl_399, nl_400, nl_500, nl_512, nl_520, nl_600, nl_999, nl_1000, nl_2000, nl_9999, nl_10000, nl_14, nl_17, nl_18, nl_19, nl_21, nl_22, nl_23, nl_25, nl_27, nl_28, nl_29, nl_31, nl_33, nl_34, nl_35, nl_47, nl_51, nl_63, nl_110, nl_195, nl_240, nl_1370, nl_3710, nl_6030, nl_6690, nl_7490, nl_7610, nl_9170, nl_11570, gA_sF, gL_sF, gB_sF, gZ_sF, gO_sF, gX_sF, gF_sA, gL_sA, gB_sA, gZ_sA, gO_sA, gX_sA, gF_sL, gA_sL, gB_sL, gZ_sL, gO_sL, gX_sL, gF_sB, gA_sB, gL_sB, gZ_sB, gO_sB, gX_sB, gF_sZ, gA_sZ, gL_sZ, gB_sZ, gO_sZ, gX_sZ, gF_sO, gA_sO, gL_sO, gB_sO, gZ_sO, gX_sO, gF_sX, gA_sX, gL_sX, gB_sX, gZ_sX, gO_sX, gF_tA, gL_tA, gB_tA, gZ_tA, gO_tA, gX_tA, gF_tL, gA_tL, gB_tL, gZ_tL, gO_tL, gX_tL, gF_tB, gA_tB, gL_tB, gZ_tB, gO_tB, gX_tB, gF_tZ, gA_tZ, gL_tZ, gB_tZ, gO_tZ, gX_tZ, gF_sF, gA_sA, gL_sL, gB_sB, gZ_sZ, gO_sO, gX_sX, gA_tA, gL_tL, gB_tB, gZ_tZ, reduceIte, Nat.reduceEqDiff, Nat.zero_ne_one, Nat.one_ne_zero, Nat.succ_ne_self, forall_eq, vpT, cpyT, nI_leI, nI_ltI, nI_eq, nI_m1, oI_eqn, oI_eqm, va_up_ne', va_up_eq, eq_self_iff_true, true_or, or_true, true_implies, not_true_eq_false, not_false_eq_true, false_implies, and_true, true_and, forall_const, implies_true, ne_eq, Nat.add_sub_cancel, nI_pos, ite_self]
        exact ⟨q1, q2, q3⟩
    · rw [(telA_no hno).1]
      refine ⟨hl.1, hl.2.1, rfl, fun k hk => ?_⟩
      have hk' : k < A 56 0 + 1 := hk
      show _ = nI (3 * va_up (A 6) (A 56 0) p k + va_up (A 7) (A 56 0) t k) ∧ _ = nI (va_up (A 8) (A 56 0) n k) ∧ _ = nI (va_up (A 9) (A 56 0) (A 50 0) k)
      by_cases e : k = A 56 0
      · subst e
        simp (disch := omega) only [ofI1, nI_add, pk_mul, pk_sub, nI_clamp, imin_nI, imax_nI, nl_0, nl_1, nl_2, nl_3, nl_4, nl_5, nl_6, nl_7, nl_8, nl_9, nl_10, nl_11, nl_12, nl_13, nl_15, nl_16, nl_20, nl_24, nl_26, nl_30, nl_32, nl_36, nl_39, nl_40, nl_45, nl_48, nl_50, nl_57, nl_59, nl_60, nl_61, nl_62, nl_64, nl_72, nl_73, nl_80, nl_90, nl_97, nl_99, nl_100, nl_120, nl_122, nl_123, nl_127, nl_128, nl_199, nl_200, nl_255, nl_256, nl_290, nl_399, nl_400, nl_500, nl_512, nl_520, nl_600, nl_999, nl_1000, nl_2000, nl_9999, nl_10000, nl_14, nl_17, nl_18, nl_19, nl_21, nl_22, nl_23, nl_25, nl_27, nl_28, nl_29, nl_31, nl_33, nl_34, nl_35, nl_47, nl_51, nl_63, nl_110, nl_195, nl_240, nl_1370, nl_3710, nl_6030, nl_6690, nl_7490, nl_7610, nl_9170, nl_11570, gA_sF, gL_sF, gB_sF, gZ_sF, gO_sF, gX_sF, gF_sA, gL_sA, gB_sA, gZ_sA, gO_sA, gX_sA, gF_sL, gA_sL, gB_sL, gZ_sL, gO_sL, gX_sL, gF_sB, gA_sB, gL_sB, gZ_sB, gO_sB, gX_sB, gF_sZ, gA_sZ, gL_sZ, gB_sZ, gO_sZ, gX_sZ, gF_sO, gA_sO, gL_sO, gB_sO, gZ_sO, gX_sO, gF_sX, gA_sX, gL_sX, gB_sX, gZ_sX, gO_sX, gF_tA, gL_tA, gB_tA, gZ_tA, gO_tA, gX_tA, gF_tL, gA_tL, gB_tL, gZ_tL, gO_tL, gX_tL, gF_tB, gA_tB, gL_tB, gZ_tB, gO_tB, gX_tB, gF_tZ, gA_tZ, gL_tZ, gB_tZ, gO_tZ, gX_tZ, gF_sF, gA_sA, gL_sL, gB_sB, gZ_sZ, gO_sO, gX_sX, gA_tA, gL_tL, gB_tB, gZ_tZ, reduceIte, Nat.reduceEqDiff, Nat.zero_ne_one, Nat.one_ne_zero, Nat.succ_ne_self, forall_eq, vpT, cpyT, nI_leI, nI_ltI, nI_eq, nI_m1, oI_eqn, oI_eqm, va_up_ne', va_up_eq, eq_self_iff_true, true_or, or_true, true_implies, not_true_eq_false, not_false_eq_true, false_implies, and_true, true_and, forall_const, implies_true, ne_eq, Nat.add_sub_cancel, nI_pos, ite_self]
      · simp (disch := omega) only [ofI1, nI_add, pk_mul, pk_sub, nI_clamp, imin_nI, imax_nI, nl_0, nl_1, nl_2, nl_3, nl_4, nl_5, nl_6, nl_7, nl_8, nl_9, nl_10, nl_11, nl_12, nl_13, nl_15, nl_16, nl_20, nl_24, nl_26, nl_30, nl_32, nl_36, nl_39, nl_40, nl_45, nl_48, nl_50, nl_57, nl_59, nl_60, nl_61, nl_62, nl_64, nl_72, nl_73, nl_80, nl_90, nl_97, nl_99, nl_100, nl_120, nl_122, nl_123, nl_127, nl_128, nl_199, nl_200, nl_255, nl_256, nl_290, nl_399, nl_400, nl_500, nl_512, nl_520, nl_600, nl_999, nl_1000, nl_2000, nl_9999, nl_10000, nl_14, nl_17, nl_18, nl_19, nl_21, nl_22, nl_23, nl_25, nl_27, nl_28, nl_29, nl_31, nl_33, nl_34, nl_35, nl_47, nl_51, nl_63, nl_110, nl_195, nl_240, nl_1370, nl_3710, nl_6030, nl_6690, nl_7490, nl_7610, nl_9170, nl_11570, gA_sF, gL_sF, gB_sF, gZ_sF, gO_sF, gX_sF, gF_sA, gL_sA, gB_sA, gZ_sA, gO_sA, gX_sA, gF_sL, gA_sL, gB_sL, gZ_sL, gO_sL, gX_sL, gF_sB, gA_sB, gL_sB, gZ_sB, gO_sB, gX_sB, gF_sZ, gA_sZ, gL_sZ, gB_sZ, gO_sZ, gX_sZ, gF_sO, gA_sO, gL_sO, gB_sO, gZ_sO, gX_sO, gF_sX, gA_sX, gL_sX, gB_sX, gZ_sX, gO_sX, gF_tA, gL_tA, gB_tA, gZ_tA, gO_tA, gX_tA, gF_tL, gA_tL, gB_tL, gZ_tL, gO_tL, gX_tL, gF_tB, gA_tB, gL_tB, gZ_tB, gO_tB, gX_tB, gF_tZ, gA_tZ, gL_tZ, gB_tZ, gO_tZ, gX_tZ, gF_sF, gA_sA, gL_sL, gB_sB, gZ_sZ, gO_sO, gX_sX, gA_tA, gL_tL, gB_tB, gZ_tZ, reduceIte, Nat.reduceEqDiff, Nat.zero_ne_one, Nat.one_ne_zero, Nat.succ_ne_self, forall_eq, vpT, cpyT, nI_leI, nI_ltI, nI_eq, nI_m1, oI_eqn, oI_eqm, va_up_ne', va_up_eq, eq_self_iff_true, true_or, or_true, true_implies, not_true_eq_false, not_false_eq_true, false_implies, and_true, true_and, forall_const, implies_true, ne_eq, Nat.add_sub_cancel, nI_pos, ite_self]
        exact hl.2.2.2 k (by omega)
  · refine ⟨fun _ => h2 hr, fun a1 => ⟨fun _ => h2 hr, fun a2 => ⟨fun _ => h2 hr, fun a3 => ⟨fun a4 => ⟨fun _ => h2 hr, fun a5 => ⟨fun a6 => ?_, fun _ => h2 hr⟩⟩, fun _ => h2 hr⟩⟩⟩⟩
    exfalso; apply hr; omega
theorem M_pe {m : Md} {A : Nat → Nat → Nat} {c : Nat} (hw : Wf A c) (hm : MW (gA m 1) A) {x1 x2 x3 : Int32} {Q : Int32 → Md → Prop} (h2 : ¬ (0 ≤ x1.toInt ∧ x1.toInt < A 51 0 ∧ 0 ≤ x2.toInt ∧ x2.toInt < 3 ∧ 0 ≤ x3.toInt ∧ x3.toInt ≤ 2000) → Q (-2) m) (h3 : ∀ p t n : Nat, x1.toInt = p → x2.toInt = t → x3.toInt = n → p < A 51 0 → t < 3 → n ≤ 2000 → ¬ telOk A p t → Q (-3) m) (h0 : ∀ p t n : Nat, x1.toInt = p → x2.toInt = t → x3.toInt = n → p < A 51 0 → t < 3 → n ≤ 2000 → telOk A p t → ∀ m', Fr [(1, 1)] m m' → MW (gA m' 1) (telA A p t n) → Q 0 m') : qX12_people m x1 x2 x3 Q := by
  have e0 : gA m 1 0 = nI (A 50 0) := hm.1.1
  have e1 : gA m 1 1 = nI (A 51 0) := hm.1.2.1
  have e6 : gA m 1 6 = nI (A 56 0) := hm.1.2.2.2.2.2.2.1
  have b0 : A 50 0 < 400 := hw.1.1
  have b1 : A 51 0 ≤ 40 := hw.1.2.1
  have b6 : A 56 0 ≤ 200 := hw.1.2.2.2.2.2.2.1
  have hco : Wco A := hw.2.2.2.1
  have mco : Mco (gA m 1) A := hm.2.2.2.1
  unfold qX12_people
  rcases ix32 x1 (n := A 51 0) (by omega) with hb | ⟨p, hp, rfl⟩
  · exact m_isPl0 e1 b1 hb (b_0' (h2 (by omega)))
  refine m_isPl1 e1 b1 hp (b_1' ?_)
  rcases ix32 x2 (n := 3) (by omega) with hb | ⟨t, ht, rfl⟩
  · exact m_to0 hb (b_0' (h2 (by omega)))
  refine m_to1 ht (b_1' ?_)
  rcases ix32 x3 (n := 2001) (by omega) with hb | ⟨n, hn, rfl⟩
  · exact inN_bad (n := 2000) rfl hb (b_0 (h2 (by omega)))
  refine inN_ok (n := 2000) (by decide) rfl (by omega) (b_1 ?_)
  have k0 := h0 p t n (nI_toInt (by omega)) (nI_toInt (by omega)) (nI_toInt (by omega)) hp ht (by omega)
  have k3 := h3 p t n (nI_toInt (by omega)) (nI_toInt (by omega)) (nI_toInt (by omega)) hp ht (by omega)
  refine pk_loop (fun k i (s : Unit) => qX12_people_35 Q k m (nI p) (nI t) (nI n) (nI (6690 + 4 * i))) (fun i s => ∀ j, j < i → ¬ mtc A p t (A 50 0) j) (A 56 0) 0 () (by omega) (fun j hj => by omega) (fun k s hno => ?_) (fun k i s hi hno ih => ?_)
  · unfold qX12_people_35 qX12_now
    by_cases hc : A 56 0 = 200
    · simp (disch := omega) only [e6, e0, hc, Nat.le_refl, ofI1, nI_add, pk_mul, pk_sub, nI_clamp, imin_nI, imax_nI, nl_0, nl_1, nl_2, nl_3, nl_4, nl_5, nl_6, nl_7, nl_8, nl_9, nl_10, nl_11, nl_12, nl_13, nl_15, nl_16, nl_20, nl_24, nl_26, nl_30, nl_32, nl_36, nl_39, nl_40, nl_45, nl_48, nl_50, nl_57, nl_59, nl_60, nl_61, nl_62, nl_64, nl_72, nl_73, nl_80, nl_90, nl_97, nl_99, nl_100, nl_120, nl_122, nl_123, nl_127, nl_128, nl_199, nl_200, nl_255, nl_256, nl_290, nl_399, nl_400, nl_500, nl_512, nl_520, nl_600, nl_999, nl_1000, nl_2000, nl_9999, nl_10000, nl_14, nl_17, nl_18, nl_19, nl_21, nl_22, nl_23, nl_25, nl_27, nl_28, nl_29, nl_31, nl_33, nl_34, nl_35, nl_47, nl_51, nl_63, nl_110, nl_195, nl_240, nl_1370, nl_3710, nl_6030, nl_6690, nl_7490, nl_7610, nl_9170, nl_11570, gA_sF, gL_sF, gB_sF, gZ_sF, gO_sF, gX_sF, gF_sA, gL_sA, gB_sA, gZ_sA, gO_sA, gX_sA, gF_sL, gA_sL, gB_sL, gZ_sL, gO_sL, gX_sL, gF_sB, gA_sB, gL_sB, gZ_sB, gO_sB, gX_sB, gF_sZ, gA_sZ, gL_sZ, gB_sZ, gO_sZ, gX_sZ, gF_sO, gA_sO, gL_sO, gB_sO, gZ_sO, gX_sO, gF_sX, gA_sX, gL_sX, gB_sX, gZ_sX, gO_sX, gF_tA, gL_tA, gB_tA, gZ_tA, gO_tA, gX_tA, gF_tL, gA_tL, gB_tL, gZ_tL, gO_tL, gX_tL, gF_tB, gA_tB, gL_tB, gZ_tB, gO_tB, gX_tB, gF_tZ, gA_tZ, gL_tZ, gB_tZ, gO_tZ, gX_tZ, gF_sF, gA_sA, gL_sL, gB_sB, gZ_sZ, gO_sO, gX_sX, gA_tA, gL_tL, gB_tB, gZ_tZ, reduceIte, Nat.reduceEqDiff, Nat.zero_ne_one, Nat.one_ne_zero, Nat.succ_ne_self, forall_eq, vpT, cpyT, nI_leI, nI_ltI, nI_eq, nI_m1, oI_eqn, oI_eqm, va_up_ne', va_up_eq, eq_self_iff_true, true_or, or_true, true_implies, not_true_eq_false, not_false_eq_true, false_implies, and_true, true_and, forall_const, implies_true, ne_eq, Nat.add_sub_cancel, nI_pos, ite_self]
      exact k3 (fun q => by have := (telA_no (n := n) hno).2.mp q; omega)
    simp (disch := omega) only [e6, e0, hc, Nat.le_refl, ofI1, nI_add, pk_mul, pk_sub, nI_clamp, imin_nI, imax_nI, nl_0, nl_1, nl_2, nl_3, nl_4, nl_5, nl_6, nl_7, nl_8, nl_9, nl_10, nl_11, nl_12, nl_13, nl_15, nl_16, nl_20, nl_24, nl_26, nl_30, nl_32, nl_36, nl_39, nl_40, nl_45, nl_48, nl_50, nl_57, nl_59, nl_60, nl_61, nl_62, nl_64, nl_72, nl_73, nl_80, nl_90, nl_97, nl_99, nl_100, nl_120, nl_122, nl_123, nl_127, nl_128, nl_199, nl_200, nl_255, nl_256, nl_290, nl_399, nl_400, nl_500, nl_512, nl_520, nl_600, nl_999, nl_1000, nl_2000, nl_9999, nl_10000, nl_14, nl_17, nl_18, nl_19, nl_21, nl_22, nl_23, nl_25, nl_27, nl_28, nl_29, nl_31, nl_33, nl_34, nl_35, nl_47, nl_51, nl_63, nl_110, nl_195, nl_240, nl_1370, nl_3710, nl_6030, nl_6690, nl_7490, nl_7610, nl_9170, nl_11570, gA_sF, gL_sF, gB_sF, gZ_sF, gO_sF, gX_sF, gF_sA, gL_sA, gB_sA, gZ_sA, gO_sA, gX_sA, gF_sL, gA_sL, gB_sL, gZ_sL, gO_sL, gX_sL, gF_sB, gA_sB, gL_sB, gZ_sB, gO_sB, gX_sB, gF_sZ, gA_sZ, gL_sZ, gB_sZ, gO_sZ, gX_sZ, gF_sO, gA_sO, gL_sO, gB_sO, gZ_sO, gX_sO, gF_sX, gA_sX, gL_sX, gB_sX, gZ_sX, gO_sX, gF_tA, gL_tA, gB_tA, gZ_tA, gO_tA, gX_tA, gF_tL, gA_tL, gB_tL, gZ_tL, gO_tL, gX_tL, gF_tB, gA_tB, gL_tB, gZ_tB, gO_tB, gX_tB, gF_tZ, gA_tZ, gL_tZ, gB_tZ, gO_tZ, gX_tZ, gF_sF, gA_sA, gL_sL, gB_sB, gZ_sZ, gO_sO, gX_sX, gA_tA, gL_tL, gB_tB, gZ_tZ, reduceIte, Nat.reduceEqDiff, Nat.zero_ne_one, Nat.one_ne_zero, Nat.succ_ne_self, forall_eq, vpT, cpyT, nI_leI, nI_ltI, nI_eq, nI_m1, oI_eqn, oI_eqm, va_up_ne', va_up_eq, eq_self_iff_true, true_or, or_true, true_implies, not_true_eq_false, not_false_eq_true, false_implies, and_true, true_and, forall_const, implies_true, ne_eq, Nat.add_sub_cancel, nI_pos, ite_self]
    generalize hm' : tA (tA (tA (tA (tA m 1 _ _) 1 _ _) 1 _ _) 1 _ _) 1 _ _ = m'
    have hV : gA m' 1 = va_up (va_up (va_up (va_up (va_up (gA m 1) (6690 + 4 * A 56 0) (nI p)) (6690 + 4 * A 56 0 + 1) (nI t)) (6690 + 4 * A 56 0 + 2) (nI n)) (6690 + 4 * A 56 0 + 3) (nI (A 50 0))) 6 (nI (A 56 0 + 1)) := by
      rw [← hm']; simp (disch := omega) only [ofI1, nI_add, pk_mul, pk_sub, nI_clamp, imin_nI, imax_nI, nl_0, nl_1, nl_2, nl_3, nl_4, nl_5, nl_6, nl_7, nl_8, nl_9, nl_10, nl_11, nl_12, nl_13, nl_15, nl_16, nl_20, nl_24, nl_26, nl_30, nl_32, nl_36, nl_39, nl_40, nl_45, nl_48, nl_50, nl_57, nl_59, nl_60, nl_61, nl_62, nl_64, nl_72, nl_73, nl_80, nl_90, nl_97, nl_99, nl_100, nl_120, nl_122, nl_123, nl_127, nl_128, nl_199, nl_200, nl_255, nl_256, nl_290, nl_399, nl_400, nl_500, nl_512, nl_520, nl_600, nl_999, nl_1000, nl_2000, nl_9999, nl_10000, nl_14, nl_17, nl_18, nl_19, nl_21, nl_22, nl_23, nl_25, nl_27, nl_28, nl_29, nl_31, nl_33, nl_34, nl_35, nl_47, nl_51, nl_63, nl_110, nl_195, nl_240, nl_1370, nl_3710, nl_6030, nl_6690, nl_7490, nl_7610, nl_9170, nl_11570, gA_sF, gL_sF, gB_sF, gZ_sF, gO_sF, gX_sF, gF_sA, gL_sA, gB_sA, gZ_sA, gO_sA, gX_sA, gF_sL, gA_sL, gB_sL, gZ_sL, gO_sL, gX_sL, gF_sB, gA_sB, gL_sB, gZ_sB, gO_sB, gX_sB, gF_sZ, gA_sZ, gL_sZ, gB_sZ, gO_sZ, gX_sZ, gF_sO, gA_sO, gL_sO, gB_sO, gZ_sO, gX_sO, gF_sX, gA_sX, gL_sX, gB_sX, gZ_sX, gO_sX, gF_tA, gL_tA, gB_tA, gZ_tA, gO_tA, gX_tA, gF_tL, gA_tL, gB_tL, gZ_tL, gO_tL, gX_tL, gF_tB, gA_tB, gL_tB, gZ_tB, gO_tB, gX_tB, gF_tZ, gA_tZ, gL_tZ, gB_tZ, gO_tZ, gX_tZ, gF_sF, gA_sA, gL_sL, gB_sB, gZ_sZ, gO_sO, gX_sX, gA_tA, gL_tL, gB_tB, gZ_tZ, reduceIte, Nat.reduceEqDiff, Nat.zero_ne_one, Nat.one_ne_zero, Nat.succ_ne_self, forall_eq, vpT, cpyT, nI_leI, nI_ltI, nI_eq, nI_m1, oI_eqn, oI_eqm, va_up_ne', va_up_eq, eq_self_iff_true, true_or, or_true, true_implies, not_true_eq_false, not_false_eq_true, false_implies, and_true, true_and, forall_const, implies_true, ne_eq, Nat.add_sub_cancel, nI_pos, ite_self]
    have hv : ∀ k, k ≠ 6 → (k < 6690 + 4 * A 56 0 ∨ 6690 + 4 * A 56 0 + 3 < k) → gA m' 1 k = gA m 1 k := fun k q1 q2 => by rw [hV, va_up_ne' _ _ q1, va_up_ne' _ _ (by omega), va_up_ne' _ _ (by omega), va_up_ne' _ _ (by omega), va_up_ne' _ _ (by omega)]
    refine k0 ((telA_no (n := n) hno).2.mpr (by omega)) m' (by rw [← hm']; exact Fr.tr (Fr.tr (Fr.tr (Fr.tr (Fr.tA 1 _ _ (by decide)) (Fr.tA 1 _ _ (by decide))) (Fr.tA 1 _ _ (by decide))) (Fr.tA 1 _ _ (by decide))) (Fr.tA 1 _ _ (by decide))) ?_
    rw [(telA_no hno).1]
    obtain ⟨⟨k0, k1, k2, k3, k4, k5, k6, k7, k8, k9⟩, h1, h2, h3, h4, h5, h6, h7, h8, h9⟩ := id hm; obtain ⟨⟨w0, w1, w2, w3, w4, w5, w6, w7, w8, w9, wc⟩, -, -, -, wn, ws, wa, -⟩ := id hw; refine ⟨⟨(hv 0 (by omega) (by omega)).trans k0, (hv 1 (by omega) (by omega)).trans k1, (hv 2 (by omega) (by omega)).trans k2, (hv 3 (by omega) (by omega)).trans k3, (hv 4 (by omega) (by omega)).trans k4, (hv 5 (by omega) (by omega)).trans k5, by rw [hV]; rfl, (hv 7 (by omega) (by omega)).trans k7, (hv 8 (by omega) (by omega)).trans k8, (hv 9 (by omega) (by omega)).trans k9⟩, h1.w w1 (fun k _ _ => hv k (by omega) (by omega)), h2.w (by omega) (fun k _ _ => hv k (by omega) (by omega)), ?_, h4.w w2 wn (fun k _ _ => hv k (by omega) (by omega)), h5.w w3 ws (fun k _ _ => hv k (by omega) (by omega)), h6.w w4 wa (fun k _ _ => hv k (by omega) (by omega)), h7.w w5 (fun k _ _ => hv k (by omega) (by omega)), h8.w w7 (fun k _ _ => hv k (by omega) (by omega)), h9.w (by omega) (fun k _ _ => hv k (by omega) (by omega))⟩
    intro k hk
    have hk' : k < A 56 0 + 1 := hk
    show _ = nI (va_up (A 6) (A 56 0) p k) ∧ _ = nI (va_up (A 7) (A 56 0) t k) ∧ _ = nI (va_up (A 8) (A 56 0) n k) ∧ _ = nI (va_up (A 9) (A 56 0) (A 50 0) k)
    by_cases e : k = A 56 0
    · subst e; rw [hV]; simp (disch := omega) only [ofI1, nI_add, pk_mul, pk_sub, nI_clamp, imin_nI, imax_nI, nl_0, nl_1, nl_2, nl_3, nl_4, nl_5, nl_6, nl_7, nl_8, nl_9, nl_10, nl_11, nl_12, nl_13, nl_15, nl_16, nl_20, nl_24, nl_26, nl_30, nl_32, nl_36, nl_39, nl_40, nl_45, nl_48, nl_50, nl_57, nl_59, nl_60, nl_61, nl_62, nl_64, nl_72, nl_73, nl_80, nl_90, nl_97, nl_99, nl_100, nl_120, nl_122, nl_123, nl_127, nl_128, nl_199, nl_200, nl_255, nl_256, nl_290, nl_399, nl_400, nl_500, nl_512, nl_520, nl_600, nl_999, nl_1000, nl_2000, nl_9999, nl_10000, nl_14, nl_17, nl_18, nl_19, nl_21, nl_22, nl_23, nl_25, nl_27, nl_28, nl_29, nl_31, nl_33, nl_34, nl_35, nl_47, nl_51, nl_63, nl_110, nl_195, nl_240, nl_1370, nl_3710, nl_6030, nl_6690, nl_7490, nl_7610, nl_9170, nl_11570, gA_sF, gL_sF, gB_sF, gZ_sF, gO_sF, gX_sF, gF_sA, gL_sA, gB_sA, gZ_sA, gO_sA, gX_sA, gF_sL, gA_sL, gB_sL, gZ_sL, gO_sL, gX_sL, gF_sB, gA_sB, gL_sB, gZ_sB, gO_sB, gX_sB, gF_sZ, gA_sZ, gL_sZ, gB_sZ, gO_sZ, gX_sZ, gF_sO, gA_sO, gL_sO, gB_sO, gZ_sO, gX_sO, gF_sX, gA_sX, gL_sX, gB_sX, gZ_sX, gO_sX, gF_tA, gL_tA, gB_tA, gZ_tA, gO_tA, gX_tA, gF_tL, gA_tL, gB_tL, gZ_tL, gO_tL, gX_tL, gF_tB, gA_tB, gL_tB, gZ_tB, gO_tB, gX_tB, gF_tZ, gA_tZ, gL_tZ, gB_tZ, gO_tZ, gX_tZ, gF_sF, gA_sA, gL_sL, gB_sB, gZ_sZ, gO_sO, gX_sX, gA_tA, gL_tL, gB_tB, gZ_tZ, reduceIte, Nat.reduceEqDiff, Nat.zero_ne_one, Nat.one_ne_zero, Nat.succ_ne_self, forall_eq, vpT, cpyT, nI_leI, nI_ltI, nI_eq, nI_m1, oI_eqn, oI_eqm, va_up_ne', va_up_eq, eq_self_iff_true, true_or, or_true, true_implies, not_true_eq_false, not_false_eq_true, false_implies, and_true, true_and, forall_const, implies_true, ne_eq, Nat.add_sub_cancel, nI_pos, ite_self]
    · rw [hv _ (by omega) (by omega), hv _ (by omega) (by omega), hv _ (by omega) (by omega), hv _ (by omega) (by omega), va_up_ne' _ _ e, va_up_ne' _ _ e, va_up_ne' _ _ e, va_up_ne' _ _ e]
      exact h3 k (by omega)
  · obtain ⟨q1, q2, q3, q4⟩ := mco i hi
    obtain ⟨r1, r2, r3, r4⟩ := hco.1 i hi
    have z : ¬ 6690 + 4 * A 56 0 ≤ 6690 + 4 * i := by omega
    have go : ¬ mtc A p t (A 50 0) i → qX12_people_35 Q k m (nI p) (nI t) (nI n) (nI (6690 + 4 * i + 4)) := fun hne => by
      have := ih () (fun j hj => by
        by_cases e : j = i
        · rw [e]; exact hne
        · exact hno j (by omega))
      exact this
    unfold qX12_people_35 qX12_now
    by_cases c1 : A 6 i = p
    · by_cases c2 : A 7 i = t
      · by_cases c3 : A 9 i = A 50 0
        · simp (disch := omega) only [e6, e0, q1, q2, q3, q4, c1, c2, c3, z, ofI4, ofI1, nI_add, pk_mul, pk_sub, nI_clamp, imin_nI, imax_nI, nl_0, nl_1, nl_2, nl_3, nl_4, nl_5, nl_6, nl_7, nl_8, nl_9, nl_10, nl_11, nl_12, nl_13, nl_15, nl_16, nl_20, nl_24, nl_26, nl_30, nl_32, nl_36, nl_39, nl_40, nl_45, nl_48, nl_50, nl_57, nl_59, nl_60, nl_61, nl_62, nl_64, nl_72, nl_73, nl_80, nl_90, nl_97, nl_99, nl_100, nl_120, nl_122, nl_123, nl_127, nl_128, nl_199, nl_200, nl_255, nl_256, nl_290, nl_399, nl_400, nl_500, nl_512, nl_520, nl_600, nl_999, nl_1000, nl_2000, nl_9999, nl_10000, nl_14, nl_17, nl_18, nl_19, nl_21, nl_22, nl_23, nl_25, nl_27, nl_28, nl_29, nl_31, nl_33, nl_34, nl_35, nl_47, nl_51, nl_63, nl_110, nl_195, nl_240, nl_1370, nl_3710, nl_6030, nl_6690, nl_7490, nl_7610, nl_9170, nl_11570, gA_sF, gL_sF, gB_sF, gZ_sF, gO_sF, gX_sF, gF_sA, gL_sA, gB_sA, gZ_sA, gO_sA, gX_sA, gF_sL, gA_sL, gB_sL, gZ_sL, gO_sL, gX_sL, gF_sB, gA_sB, gL_sB, gZ_sB, gO_sB, gX_sB, gF_sZ, gA_sZ, gL_sZ, gB_sZ, gO_sZ, gX_sZ, gF_sO, gA_sO, gL_sO, gB_sO, gZ_sO, gX_sO, gF_sX, gA_sX, gL_sX, gB_sX, gZ_sX, gO_sX, gF_tA, gL_tA, gB_tA, gZ_tA, gO_tA, gX_tA, gF_tL, gA_tL, gB_tL, gZ_tL, gO_tL, gX_tL, gF_tB, gA_tB, gL_tB, gZ_tB, gO_tB, gX_tB, gF_tZ, gA_tZ, gL_tZ, gB_tZ, gO_tZ, gX_tZ, gF_sF, gA_sA, gL_sL, gB_sB, gZ_sZ, gO_sO, gX_sX, gA_tA, gL_tL, gB_tB, gZ_tZ, reduceIte, Nat.reduceEqDiff, Nat.zero_ne_one, Nat.one_ne_zero, Nat.succ_ne_self, forall_eq, vpT, cpyT, nI_leI, nI_ltI, nI_eq, nI_m1, oI_eqn, oI_eqm, va_up_ne', va_up_eq, eq_self_iff_true, true_or, or_true, true_implies, not_true_eq_false, not_false_eq_true, false_implies, and_true, true_and, forall_const, implies_true, ne_eq, Nat.add_sub_cancel, nI_pos, ite_self]
          generalize hm' : tA m 1 _ _ = m'
          have hV : gA m' 1 = va_up (gA m 1) (6690 + 4 * i + 2) (nI n) := by
            rw [← hm']; simp (disch := omega) only [ofI1, nI_add, pk_mul, pk_sub, nI_clamp, imin_nI, imax_nI, nl_0, nl_1, nl_2, nl_3, nl_4, nl_5, nl_6, nl_7, nl_8, nl_9, nl_10, nl_11, nl_12, nl_13, nl_15, nl_16, nl_20, nl_24, nl_26, nl_30, nl_32, nl_36, nl_39, nl_40, nl_45, nl_48, nl_50, nl_57, nl_59, nl_60, nl_61, nl_62, nl_64, nl_72, nl_73, nl_80, nl_90, nl_97, nl_99, nl_100, nl_120, nl_122, nl_123, nl_127, nl_128, nl_199, nl_200, nl_255, nl_256, nl_290, nl_399, nl_400, nl_500, nl_512, nl_520, nl_600, nl_999, nl_1000, nl_2000, nl_9999, nl_10000, nl_14, nl_17, nl_18, nl_19, nl_21, nl_22, nl_23, nl_25, nl_27, nl_28, nl_29, nl_31, nl_33, nl_34, nl_35, nl_47, nl_51, nl_63, nl_110, nl_195, nl_240, nl_1370, nl_3710, nl_6030, nl_6690, nl_7490, nl_7610, nl_9170, nl_11570, gA_sF, gL_sF, gB_sF, gZ_sF, gO_sF, gX_sF, gF_sA, gL_sA, gB_sA, gZ_sA, gO_sA, gX_sA, gF_sL, gA_sL, gB_sL, gZ_sL, gO_sL, gX_sL, gF_sB, gA_sB, gL_sB, gZ_sB, gO_sB, gX_sB, gF_sZ, gA_sZ, gL_sZ, gB_sZ, gO_sZ, gX_sZ, gF_sO, gA_sO, gL_sO, gB_sO, gZ_sO, gX_sO, gF_sX, gA_sX, gL_sX, gB_sX, gZ_sX, gO_sX, gF_tA, gL_tA, gB_tA, gZ_tA, gO_tA, gX_tA, gF_tL, gA_tL, gB_tL, gZ_tL, gO_tL, gX_tL, gF_tB, gA_tB, gL_tB, gZ_tB, gO_tB, gX_tB, gF_tZ, gA_tZ, gL_tZ, gB_tZ, gO_tZ, gX_tZ, gF_sF, gA_sA, gL_sL, gB_sB, gZ_sZ, gO_sO, gX_sX, gA_tA, gL_tL, gB_tB, gZ_tZ, reduceIte, Nat.reduceEqDiff, Nat.zero_ne_one, Nat.one_ne_zero, Nat.succ_ne_self, forall_eq, vpT, cpyT, nI_leI, nI_ltI, nI_eq, nI_m1, oI_eqn, oI_eqm, va_up_ne', va_up_eq, eq_self_iff_true, true_or, or_true, true_implies, not_true_eq_false, not_false_eq_true, false_implies, and_true, true_and, forall_const, implies_true, ne_eq, Nat.add_sub_cancel, nI_pos, ite_self]
          have hv : ∀ k, k ≠ 6690 + 4 * i + 2 → gA m' 1 k = gA m 1 k := fun k q1 => by rw [hV, va_up_ne' _ _ q1]
          have hmt : mtc A p t (A 50 0) i := ⟨c1, c2, c3⟩
          refine k0 (telA_yes (n := n) hco hi hmt).2 m' (by rw [← hm']; exact Fr.tA 1 _ _ (by decide)) ?_
          rw [(telA_yes hco hi hmt).1]
          obtain ⟨⟨k0, k1, k2, k3, k4, k5, k6, k7, k8, k9⟩, h1, h2, h3, h4, h5, h6, h7, h8, h9⟩ := id hm; obtain ⟨⟨w0, w1, w2, w3, w4, w5, w6, w7, w8, w9, wc⟩, -, -, -, wn, ws, wa, -⟩ := id hw; refine ⟨⟨(hv 0 (by omega)).trans k0, (hv 1 (by omega)).trans k1, (hv 2 (by omega)).trans k2, (hv 3 (by omega)).trans k3, (hv 4 (by omega)).trans k4, (hv 5 (by omega)).trans k5, (hv 6 (by omega)).trans k6, (hv 7 (by omega)).trans k7, (hv 8 (by omega)).trans k8, (hv 9 (by omega)).trans k9⟩, h1.w w1 (fun k _ _ => hv k (by omega)), h2.w (by omega) (fun k _ _ => hv k (by omega)), ?_, h4.w w2 wn (fun k _ _ => hv k (by omega)), h5.w w3 ws (fun k _ _ => hv k (by omega)), h6.w w4 wa (fun k _ _ => hv k (by omega)), h7.w w5 (fun k _ _ => hv k (by omega)), h8.w w7 (fun k _ _ => hv k (by omega)), h9.w (by omega) (fun k _ _ => hv k (by omega))⟩
          intro k hk
          show _ = nI (A 6 k) ∧ _ = nI (A 7 k) ∧ _ = nI (va_up (A 8) i n k) ∧ _ = nI (A 9 k)
          obtain ⟨u1, u2, u3, u4⟩ := h3 k hk
          rw [hv _ (by omega), hv _ (by omega), hv (6690 + 4 * k + 3) (by omega)]
          refine ⟨u1, u2, ?_, u4⟩
          by_cases e : k = i
          · rw [e, hV, va_up_eq, va_up_eq]
          · rw [hv _ (by omega), va_up_ne' _ _ e]; exact u3
        · simp (disch := omega) only [e6, e0, q1, q2, q3, q4, c1, c2, c3, z, ofI4, ofI1, nI_add, pk_mul, pk_sub, nI_clamp, imin_nI, imax_nI, nl_0, nl_1, nl_2, nl_3, nl_4, nl_5, nl_6, nl_7, nl_8, nl_9, nl_10, nl_11, nl_12, nl_13, nl_15, nl_16, nl_20, nl_24, nl_26, nl_30, nl_32, nl_36, nl_39, nl_40, nl_45, nl_48, nl_50, nl_57, nl_59, nl_60, nl_61, nl_62, nl_64, nl_72, nl_73, nl_80, nl_90, nl_97, nl_99, nl_100, nl_120, nl_122, nl_123, nl_127, nl_128, nl_199, nl_200, nl_255, nl_256, nl_290, nl_399, nl_400, nl_500, nl_512, nl_520, nl_600, nl_999, nl_1000, nl_2000, nl_9999, nl_10000, nl_14, nl_17, nl_18, nl_19, nl_21, nl_22, nl_23, nl_25, nl_27, nl_28, nl_29, nl_31, nl_33, nl_34, nl_35, nl_47, nl_51, nl_63, nl_110, nl_195, nl_240, nl_1370, nl_3710, nl_6030, nl_6690, nl_7490, nl_7610, nl_9170, nl_11570, gA_sF, gL_sF, gB_sF, gZ_sF, gO_sF, gX_sF, gF_sA, gL_sA, gB_sA, gZ_sA, gO_sA, gX_sA, gF_sL, gA_sL, gB_sL, gZ_sL, gO_sL, gX_sL, gF_sB, gA_sB, gL_sB, gZ_sB, gO_sB, gX_sB, gF_sZ, gA_sZ, gL_sZ, gB_sZ, gO_sZ, gX_sZ, gF_sO, gA_sO, gL_sO, gB_sO, gZ_sO, gX_sO, gF_sX, gA_sX, gL_sX, gB_sX, gZ_sX, gO_sX, gF_tA, gL_tA, gB_tA, gZ_tA, gO_tA, gX_tA, gF_tL, gA_tL, gB_tL, gZ_tL, gO_tL, gX_tL, gF_tB, gA_tB, gL_tB, gZ_tB, gO_tB, gX_tB, gF_tZ, gA_tZ, gL_tZ, gB_tZ, gO_tZ, gX_tZ, gF_sF, gA_sA, gL_sL, gB_sB, gZ_sZ, gO_sO, gX_sX, gA_tA, gL_tL, gB_tB, gZ_tZ, reduceIte, Nat.reduceEqDiff, Nat.zero_ne_one, Nat.one_ne_zero, Nat.succ_ne_self, forall_eq, vpT, cpyT, nI_leI, nI_ltI, nI_eq, nI_m1, oI_eqn, oI_eqm, va_up_ne', va_up_eq, eq_self_iff_true, true_or, or_true, true_implies, not_true_eq_false, not_false_eq_true, false_implies, and_true, true_and, forall_const, implies_true, ne_eq, Nat.add_sub_cancel, nI_pos, ite_self]
          exact go (fun h => c3 h.2.2)
      · simp (disch := omega) only [e6, e0, q1, q2, q3, q4, c1, c2, z, ofI4, ofI1, nI_add, pk_mul, pk_sub, nI_clamp, imin_nI, imax_nI, nl_0, nl_1, nl_2, nl_3, nl_4, nl_5, nl_6, nl_7, nl_8, nl_9, nl_10, nl_11, nl_12, nl_13, nl_15, nl_16, nl_20, nl_24, nl_26, nl_30, nl_32, nl_36, nl_39, nl_40, nl_45, nl_48, nl_50, nl_57, nl_59, nl_60, nl_61, nl_62, nl_64, nl_72, nl_73, nl_80, nl_90, nl_97, nl_99, nl_100, nl_120, nl_122, nl_123, nl_127, nl_128, nl_199, nl_200, nl_255, nl_256, nl_290, nl_399, nl_400, nl_500, nl_512, nl_520, nl_600, nl_999, nl_1000, nl_2000, nl_9999, nl_10000, nl_14, nl_17, nl_18, nl_19, nl_21, nl_22, nl_23, nl_25, nl_27, nl_28, nl_29, nl_31, nl_33, nl_34, nl_35, nl_47, nl_51, nl_63, nl_110, nl_195, nl_240, nl_1370, nl_3710, nl_6030, nl_6690, nl_7490, nl_7610, nl_9170, nl_11570, gA_sF, gL_sF, gB_sF, gZ_sF, gO_sF, gX_sF, gF_sA, gL_sA, gB_sA, gZ_sA, gO_sA, gX_sA, gF_sL, gA_sL, gB_sL, gZ_sL, gO_sL, gX_sL, gF_sB, gA_sB, gL_sB, gZ_sB, gO_sB, gX_sB, gF_sZ, gA_sZ, gL_sZ, gB_sZ, gO_sZ, gX_sZ, gF_sO, gA_sO, gL_sO, gB_sO, gZ_sO, gX_sO, gF_sX, gA_sX, gL_sX, gB_sX, gZ_sX, gO_sX, gF_tA, gL_tA, gB_tA, gZ_tA, gO_tA, gX_tA, gF_tL, gA_tL, gB_tL, gZ_tL, gO_tL, gX_tL, gF_tB, gA_tB, gL_tB, gZ_tB, gO_tB, gX_tB, gF_tZ, gA_tZ, gL_tZ, gB_tZ, gO_tZ, gX_tZ, gF_sF, gA_sA, gL_sL, gB_sB, gZ_sZ, gO_sO, gX_sX, gA_tA, gL_tL, gB_tB, gZ_tZ, reduceIte, Nat.reduceEqDiff, Nat.zero_ne_one, Nat.one_ne_zero, Nat.succ_ne_self, forall_eq, vpT, cpyT, nI_leI, nI_ltI, nI_eq, nI_m1, oI_eqn, oI_eqm, va_up_ne', va_up_eq, eq_self_iff_true, true_or, or_true, true_implies, not_true_eq_false, not_false_eq_true, false_implies, and_true, true_and, forall_const, implies_true, ne_eq, Nat.add_sub_cancel, nI_pos, ite_self]
        exact go (fun h => c2 h.2.1)
    · simp (disch := omega) only [e6, e0, q1, q2, q3, q4, c1, z, ofI4, ofI1, nI_add, pk_mul, pk_sub, nI_clamp, imin_nI, imax_nI, nl_0, nl_1, nl_2, nl_3, nl_4, nl_5, nl_6, nl_7, nl_8, nl_9, nl_10, nl_11, nl_12, nl_13, nl_15, nl_16, nl_20, nl_24, nl_26, nl_30, nl_32, nl_36, nl_39, nl_40, nl_45, nl_48, nl_50, nl_57, nl_59, nl_60, nl_61, nl_62, nl_64, nl_72, nl_73, nl_80, nl_90, nl_97, nl_99, nl_100, nl_120, nl_122, nl_123, nl_127, nl_128, nl_199, nl_200, nl_255, nl_256, nl_290, nl_399, nl_400, nl_500, nl_512, nl_520, nl_600, nl_999, nl_1000, nl_2000, nl_9999, nl_10000, nl_14, nl_17, nl_18, nl_19, nl_21, nl_22, nl_23, nl_25, nl_27, nl_28, nl_29, nl_31, nl_33, nl_34, nl_35, nl_47, nl_51, nl_63, nl_110, nl_195, nl_240, nl_1370, nl_3710, nl_6030, nl_6690, nl_7490, nl_7610, nl_9170, nl_11570, gA_sF, gL_sF, gB_sF, gZ_sF, gO_sF, gX_sF, gF_sA, gL_sA, gB_sA, gZ_sA, gO_sA, gX_sA, gF_sL, gA_sL, gB_sL, gZ_sL, gO_sL, gX_sL, gF_sB, gA_sB, gL_sB, gZ_sB, gO_sB, gX_sB, gF_sZ, gA_sZ, gL_sZ, gB_sZ, gO_sZ, gX_sZ, gF_sO, gA_sO, gL_sO, gB_sO, gZ_sO, gX_sO, gF_sX, gA_sX, gL_sX, gB_sX, gZ_sX, gO_sX, gF_tA, gL_tA, gB_tA, gZ_tA, gO_tA, gX_tA, gF_tL, gA_tL, gB_tL, gZ_tL, gO_tL, gX_tL, gF_tB, gA_tB, gL_tB, gZ_tB, gO_tB, gX_tB, gF_tZ, gA_tZ, gL_tZ, gB_tZ, gO_tZ, gX_tZ, gF_sF, gA_sA, gL_sL, gB_sB, gZ_sZ, gO_sO, gX_sX, gA_tA, gL_tL, gB_tB, gZ_tZ, reduceIte, Nat.reduceEqDiff, Nat.zero_ne_one, Nat.one_ne_zero, Nat.succ_ne_self, forall_eq, vpT, cpyT, nI_leI, nI_ltI, nI_eq, nI_m1, oI_eqn, oI_eqm, va_up_ne', va_up_eq, eq_self_iff_true, true_or, or_true, true_implies, not_true_eq_false, not_false_eq_true, false_implies, and_true, true_and, forall_const, implies_true, ne_eq, Nat.add_sub_cancel, nI_pos, ite_self]
      exact go (fun h => c1 h.1)
theorem sim_people {c : Nat} {nb m st la sp ac bd sg : Md} (hR : RW c m st la sp ac bd sg) {x1 x2 x3 : Int32} {Q : Int32 → Md → Md → Md → Int32 → Md → Prop} (hQ : ∀ r st' la' m', RW c m' st' la' sp ac bd sg → Fr [(1, 1)] m m' → Q r nb st' la' r m') : qX11_people nb st la x1 x2 x3 (fun r nb' st' la' => qX12_people m x1 x2 x3 (fun r' m' => Q r nb' st' la' r' m')) := by
  obtain ⟨A, hm, hw, hs, hn⟩ := id hR
  unfold qX11_people
  refine N_cp hw hs hn.1 (fun hb => ?_) (fun p t n h1 h2 h3 hp ht hn' hno => ?_) (fun p t n h1 h2 h3 hp ht hn' hok st' la' k1 k2 => ?_)
  · simp only [Int32.toInt_toInt64] at hb
    refine M_pe hw hm (fun _ => hQ _ _ _ _ hR Fr.rf) (fun p t n h1 h2 h3 hp ht hn' _ => absurd (by omega) hb) (fun p t n h1 h2 h3 hp ht hn' _ => absurd (by omega) hb)
  · simp only [Int32.toInt_toInt64] at h1 h2 h3
    refine M_pe hw hm (fun hb => absurd (by omega) hb) (fun p t n h1 h2 h3 hp ht hn' _ => hQ _ _ _ _ hR Fr.rf) (fun p' t' n' h1' h2' h3' hp ht hn' hok => ?_)
    obtain rfl : p = p' := by omega
    obtain rfl : t = t' := by omega
    exact absurd hok hno
  · simp only [Int32.toInt_toInt64] at h1 h2 h3
    refine M_pe hw hm (fun hb => absurd (by omega) hb) (fun p' t' n' h1' h2' h3' hp ht hn' hno => ?_) (fun p' t' n' h1' h2' h3' hp ht hn' hok m' fm hm' => ?_)
    · obtain rfl : p = p' := by omega
      obtain rfl : t = t' := by omega
      exact absurd hok hno
    · obtain rfl : p = p' := by omega
      obtain rfl : t = t' := by omega
      obtain rfl : n = n' := by omega
      refine hQ _ _ _ _ ⟨telA A p t n, hm', tel_Wf hw hp ht hn' hok, k1, k2, ?_⟩ fm
      rcases fndC_cases A p t with ⟨i, hi, hmt⟩ | hno
      · rw [(telA_yes hw.2.2.2.1 hi hmt).1]; exact hn.2
      · rw [(telA_no hno).1]; exact hn.2
