def eqB (f g : Nat → Nat) : Nat → Bool
  | 0 => true
  | k + 1 => eqB f g k && (f k == g k)
theorem eqB_f {f g : Nat → Nat} : ∀ k i, i < k → f i ≠ g i → eqB f g k = false := by
  intro k
  induction k with
  | zero => intro i h; omega
  | succ k ih =>
    intro i hi hne
    show (eqB f g k && (f k == g k)) = false
    by_cases e : i = k
    · subst e; rw [beq_false_of_ne hne, Bool.and_false]
    · rw [ih i (by omega) hne, Bool.false_and]
theorem eqB_t {f g : Nat → Nat} : ∀ k, (∀ i, i < k → f i = g i) → eqB f g k = true := by
  intro k
  induction k with
  | zero => intro _; rfl
  | succ k ih =>
    intro h
    show (eqB f g k && (f k == g k)) = true
    rw [ih (fun i hi => h i (by omega)), h k (by omega), beq_self_eq_true]; rfl
/-- the first of the first k of which f holds: 0 none, i + 1 -/
def fstF (f : Nat → Bool) : Nat → Nat
  | 0 => 0
  | k + 1 => if fstF f k = 0 then (if f k then k + 1 else 0) else fstF f k
theorem fstF_hit {f : Nat → Bool} {i : Nat} (h0 : fstF f i = 0) (h : f i = true) : ∀ k, i < k → fstF f k = i + 1 := by
  intro k
  induction k with
  | zero => intro h; omega
  | succ k ih =>
    intro hk
    show (if fstF f k = 0 then (if f k then k + 1 else 0) else fstF f k) = i + 1
    by_cases e : i = k
    · subst e; rw [if_pos h0, h]; rfl
    · rw [ih (by omega), if_neg (by omega)]
theorem fstF_no {f : Nat → Bool} {i : Nat} (h0 : fstF f i = 0) (h : f i = false) : fstF f (i + 1) = 0 := by
  show (if fstF f i = 0 then (if f i then i + 1 else 0) else fstF f i) = 0
  rw [if_pos h0, h]; rfl
theorem fstF_some {f : Nat → Bool} : ∀ k i, fstF f k = i + 1 → i < k ∧ f i = true := by
  intro k
  induction k with
  | zero => intro i h; exact absurd h (by unfold fstF; omega)
  | succ k ih =>
    intro i h
    have h' : (if fstF f k = 0 then (if f k then k + 1 else 0) else fstF f k) = i + 1 := h
    by_cases h0 : fstF f k = 0
    · rw [if_pos h0] at h'
      cases hf : f k with
      | true => rw [hf] at h'; obtain rfl : k = i := by simpa using h'
                exact ⟨by omega, hf⟩
      | false => rw [hf] at h'; exact absurd h' (by simp)
    · rw [if_neg h0] at h'
      have := ih i h'
      exact ⟨by omega, this.2⟩
def bitB (m e : Nat) : Bool := m / 2 ^ e % 2 == 1
def prvA (A : Nat → Nat → Nat) (n i : Nat) : Nat := if i = 0 then 123 else A 14 (12 * n + (i - 1))
def nxtA (A : Nat → Nat → Nat) (n i : Nat) : Nat := if i = A 13 n then 123 else A 14 (12 * n + i)
def fitB (A : Nat → Nat → Nat) (q n i : Nat) : Bool := decide (i + A 20 q ≤ A 13 n) && (eqB (fun j => A 14 (12 * n + (i + j))) (fun j => A 21 (3 * q + j)) (A 20 q) && (bitB (msk (A 18 q) (A 19 q)) (prvA A n i - 97) && bitB (msk (A 24 q) (A 25 q)) (nxtA A n (i + A 20 q) - 97)))
def rulA (A : Nat → Nat → Nat) (s n i : Nat) : Nat := if s = 0 then 0 else fstF (fun r => fitB A (16 * (s - 1) + r) n i) (A 17 (s - 1))
def lsF {α : Type} (f : Nat → α) : Nat → List α
  | 0 => []
  | k + 1 => lsF f k ++ [f k]
theorem lsF_len {α : Type} (f : Nat → α) : ∀ k, (lsF f k).length = k := by
  intro k
  induction k with
  | zero => rfl
  | succ k ih => show (lsF f k ++ [f k]).length = k + 1; rw [List.length_append, ih]; rfl
theorem lsF_mem {α : Type} (f : Nat → α) : ∀ k x, x ∈ lsF f k → ∃ i, i < k ∧ x = f i := by
  intro k
  induction k with
  | zero => intro x h; exact absurd h (List.not_mem_nil)
  | succ k ih =>
    intro x h
    rcases List.mem_append.mp h with h | h
    · obtain ⟨i, hi, e⟩ := ih x h; exact ⟨i, by omega, e⟩
    · exact ⟨k, by omega, List.mem_singleton.mp h⟩
def ldI (s r : Nat) : Int32 := nI (100 * s + r)
def splF (A : Nat → Nat → Nat) (s n : Nat) : Nat → Nat → List (Nat × Int32)
  | 0, _ => []
  | k + 1, i => if A 13 n ≤ i then [] else if rulA A s n i = 0 then (A 14 (12 * n + i), -3) :: splF A s n k (i + 1) else lsF (fun j => (A 23 (3 * (16 * (s - 1) + (rulA A s n i - 1)) + j), ldI (s - 1) (rulA A s n i - 1))) (A 22 (16 * (s - 1) + (rulA A s n i - 1))) ++ splF A s n k (i + A 20 (16 * (s - 1) + (rulA A s n i - 1)))
/-- a name as it is spelled by what was told up to y -/
def spl (A : Nat → Nat → Nat) (n y : Nat) : List (Nat × Int32) := splF A (spA A (A 11 n) y) n 12 0
def RowIs (u : Md) (l : List (Nat × Int32)) : Prop := gF u 0 = nI l.length ∧ ∀ j x, l[j]? = some x → (gB u 1 j).toInt32 = nI x.1 ∧ gA u 2 j = x.2
def Laid (m : Md) (l : List (Nat × Int32)) : Prop := gF m 21 = nI l.length ∧ ∀ j x, l[j]? = some x → gA m 19 j = nI x.1 ∧ gA m 20 j = x.2
theorem by128 : ∀ a : Fin 128, ((nI a.val).toInt8.toInt32.toInt8).toInt32 = nI a.val := by decide +kernel
theorem by128' {a : Nat} (h : a < 128) : ((nI a).toInt8.toInt32.toInt8).toInt32 = nI a := by128 ⟨a, h⟩
theorem app_get {l : List (Nat × Int32)} {y x : Nat × Int32} {j : Nat} (h : (l ++ [y])[j]? = some x) : (j < l.length ∧ l[j]? = some x) ∨ (j = l.length ∧ x = y) := by
  by_cases hj : j < l.length
  · rw [List.getElem?_append_left hj] at h; exact Or.inl ⟨hj, h⟩
  · rw [List.getElem?_append_right (by omega)] at h
    by_cases e : j = l.length
    · subst e; rw [Nat.sub_self] at h; exact Or.inr ⟨rfl, by simpa using h.symm⟩
    · obtain ⟨d, hd⟩ : ∃ d, j - l.length = d + 1 := ⟨j - l.length - 1, by omega⟩
      rw [hd] at h; exact absurd h (by simp)
theorem N_add {u : Md} {l : List (Nat × Int32)} {a : Nat} {v : Int32} (h : RowIs u l) (hl : l.length < 73) (ha : a < 128) {Q : Md → Prop} (hQ : ∀ u', Fr [(0, 0), (3, 1), (1, 2)] u u' → RowIs u' (l ++ [(a, v)]) → Q u') : qX5_add u (nI a) v Q := by
  obtain ⟨h1, h2⟩ := h
  have z : ¬ 73 ≤ l.length := by omega
  unfold qX5_add
  simp (disch := omega) only [h1, z, ofI1, nI_add, pk_mul, pk_sub, nI_clamp, imin_nI, imax_nI, nl_0, nl_1, nl_2, nl_3, nl_4, nl_5, nl_6, nl_7, nl_8, nl_9, nl_10, nl_11, nl_12, nl_13, nl_15, nl_16, nl_20, nl_24, nl_26, nl_30, nl_32, nl_36, nl_39, nl_40, nl_45, nl_48, nl_50, nl_57, nl_59, nl_60, nl_61, nl_62, nl_64, nl_72, nl_73, nl_80, nl_90, nl_97, nl_99, nl_100, nl_120, nl_122, nl_123, nl_127, nl_128, nl_199, nl_200, nl_255, nl_256, nl_290, nl_399, nl_400, nl_500, nl_512, nl_520, nl_600, nl_999, nl_1000, nl_2000, nl_9999, nl_10000, nl_14, nl_17, nl_18, nl_19, nl_21, nl_22, nl_23, nl_25, nl_27, nl_28, nl_29, nl_31, nl_33, nl_34, nl_35, nl_47, nl_51, nl_63, nl_110, nl_195, nl_240, nl_1370, nl_3710, nl_6030, nl_6690, nl_7490, nl_7610, nl_9170, nl_11570, gA_sF, gL_sF, gB_sF, gZ_sF, gO_sF, gX_sF, gF_sA, gL_sA, gB_sA, gZ_sA, gO_sA, gX_sA, gF_sL, gA_sL, gB_sL, gZ_sL, gO_sL, gX_sL, gF_sB, gA_sB, gL_sB, gZ_sB, gO_sB, gX_sB, gF_sZ, gA_sZ, gL_sZ, gB_sZ, gO_sZ, gX_sZ, gF_sO, gA_sO, gL_sO, gB_sO, gZ_sO, gX_sO, gF_sX, gA_sX, gL_sX, gB_sX, gZ_sX, gO_sX, gF_tA, gL_tA, gB_tA, gZ_tA, gO_tA, gX_tA, gF_tL, gA_tL, gB_tL, gZ_tL, gO_tL, gX_tL, gF_tB, gA_tB, gL_tB, gZ_tB, gO_tB, gX_tB, gF_tZ, gA_tZ, gL_tZ, gB_tZ, gO_tZ, gX_tZ, gF_sF, gA_sA, gL_sL, gB_sB, gZ_sZ, gO_sO, gX_sX, gA_tA, gL_tL, gB_tB, gZ_tZ, reduceIte, Nat.reduceEqDiff, Nat.zero_ne_one, Nat.one_ne_zero, Nat.succ_ne_self, forall_eq, vpT, cpyT, nI_leI, nI_ltI, nI_eq, nI_m1, oI_eqn, oI_eqm, va_up_ne', va_up_eq, eq_self_iff_true, true_or, or_true, true_implies, not_true_eq_false, not_false_eq_true, false_implies, and_true, true_and, forall_const, implies_true, ne_eq, Nat.add_sub_cancel, nI_pos, ite_self]
  refine hQ _ (Fr.tr (Fr.tr (Fr.tB 1 _ _ (by decide)) (Fr.tA 2 _ _ (by decide))) (Fr.sF 0 _ (by decide))) ⟨?_, fun j x hj => ?_⟩
  · simp (disch := omega) only [ofI1, nI_add, pk_mul, pk_sub, nI_clamp, imin_nI, imax_nI, nl_0, nl_1, nl_2, nl_3, nl_4, nl_5, nl_6, nl_7, nl_8, nl_9, nl_10, nl_11, nl_12, nl_13, nl_15, nl_16, nl_20, nl_24, nl_26, nl_30, nl_32, nl_36, nl_39, nl_40, nl_45, nl_48, nl_50, nl_57, nl_59, nl_60, nl_61, nl_62, nl_64, nl_72, nl_73, nl_80, nl_90, nl_97, nl_99, nl_100, nl_120, nl_122, nl_123, nl_127, nl_128, nl_199, nl_200, nl_255, nl_256, nl_290, nl_399, nl_400, nl_500, nl_512, nl_520, nl_600, nl_999, nl_1000, nl_2000, nl_9999, nl_10000, nl_14, nl_17, nl_18, nl_19, nl_21, nl_22, nl_23, nl_25, nl_27, nl_28, nl_29, nl_31, nl_33, nl_34, nl_35, nl_47, nl_51, nl_63, nl_110, nl_195, nl_240, nl_1370, nl_3710, nl_6030, nl_6690, nl_7490, nl_7610, nl_9170, nl_11570, gA_sF, gL_sF, gB_sF, gZ_sF, gO_sF, gX_sF, gF_sA, gL_sA, gB_sA, gZ_sA, gO_sA, gX_sA, gF_sL, gA_sL, gB_sL, gZ_sL, gO_sL, gX_sL, gF_sB, gA_sB, gL_sB, gZ_sB, gO_sB, gX_sB, gF_sZ, gA_sZ, gL_sZ, gB_sZ, gO_sZ, gX_sZ, gF_sO, gA_sO, gL_sO, gB_sO, gZ_sO, gX_sO, gF_sX, gA_sX, gL_sX, gB_sX, gZ_sX, gO_sX, gF_tA, gL_tA, gB_tA, gZ_tA, gO_tA, gX_tA, gF_tL, gA_tL, gB_tL, gZ_tL, gO_tL, gX_tL, gF_tB, gA_tB, gL_tB, gZ_tB, gO_tB, gX_tB, gF_tZ, gA_tZ, gL_tZ, gB_tZ, gO_tZ, gX_tZ, gF_sF, gA_sA, gL_sL, gB_sB, gZ_sZ, gO_sO, gX_sX, gA_tA, gL_tL, gB_tB, gZ_tZ, reduceIte, Nat.reduceEqDiff, Nat.zero_ne_one, Nat.one_ne_zero, Nat.succ_ne_self, forall_eq, vpT, cpyT, nI_leI, nI_ltI, nI_eq, nI_m1, oI_eqn, oI_eqm, va_up_ne', va_up_eq, eq_self_iff_true, true_or, or_true, true_implies, not_true_eq_false, not_false_eq_true, false_implies, and_true, true_and, forall_const, implies_true, ne_eq, Nat.add_sub_cancel, nI_pos, ite_self]
    rw [List.length_append]; rfl
  · rcases app_get hj with ⟨q1, q2⟩ | ⟨q1, q2⟩
    · simp (disch := omega) only [ofI1, nI_add, pk_mul, pk_sub, nI_clamp, imin_nI, imax_nI, nl_0, nl_1, nl_2, nl_3, nl_4, nl_5, nl_6, nl_7, nl_8, nl_9, nl_10, nl_11, nl_12, nl_13, nl_15, nl_16, nl_20, nl_24, nl_26, nl_30, nl_32, nl_36, nl_39, nl_40, nl_45, nl_48, nl_50, nl_57, nl_59, nl_60, nl_61, nl_62, nl_64, nl_72, nl_73, nl_80, nl_90, nl_97, nl_99, nl_100, nl_120, nl_122, nl_123, nl_127, nl_128, nl_199, nl_200, nl_255, nl_256, nl_290, nl_399, nl_400, nl_500, nl_512, nl_520, nl_600, nl_999, nl_1000, nl_2000, nl_9999, nl_10000, nl_14, nl_17, nl_18, nl_19, nl_21, nl_22, nl_23, nl_25, nl_27, nl_28, nl_29, nl_31, nl_33, nl_34, nl_35, nl_47, nl_51, nl_63, nl_110, nl_195, nl_240, nl_1370, nl_3710, nl_6030, nl_6690, nl_7490, nl_7610, nl_9170, nl_11570, gA_sF, gL_sF, gB_sF, gZ_sF, gO_sF, gX_sF, gF_sA, gL_sA, gB_sA, gZ_sA, gO_sA, gX_sA, gF_sL, gA_sL, gB_sL, gZ_sL, gO_sL, gX_sL, gF_sB, gA_sB, gL_sB, gZ_sB, gO_sB, gX_sB, gF_sZ, gA_sZ, gL_sZ, gB_sZ, gO_sZ, gX_sZ, gF_sO, gA_sO, gL_sO, gB_sO, gZ_sO, gX_sO, gF_sX, gA_sX, gL_sX, gB_sX, gZ_sX, gO_sX, gF_tA, gL_tA, gB_tA, gZ_tA, gO_tA, gX_tA, gF_tL, gA_tL, gB_tL, gZ_tL, gO_tL, gX_tL, gF_tB, gA_tB, gL_tB, gZ_tB, gO_tB, gX_tB, gF_tZ, gA_tZ, gL_tZ, gB_tZ, gO_tZ, gX_tZ, gF_sF, gA_sA, gL_sL, gB_sB, gZ_sZ, gO_sO, gX_sX, gA_tA, gL_tL, gB_tB, gZ_tZ, reduceIte, Nat.reduceEqDiff, Nat.zero_ne_one, Nat.one_ne_zero, Nat.succ_ne_self, forall_eq, vpT, cpyT, nI_leI, nI_ltI, nI_eq, nI_m1, oI_eqn, oI_eqm, va_up_ne', va_up_eq, eq_self_iff_true, true_or, or_true, true_implies, not_true_eq_false, not_false_eq_true, false_implies, and_true, true_and, forall_const, implies_true, ne_eq, Nat.add_sub_cancel, nI_pos, ite_self]; exact h2 j x q2
    · subst q1 q2
      simp (disch := omega) only [by128', ofI1, nI_add, pk_mul, pk_sub, nI_clamp, imin_nI, imax_nI, nl_0, nl_1, nl_2, nl_3, nl_4, nl_5, nl_6, nl_7, nl_8, nl_9, nl_10, nl_11, nl_12, nl_13, nl_15, nl_16, nl_20, nl_24, nl_26, nl_30, nl_32, nl_36, nl_39, nl_40, nl_45, nl_48, nl_50, nl_57, nl_59, nl_60, nl_61, nl_62, nl_64, nl_72, nl_73, nl_80, nl_90, nl_97, nl_99, nl_100, nl_120, nl_122, nl_123, nl_127, nl_128, nl_199, nl_200, nl_255, nl_256, nl_290, nl_399, nl_400, nl_500, nl_512, nl_520, nl_600, nl_999, nl_1000, nl_2000, nl_9999, nl_10000, nl_14, nl_17, nl_18, nl_19, nl_21, nl_22, nl_23, nl_25, nl_27, nl_28, nl_29, nl_31, nl_33, nl_34, nl_35, nl_47, nl_51, nl_63, nl_110, nl_195, nl_240, nl_1370, nl_3710, nl_6030, nl_6690, nl_7490, nl_7610, nl_9170, nl_11570, gA_sF, gL_sF, gB_sF, gZ_sF, gO_sF, gX_sF, gF_sA, gL_sA, gB_sA, gZ_sA, gO_sA, gX_sA, gF_sL, gA_sL, gB_sL, gZ_sL, gO_sL, gX_sL, gF_sB, gA_sB, gL_sB, gZ_sB, gO_sB, gX_sB, gF_sZ, gA_sZ, gL_sZ, gB_sZ, gO_sZ, gX_sZ, gF_sO, gA_sO, gL_sO, gB_sO, gZ_sO, gX_sO, gF_sX, gA_sX, gL_sX, gB_sX, gZ_sX, gO_sX, gF_tA, gL_tA, gB_tA, gZ_tA, gO_tA, gX_tA, gF_tL, gA_tL, gB_tL, gZ_tL, gO_tL, gX_tL, gF_tB, gA_tB, gL_tB, gZ_tB, gO_tB, gX_tB, gF_tZ, gA_tZ, gL_tZ, gB_tZ, gO_tZ, gX_tZ, gF_sF, gA_sA, gL_sL, gB_sB, gZ_sZ, gO_sO, gX_sX, gA_tA, gL_tL, gB_tB, gZ_tZ, reduceIte, Nat.reduceEqDiff, Nat.zero_ne_one, Nat.one_ne_zero, Nat.succ_ne_self, forall_eq, vpT, cpyT, nI_leI, nI_ltI, nI_eq, nI_m1, oI_eqn, oI_eqm, va_up_ne', va_up_eq, eq_self_iff_true, true_or, or_true, true_implies, not_true_eq_false, not_false_eq_true, false_implies, and_true, true_and, forall_const, implies_true, ne_eq, Nat.add_sub_cancel, nI_pos, ite_self]
theorem M_lays {u : Md} {l : List (Nat × Int32)} {a : Nat} {v : Int32} (h : Laid u l) (hl : l.length < 80) {Q : Md → Prop} (hQ : ∀ u', Fr [(0, 21), (1, 19), (1, 20)] u u' → Laid u' (l ++ [(a, v)]) → Q u') : qX12_lays u (nI a) v Q := by
  obtain ⟨h1, h2⟩ := h
  unfold qX12_lays
  simp (disch := omega) only [h1, ofI1, nI_add, pk_mul, pk_sub, nI_clamp, imin_nI, imax_nI, nl_0, nl_1, nl_2, nl_3, nl_4, nl_5, nl_6, nl_7, nl_8, nl_9, nl_10, nl_11, nl_12, nl_13, nl_15, nl_16, nl_20, nl_24, nl_26, nl_30, nl_32, nl_36, nl_39, nl_40, nl_45, nl_48, nl_50, nl_57, nl_59, nl_60, nl_61, nl_62, nl_64, nl_72, nl_73, nl_80, nl_90, nl_97, nl_99, nl_100, nl_120, nl_122, nl_123, nl_127, nl_128, nl_199, nl_200, nl_255, nl_256, nl_290, nl_399, nl_400, nl_500, nl_512, nl_520, nl_600, nl_999, nl_1000, nl_2000, nl_9999, nl_10000, nl_14, nl_17, nl_18, nl_19, nl_21, nl_22, nl_23, nl_25, nl_27, nl_28, nl_29, nl_31, nl_33, nl_34, nl_35, nl_47, nl_51, nl_63, nl_110, nl_195, nl_240, nl_1370, nl_3710, nl_6030, nl_6690, nl_7490, nl_7610, nl_9170, nl_11570, gA_sF, gL_sF, gB_sF, gZ_sF, gO_sF, gX_sF, gF_sA, gL_sA, gB_sA, gZ_sA, gO_sA, gX_sA, gF_sL, gA_sL, gB_sL, gZ_sL, gO_sL, gX_sL, gF_sB, gA_sB, gL_sB, gZ_sB, gO_sB, gX_sB, gF_sZ, gA_sZ, gL_sZ, gB_sZ, gO_sZ, gX_sZ, gF_sO, gA_sO, gL_sO, gB_sO, gZ_sO, gX_sO, gF_sX, gA_sX, gL_sX, gB_sX, gZ_sX, gO_sX, gF_tA, gL_tA, gB_tA, gZ_tA, gO_tA, gX_tA, gF_tL, gA_tL, gB_tL, gZ_tL, gO_tL, gX_tL, gF_tB, gA_tB, gL_tB, gZ_tB, gO_tB, gX_tB, gF_tZ, gA_tZ, gL_tZ, gB_tZ, gO_tZ, gX_tZ, gF_sF, gA_sA, gL_sL, gB_sB, gZ_sZ, gO_sO, gX_sX, gA_tA, gL_tL, gB_tB, gZ_tZ, reduceIte, Nat.reduceEqDiff, Nat.zero_ne_one, Nat.one_ne_zero, Nat.succ_ne_self, forall_eq, vpT, cpyT, nI_leI, nI_ltI, nI_eq, nI_m1, oI_eqn, oI_eqm, va_up_ne', va_up_eq, eq_self_iff_true, true_or, or_true, true_implies, not_true_eq_false, not_false_eq_true, false_implies, and_true, true_and, forall_const, implies_true, ne_eq, Nat.add_sub_cancel, nI_pos, ite_self]
  refine hQ _ (Fr.tr (Fr.tr (Fr.tA 19 _ _ (by decide)) (Fr.tA 20 _ _ (by decide))) (Fr.sF 21 _ (by decide))) ⟨?_, fun j x hj => ?_⟩
  · simp (disch := omega) only [ofI1, nI_add, pk_mul, pk_sub, nI_clamp, imin_nI, imax_nI, nl_0, nl_1, nl_2, nl_3, nl_4, nl_5, nl_6, nl_7, nl_8, nl_9, nl_10, nl_11, nl_12, nl_13, nl_15, nl_16, nl_20, nl_24, nl_26, nl_30, nl_32, nl_36, nl_39, nl_40, nl_45, nl_48, nl_50, nl_57, nl_59, nl_60, nl_61, nl_62, nl_64, nl_72, nl_73, nl_80, nl_90, nl_97, nl_99, nl_100, nl_120, nl_122, nl_123, nl_127, nl_128, nl_199, nl_200, nl_255, nl_256, nl_290, nl_399, nl_400, nl_500, nl_512, nl_520, nl_600, nl_999, nl_1000, nl_2000, nl_9999, nl_10000, nl_14, nl_17, nl_18, nl_19, nl_21, nl_22, nl_23, nl_25, nl_27, nl_28, nl_29, nl_31, nl_33, nl_34, nl_35, nl_47, nl_51, nl_63, nl_110, nl_195, nl_240, nl_1370, nl_3710, nl_6030, nl_6690, nl_7490, nl_7610, nl_9170, nl_11570, gA_sF, gL_sF, gB_sF, gZ_sF, gO_sF, gX_sF, gF_sA, gL_sA, gB_sA, gZ_sA, gO_sA, gX_sA, gF_sL, gA_sL, gB_sL, gZ_sL, gO_sL, gX_sL, gF_sB, gA_sB, gL_sB, gZ_sB, gO_sB, gX_sB, gF_sZ, gA_sZ, gL_sZ, gB_sZ, gO_sZ, gX_sZ, gF_sO, gA_sO, gL_sO, gB_sO, gZ_sO, gX_sO, gF_sX, gA_sX, gL_sX, gB_sX, gZ_sX, gO_sX, gF_tA, gL_tA, gB_tA, gZ_tA, gO_tA, gX_tA, gF_tL, gA_tL, gB_tL, gZ_tL, gO_tL, gX_tL, gF_tB, gA_tB, gL_tB, gZ_tB, gO_tB, gX_tB, gF_tZ, gA_tZ, gL_tZ, gB_tZ, gO_tZ, gX_tZ, gF_sF, gA_sA, gL_sL, gB_sB, gZ_sZ, gO_sO, gX_sX, gA_tA, gL_tL, gB_tB, gZ_tZ, reduceIte, Nat.reduceEqDiff, Nat.zero_ne_one, Nat.one_ne_zero, Nat.succ_ne_self, forall_eq, vpT, cpyT, nI_leI, nI_ltI, nI_eq, nI_m1, oI_eqn, oI_eqm, va_up_ne', va_up_eq, eq_self_iff_true, true_or, or_true, true_implies, not_true_eq_false, not_false_eq_true, false_implies, and_true, true_and, forall_const, implies_true, ne_eq, Nat.add_sub_cancel, nI_pos, ite_self]
    rw [List.length_append]; rfl
  · rcases app_get hj with ⟨q1, q2⟩ | ⟨q1, q2⟩
    · simp (disch := omega) only [ofI1, nI_add, pk_mul, pk_sub, nI_clamp, imin_nI, imax_nI, nl_0, nl_1, nl_2, nl_3, nl_4, nl_5, nl_6, nl_7, nl_8, nl_9, nl_10, nl_11, nl_12, nl_13, nl_15, nl_16, nl_20, nl_24, nl_26, nl_30, nl_32, nl_36, nl_39, nl_40, nl_45, nl_48, nl_50, nl_57, nl_59, nl_60, nl_61, nl_62, nl_64, nl_72, nl_73, nl_80, nl_90, nl_97, nl_99, nl_100, nl_120, nl_122, nl_123, nl_127, nl_128, nl_199, nl_200, nl_255, nl_256, nl_290, nl_399, nl_400, nl_500, nl_512, nl_520, nl_600, nl_999, nl_1000, nl_2000, nl_9999, nl_10000, nl_14, nl_17, nl_18, nl_19, nl_21, nl_22, nl_23, nl_25, nl_27, nl_28, nl_29, nl_31, nl_33, nl_34, nl_35, nl_47, nl_51, nl_63, nl_110, nl_195, nl_240, nl_1370, nl_3710, nl_6030, nl_6690, nl_7490, nl_7610, nl_9170, nl_11570, gA_sF, gL_sF, gB_sF, gZ_sF, gO_sF, gX_sF, gF_sA, gL_sA, gB_sA, gZ_sA, gO_sA, gX_sA, gF_sL, gA_sL, gB_sL, gZ_sL, gO_sL, gX_sL, gF_sB, gA_sB, gL_sB, gZ_sB, gO_sB, gX_sB, gF_sZ, gA_sZ, gL_sZ, gB_sZ, gO_sZ, gX_sZ, gF_sO, gA_sO, gL_sO, gB_sO, gZ_sO, gX_sO, gF_sX, gA_sX, gL_sX, gB_sX, gZ_sX, gO_sX, gF_tA, gL_tA, gB_tA, gZ_tA, gO_tA, gX_tA, gF_tL, gA_tL, gB_tL, gZ_tL, gO_tL, gX_tL, gF_tB, gA_tB, gL_tB, gZ_tB, gO_tB, gX_tB, gF_tZ, gA_tZ, gL_tZ, gB_tZ, gO_tZ, gX_tZ, gF_sF, gA_sA, gL_sL, gB_sB, gZ_sZ, gO_sO, gX_sX, gA_tA, gL_tL, gB_tB, gZ_tZ, reduceIte, Nat.reduceEqDiff, Nat.zero_ne_one, Nat.one_ne_zero, Nat.succ_ne_self, forall_eq, vpT, cpyT, nI_leI, nI_ltI, nI_eq, nI_m1, oI_eqn, oI_eqm, va_up_ne', va_up_eq, eq_self_iff_true, true_or, or_true, true_implies, not_true_eq_false, not_false_eq_true, false_implies, and_true, true_and, forall_const, implies_true, ne_eq, Nat.add_sub_cancel, nI_pos, ite_self]; exact h2 j x q2
    · subst q1 q2
      simp (disch := omega) only [ofI1, nI_add, pk_mul, pk_sub, nI_clamp, imin_nI, imax_nI, nl_0, nl_1, nl_2, nl_3, nl_4, nl_5, nl_6, nl_7, nl_8, nl_9, nl_10, nl_11, nl_12, nl_13, nl_15, nl_16, nl_20, nl_24, nl_26, nl_30, nl_32, nl_36, nl_39, nl_40, nl_45, nl_48, nl_50, nl_57, nl_59, nl_60, nl_61, nl_62, nl_64, nl_72, nl_73, nl_80, nl_90, nl_97, nl_99, nl_100, nl_120, nl_122, nl_123, nl_127, nl_128, nl_199, nl_200, nl_255, nl_256, nl_290, nl_399, nl_400, nl_500, nl_512, nl_520, nl_600, nl_999, nl_1000, nl_2000, nl_9999, nl_10000, nl_14, nl_17, nl_18, nl_19, nl_21, nl_22, nl_23, nl_25, nl_27, nl_28, nl_29, nl_31, nl_33, nl_34, nl_35, nl_47, nl_51, nl_63, nl_110, nl_195, nl_240, nl_1370, nl_3710, nl_6030, nl_6690, nl_7490, nl_7610, nl_9170, nl_11570, gA_sF, gL_sF, gB_sF, gZ_sF, gO_sF, gX_sF, gF_sA, gL_sA, gB_sA, gZ_sA, gO_sA, gX_sA, gF_sL, gA_sL, gB_sL, gZ_sL, gO_sL, gX_sL, gF_sB, gA_sB, gL_sB, gZ_sB, gO_sB, gX_sB, gF_sZ, gA_sZ, gL_sZ, gB_sZ, gO_sZ, gX_sZ, gF_sO, gA_sO, gL_sO, gB_sO, gZ_sO, gX_sO, gF_sX, gA_sX, gL_sX, gB_sX, gZ_sX, gO_sX, gF_tA, gL_tA, gB_tA, gZ_tA, gO_tA, gX_tA, gF_tL, gA_tL, gB_tL, gZ_tL, gO_tL, gX_tL, gF_tB, gA_tB, gL_tB, gZ_tB, gO_tB, gX_tB, gF_tZ, gA_tZ, gL_tZ, gB_tZ, gO_tZ, gX_tZ, gF_sF, gA_sA, gL_sL, gB_sB, gZ_sZ, gO_sO, gX_sX, gA_tA, gL_tL, gB_tB, gZ_tZ, reduceIte, Nat.reduceEqDiff, Nat.zero_ne_one, Nat.one_ne_zero, Nat.succ_ne_self, forall_eq, vpT, cpyT, nI_leI, nI_ltI, nI_eq, nI_m1, oI_eqn, oI_eqm, va_up_ne', va_up_eq, eq_self_iff_true, true_or, or_true, true_implies, not_true_eq_false, not_false_eq_true, false_implies, and_true, true_and, forall_const, implies_true, ne_eq, Nat.add_sub_cancel, nI_pos, ite_self]
theorem sh27 : ∀ k : Fin 27, ((nI (k.val + 97) - 97 &&& 31).toBitVec.smod 32).toNat = k.val := by decide +kernel
theorem bitI {M c : Nat} (hM : M < 2 ^ 31) (h1 : 97 ≤ c) (h2 : c ≤ 123) : ((nI M >>> ((nI c - 97) &&& 31)) &&& 1) = nI (M / 2 ^ (c - 97) % 2) := by
  have e := sh27 ⟨c - 97, by omega⟩
  have ec : c - 97 + 97 = c := by omega
  dsimp only at e
  rw [ec] at e
  rw [pk_shrN hM _ _ e]
  have : M / 2 ^ (c - 97) ≤ M := Nat.div_le_self _ _
  exact pk_andN (by omega) 1 rfl
theorem bit_c {M c : Nat} {P R : Prop} (hM : M < 2 ^ 31) (h1 : 97 ≤ c) (h2 : c ≤ 123) (f : bitB M (c - 97) = true → P) (g : bitB M (c - 97) = false → R) : (¬ ((nI M >>> ((nI c - 97) &&& 31)) &&& 1) = 1 → R) ∧ (((nI M >>> ((nI c - 97) &&& 31)) &&& 1) = 1 → P) := by
  rw [bitI hM h1 h2]
  have hm : M / 2 ^ (c - 97) % 2 < 2 := Nat.mod_lt _ (by decide)
  refine c_eq' rfl nl_1 (by omega) (by decide) (fun e => f ?_) (fun e => g ?_)
  · unfold bitB; rw [e]; rfl
  · unfold bitB; exact beq_false_of_ne e
theorem msk_lt {k m : Nat} (h : m < 2 ^ 26) : msk k m < 2 ^ 31 := by
  unfold msk; split
  · omega
  · split <;> omega
theorem bits0 : ∀ e : Fin 27, bitB (2 ^ 27 - 1) e.val = true := by decide +kernel
theorem bits1 : ∀ e : Fin 26, bitB (2 ^ 26) e.val = false := by decide +kernel
theorem msk_0 {m e : Nat} (h : e ≤ 26) : bitB (msk 0 m) e = true := bits0 ⟨e, by omega⟩
theorem msk_1 {m e : Nat} (h : e < 26) : bitB (msk 1 m) e = false := bits1 ⟨e, by omega⟩
theorem msk_1' {m : Nat} : bitB (msk 1 m) 26 = true := by show bitB (2 ^ 26) 26 = true; decide
theorem msk_2 {m e : Nat} : bitB (msk 2 m) e = bitB m e := rfl
theorem msk_2' {m : Nat} (h : m < 2 ^ 26) : bitB (msk 2 m) 26 = false := by
  rw [msk_2]; unfold bitB; rw [Nat.div_eq_of_lt h]; rfl
