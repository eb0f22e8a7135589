theorem nI_andn {S T n : Nat} (h : sbs T S) (hS : S < 2 ^ n) (hS9 : S < 512) : nI S &&& (nI T ^^^ (-1)) = nI (S - T) := by
  have hT : T < 512 := sbs_lt (w := 9) h hS9
  rw [sbs_diff h hS]
  apply Int32.toBitVec_inj.1
  show BitVec.ofNat 32 S &&& (BitVec.ofNat 32 T ^^^ BitVec.allOnes 32) = BitVec.ofNat 32 (S ^^^ T)
  apply BitVec.eq_of_getLsbD_eq
  intro i hi
  have h1 := h i
  simp only [BitVec.getLsbD_and, BitVec.getLsbD_xor, BitVec.getLsbD_ofNat, BitVec.getLsbD_allOnes, Nat.testBit_xor, hi, decide_true, Bool.true_and]
  cases e1 : S.testBit i <;> cases e2 : T.testBit i <;> simp_all
def RPv (c : Nat → Nat) (co : Nat) (mu : Nat → Nat) (y : Nat) (L1 : Nat → Nat) (S v : Nat) : Prop :=
  v ≤ L1 S ∧ (∀ T, sbs T S → T ≠ 0 → alw c co mu y T → v ≤ y * bs (fun _ => 1) T 9 + L1 (S - T)) ∧
    (v = L1 S ∨ ∃ T, sbs T S ∧ T ≠ 0 ∧ alw c co mu y T ∧ v = y * bs (fun _ => 1) T 9 + L1 (S - T))
def HLb (i n co : Nat) (c mu : Nat → Nat) (L : Nat → Nat → Nat) : Prop :=
  L 9 0 = 0 ∧ (∀ S, S < 2 ^ n → S ≠ 0 → L 9 S = 1000000) ∧ (∀ y S, i ≤ y → y < 9 → S < 2 ^ n → RPv c co mu y (L (y + 1)) S (L y S))
theorem M_leastOf {u : Md} {A : Nat → Nat → Nat} {ca n co : Nat} {sg mu : Nat → Nat} (hw : Wf A ca) (h : LD u A n sg mu) (n9 : n ≤ 9) (hs : ∀ j, j < n → sg j < A 57 0) (hm : ∀ j, j < n → mu j < 2 ^ 30) (o9 : co < 10000) {Q : Int32 → Md → Prop} (hQ : ∀ L u', Fr [(1, 31), (4, 35)] u u' → HL n co (fun j => A 41 (sg j)) mu L → L 0 (2 ^ n - 1) ≤ 1000000 → Q (nI (L 0 (2 ^ n - 1))) u') : qX12_leastOf u (nI co) Q := by
  have hp : 0 < 2 ^ n := Nat.two_pow_pos n
  have hp2 : 2 ^ n ≤ 512 := Nat.pow_le_pow_right (n := 2) (by decide) n9
  unfold qX12_leastOf
  rw [h.2.1, one_shl ⟨n, by omega⟩, nl_1, pk_sub (show 1 ≤ 2 ^ (⟨n, by omega⟩ : Fin 10).val from hp)]
  dsimp only
  refine pk_loop (fun f i v => qX12_leastOf_11 Q f v (nI co) (nI (2 ^ n - 1)) (nI i)) (fun i v => Fr [(1, 31), (4, 35)] u v ∧ ∀ S, S < i → gA v 31 (4608 + S) = nI (if S = 0 then 0 else 1000000)) (2 ^ n) 0 u (Nat.zero_le _) ⟨Fr.rf, fun S hS => by omega⟩ (fun f v hI => ?_) (fun f i v hi hI ih => ?_)
  rotate_left
  · obtain ⟨i1, i2⟩ := hI
    unfold qX12_leastOf_11
    refine c_n (nI_nlt (by omega) (by omega)) ?_
    rw [show (4608 : Int32) = nI 4608 from rfl, nI_add, ofI1, nI_add]
    refine c_eq' (b := 0) rfl rfl (by omega) (by omega) (fun e => c_in rfl (by omega) (by decide) (fun w hw => ?_)) (fun e => c_in rfl (by omega) (by decide) (fun w hw => ?_))
    · subst hw
      refine ih _ ⟨i1.tr (Fr.tA 31 _ _ (by decide)), fun S hS => ?_⟩
      have : S = 0 := by omega
      subst this
      subst e
      simp (disch := omega) only [ofI1, nI_add, pk_mul, pk_sub, nI_clamp, imin_nI, imax_nI, nl_0, nl_1, nl_2, nl_3, nl_4, nl_5, nl_6, nl_7, nl_8, nl_9, nl_10, nl_11, nl_12, nl_13, nl_15, nl_16, nl_20, nl_24, nl_26, nl_30, nl_32, nl_36, nl_39, nl_40, nl_45, nl_48, nl_50, nl_57, nl_59, nl_60, nl_61, nl_62, nl_64, nl_72, nl_73, nl_80, nl_90, nl_97, nl_99, nl_100, nl_120, nl_122, nl_123, nl_127, nl_128, nl_199, nl_200, nl_255, nl_256, nl_290, nl_399, nl_400, nl_500, nl_512, nl_520, nl_600, nl_999, nl_1000, nl_2000, nl_9999, nl_10000, nl_14, nl_17, nl_18, nl_19, nl_21, nl_22, nl_23, nl_25, nl_27, nl_28, nl_29, nl_31, nl_33, nl_34, nl_35, nl_47, nl_51, nl_63, nl_110, nl_195, nl_240, nl_1370, nl_3710, nl_6030, nl_6690, nl_7490, nl_7610, nl_9170, nl_11570, gA_sF, gL_sF, gB_sF, gZ_sF, gO_sF, gX_sF, gF_sA, gL_sA, gB_sA, gZ_sA, gO_sA, gX_sA, gF_sL, gA_sL, gB_sL, gZ_sL, gO_sL, gX_sL, gF_sB, gA_sB, gL_sB, gZ_sB, gO_sB, gX_sB, gF_sZ, gA_sZ, gL_sZ, gB_sZ, gO_sZ, gX_sZ, gF_sO, gA_sO, gL_sO, gB_sO, gZ_sO, gX_sO, gF_sX, gA_sX, gL_sX, gB_sX, gZ_sX, gO_sX, gF_tA, gL_tA, gB_tA, gZ_tA, gO_tA, gX_tA, gF_tL, gA_tL, gB_tL, gZ_tL, gO_tL, gX_tL, gF_tB, gA_tB, gL_tB, gZ_tB, gO_tB, gX_tB, gF_tZ, gA_tZ, gL_tZ, gB_tZ, gO_tZ, gX_tZ, gF_sF, gA_sA, gL_sL, gB_sB, gZ_sZ, gO_sO, gX_sX, gA_tA, gL_tL, gB_tB, gZ_tZ, reduceIte, Nat.reduceEqDiff, Nat.zero_ne_one, Nat.one_ne_zero, Nat.succ_ne_self, forall_eq, vpT, cpyT, nI_leI, nI_ltI, nI_eq, nI_m1, oI_eqn, oI_eqm, va_up_ne', va_up_eq, eq_self_iff_true, true_or, or_true, true_implies, not_true_eq_false, not_false_eq_true, false_implies, and_true, true_and, forall_const, implies_true, ne_eq, Nat.add_sub_cancel, nI_pos, ite_self]
    · subst hw
      refine ih _ ⟨i1.tr (Fr.tA 31 _ _ (by decide)), fun S hS => ?_⟩
      by_cases e2 : S = i
      · subst e2
        rw [if_neg e]
        simp (disch := omega) only [ofI1, nI_add, pk_mul, pk_sub, nI_clamp, imin_nI, imax_nI, nl_0, nl_1, nl_2, nl_3, nl_4, nl_5, nl_6, nl_7, nl_8, nl_9, nl_10, nl_11, nl_12, nl_13, nl_15, nl_16, nl_20, nl_24, nl_26, nl_30, nl_32, nl_36, nl_39, nl_40, nl_45, nl_48, nl_50, nl_57, nl_59, nl_60, nl_61, nl_62, nl_64, nl_72, nl_73, nl_80, nl_90, nl_97, nl_99, nl_100, nl_120, nl_122, nl_123, nl_127, nl_128, nl_199, nl_200, nl_255, nl_256, nl_290, nl_399, nl_400, nl_500, nl_512, nl_520, nl_600, nl_999, nl_1000, nl_2000, nl_9999, nl_10000, nl_14, nl_17, nl_18, nl_19, nl_21, nl_22, nl_23, nl_25, nl_27, nl_28, nl_29, nl_31, nl_33, nl_34, nl_35, nl_47, nl_51, nl_63, nl_110, nl_195, nl_240, nl_1370, nl_3710, nl_6030, nl_6690, nl_7490, nl_7610, nl_9170, nl_11570, gA_sF, gL_sF, gB_sF, gZ_sF, gO_sF, gX_sF, gF_sA, gL_sA, gB_sA, gZ_sA, gO_sA, gX_sA, gF_sL, gA_sL, gB_sL, gZ_sL, gO_sL, gX_sL, gF_sB, gA_sB, gL_sB, gZ_sB, gO_sB, gX_sB, gF_sZ, gA_sZ, gL_sZ, gB_sZ, gO_sZ, gX_sZ, gF_sO, gA_sO, gL_sO, gB_sO, gZ_sO, gX_sO, gF_sX, gA_sX, gL_sX, gB_sX, gZ_sX, gO_sX, gF_tA, gL_tA, gB_tA, gZ_tA, gO_tA, gX_tA, gF_tL, gA_tL, gB_tL, gZ_tL, gO_tL, gX_tL, gF_tB, gA_tB, gL_tB, gZ_tB, gO_tB, gX_tB, gF_tZ, gA_tZ, gL_tZ, gB_tZ, gO_tZ, gX_tZ, gF_sF, gA_sA, gL_sL, gB_sB, gZ_sZ, gO_sO, gX_sX, gA_tA, gL_tL, gB_tB, gZ_tZ, reduceIte, Nat.reduceEqDiff, Nat.zero_ne_one, Nat.one_ne_zero, Nat.succ_ne_self, forall_eq, vpT, cpyT, nI_leI, nI_ltI, nI_eq, nI_m1, oI_eqn, oI_eqm, va_up_ne', va_up_eq, eq_self_iff_true, true_or, or_true, true_implies, not_true_eq_false, not_false_eq_true, false_implies, and_true, true_and, forall_const, implies_true, ne_eq, Nat.add_sub_cancel, nI_pos, ite_self]
        rfl
      · have := i2 S (by omega)
        simp (disch := omega) only [this, ofI1, nI_add, pk_mul, pk_sub, nI_clamp, imin_nI, imax_nI, nl_0, nl_1, nl_2, nl_3, nl_4, nl_5, nl_6, nl_7, nl_8, nl_9, nl_10, nl_11, nl_12, nl_13, nl_15, nl_16, nl_20, nl_24, nl_26, nl_30, nl_32, nl_36, nl_39, nl_40, nl_45, nl_48, nl_50, nl_57, nl_59, nl_60, nl_61, nl_62, nl_64, nl_72, nl_73, nl_80, nl_90, nl_97, nl_99, nl_100, nl_120, nl_122, nl_123, nl_127, nl_128, nl_199, nl_200, nl_255, nl_256, nl_290, nl_399, nl_400, nl_500, nl_512, nl_520, nl_600, nl_999, nl_1000, nl_2000, nl_9999, nl_10000, nl_14, nl_17, nl_18, nl_19, nl_21, nl_22, nl_23, nl_25, nl_27, nl_28, nl_29, nl_31, nl_33, nl_34, nl_35, nl_47, nl_51, nl_63, nl_110, nl_195, nl_240, nl_1370, nl_3710, nl_6030, nl_6690, nl_7490, nl_7610, nl_9170, nl_11570, gA_sF, gL_sF, gB_sF, gZ_sF, gO_sF, gX_sF, gF_sA, gL_sA, gB_sA, gZ_sA, gO_sA, gX_sA, gF_sL, gA_sL, gB_sL, gZ_sL, gO_sL, gX_sL, gF_sB, gA_sB, gL_sB, gZ_sB, gO_sB, gX_sB, gF_sZ, gA_sZ, gL_sZ, gB_sZ, gO_sZ, gX_sZ, gF_sO, gA_sO, gL_sO, gB_sO, gZ_sO, gX_sO, gF_sX, gA_sX, gL_sX, gB_sX, gZ_sX, gO_sX, gF_tA, gL_tA, gB_tA, gZ_tA, gO_tA, gX_tA, gF_tL, gA_tL, gB_tL, gZ_tL, gO_tL, gX_tL, gF_tB, gA_tB, gL_tB, gZ_tB, gO_tB, gX_tB, gF_tZ, gA_tZ, gL_tZ, gB_tZ, gO_tZ, gX_tZ, gF_sF, gA_sA, gL_sL, gB_sB, gZ_sZ, gO_sO, gX_sX, gA_tA, gL_tL, gB_tB, gZ_tZ, reduceIte, Nat.reduceEqDiff, Nat.zero_ne_one, Nat.one_ne_zero, Nat.succ_ne_self, forall_eq, vpT, cpyT, nI_leI, nI_ltI, nI_eq, nI_m1, oI_eqn, oI_eqm, va_up_ne', va_up_eq, eq_self_iff_true, true_or, or_true, true_implies, not_true_eq_false, not_false_eq_true, false_implies, and_true, true_and, forall_const, implies_true, ne_eq, Nat.add_sub_cancel, nI_pos, ite_self]
  obtain ⟨i1, i2⟩ := hI
  unfold qX12_leastOf_11
  refine c_y (nI_lt (by omega) (by omega)) ⟨10, ?_⟩
  have e8 : (8 : Int32) = oI 9 := by decide
  rw [e8]
  refine pk_loopD (fun f i v => qX12_leastOf_46 Q f v (nI co) (nI (2 ^ n - 1)) (oI i)) (fun i v => i ≤ 9 ∧ Fr [(1, 31), (4, 35)] u v ∧ ∃ L : Nat → Nat → Nat, HLb i n co (fun j => A 41 (sg j)) mu L ∧ ∀ z S, i ≤ z → z ≤ 9 → S < 2 ^ n → gA v 31 (512 * z + S) = nI (L z S) ∧ L z S ≤ 1000000) (fun f v hI => ?_) (fun f i v hI ih => ?_) 9 v ⟨Nat.le_refl _, i1, fun _ S => if S = 0 then 0 else 1000000, ⟨rfl, fun S _ hS => if_neg hS, fun y S h1 h2 => by omega⟩, fun z S h1 h2 hS => ?_⟩
  rotate_right
  · have : z = 9 := by omega
    subst this
    refine ⟨i2 S hS, ?_⟩
    dsimp only
    split <;> omega
  · obtain ⟨-, j1, L, j2, j3⟩ := hI
    have hF := j3 0 (2 ^ n - 1) (Nat.le_refl _) (by omega) (by omega)
    rw [Nat.mul_zero, Nat.zero_add] at hF
    unfold qX12_leastOf_46
    rw [nI_clamp (by omega), hF.1]
    refine c_y (by decide) (c_in rfl (by omega) (by decide) (hQ L v j1 ⟨j2.1, j2.2.1, fun y S hy hS => j2.2.2 y S (Nat.zero_le _) hy hS⟩ hF.2))
  obtain ⟨j0, j1, L, j2, j3⟩ := hI
  unfold qX12_leastOf_46
  rw [oI_s]
  refine c_n (nI_pos (by omega)) ?_
  refine pk_loop (fun f2 T w => qX12_leastOf_53 Q (qX12_leastOf_46 Q f) f2 w (nI co) (nI (2 ^ n - 1)) (nI i) (nI T)) (fun T w => Fr [(1, 31), (4, 35)] u w ∧ gA w 31 = gA v 31 ∧ ∀ S, S < T → (gZ w 35 S = true ↔ alw (fun j => A 41 (sg j)) co mu i S)) (2 ^ n) 0 v (Nat.zero_le _) ⟨j1, rfl, fun S hS => by omega⟩ (fun f2 w hI => ?_) (fun f2 T w hT hI ih2 => ?_)
  rotate_left
  · obtain ⟨k1, k2, k3⟩ := hI
    unfold qX12_leastOf_53
    have st : ∀ b : Bool, (b = true ↔ alw (fun j => A 41 (sg j)) co mu i T) → qX12_leastOf_53 Q (qX12_leastOf_46 Q f) f2 (tZ w 35 (nI T) (bI b)) (nI co) (nI (2 ^ n - 1)) (nI i) (nI T + Int32.ofInt 1) := fun b hb => by
      rw [ofI1, nI_add]
      refine ih2 _ ⟨k1.tr (Fr.tZ 35 _ _ (by decide)), k2, fun S hS => ?_⟩
      by_cases e : S = T
      · subst e
        simp (disch := omega) only [ofI1, nI_add, pk_mul, pk_sub, nI_clamp, imin_nI, imax_nI, nl_0, nl_1, nl_2, nl_3, nl_4, nl_5, nl_6, nl_7, nl_8, nl_9, nl_10, nl_11, nl_12, nl_13, nl_15, nl_16, nl_20, nl_24, nl_26, nl_30, nl_32, nl_36, nl_39, nl_40, nl_45, nl_48, nl_50, nl_57, nl_59, nl_60, nl_61, nl_62, nl_64, nl_72, nl_73, nl_80, nl_90, nl_97, nl_99, nl_100, nl_120, nl_122, nl_123, nl_127, nl_128, nl_199, nl_200, nl_255, nl_256, nl_290, nl_399, nl_400, nl_500, nl_512, nl_520, nl_600, nl_999, nl_1000, nl_2000, nl_9999, nl_10000, nl_14, nl_17, nl_18, nl_19, nl_21, nl_22, nl_23, nl_25, nl_27, nl_28, nl_29, nl_31, nl_33, nl_34, nl_35, nl_47, nl_51, nl_63, nl_110, nl_195, nl_240, nl_1370, nl_3710, nl_6030, nl_6690, nl_7490, nl_7610, nl_9170, nl_11570, gA_sF, gL_sF, gB_sF, gZ_sF, gO_sF, gX_sF, gF_sA, gL_sA, gB_sA, gZ_sA, gO_sA, gX_sA, gF_sL, gA_sL, gB_sL, gZ_sL, gO_sL, gX_sL, gF_sB, gA_sB, gL_sB, gZ_sB, gO_sB, gX_sB, gF_sZ, gA_sZ, gL_sZ, gB_sZ, gO_sZ, gX_sZ, gF_sO, gA_sO, gL_sO, gB_sO, gZ_sO, gX_sO, gF_sX, gA_sX, gL_sX, gB_sX, gZ_sX, gO_sX, gF_tA, gL_tA, gB_tA, gZ_tA, gO_tA, gX_tA, gF_tL, gA_tL, gB_tL, gZ_tL, gO_tL, gX_tL, gF_tB, gA_tB, gL_tB, gZ_tB, gO_tB, gX_tB, gF_tZ, gA_tZ, gL_tZ, gB_tZ, gO_tZ, gX_tZ, gF_sF, gA_sA, gL_sL, gB_sB, gZ_sZ, gO_sO, gX_sX, gA_tA, gL_tL, gB_tB, gZ_tZ, reduceIte, Nat.reduceEqDiff, Nat.zero_ne_one, Nat.one_ne_zero, Nat.succ_ne_self, forall_eq, vpT, cpyT, nI_leI, nI_ltI, nI_eq, nI_m1, oI_eqn, oI_eqm, va_up_ne', va_up_eq, eq_self_iff_true, true_or, or_true, true_implies, not_true_eq_false, not_false_eq_true, false_implies, and_true, true_and, forall_const, implies_true, ne_eq, Nat.add_sub_cancel, nI_pos, ite_self]
        rw [← hb]
        cases b <;> decide
      · have := k3 S (by omega)
        simp (disch := omega) only [ofI1, nI_add, pk_mul, pk_sub, nI_clamp, imin_nI, imax_nI, nl_0, nl_1, nl_2, nl_3, nl_4, nl_5, nl_6, nl_7, nl_8, nl_9, nl_10, nl_11, nl_12, nl_13, nl_15, nl_16, nl_20, nl_24, nl_26, nl_30, nl_32, nl_36, nl_39, nl_40, nl_45, nl_48, nl_50, nl_57, nl_59, nl_60, nl_61, nl_62, nl_64, nl_72, nl_73, nl_80, nl_90, nl_97, nl_99, nl_100, nl_120, nl_122, nl_123, nl_127, nl_128, nl_199, nl_200, nl_255, nl_256, nl_290, nl_399, nl_400, nl_500, nl_512, nl_520, nl_600, nl_999, nl_1000, nl_2000, nl_9999, nl_10000, nl_14, nl_17, nl_18, nl_19, nl_21, nl_22, nl_23, nl_25, nl_27, nl_28, nl_29, nl_31, nl_33, nl_34, nl_35, nl_47, nl_51, nl_63, nl_110, nl_195, nl_240, nl_1370, nl_3710, nl_6030, nl_6690, nl_7490, nl_7610, nl_9170, nl_11570, gA_sF, gL_sF, gB_sF, gZ_sF, gO_sF, gX_sF, gF_sA, gL_sA, gB_sA, gZ_sA, gO_sA, gX_sA, gF_sL, gA_sL, gB_sL, gZ_sL, gO_sL, gX_sL, gF_sB, gA_sB, gL_sB, gZ_sB, gO_sB, gX_sB, gF_sZ, gA_sZ, gL_sZ, gB_sZ, gO_sZ, gX_sZ, gF_sO, gA_sO, gL_sO, gB_sO, gZ_sO, gX_sO, gF_sX, gA_sX, gL_sX, gB_sX, gZ_sX, gO_sX, gF_tA, gL_tA, gB_tA, gZ_tA, gO_tA, gX_tA, gF_tL, gA_tL, gB_tL, gZ_tL, gO_tL, gX_tL, gF_tB, gA_tB, gL_tB, gZ_tB, gO_tB, gX_tB, gF_tZ, gA_tZ, gL_tZ, gB_tZ, gO_tZ, gX_tZ, gF_sF, gA_sA, gL_sL, gB_sB, gZ_sZ, gO_sO, gX_sX, gA_tA, gL_tL, gB_tB, gZ_tZ, reduceIte, Nat.reduceEqDiff, Nat.zero_ne_one, Nat.one_ne_zero, Nat.succ_ne_self, forall_eq, vpT, cpyT, nI_leI, nI_ltI, nI_eq, nI_m1, oI_eqn, oI_eqm, va_up_ne', va_up_eq, eq_self_iff_true, true_or, or_true, true_implies, not_true_eq_false, not_false_eq_true, false_implies, and_true, true_and, forall_const, implies_true, ne_eq, Nat.add_sub_cancel, nI_pos, ite_self]
        exact this
    refine c_n (nI_nlt (by omega) (by omega)) (M_mayBe hw (h.fr k1 (by decide) (by decide) (by decide) (by decide)) n9 hs hm hT (by omega) o9 (fun ha => ?_) (fun ha => ?_))
    · exact fun _ => c_in rfl (by omega) (by decide) (fun w' hw' => by subst hw'; exact st true ⟨fun _ => ha, fun _ => rfl⟩)
    · exact fun _ => c_in rfl (by omega) (by decide) (fun w' hw' => by subst hw'; exact st false ⟨fun z => absurd z (by decide), fun z => absurd z ha⟩)
  obtain ⟨k1, k2, k3⟩ := hI
  unfold qX12_leastOf_53
  refine c_y (nI_lt (by omega) (by omega)) ?_
  have hz : ∀ z S, i + 1 ≤ z → z ≤ 9 → S < 2 ^ n → gA w 31 (512 * z + S) = nI (L z S) ∧ L z S ≤ 1000000 := fun z S h1 h2 h3 => by rw [k2]; exact j3 z S h1 h2 h3
  refine pk_loop (fun f3 S x => qX12_leastOf_83 Q (qX12_leastOf_46 Q f) f3 x (nI co) (nI (2 ^ n - 1)) (nI i) (nI S)) (fun S x => Fr [(1, 31), (4, 35)] u x ∧ gZ x 35 = gZ w 35 ∧ (∀ z S, i + 1 ≤ z → z ≤ 9 → S < 2 ^ n → gA x 31 (512 * z + S) = nI (L z S)) ∧ ∃ r : Nat → Nat, ∀ R, R < S → gA x 31 (512 * i + R) = nI (r R) ∧ RPv (fun j => A 41 (sg j)) co mu i (L (i + 1)) R (r R)) (2 ^ n) 0 w (Nat.zero_le _) ⟨k1, rfl, fun z S h1 h2 h3 => (hz z S h1 h2 h3).1, fun _ => 0, fun R hR => by omega⟩ (fun f3 x hI => ?_) (fun f3 S x hS hI ih3 => ?_)
  · obtain ⟨l1, l2, l3, r, l4⟩ := hI
    unfold qX12_leastOf_83
    refine c_y (nI_lt (by omega) (by omega)) ?_
    rw [oI_dec]
    have vn : ∀ z, z ≠ i → va_up L i r z = L z := fun z hz => va_up_ne' L r hz
    refine ih x ⟨by omega, l1, va_up L i r, ⟨?_, fun S hS s0 => ?_, fun y S h1 h2 h3 => ?_⟩, fun z S h1 h2 h3 => ?_⟩
    · rw [vn 9 (by omega)]; exact j2.1
    · rw [vn 9 (by omega)]; exact j2.2.1 S hS s0
    · by_cases e : y = i
      · subst e
        rw [va_up_eq, vn _ (by omega)]
        exact (l4 S h3).2
      · rw [vn _ e, vn _ (by omega)]
        exact j2.2.2 y S (by omega) h2 h3
    · by_cases e : z = i
      · subst e
        rw [va_up_eq]
        have q := l4 S h3
        have q2 := (hz (z + 1) S (Nat.le_refl _) (by omega) h3).2
        exact ⟨q.1, Nat.le_trans q.2.1 q2⟩
      · rw [vn _ e]
        exact ⟨l3 z S (by omega) h2 h3, (hz z S (by omega) h2 h3).2⟩
  · obtain ⟨l1, l2, l3, r, l4⟩ := hI
    have z1 := l3 (i + 1) S (Nat.le_refl _) (by omega) hS
    have bS := (hz (i + 1) S (Nat.le_refl _) (by omega) hS).2
    unfold qX12_leastOf_83
    refine c_n (nI_nlt (by omega) (by omega)) ?_
    rw [nl_1, nI_add, nl_512, pk_mul, nI_add, nI_clamp (by omega), z1]
    refine c_in rfl (by omega) (by decide) ?_
    refine lp2 (fun f4 (q cur : Nat) => qX12_leastOf_110 Q (qX12_leastOf_46 Q f) (qX12_leastOf_83 Q (qX12_leastOf_46 Q f) f3) f4 x (nI co) (nI (2 ^ n - 1)) (nI i) (nI S) (nI q) (nI cur)) (fun q cur => sbs cur S ∧ q ≤ L (i + 1) S ∧ (∀ T, sbs T S → T ≠ 0 → cur < T → alw (fun j => A 41 (sg j)) co mu i T → q ≤ i * bs (fun _ => 1) T 9 + L (i + 1) (S - T)) ∧ (q = L (i + 1) S ∨ ∃ T, sbs T S ∧ T ≠ 0 ∧ alw (fun j => A 41 (sg j)) co mu i T ∧ q = i * bs (fun _ => 1) T 9 + L (i + 1) (S - T))) (fun _ cur => cur) (fun f4 q cur hI ih4 => ?_) (L (i + 1) S) S ⟨sbs_rf S, Nat.le_refl _, fun T hT _ hl => absurd (sbs_le hT hS) (by omega), Or.inl rfl⟩
    obtain ⟨m1, m2, m3, m4⟩ := hI
    have hcur := sbs_le m1 hS
    unfold qX12_leastOf_110
    refine c_le (b := 0) rfl rfl (by omega) (by omega) (fun hz0 => ?_) (fun hz0 => c_in rfl (by omega) (by decide) ?_)
    · rw [nl_512, pk_mul, nI_add]
      refine c_in rfl (by omega) (by decide) (fun x' hx => ?_)
      subst hx
      rw [ofI1, nI_add]
      have vn : ∀ R, R ≠ S → va_up r S q R = r R := fun R hR => va_up_ne' r q hR
      refine ih3 _ ⟨l1.tr (Fr.tA 31 _ _ (by decide)), l2, fun z R h1 h2 h3 => ?_, va_up r S q, fun R hR => ?_⟩
      · have := l3 z R h1 h2 h3
        simp (disch := omega) only [this, ofI1, nI_add, pk_mul, pk_sub, nI_clamp, imin_nI, imax_nI, nl_0, nl_1, nl_2, nl_3, nl_4, nl_5, nl_6, nl_7, nl_8, nl_9, nl_10, nl_11, nl_12, nl_13, nl_15, nl_16, nl_20, nl_24, nl_26, nl_30, nl_32, nl_36, nl_39, nl_40, nl_45, nl_48, nl_50, nl_57, nl_59, nl_60, nl_61, nl_62, nl_64, nl_72, nl_73, nl_80, nl_90, nl_97, nl_99, nl_100, nl_120, nl_122, nl_123, nl_127, nl_128, nl_199, nl_200, nl_255, nl_256, nl_290, nl_399, nl_400, nl_500, nl_512, nl_520, nl_600, nl_999, nl_1000, nl_2000, nl_9999, nl_10000, nl_14, nl_17, nl_18, nl_19, nl_21, nl_22, nl_23, nl_25, nl_27, nl_28, nl_29, nl_31, nl_33, nl_34, nl_35, nl_47, nl_51, nl_63, nl_110, nl_195, nl_240, nl_1370, nl_3710, nl_6030, nl_6690, nl_7490, nl_7610, nl_9170, nl_11570, gA_sF, gL_sF, gB_sF, gZ_sF, gO_sF, gX_sF, gF_sA, gL_sA, gB_sA, gZ_sA, gO_sA, gX_sA, gF_sL, gA_sL, gB_sL, gZ_sL, gO_sL, gX_sL, gF_sB, gA_sB, gL_sB, gZ_sB, gO_sB, gX_sB, gF_sZ, gA_sZ, gL_sZ, gB_sZ, gO_sZ, gX_sZ, gF_sO, gA_sO, gL_sO, gB_sO, gZ_sO, gX_sO, gF_sX, gA_sX, gL_sX, gB_sX, gZ_sX, gO_sX, gF_tA, gL_tA, gB_tA, gZ_tA, gO_tA, gX_tA, gF_tL, gA_tL, gB_tL, gZ_tL, gO_tL, gX_tL, gF_tB, gA_tB, gL_tB, gZ_tB, gO_tB, gX_tB, gF_tZ, gA_tZ, gL_tZ, gB_tZ, gO_tZ, gX_tZ, gF_sF, gA_sA, gL_sL, gB_sB, gZ_sZ, gO_sO, gX_sX, gA_tA, gL_tL, gB_tB, gZ_tZ, reduceIte, Nat.reduceEqDiff, Nat.zero_ne_one, Nat.one_ne_zero, Nat.succ_ne_self, forall_eq, vpT, cpyT, nI_leI, nI_ltI, nI_eq, nI_m1, oI_eqn, oI_eqm, va_up_ne', va_up_eq, eq_self_iff_true, true_or, or_true, true_implies, not_true_eq_false, not_false_eq_true, false_implies, and_true, true_and, forall_const, implies_true, ne_eq, Nat.add_sub_cancel, nI_pos, ite_self]
      · by_cases e : R = S
        · subst e
          rw [va_up_eq]
          refine ⟨?_, m2, fun T hT t0 ha => m3 T hT t0 (by omega) ha, m4⟩
          simp (disch := omega) only [ofI1, nI_add, pk_mul, pk_sub, nI_clamp, imin_nI, imax_nI, nl_0, nl_1, nl_2, nl_3, nl_4, nl_5, nl_6, nl_7, nl_8, nl_9, nl_10, nl_11, nl_12, nl_13, nl_15, nl_16, nl_20, nl_24, nl_26, nl_30, nl_32, nl_36, nl_39, nl_40, nl_45, nl_48, nl_50, nl_57, nl_59, nl_60, nl_61, nl_62, nl_64, nl_72, nl_73, nl_80, nl_90, nl_97, nl_99, nl_100, nl_120, nl_122, nl_123, nl_127, nl_128, nl_199, nl_200, nl_255, nl_256, nl_290, nl_399, nl_400, nl_500, nl_512, nl_520, nl_600, nl_999, nl_1000, nl_2000, nl_9999, nl_10000, nl_14, nl_17, nl_18, nl_19, nl_21, nl_22, nl_23, nl_25, nl_27, nl_28, nl_29, nl_31, nl_33, nl_34, nl_35, nl_47, nl_51, nl_63, nl_110, nl_195, nl_240, nl_1370, nl_3710, nl_6030, nl_6690, nl_7490, nl_7610, nl_9170, nl_11570, gA_sF, gL_sF, gB_sF, gZ_sF, gO_sF, gX_sF, gF_sA, gL_sA, gB_sA, gZ_sA, gO_sA, gX_sA, gF_sL, gA_sL, gB_sL, gZ_sL, gO_sL, gX_sL, gF_sB, gA_sB, gL_sB, gZ_sB, gO_sB, gX_sB, gF_sZ, gA_sZ, gL_sZ, gB_sZ, gO_sZ, gX_sZ, gF_sO, gA_sO, gL_sO, gB_sO, gZ_sO, gX_sO, gF_sX, gA_sX, gL_sX, gB_sX, gZ_sX, gO_sX, gF_tA, gL_tA, gB_tA, gZ_tA, gO_tA, gX_tA, gF_tL, gA_tL, gB_tL, gZ_tL, gO_tL, gX_tL, gF_tB, gA_tB, gL_tB, gZ_tB, gO_tB, gX_tB, gF_tZ, gA_tZ, gL_tZ, gB_tZ, gO_tZ, gX_tZ, gF_sF, gA_sA, gL_sL, gB_sB, gZ_sZ, gO_sO, gX_sX, gA_tA, gL_tL, gB_tB, gZ_tZ, reduceIte, Nat.reduceEqDiff, Nat.zero_ne_one, Nat.one_ne_zero, Nat.succ_ne_self, forall_eq, vpT, cpyT, nI_leI, nI_ltI, nI_eq, nI_m1, oI_eqn, oI_eqm, va_up_ne', va_up_eq, eq_self_iff_true, true_or, or_true, true_implies, not_true_eq_false, not_false_eq_true, false_implies, and_true, true_and, forall_const, implies_true, ne_eq, Nat.add_sub_cancel, nI_pos, ite_self]
        · rw [vn R e]
          have := l4 R (by omega)
          refine ⟨?_, this.2⟩
          simp (disch := omega) only [this.1, ofI1, nI_add, pk_mul, pk_sub, nI_clamp, imin_nI, imax_nI, nl_0, nl_1, nl_2, nl_3, nl_4, nl_5, nl_6, nl_7, nl_8, nl_9, nl_10, nl_11, nl_12, nl_13, nl_15, nl_16, nl_20, nl_24, nl_26, nl_30, nl_32, nl_36, nl_39, nl_40, nl_45, nl_48, nl_50, nl_57, nl_59, nl_60, nl_61, nl_62, nl_64, nl_72, nl_73, nl_80, nl_90, nl_97, nl_99, nl_100, nl_120, nl_122, nl_123, nl_127, nl_128, nl_199, nl_200, nl_255, nl_256, nl_290, nl_399, nl_400, nl_500, nl_512, nl_520, nl_600, nl_999, nl_1000, nl_2000, nl_9999, nl_10000, nl_14, nl_17, nl_18, nl_19, nl_21, nl_22, nl_23, nl_25, nl_27, nl_28, nl_29, nl_31, nl_33, nl_34, nl_35, nl_47, nl_51, nl_63, nl_110, nl_195, nl_240, nl_1370, nl_3710, nl_6030, nl_6690, nl_7490, nl_7610, nl_9170, nl_11570, gA_sF, gL_sF, gB_sF, gZ_sF, gO_sF, gX_sF, gF_sA, gL_sA, gB_sA, gZ_sA, gO_sA, gX_sA, gF_sL, gA_sL, gB_sL, gZ_sL, gO_sL, gX_sL, gF_sB, gA_sB, gL_sB, gZ_sB, gO_sB, gX_sB, gF_sZ, gA_sZ, gL_sZ, gB_sZ, gO_sZ, gX_sZ, gF_sO, gA_sO, gL_sO, gB_sO, gZ_sO, gX_sO, gF_sX, gA_sX, gL_sX, gB_sX, gZ_sX, gO_sX, gF_tA, gL_tA, gB_tA, gZ_tA, gO_tA, gX_tA, gF_tL, gA_tL, gB_tL, gZ_tL, gO_tL, gX_tL, gF_tB, gA_tB, gL_tB, gZ_tB, gO_tB, gX_tB, gF_tZ, gA_tZ, gL_tZ, gB_tZ, gO_tZ, gX_tZ, gF_sF, gA_sA, gL_sL, gB_sB, gZ_sZ, gO_sO, gX_sX, gA_tA, gL_tL, gB_tB, gZ_tZ, reduceIte, Nat.reduceEqDiff, Nat.zero_ne_one, Nat.one_ne_zero, Nat.succ_ne_self, forall_eq, vpT, cpyT, nI_leI, nI_ltI, nI_eq, nI_m1, oI_eqn, oI_eqm, va_up_ne', va_up_eq, eq_self_iff_true, true_or, or_true, true_implies, not_true_eq_false, not_false_eq_true, false_implies, and_true, true_and, forall_const, implies_true, ne_eq, Nat.add_sub_cancel, nI_pos, ite_self]
    · have nx : ∀ T, sbs T S → T < cur → T ≤ (cur - 1) &&& S := fun T hT hl => sbs_next cur T S hT m1 hl
      have hle : (cur - 1) &&& S ≤ cur - 1 := Nat.and_le_left
      have go : ∀ q', q' ≤ L (i + 1) S → (∀ T, sbs T S → T ≠ 0 → cur ≤ T → alw (fun j => A 41 (sg j)) co mu i T → q' ≤ i * bs (fun _ => 1) T 9 + L (i + 1) (S - T)) → (q' = L (i + 1) S ∨ ∃ T, sbs T S ∧ T ≠ 0 ∧ alw (fun j => A 41 (sg j)) co mu i T ∧ q' = i * bs (fun _ => 1) T 9 + L (i + 1) (S - T)) → qX12_leastOf_161 Q (qX12_leastOf_46 Q f) (qX12_leastOf_83 Q (qX12_leastOf_46 Q f) f3) (qX12_leastOf_110 Q (qX12_leastOf_46 Q f) (qX12_leastOf_83 Q (qX12_leastOf_46 Q f) f3) f4) x (nI co) (nI (2 ^ n - 1)) (nI i) (nI S) (nI q') (nI cur) := fun q' hq1 hq2 hq3 => by
        unfold qX12_leastOf_161
        rw [nl_1, pk_sub (by omega), nI_and (by omega) (by omega)]
        refine ih4 q' ((cur - 1) &&& S) ⟨sbs_and _ _, hq1, fun T hT t0 hl ht => hq2 T hT t0 ?_ ht, hq3⟩ (show (cur - 1) &&& S < cur by omega)
        apply Classical.byContradiction
        intro hc
        have := nx T hT (by omega)
        omega
      have kc := k3 cur (by omega)
      rw [nI_clamp (by omega), l2]
      cases hg : gZ w 35 cur with
      | false =>
        refine c_y rfl (go q m2 (fun T hT t0 hl ht => ?_) m4)
        by_cases e : T = cur
        · subst e; rw [← kc, hg] at ht; exact absurd ht (by decide)
        · exact m3 T hT t0 (by omega) ht
      | true =>
        have hal := kc.1 hg
        have o := bs_one cur 9
        have lR := l3 (i + 1) (S - cur) (Nat.le_refl _) (by omega) (by omega)
        have bR := (hz (i + 1) (S - cur) (Nat.le_refl _) (by omega) (by omega)).2
        have im : i * bs (fun _ => 1) cur 9 ≤ 8 * 9 := Nat.mul_le_mul (by omega) o
        refine c_n (by decide) (M_bits (by omega) ?_)
        rw [nI_andn m1 hS (by omega), nl_1, nI_add, nl_512, pk_mul, nI_add, nI_clamp (by omega), lR, pk_mul, nI_add, imin_nI (by omega) (by omega)]
        refine c_in rfl (by omega) (by decide) (go _ (by omega) (fun T hT t0 hl ht => ?_) ?_)
        · by_cases e : T = cur
          · subst e; omega
          · have := m3 T hT t0 (by omega) ht; omega
        · by_cases e : q ≤ i * bs (fun _ => 1) cur 9 + L (i + 1) (S - cur)
          · rw [Nat.min_eq_left e]; exact m4
          · rw [Nat.min_eq_right (by omega)]
            exact Or.inr ⟨cur, m1, by omega, hal, rfl⟩
