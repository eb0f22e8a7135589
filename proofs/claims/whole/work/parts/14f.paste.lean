def ctL (x : Int64) (w : Nat) : Int64 := if w = 0 then x.toInt32.toInt8.toInt32.toInt64 else if w = 1 then x.toInt32.toInt16.toInt32.toInt64 else if w = 2 then x.toInt32.toInt64 else x
theorem N_cut {x : Int64} {w : Nat} (hw : w < 4) {Q : Int64 → Prop} (hQ : Q (ctL x w)) : qX11_cut x (nI w) Q := by
  unfold qX11_cut
  rcases (show w = 0 ∨ w = 1 ∨ w = 2 ∨ w = 3 by omega) with rfl | rfl | rfl | rfl
  · exact c_y rfl hQ
  · exact c_n (by decide) (c_y rfl hQ)
  · exact c_n (by decide) (c_n (by decide) (c_y rfl hQ))
  · exact c_n (by decide) (c_n (by decide) (c_n (by decide) hQ))
theorem M_cut {x : Int64} {w : Nat} (hw : w < 4) {Q : Int64 → Prop} (hQ : Q (ctL x w)) : qX12_cut x (nI w) Q := by
  unfold qX12_cut
  rcases (show w = 0 ∨ w = 1 ∨ w = 2 ∨ w = 3 by omega) with rfl | rfl | rfl | rfl
  · rw [sL56.1, cut_8]; exact hQ
  · rw [sL56.2.1, cut_16]; exact hQ
  · rw [sL56.2.2.1, cut_32]; exact hQ
  · rw [sL56.2.2.2, cut_64]; exact hQ
theorem sim_write {nb m : Md} (hR : RSlot nb m) {x1 x2 : Int32} {x3 : Int64} {Q : Int32 → Md → Int32 → Md → Prop} (hQ : ∀ r nb' m', RSlot nb' m' → Fr [(2, 7)] nb nb' → Fr [(2, 50)] m m' → Q r nb' r m') : qX11_write nb x1 x2 x3 (fun r nb' => qX12_write m x1 x2 x3 (fun r' m' => Q r nb' r' m')) := by
  unfold qX11_write qX12_write
  rcases ix32 x1 (n := 4) (by decide) with h | ⟨s, hs, rfl⟩
  · exact N_isSlot_bad h (b_0 (M_isSlot_bad h (b_0 (hQ _ _ _ hR Fr.rf Fr.rf))))
  obtain ⟨e1, e2, ⟨w, hw, e3⟩, e4⟩ := hR s hs
  have hv : vp_in (nI s) 4 := vp_in_nI hs (by decide)
  refine N_isSlot_ok hs (b_1 ⟨hv, ?_⟩)
  rw [nI_clamp (by omega), ← e2, ← e1, e3]
  rcases e4 with e4 | ⟨n, hn, e4, e5⟩
  · refine c_y' e4 (M_isSlot_ok hs (b_1 ⟨hv, ?_⟩))
    exact c_y' e4 (hQ _ _ _ hR Fr.rf Fr.rf)
  rw [e4]
  refine c_n' (nI_m1 (by omega)) ?_
  rcases ix32 x2 (n := n) (by omega) with h | ⟨i, hi, rfl⟩
  · have hM := M_isSlot_ok (Q := fun r1 => (r1 = 0 ∨ r1 = 1) → (¬ r1 = 0 → vp_in (nI s) 4 ∧ ((¬ nI n = ((-1)) → vp_in (nI s) 4 ∧ (qX12_in x2.toInt64 0 ((nI n - 1).toInt64) (fun r35 => (r35 = 0 ∨ r35 = 1) → (¬ r35 = 0 → vp_in (nI s) 4 ∧ (qX12_cut x3 (nI w) (fun r61 => vp_in ((60 * nI s) + x2) 240 ∧ (∀ w64 : Md, w64 = tL m 50 ((60 * nI s) + x2) r61 → Q (-7) nb 0 w64)))) ∧ (r35 = 0 → Q (-7) nb ((-7)) m)))) ∧ (nI n = ((-1)) → Q (-7) nb ((-6)) m))) ∧ (r1 = 0 → Q (-7) nb ((-2)) m)) hs (b_1 ⟨hv, c_n' (nI_m1 (by omega)) ⟨hv, inC_bad (n := n) (by omega) rfl h (b_0 (hQ _ _ _ hR Fr.rf Fr.rf))⟩⟩)
    refine ⟨fun _ => hM, fun h1 => ⟨hv, fun h2 => ?_, fun _ => hM⟩⟩
    exfalso
    rw [Int32.lt_iff_toInt_lt, tl_0] at h1
    rw [Int32.lt_iff_toInt_lt, nI_toInt (by omega)] at h2
    omega
  refine c_n (nI_pos (by omega)) ⟨hv, c_y (nI_lt hi (by omega)) ⟨hv, N_cut hw ?_⟩⟩
  rw [nl_60, pk_mul, nI_add, Nat.mul_comm s 60]
  refine ⟨vp_in_nI (by omega) (by decide), fun w1 hw1 => ?_⟩
  refine M_isSlot_ok hs (b_1 ⟨hv, c_n' (nI_m1 (by omega)) ⟨hv, inC_ok (n := n) (by omega) rfl hi (b_1 ⟨hv, M_cut hw ?_⟩)⟩⟩)
  rw [pk_mul, nI_add]
  refine ⟨vp_in_nI (by omega) (by decide), fun w2 hw2 => ?_⟩
  have f1 : Fr [(2, 7)] nb w1 := by rw [hw1]; exact Fr.tL 7 _ _ (by decide)
  have f2 : Fr [(2, 50)] m w2 := by rw [hw2]; exact Fr.tL 50 _ _ (by decide)
  have g7 : gL w1 7 = va_up (gL nb 7) (60 * s + i) (ctL x3 w) := by rw [hw1]; simp (disch := omega) only [ofI1, nI_add, pk_mul, pk_sub, nI_clamp, imin_nI, imax_nI, nl_0, nl_1, nl_2, nl_3, nl_4, nl_5, nl_6, nl_7, nl_8, nl_9, nl_10, nl_11, nl_12, nl_13, nl_15, nl_16, nl_20, nl_24, nl_26, nl_30, nl_32, nl_36, nl_39, nl_40, nl_45, nl_48, nl_50, nl_57, nl_59, nl_60, nl_61, nl_62, nl_64, nl_72, nl_73, nl_80, nl_90, nl_97, nl_99, nl_100, nl_120, nl_122, nl_123, nl_127, nl_128, nl_199, nl_200, nl_255, nl_256, nl_290, nl_399, nl_400, nl_500, nl_512, nl_520, nl_600, nl_999, nl_1000, nl_2000, nl_9999, nl_10000, nl_14, nl_17, nl_18, nl_19, nl_21, nl_22, nl_23, nl_25, nl_27, nl_28, nl_29, nl_31, nl_33, nl_34, nl_35, nl_47, nl_51, nl_63, nl_110, nl_195, nl_240, nl_1370, nl_3710, nl_6030, nl_6690, nl_7490, nl_7610, nl_9170, nl_11570, gA_sF, gL_sF, gB_sF, gZ_sF, gO_sF, gX_sF, gF_sA, gL_sA, gB_sA, gZ_sA, gO_sA, gX_sA, gF_sL, gA_sL, gB_sL, gZ_sL, gO_sL, gX_sL, gF_sB, gA_sB, gL_sB, gZ_sB, gO_sB, gX_sB, gF_sZ, gA_sZ, gL_sZ, gB_sZ, gO_sZ, gX_sZ, gF_sO, gA_sO, gL_sO, gB_sO, gZ_sO, gX_sO, gF_sX, gA_sX, gL_sX, gB_sX, gZ_sX, gO_sX, gF_tA, gL_tA, gB_tA, gZ_tA, gO_tA, gX_tA, gF_tL, gA_tL, gB_tL, gZ_tL, gO_tL, gX_tL, gF_tB, gA_tB, gL_tB, gZ_tB, gO_tB, gX_tB, gF_tZ, gA_tZ, gL_tZ, gB_tZ, gO_tZ, gX_tZ, gF_sF, gA_sA, gL_sL, gB_sB, gZ_sZ, gO_sO, gX_sX, gA_tA, gL_tL, gB_tB, gZ_tZ, reduceIte, Nat.reduceEqDiff, Nat.zero_ne_one, Nat.one_ne_zero, Nat.succ_ne_self, forall_eq, vpT, cpyT, nI_leI, nI_ltI, nI_eq, nI_m1, oI_eqn, oI_eqm, va_up_ne', va_up_eq, eq_self_iff_true, true_or, or_true, true_implies, not_true_eq_false, not_false_eq_true, false_implies, and_true, true_and, forall_const, implies_true, ne_eq, Nat.add_sub_cancel, nI_pos, ite_self]
  have g50 : gL w2 50 = va_up (gL m 50) (60 * s + i) (ctL x3 w) := by rw [hw2]; simp (disch := omega) only [ofI1, nI_add, pk_mul, pk_sub, nI_clamp, imin_nI, imax_nI, nl_0, nl_1, nl_2, nl_3, nl_4, nl_5, nl_6, nl_7, nl_8, nl_9, nl_10, nl_11, nl_12, nl_13, nl_15, nl_16, nl_20, nl_24, nl_26, nl_30, nl_32, nl_36, nl_39, nl_40, nl_45, nl_48, nl_50, nl_57, nl_59, nl_60, nl_61, nl_62, nl_64, nl_72, nl_73, nl_80, nl_90, nl_97, nl_99, nl_100, nl_120, nl_122, nl_123, nl_127, nl_128, nl_199, nl_200, nl_255, nl_256, nl_290, nl_399, nl_400, nl_500, nl_512, nl_520, nl_600, nl_999, nl_1000, nl_2000, nl_9999, nl_10000, nl_14, nl_17, nl_18, nl_19, nl_21, nl_22, nl_23, nl_25, nl_27, nl_28, nl_29, nl_31, nl_33, nl_34, nl_35, nl_47, nl_51, nl_63, nl_110, nl_195, nl_240, nl_1370, nl_3710, nl_6030, nl_6690, nl_7490, nl_7610, nl_9170, nl_11570, gA_sF, gL_sF, gB_sF, gZ_sF, gO_sF, gX_sF, gF_sA, gL_sA, gB_sA, gZ_sA, gO_sA, gX_sA, gF_sL, gA_sL, gB_sL, gZ_sL, gO_sL, gX_sL, gF_sB, gA_sB, gL_sB, gZ_sB, gO_sB, gX_sB, gF_sZ, gA_sZ, gL_sZ, gB_sZ, gO_sZ, gX_sZ, gF_sO, gA_sO, gL_sO, gB_sO, gZ_sO, gX_sO, gF_sX, gA_sX, gL_sX, gB_sX, gZ_sX, gO_sX, gF_tA, gL_tA, gB_tA, gZ_tA, gO_tA, gX_tA, gF_tL, gA_tL, gB_tL, gZ_tL, gO_tL, gX_tL, gF_tB, gA_tB, gL_tB, gZ_tB, gO_tB, gX_tB, gF_tZ, gA_tZ, gL_tZ, gB_tZ, gO_tZ, gX_tZ, gF_sF, gA_sA, gL_sL, gB_sB, gZ_sZ, gO_sO, gX_sX, gA_tA, gL_tL, gB_tB, gZ_tZ, reduceIte, Nat.reduceEqDiff, Nat.zero_ne_one, Nat.one_ne_zero, Nat.succ_ne_self, forall_eq, vpT, cpyT, nI_leI, nI_ltI, nI_eq, nI_m1, oI_eqn, oI_eqm, va_up_ne', va_up_eq, eq_self_iff_true, true_or, or_true, true_implies, not_true_eq_false, not_false_eq_true, false_implies, and_true, true_and, forall_const, implies_true, ne_eq, Nat.add_sub_cancel, nI_pos, ite_self]
  refine hQ _ _ _ (fun t ht => ?_) f1 f2
  obtain ⟨d1, d2, d3, d4⟩ := hR t ht
  rw [f1.2.1 8 (by decide), f1.2.1 9 (by decide), f2.2.1 48 (by decide), f2.2.1 49 (by decide), g7, g50]
  refine ⟨d1, d2, d3, ?_⟩
  rcases d4 with d4 | ⟨k, hk, d5, d6⟩
  · exact Or.inl d4
  · refine Or.inr ⟨k, hk, d5, fun j hj => ?_⟩
    by_cases e : 60 * t + j = 60 * s + i
    · rw [e, va_up_eq, va_up_eq]
    · rw [va_up_ne' _ _ e, va_up_ne' _ _ e]; exact d6 j hj
theorem N_lies {nb : Md} {s n : Nat} {x2 x3 : Int32} (hs : s < 4) (hn : n ≤ 60) (e : gA nb 9 s = nI n) {Q : Int32 → Md → Prop} (h1 : ∀ i k : Nat, x2 = nI i → x3 = nI k → i + k ≤ n → Q 1 nb) (h0 : ¬ (0 ≤ x2.toInt ∧ 0 ≤ x3.toInt ∧ x2.toInt + x3.toInt ≤ n) → Q 0 nb) : qX11_liesInRow nb (nI s) x2 x3 Q := by
  have hv : vp_in (nI s) 4 := vp_in_nI hs (by decide)
  unfold qX11_liesInRow
  rw [nI_clamp (by omega), e]
  by_cases a2 : x2 < 0
  · refine c_y a2 (h0 (fun q => ?_)); rw [Int32.lt_iff_toInt_lt, tl_0] at a2; omega
  refine c_n a2 ?_
  by_cases a3 : x3 < 0
  · refine c_y a3 (h0 (fun q => ?_)); rw [Int32.lt_iff_toInt_lt, tl_0] at a3; omega
  obtain ⟨i, hi, rfl⟩ := nI_of a2
  obtain ⟨k, hk, rfl⟩ := nI_of a3
  rw [nI_toInt hi, nI_toInt hk] at h0
  refine c_n a3 ⟨hv, c_lt rfl rfl (by omega) (by omega) (fun q => h0 (by omega)) (fun q => ⟨hv, ?_⟩)⟩
  rw [pk_sub (by omega)]
  exact c_lt rfl rfl (by omega) (by omega) (fun q2 => h0 (by omega)) (fun q2 => h1 i k rfl rfl (by omega))
theorem lsum {i k n : Nat} {P R : Prop} (hi : i < 2 ^ 31) (hk : k < 2 ^ 31) (hn : n ≤ 60) (f : ¬ i + k ≤ n → P) (g : i + k ≤ n → R) : (0 < (lg_cmp ((nI i).toInt64 + (nI k).toInt64) ((nI n).toInt64)) → P) ∧ (¬ 0 < (lg_cmp ((nI i).toInt64 + (nI k).toInt64) ((nI n).toInt64)) → R) := by
  have e : ((nI i).toInt64 + (nI k).toInt64).toInt = (i : Int) + k := by
    rw [Int64.toInt_add, Int32.toInt_toInt64, Int32.toInt_toInt64, nI_toInt hi, nI_toInt hk]
    exact Int.bmod_eq_of_le (by omega) (by omega)
  rw [lcmp_gt, e, Int32.toInt_toInt64, nI_toInt (by omega)]
  exact ⟨fun h => f (by omega), fun h => g (by omega)⟩
theorem lsum' {i k n : Nat} {P R : Prop} (hi : i < 2 ^ 31) (hk : k < 2 ^ 31) (hn : n ≤ 60) (f : ¬ i + k ≤ n → P) (g : i + k ≤ n → R) : ((lg_cmp ((nI i).toInt64 + (nI k).toInt64) ((nI n).toInt64)) ≤ 0 → R) ∧ (¬ (lg_cmp ((nI i).toInt64 + (nI k).toInt64) ((nI n).toInt64)) ≤ 0 → P) := by
  have e : ((nI i).toInt64 + (nI k).toInt64).toInt = (i : Int) + k := by
    rw [Int64.toInt_add, Int32.toInt_toInt64, Int32.toInt_toInt64, nI_toInt hi, nI_toInt hk]
    exact Int.bmod_eq_of_le (by omega) (by omega)
  rw [lcmp_le, e, Int32.toInt_toInt64, nI_toInt (by omega)]
  exact ⟨fun h => g (by omega), fun h => f (by omega)⟩
/-- where paste is refused for its numbers -/
def pstBad (n1 n2 : Nat) (x2 x4 x5 : Int32) : Prop := ¬ (0 ≤ x2.toInt ∧ 0 ≤ x4.toInt ∧ 0 ≤ x5.toInt ∧ x2.toInt + x5.toInt ≤ n1 ∧ x4.toInt + x5.toInt ≤ n2)
theorem M_pasteNum {m : Md} {s t n1 n2 : Nat} {x2 x4 x5 : Int32} (hs : s < 4) (ht : t < 4) (h1 : n1 ≤ 60) (h2 : n2 ≤ 60) (e1 : gA m 48 s = nI n1) (e2 : gA m 48 t = nI n2) {Q : Int32 → Md → Prop} (h7 : pstBad n1 n2 x2 x4 x5 → Q (-7) m) (h0 : ∀ i k n : Nat, x2 = nI i → x4 = nI k → x5 = nI n → i + n ≤ n1 → k + n ≤ n2 → ∃ n' : Nat, qX12_paste_113 Q n' m (nI s) (nI i) (nI t) (nI k) (nI n) 0) : (x2 < 0 → Q ((-7)) m) ∧ (¬ x2 < 0 → (x4 < 0 → Q ((-7)) m) ∧ (¬ x4 < 0 → (x5 < 0 → Q ((-7)) m) ∧ (¬ x5 < 0 → vp_in (nI s) 4 ∧ ((0 < (lg_cmp (x2.toInt64 + x5.toInt64) ((gA m 48 (nI s).toNatClampNeg).toInt64)) → Q ((-7)) m) ∧ (¬ 0 < (lg_cmp (x2.toInt64 + x5.toInt64) ((gA m 48 (nI s).toNatClampNeg).toInt64)) → vp_in (nI t) 4 ∧ (((lg_cmp (x4.toInt64 + x5.toInt64) ((gA m 48 (nI t).toNatClampNeg).toInt64)) ≤ 0 → ∃ n' : Nat, qX12_paste_113 Q n' m (nI s) x2 (nI t) x4 x5 0) ∧ (¬ (lg_cmp (x4.toInt64 + x5.toInt64) ((gA m 48 (nI t).toNatClampNeg).toInt64)) ≤ 0 → Q ((-7)) m))))))) := by
  unfold pstBad at h7
  by_cases a2 : x2 < 0
  · refine c_y a2 (h7 (fun q => ?_)); rw [Int32.lt_iff_toInt_lt, tl_0] at a2; omega
  refine c_n a2 ?_
  by_cases a4 : x4 < 0
  · refine c_y a4 (h7 (fun q => ?_)); rw [Int32.lt_iff_toInt_lt, tl_0] at a4; omega
  refine c_n a4 ?_
  by_cases a5 : x5 < 0
  · refine c_y a5 (h7 (fun q => ?_)); rw [Int32.lt_iff_toInt_lt, tl_0] at a5; omega
  obtain ⟨i, hi, rfl⟩ := nI_of a2
  obtain ⟨k, hk, rfl⟩ := nI_of a4
  obtain ⟨n, hn, rfl⟩ := nI_of a5
  rw [nI_toInt hi, nI_toInt hk, nI_toInt hn] at h7
  rw [nI_clamp (by omega), nI_clamp (by omega), e1, e2]
  refine c_n a5 ⟨vp_in_nI hs (by decide), lsum hi hn h1 (fun q => h7 (by omega)) (fun q => ⟨vp_in_nI ht (by decide), lsum' hk hn h2 (fun q2 => h7 (by omega)) (fun q2 => h0 i k n rfl rfl rfl q q2)⟩)⟩
theorem M_pasteLoop {m : Md} {s t i k n : Nat} (hs : s < 4) (ht : t < 4) (hi : i + n ≤ 60) (hk : k + n ≤ 60) {Q : Int32 → Md → Prop} (hQ : ∀ m', Fr [(2, 50), (2, 51)] m m' → (∀ j, j < n → gL m' 50 (60 * t + k + j) = gL m 50 (60 * s + i + j)) → (∀ j, (j < 60 * t + k ∨ 60 * t + k + n ≤ j) → gL m' 50 j = gL m 50 j) → Q 0 m') : ∃ n' : Nat, qX12_paste_113 Q n' m (nI s) (nI i) (nI t) (nI k) (nI n) 0 := by
  refine pk_loop (fun f j u => qX12_paste_113 Q f u (nI s) (nI i) (nI t) (nI k) (nI n) (nI j)) (fun j u => Fr [(2, 51)] m u ∧ ∀ x, x < j → gL u 51 x = gL m 50 (60 * s + i + x)) n 0 m (by omega) ⟨Fr.rf, fun x hx => by omega⟩ (fun f u hI => ?_) (fun f j u hj hI ih => ?_)
  · obtain ⟨i1, i2⟩ := hI
    unfold qX12_paste_113
    refine c_y (nI_le (Nat.le_refl _) (by omega)) ?_
    refine pk_loop (fun f j v => qX12_paste_150 Q f v (nI t) (nI k) (nI n) (nI j)) (fun j v => Fr [(2, 50)] u v ∧ (∀ x, x < j → gL v 50 (60 * t + k + x) = gL m 50 (60 * s + i + x)) ∧ ∀ x, (x < 60 * t + k ∨ 60 * t + k + j ≤ x) → gL v 50 x = gL m 50 x) n 0 u (by omega) ⟨Fr.rf, fun x hx => by omega, fun x _ => by rw [i1.2.2.1 50 (by decide)]⟩ (fun f v hJ => ?_) (fun f j v hj hJ jh => ?_)
    · unfold qX12_paste_150
      exact c_y (nI_le (Nat.le_refl _) (by omega)) (hQ v ((i1.mono (by decide)).tr (hJ.1.mono (by decide))) hJ.2.1 hJ.2.2)
    · obtain ⟨j1, j2, j3⟩ := hJ
      have g51 : gL v 51 j = gL m 50 (60 * s + i + j) := by rw [j1.2.2.1 51 (by decide)]; exact i2 j hj
      have z : ¬ n ≤ j := by omega
      unfold qX12_paste_150
      simp (disch := omega) only [z, g51, ofI1, nI_add, pk_mul, pk_sub, nI_clamp, imin_nI, imax_nI, nl_0, nl_1, nl_2, nl_3, nl_4, nl_5, nl_6, nl_7, nl_8, nl_9, nl_10, nl_11, nl_12, nl_13, nl_15, nl_16, nl_20, nl_24, nl_26, nl_30, nl_32, nl_36, nl_39, nl_40, nl_45, nl_48, nl_50, nl_57, nl_59, nl_60, nl_61, nl_62, nl_64, nl_72, nl_73, nl_80, nl_90, nl_97, nl_99, nl_100, nl_120, nl_122, nl_123, nl_127, nl_128, nl_199, nl_200, nl_255, nl_256, nl_290, nl_399, nl_400, nl_500, nl_512, nl_520, nl_600, nl_999, nl_1000, nl_2000, nl_9999, nl_10000, nl_14, nl_17, nl_18, nl_19, nl_21, nl_22, nl_23, nl_25, nl_27, nl_28, nl_29, nl_31, nl_33, nl_34, nl_35, nl_47, nl_51, nl_63, nl_110, nl_195, nl_240, nl_1370, nl_3710, nl_6030, nl_6690, nl_7490, nl_7610, nl_9170, nl_11570, gA_sF, gL_sF, gB_sF, gZ_sF, gO_sF, gX_sF, gF_sA, gL_sA, gB_sA, gZ_sA, gO_sA, gX_sA, gF_sL, gA_sL, gB_sL, gZ_sL, gO_sL, gX_sL, gF_sB, gA_sB, gL_sB, gZ_sB, gO_sB, gX_sB, gF_sZ, gA_sZ, gL_sZ, gB_sZ, gO_sZ, gX_sZ, gF_sO, gA_sO, gL_sO, gB_sO, gZ_sO, gX_sO, gF_sX, gA_sX, gL_sX, gB_sX, gZ_sX, gO_sX, gF_tA, gL_tA, gB_tA, gZ_tA, gO_tA, gX_tA, gF_tL, gA_tL, gB_tL, gZ_tL, gO_tL, gX_tL, gF_tB, gA_tB, gL_tB, gZ_tB, gO_tB, gX_tB, gF_tZ, gA_tZ, gL_tZ, gB_tZ, gO_tZ, gX_tZ, gF_sF, gA_sA, gL_sL, gB_sB, gZ_sZ, gO_sO, gX_sX, gA_tA, gL_tL, gB_tB, gZ_tZ, reduceIte, Nat.reduceEqDiff, Nat.zero_ne_one, Nat.one_ne_zero, Nat.succ_ne_self, forall_eq, vpT, cpyT, nI_leI, nI_ltI, nI_eq, nI_m1, oI_eqn, oI_eqm, va_up_ne', va_up_eq, eq_self_iff_true, true_or, or_true, true_implies, not_true_eq_false, not_false_eq_true, false_implies, and_true, true_and, forall_const, implies_true, ne_eq, Nat.add_sub_cancel, nI_pos, ite_self]
      refine jh _ ⟨j1.tr (Fr.tL 50 _ _ (by decide)), fun x hx => ?_, fun x hx => ?_⟩
      · by_cases e : x = j
        · subst e; simp (disch := omega) only [ofI1, nI_add, pk_mul, pk_sub, nI_clamp, imin_nI, imax_nI, nl_0, nl_1, nl_2, nl_3, nl_4, nl_5, nl_6, nl_7, nl_8, nl_9, nl_10, nl_11, nl_12, nl_13, nl_15, nl_16, nl_20, nl_24, nl_26, nl_30, nl_32, nl_36, nl_39, nl_40, nl_45, nl_48, nl_50, nl_57, nl_59, nl_60, nl_61, nl_62, nl_64, nl_72, nl_73, nl_80, nl_90, nl_97, nl_99, nl_100, nl_120, nl_122, nl_123, nl_127, nl_128, nl_199, nl_200, nl_255, nl_256, nl_290, nl_399, nl_400, nl_500, nl_512, nl_520, nl_600, nl_999, nl_1000, nl_2000, nl_9999, nl_10000, nl_14, nl_17, nl_18, nl_19, nl_21, nl_22, nl_23, nl_25, nl_27, nl_28, nl_29, nl_31, nl_33, nl_34, nl_35, nl_47, nl_51, nl_63, nl_110, nl_195, nl_240, nl_1370, nl_3710, nl_6030, nl_6690, nl_7490, nl_7610, nl_9170, nl_11570, gA_sF, gL_sF, gB_sF, gZ_sF, gO_sF, gX_sF, gF_sA, gL_sA, gB_sA, gZ_sA, gO_sA, gX_sA, gF_sL, gA_sL, gB_sL, gZ_sL, gO_sL, gX_sL, gF_sB, gA_sB, gL_sB, gZ_sB, gO_sB, gX_sB, gF_sZ, gA_sZ, gL_sZ, gB_sZ, gO_sZ, gX_sZ, gF_sO, gA_sO, gL_sO, gB_sO, gZ_sO, gX_sO, gF_sX, gA_sX, gL_sX, gB_sX, gZ_sX, gO_sX, gF_tA, gL_tA, gB_tA, gZ_tA, gO_tA, gX_tA, gF_tL, gA_tL, gB_tL, gZ_tL, gO_tL, gX_tL, gF_tB, gA_tB, gL_tB, gZ_tB, gO_tB, gX_tB, gF_tZ, gA_tZ, gL_tZ, gB_tZ, gO_tZ, gX_tZ, gF_sF, gA_sA, gL_sL, gB_sB, gZ_sZ, gO_sO, gX_sX, gA_tA, gL_tL, gB_tB, gZ_tZ, reduceIte, Nat.reduceEqDiff, Nat.zero_ne_one, Nat.one_ne_zero, Nat.succ_ne_self, forall_eq, vpT, cpyT, nI_leI, nI_ltI, nI_eq, nI_m1, oI_eqn, oI_eqm, va_up_ne', va_up_eq, eq_self_iff_true, true_or, or_true, true_implies, not_true_eq_false, not_false_eq_true, false_implies, and_true, true_and, forall_const, implies_true, ne_eq, Nat.add_sub_cancel, nI_pos, ite_self]
        · simp (disch := omega) only [ofI1, nI_add, pk_mul, pk_sub, nI_clamp, imin_nI, imax_nI, nl_0, nl_1, nl_2, nl_3, nl_4, nl_5, nl_6, nl_7, nl_8, nl_9, nl_10, nl_11, nl_12, nl_13, nl_15, nl_16, nl_20, nl_24, nl_26, nl_30, nl_32, nl_36, nl_39, nl_40, nl_45, nl_48, nl_50, nl_57, nl_59, nl_60, nl_61, nl_62, nl_64, nl_72, nl_73, nl_80, nl_90, nl_97, nl_99, nl_100, nl_120, nl_122, nl_123, nl_127, nl_128, nl_199, nl_200, nl_255, nl_256, nl_290, nl_399, nl_400, nl_500, nl_512, nl_520, nl_600, nl_999, nl_1000, nl_2000, nl_9999, nl_10000, nl_14, nl_17, nl_18, nl_19, nl_21, nl_22, nl_23, nl_25, nl_27, nl_28, nl_29, nl_31, nl_33, nl_34, nl_35, nl_47, nl_51, nl_63, nl_110, nl_195, nl_240, nl_1370, nl_3710, nl_6030, nl_6690, nl_7490, nl_7610, nl_9170, nl_11570, gA_sF, gL_sF, gB_sF, gZ_sF, gO_sF, gX_sF, gF_sA, gL_sA, gB_sA, gZ_sA, gO_sA, gX_sA, gF_sL, gA_sL, gB_sL, gZ_sL, gO_sL, gX_sL, gF_sB, gA_sB, gL_sB, gZ_sB, gO_sB, gX_sB, gF_sZ, gA_sZ, gL_sZ, gB_sZ, gO_sZ, gX_sZ, gF_sO, gA_sO, gL_sO, gB_sO, gZ_sO, gX_sO, gF_sX, gA_sX, gL_sX, gB_sX, gZ_sX, gO_sX, gF_tA, gL_tA, gB_tA, gZ_tA, gO_tA, gX_tA, gF_tL, gA_tL, gB_tL, gZ_tL, gO_tL, gX_tL, gF_tB, gA_tB, gL_tB, gZ_tB, gO_tB, gX_tB, gF_tZ, gA_tZ, gL_tZ, gB_tZ, gO_tZ, gX_tZ, gF_sF, gA_sA, gL_sL, gB_sB, gZ_sZ, gO_sO, gX_sX, gA_tA, gL_tL, gB_tB, gZ_tZ, reduceIte, Nat.reduceEqDiff, Nat.zero_ne_one, Nat.one_ne_zero, Nat.succ_ne_self, forall_eq, vpT, cpyT, nI_leI, nI_ltI, nI_eq, nI_m1, oI_eqn, oI_eqm, va_up_ne', va_up_eq, eq_self_iff_true, true_or, or_true, true_implies, not_true_eq_false, not_false_eq_true, false_implies, and_true, true_and, forall_const, implies_true, ne_eq, Nat.add_sub_cancel, nI_pos, ite_self]; exact j2 x (by omega)
      · simp (disch := omega) only [ofI1, nI_add, pk_mul, pk_sub, nI_clamp, imin_nI, imax_nI, nl_0, nl_1, nl_2, nl_3, nl_4, nl_5, nl_6, nl_7, nl_8, nl_9, nl_10, nl_11, nl_12, nl_13, nl_15, nl_16, nl_20, nl_24, nl_26, nl_30, nl_32, nl_36, nl_39, nl_40, nl_45, nl_48, nl_50, nl_57, nl_59, nl_60, nl_61, nl_62, nl_64, nl_72, nl_73, nl_80, nl_90, nl_97, nl_99, nl_100, nl_120, nl_122, nl_123, nl_127, nl_128, nl_199, nl_200, nl_255, nl_256, nl_290, nl_399, nl_400, nl_500, nl_512, nl_520, nl_600, nl_999, nl_1000, nl_2000, nl_9999, nl_10000, nl_14, nl_17, nl_18, nl_19, nl_21, nl_22, nl_23, nl_25, nl_27, nl_28, nl_29, nl_31, nl_33, nl_34, nl_35, nl_47, nl_51, nl_63, nl_110, nl_195, nl_240, nl_1370, nl_3710, nl_6030, nl_6690, nl_7490, nl_7610, nl_9170, nl_11570, gA_sF, gL_sF, gB_sF, gZ_sF, gO_sF, gX_sF, gF_sA, gL_sA, gB_sA, gZ_sA, gO_sA, gX_sA, gF_sL, gA_sL, gB_sL, gZ_sL, gO_sL, gX_sL, gF_sB, gA_sB, gL_sB, gZ_sB, gO_sB, gX_sB, gF_sZ, gA_sZ, gL_sZ, gB_sZ, gO_sZ, gX_sZ, gF_sO, gA_sO, gL_sO, gB_sO, gZ_sO, gX_sO, gF_sX, gA_sX, gL_sX, gB_sX, gZ_sX, gO_sX, gF_tA, gL_tA, gB_tA, gZ_tA, gO_tA, gX_tA, gF_tL, gA_tL, gB_tL, gZ_tL, gO_tL, gX_tL, gF_tB, gA_tB, gL_tB, gZ_tB, gO_tB, gX_tB, gF_tZ, gA_tZ, gL_tZ, gB_tZ, gO_tZ, gX_tZ, gF_sF, gA_sA, gL_sL, gB_sB, gZ_sZ, gO_sO, gX_sX, gA_tA, gL_tL, gB_tB, gZ_tZ, reduceIte, Nat.reduceEqDiff, Nat.zero_ne_one, Nat.one_ne_zero, Nat.succ_ne_self, forall_eq, vpT, cpyT, nI_leI, nI_ltI, nI_eq, nI_m1, oI_eqn, oI_eqm, va_up_ne', va_up_eq, eq_self_iff_true, true_or, or_true, true_implies, not_true_eq_false, not_false_eq_true, false_implies, and_true, true_and, forall_const, implies_true, ne_eq, Nat.add_sub_cancel, nI_pos, ite_self]; exact j3 x (by omega)
  · obtain ⟨i1, i2⟩ := hI
    have g50 : gL u 50 = gL m 50 := i1.2.2.1 50 (by decide)
    have z : ¬ n ≤ j := by omega
    unfold qX12_paste_113
    simp (disch := omega) only [z, g50, ofI1, nI_add, pk_mul, pk_sub, nI_clamp, imin_nI, imax_nI, nl_0, nl_1, nl_2, nl_3, nl_4, nl_5, nl_6, nl_7, nl_8, nl_9, nl_10, nl_11, nl_12, nl_13, nl_15, nl_16, nl_20, nl_24, nl_26, nl_30, nl_32, nl_36, nl_39, nl_40, nl_45, nl_48, nl_50, nl_57, nl_59, nl_60, nl_61, nl_62, nl_64, nl_72, nl_73, nl_80, nl_90, nl_97, nl_99, nl_100, nl_120, nl_122, nl_123, nl_127, nl_128, nl_199, nl_200, nl_255, nl_256, nl_290, nl_399, nl_400, nl_500, nl_512, nl_520, nl_600, nl_999, nl_1000, nl_2000, nl_9999, nl_10000, nl_14, nl_17, nl_18, nl_19, nl_21, nl_22, nl_23, nl_25, nl_27, nl_28, nl_29, nl_31, nl_33, nl_34, nl_35, nl_47, nl_51, nl_63, nl_110, nl_195, nl_240, nl_1370, nl_3710, nl_6030, nl_6690, nl_7490, nl_7610, nl_9170, nl_11570, gA_sF, gL_sF, gB_sF, gZ_sF, gO_sF, gX_sF, gF_sA, gL_sA, gB_sA, gZ_sA, gO_sA, gX_sA, gF_sL, gA_sL, gB_sL, gZ_sL, gO_sL, gX_sL, gF_sB, gA_sB, gL_sB, gZ_sB, gO_sB, gX_sB, gF_sZ, gA_sZ, gL_sZ, gB_sZ, gO_sZ, gX_sZ, gF_sO, gA_sO, gL_sO, gB_sO, gZ_sO, gX_sO, gF_sX, gA_sX, gL_sX, gB_sX, gZ_sX, gO_sX, gF_tA, gL_tA, gB_tA, gZ_tA, gO_tA, gX_tA, gF_tL, gA_tL, gB_tL, gZ_tL, gO_tL, gX_tL, gF_tB, gA_tB, gL_tB, gZ_tB, gO_tB, gX_tB, gF_tZ, gA_tZ, gL_tZ, gB_tZ, gO_tZ, gX_tZ, gF_sF, gA_sA, gL_sL, gB_sB, gZ_sZ, gO_sO, gX_sX, gA_tA, gL_tL, gB_tB, gZ_tZ, reduceIte, Nat.reduceEqDiff, Nat.zero_ne_one, Nat.one_ne_zero, Nat.succ_ne_self, forall_eq, vpT, cpyT, nI_leI, nI_ltI, nI_eq, nI_m1, oI_eqn, oI_eqm, va_up_ne', va_up_eq, eq_self_iff_true, true_or, or_true, true_implies, not_true_eq_false, not_false_eq_true, false_implies, and_true, true_and, forall_const, implies_true, ne_eq, Nat.add_sub_cancel, nI_pos, ite_self]
    refine ih _ ⟨i1.tr (Fr.tL 51 _ _ (by decide)), fun x hx => ?_⟩
    by_cases e : x = j
    · subst e; simp (disch := omega) only [ofI1, nI_add, pk_mul, pk_sub, nI_clamp, imin_nI, imax_nI, nl_0, nl_1, nl_2, nl_3, nl_4, nl_5, nl_6, nl_7, nl_8, nl_9, nl_10, nl_11, nl_12, nl_13, nl_15, nl_16, nl_20, nl_24, nl_26, nl_30, nl_32, nl_36, nl_39, nl_40, nl_45, nl_48, nl_50, nl_57, nl_59, nl_60, nl_61, nl_62, nl_64, nl_72, nl_73, nl_80, nl_90, nl_97, nl_99, nl_100, nl_120, nl_122, nl_123, nl_127, nl_128, nl_199, nl_200, nl_255, nl_256, nl_290, nl_399, nl_400, nl_500, nl_512, nl_520, nl_600, nl_999, nl_1000, nl_2000, nl_9999, nl_10000, nl_14, nl_17, nl_18, nl_19, nl_21, nl_22, nl_23, nl_25, nl_27, nl_28, nl_29, nl_31, nl_33, nl_34, nl_35, nl_47, nl_51, nl_63, nl_110, nl_195, nl_240, nl_1370, nl_3710, nl_6030, nl_6690, nl_7490, nl_7610, nl_9170, nl_11570, gA_sF, gL_sF, gB_sF, gZ_sF, gO_sF, gX_sF, gF_sA, gL_sA, gB_sA, gZ_sA, gO_sA, gX_sA, gF_sL, gA_sL, gB_sL, gZ_sL, gO_sL, gX_sL, gF_sB, gA_sB, gL_sB, gZ_sB, gO_sB, gX_sB, gF_sZ, gA_sZ, gL_sZ, gB_sZ, gO_sZ, gX_sZ, gF_sO, gA_sO, gL_sO, gB_sO, gZ_sO, gX_sO, gF_sX, gA_sX, gL_sX, gB_sX, gZ_sX, gO_sX, gF_tA, gL_tA, gB_tA, gZ_tA, gO_tA, gX_tA, gF_tL, gA_tL, gB_tL, gZ_tL, gO_tL, gX_tL, gF_tB, gA_tB, gL_tB, gZ_tB, gO_tB, gX_tB, gF_tZ, gA_tZ, gL_tZ, gB_tZ, gO_tZ, gX_tZ, gF_sF, gA_sA, gL_sL, gB_sB, gZ_sZ, gO_sO, gX_sX, gA_tA, gL_tL, gB_tB, gZ_tZ, reduceIte, Nat.reduceEqDiff, Nat.zero_ne_one, Nat.one_ne_zero, Nat.succ_ne_self, forall_eq, vpT, cpyT, nI_leI, nI_ltI, nI_eq, nI_m1, oI_eqn, oI_eqm, va_up_ne', va_up_eq, eq_self_iff_true, true_or, or_true, true_implies, not_true_eq_false, not_false_eq_true, false_implies, and_true, true_and, forall_const, implies_true, ne_eq, Nat.add_sub_cancel, nI_pos, ite_self]
    · simp (disch := omega) only [ofI1, nI_add, pk_mul, pk_sub, nI_clamp, imin_nI, imax_nI, nl_0, nl_1, nl_2, nl_3, nl_4, nl_5, nl_6, nl_7, nl_8, nl_9, nl_10, nl_11, nl_12, nl_13, nl_15, nl_16, nl_20, nl_24, nl_26, nl_30, nl_32, nl_36, nl_39, nl_40, nl_45, nl_48, nl_50, nl_57, nl_59, nl_60, nl_61, nl_62, nl_64, nl_72, nl_73, nl_80, nl_90, nl_97, nl_99, nl_100, nl_120, nl_122, nl_123, nl_127, nl_128, nl_199, nl_200, nl_255, nl_256, nl_290, nl_399, nl_400, nl_500, nl_512, nl_520, nl_600, nl_999, nl_1000, nl_2000, nl_9999, nl_10000, nl_14, nl_17, nl_18, nl_19, nl_21, nl_22, nl_23, nl_25, nl_27, nl_28, nl_29, nl_31, nl_33, nl_34, nl_35, nl_47, nl_51, nl_63, nl_110, nl_195, nl_240, nl_1370, nl_3710, nl_6030, nl_6690, nl_7490, nl_7610, nl_9170, nl_11570, gA_sF, gL_sF, gB_sF, gZ_sF, gO_sF, gX_sF, gF_sA, gL_sA, gB_sA, gZ_sA, gO_sA, gX_sA, gF_sL, gA_sL, gB_sL, gZ_sL, gO_sL, gX_sL, gF_sB, gA_sB, gL_sB, gZ_sB, gO_sB, gX_sB, gF_sZ, gA_sZ, gL_sZ, gB_sZ, gO_sZ, gX_sZ, gF_sO, gA_sO, gL_sO, gB_sO, gZ_sO, gX_sO, gF_sX, gA_sX, gL_sX, gB_sX, gZ_sX, gO_sX, gF_tA, gL_tA, gB_tA, gZ_tA, gO_tA, gX_tA, gF_tL, gA_tL, gB_tL, gZ_tL, gO_tL, gX_tL, gF_tB, gA_tB, gL_tB, gZ_tB, gO_tB, gX_tB, gF_tZ, gA_tZ, gL_tZ, gB_tZ, gO_tZ, gX_tZ, gF_sF, gA_sA, gL_sL, gB_sB, gZ_sZ, gO_sO, gX_sX, gA_tA, gL_tL, gB_tB, gZ_tZ, reduceIte, Nat.reduceEqDiff, Nat.zero_ne_one, Nat.one_ne_zero, Nat.succ_ne_self, forall_eq, vpT, cpyT, nI_leI, nI_ltI, nI_eq, nI_m1, oI_eqn, oI_eqm, va_up_ne', va_up_eq, eq_self_iff_true, true_or, or_true, true_implies, not_true_eq_false, not_false_eq_true, false_implies, and_true, true_and, forall_const, implies_true, ne_eq, Nat.add_sub_cancel, nI_pos, ite_self]; exact i2 x (by omega)
theorem sim_paste {nb m : Md} (hR : RSlot nb m) {x1 x2 x3 x4 x5 : Int32} {Q : Int32 → Md → Int32 → Md → Prop} (hQ : ∀ r nb' m', RSlot nb' m' → Fr [(2, 7)] nb nb' → Fr [(2, 50), (2, 51)] m m' → Q r nb' r m') : qX11_paste nb x1 x2 x3 x4 x5 (fun r nb' => qX12_paste m x1 x2 x3 x4 x5 (fun r' m' => Q r nb' r' m')) := by
  unfold qX11_paste
  rcases ix32 x1 (n := 4) (by decide) with h | ⟨s, hs, rfl⟩
  · exact N_isSlot_bad h (b_0' (by unfold qX12_paste; exact M_isSlot_bad h (b_0' (hQ _ _ _ hR Fr.rf Fr.rf))))
  refine N_isSlot_ok hs (b_1' ?_)
  rcases ix32 x3 (n := 4) (by decide) with h | ⟨t, ht, rfl⟩
  · exact N_isSlot_bad h (b_0 (by unfold qX12_paste; exact M_isSlot_ok hs (b_1' (M_isSlot_bad h (b_0 (hQ _ _ _ hR Fr.rf Fr.rf))))))
  obtain ⟨s1, s2, ⟨w1, hw1, s3⟩, s4⟩ := hR s hs
  obtain ⟨t1, t2, ⟨w2, hw2, t3⟩, t4⟩ := hR t ht
  have hv : vp_in (nI s) 4 := vp_in_nI hs (by decide)
  have hu : vp_in (nI t) 4 := vp_in_nI ht (by decide)
  have es : (nI s).toNatClampNeg = s := nI_clamp (by omega)
  have et : (nI t).toNatClampNeg = t := nI_clamp (by omega)
  refine N_isSlot_ok ht (b_1 ⟨hv, ?_⟩)
  rw [es, et, s3, t3]
  rcases s4 with s4 | ⟨n1, hn1, s4, s5⟩
  · refine c_y s4 ?_
    unfold qX12_paste
    refine M_isSlot_ok hs (b_1' (M_isSlot_ok ht (b_1 ⟨hv, ?_⟩)))
    rw [es, ← s2]
    exact c_y s4 (hQ _ _ _ hR Fr.rf Fr.rf)
  rw [s4]
  refine c_n (nI_m1 (by omega)) ⟨hu, ?_⟩
  rcases t4 with t4 | ⟨n2, hn2, t4, t5⟩
  · refine c_y' t4 ?_
    unfold qX12_paste
    refine M_isSlot_ok hs (b_1' (M_isSlot_ok ht (b_1 ⟨hv, ?_⟩)))
    rw [es, et, ← s2, ← t2, s4]
    exact c_n (nI_m1 (by omega)) ⟨hu, c_y' t4 (hQ _ _ _ hR Fr.rf Fr.rf)⟩
  rw [t4]
  refine c_n' (nI_m1 (by omega)) ⟨hv, hu, ?_⟩
  by_cases hww : w1 = w2
  · subst hww
    refine c_y rfl ?_
    have m1 : gA m 48 s = nI n1 := by rw [← s2]; exact s4
    have m2 : gA m 48 t = nI n2 := by rw [← t2]; exact t4
    have n9s : gA nb 9 s = nI n1 := s4
    have n9t : gA nb 9 t = nI n2 := t4
    have bad : pstBad n1 n2 x2 x4 x5 → ∀ {P : Int32 → Md → Prop}, P (-7) m → qX12_paste m (nI s) x2 (nI t) x4 x5 P := by
      intro hb P hP
      unfold qX12_paste
      refine M_isSlot_ok hs (b_1' (M_isSlot_ok ht (b_1 ⟨hv, ?_⟩)))
      have k := M_pasteNum (x2 := x2) (x4 := x4) (x5 := x5) hs ht hn1 hn2 m1 m2 (fun _ => hP) (fun i k n e2 e4 e5 q1 q2 => absurd (by subst e2 e4 e5; rw [nI_toInt (by omega), nI_toInt (by omega), nI_toInt (by omega)]; omega) hb)
      rw [es, et] at k ⊢
      rw [← s1, ← t1, s3, t3]
      rw [m1, m2] at k ⊢
      exact c_n (nI_m1 (by omega)) ⟨hu, c_n' (nI_m1 (by omega)) ⟨hv, hu, c_y rfl k⟩⟩
    have ok : ∀ i k n : Nat, x2 = nI i → x4 = nI k → x5 = nI n → i + n ≤ n1 → k + n ≤ n2 → ∀ {P : Int32 → Md → Prop}, (∀ m', Fr [(2, 50), (2, 51)] m m' → (∀ j, j < n → gL m' 50 (60 * t + k + j) = gL m 50 (60 * s + i + j)) → (∀ j, (j < 60 * t + k ∨ 60 * t + k + n ≤ j) → gL m' 50 j = gL m 50 j) → P 0 m') → qX12_paste m (nI s) x2 (nI t) x4 x5 P := by
      intro i k n e2 e4 e5 q1 q2 P hP
      subst e2 e4 e5
      unfold qX12_paste
      refine M_isSlot_ok hs (b_1' (M_isSlot_ok ht (b_1 ⟨hv, ?_⟩)))
      have kk := M_pasteNum (Q := P) (x2 := nI i) (x4 := nI k) (x5 := nI n) hs ht hn1 hn2 m1 m2 (fun hb => absurd (by rw [nI_toInt (by omega), nI_toInt (by omega), nI_toInt (by omega)]; omega) hb) (fun i' k' n' e2 e4 e5 r1 r2 => by
        rw [nI_eq (by omega) (by omega)] at e2 e4 e5
        subst e2 e4 e5
        exact M_pasteLoop hs ht (by omega) (by omega) hP)
      rw [es, et] at kk ⊢
      rw [← s1, ← t1, s3, t3]
      rw [m1, m2] at kk ⊢
      exact c_n (nI_m1 (by omega)) ⟨hu, c_n' (nI_m1 (by omega)) ⟨hv, hu, c_y rfl kk⟩⟩
    refine N_lies hs hn1 n9s (fun i n e2 e5 q1 => b_1' ?_) (fun hb => b_0' (bad (fun q => hb ⟨q.1, q.2.2.1, q.2.2.2.1⟩) (hQ _ _ _ hR Fr.rf Fr.rf)))
    refine N_lies ht hn2 n9t (fun k n' e4 e5' q2 => b_1 ?_) (fun hb => b_0 (bad (fun q => hb ⟨q.2.1, q.2.2.1, q.2.2.2.2⟩) (hQ _ _ _ hR Fr.rf Fr.rf)))
    have hnn : n = n' := by rw [e5] at e5'; rw [nI_eq (by omega) (by omega)] at e5'; exact e5'
    subst hnn
    have ok' := @ok i k n e2 e4 e5 q1 q2
    subst e2 e4 e5
    rw [nl_60, pk_mul, pk_mul, nI_add, nI_add, nI_clamp (by omega), nI_clamp (by omega), nI_clamp (by omega), cpyT (by omega) (by omega) (by omega) (by omega), Nat.mul_comm s 60, Nat.mul_comm t 60]
    refine ⟨trivial, fun w hw => ok' (fun m' fm a b => hQ _ _ _ (fun t' ht' => ?_) (by rw [hw]; exact Fr.sL 7 _ (by decide)) fm)⟩
    have fw : Fr [(2, 7)] nb w := by rw [hw]; exact Fr.sL 7 _ (by decide)
    have g7 : gL w 7 = va_cpy (gL nb 7) (gL nb 7) (60 * s + i) (60 * t + k) n := by rw [hw]; rfl
    obtain ⟨d1, d2, d3, d4⟩ := hR t' ht'
    rw [fw.2.1 8 (by decide), fw.2.1 9 (by decide), fm.2.1 48 (by decide), fm.2.1 49 (by decide), g7]
    refine ⟨d1, d2, d3, ?_⟩
    rcases d4 with d4 | ⟨kk, hkk, d5, d6⟩
    · exact Or.inl d4
    · refine Or.inr ⟨kk, hkk, d5, fun j hj => ?_⟩
      by_cases hc : 60 * t + k ≤ 60 * t' + j ∧ 60 * t' + j < 60 * t + k + n
      · rw [pk_cpy_in hc.1 hc.2]
        obtain ⟨j', hj', e⟩ : ∃ j', j' < n ∧ 60 * t' + j = 60 * t + k + j' := ⟨60 * t' + j - (60 * t + k), by omega, by omega⟩
        rw [e, a j' hj', show 60 * s + i + (60 * t + k + j' - (60 * t + k)) = 60 * s + (i + j') by omega, show 60 * s + i + j' = 60 * s + (i + j') by omega]
        exact s5 (i + j') (by omega)
      · rw [pk_cpy_out (by omega), b _ (by omega)]; exact d6 j hj
  · have hne : ¬ nI w1 = nI w2 := by rw [nI_eq (by omega) (by omega)]; exact hww
    refine c_n hne ?_
    unfold qX12_paste
    refine M_isSlot_ok hs (b_1' (M_isSlot_ok ht (b_1 ⟨hv, ?_⟩)))
    rw [es, et, ← s2, ← t2, ← s1, ← t1, s3, t3, s4, t4]
    exact c_n (nI_m1 (by omega)) ⟨hu, c_n' (nI_m1 (by omega)) ⟨hv, hu, c_n hne (hQ _ _ _ hR Fr.rf Fr.rf)⟩⟩
