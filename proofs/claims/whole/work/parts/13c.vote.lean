theorem bitF_c {f g : Nat → Bool} : ∀ k, (∀ i, i < k → f i = g i) → bitF f k = bitF g k := by
  intro k
  induction k with
  | zero => intro _; rfl
  | succ k ih => intro h; show bitF f k + _ = bitF g k + _; rw [ih (fun i hi => h i (by omega)), h k (by omega)]
def fl9 (l : List Bool) (k : Nat) : Bool := l.getD k false
theorem bt_or : ∀ (a b c d e f g h i : Bool) (v : Fin 9), nI (bitF (fl9 [a, b, c, d, e, f, g, h, i]) 9) ||| ((1 : Int32) <<< (nI v.val &&& 31)) = nI (bitF (fun w => if w = v.val then true else fl9 [a, b, c, d, e, f, g, h, i] w) 9) := by decide +kernel
theorem bt_an : ∀ (a b c d e f g h i : Bool) (v : Fin 9), nI (bitF (fl9 [a, b, c, d, e, f, g, h, i]) 9) &&& (((1 : Int32) <<< (nI v.val &&& 31)) ^^^ (-1)) = nI (bitF (fun w => if w = v.val then false else fl9 [a, b, c, d, e, f, g, h, i] w) 9) := by decide +kernel
theorem fl9_eq (f : Nat → Bool) {k : Nat} (hk : k < 9) : f k = fl9 [f 0, f 1, f 2, f 3, f 4, f 5, f 6, f 7, f 8] k := by
  rcases (show k = 0 ∨ k = 1 ∨ k = 2 ∨ k = 3 ∨ k = 4 ∨ k = 5 ∨ k = 6 ∨ k = 7 ∨ k = 8 by omega) with rfl | rfl | rfl | rfl | rfl | rfl | rfl | rfl | rfl <;> rfl
theorem bit_or (f : Nat → Bool) {v : Nat} (hv : v < 9) : nI (bitF f 9) ||| ((1 : Int32) <<< (nI v &&& 31)) = nI (bitF (fun w => if w = v then true else f w) 9) := by
  have h := bt_or (f 0) (f 1) (f 2) (f 3) (f 4) (f 5) (f 6) (f 7) (f 8) ⟨v, hv⟩
  rw [bitF_c 9 (fun i hi => fl9_eq f hi), h]
  congr 1
theorem bit_an (f : Nat → Bool) {v : Nat} (hv : v < 9) : nI (bitF f 9) &&& (((1 : Int32) <<< (nI v &&& 31)) ^^^ (-1)) = nI (bitF (fun w => if w = v then false else f w) 9) := by
  have h := bt_an (f 0) (f 1) (f 2) (f 3) (f 4) (f 5) (f 6) (f 7) (f 8) ⟨v, hv⟩
  rw [bitF_c 9 (fun i hi => fl9_eq f hi), h]
  congr 1
theorem zI (b : Bool) : (if b then (1 : Int32) else 0) = 0 ↔ b = false := by cases b <;> decide
theorem sim_vote {c : Nat} {nb m st la sp ac bd sg : Md} (hR : RW c m st la sp ac bd sg) {x1 x2 x3 : Int32} {Q : Int32 → Md → Md → Md → Int32 → Md → Prop} (hQ : ∀ r bd' m', RW c m' st la sp ac bd' sg → Fr [(1, 1)] m m' → Q r nb st bd' r m') : qX11_vote nb st bd x1 x2 x3 (fun r nb' st' bd' => qX12_vote m x1 x2 x3 (fun r' m' => Q r nb' st' bd' r' m')) := by
  obtain ⟨A, hm, hw, hs, hn⟩ := id hR
  have e5 : gA m 1 5 = nI (A 55 0) := hm.1.2.2.2.2.2.1
  have s5 : gF bd 0 = nI (A 55 0) := hn.2.2.2.1.1.1
  have b5 : A 55 0 ≤ 60 := hw.1.2.2.2.2.2.1
  unfold qX11_vote qX12_vote
  rcases ix32 x1 (n := A 55 0) (by omega) with hb | ⟨h, hh, rfl⟩
  · exact bd_has0 s5 (by omega) hb (b_0' (m_isHe0 e5 (by omega) hb (b_0' (hQ _ _ _ hR Fr.rf))))
  refine bd_has1 s5 (by omega) hh (b_1' ?_)
  rcases ix32 x2 (n := 9) (by omega) with hb | ⟨v, hv, rfl⟩
  · have hM := m_isHe1 (Q := fun r2 v2_0 => (r2 = 0 ∨ r2 = 1) → (r2 = 0 → Q (-2) nb st bd ((-2)) v2_0) ∧ (¬ r2 = 0 → qX12_in x2.toInt64 0 8 (fun r14 => (r14 = 0 ∨ r14 = 1) → (¬ r14 = 0 → qX12_hearing (nI h) (fun r29 => vp_in (r29 + 1) 11570 ∧ ((¬ (gA v2_0 1 (r29 + 1).toNatClampNeg) = 0 → qX12_hearing (nI h) (fun r47 => (x3 = 0 → vp_in ((r47 + 2) + x2) 11570 ∧ (∀ w63 : Md, w63 = tA v2_0 1 ((r47 + 2) + x2) 2 → Q (-2) nb st bd 0 w63)) ∧ (¬ x3 = 0 → vp_in ((r47 + 2) + x2) 11570 ∧ (∀ w63 : Md, w63 = tA v2_0 1 ((r47 + 2) + x2) 1 → Q (-2) nb st bd 0 w63)))) ∧ ((gA v2_0 1 (r29 + 1).toNatClampNeg) = 0 → Q (-2) nb st bd ((-5)) v2_0)))) ∧ (r14 = 0 → Q (-2) nb st bd ((-2)) v2_0)))) e5 (by omega) hh (b_1' (inN_bad (n := 8) rfl hb (b_0 (hQ _ _ _ hR Fr.rf))))
    refine ⟨fun _ => hM, fun h1 => ⟨fun h2 => ?_, fun _ => hM⟩⟩
    exfalso
    simp only [Int32.lt_iff_toInt_lt, Int32.le_iff_toInt_le, ← Int32.toInt_inj, tl_0, tl_1, tl_2, tl_3, tl_4, tl_5, tl_6, tl_7, tl_8, tl_9, tl_10, tl_11, tl_12, tl_13, tl_15, tl_16, tl_20, tl_24, tl_26, tl_30, tl_32, tl_36, tl_39, tl_40, tl_45, tl_48, tl_50, tl_57, tl_59, tl_60, tl_61, tl_62, tl_64, tl_72, tl_73, tl_80, tl_90, tl_97, tl_99, tl_100, tl_120, tl_122, tl_123, tl_127, tl_128, tl_199, tl_200, tl_255, tl_256, tl_290, tl_399, tl_400, tl_500, tl_512, tl_520, tl_600, tl_999, tl_1000, tl_2000, tl_9999, tl_10000, tm_1, tm_2, tm_3, tm_4, tm_5, tm_6, tm_7, tm_8, tm_9, tm_128] at h1 h2; omega
  obtain ⟨q1, q2, q3, q4, q5⟩ := hn.2.2.2.1.1.2 h hh
  obtain ⟨p1, p2, p3⟩ := hm.2.2.2.2.2.2.2.1 h hh
  obtain ⟨w1, w2, w3⟩ := hw.2.2.2.2.2.2.2.1.1 h hh
  refine c_n (nI_pos (by omega)) (c_y (nI_lt (b := 9) hv (by decide)) ⟨vp_in_nI (by omega) (by decide), ?_⟩)
  rw [nI_clamp (by omega), q3]
  have hM : ∀ {P : Int32 → Md → Prop}, (A 38 h = 0 → P (-5) m) → (¬ A 38 h = 0 → (x3 = 0 → P 0 (tA m 1 (nI (6030 + 11 * h + 2 + v)) 2)) ∧ (¬ x3 = 0 → P 0 (tA m 1 (nI (6030 + 11 * h + 2 + v)) 1))) → qX12_isHearing m (nI h) (fun r2 v2_0 => (r2 = 0 ∨ r2 = 1) → (r2 = 0 → P ((-2)) v2_0) ∧ (¬ r2 = 0 → qX12_in (nI v).toInt64 0 8 (fun r14 => (r14 = 0 ∨ r14 = 1) → (¬ r14 = 0 → qX12_hearing (nI h) (fun r29 => vp_in (r29 + 1) 11570 ∧ ((¬ (gA v2_0 1 (r29 + 1).toNatClampNeg) = 0 → qX12_hearing (nI h) (fun r47 => (x3 = 0 → vp_in ((r47 + 2) + (nI v)) 11570 ∧ (∀ w63 : Md, w63 = tA v2_0 1 ((r47 + 2) + (nI v)) 2 → P 0 w63)) ∧ (¬ x3 = 0 → vp_in ((r47 + 2) + (nI v)) 11570 ∧ (∀ w63 : Md, w63 = tA v2_0 1 ((r47 + 2) + (nI v)) 1 → P 0 w63)))) ∧ ((gA v2_0 1 (r29 + 1).toNatClampNeg) = 0 → P ((-5)) v2_0)))) ∧ (r14 = 0 → P ((-2)) v2_0)))) := by
    intro P k0 k1
    refine m_isHe1 e5 (by omega) hh (b_1' (inN_ok (n := 8) (by decide) rfl (by omega) (b_1 ?_)))
    unfold qX12_hearing
    dsimp only
    rw [nl_6030, nl_11, pk_mul, nI_add, nl_1, nI_add, nI_clamp (by omega), p2, nl_2, nI_add, nI_add]
    refine ⟨vp_in_nI (by omega) (by decide), c_eq' rfl nl_0 (by omega) (by decide) k0 (fun e => ⟨fun hx => ⟨vp_in_nI (by omega) (by decide), fun w hw => ?_⟩, fun hx => ⟨vp_in_nI (by omega) (by decide), fun w hw => ?_⟩⟩)⟩
    · rw [hw]; exact (k1 e).1 hx
    · rw [hw]; exact (k1 e).2 hx
  by_cases ho : A 38 h = 0
  · refine c_y' (by rw [ho]; decide) (hM (fun _ => hQ _ _ _ hR Fr.rf) (fun e => absurd ho e))
  have ho1 : A 38 h = 1 := by omega
  refine c_n' (by rw [ho1]; decide) ?_
  have key : ∀ (x : Nat) (bd' m' : Md), 1 ≤ x → x ≤ 2 → gA m' 1 = va_up (gA m 1) (6030 + 11 * h + 2 + v) (nI x) → Fr [(1, 1)] m m' → Fr [(1, 4), (1, 5)] bd bd' → gA bd' 4 = va_up (gA bd 4) h (nI (bitF (fun w => if w = v then true else (fun v => A 39 (9 * h + v) != 0) w) 9)) → gA bd' 5 = va_up (gA bd 5) h (nI (bitF (fun w => if w = v then (x == 1) else (fun v => A 39 (9 * h + v) == 1) w) 9)) → Q 0 nb st bd' 0 m' := by
    intro x bd' m' x1 x2 hV fm fb g4 g5
    have hv' : ∀ k, k ≠ 6030 + 11 * h + 2 + v → gA m' 1 k = gA m 1 k := fun k q => by rw [hV, va_up_ne' _ _ q]
    have hv : ∀ k, k ≠ 6030 + 11 * h + 2 + v → gA m' 1 k = gA m 1 k := hv'
    refine hQ _ _ _ ⟨upc A 39 (9 * h + v) x, ?_, ?_, hs, hn.1, hn.2.1, hn.2.2.1, ⟨⟨(fb.1 0 (by decide)).trans s5, fun h' hh' => ?_⟩, ?_⟩, hn.2.2.2.2⟩ fm
    · obtain ⟨⟨k0, k1, k2, k3, k4, k5, k6, k7, k8, k9⟩, h1, h2, h3, h4, h5, h6, h7, h8, h9⟩ := id hm; obtain ⟨⟨w0, w1, w2, w3, w4, w5, w6, w7, w8, w9, wc⟩, -, -, -, wn, ws, wa, -⟩ := id hw; refine ⟨⟨(hv 0 (by omega)).trans k0, (hv 1 (by omega)).trans k1, (hv 2 (by omega)).trans k2, (hv 3 (by omega)).trans k3, (hv 4 (by omega)).trans k4, (hv 5 (by omega)).trans k5, (hv 6 (by omega)).trans k6, (hv 7 (by omega)).trans k7, (hv 8 (by omega)).trans k8, (hv 9 (by omega)).trans k9⟩, h1.w w1 (fun k _ _ => hv k (by omega)), h2.w (by omega) (fun k _ _ => hv k (by omega)), h3.w w6 (fun k _ _ => hv k (by omega)), h4.w w2 wn (fun k _ _ => hv k (by omega)), h5.w w3 ws (fun k _ _ => hv k (by omega)), h6.w w4 wa (fun k _ _ => hv k (by omega)), ?_, h8.w w7 (fun k _ _ => hv k (by omega)), h9.w (by omega) (fun k _ _ => hv k (by omega))⟩
      intro h' hh'
      have hh2 : h' < A 55 0 := hh'
      obtain ⟨r1, r2, r3⟩ := h7 h' hh'
      rw [hv _ (by omega), hv _ (by omega)]
      refine ⟨r1, r2, fun w hw9 => ?_⟩
      show _ = nI (va_up (A 39) (9 * h + v) x (9 * h' + w))
      by_cases e : 9 * h' + w = 9 * h + v
      · obtain ⟨rfl, rfl⟩ : h' = h ∧ w = v := by omega
        rw [hV, va_up_eq, va_up_eq]
      · rw [hv _ (by omega), va_up_ne' _ _ e]; exact r3 w hw9
    · obtain ⟨⟨w0, w1, w2, w3, w4, w5, w6, w7, w8, w9, wc⟩, v1, ⟨v2, v2b, v2c⟩, ⟨v3, v3b, v3c⟩, v4, v5, v6, v7, v8, ⟨v9, v9b, v9c⟩⟩ := id hw; refine ⟨⟨w0, w1, w2, w3, w4, w5, w6, w7, w8, w9, wc⟩, v1, ⟨v2, v2b, v2c⟩, ⟨v3, v3b, v3c⟩, v4, v5, v6, ⟨fun h' hh' => ⟨(v7.1 h' hh').1, (v7.1 h' hh').2.1, fun w hw9 => ?_⟩, v7.2⟩, v8, ⟨v9, v9b, v9c⟩⟩
      show va_up (A 39) (9 * h + v) x (9 * h' + w) ≤ 2
      by_cases e : 9 * h' + w = 9 * h + v
      · rw [e, va_up_eq]; exact x2
      · rw [va_up_ne' _ _ e]; exact (v7.1 h' hh').2.2 w hw9
    · have hh2 : h' < A 55 0 := hh'
      obtain ⟨r1, r2, r3, r4, r5⟩ := hn.2.2.2.1.1.2 h' hh'
      rw [fb.2.1 1 (by decide), fb.2.1 2 (by decide), fb.2.2.2.2.1 3 (by decide), g4, g5]
      refine ⟨r1, r2, r3, ?_, ?_⟩
      · show _ = nI (bitF (fun w => va_up (A 39) (9 * h + v) x (9 * h' + w) != 0) 9)
        by_cases e : h' = h
        · subst e
          rw [va_up_eq]
          congr 1
          refine bitF_c 9 (fun i hi => ?_)
          by_cases ei : i = v
          · rw [if_pos ei, ei, va_up_eq]; exact (bne_iff_ne.mpr (by omega)).symm
          · rw [if_neg ei, va_up_ne' _ _ (by omega)]
        · rw [va_up_ne' _ _ e, r4]
          congr 1
          exact bitF_c 9 (fun i hi => by rw [va_up_ne' _ _ (by omega)])
      · show _ = nI (bitF (fun w => va_up (A 39) (9 * h + v) x (9 * h' + w) == 1) 9)
        by_cases e : h' = h
        · subst e
          rw [va_up_eq]
          congr 1
          refine bitF_c 9 (fun i hi => ?_)
          by_cases ei : i = v
          · rw [if_pos ei, ei, va_up_eq]
          · rw [if_neg ei, va_up_ne' _ _ (by omega)]
        · rw [va_up_ne' _ _ e, r5]
          congr 1
          exact bitF_c 9 (fun i hi => by rw [va_up_ne' _ _ (by omega)])
    · have z := hn.2.2.2.1.2
      obtain ⟨n, na, pl, to, yr, un, k1, k2, k3, k4⟩ := z
      refine ⟨n, na, pl, to, yr, un, k1, (fb.1 6 (by decide)).trans k2, fun i hi => ?_, k4⟩
      rw [fb.2.1 7 (by decide), fb.2.1 8 (by decide), fb.2.1 9 (by decide), fb.2.1 10 (by decide), fb.2.1 11 (by decide)]
      exact k3 i hi
  unfold qX1_cast
  rw [nI_clamp (by omega), q4, bit_or _ hv]
  refine ⟨vp_in_nI (by omega) (by decide), vp_in_nI (by omega) (by decide), fun w hw1 => ?_⟩
  have g5 : gA w 5 h = nI (bitF (fun v => A 39 (9 * h + v) == 1) 9) := by rw [hw1]; exact q5
  rw [g5, bit_or _ hv, bit_an _ hv]
  have h4 : ∀ u : Int32, Fr [(1, 4), (1, 5)] bd (tA w 5 (nI h) u) := fun u => by rw [hw1]; exact Fr.tr (Fr.tA 4 _ _ (by decide)) (Fr.tA 5 _ _ (by decide))
  have k4 : ∀ u : Int32, gA (tA w 5 (nI h) u) 4 = va_up (gA bd 4) h (nI (bitF (fun w => if w = v then true else (fun v => A 39 (9 * h + v) != 0) w) 9)) := fun u => by
    rw [hw1]; simp (disch := omega) only [ofI1, nI_add, pk_mul, pk_sub, nI_clamp, imin_nI, imax_nI, nl_0, nl_1, nl_2, nl_3, nl_4, nl_5, nl_6, nl_7, nl_8, nl_9, nl_10, nl_11, nl_12, nl_13, nl_15, nl_16, nl_20, nl_24, nl_26, nl_30, nl_32, nl_36, nl_39, nl_40, nl_45, nl_48, nl_50, nl_57, nl_59, nl_60, nl_61, nl_62, nl_64, nl_72, nl_73, nl_80, nl_90, nl_97, nl_99, nl_100, nl_120, nl_122, nl_123, nl_127, nl_128, nl_199, nl_200, nl_255, nl_256, nl_290, nl_399, nl_400, nl_500, nl_512, nl_520, nl_600, nl_999, nl_1000, nl_2000, nl_9999, nl_10000, nl_14, nl_17, nl_18, nl_19, nl_21, nl_22, nl_23, nl_25, nl_27, nl_28, nl_29, nl_31, nl_33, nl_34, nl_35, nl_47, nl_51, nl_63, nl_110, nl_195, nl_240, nl_1370, nl_3710, nl_6030, nl_6690, nl_7490, nl_7610, nl_9170, nl_11570, gA_sF, gL_sF, gB_sF, gZ_sF, gO_sF, gX_sF, gF_sA, gL_sA, gB_sA, gZ_sA, gO_sA, gX_sA, gF_sL, gA_sL, gB_sL, gZ_sL, gO_sL, gX_sL, gF_sB, gA_sB, gL_sB, gZ_sB, gO_sB, gX_sB, gF_sZ, gA_sZ, gL_sZ, gB_sZ, gO_sZ, gX_sZ, gF_sO, gA_sO, gL_sO, gB_sO, gZ_sO, gX_sO, gF_sX, gA_sX, gL_sX, gB_sX, gZ_sX, gO_sX, gF_tA, gL_tA, gB_tA, gZ_tA, gO_tA, gX_tA, gF_tL, gA_tL, gB_tL, gZ_tL, gO_tL, gX_tL, gF_tB, gA_tB, gL_tB, gZ_tB, gO_tB, gX_tB, gF_tZ, gA_tZ, gL_tZ, gB_tZ, gO_tZ, gX_tZ, gF_sF, gA_sA, gL_sL, gB_sB, gZ_sZ, gO_sO, gX_sX, gA_tA, gL_tL, gB_tB, gZ_tZ, reduceIte, Nat.reduceEqDiff, Nat.zero_ne_one, Nat.one_ne_zero, Nat.succ_ne_self, forall_eq, vpT, cpyT, nI_leI, nI_ltI, nI_eq, nI_m1, oI_eqn, oI_eqm, va_up_ne', va_up_eq, eq_self_iff_true, true_or, or_true, true_implies, not_true_eq_false, not_false_eq_true, false_implies, and_true, true_and, forall_const, implies_true, ne_eq, Nat.add_sub_cancel, nI_pos, ite_self]
  have k5 : ∀ u : Int32, gA (tA w 5 (nI h) u) 5 = va_up (gA bd 5) h u := fun u => by
    rw [hw1]; simp (disch := omega) only [ofI1, nI_add, pk_mul, pk_sub, nI_clamp, imin_nI, imax_nI, nl_0, nl_1, nl_2, nl_3, nl_4, nl_5, nl_6, nl_7, nl_8, nl_9, nl_10, nl_11, nl_12, nl_13, nl_15, nl_16, nl_20, nl_24, nl_26, nl_30, nl_32, nl_36, nl_39, nl_40, nl_45, nl_48, nl_50, nl_57, nl_59, nl_60, nl_61, nl_62, nl_64, nl_72, nl_73, nl_80, nl_90, nl_97, nl_99, nl_100, nl_120, nl_122, nl_123, nl_127, nl_128, nl_199, nl_200, nl_255, nl_256, nl_290, nl_399, nl_400, nl_500, nl_512, nl_520, nl_600, nl_999, nl_1000, nl_2000, nl_9999, nl_10000, nl_14, nl_17, nl_18, nl_19, nl_21, nl_22, nl_23, nl_25, nl_27, nl_28, nl_29, nl_31, nl_33, nl_34, nl_35, nl_47, nl_51, nl_63, nl_110, nl_195, nl_240, nl_1370, nl_3710, nl_6030, nl_6690, nl_7490, nl_7610, nl_9170, nl_11570, gA_sF, gL_sF, gB_sF, gZ_sF, gO_sF, gX_sF, gF_sA, gL_sA, gB_sA, gZ_sA, gO_sA, gX_sA, gF_sL, gA_sL, gB_sL, gZ_sL, gO_sL, gX_sL, gF_sB, gA_sB, gL_sB, gZ_sB, gO_sB, gX_sB, gF_sZ, gA_sZ, gL_sZ, gB_sZ, gO_sZ, gX_sZ, gF_sO, gA_sO, gL_sO, gB_sO, gZ_sO, gX_sO, gF_sX, gA_sX, gL_sX, gB_sX, gZ_sX, gO_sX, gF_tA, gL_tA, gB_tA, gZ_tA, gO_tA, gX_tA, gF_tL, gA_tL, gB_tL, gZ_tL, gO_tL, gX_tL, gF_tB, gA_tB, gL_tB, gZ_tB, gO_tB, gX_tB, gF_tZ, gA_tZ, gL_tZ, gB_tZ, gO_tZ, gX_tZ, gF_sF, gA_sA, gL_sL, gB_sB, gZ_sZ, gO_sO, gX_sX, gA_tA, gL_tL, gB_tB, gZ_tZ, reduceIte, Nat.reduceEqDiff, Nat.zero_ne_one, Nat.one_ne_zero, Nat.succ_ne_self, forall_eq, vpT, cpyT, nI_leI, nI_ltI, nI_eq, nI_m1, oI_eqn, oI_eqm, va_up_ne', va_up_eq, eq_self_iff_true, true_or, or_true, true_implies, not_true_eq_false, not_false_eq_true, false_implies, and_true, true_and, forall_const, implies_true, ne_eq, Nat.add_sub_cancel, nI_pos, ite_self]
  have kV : ∀ x : Int32, gA (tA m 1 (nI (6030 + 11 * h + 2 + v)) x) 1 = va_up (gA m 1) (6030 + 11 * h + 2 + v) x := fun x => by
    simp (disch := omega) only [ofI1, nI_add, pk_mul, pk_sub, nI_clamp, imin_nI, imax_nI, nl_0, nl_1, nl_2, nl_3, nl_4, nl_5, nl_6, nl_7, nl_8, nl_9, nl_10, nl_11, nl_12, nl_13, nl_15, nl_16, nl_20, nl_24, nl_26, nl_30, nl_32, nl_36, nl_39, nl_40, nl_45, nl_48, nl_50, nl_57, nl_59, nl_60, nl_61, nl_62, nl_64, nl_72, nl_73, nl_80, nl_90, nl_97, nl_99, nl_100, nl_120, nl_122, nl_123, nl_127, nl_128, nl_199, nl_200, nl_255, nl_256, nl_290, nl_399, nl_400, nl_500, nl_512, nl_520, nl_600, nl_999, nl_1000, nl_2000, nl_9999, nl_10000, nl_14, nl_17, nl_18, nl_19, nl_21, nl_22, nl_23, nl_25, nl_27, nl_28, nl_29, nl_31, nl_33, nl_34, nl_35, nl_47, nl_51, nl_63, nl_110, nl_195, nl_240, nl_1370, nl_3710, nl_6030, nl_6690, nl_7490, nl_7610, nl_9170, nl_11570, gA_sF, gL_sF, gB_sF, gZ_sF, gO_sF, gX_sF, gF_sA, gL_sA, gB_sA, gZ_sA, gO_sA, gX_sA, gF_sL, gA_sL, gB_sL, gZ_sL, gO_sL, gX_sL, gF_sB, gA_sB, gL_sB, gZ_sB, gO_sB, gX_sB, gF_sZ, gA_sZ, gL_sZ, gB_sZ, gO_sZ, gX_sZ, gF_sO, gA_sO, gL_sO, gB_sO, gZ_sO, gX_sO, gF_sX, gA_sX, gL_sX, gB_sX, gZ_sX, gO_sX, gF_tA, gL_tA, gB_tA, gZ_tA, gO_tA, gX_tA, gF_tL, gA_tL, gB_tL, gZ_tL, gO_tL, gX_tL, gF_tB, gA_tB, gL_tB, gZ_tB, gO_tB, gX_tB, gF_tZ, gA_tZ, gL_tZ, gB_tZ, gO_tZ, gX_tZ, gF_sF, gA_sA, gL_sL, gB_sB, gZ_sZ, gO_sO, gX_sX, gA_tA, gL_tL, gB_tB, gZ_tZ, reduceIte, Nat.reduceEqDiff, Nat.zero_ne_one, Nat.one_ne_zero, Nat.succ_ne_self, forall_eq, vpT, cpyT, nI_leI, nI_ltI, nI_eq, nI_m1, oI_eqn, oI_eqm, va_up_ne', va_up_eq, eq_self_iff_true, true_or, or_true, true_implies, not_true_eq_false, not_false_eq_true, false_implies, and_true, true_and, forall_const, implies_true, ne_eq, Nat.add_sub_cancel, nI_pos, ite_self]
  refine ⟨fun hx => ⟨vp_in_nI (by omega) (by decide), vp_in_nI (by omega) (by decide), fun w2 hw2 => ?_⟩, fun hx => ⟨vp_in_nI (by omega) (by decide), vp_in_nI (by omega) (by decide), fun w2 hw2 => ?_⟩⟩
  · subst hw2
    refine hM (fun e => absurd e ho) (fun _ => ⟨fun _ => key 2 _ _ (by omega) (by omega) (kV _) (Fr.tA 1 _ _ (by decide)) (h4 _) (k4 _) ?_, fun h => absurd hx h⟩)
    rw [k5]; rfl
  · subst hw2
    refine hM (fun e => absurd e ho) (fun _ => ⟨fun h => absurd h hx, fun _ => key 1 _ _ (by omega) (by omega) (kV _) (Fr.tA 1 _ _ (by decide)) (h4 _) (k4 _) ?_⟩)
    rw [k5]; rfl
