set_option maxHeartbeats 4000000 in
set_option maxRecDepth 100000 in
theorem kX3_reaches {l : Launch} {E : VE} (h0 : Nat) (h1 : Nat) (a0 : Nat → Nat) (a1 : Nat → Nat) (u0 : Md) (u1 : Md) (x2 : Int32) (x3 : Int32) (x4 : Int32) (x5 : Int32) {Q : Int32 → Md → Md → Prop} (hw : qX3_reaches u0 u1 x2 x3 x4 x5 Q) : MI l yX3_reaches cX3_reaches 6 .boolean 2 0 0 E [.ref h0, .ref h1, .int x2, .int x3, .int x4, .int x5] ([wX3 E h0 a0 u0, wX2 E h1 a1 u1].flatten) (fun (U : Md × Md) => [wX3 E h0 a0 U.1, wX2 E h1 a1 U.2].flatten) (fun (r : Int32) (U : Md × Md) => (r = 0 ∨ r = 1) ∧ Q r U.1 U.2) := by
  refine MI.of (own := RX3) (by decide) rfl (Nat.le_of_ble_eq_true rfl) ?_
  intro X C hini hret
  show VV X 0 0 ([wX3 E h0 a0 u0, wX2 E h1 a1 u1].flatten) [(0, .ref h0), (1, .ref h1), (2, .int x2), (3, .int x3), (4, .int x4), (5, .int x5)] 0 []
  unfold qX3_reaches at hw
  refine v_iload_n C dX3_reaches_0 2 rfl ?_
  refine v_iload C dX3_reaches_1 4 rfl ?_
  refine v_ishr C dX3_reaches_3 ?_
  refine v_iconst (v := 1) C dX3_reaches_4 (by decide) ?_
  refine v_iand C dX3_reaches_5 ?_
  refine v_if_ne (tgt := 27) C dX3_reaches_6 (by decide) (fun hc => ?_) (fun hc => ?_)
  · have hw := hw.1 hc
    refine v_iconst (v := 0) C dX3_reaches_27 (by decide) ?_
    exact hret _ _ _ _ 0 (u0, u1) dX3_reaches_28 rfl ⟨Or.inl rfl, hw⟩ (Nat.le_of_ble_eq_true rfl) (Nat.le_of_ble_eq_true rfl)
  · have hw := hw.2 hc
    refine v_aload_n C dX3_reaches_9 0 rfl ?_
    refine v_aload_n C dX3_reaches_10 1 rfl ?_
    refine v_iload_n C dX3_reaches_11 2 rfl ?_
    refine v_iload_n C dX3_reaches_12 3 rfl ?_
    refine v_iload C dX3_reaches_13 4 rfl ?_
    refine v_callFi (st := []) (ci := 3) (qb := 0) C (kX3_sumWith h0 h1 a0 a1 _ _ _ _ _ hw) mM_X3_132 mI_X3 mC_X3_sumWith mN_X3_sumWith mS_X3_sumWith rfl rfl hd_X3_sumWith ⟨Nat.le_of_ble_eq_true rfl, Nat.le_of_ble_eq_true rfl⟩ ⟨Nat.le_of_ble_eq_true rfl, Nat.le_of_ble_eq_true rfl⟩ rfl (Nat.le_of_ble_eq_true rfl) dX3_reaches_15 (fun r15 U15 hw => ?_)
    obtain ⟨v15_0, v15_1⟩ := U15
    refine v_iload C dX3_reaches_18 5 rfl ?_
    refine v_icmp_ne (tgt := 27) C dX3_reaches_20 (by decide) (fun hc => ?_) (fun hc => ?_)
    · have hw := hw.1 hc
      refine v_iconst (v := 0) C dX3_reaches_27 (by decide) ?_
      exact hret _ _ _ _ 0 (v15_0, v15_1) dX3_reaches_28 rfl ⟨Or.inl rfl, hw⟩ (Nat.le_of_ble_eq_true rfl) (Nat.le_of_ble_eq_true rfl)
    · have hw := hw.2 hc
      refine v_iconst (v := 1) C dX3_reaches_23 (by decide) ?_
      refine v_goto (tgt := 28) C dX3_reaches_24 (by decide) ?_
      exact hret _ _ _ _ 1 (v15_0, v15_1) dX3_reaches_28 rfl ⟨Or.inr rfl, hw⟩ (Nat.le_of_ble_eq_true rfl) (Nat.le_of_ble_eq_true rfl)
set_option maxHeartbeats 4000000 in
set_option maxRecDepth 100000 in
theorem jX3_takeFirst_67 {X : VX} {E : VE} {l : Launch} (h0 : Nat) (h1 : Nat) (a0 : Nat → Nat) (a1 : Nat → Nat)  (Q : Md → Md → Prop) (C : VC X cX3_takeFirst 7 RX3 (rmL 3 0 0) E l) (hret : RetV X cX3_takeFirst 0 0 (fun (U : Md × Md) => [wX3 E h0 a0 U.1, wX2 E h1 a1 U.2].flatten) (fun (U : Md × Md) => Q U.1 U.2)) (K15 : Md → Md → Int32 → Int32 → Int32 → Prop) (hK15 : ∀ (u0 : Md) (u1 : Md) (y2 : Int32) (y3 : Int32) (y4 : Int32), K15 u0 u1 y2 y3 y4 → VV X 0 0 ([wX3 E h0 a0 u0, wX2 E h1 a1 u1].flatten) [(0, .ref h0), (1, .ref h1), (2, .int y2), (3, .int y3), (4, .int y4)] 15 []) : ∀ (u0 : Md) (u1 : Md) (y2 : Int32) (y4 : Int32) (y6 : Int32), qX3_takeFirst_67 Q K15 u0 u1 y2 y4 y6 → VV X 0 0 ([wX3 E h0 a0 u0, wX2 E h1 a1 u1].flatten) [(0, .ref h0), (1, .ref h1), (2, .int y2), (4, .int y4), (6, .int y6)] 67 [] := by
  intro u0 u1 y2 y4 y6 hw
  unfold qX3_takeFirst_67 at hw
  refine v_aload_n C dX3_takeFirst_67 0 rfl ?_
  refine v_get (ci := 3) C inT3 0 5 rfl rfl (by decide) mF_X3_23_X3_5 rfl dX3_takeFirst_68 ?_
  refine v_iload C dX3_takeFirst_71 3 rfl ?_
  refine v_aload_n C dX3_takeFirst_73 0 rfl ?_
  refine v_get (ci := 3) C inT3 0 7 rfl rfl (by decide) mF_X3_26_X3_7 rfl dX3_takeFirst_74 ?_
  refine v_iload C dX3_takeFirst_77 4 rfl ?_
  obtain ⟨hi79, hw⟩ := hw
  refine v_iald C 4 rfl hi79 dX3_takeFirst_79 ?_
  obtain ⟨hi80, hw⟩ := hw
  obtain ⟨w80, e80⟩ : ∃ z : Md, z = tA u0 5 y4 (gA u0 7 y6.toNatClampNeg) := ⟨_, rfl⟩
  have hw := hw w80 e80
  refine v_iast (ws' := [wX3 E h0 a0 w80, wX2 E h1 a1 u1].flatten) C 3 rfl hi80 (by rw [e80]; rfl) dX3_takeFirst_80 ?_
  refine v_iload_n C dX3_takeFirst_81 2 rfl ?_
  refine v_iconst (v := 1) C dX3_takeFirst_82 (by decide) ?_
  refine v_iload C dX3_takeFirst_83 4 rfl ?_
  refine v_ishl C dX3_takeFirst_85 ?_
  refine v_ior C dX3_takeFirst_86 ?_
  refine v_istore_n (lv' := [(2, .int (y2 ||| ((1 : Int32) <<< (y6 &&& 31)))), (0, .ref h0), (1, .ref h1), (4, .int y4), (6, .int y6)]) C dX3_takeFirst_87 (by decide) rfl ?_
  refine v_iload C dX3_takeFirst_88 4 rfl ?_
  refine v_istore_n (lv' := [(3, .int y6), (2, .int (y2 ||| ((1 : Int32) <<< (y6 &&& 31)))), (0, .ref h0), (1, .ref h1), (4, .int y4), (6, .int y6)]) C dX3_takeFirst_90 (by decide) rfl ?_
  refine v_iinc (lv' := [(4, .int (y4 + Int32.ofInt 1)), (3, .int y6), (2, .int (y2 ||| ((1 : Int32) <<< (y6 &&& 31)))), (0, .ref h0), (1, .ref h1), (6, .int y6)]) C dX3_takeFirst_91 4 rfl (by decide) rfl ?_
  refine v_goto (tgt := 15) C dX3_takeFirst_94 (by decide) ?_
  refine v_lv C (lv' := [(0, .ref h0), (1, .ref h1), (2, .int (y2 ||| ((1 : Int32) <<< (y6 &&& 31)))), (3, .int y6), (4, .int (y4 + Int32.ofInt 1))]) [3, 4, 2, 1, 0] rfl ?_
  exact hK15 w80 u1 (y2 ||| ((1 : Int32) <<< (y6 &&& 31))) y6 (y4 + Int32.ofInt 1) hw
set_option maxHeartbeats 4000000 in
set_option maxRecDepth 100000 in
theorem jX3_takeFirst_36 {X : VX} {E : VE} {l : Launch} (h0 : Nat) (h1 : Nat) (a0 : Nat → Nat) (a1 : Nat → Nat)  (Q : Md → Md → Prop) (C : VC X cX3_takeFirst 7 RX3 (rmL 3 0 0) E l) (hret : RetV X cX3_takeFirst 0 0 (fun (U : Md × Md) => [wX3 E h0 a0 U.1, wX2 E h1 a1 U.2].flatten) (fun (U : Md × Md) => Q U.1 U.2)) (K15 : Md → Md → Int32 → Int32 → Int32 → Prop) (hK15 : ∀ (u0 : Md) (u1 : Md) (y2 : Int32) (y3 : Int32) (y4 : Int32), K15 u0 u1 y2 y3 y4 → VV X 0 0 ([wX3 E h0 a0 u0, wX2 E h1 a1 u1].flatten) [(0, .ref h0), (1, .ref h1), (2, .int y2), (3, .int y3), (4, .int y4)] 15 []) : ∀ (n : Nat), ∀ (u0 : Md) (u1 : Md) (y2 : Int32) (y3 : Int32) (y4 : Int32) (y5 : Int32) (y6 : Int32), qX3_takeFirst_36 Q K15 n u0 u1 y2 y3 y4 y5 y6 → VV X 0 0 ([wX3 E h0 a0 u0, wX2 E h1 a1 u1].flatten) [(0, .ref h0), (1, .ref h1), (2, .int y2), (3, .int y3), (4, .int y4), (5, .int y5), (6, .int y6)] 36 [] := by
  intro n
  induction n with
  | zero =>
    intro u0 u1 y2 y3 y4 y5 y6 hw
    exact hw.elim
  | succ n ih =>
    intro u0 u1 y2 y3 y4 y5 y6 hw
    unfold qX3_takeFirst_36 at hw
    refine v_iload C dX3_takeFirst_36 6 rfl ?_
    refine v_aload_n C dX3_takeFirst_38 0 rfl ?_
    refine v_get (ci := 3) C inT3 0 6 rfl rfl (by decide) mF_X3_54_X3_6 rfl dX3_takeFirst_39 ?_
    refine v_iconst (v := 1) C dX3_takeFirst_42 (by decide) ?_
    refine v_isub C dX3_takeFirst_43 ?_
    refine v_icmp_ge (tgt := 67) C dX3_takeFirst_44 (by decide) (fun hc => ?_) (fun hc => ?_)
    · have hw := hw.1 hc
      refine v_lv C (lv' := [(0, .ref h0), (1, .ref h1), (2, .int y2), (4, .int y4), (6, .int y6)]) [0, 1, 2, 4, 6] rfl ?_
      exact jX3_takeFirst_67 h0 h1 a0 a1 Q C hret K15 hK15 u0 u1 y2 y4 y6 hw
    · have hw := hw.2 hc
      refine v_aload_n C dX3_takeFirst_47 0 rfl ?_
      refine v_aload_n C dX3_takeFirst_48 1 rfl ?_
      refine v_iload_n C dX3_takeFirst_49 2 rfl ?_
      refine v_iload_n C dX3_takeFirst_50 3 rfl ?_
      refine v_iload C dX3_takeFirst_51 6 rfl ?_
      refine v_iload C dX3_takeFirst_53 5 rfl ?_
      refine v_callFi (st := []) (ci := 3) (qb := 0) C (kX3_reaches h0 h1 a0 a1 _ _ _ _ _ _ hw) mM_X3_146 mI_X3 mC_X3_reaches mN_X3_reaches mS_X3_reaches rfl rfl hd_X3_reaches ⟨Nat.le_of_ble_eq_true rfl, Nat.le_of_ble_eq_true rfl⟩ ⟨Nat.le_of_ble_eq_true rfl, Nat.le_of_ble_eq_true rfl⟩ rfl (Nat.le_of_ble_eq_true rfl) dX3_takeFirst_55 (fun r55 U55 hw => ?_)
      obtain ⟨v55_0, v55_1⟩ := U55
      obtain ⟨h01_55, hw⟩ := hw
      have hw := hw h01_55
      refine v_if_ne (tgt := 67) C dX3_takeFirst_58 (by decide) (fun hc => ?_) (fun hc => ?_)
      · have hw := hw.1 hc
        refine v_lv C (lv' := [(0, .ref h0), (1, .ref h1), (2, .int y2), (4, .int y4), (6, .int y6)]) [0, 1, 2, 4, 6] rfl ?_
        exact jX3_takeFirst_67 h0 h1 a0 a1 Q C hret K15 hK15 v55_0 v55_1 y2 y4 y6 hw
      · have hw := hw.2 hc
        refine v_iinc (lv' := [(6, .int (y6 + Int32.ofInt 1)), (0, .ref h0), (1, .ref h1), (2, .int y2), (3, .int y3), (4, .int y4), (5, .int y5)]) C dX3_takeFirst_61 6 rfl (by decide) rfl ?_
        refine v_goto (tgt := 36) C dX3_takeFirst_64 (by decide) ?_
        refine v_lv C (lv' := [(0, .ref h0), (1, .ref h1), (2, .int y2), (3, .int y3), (4, .int y4), (5, .int y5), (6, .int (y6 + Int32.ofInt 1))]) [1, 2, 3, 4, 5, 6, 0] rfl ?_
        exact ih v55_0 v55_1 y2 y3 y4 y5 (y6 + Int32.ofInt 1) hw
set_option maxHeartbeats 4000000 in
set_option maxRecDepth 100000 in
theorem jX3_takeFirst_15 {X : VX} {E : VE} {l : Launch} (h0 : Nat) (h1 : Nat) (a0 : Nat → Nat) (a1 : Nat → Nat)  (Q : Md → Md → Prop) (C : VC X cX3_takeFirst 7 RX3 (rmL 3 0 0) E l) (hret : RetV X cX3_takeFirst 0 0 (fun (U : Md × Md) => [wX3 E h0 a0 U.1, wX2 E h1 a1 U.2].flatten) (fun (U : Md × Md) => Q U.1 U.2))  : ∀ (n : Nat), ∀ (u0 : Md) (u1 : Md) (y2 : Int32) (y3 : Int32) (y4 : Int32), qX3_takeFirst_15 Q n u0 u1 y2 y3 y4 → VV X 0 0 ([wX3 E h0 a0 u0, wX2 E h1 a1 u1].flatten) [(0, .ref h0), (1, .ref h1), (2, .int y2), (3, .int y3), (4, .int y4)] 15 [] := by
  intro n
  induction n with
  | zero =>
    intro u0 u1 y2 y3 y4 hw
    exact hw.elim
  | succ n ih =>
    intro u0 u1 y2 y3 y4 hw
    unfold qX3_takeFirst_15 at hw
    refine v_iload C dX3_takeFirst_15 4 rfl ?_
    refine v_aload_n C dX3_takeFirst_17 0 rfl ?_
    refine v_get (ci := 3) C inT3 0 1 rfl rfl (by decide) mF_X3_35_X3_1 rfl dX3_takeFirst_18 ?_
    refine v_icmp_ge (tgt := 97) C dX3_takeFirst_21 (by decide) (fun hc => ?_) (fun hc => ?_)
    · have hw := hw.1 hc
      exact hret _ _ _ _ (u0, u1) dX3_takeFirst_97 hw (Nat.le_of_ble_eq_true rfl) (Nat.le_of_ble_eq_true rfl)
    · have hw := hw.2 hc
      refine v_aload_n C dX3_takeFirst_24 0 rfl ?_
      refine v_aload_n C dX3_takeFirst_25 1 rfl ?_
      refine v_iload_n C dX3_takeFirst_26 2 rfl ?_
      refine v_iload_n C dX3_takeFirst_27 3 rfl ?_
      refine v_callFi (st := []) (ci := 3) (qb := 0) C (kX3_mostBehind h0 h1 a0 a1 _ _ _ _ hw) mM_X3_71 mI_X3 mC_X3_mostBehind mN_X3_mostBehind mS_X3_mostBehind rfl rfl hd_X3_mostBehind ⟨Nat.le_of_ble_eq_true rfl, Nat.le_of_ble_eq_true rfl⟩ ⟨Nat.le_of_ble_eq_true rfl, Nat.le_of_ble_eq_true rfl⟩ rfl (Nat.le_of_ble_eq_true rfl) dX3_takeFirst_28 (fun r28 U28 hw => ?_)
      obtain ⟨v28_0, v28_1⟩ := U28
      refine v_istore (lv' := [(5, .int r28), (0, .ref h0), (1, .ref h1), (2, .int y2), (3, .int y3), (4, .int y4)]) C dX3_takeFirst_31 (by decide) rfl ?_
      refine v_iconst (v := 0) C dX3_takeFirst_33 (by decide) ?_
      refine v_istore (lv' := [(6, .int 0), (5, .int r28), (0, .ref h0), (1, .ref h1), (2, .int y2), (3, .int y3), (4, .int y4)]) C dX3_takeFirst_34 (by decide) rfl ?_
      refine v_lv C (lv' := [(0, .ref h0), (1, .ref h1), (2, .int y2), (3, .int y3), (4, .int y4), (5, .int r28), (6, .int 0)]) [2, 3, 4, 5, 6, 1, 0] rfl ?_
      obtain ⟨n', hw⟩ := hw
      exact jX3_takeFirst_36 h0 h1 a0 a1 Q C hret (qX3_takeFirst_15 Q n) ih n' v28_0 v28_1 y2 y3 y4 r28 0 hw
set_option maxHeartbeats 4000000 in
set_option maxRecDepth 100000 in
theorem kX3_takeFirst {l : Launch} {E : VE} (h0 : Nat) (h1 : Nat) (a0 : Nat → Nat) (a1 : Nat → Nat) (u0 : Md) (u1 : Md) {Q : Md → Md → Prop} (hw : qX3_takeFirst u0 u1 Q) : MV l yX3_takeFirst cX3_takeFirst 7 3 0 0 E [.ref h0, .ref h1] ([wX3 E h0 a0 u0, wX2 E h1 a1 u1].flatten) (fun (U : Md × Md) => [wX3 E h0 a0 U.1, wX2 E h1 a1 U.2].flatten) (fun (U : Md × Md) => Q U.1 U.2) := by
  refine MV.of (own := RX3) (by decide) rfl (Nat.le_of_ble_eq_true rfl) ?_
  intro X C hini hret
  show VV X 0 0 ([wX3 E h0 a0 u0, wX2 E h1 a1 u1].flatten) [(0, .ref h0), (1, .ref h1)] 0 []
  unfold qX3_takeFirst at hw
  refine v_aload_n C dX3_takeFirst_0 0 rfl ?_
  refine v_aload_n C dX3_takeFirst_1 0 rfl ?_
  refine v_get (ci := 3) C inT3 0 1 rfl rfl (by decide) mF_X3_35_X3_1 rfl dX3_takeFirst_2 ?_
  obtain ⟨w5, e5⟩ : ∃ z : Md, z = sF u0 4 (gF u0 1) := ⟨_, rfl⟩
  have hw := hw w5 e5
  refine v_put (ci := 3) (ws' := [wX3 E h0 a0 w5, wX2 E h1 a1 u1].flatten) C tyX3 tyX3_ok nmX3 inT3 0 4 rfl rfl (by decide) mF_X3_143_X3_4 rfl rfl rfl rfl (Nat.le_of_ble_eq_true rfl) (by rw [e5]; rfl) dX3_takeFirst_5 ?_
  refine v_iconst (v := 0) C dX3_takeFirst_8 (by decide) ?_
  refine v_istore_n (lv' := [(2, .int 0), (0, .ref h0), (1, .ref h1)]) C dX3_takeFirst_9 (by decide) rfl ?_
  refine v_iconst (v := (-1)) C dX3_takeFirst_10 (by decide) ?_
  refine v_istore_n (lv' := [(3, .int ((-1))), (2, .int 0), (0, .ref h0), (1, .ref h1)]) C dX3_takeFirst_11 (by decide) rfl ?_
  refine v_iconst (v := 0) C dX3_takeFirst_12 (by decide) ?_
  refine v_istore (lv' := [(4, .int 0), (3, .int ((-1))), (2, .int 0), (0, .ref h0), (1, .ref h1)]) C dX3_takeFirst_13 (by decide) rfl ?_
  refine v_lv C (lv' := [(0, .ref h0), (1, .ref h1), (2, .int 0), (3, .int ((-1))), (4, .int 0)]) [3, 4, 2, 1, 0] rfl ?_
  obtain ⟨n', hw⟩ := hw
  exact jX3_takeFirst_15 h0 h1 a0 a1 Q C hret n' w5 u1 0 ((-1)) 0 hw
set_option maxHeartbeats 4000000 in
set_option maxRecDepth 100000 in
theorem kX3_greatestSum {l : Launch} {E : VE} (h0 : Nat) (h1 : Nat) (h2 : Nat) (a0 : Nat → Nat) (a1 : Nat → Nat) (a1_2 : Nat → Nat) (a1_3 : Nat → Nat) (a2 : Nat → Nat) (a2_6 : Nat → Nat) (a2_7 : Nat → Nat) (u0 : Md) (u1 : Md) (u1_2 : Md) (u1_3 : Md) (u2 : Md) (u2_6 : Md) (u2_7 : Md) {Q : Int32 → Md → Md → Md → Md → Md → Md → Md → Prop} (hw : qX3_greatestSum u0 u1 u1_2 u1_3 u2 u2_6 u2_7 Q) : MI l yX3_greatestSum cX3_greatestSum 4 .int 5 1 10240 E [.ref h0, .ref h1, .ref h2] ([wX3 E h0 a0 u0, wX8 E h1 a1 u1, wX2 E (a1 2) a1_2 u1_2, wX7 E (a1 3) a1_3 u1_3, wX10 E h2 a2 u2, wX5 E (a2 6) a2_6 u2_6, wX5 E (a2 7) a2_7 u2_7].flatten) (fun (U : Md × Md × Md × Md × Md × Md × Md) => [wX3 E h0 a0 U.1, wX8 E h1 a1 U.2.1, wX2 E (a1 2) a1_2 U.2.2.1, wX7 E (a1 3) a1_3 U.2.2.2.1, wX10 E h2 a2 U.2.2.2.2.1, wX5 E (a2 6) a2_6 U.2.2.2.2.2.1, wX5 E (a2 7) a2_7 U.2.2.2.2.2.2].flatten) (fun (r : Int32) (U : Md × Md × Md × Md × Md × Md × Md) => Q r U.1 U.2.1 U.2.2.1 U.2.2.2.1 U.2.2.2.2.1 U.2.2.2.2.2.1 U.2.2.2.2.2.2) := by
  refine MI.of (own := RX3) (by decide) rfl (Nat.le_of_ble_eq_true rfl) ?_
  intro X C hini hret
  show VV X 0 0 ([wX3 E h0 a0 u0, wX8 E h1 a1 u1, wX2 E (a1 2) a1_2 u1_2, wX7 E (a1 3) a1_3 u1_3, wX10 E h2 a2 u2, wX5 E (a2 6) a2_6 u2_6, wX5 E (a2 7) a2_7 u2_7].flatten) [(0, .ref h0), (1, .ref h1), (2, .ref h2)] 0 []
  unfold qX3_greatestSum at hw
  refine v_aload_n C dX3_greatestSum_0 0 rfl ?_
  refine v_aload_n C dX3_greatestSum_1 1 rfl ?_
  refine v_callVMi (st := []) (ci := 3) (qb := 0) C (kX3_choosePlaces h0 h1 a0 a1 a1_2 a1_3 _ _ _ _ hw) mM_X3_50 mI_X3 mC_X3_choosePlaces mN_X3_choosePlaces mS_X3_choosePlaces rfl rfl hd_X3_choosePlaces ⟨Nat.le_of_ble_eq_true rfl, Nat.le_of_ble_eq_true rfl⟩ ⟨Nat.le_of_ble_eq_true rfl, Nat.le_of_ble_eq_true rfl⟩ [0, 1, 2, 3] [4, 5, 6] (N0 := 7) rfl (by decide) (ms2 := (fun (U : Md × Md × Md × Md) => [wX3 E h0 a0 U.1, wX8 E h1 a1 U.2.1, wX2 E (a1 2) a1_2 U.2.2.1, wX7 E (a1 3) a1_3 U.2.2.2, wX10 E h2 a2 u2, wX5 E (a2 6) a2_6 u2_6, wX5 E (a2 7) a2_7 u2_7])) rfl (fun _ => rfl) (fun _ => rfl) (fun _ => rfl) rfl (Nat.le_of_ble_eq_true rfl) dX3_greatestSum_2 (fun r2 U2 hw => ?_)
  obtain ⟨v2_0, v2_1, v2_2, v2_3⟩ := U2
  obtain ⟨h01_2, hw⟩ := hw
  have hw := hw h01_2
  refine v_if_eq (tgt := 19) C dX3_greatestSum_5 (by decide) (fun hc => ?_) (fun hc => ?_)
  · have hw := hw.1 hc
    refine v_iconst (v := (-1)) C dX3_greatestSum_19 (by decide) ?_
    exact hret _ _ _ _ ((-1)) (v2_0, v2_1, v2_2, v2_3, u2, u2_6, u2_7) dX3_greatestSum_20 rfl hw (Nat.le_of_ble_eq_true rfl) (Nat.le_of_ble_eq_true rfl)
  · have hw := hw.2 hc
    refine v_aload_n C dX3_greatestSum_8 0 rfl ?_
    refine v_get (ci := 3) C inT3 0 1 rfl rfl (by decide) mF_X3_35_X3_1 rfl dX3_greatestSum_9 ?_
    refine v_aload_n C dX3_greatestSum_12 0 rfl ?_
    refine v_get (ci := 3) C inT3 0 6 rfl rfl (by decide) mF_X3_54_X3_6 rfl dX3_greatestSum_13 ?_
    refine v_icmp_le (tgt := 21) C dX3_greatestSum_16 (by decide) (fun hc => ?_) (fun hc => ?_)
    · have hw := hw.1 hc
      refine v_aload_n C dX3_greatestSum_21 0 rfl ?_
      refine v_aload_n C dX3_greatestSum_22 1 rfl ?_
      refine v_aload_n C dX3_greatestSum_23 2 rfl ?_
      refine v_callVMv (st := []) (ci := 3) (qb := 0) C (kX3_fillGains h0 h1 h2 a0 a1 a1_3 a2 a2_6 a2_7 _ _ _ _ _ _ hw) mM_X3_57 mI_X3 mC_X3_fillGains mN_X3_fillGains mS_X3_fillGains rfl rfl hd_X3_fillGains ⟨Nat.le_of_ble_eq_true rfl, Nat.le_of_ble_eq_true rfl⟩ ⟨Nat.le_of_ble_eq_true rfl, Nat.le_of_ble_eq_true rfl⟩ [0, 1, 3, 4, 5, 6] [2] (N0 := 7) rfl (by decide) (ms2 := (fun (U : Md × Md × Md × Md × Md × Md) => [wX3 E h0 a0 U.1, wX8 E h1 a1 U.2.1, wX2 E (a1 2) a1_2 v2_2, wX7 E (a1 3) a1_3 U.2.2.1, wX10 E h2 a2 U.2.2.2.1, wX5 E (a2 6) a2_6 U.2.2.2.2.1, wX5 E (a2 7) a2_7 U.2.2.2.2.2])) rfl (fun _ => rfl) (fun _ => rfl) (fun _ => rfl) rfl (Nat.le_of_ble_eq_true rfl) dX3_greatestSum_24 (fun U24 hw => ?_)
      obtain ⟨v24_0, v24_1, v24_2, v24_3, v24_4, v24_5⟩ := U24
      refine v_aload_n C dX3_greatestSum_27 0 rfl ?_
      refine v_aload_n C dX3_greatestSum_28 1 rfl ?_
      refine v_get (ci := 8) C inT8 7 2 rfl rfl (by decide) mF_X3_61_X8_2 rfl dX3_greatestSum_29 ?_
      refine v_callVMv (st := []) (ci := 3) (qb := 0) C (kX3_fillMost h0 ((a1 2)) a0 a1_2 _ _ hw) mM_X3_67 mI_X3 mC_X3_fillMost mN_X3_fillMost mS_X3_fillMost rfl rfl hd_X3_fillMost ⟨Nat.le_of_ble_eq_true rfl, Nat.le_of_ble_eq_true rfl⟩ ⟨Nat.le_of_ble_eq_true rfl, Nat.le_of_ble_eq_true rfl⟩ [0, 2] [1, 3, 4, 5, 6] (N0 := 7) rfl (by decide) (ms2 := (fun (U : Md × Md) => [wX3 E h0 a0 U.1, wX8 E h1 a1 v24_1, wX2 E (a1 2) a1_2 U.2, wX7 E (a1 3) a1_3 v24_2, wX10 E h2 a2 v24_3, wX5 E (a2 6) a2_6 v24_4, wX5 E (a2 7) a2_7 v24_5])) rfl (fun _ => rfl) (fun _ => rfl) (fun _ => rfl) rfl (Nat.le_of_ble_eq_true rfl) dX3_greatestSum_32 (fun U32 hw => ?_)
      obtain ⟨v32_0, v32_1⟩ := U32
      refine v_aload_n C dX3_greatestSum_35 0 rfl ?_
      refine v_aload_n C dX3_greatestSum_36 1 rfl ?_
      refine v_get (ci := 8) C inT8 7 2 rfl rfl (by decide) mF_X3_61_X8_2 rfl dX3_greatestSum_37 ?_
      refine v_iconst (v := 0) C dX3_greatestSum_40 (by decide) ?_
      refine v_iconst (v := (-1)) C dX3_greatestSum_41 (by decide) ?_
      refine v_callVMi (st := []) (ci := 3) (qb := 0) C (kX3_mostBehind h0 ((a1 2)) a0 a1_2 _ _ _ _ hw) mM_X3_71 mI_X3 mC_X3_mostBehind mN_X3_mostBehind mS_X3_mostBehind rfl rfl hd_X3_mostBehind ⟨Nat.le_of_ble_eq_true rfl, Nat.le_of_ble_eq_true rfl⟩ ⟨Nat.le_of_ble_eq_true rfl, Nat.le_of_ble_eq_true rfl⟩ [0, 2] [1, 3, 4, 5, 6] (N0 := 7) rfl (by decide) (ms2 := (fun (U : Md × Md) => [wX3 E h0 a0 U.1, wX8 E h1 a1 v24_1, wX2 E (a1 2) a1_2 U.2, wX7 E (a1 3) a1_3 v24_2, wX10 E h2 a2 v24_3, wX5 E (a2 6) a2_6 v24_4, wX5 E (a2 7) a2_7 v24_5])) rfl (fun _ => rfl) (fun _ => rfl) (fun _ => rfl) rfl (Nat.le_of_ble_eq_true rfl) dX3_greatestSum_42 (fun r42 U42 hw => ?_)
      obtain ⟨v42_0, v42_1⟩ := U42
      refine v_istore_n (lv' := [(3, .int r42), (0, .ref h0), (1, .ref h1), (2, .ref h2)]) C dX3_greatestSum_45 (by decide) rfl ?_
      refine v_aload_n C dX3_greatestSum_46 1 rfl ?_
      refine v_aload_n C dX3_greatestSum_47 2 rfl ?_
      refine v_get (ci := 8) C inT8 7 2 rfl rfl (by decide) mF_X3_61_X8_2 rfl dX3_greatestSum_48 ?_
      refine v_callVMv (st := []) (ci := 3) (qb := 0) C (kX3_takeFirst h0 ((a1 2)) a0 a1_2 _ _ hw) mM_X3_75 mI_X3 mC_X3_takeFirst mN_X3_takeFirst mS_X3_takeFirst rfl rfl hd_X3_takeFirst ⟨Nat.le_of_ble_eq_true rfl, Nat.le_of_ble_eq_true rfl⟩ ⟨Nat.le_of_ble_eq_true rfl, Nat.le_of_ble_eq_true rfl⟩ [0, 2] [1, 3, 4, 5, 6] (N0 := 7) rfl (by decide) (ms2 := (fun (U : Md × Md) => [wX3 E h0 a0 U.1, wX8 E h1 a1 v24_1, wX2 E (a1 2) a1_2 U.2, wX7 E (a1 3) a1_3 v24_2, wX10 E h2 a2 v24_3, wX5 E (a2 6) a2_6 v24_4, wX5 E (a2 7) a2_7 v24_5])) rfl (fun _ => rfl) (fun _ => rfl) (fun _ => rfl) rfl (Nat.le_of_ble_eq_true rfl) dX3_greatestSum_51 (fun U51 hw => ?_)
      obtain ⟨v51_0, v51_1⟩ := U51
      refine v_iload_n C dX3_greatestSum_54 0 rfl ?_
      exact hret _ _ _ _ r42 (v51_0, v24_1, v51_1, v24_2, v24_3, v24_4, v24_5) dX3_greatestSum_55 rfl hw (Nat.le_of_ble_eq_true rfl) (Nat.le_of_ble_eq_true rfl)
    · have hw := hw.2 hc
      refine v_iconst (v := (-1)) C dX3_greatestSum_19 (by decide) ?_
      exact hret _ _ _ _ ((-1)) (v2_0, v2_1, v2_2, v2_3, u2, u2_6, u2_7) dX3_greatestSum_20 rfl hw (Nat.le_of_ble_eq_true rfl) (Nat.le_of_ble_eq_true rfl)
set_option maxHeartbeats 4000000 in
set_option maxRecDepth 100000 in
theorem kX4_begin {l : Launch} {E : VE} (h0 : Nat) (a0 : Nat → Nat) (u0 : Md) {Q : Md → Prop} (hw : qX4_begin u0 Q) : MV l yX4_begin cX4_begin 1 0 0 0 E [.ref h0] ([wX4 E h0 a0 u0].flatten) (fun (U : Md) => [wX4 E h0 a0 U].flatten) (fun (U : Md) => Q U) := by
  refine MV.of (own := RX4) (by decide) rfl (Nat.le_of_ble_eq_true rfl) ?_
  intro X C hini hret
  show VV X 0 0 ([wX4 E h0 a0 u0].flatten) [(0, .ref h0)] 0 []
  unfold qX4_begin at hw
  refine v_aload_n C dX4_begin_0 0 rfl ?_
  refine v_iconst (v := 0) C dX4_begin_1 (by decide) ?_
  obtain ⟨w2, e2⟩ : ∃ z : Md, z = sF u0 1 0 := ⟨_, rfl⟩
  have hw := hw w2 e2
  refine v_put (ci := 4) (ws' := [wX4 E h0 a0 w2].flatten) C tyX4 tyX4_ok nmX4 inT4 0 1 rfl rfl (by decide) mF_X4_36_X4_1 rfl rfl rfl rfl (Nat.le_of_ble_eq_true rfl) (by rw [e2]; rfl) dX4_begin_2 ?_
  exact hret _ _ _ _ w2 dX4_begin_5 hw (Nat.le_of_ble_eq_true rfl) (Nat.le_of_ble_eq_true rfl)
set_option maxHeartbeats 4000000 in
set_option maxRecDepth 100000 in
theorem jX4_take_54 {X : VX} {E : VE} {l : Launch} (h0 : Nat) (a0 : Nat → Nat)  (Q : Int32 → Md → Prop) (C : VC X cX4_take 8 RX4 (rmL 0 0 0) E l) (hret : RetI X cX4_take .boolean 0 0 (fun (U : Md) => [wX4 E h0 a0 U].flatten) (fun (r : Int32) (U : Md) => (r = 0 ∨ r = 1) ∧ Q r U))  : ∀ (n : Nat), ∀ (u0 : Md) (y2 : Int32) (y4 : Int32) (y5 : Int64) (y7 : Int32), qX4_take_54 Q n u0 y2 y4 y5 y7 → VV X 0 0 ([wX4 E h0 a0 u0].flatten) [(0, .ref h0), (2, .int y2), (4, .int y4), (5, .long y5), (7, .int y7)] 54 [] := by
  intro n
  induction n with
  | zero =>
    intro u0 y2 y4 y5 y7 hw
    exact hw.elim
  | succ n ih =>
    intro u0 y2 y4 y5 y7 hw
    unfold qX4_take_54 at hw
    refine v_iload C dX4_take_54 4 rfl ?_
    refine v_iload C dX4_take_56 2 rfl ?_
    refine v_icmp_ge (tgt := 106) C dX4_take_58 (by decide) (fun hc => ?_) (fun hc => ?_)
    · have hw := hw.1 hc
      refine v_aload_n C dX4_take_106 0 rfl ?_
      refine v_dup C dX4_take_107 rfl ?_
      refine v_get (ci := 4) C inT4 0 1 rfl rfl (by decide) mF_X4_36_X4_1 rfl dX4_take_108 ?_
      refine v_iconst (v := 1) C dX4_take_111 (by decide) ?_
      refine v_iadd C dX4_take_112 ?_
      obtain ⟨w113, e113⟩ : ∃ z : Md, z = sF u0 1 ((gF u0 1) + 1) := ⟨_, rfl⟩
      have hw := hw w113 e113
      refine v_put (ci := 4) (ws' := [wX4 E h0 a0 w113].flatten) C tyX4 tyX4_ok nmX4 inT4 0 1 rfl rfl (by decide) mF_X4_36_X4_1 rfl rfl rfl rfl (Nat.le_of_ble_eq_true rfl) (by rw [e113]; rfl) dX4_take_113 ?_
      refine v_iconst (v := 1) C dX4_take_116 (by decide) ?_
      exact hret _ _ _ _ 1 w113 dX4_take_117 rfl ⟨Or.inr rfl, hw⟩ (Nat.le_of_ble_eq_true rfl) (Nat.le_of_ble_eq_true rfl)
    · have hw := hw.2 hc
      refine v_aload_n C dX4_take_61 0 rfl ?_
      refine v_get (ci := 4) C inT4 0 3 rfl rfl (by decide) mF_X4_20_X4_3 rfl dX4_take_62 ?_
      refine v_iload C dX4_take_65 2 rfl ?_
      refine v_iload C dX4_take_67 4 rfl ?_
      refine v_iadd C dX4_take_69 ?_
      refine v_aload_n C dX4_take_70 0 rfl ?_
      refine v_get (ci := 4) C inT4 0 3 rfl rfl (by decide) mF_X4_20_X4_3 rfl dX4_take_71 ?_
      refine v_iload C dX4_take_74 4 rfl ?_
      obtain ⟨hi76, hw⟩ := hw
      refine v_iald C 3 rfl hi76 dX4_take_76 ?_
      refine v_iload_n C dX4_take_77 1 rfl ?_
      refine v_iadd C dX4_take_78 ?_
      obtain ⟨hi79, hw⟩ := hw
      obtain ⟨w79, e79⟩ : ∃ z : Md, z = tA u0 3 (y4 + y7) ((gA u0 3 y7.toNatClampNeg) + y2) := ⟨_, rfl⟩
      have hw := hw w79 e79
      refine v_iast (ws' := [wX4 E h0 a0 w79].flatten) C 3 rfl hi79 (by rw [e79]; rfl) dX4_take_79 ?_
      refine v_aload_n C dX4_take_80 0 rfl ?_
      refine v_get (ci := 4) C inT4 0 4 rfl rfl (by decide) mF_X4_23_X4_4 rfl dX4_take_81 ?_
      refine v_iload C dX4_take_84 2 rfl ?_
      refine v_iload C dX4_take_86 4 rfl ?_
      refine v_iadd C dX4_take_88 ?_
      refine v_aload_n C dX4_take_89 0 rfl ?_
      refine v_get (ci := 4) C inT4 0 4 rfl rfl (by decide) mF_X4_23_X4_4 rfl dX4_take_90 ?_
      refine v_iload C dX4_take_93 4 rfl ?_
      obtain ⟨hi95, hw⟩ := hw
      refine v_lald C 4 rfl hi95 dX4_take_95 ?_
      refine v_lload C dX4_take_96 3 rfl ?_
      refine v_ladd C dX4_take_98 rfl ?_
      obtain ⟨hi99, hw⟩ := hw
      obtain ⟨w99, e99⟩ : ∃ z : Md, z = tL w79 4 (y4 + y7) ((gL w79 4 y7.toNatClampNeg) + y5) := ⟨_, rfl⟩
      have hw := hw w99 e99
      refine v_last (ws' := [wX4 E h0 a0 w99].flatten) C 4 rfl hi99 (by rw [e99]; rfl) dX4_take_99 ?_
      refine v_iinc (lv' := [(7, .int (y7 + Int32.ofInt 1)), (0, .ref h0), (2, .int y2), (4, .int y4), (5, .long y5)]) C dX4_take_100 4 rfl (by decide) rfl ?_
      refine v_goto (tgt := 54) C dX4_take_103 (by decide) ?_
      refine v_lv C (lv' := [(0, .ref h0), (2, .int y2), (4, .int y4), (5, .long y5), (7, .int (y7 + Int32.ofInt 1))]) [1, 2, 3, 4, 0] rfl ?_
      exact ih w99 y2 y4 y5 (y7 + Int32.ofInt 1) hw
set_option maxHeartbeats 4000000 in
set_option maxRecDepth 100000 in
theorem kX4_take {l : Launch} {E : VE} (h0 : Nat) (a0 : Nat → Nat) (u0 : Md) (x1 : Int32) (x2 : Int32) (x3 : Int32) {Q : Int32 → Md → Prop} (hw : qX4_take u0 x1 x2 x3 Q) : MI l yX4_take cX4_take 8 .boolean 0 0 0 E [.ref h0, .int x1, .int x2, .int x3] ([wX4 E h0 a0 u0].flatten) (fun (U : Md) => [wX4 E h0 a0 U].flatten) (fun (r : Int32) (U : Md) => (r = 0 ∨ r = 1) ∧ Q r U) := by
  refine MI.of (own := RX4) (by decide) rfl (Nat.le_of_ble_eq_true rfl) ?_
  intro X C hini hret
  show VV X 0 0 ([wX4 E h0 a0 u0].flatten) [(0, .ref h0), (1, .int x1), (2, .int x2), (3, .int x3)] 0 []
  unfold qX4_take at hw
  refine v_aload_n C dX4_take_0 0 rfl ?_
  refine v_get (ci := 4) C inT4 0 1 rfl rfl (by decide) mF_X4_36_X4_1 rfl dX4_take_1 ?_
  refine v_bipush (v := 9) C dX4_take_4 (by decide) ?_
  refine v_icmp_ge (tgt := 14) C dX4_take_6 (by decide) (fun hc => ?_) (fun hc => ?_)
  · have hw := hw.1 hc
    refine v_iconst (v := 0) C dX4_take_14 (by decide) ?_
    exact hret _ _ _ _ 0 u0 dX4_take_15 rfl ⟨Or.inl rfl, hw⟩ (Nat.le_of_ble_eq_true rfl) (Nat.le_of_ble_eq_true rfl)
  · have hw := hw.2 hc
    refine v_iload_n C dX4_take_9 2 rfl ?_
    refine v_iload_n C dX4_take_10 3 rfl ?_
    refine v_icmp_le (tgt := 16) C dX4_take_11 (by decide) (fun hc => ?_) (fun hc => ?_)
    · have hw := hw.1 hc
      refine v_aload_n C dX4_take_16 0 rfl ?_
      refine v_get (ci := 4) C inT4 0 2 rfl rfl (by decide) mF_X4_17_X4_2 rfl dX4_take_17 ?_
      refine v_aload_n C dX4_take_20 0 rfl ?_
      refine v_get (ci := 4) C inT4 0 1 rfl rfl (by decide) mF_X4_36_X4_1 rfl dX4_take_21 ?_
      refine v_iload_n C dX4_take_24 1 rfl ?_
      obtain ⟨hi25, hw⟩ := hw
      obtain ⟨w25, e25⟩ : ∃ z : Md, z = tA u0 2 (gF u0 1) x1 := ⟨_, rfl⟩
      have hw := hw w25 e25
      refine v_iast (ws' := [wX4 E h0 a0 w25].flatten) C 2 rfl hi25 (by rw [e25]; rfl) dX4_take_25 ?_
      refine v_iconst (v := 1) C dX4_take_26 (by decide) ?_
      refine v_aload_n C dX4_take_27 0 rfl ?_
      refine v_get (ci := 4) C inT4 0 1 rfl rfl (by decide) mF_X4_36_X4_1 rfl dX4_take_28 ?_
      refine v_ishl C dX4_take_31 ?_
      refine v_istore (lv' := [(4, .int ((1 : Int32) <<< ((gF w25 1) &&& 31))), (0, .ref h0), (1, .int x1), (2, .int x2), (3, .int x3)]) C dX4_take_32 (by decide) rfl ?_
      refine v_ldc2 C mJ_X4_40 dX4_take_34 ?_
      refine v_lconst (v := 1) C dX4_take_37 (by decide) ?_
      refine v_iconst (v := 4) C dX4_take_38 (by decide) ?_
      refine v_bipush (v := 8) C dX4_take_39 (by decide) ?_
      refine v_aload_n C dX4_take_41 1 rfl ?_
      refine v_get (ci := 4) C inT4 0 1 rfl rfl (by decide) mF_X4_36_X4_1 rfl dX4_take_42 ?_
      refine v_isub C dX4_take_45 ?_
      refine v_imul C dX4_take_46 ?_
      refine v_lshl C dX4_take_47 ?_
      refine v_ladd C dX4_take_48 rfl ?_
      refine v_lstore (lv' := [(5, .long (68719476736 + ((1 : Int64) <<< ((4 * (8 - (gF w25 1))).toInt64 &&& 63)))), (4, .int ((1 : Int32) <<< ((gF w25 1) &&& 31))), (0, .ref h0), (1, .int x1), (2, .int x2), (3, .int x3)]) C dX4_take_49 (by decide) rfl ?_
      refine v_iconst (v := 0) C dX4_take_51 (by decide) ?_
      refine v_istore (lv' := [(7, .int 0), (5, .long (68719476736 + ((1 : Int64) <<< ((4 * (8 - (gF w25 1))).toInt64 &&& 63)))), (4, .int ((1 : Int32) <<< ((gF w25 1) &&& 31))), (0, .ref h0), (1, .int x1), (2, .int x2), (3, .int x3)]) C dX4_take_52 (by decide) rfl ?_
      refine v_lv C (lv' := [(0, .ref h0), (2, .int x2), (4, .int ((1 : Int32) <<< ((gF w25 1) &&& 31))), (5, .long (68719476736 + ((1 : Int64) <<< ((4 * (8 - (gF w25 1))).toInt64 &&& 63)))), (7, .int 0)]) [3, 5, 2, 1, 0] rfl ?_
      obtain ⟨n', hw⟩ := hw
      exact jX4_take_54 h0 a0 Q C hret n' w25 x2 ((1 : Int32) <<< ((gF w25 1) &&& 31)) (68719476736 + ((1 : Int64) <<< ((4 * (8 - (gF w25 1))).toInt64 &&& 63))) 0 hw
    · have hw := hw.2 hc
      refine v_iconst (v := 0) C dX4_take_14 (by decide) ?_
      exact hret _ _ _ _ 0 u0 dX4_take_15 rfl ⟨Or.inl rfl, hw⟩ (Nat.le_of_ble_eq_true rfl) (Nat.le_of_ble_eq_true rfl)
set_option maxHeartbeats 4000000 in
set_option maxRecDepth 100000 in
theorem jX4_leastKey_49 {X : VX} {E : VE} {l : Launch} (h0 : Nat) (a0 : Nat → Nat)  (Q : Int64 → Md → Prop) (C : VC X cX4_leastKey 7 RX4 (rmL 1 0 0) E l) (hret : RetL X cX4_leastKey 0 0 (fun (U : Md) => [wX4 E h0 a0 U].flatten) (fun (r : Int64) (U : Md) => Q r U)) (K7 : Md → Int32 → Int32 → Int64 → Int32 → Prop) (hK7 : ∀ (u0 : Md) (y1 : Int32) (y2 : Int32) (y3 : Int64) (y5 : Int32), K7 u0 y1 y2 y3 y5 → VV X 0 0 ([wX4 E h0 a0 u0].flatten) [(0, .ref h0), (1, .int y1), (2, .int y2), (3, .long y3), (5, .int y5)] 7 []) : ∀ (u0 : Md) (y1 : Int32) (y2 : Int32) (y3 : Int64) (y5 : Int32), qX4_leastKey_49 Q K7 u0 y1 y2 y3 y5 → VV X 0 0 ([wX4 E h0 a0 u0].flatten) [(0, .ref h0), (1, .int y1), (2, .int y2), (3, .long y3), (5, .int y5)] 49 [] := by
  intro u0 y1 y2 y3 y5 hw
  unfold qX4_leastKey_49 at hw
  refine v_iload C dX4_leastKey_49 4 rfl ?_
  refine v_iconst (v := 1) C dX4_leastKey_51 (by decide) ?_
  refine v_isub C dX4_leastKey_52 ?_
  refine v_iload_n C dX4_leastKey_53 1 rfl ?_
  refine v_iand C dX4_leastKey_54 ?_
  refine v_istore (lv' := [(5, .int ((y5 - 1) &&& y1)), (0, .ref h0), (1, .int y1), (2, .int y2), (3, .long y3)]) C dX4_leastKey_55 (by decide) rfl ?_
  refine v_goto (tgt := 7) C dX4_leastKey_57 (by decide) ?_
  refine v_lv C (lv' := [(0, .ref h0), (1, .int y1), (2, .int y2), (3, .long y3), (5, .int ((y5 - 1) &&& y1))]) [1, 2, 3, 4, 0] rfl ?_
  exact hK7 u0 y1 y2 y3 ((y5 - 1) &&& y1) hw
set_option maxHeartbeats 4000000 in
set_option maxRecDepth 100000 in
theorem jX4_leastKey_7 {X : VX} {E : VE} {l : Launch} (h0 : Nat) (a0 : Nat → Nat)  (Q : Int64 → Md → Prop) (C : VC X cX4_leastKey 7 RX4 (rmL 1 0 0) E l) (hret : RetL X cX4_leastKey 0 0 (fun (U : Md) => [wX4 E h0 a0 U].flatten) (fun (r : Int64) (U : Md) => Q r U))  : ∀ (n : Nat), ∀ (u0 : Md) (y1 : Int32) (y2 : Int32) (y3 : Int64) (y5 : Int32), qX4_leastKey_7 Q n u0 y1 y2 y3 y5 → VV X 0 0 ([wX4 E h0 a0 u0].flatten) [(0, .ref h0), (1, .int y1), (2, .int y2), (3, .long y3), (5, .int y5)] 7 [] := by
  intro n
  induction n with
  | zero =>
    intro u0 y1 y2 y3 y5 hw
    exact hw.elim
  | succ n ih =>
    intro u0 y1 y2 y3 y5 hw
    unfold qX4_leastKey_7 at hw
    refine v_iload C dX4_leastKey_7 4 rfl ?_
    refine v_if_le (tgt := 60) C dX4_leastKey_9 (by decide) (fun hc => ?_) (fun hc => ?_)
    · have hw := hw.1 hc
      refine v_lload_n C dX4_leastKey_60 3 rfl ?_
      exact hret _ _ _ _ y3 u0 dX4_leastKey_61 hw (Nat.le_of_ble_eq_true rfl) (Nat.le_of_ble_eq_true rfl)
    · have hw := hw.2 hc
      refine v_iload_n C dX4_leastKey_12 1 rfl ?_
      refine v_iload C dX4_leastKey_13 4 rfl ?_
      refine v_isub C dX4_leastKey_15 ?_
      refine v_istore (lv' := [(6, .int (y1 - y5)), (0, .ref h0), (1, .int y1), (2, .int y2), (3, .long y3), (5, .int y5)]) C dX4_leastKey_16 (by decide) rfl ?_
      refine v_aload_n C dX4_leastKey_18 1 rfl ?_
      refine v_get (ci := 4) C inT4 0 3 rfl rfl (by decide) mF_X4_20_X4_3 rfl dX4_leastKey_19 ?_
      refine v_iload C dX4_leastKey_22 5 rfl ?_
      obtain ⟨hi24, hw⟩ := hw
      refine v_iald C 3 rfl hi24 dX4_leastKey_24 ?_
      refine v_iload_n C dX4_leastKey_25 3 rfl ?_
      refine v_icmp_gt (tgt := 49) C dX4_leastKey_26 (by decide) (fun hc => ?_) (fun hc => ?_)
      · have hw := hw.1 hc
        refine v_lv C (lv' := [(0, .ref h0), (1, .int y1), (2, .int y2), (3, .long y3), (5, .int y5)]) [1, 2, 3, 4, 5] rfl ?_
        exact jX4_leastKey_49 h0 a0 Q C hret (qX4_leastKey_7 Q n) ih u0 y1 y2 y3 y5 hw
      · have hw := hw.2 hc
        refine v_lload_n C dX4_leastKey_29 4 rfl ?_
        refine v_aload_n C dX4_leastKey_30 1 rfl ?_
        refine v_get (ci := 4) C inT4 0 5 rfl rfl (by decide) mF_X4_27_X4_5 rfl dX4_leastKey_31 ?_
        refine v_iload C dX4_leastKey_34 0 rfl ?_
        obtain ⟨hi36, hw⟩ := hw
        refine v_lald C 5 rfl hi36 dX4_leastKey_36 ?_
        refine v_aload_n C dX4_leastKey_37 1 rfl ?_
        refine v_get (ci := 4) C inT4 0 4 rfl rfl (by decide) mF_X4_23_X4_4 rfl dX4_leastKey_38 ?_
        refine v_iload C dX4_leastKey_41 0 rfl ?_
        obtain ⟨hi43, hw⟩ := hw
        refine v_lald C 4 rfl hi43 dX4_leastKey_43 ?_
        refine v_ladd C dX4_leastKey_44 rfl ?_
        refine v_lmin C mM_X4_50 ⟨Nat.le_of_ble_eq_true rfl, Nat.le_of_ble_eq_true rfl, Nat.le_of_ble_eq_true rfl, Nat.le_of_ble_eq_true rfl⟩ dX4_leastKey_45 ?_
        refine v_lstore_n (lv' := [(3, .long (lmin y3 ((gL u0 5 (y1 - y5).toNatClampNeg) + (gL u0 4 (y1 - y5).toNatClampNeg)))), (6, .int (y1 - y5)), (0, .ref h0), (1, .int y1), (2, .int y2), (5, .int y5)]) C dX4_leastKey_48 (by decide) rfl ?_
        refine v_lv C (lv' := [(0, .ref h0), (1, .int y1), (2, .int y2), (3, .long (lmin y3 ((gL u0 5 (y1 - y5).toNatClampNeg) + (gL u0 4 (y1 - y5).toNatClampNeg)))), (5, .int y5)]) [2, 3, 4, 0, 5] rfl ?_
        exact jX4_leastKey_49 h0 a0 Q C hret (qX4_leastKey_7 Q n) ih u0 y1 y2 (lmin y3 ((gL u0 5 (y1 - y5).toNatClampNeg) + (gL u0 4 (y1 - y5).toNatClampNeg))) y5 hw
set_option maxHeartbeats 4000000 in
set_option maxRecDepth 100000 in
theorem kX4_leastKey {l : Launch} {E : VE} (h0 : Nat) (a0 : Nat → Nat) (u0 : Md) (x1 : Int32) (x2 : Int32) {Q : Int64 → Md → Prop} (hw : qX4_leastKey u0 x1 x2 Q) : ML l yX4_leastKey cX4_leastKey 7 1 0 0 E [.ref h0, .int x1, .int x2] ([wX4 E h0 a0 u0].flatten) (fun (U : Md) => [wX4 E h0 a0 U].flatten) (fun (r : Int64) (U : Md) => Q r U) := by
  refine ML.of (own := RX4) (by decide) rfl (Nat.le_of_ble_eq_true rfl) ?_
  intro X C hini hret
  show VV X 0 0 ([wX4 E h0 a0 u0].flatten) [(0, .ref h0), (1, .int x1), (2, .int x2)] 0 []
  unfold qX4_leastKey at hw
  refine v_ldc2 C mJ_X4_48 dX4_leastKey_0 ?_
  refine v_lstore_n (lv' := [(3, .long 9223372036854775807), (0, .ref h0), (1, .int x1), (2, .int x2)]) C dX4_leastKey_3 (by decide) rfl ?_
  refine v_iload_n C dX4_leastKey_4 2 rfl ?_
  refine v_istore (lv' := [(5, .int x1), (3, .long 9223372036854775807), (0, .ref h0), (1, .int x1), (2, .int x2)]) C dX4_leastKey_5 (by decide) rfl ?_
  refine v_lv C (lv' := [(0, .ref h0), (1, .int x1), (2, .int x2), (3, .long 9223372036854775807), (5, .int x1)]) [2, 3, 4, 1, 0] rfl ?_
  obtain ⟨n', hw⟩ := hw
  exact jX4_leastKey_7 h0 a0 Q C hret n' u0 x1 x2 9223372036854775807 x1 hw
set_option maxHeartbeats 4000000 in
set_option maxRecDepth 100000 in
theorem jX4_leastSum_52 {X : VX} {E : VE} {l : Launch} (h0 : Nat) (a0 : Nat → Nat)  (Q : Int32 → Md → Prop) (C : VC X cX4_leastSum 6 RX4 (rmL 2 0 0) E l) (hret : RetI X cX4_leastSum .int 0 0 (fun (U : Md) => [wX4 E h0 a0 U].flatten) (fun (r : Int32) (U : Md) => Q r U))  : ∀ (n : Nat), ∀ (u0 : Md) (y3 : Int64) (y5 : Int32), qX4_leastSum_52 Q n u0 y3 y5 → VV X 0 0 ([wX4 E h0 a0 u0].flatten) [(0, .ref h0), (3, .long y3), (5, .int y5)] 52 [] := by
  intro n
  induction n with
  | zero =>
    intro u0 y3 y5 hw
    exact hw.elim
  | succ n ih =>
    intro u0 y3 y5 hw
    unfold qX4_leastSum_52 at hw
    refine v_iload C dX4_leastSum_52 2 rfl ?_
    refine v_aload_n C dX4_leastSum_54 0 rfl ?_
    refine v_get (ci := 4) C inT4 0 1 rfl rfl (by decide) mF_X4_36_X4_1 rfl dX4_leastSum_55 ?_
    refine v_icmp_ge (tgt := 92) C dX4_leastSum_58 (by decide) (fun hc => ?_) (fun hc => ?_)
    · have hw := hw.1 hc
      refine v_lload_n C dX4_leastSum_92 1 rfl ?_
      refine v_bipush (v := 36) C dX4_leastSum_93 (by decide) ?_
      refine v_lshr C dX4_leastSum_95 ?_
      refine v_l2i C dX4_leastSum_96 ?_
      exact hret _ _ _ _ ((y3 >>> ((36 : Int32).toInt64 &&& 63)).toInt32) u0 dX4_leastSum_97 rfl hw (Nat.le_of_ble_eq_true rfl) (Nat.le_of_ble_eq_true rfl)
    · have hw := hw.2 hc
      refine v_aload_n C dX4_leastSum_61 0 rfl ?_
      refine v_get (ci := 4) C inT4 0 0 rfl rfl (by decide) mF_X4_13_X4_0 rfl dX4_leastSum_62 ?_
      refine v_aload_n C dX4_leastSum_65 0 rfl ?_
      refine v_get (ci := 4) C inT4 0 2 rfl rfl (by decide) mF_X4_17_X4_2 rfl dX4_leastSum_66 ?_
      refine v_iload C dX4_leastSum_69 2 rfl ?_
      obtain ⟨hi71, hw⟩ := hw
      refine v_iald C 2 rfl hi71 dX4_leastSum_71 ?_
      refine v_lload_n C dX4_leastSum_72 1 rfl ?_
      refine v_iconst (v := 4) C dX4_leastSum_73 (by decide) ?_
      refine v_bipush (v := 8) C dX4_leastSum_74 (by decide) ?_
      refine v_iload C dX4_leastSum_76 2 rfl ?_
      refine v_isub C dX4_leastSum_78 ?_
      refine v_imul C dX4_leastSum_79 ?_
      refine v_lshr C dX4_leastSum_80 ?_
      refine v_l2i C dX4_leastSum_81 ?_
      refine v_bipush (v := 15) C dX4_leastSum_82 (by decide) ?_
      refine v_iand C dX4_leastSum_84 ?_
      obtain ⟨hi85, hw⟩ := hw
      obtain ⟨w85, e85⟩ : ∃ z : Md, z = tA u0 0 (gA u0 2 y5.toNatClampNeg) (((y3 >>> ((4 * (8 - y5)).toInt64 &&& 63)).toInt32) &&& 15) := ⟨_, rfl⟩
      have hw := hw w85 e85
      refine v_iast (ws' := [wX4 E h0 a0 w85].flatten) C 1 rfl hi85 (by rw [e85]; rfl) dX4_leastSum_85 ?_
      refine v_iinc (lv' := [(5, .int (y5 + Int32.ofInt 1)), (0, .ref h0), (3, .long y3)]) C dX4_leastSum_86 2 rfl (by decide) rfl ?_
      refine v_goto (tgt := 52) C dX4_leastSum_89 (by decide) ?_
      refine v_lv C (lv' := [(0, .ref h0), (3, .long y3), (5, .int (y5 + Int32.ofInt 1))]) [1, 2, 0] rfl ?_
      exact ih w85 y3 (y5 + Int32.ofInt 1) hw
set_option maxHeartbeats 4000000 in
set_option maxRecDepth 100000 in
theorem jX4_leastSum_9 {X : VX} {E : VE} {l : Launch} (h0 : Nat) (a0 : Nat → Nat)  (Q : Int32 → Md → Prop) (C : VC X cX4_leastSum 6 RX4 (rmL 2 0 0) E l) (hret : RetI X cX4_leastSum .int 0 0 (fun (U : Md) => [wX4 E h0 a0 U].flatten) (fun (r : Int32) (U : Md) => Q r U))  : ∀ (n : Nat), ∀ (u0 : Md) (y1 : Int32) (y2 : Int32) (y3 : Int32), qX4_leastSum_9 Q n u0 y1 y2 y3 → VV X 0 0 ([wX4 E h0 a0 u0].flatten) [(0, .ref h0), (1, .int y1), (2, .int y2), (3, .int y3)] 9 [] := by
  intro n
  induction n with
  | zero =>
    intro u0 y1 y2 y3 hw
    exact hw.elim
  | succ n ih =>
    intro u0 y1 y2 y3 hw
    unfold qX4_leastSum_9 at hw
    refine v_iload_n C dX4_leastSum_9 3 rfl ?_
    refine v_iload_n C dX4_leastSum_10 2 rfl ?_
    refine v_icmp_ge (tgt := 32) C dX4_leastSum_11 (by decide) (fun hc => ?_) (fun hc => ?_)
    · have hw := hw.1 hc
      refine v_aload_n C dX4_leastSum_32 0 rfl ?_
      refine v_get (ci := 4) C inT4 0 5 rfl rfl (by decide) mF_X4_27_X4_5 rfl dX4_leastSum_33 ?_
      refine v_iload_n C dX4_leastSum_36 2 rfl ?_
      refine v_iconst (v := 1) C dX4_leastSum_37 (by decide) ?_
      refine v_isub C dX4_leastSum_38 ?_
      obtain ⟨hi39, hw⟩ := hw
      refine v_lald C 5 rfl hi39 dX4_leastSum_39 ?_
      refine v_lstore_n (lv' := [(3, .long (gL u0 5 (y2 - 1).toNatClampNeg)), (0, .ref h0), (1, .int y1), (2, .int y2)]) C dX4_leastSum_40 (by decide) rfl ?_
      refine v_aload_n C dX4_leastSum_41 1 rfl ?_
      refine v_get (ci := 4) C inT4 0 0 rfl rfl (by decide) mF_X4_13_X4_0 rfl dX4_leastSum_42 ?_
      refine v_iconst (v := (-1)) C dX4_leastSum_45 (by decide) ?_
      refine v_callSv (st := []) (wr := ([0, 2, 3, 4, 5] : List Nat).filterMap (fun i => ([wX4 E h0 a0 u0].flatten)[i]?)) C (kJ7_fill_53178 ((a0 0)) _ _ _ hw) mM_X4_30 mI_J7 mC_J7_fill_53178 mT_J7_fill_53178 hd_J7_fill_53178 ⟨Nat.le_of_ble_eq_true rfl, Nat.le_of_ble_eq_true rfl⟩ ⟨Nat.le_of_ble_eq_true rfl, Nat.le_of_ble_eq_true rfl⟩ [1] [0, 2, 3, 4, 5] rfl (by decide) rfl (by decide) (by decide) rfl (Nat.le_of_ble_eq_true rfl) dX4_leastSum_46 (fun v46_0 hw => ?_)
      refine v_ws (ws' := [wX4 E h0 a0 (sA u0 0 v46_0)].flatten) C [0, 5, 1, 2, 3, 4] (by decide) rfl ?_
      refine v_iconst (v := 0) C dX4_leastSum_49 (by decide) ?_
      refine v_istore (lv' := [(5, .int 0), (3, .long (gL u0 5 (y2 - 1).toNatClampNeg)), (0, .ref h0), (1, .int y1), (2, .int y2)]) C dX4_leastSum_50 (by decide) rfl ?_
      refine v_lv C (lv' := [(0, .ref h0), (3, .long (gL u0 5 (y2 - 1).toNatClampNeg)), (5, .int 0)]) [2, 1, 0] rfl ?_
      obtain ⟨n', hw⟩ := hw
      exact jX4_leastSum_52 h0 a0 Q C hret n' (sA u0 0 v46_0) (gL u0 5 (y2 - 1).toNatClampNeg) 0 hw
    · have hw := hw.2 hc
      refine v_aload_n C dX4_leastSum_14 0 rfl ?_
      refine v_get (ci := 4) C inT4 0 5 rfl rfl (by decide) mF_X4_27_X4_5 rfl dX4_leastSum_15 ?_
      refine v_iload_n C dX4_leastSum_18 3 rfl ?_
      refine v_aload_n C dX4_leastSum_19 0 rfl ?_
      refine v_iload_n C dX4_leastSum_20 3 rfl ?_
      refine v_iload_n C dX4_leastSum_21 1 rfl ?_
      refine v_callFl (st := [.int y3, .ref ((a0 5))]) (ci := 4) (qb := 0) C (kX4_leastKey h0 a0 _ _ _ hw) mM_X4_42 mI_X4 mC_X4_leastKey mN_X4_leastKey mS_X4_leastKey rfl rfl hd_X4_leastKey ⟨Nat.le_of_ble_eq_true rfl, Nat.le_of_ble_eq_true rfl⟩ ⟨Nat.le_of_ble_eq_true rfl, Nat.le_of_ble_eq_true rfl⟩ rfl (Nat.le_of_ble_eq_true rfl) dX4_leastSum_22 (fun r22 v22_0 hw => ?_)
      obtain ⟨hi25, hw⟩ := hw
      obtain ⟨w25, e25⟩ : ∃ z : Md, z = tL v22_0 5 y3 r22 := ⟨_, rfl⟩
      have hw := hw w25 e25
      refine v_last (ws' := [wX4 E h0 a0 w25].flatten) C 5 rfl hi25 (by rw [e25]; rfl) dX4_leastSum_25 ?_
      refine v_iinc (lv' := [(3, .int (y3 + Int32.ofInt 1)), (0, .ref h0), (1, .int y1), (2, .int y2)]) C dX4_leastSum_26 3 rfl (by decide) rfl ?_
      refine v_goto (tgt := 9) C dX4_leastSum_29 (by decide) ?_
      refine v_lv C (lv' := [(0, .ref h0), (1, .int y1), (2, .int y2), (3, .int (y3 + Int32.ofInt 1))]) [1, 2, 3, 0] rfl ?_
      exact ih w25 y1 y2 (y3 + Int32.ofInt 1) hw
set_option maxHeartbeats 4000000 in
set_option maxRecDepth 100000 in
theorem kX4_leastSum {l : Launch} {E : VE} (h0 : Nat) (a0 : Nat → Nat) (u0 : Md) (x1 : Int32) {Q : Int32 → Md → Prop} (hw : qX4_leastSum u0 x1 Q) : MI l yX4_leastSum cX4_leastSum 6 .int 2 0 0 E [.ref h0, .int x1] ([wX4 E h0 a0 u0].flatten) (fun (U : Md) => [wX4 E h0 a0 U].flatten) (fun (r : Int32) (U : Md) => Q r U) := by
  refine MI.of (own := RX4) (by decide) rfl (Nat.le_of_ble_eq_true rfl) ?_
  intro X C hini hret
  show VV X 0 0 ([wX4 E h0 a0 u0].flatten) [(0, .ref h0), (1, .int x1)] 0 []
  unfold qX4_leastSum at hw
  refine v_iconst (v := 1) C dX4_leastSum_0 (by decide) ?_
  refine v_aload_n C dX4_leastSum_1 0 rfl ?_
  refine v_get (ci := 4) C inT4 0 1 rfl rfl (by decide) mF_X4_36_X4_1 rfl dX4_leastSum_2 ?_
  refine v_ishl C dX4_leastSum_5 ?_
  refine v_istore_n (lv' := [(2, .int ((1 : Int32) <<< ((gF u0 1) &&& 31))), (0, .ref h0), (1, .int x1)]) C dX4_leastSum_6 (by decide) rfl ?_
  refine v_iconst (v := 1) C dX4_leastSum_7 (by decide) ?_
  refine v_istore_n (lv' := [(3, .int 1), (2, .int ((1 : Int32) <<< ((gF u0 1) &&& 31))), (0, .ref h0), (1, .int x1)]) C dX4_leastSum_8 (by decide) rfl ?_
  refine v_lv C (lv' := [(0, .ref h0), (1, .int x1), (2, .int ((1 : Int32) <<< ((gF u0 1) &&& 31))), (3, .int 1)]) [2, 3, 1, 0] rfl ?_
  obtain ⟨n', hw⟩ := hw
  exact jX4_leastSum_9 h0 a0 Q C hret n' u0 x1 ((1 : Int32) <<< ((gF u0 1) &&& 31)) 1 hw
set_option maxHeartbeats 4000000 in
set_option maxRecDepth 100000 in
theorem kX5_has {l : Launch} {E : VE} (h0 : Nat) (a0 : Nat → Nat) (u0 : Md) (x1 : Int32) {Q : Int32 → Md → Prop} (hw : qX5_has u0 x1 Q) : MI l yX5_has cX5_has 2 .boolean 0 0 0 E [.ref h0, .int x1] ([wX5 E h0 a0 u0].flatten) (fun (U : Md) => [wX5 E h0 a0 U].flatten) (fun (r : Int32) (U : Md) => (r = 0 ∨ r = 1) ∧ Q r U) := by
  refine MI.of (own := RX5) (by decide) rfl (Nat.le_of_ble_eq_true rfl) ?_
  intro X C hini hret
  show VV X 0 0 ([wX5 E h0 a0 u0].flatten) [(0, .ref h0), (1, .int x1)] 0 []
  unfold qX5_has at hw
  refine v_iload_n C dX5_has_0 1 rfl ?_
  refine v_if_lt (tgt := 16) C dX5_has_1 (by decide) (fun hc => ?_) (fun hc => ?_)
  · have hw := hw.1 hc
    refine v_iconst (v := 0) C dX5_has_16 (by decide) ?_
    exact hret _ _ _ _ 0 u0 dX5_has_17 rfl ⟨Or.inl rfl, hw⟩ (Nat.le_of_ble_eq_true rfl) (Nat.le_of_ble_eq_true rfl)
  · have hw := hw.2 hc
    refine v_iload_n C dX5_has_4 1 rfl ?_
    refine v_aload_n C dX5_has_5 0 rfl ?_
    refine v_get (ci := 5) C inT5 0 0 rfl rfl (by decide) mF_X5_17_X5_0 rfl dX5_has_6 ?_
    refine v_icmp_ge (tgt := 16) C dX5_has_9 (by decide) (fun hc => ?_) (fun hc => ?_)
    · have hw := hw.1 hc
      refine v_iconst (v := 0) C dX5_has_16 (by decide) ?_
      exact hret _ _ _ _ 0 u0 dX5_has_17 rfl ⟨Or.inl rfl, hw⟩ (Nat.le_of_ble_eq_true rfl) (Nat.le_of_ble_eq_true rfl)
    · have hw := hw.2 hc
      refine v_iconst (v := 1) C dX5_has_12 (by decide) ?_
      refine v_goto (tgt := 17) C dX5_has_13 (by decide) ?_
      exact hret _ _ _ _ 1 u0 dX5_has_17 rfl ⟨Or.inr rfl, hw⟩ (Nat.le_of_ble_eq_true rfl) (Nat.le_of_ble_eq_true rfl)
set_option maxHeartbeats 4000000 in
set_option maxRecDepth 100000 in
theorem jX5_readsAs_15 {X : VX} {E : VE} {l : Launch} (h0 : Nat) (h1 : Nat) (a0 : Nat → Nat) (a1 : Nat → Nat)  (Q : Int32 → Md → Md → Prop) (C : VC X cX5_readsAs 3 RX5 (rmL 0 0 0) E l) (hret : RetI X cX5_readsAs .boolean 0 0 (fun (U : Md × Md) => [wX5 E h0 a0 U.1, wX5 E h1 a1 U.2].flatten) (fun (r : Int32) (U : Md × Md) => (r = 0 ∨ r = 1) ∧ Q r U.1 U.2))  : ∀ (n : Nat), ∀ (u0 : Md) (u1 : Md) (y2 : Int32), qX5_readsAs_15 Q n u0 u1 y2 → VV X 0 0 ([wX5 E h0 a0 u0, wX5 E h1 a1 u1].flatten) [(0, .ref h0), (1, .ref h1), (2, .int y2)] 15 [] := by
  intro n
  induction n with
  | zero =>
    intro u0 u1 y2 hw
    exact hw.elim
  | succ n ih =>
    intro u0 u1 y2 hw
    unfold qX5_readsAs_15 at hw
    refine v_iload_n C dX5_readsAs_15 2 rfl ?_
    refine v_aload_n C dX5_readsAs_16 0 rfl ?_
    refine v_get (ci := 5) C inT5 0 0 rfl rfl (by decide) mF_X5_17_X5_0 rfl dX5_readsAs_17 ?_
    refine v_icmp_ge (tgt := 46) C dX5_readsAs_20 (by decide) (fun hc => ?_) (fun hc => ?_)
    · have hw := hw.1 hc
      refine v_iconst (v := 1) C dX5_readsAs_46 (by decide) ?_
      exact hret _ _ _ _ 1 (u0, u1) dX5_readsAs_47 rfl ⟨Or.inr rfl, hw⟩ (Nat.le_of_ble_eq_true rfl) (Nat.le_of_ble_eq_true rfl)
    · have hw := hw.2 hc
      refine v_aload_n C dX5_readsAs_23 0 rfl ?_
      refine v_get (ci := 5) C inT5 0 1 rfl rfl (by decide) mF_X5_9_X5_1 rfl dX5_readsAs_24 ?_
      refine v_iload_n C dX5_readsAs_27 2 rfl ?_
      obtain ⟨hi28, hw⟩ := hw
      refine v_bald C 1 rfl hi28 dX5_readsAs_28 ?_
      refine v_aload_n C dX5_readsAs_29 1 rfl ?_
      refine v_get (ci := 5) C inT5 3 1 rfl rfl (by decide) mF_X5_9_X5_1 rfl dX5_readsAs_30 ?_
      refine v_iload_n C dX5_readsAs_33 2 rfl ?_
      obtain ⟨hi34, hw⟩ := hw
      refine v_bald C 4 rfl hi34 dX5_readsAs_34 ?_
      refine v_icmp_eq (tgt := 40) C dX5_readsAs_35 (by decide) (fun hc => ?_) (fun hc => ?_)
      · have hw := hw.1 hc
        refine v_iinc (lv' := [(2, .int (y2 + Int32.ofInt 1)), (0, .ref h0), (1, .ref h1)]) C dX5_readsAs_40 2 rfl (by decide) rfl ?_
        refine v_goto (tgt := 15) C dX5_readsAs_43 (by decide) ?_
        refine v_lv C (lv' := [(0, .ref h0), (1, .ref h1), (2, .int (y2 + Int32.ofInt 1))]) [1, 2, 0] rfl ?_
        exact ih u0 u1 (y2 + Int32.ofInt 1) hw
      · have hw := hw.2 hc
        refine v_iconst (v := 0) C dX5_readsAs_38 (by decide) ?_
        exact hret _ _ _ _ 0 (u0, u1) dX5_readsAs_39 rfl ⟨Or.inl rfl, hw⟩ (Nat.le_of_ble_eq_true rfl) (Nat.le_of_ble_eq_true rfl)
set_option maxHeartbeats 4000000 in
set_option maxRecDepth 100000 in
theorem kX5_readsAs {l : Launch} {E : VE} (h0 : Nat) (h1 : Nat) (a0 : Nat → Nat) (a1 : Nat → Nat) (u0 : Md) (u1 : Md) {Q : Int32 → Md → Md → Prop} (hw : qX5_readsAs u0 u1 Q) : MI l yX5_readsAs cX5_readsAs 3 .boolean 0 0 0 E [.ref h0, .ref h1] ([wX5 E h0 a0 u0, wX5 E h1 a1 u1].flatten) (fun (U : Md × Md) => [wX5 E h0 a0 U.1, wX5 E h1 a1 U.2].flatten) (fun (r : Int32) (U : Md × Md) => (r = 0 ∨ r = 1) ∧ Q r U.1 U.2) := by
  refine MI.of (own := RX5) (by decide) rfl (Nat.le_of_ble_eq_true rfl) ?_
  intro X C hini hret
  show VV X 0 0 ([wX5 E h0 a0 u0, wX5 E h1 a1 u1].flatten) [(0, .ref h0), (1, .ref h1)] 0 []
  unfold qX5_readsAs at hw
  refine v_aload_n C dX5_readsAs_0 0 rfl ?_
  refine v_get (ci := 5) C inT5 0 0 rfl rfl (by decide) mF_X5_17_X5_0 rfl dX5_readsAs_1 ?_
  refine v_aload_n C dX5_readsAs_4 1 rfl ?_
  refine v_get (ci := 5) C inT5 3 0 rfl rfl (by decide) mF_X5_17_X5_0 rfl dX5_readsAs_5 ?_
  refine v_icmp_eq (tgt := 13) C dX5_readsAs_8 (by decide) (fun hc => ?_) (fun hc => ?_)
  · have hw := hw.1 hc
    refine v_iconst (v := 0) C dX5_readsAs_13 (by decide) ?_
    refine v_istore_n (lv' := [(2, .int 0), (0, .ref h0), (1, .ref h1)]) C dX5_readsAs_14 (by decide) rfl ?_
    refine v_lv C (lv' := [(0, .ref h0), (1, .ref h1), (2, .int 0)]) [1, 2, 0] rfl ?_
    obtain ⟨n', hw⟩ := hw
    exact jX5_readsAs_15 h0 h1 a0 a1 Q C hret n' u0 u1 0 hw
  · have hw := hw.2 hc
    refine v_iconst (v := 0) C dX5_readsAs_11 (by decide) ?_
    exact hret _ _ _ _ 0 (u0, u1) dX5_readsAs_12 rfl ⟨Or.inl rfl, hw⟩ (Nat.le_of_ble_eq_true rfl) (Nat.le_of_ble_eq_true rfl)
set_option maxHeartbeats 4000000 in
set_option maxRecDepth 100000 in
theorem kX6_has {l : Launch} {E : VE} (h0 : Nat) (a0 : Nat → Nat) (u0 : Md) (x1 : Int32) {Q : Int32 → Md → Prop} (hw : qX6_has u0 x1 Q) : MI l yX6_has cX6_has 2 .boolean 0 0 0 E [.ref h0, .int x1] ([wX6 E h0 a0 u0].flatten) (fun (U : Md) => [wX6 E h0 a0 U].flatten) (fun (r : Int32) (U : Md) => (r = 0 ∨ r = 1) ∧ Q r U) := by
  refine MI.of (own := RX6) (by decide) rfl (Nat.le_of_ble_eq_true rfl) ?_
  intro X C hini hret
  show VV X 0 0 ([wX6 E h0 a0 u0].flatten) [(0, .ref h0), (1, .int x1)] 0 []
  unfold qX6_has at hw
  refine v_iload_n C dX6_has_0 1 rfl ?_
  refine v_if_lt (tgt := 16) C dX6_has_1 (by decide) (fun hc => ?_) (fun hc => ?_)
  · have hw := hw.1 hc
    refine v_iconst (v := 0) C dX6_has_16 (by decide) ?_
    exact hret _ _ _ _ 0 u0 dX6_has_17 rfl ⟨Or.inl rfl, hw⟩ (Nat.le_of_ble_eq_true rfl) (Nat.le_of_ble_eq_true rfl)
  · have hw := hw.2 hc
    refine v_iload_n C dX6_has_4 1 rfl ?_
    refine v_aload_n C dX6_has_5 0 rfl ?_
    refine v_get (ci := 6) C inT6 0 0 rfl rfl (by decide) mF_X6_21_X6_0 rfl dX6_has_6 ?_
    refine v_icmp_ge (tgt := 16) C dX6_has_9 (by decide) (fun hc => ?_) (fun hc => ?_)
    · have hw := hw.1 hc
      refine v_iconst (v := 0) C dX6_has_16 (by decide) ?_
      exact hret _ _ _ _ 0 u0 dX6_has_17 rfl ⟨Or.inl rfl, hw⟩ (Nat.le_of_ble_eq_true rfl) (Nat.le_of_ble_eq_true rfl)
    · have hw := hw.2 hc
      refine v_iconst (v := 1) C dX6_has_12 (by decide) ?_
      refine v_goto (tgt := 17) C dX6_has_13 (by decide) ?_
      exact hret _ _ _ _ 1 u0 dX6_has_17 rfl ⟨Or.inr rfl, hw⟩ (Nat.le_of_ble_eq_true rfl) (Nat.le_of_ble_eq_true rfl)
set_option maxHeartbeats 4000000 in
set_option maxRecDepth 100000 in
theorem kX6_make {l : Launch} {E : VE} (h0 : Nat) (a0 : Nat → Nat) (u0 : Md) (x1 : Int32) (x2 : Int32) (x3 : Int32) {Q : Int32 → Md → Prop} (hw : qX6_make u0 x1 x2 x3 Q) : MI l yX6_make cX6_make 4 .int 0 0 0 E [.ref h0, .int x1, .int x2, .int x3] ([wX6 E h0 a0 u0].flatten) (fun (U : Md) => [wX6 E h0 a0 U].flatten) (fun (r : Int32) (U : Md) => Q r U) := by
  refine MI.of (own := RX6) (by decide) rfl (Nat.le_of_ble_eq_true rfl) ?_
  intro X C hini hret
  show VV X 0 0 ([wX6 E h0 a0 u0].flatten) [(0, .ref h0), (1, .int x1), (2, .int x2), (3, .int x3)] 0 []
  unfold qX6_make at hw
  refine v_aload_n C dX6_make_0 0 rfl ?_
  refine v_get (ci := 6) C inT6 0 0 rfl rfl (by decide) mF_X6_21_X6_0 rfl dX6_make_1 ?_
  refine v_bipush (v := 40) C dX6_make_4 (by decide) ?_
  refine v_icmp_lt (tgt := 12) C dX6_make_6 (by decide) (fun hc => ?_) (fun hc => ?_)
  · have hw := hw.1 hc
    refine v_aload_n C dX6_make_12 0 rfl ?_
    refine v_get (ci := 6) C inT6 0 1 rfl rfl (by decide) mF_X6_11_X6_1 rfl dX6_make_13 ?_
    refine v_aload_n C dX6_make_16 0 rfl ?_
    refine v_get (ci := 6) C inT6 0 0 rfl rfl (by decide) mF_X6_21_X6_0 rfl dX6_make_17 ?_
    refine v_iload_n C dX6_make_20 1 rfl ?_
    obtain ⟨hi21, hw⟩ := hw
    obtain ⟨w21, e21⟩ : ∃ z : Md, z = tA u0 1 (gF u0 0) x1 := ⟨_, rfl⟩
    have hw := hw w21 e21
    refine v_iast (ws' := [wX6 E h0 a0 w21].flatten) C 1 rfl hi21 (by rw [e21]; rfl) dX6_make_21 ?_
    refine v_aload_n C dX6_make_22 0 rfl ?_
    refine v_get (ci := 6) C inT6 0 2 rfl rfl (by decide) mF_X6_15_X6_2 rfl dX6_make_23 ?_
    refine v_aload_n C dX6_make_26 0 rfl ?_
    refine v_get (ci := 6) C inT6 0 0 rfl rfl (by decide) mF_X6_21_X6_0 rfl dX6_make_27 ?_
    refine v_iload_n C dX6_make_30 2 rfl ?_
    obtain ⟨hi31, hw⟩ := hw
    obtain ⟨w31, e31⟩ : ∃ z : Md, z = tA w21 2 (gF w21 0) x2 := ⟨_, rfl⟩
    have hw := hw w31 e31
    refine v_iast (ws' := [wX6 E h0 a0 w31].flatten) C 2 rfl hi31 (by rw [e31]; rfl) dX6_make_31 ?_
    refine v_aload_n C dX6_make_32 0 rfl ?_
    refine v_get (ci := 6) C inT6 0 3 rfl rfl (by decide) mF_X6_18_X6_3 rfl dX6_make_33 ?_
    refine v_aload_n C dX6_make_36 0 rfl ?_
    refine v_get (ci := 6) C inT6 0 0 rfl rfl (by decide) mF_X6_21_X6_0 rfl dX6_make_37 ?_
    refine v_iload_n C dX6_make_40 3 rfl ?_
    obtain ⟨hi41, hw⟩ := hw
    obtain ⟨w41, e41⟩ : ∃ z : Md, z = tA w31 3 (gF w31 0) x3 := ⟨_, rfl⟩
    have hw := hw w41 e41
    refine v_iast (ws' := [wX6 E h0 a0 w41].flatten) C 3 rfl hi41 (by rw [e41]; rfl) dX6_make_41 ?_
    refine v_aload_n C dX6_make_42 0 rfl ?_
    refine v_dup C dX6_make_43 rfl ?_
    refine v_get (ci := 6) C inT6 0 0 rfl rfl (by decide) mF_X6_21_X6_0 rfl dX6_make_44 ?_
    refine v_iconst (v := 1) C dX6_make_47 (by decide) ?_
    refine v_iadd C dX6_make_48 ?_
    obtain ⟨w49, e49⟩ : ∃ z : Md, z = sF w41 0 ((gF w41 0) + 1) := ⟨_, rfl⟩
    have hw := hw w49 e49
    refine v_put (ci := 6) (ws' := [wX6 E h0 a0 w49].flatten) C tyX6 tyX6_ok nmX6 inT6 0 0 rfl rfl (by decide) mF_X6_21_X6_0 rfl rfl rfl rfl (Nat.le_of_ble_eq_true rfl) (by rw [e49]; rfl) dX6_make_49 ?_
    refine v_aload_n C dX6_make_52 0 rfl ?_
    refine v_get (ci := 6) C inT6 0 0 rfl rfl (by decide) mF_X6_21_X6_0 rfl dX6_make_53 ?_
    refine v_iconst (v := 1) C dX6_make_56 (by decide) ?_
    refine v_isub C dX6_make_57 ?_
    exact hret _ _ _ _ ((gF w49 0) - 1) w49 dX6_make_58 rfl hw (Nat.le_of_ble_eq_true rfl) (Nat.le_of_ble_eq_true rfl)
  · have hw := hw.2 hc
    refine v_bipush (v := (-3)) C dX6_make_9 (by decide) ?_
    exact hret _ _ _ _ ((-3)) u0 dX6_make_11 rfl hw (Nat.le_of_ble_eq_true rfl) (Nat.le_of_ble_eq_true rfl)
set_option maxHeartbeats 4000000 in
set_option maxRecDepth 100000 in
theorem kX6_copyFrom {l : Launch} {E : VE} (h0 : Nat) (h1 : Nat) (a0 : Nat → Nat) (a1 : Nat → Nat) (u0 : Md) (u1 : Md) {Q : Md → Md → Prop} (hw : qX6_copyFrom u0 u1 Q) : MV l yX6_copyFrom cX6_copyFrom 2 1 0 0 E [.ref h0, .ref h1] ([wX6 E h0 a0 u0, wX6 E h1 a1 u1].flatten) (fun (U : Md × Md) => [wX6 E h0 a0 U.1, wX6 E h1 a1 U.2].flatten) (fun (U : Md × Md) => Q U.1 U.2) := by
  refine MV.of (own := RX6) (by decide) rfl (Nat.le_of_ble_eq_true rfl) ?_
  intro X C hini hret
  show VV X 0 0 ([wX6 E h0 a0 u0, wX6 E h1 a1 u1].flatten) [(0, .ref h0), (1, .ref h1)] 0 []
  unfold qX6_copyFrom at hw
  refine v_aload_n C dX6_copyFrom_0 0 rfl ?_
  refine v_aload_n C dX6_copyFrom_1 1 rfl ?_
  refine v_get (ci := 6) C inT6 4 0 rfl rfl (by decide) mF_X6_21_X6_0 rfl dX6_copyFrom_2 ?_
  obtain ⟨w5, e5⟩ : ∃ z : Md, z = sF u0 0 (gF u1 0) := ⟨_, rfl⟩
  have hw := hw w5 e5
  refine v_put (ci := 6) (ws' := [wX6 E h0 a0 w5, wX6 E h1 a1 u1].flatten) C tyX6 tyX6_ok nmX6 inT6 0 0 rfl rfl (by decide) mF_X6_21_X6_0 rfl rfl rfl rfl (Nat.le_of_ble_eq_true rfl) (by rw [e5]; rfl) dX6_copyFrom_5 ?_
  refine v_aload_n C dX6_copyFrom_8 1 rfl ?_
  refine v_get (ci := 6) C inT6 4 1 rfl rfl (by decide) mF_X6_11_X6_1 rfl dX6_copyFrom_9 ?_
  refine v_iconst (v := 0) C dX6_copyFrom_12 (by decide) ?_
  refine v_aload_n C dX6_copyFrom_13 0 rfl ?_
  refine v_get (ci := 6) C inT6 0 1 rfl rfl (by decide) mF_X6_11_X6_1 rfl dX6_copyFrom_14 ?_
  refine v_iconst (v := 0) C dX6_copyFrom_17 (by decide) ?_
  refine v_aload_n C dX6_copyFrom_18 0 rfl ?_
  refine v_get (ci := 6) C inT6 0 0 rfl rfl (by decide) mF_X6_21_X6_0 rfl dX6_copyFrom_19 ?_
  obtain ⟨hi22, hw⟩ := hw
  obtain ⟨w22, e22⟩ : ∃ z : Md, z = sA w5 1 (va_cpy (gA u1 1) (gA w5 1) (0 : Int32).toNatClampNeg (0 : Int32).toNatClampNeg (gF w5 0).toNatClampNeg) := ⟨_, rfl⟩
  have hw := hw w22 e22
  refine v_copyi (ws' := [wX6 E h0 a0 w22, wX6 E h1 a1 u1].flatten) C 5 1 rfl rfl mM_X6_25 hi22 ⟨Nat.le_of_ble_eq_true rfl, Nat.le_of_ble_eq_true rfl⟩ (by rw [e22]; rfl) dX6_copyFrom_22 ?_
  refine v_aload_n C dX6_copyFrom_25 1 rfl ?_
  refine v_get (ci := 6) C inT6 4 2 rfl rfl (by decide) mF_X6_15_X6_2 rfl dX6_copyFrom_26 ?_
  refine v_iconst (v := 0) C dX6_copyFrom_29 (by decide) ?_
  refine v_aload_n C dX6_copyFrom_30 0 rfl ?_
  refine v_get (ci := 6) C inT6 0 2 rfl rfl (by decide) mF_X6_15_X6_2 rfl dX6_copyFrom_31 ?_
  refine v_iconst (v := 0) C dX6_copyFrom_34 (by decide) ?_
  refine v_aload_n C dX6_copyFrom_35 0 rfl ?_
  refine v_get (ci := 6) C inT6 0 0 rfl rfl (by decide) mF_X6_21_X6_0 rfl dX6_copyFrom_36 ?_
  obtain ⟨hi39, hw⟩ := hw
  obtain ⟨w39, e39⟩ : ∃ z : Md, z = sA w22 2 (va_cpy (gA u1 2) (gA w22 2) (0 : Int32).toNatClampNeg (0 : Int32).toNatClampNeg (gF w22 0).toNatClampNeg) := ⟨_, rfl⟩
  have hw := hw w39 e39
  refine v_copyi (ws' := [wX6 E h0 a0 w39, wX6 E h1 a1 u1].flatten) C 6 2 rfl rfl mM_X6_25 hi39 ⟨Nat.le_of_ble_eq_true rfl, Nat.le_of_ble_eq_true rfl⟩ (by rw [e39]; rfl) dX6_copyFrom_39 ?_
  refine v_aload_n C dX6_copyFrom_42 1 rfl ?_
  refine v_get (ci := 6) C inT6 4 3 rfl rfl (by decide) mF_X6_18_X6_3 rfl dX6_copyFrom_43 ?_
  refine v_iconst (v := 0) C dX6_copyFrom_46 (by decide) ?_
  refine v_aload_n C dX6_copyFrom_47 0 rfl ?_
  refine v_get (ci := 6) C inT6 0 3 rfl rfl (by decide) mF_X6_18_X6_3 rfl dX6_copyFrom_48 ?_
  refine v_iconst (v := 0) C dX6_copyFrom_51 (by decide) ?_
  refine v_aload_n C dX6_copyFrom_52 0 rfl ?_
  refine v_get (ci := 6) C inT6 0 0 rfl rfl (by decide) mF_X6_21_X6_0 rfl dX6_copyFrom_53 ?_
  obtain ⟨hi56, hw⟩ := hw
  obtain ⟨w56, e56⟩ : ∃ z : Md, z = sA w39 3 (va_cpy (gA u1 3) (gA w39 3) (0 : Int32).toNatClampNeg (0 : Int32).toNatClampNeg (gF w39 0).toNatClampNeg) := ⟨_, rfl⟩
  have hw := hw w56 e56
  refine v_copyi (ws' := [wX6 E h0 a0 w56, wX6 E h1 a1 u1].flatten) C 7 3 rfl rfl mM_X6_25 hi56 ⟨Nat.le_of_ble_eq_true rfl, Nat.le_of_ble_eq_true rfl⟩ (by rw [e56]; rfl) dX6_copyFrom_56 ?_
  exact hret _ _ _ _ (w56, u1) dX6_copyFrom_59 hw (Nat.le_of_ble_eq_true rfl) (Nat.le_of_ble_eq_true rfl)
set_option maxHeartbeats 4000000 in
set_option maxRecDepth 100000 in
theorem kX7_hasName {l : Launch} {E : VE} (h0 : Nat) (a0 : Nat → Nat) (u0 : Md) (x1 : Int32) {Q : Int32 → Md → Prop} (hw : qX7_hasName u0 x1 Q) : MI l yX7_hasName cX7_hasName 2 .boolean 0 0 0 E [.ref h0, .int x1] ([wX7 E h0 a0 u0].flatten) (fun (U : Md) => [wX7 E h0 a0 U].flatten) (fun (r : Int32) (U : Md) => (r = 0 ∨ r = 1) ∧ Q r U) := by
  refine MI.of (own := RX7) (by decide) rfl (Nat.le_of_ble_eq_true rfl) ?_
  intro X C hini hret
  show VV X 0 0 ([wX7 E h0 a0 u0].flatten) [(0, .ref h0), (1, .int x1)] 0 []
  unfold qX7_hasName at hw
  refine v_iload_n C dX7_hasName_0 1 rfl ?_
  refine v_if_lt (tgt := 16) C dX7_hasName_1 (by decide) (fun hc => ?_) (fun hc => ?_)
  · have hw := hw.1 hc
    refine v_iconst (v := 0) C dX7_hasName_16 (by decide) ?_
    exact hret _ _ _ _ 0 u0 dX7_hasName_17 rfl ⟨Or.inl rfl, hw⟩ (Nat.le_of_ble_eq_true rfl) (Nat.le_of_ble_eq_true rfl)
  · have hw := hw.2 hc
    refine v_iload_n C dX7_hasName_4 1 rfl ?_
    refine v_aload_n C dX7_hasName_5 0 rfl ?_
    refine v_get (ci := 7) C inT7 0 0 rfl rfl (by decide) mF_X7_55_X7_0 rfl dX7_hasName_6 ?_
    refine v_icmp_ge (tgt := 16) C dX7_hasName_9 (by decide) (fun hc => ?_) (fun hc => ?_)
    · have hw := hw.1 hc
      refine v_iconst (v := 0) C dX7_hasName_16 (by decide) ?_
      exact hret _ _ _ _ 0 u0 dX7_hasName_17 rfl ⟨Or.inl rfl, hw⟩ (Nat.le_of_ble_eq_true rfl) (Nat.le_of_ble_eq_true rfl)
    · have hw := hw.2 hc
      refine v_iconst (v := 1) C dX7_hasName_12 (by decide) ?_
      refine v_goto (tgt := 17) C dX7_hasName_13 (by decide) ?_
      exact hret _ _ _ _ 1 u0 dX7_hasName_17 rfl ⟨Or.inr rfl, hw⟩ (Nat.le_of_ble_eq_true rfl) (Nat.le_of_ble_eq_true rfl)
set_option maxHeartbeats 4000000 in
set_option maxRecDepth 100000 in
theorem kX7_addName {l : Launch} {E : VE} (h0 : Nat) (h1 : Nat) (a0 : Nat → Nat) (a1 : Nat → Nat) (u0 : Md) (u1 : Md) (x2 : Int32) (x3 : Int32) (x4 : Int32) {Q : Int32 → Md → Md → Prop} (hw : qX7_addName u0 u1 x2 x3 x4 Q) : MI l yX7_addName cX7_addName 6 .int 1 0 0 E [.ref h0, .ref h1, .int x2, .int x3, .int x4] ([wX7 E h0 a0 u0, wX9 E h1 a1 u1].flatten) (fun (U : Md × Md) => [wX7 E h0 a0 U.1, wX9 E h1 a1 U.2].flatten) (fun (r : Int32) (U : Md × Md) => Q r U.1 U.2) := by
  refine MI.of (own := RX7) (by decide) rfl (Nat.le_of_ble_eq_true rfl) ?_
  intro X C hini hret
  show VV X 0 0 ([wX7 E h0 a0 u0, wX9 E h1 a1 u1].flatten) [(0, .ref h0), (1, .ref h1), (2, .int x2), (3, .int x3), (4, .int x4)] 0 []
  unfold qX7_addName at hw
  refine v_aload_n C dX7_addName_0 0 rfl ?_
  refine v_get (ci := 7) C inT7 0 0 rfl rfl (by decide) mF_X7_55_X7_0 rfl dX7_addName_1 ?_
  refine v_bipush (v := 80) C dX7_addName_4 (by decide) ?_
  refine v_icmp_ge (tgt := 18) C dX7_addName_6 (by decide) (fun hc => ?_) (fun hc => ?_)
  · have hw := hw.1 hc
    refine v_bipush (v := (-3)) C dX7_addName_18 (by decide) ?_
    exact hret _ _ _ _ ((-3)) (u0, u1) dX7_addName_20 rfl hw (Nat.le_of_ble_eq_true rfl) (Nat.le_of_ble_eq_true rfl)
  · have hw := hw.2 hc
    refine v_aload_n C dX7_addName_9 1 rfl ?_
    refine v_get (ci := 9) C inT9 15 1 rfl rfl (by decide) mF_X7_59_X9_1 rfl dX7_addName_10 ?_
    refine v_bipush (v := 12) C dX7_addName_13 (by decide) ?_
    refine v_icmp_le (tgt := 21) C dX7_addName_15 (by decide) (fun hc => ?_) (fun hc => ?_)
    · have hw := hw.1 hc
      refine v_aload_n C dX7_addName_21 0 rfl ?_
      refine v_get (ci := 7) C inT7 0 1 rfl rfl (by decide) mF_X7_11_X7_1 rfl dX7_addName_22 ?_
      refine v_aload_n C dX7_addName_25 0 rfl ?_
      refine v_get (ci := 7) C inT7 0 0 rfl rfl (by decide) mF_X7_55_X7_0 rfl dX7_addName_26 ?_
      refine v_iload_n C dX7_addName_29 2 rfl ?_
      obtain ⟨hi30, hw⟩ := hw
      obtain ⟨w30, e30⟩ : ∃ z : Md, z = tA u0 1 (gF u0 0) x2 := ⟨_, rfl⟩
      have hw := hw w30 e30
      refine v_iast (ws' := [wX7 E h0 a0 w30, wX9 E h1 a1 u1].flatten) C 1 rfl hi30 (by rw [e30]; rfl) dX7_addName_30 ?_
      refine v_aload_n C dX7_addName_31 0 rfl ?_
      refine v_get (ci := 7) C inT7 0 2 rfl rfl (by decide) mF_X7_15_X7_2 rfl dX7_addName_32 ?_
      refine v_aload_n C dX7_addName_35 0 rfl ?_
      refine v_get (ci := 7) C inT7 0 0 rfl rfl (by decide) mF_X7_55_X7_0 rfl dX7_addName_36 ?_
      refine v_iload_n C dX7_addName_39 3 rfl ?_
      obtain ⟨hi40, hw⟩ := hw
      obtain ⟨w40, e40⟩ : ∃ z : Md, z = tA w30 2 (gF w30 0) x3 := ⟨_, rfl⟩
      have hw := hw w40 e40
      refine v_iast (ws' := [wX7 E h0 a0 w40, wX9 E h1 a1 u1].flatten) C 2 rfl hi40 (by rw [e40]; rfl) dX7_addName_40 ?_
      refine v_aload_n C dX7_addName_41 0 rfl ?_
      refine v_get (ci := 7) C inT7 0 3 rfl rfl (by decide) mF_X7_18_X7_3 rfl dX7_addName_42 ?_
      refine v_aload_n C dX7_addName_45 0 rfl ?_
      refine v_get (ci := 7) C inT7 0 0 rfl rfl (by decide) mF_X7_55_X7_0 rfl dX7_addName_46 ?_
      refine v_iload C dX7_addName_49 4 rfl ?_
      obtain ⟨hi51, hw⟩ := hw
      obtain ⟨w51, e51⟩ : ∃ z : Md, z = tA w40 3 (gF w40 0) x4 := ⟨_, rfl⟩
      have hw := hw w51 e51
      refine v_iast (ws' := [wX7 E h0 a0 w51, wX9 E h1 a1 u1].flatten) C 3 rfl hi51 (by rw [e51]; rfl) dX7_addName_51 ?_
      refine v_aload_n C dX7_addName_52 0 rfl ?_
      refine v_get (ci := 7) C inT7 0 4 rfl rfl (by decide) mF_X7_21_X7_4 rfl dX7_addName_53 ?_
      refine v_aload_n C dX7_addName_56 0 rfl ?_
      refine v_get (ci := 7) C inT7 0 0 rfl rfl (by decide) mF_X7_55_X7_0 rfl dX7_addName_57 ?_
      refine v_aload_n C dX7_addName_60 1 rfl ?_
      refine v_get (ci := 9) C inT9 15 1 rfl rfl (by decide) mF_X7_59_X9_1 rfl dX7_addName_61 ?_
      obtain ⟨hi64, hw⟩ := hw
      obtain ⟨w64, e64⟩ : ∃ z : Md, z = tA w51 4 (gF w51 0) (gF u1 1) := ⟨_, rfl⟩
      have hw := hw w64 e64
      refine v_iast (ws' := [wX7 E h0 a0 w64, wX9 E h1 a1 u1].flatten) C 4 rfl hi64 (by rw [e64]; rfl) dX7_addName_64 ?_
      refine v_aload_n C dX7_addName_65 0 rfl ?_
      refine v_get (ci := 7) C inT7 0 0 rfl rfl (by decide) mF_X7_55_X7_0 rfl dX7_addName_66 ?_
      refine v_bipush (v := 14) C dX7_addName_69 (by decide) ?_
      refine v_imul C dX7_addName_71 ?_
      refine v_istore (lv' := [(5, .int ((gF w64 0) * 14)), (0, .ref h0), (1, .ref h1), (2, .int x2), (3, .int x3), (4, .int x4)]) C dX7_addName_72 (by decide) rfl ?_
      refine v_aload_n C dX7_addName_74 1 rfl ?_
      refine v_get (ci := 7) C inT7 0 5 rfl rfl (by decide) mF_X7_24_X7_5 rfl dX7_addName_75 ?_
      refine v_iload C dX7_addName_78 0 rfl ?_
      refine v_bipush (v := 123) C dX7_addName_80 (by decide) ?_
      obtain ⟨hi82, hw⟩ := hw
      obtain ⟨w82, e82⟩ : ∃ z : Md, z = tB w64 5 ((gF w64 0) * 14) 123 := ⟨_, rfl⟩
      have hw := hw w82 e82
      refine v_bast (ws' := [wX7 E h0 a0 w82, wX9 E h1 a1 u1].flatten) C 5 rfl hi82 (by rw [e82]; rfl) dX7_addName_82 ?_
      refine v_aload_n C dX7_addName_83 2 rfl ?_
      refine v_get (ci := 9) C inT9 15 0 rfl rfl (by decide) mF_X7_64_X9_0 rfl dX7_addName_84 ?_
      refine v_iconst (v := 0) C dX7_addName_87 (by decide) ?_
      refine v_aload_n C dX7_addName_88 1 rfl ?_
      refine v_get (ci := 7) C inT7 0 5 rfl rfl (by decide) mF_X7_24_X7_5 rfl dX7_addName_89 ?_
      refine v_iload C dX7_addName_92 0 rfl ?_
      refine v_iconst (v := 1) C dX7_addName_94 (by decide) ?_
      refine v_iadd C dX7_addName_95 ?_
      refine v_aload_n C dX7_addName_96 2 rfl ?_
      refine v_get (ci := 9) C inT9 15 1 rfl rfl (by decide) mF_X7_59_X9_1 rfl dX7_addName_97 ?_
      obtain ⟨hi100, hw⟩ := hw
      obtain ⟨w100, e100⟩ : ∃ z : Md, z = sB w82 5 (va_cpy (gB u1 0) (gB w82 5) (0 : Int32).toNatClampNeg (((gF w64 0) * 14) + 1).toNatClampNeg (gF u1 1).toNatClampNeg) := ⟨_, rfl⟩
      have hw := hw w100 e100
      refine v_copyb (ws' := [wX7 E h0 a0 w100, wX9 E h1 a1 u1].flatten) C 16 5 rfl rfl mM_X7_67 hi100 ⟨Nat.le_of_ble_eq_true rfl, Nat.le_of_ble_eq_true rfl⟩ (by rw [e100]; rfl) dX7_addName_100 ?_
      refine v_aload_n C dX7_addName_103 1 rfl ?_
      refine v_get (ci := 7) C inT7 0 5 rfl rfl (by decide) mF_X7_24_X7_5 rfl dX7_addName_104 ?_
      refine v_iload C dX7_addName_107 0 rfl ?_
      refine v_iconst (v := 1) C dX7_addName_109 (by decide) ?_
      refine v_iadd C dX7_addName_110 ?_
      refine v_aload_n C dX7_addName_111 2 rfl ?_
      refine v_get (ci := 9) C inT9 15 1 rfl rfl (by decide) mF_X7_59_X9_1 rfl dX7_addName_112 ?_
      refine v_iadd C dX7_addName_115 ?_
      refine v_bipush (v := 123) C dX7_addName_116 (by decide) ?_
      obtain ⟨hi118, hw⟩ := hw
      obtain ⟨w118, e118⟩ : ∃ z : Md, z = tB w100 5 ((((gF w64 0) * 14) + 1) + (gF u1 1)) 123 := ⟨_, rfl⟩
      have hw := hw w118 e118
      refine v_bast (ws' := [wX7 E h0 a0 w118, wX9 E h1 a1 u1].flatten) C 5 rfl hi118 (by rw [e118]; rfl) dX7_addName_118 ?_
      refine v_aload_n C dX7_addName_119 1 rfl ?_
      refine v_dup C dX7_addName_120 rfl ?_
      refine v_get (ci := 7) C inT7 0 0 rfl rfl (by decide) mF_X7_55_X7_0 rfl dX7_addName_121 ?_
      refine v_iconst (v := 1) C dX7_addName_124 (by decide) ?_
      refine v_iadd C dX7_addName_125 ?_
      obtain ⟨w126, e126⟩ : ∃ z : Md, z = sF w118 0 ((gF w118 0) + 1) := ⟨_, rfl⟩
      have hw := hw w126 e126
      refine v_put (ci := 7) (ws' := [wX7 E h0 a0 w126, wX9 E h1 a1 u1].flatten) C tyX7 tyX7_ok nmX7 inT7 0 0 rfl rfl (by decide) mF_X7_55_X7_0 rfl rfl rfl rfl (Nat.le_of_ble_eq_true rfl) (by rw [e126]; rfl) dX7_addName_126 ?_
      refine v_aload_n C dX7_addName_129 1 rfl ?_
      refine v_get (ci := 7) C inT7 0 0 rfl rfl (by decide) mF_X7_55_X7_0 rfl dX7_addName_130 ?_
      refine v_iconst (v := 1) C dX7_addName_133 (by decide) ?_
      refine v_isub C dX7_addName_134 ?_
      exact hret _ _ _ _ ((gF w126 0) - 1) (w126, u1) dX7_addName_135 rfl hw (Nat.le_of_ble_eq_true rfl) (Nat.le_of_ble_eq_true rfl)
    · have hw := hw.2 hc
      refine v_bipush (v := (-3)) C dX7_addName_18 (by decide) ?_
      exact hret _ _ _ _ ((-3)) (u0, u1) dX7_addName_20 rfl hw (Nat.le_of_ble_eq_true rfl) (Nat.le_of_ble_eq_true rfl)
set_option maxHeartbeats 4000000 in
set_option maxRecDepth 100000 in
theorem kX9_isWordOf {l : Launch} {E : VE} (h0 : Nat) (a0 : Nat → Nat) (u0 : Md) (x1 : Int32) {Q : Int32 → Md → Prop} (hw : qX9_isWordOf u0 x1 Q) : MI l yX9_isWordOf cX9_isWordOf 2 .boolean 0 0 0 E [.ref h0, .int x1] ([wX9 E h0 a0 u0].flatten) (fun (U : Md) => [wX9 E h0 a0 U].flatten) (fun (r : Int32) (U : Md) => (r = 0 ∨ r = 1) ∧ Q r U) := by
  refine MI.of (own := RX9) (by decide) rfl (Nat.le_of_ble_eq_true rfl) ?_
  intro X C hini hret
  show VV X 0 0 ([wX9 E h0 a0 u0].flatten) [(0, .ref h0), (1, .int x1)] 0 []
  unfold qX9_isWordOf at hw
  refine v_aload_n C dX9_isWordOf_0 0 rfl ?_
  refine v_get (ci := 9) C inT9 0 6 rfl rfl (by decide) mF_X9_35_X9_6 rfl dX9_isWordOf_1 ?_
  refine v_iconst (v := 1) C dX9_isWordOf_4 (by decide) ?_
  refine v_icmp_ne (tgt := 25) C dX9_isWordOf_5 (by decide) (fun hc => ?_) (fun hc => ?_)
  · have hw := hw.1 hc
    refine v_iconst (v := 0) C dX9_isWordOf_25 (by decide) ?_
    exact hret _ _ _ _ 0 u0 dX9_isWordOf_26 rfl ⟨Or.inl rfl, hw⟩ (Nat.le_of_ble_eq_true rfl) (Nat.le_of_ble_eq_true rfl)
  · have hw := hw.2 hc
    refine v_aload_n C dX9_isWordOf_8 0 rfl ?_
    refine v_get (ci := 9) C inT9 0 5 rfl rfl (by decide) mF_X9_29_X9_5 rfl dX9_isWordOf_9 ?_
    refine v_aload_n C dX9_isWordOf_12 0 rfl ?_
    refine v_get (ci := 9) C inT9 0 4 rfl rfl (by decide) mF_X9_38_X9_4 rfl dX9_isWordOf_13 ?_
    refine v_isub C dX9_isWordOf_16 ?_
    refine v_iload_n C dX9_isWordOf_17 1 rfl ?_
    refine v_icmp_gt (tgt := 25) C dX9_isWordOf_18 (by decide) (fun hc => ?_) (fun hc => ?_)
    · have hw := hw.1 hc
      refine v_iconst (v := 0) C dX9_isWordOf_25 (by decide) ?_
      exact hret _ _ _ _ 0 u0 dX9_isWordOf_26 rfl ⟨Or.inl rfl, hw⟩ (Nat.le_of_ble_eq_true rfl) (Nat.le_of_ble_eq_true rfl)
    · have hw := hw.2 hc
      refine v_iconst (v := 1) C dX9_isWordOf_21 (by decide) ?_
      refine v_goto (tgt := 26) C dX9_isWordOf_22 (by decide) ?_
      exact hret _ _ _ _ 1 u0 dX9_isWordOf_26 rfl ⟨Or.inr rfl, hw⟩ (Nat.le_of_ble_eq_true rfl) (Nat.le_of_ble_eq_true rfl)
set_option maxHeartbeats 4000000 in
set_option maxRecDepth 100000 in
theorem kX7_readWord {l : Launch} {E : VE} (h0 : Nat) (h1 : Nat) (h2 : Nat) (a1 : Nat → Nat) (n2 : Nat) (u1 : Md) (f2 : Nat → Int8) (x3 : Int32) {Q : Int32 → Md → (Nat → Int8) → Prop} (hw : qX7_readWord n2 u1 f2 x3 Q) : MI l yX7_readWord cX7_readWord 5 .int 2 0 0 E [.ref h0, .ref h1, .ref h2, .int x3] ([wX9 E h1 a1 u1, wAB E h2 n2 f2].flatten) (fun (U : Md × (Nat → Int8)) => [wX9 E h1 a1 U.1, wAB E h2 n2 U.2].flatten) (fun (r : Int32) (U : Md × (Nat → Int8)) => Q r U.1 U.2) := by
  refine MI.of (own := RX7) (by decide) rfl (Nat.le_of_ble_eq_true rfl) ?_
  intro X C hini hret
  show VV X 0 0 ([wX9 E h1 a1 u1, wAB E h2 n2 f2].flatten) [(0, .ref h0), (1, .ref h1), (2, .ref h2), (3, .int x3)] 0 []
  unfold qX7_readWord at hw
  refine v_aload_n C dX7_readWord_0 1 rfl ?_
  refine v_iconst (v := 3) C dX7_readWord_1 (by decide) ?_
  refine v_callVMi (st := []) (ci := 9) (qb := 0) C (kX9_isWordOf h1 a1 _ _ hw) mM_X7_85 mI_X9 mC_X9_isWordOf mN_X9_isWordOf mS_X9_isWordOf rfl rfl hd_X9_isWordOf ⟨Nat.le_of_ble_eq_true rfl, Nat.le_of_ble_eq_true rfl⟩ ⟨Nat.le_of_ble_eq_true rfl, Nat.le_of_ble_eq_true rfl⟩ [0] [1] (N0 := 2) rfl (by decide) (ms2 := (fun (U : Md) => [wX9 E h1 a1 U, wAB E h2 n2 f2])) rfl (fun _ => rfl) (fun _ => rfl) (fun _ => rfl) rfl (Nat.le_of_ble_eq_true rfl) dX7_readWord_2 (fun r2 v2_0 hw => ?_)
  obtain ⟨h01_2, hw⟩ := hw
  have hw := hw h01_2
  refine v_if_ne (tgt := 15) C dX7_readWord_5 (by decide) (fun hc => ?_) (fun hc => ?_)
  · have hw := hw.1 hc
    refine v_aload_n C dX7_readWord_15 1 rfl ?_
    refine v_get (ci := 9) C inT9 0 5 rfl rfl (by decide) mF_X7_128_X9_5 rfl dX7_readWord_16 ?_
    refine v_aload_n C dX7_readWord_19 1 rfl ?_
    refine v_get (ci := 9) C inT9 0 4 rfl rfl (by decide) mF_X7_125_X9_4 rfl dX7_readWord_20 ?_
    refine v_isub C dX7_readWord_23 ?_
    refine v_istore (lv' := [(4, .int ((gF v2_0 5) - (gF v2_0 4))), (0, .ref h0), (1, .ref h1), (2, .ref h2), (3, .int x3)]) C dX7_readWord_24 (by decide) rfl ?_
    refine v_aload_n C dX7_readWord_26 2 rfl ?_
    refine v_get (ci := 9) C inT9 0 0 rfl rfl (by decide) mF_X7_64_X9_0 rfl dX7_readWord_27 ?_
    refine v_aload_n C dX7_readWord_30 2 rfl ?_
    refine v_get (ci := 9) C inT9 0 4 rfl rfl (by decide) mF_X7_125_X9_4 rfl dX7_readWord_31 ?_
    refine v_aload_n C dX7_readWord_34 3 rfl ?_
    refine v_iload_n C dX7_readWord_35 4 rfl ?_
    refine v_iload C dX7_readWord_36 0 rfl ?_
    obtain ⟨hi38, hw⟩ := hw
    refine v_copyb (ws' := [wX9 E h1 a1 v2_0, wAB E h2 n2 (va_cpy (gB v2_0 0) f2 (gF v2_0 4).toNatClampNeg x3.toNatClampNeg ((gF v2_0 5) - (gF v2_0 4)).toNatClampNeg)].flatten) C 1 2 rfl rfl mM_X7_67 hi38 ⟨Nat.le_of_ble_eq_true rfl, Nat.le_of_ble_eq_true rfl⟩ rfl dX7_readWord_38 ?_
    refine v_aload_n C dX7_readWord_41 2 rfl ?_
    refine v_callVMv (st := []) (ci := 9) (qb := 0) C (kX9_advance h1 a1 _ hw) mM_X7_104 mI_X9 mC_X9_advance mN_X9_advance mS_X9_advance rfl rfl hd_X9_advance ⟨Nat.le_of_ble_eq_true rfl, Nat.le_of_ble_eq_true rfl⟩ ⟨Nat.le_of_ble_eq_true rfl, Nat.le_of_ble_eq_true rfl⟩ [0] [1] (N0 := 2) rfl (by decide) (ms2 := (fun (U : Md) => [wX9 E h1 a1 U, wAB E h2 n2 (va_cpy (gB v2_0 0) f2 (gF v2_0 4).toNatClampNeg x3.toNatClampNeg ((gF v2_0 5) - (gF v2_0 4)).toNatClampNeg)])) rfl (fun _ => rfl) (fun _ => rfl) (fun _ => rfl) rfl (Nat.le_of_ble_eq_true rfl) dX7_readWord_42 (fun v42_0 hw => ?_)
    refine v_iload C dX7_readWord_45 0 rfl ?_
    exact hret _ _ _ _ ((gF v2_0 5) - (gF v2_0 4)) (v42_0, va_cpy (gB v2_0 0) f2 (gF v2_0 4).toNatClampNeg x3.toNatClampNeg ((gF v2_0 5) - (gF v2_0 4)).toNatClampNeg) dX7_readWord_47 rfl hw (Nat.le_of_ble_eq_true rfl) (Nat.le_of_ble_eq_true rfl)
  · have hw := hw.2 hc
    refine v_aload_n C dX7_readWord_8 1 rfl ?_
    refine v_iconst (v := 1) C dX7_readWord_9 (by decide) ?_
    refine v_callVMv (st := []) (ci := 9) (qb := 0) C (kX9_blame h1 a1 _ _ hw) mM_X7_89 mI_X9 mC_X9_blame mN_X9_blame mS_X9_blame rfl rfl hd_X9_blame ⟨Nat.le_of_ble_eq_true rfl, Nat.le_of_ble_eq_true rfl⟩ ⟨Nat.le_of_ble_eq_true rfl, Nat.le_of_ble_eq_true rfl⟩ [0] [1] (N0 := 2) rfl (by decide) (ms2 := (fun (U : Md) => [wX9 E h1 a1 U, wAB E h2 n2 f2])) rfl (fun _ => rfl) (fun _ => rfl) (fun _ => rfl) rfl (Nat.le_of_ble_eq_true rfl) dX7_readWord_10 (fun v10_0 hw => ?_)
    refine v_iconst (v := 0) C dX7_readWord_13 (by decide) ?_
    exact hret _ _ _ _ 0 (v10_0, f2) dX7_readWord_14 rfl hw (Nat.le_of_ble_eq_true rfl) (Nat.le_of_ble_eq_true rfl)
set_option maxHeartbeats 4000000 in
set_option maxRecDepth 100000 in
theorem jX7_readSet_88 {X : VX} {E : VE} {l : Launch} (h0 : Nat) (h1 : Nat) (a1 : Nat → Nat)  (Q : Int32 → Md → Prop) (C : VC X cX7_readSet 4 RX7 (rmL 5 0 0) E l) (hret : RetI X cX7_readSet .int 0 0 (fun (U : Md) => [wX9 E h1 a1 U].flatten) (fun (r : Int32) (U : Md) => Q r U))  : ∀ (u1 : Md) (y2 : Int32), qX7_readSet_88 Q u1 y2 → VV X 0 0 ([wX9 E h1 a1 u1].flatten) [(1, .ref h1), (2, .int y2)] 88 [] := by
  intro u1 y2 hw
  unfold qX7_readSet_88 at hw
  refine v_aload_n C dX7_readSet_88 0 rfl ?_
  refine v_iconst (v := 1) C dX7_readSet_89 (by decide) ?_
  refine v_callFv (st := []) (ci := 9) (qb := 0) C (kX9_blame h1 a1 _ _ hw) mM_X7_89 mI_X9 mC_X9_blame mN_X9_blame mS_X9_blame rfl rfl hd_X9_blame ⟨Nat.le_of_ble_eq_true rfl, Nat.le_of_ble_eq_true rfl⟩ ⟨Nat.le_of_ble_eq_true rfl, Nat.le_of_ble_eq_true rfl⟩ rfl (Nat.le_of_ble_eq_true rfl) dX7_readSet_90 (fun v90_0 hw => ?_)
  refine v_iload_n C dX7_readSet_93 1 rfl ?_
  exact hret _ _ _ _ y2 v90_0 dX7_readSet_94 rfl hw (Nat.le_of_ble_eq_true rfl) (Nat.le_of_ble_eq_true rfl)
set_option maxHeartbeats 4000000 in
set_option maxRecDepth 100000 in
theorem jX7_readSet_53 {X : VX} {E : VE} {l : Launch} (h0 : Nat) (h1 : Nat) (a1 : Nat → Nat)  (Q : Int32 → Md → Prop) (C : VC X cX7_readSet 4 RX7 (rmL 5 0 0) E l) (hret : RetI X cX7_readSet .int 0 0 (fun (U : Md) => [wX9 E h1 a1 U].flatten) (fun (r : Int32) (U : Md) => Q r U))  : ∀ (n : Nat), ∀ (u1 : Md) (y2 : Int32) (y3 : Int32), qX7_readSet_53 Q n u1 y2 y3 → VV X 0 0 ([wX9 E h1 a1 u1].flatten) [(1, .ref h1), (2, .int y2), (3, .int y3)] 53 [] := by
  intro n
  induction n with
  | zero =>
    intro u1 y2 y3 hw
    exact hw.elim
  | succ n ih =>
    intro u1 y2 y3 hw
    unfold qX7_readSet_53 at hw
    refine v_iload_n C dX7_readSet_53 2 rfl ?_
    refine v_aload_n C dX7_readSet_54 0 rfl ?_
    refine v_get (ci := 9) C inT9 0 5 rfl rfl (by decide) mF_X7_128_X9_5 rfl dX7_readSet_55 ?_
    refine v_icmp_ge (tgt := 81) C dX7_readSet_58 (by decide) (fun hc => ?_) (fun hc => ?_)
    · have hw := hw.1 hc
      refine v_aload_n C dX7_readSet_81 0 rfl ?_
      refine v_callFv (st := []) (ci := 9) (qb := 0) C (kX9_advance h1 a1 _ hw) mM_X7_104 mI_X9 mC_X9_advance mN_X9_advance mS_X9_advance rfl rfl hd_X9_advance ⟨Nat.le_of_ble_eq_true rfl, Nat.le_of_ble_eq_true rfl⟩ ⟨Nat.le_of_ble_eq_true rfl, Nat.le_of_ble_eq_true rfl⟩ rfl (Nat.le_of_ble_eq_true rfl) dX7_readSet_82 (fun v82_0 hw => ?_)
      refine v_goto (tgt := 93) C dX7_readSet_85 (by decide) ?_
      refine v_iload_n C dX7_readSet_93 1 rfl ?_
      exact hret _ _ _ _ y2 v82_0 dX7_readSet_94 rfl hw (Nat.le_of_ble_eq_true rfl) (Nat.le_of_ble_eq_true rfl)
    · have hw := hw.2 hc
      refine v_iload_n C dX7_readSet_61 1 rfl ?_
      refine v_iconst (v := 1) C dX7_readSet_62 (by decide) ?_
      refine v_aload_n C dX7_readSet_63 0 rfl ?_
      refine v_get (ci := 9) C inT9 0 0 rfl rfl (by decide) mF_X7_64_X9_0 rfl dX7_readSet_64 ?_
      refine v_iload_n C dX7_readSet_67 2 rfl ?_
      obtain ⟨hi68, hw⟩ := hw
      refine v_bald C 1 rfl hi68 dX7_readSet_68 ?_
      refine v_bipush (v := 97) C dX7_readSet_69 (by decide) ?_
      refine v_isub C dX7_readSet_71 ?_
      refine v_ishl C dX7_readSet_72 ?_
      refine v_ior C dX7_readSet_73 ?_
      refine v_istore_n (lv' := [(2, .int (y2 ||| ((1 : Int32) <<< ((((gB u1 0 y3.toNatClampNeg).toInt32) - 97) &&& 31)))), (1, .ref h1), (3, .int y3)]) C dX7_readSet_74 (by decide) rfl ?_
      refine v_iinc (lv' := [(3, .int (y3 + Int32.ofInt 1)), (2, .int (y2 ||| ((1 : Int32) <<< ((((gB u1 0 y3.toNatClampNeg).toInt32) - 97) &&& 31)))), (1, .ref h1)]) C dX7_readSet_75 2 rfl (by decide) rfl ?_
      refine v_goto (tgt := 53) C dX7_readSet_78 (by decide) ?_
      refine v_lv C (lv' := [(1, .ref h1), (2, .int (y2 ||| ((1 : Int32) <<< ((((gB u1 0 y3.toNatClampNeg).toInt32) - 97) &&& 31)))), (3, .int (y3 + Int32.ofInt 1))]) [2, 1, 0] rfl ?_
      exact ih u1 (y2 ||| ((1 : Int32) <<< ((((gB u1 0 y3.toNatClampNeg).toInt32) - 97) &&& 31))) (y3 + Int32.ofInt 1) hw
set_option maxHeartbeats 4000000 in
set_option maxRecDepth 100000 in
theorem kX7_readSet {l : Launch} {E : VE} (h0 : Nat) (h1 : Nat) (a1 : Nat → Nat) (u1 : Md) {Q : Int32 → Md → Prop} (hw : qX7_readSet u1 Q) : MI l yX7_readSet cX7_readSet 4 .int 5 0 0 E [.ref h0, .ref h1] ([wX9 E h1 a1 u1].flatten) (fun (U : Md) => [wX9 E h1 a1 U].flatten) (fun (r : Int32) (U : Md) => Q r U) := by
  refine MI.of (own := RX7) (by decide) rfl (Nat.le_of_ble_eq_true rfl) ?_
  intro X C hini hret
  show VV X 0 0 ([wX9 E h1 a1 u1].flatten) [(0, .ref h0), (1, .ref h1)] 0 []
  unfold qX7_readSet at hw
  refine v_iconst (v := 0) C dX7_readSet_0 (by decide) ?_
  refine v_istore_n (lv' := [(2, .int 0), (0, .ref h0), (1, .ref h1)]) C dX7_readSet_1 (by decide) rfl ?_
  refine v_aload_n C dX7_readSet_2 2 rfl ?_
  refine v_bipush (v := 35) C dX7_readSet_3 (by decide) ?_
  refine v_callFi (st := []) (ci := 9) (qb := 0) C (kX9_isSign h1 a1 _ _ hw) mM_X7_119 mI_X9 mC_X9_isSign mN_X9_isSign mS_X9_isSign rfl rfl hd_X9_isSign ⟨Nat.le_of_ble_eq_true rfl, Nat.le_of_ble_eq_true rfl⟩ ⟨Nat.le_of_ble_eq_true rfl, Nat.le_of_ble_eq_true rfl⟩ rfl (Nat.le_of_ble_eq_true rfl) dX7_readSet_5 (fun r5 v5_0 hw => ?_)
  obtain ⟨h01_5, hw⟩ := hw
  have hw := hw h01_5
  refine v_if_eq (tgt := 21) C dX7_readSet_8 (by decide) (fun hc => ?_) (fun hc => ?_)
  · have hw := hw.1 hc
    refine v_aload_n C dX7_readSet_21 2 rfl ?_
    refine v_bipush (v := 26) C dX7_readSet_22 (by decide) ?_
    refine v_callFi (st := []) (ci := 9) (qb := 0) C (kX9_isWordOf h1 a1 _ _ hw) mM_X7_85 mI_X9 mC_X9_isWordOf mN_X9_isWordOf mS_X9_isWordOf rfl rfl hd_X9_isWordOf ⟨Nat.le_of_ble_eq_true rfl, Nat.le_of_ble_eq_true rfl⟩ ⟨Nat.le_of_ble_eq_true rfl, Nat.le_of_ble_eq_true rfl⟩ rfl (Nat.le_of_ble_eq_true rfl) dX7_readSet_24 (fun r24 v24_0 hw => ?_)
    obtain ⟨h01_24, hw⟩ := hw
    have hw := hw h01_24
    refine v_if_eq (tgt := 88) C dX7_readSet_27 (by decide) (fun hc => ?_) (fun hc => ?_)
    · have hw := hw.1 hc
      refine v_lv C (lv' := [(1, .ref h1), (2, .int 0)]) [2, 0] rfl ?_
      exact jX7_readSet_88 h0 h1 a1 Q C hret v24_0 0 hw
    · have hw := hw.2 hc
      refine v_aload_n C dX7_readSet_30 2 rfl ?_
      refine v_ldcS C (tx := "after") 0 (by decide) dX7_readSet_31 ?_
      refine v_callFi (st := []) (ci := 9) (qb := 0) C (kX9_isWord h1 a1 _ _ (by decide) hw) mM_X7_81 mI_X9 mC_X9_isWord mN_X9_isWord mS_X9_isWord rfl rfl hd_X9_isWord ⟨Nat.le_of_ble_eq_true rfl, Nat.le_of_ble_eq_true rfl⟩ ⟨Nat.le_of_ble_eq_true rfl, Nat.le_of_ble_eq_true rfl⟩ rfl (Nat.le_of_ble_eq_true rfl) dX7_readSet_33 (fun r33 v33_0 hw => ?_)
      obtain ⟨h01_33, hw⟩ := hw
      have hw := hw h01_33
      refine v_if_ne (tgt := 88) C dX7_readSet_36 (by decide) (fun hc => ?_) (fun hc => ?_)
      · have hw := hw.1 hc
        refine v_lv C (lv' := [(1, .ref h1), (2, .int 0)]) [2, 0] rfl ?_
        exact jX7_readSet_88 h0 h1 a1 Q C hret v33_0 0 hw
      · have hw := hw.2 hc
        refine v_aload_n C dX7_readSet_39 2 rfl ?_
        refine v_ldcS C (tx := "before") 1 (by decide) dX7_readSet_40 ?_
        refine v_callFi (st := []) (ci := 9) (qb := 0) C (kX9_isWord h1 a1 _ _ (by decide) hw) mM_X7_81 mI_X9 mC_X9_isWord mN_X9_isWord mS_X9_isWord rfl rfl hd_X9_isWord ⟨Nat.le_of_ble_eq_true rfl, Nat.le_of_ble_eq_true rfl⟩ ⟨Nat.le_of_ble_eq_true rfl, Nat.le_of_ble_eq_true rfl⟩ rfl (Nat.le_of_ble_eq_true rfl) dX7_readSet_42 (fun r42 v42_0 hw => ?_)
        obtain ⟨h01_42, hw⟩ := hw
        have hw := hw h01_42
        refine v_if_ne (tgt := 88) C dX7_readSet_45 (by decide) (fun hc => ?_) (fun hc => ?_)
        · have hw := hw.1 hc
          refine v_lv C (lv' := [(1, .ref h1), (2, .int 0)]) [2, 0] rfl ?_
          exact jX7_readSet_88 h0 h1 a1 Q C hret v42_0 0 hw
        · have hw := hw.2 hc
          refine v_aload_n C dX7_readSet_48 2 rfl ?_
          refine v_get (ci := 9) C inT9 0 4 rfl rfl (by decide) mF_X7_125_X9_4 rfl dX7_readSet_49 ?_
          refine v_istore_n (lv' := [(3, .int (gF v42_0 4)), (2, .int 0), (0, .ref h0), (1, .ref h1)]) C dX7_readSet_52 (by decide) rfl ?_
          refine v_lv C (lv' := [(1, .ref h1), (2, .int 0), (3, .int (gF v42_0 4))]) [3, 1, 0] rfl ?_
          obtain ⟨n', hw⟩ := hw
          exact jX7_readSet_53 h0 h1 a1 Q C hret n' v42_0 0 (gF v42_0 4) hw
  · have hw := hw.2 hc
    refine v_ldc C mK_X7_124 dX7_readSet_11 ?_
    refine v_istore_n (lv' := [(2, .int 67108864), (0, .ref h0), (1, .ref h1)]) C dX7_readSet_13 (by decide) rfl ?_
    refine v_aload_n C dX7_readSet_14 2 rfl ?_
    refine v_callFv (st := []) (ci := 9) (qb := 0) C (kX9_advance h1 a1 _ hw) mM_X7_104 mI_X9 mC_X9_advance mN_X9_advance mS_X9_advance rfl rfl hd_X9_advance ⟨Nat.le_of_ble_eq_true rfl, Nat.le_of_ble_eq_true rfl⟩ ⟨Nat.le_of_ble_eq_true rfl, Nat.le_of_ble_eq_true rfl⟩ rfl (Nat.le_of_ble_eq_true rfl) dX7_readSet_15 (fun v15_0 hw => ?_)
    refine v_goto (tgt := 93) C dX7_readSet_18 (by decide) ?_
    refine v_iload_n C dX7_readSet_93 0 rfl ?_
    exact hret _ _ _ _ 67108864 v15_0 dX7_readSet_94 rfl hw (Nat.le_of_ble_eq_true rfl) (Nat.le_of_ble_eq_true rfl)
set_option maxHeartbeats 4000000 in
set_option maxRecDepth 100000 in
theorem jX7_readRule_129 {X : VX} {E : VE} {l : Launch} (h0 : Nat) (h1 : Nat) (a0 : Nat → Nat) (a1 : Nat → Nat)  (Q : Md → Md → Prop) (C : VC X cX7_readRule 3 RX7 (rmL 6 0 0) E l) (hret : RetV X cX7_readRule 0 0 (fun (U : Md × Md) => [wX7 E h0 a0 U.1, wX9 E h1 a1 U.2].flatten) (fun (U : Md × Md) => Q U.1 U.2))  : ∀ (u0 : Md) (u1 : Md), qX7_readRule_129 Q u0 u1 → VV X 0 0 ([wX7 E h0 a0 u0, wX9 E h1 a1 u1].flatten) [(1, .ref h1)] 129 [] := by
  intro u0 u1 hw
  unfold qX7_readRule_129 at hw
  refine v_aload_n C dX7_readRule_129 0 rfl ?_
  refine v_bipush (v := 59) C dX7_readRule_130 (by decide) ?_
  refine v_callVMv (st := []) (ci := 9) (qb := 15) C (kX9_takeSign h1 a1 _ _ hw) mM_X7_115 mI_X9 mC_X9_takeSign mN_X9_takeSign mS_X9_takeSign rfl rfl hd_X9_takeSign ⟨Nat.le_of_ble_eq_true rfl, Nat.le_of_ble_eq_true rfl⟩ ⟨Nat.le_of_ble_eq_true rfl, Nat.le_of_ble_eq_true rfl⟩ [1] [0] (N0 := 2) rfl (by decide) (ms2 := (fun (U : Md) => [wX7 E h0 a0 u0, wX9 E h1 a1 U])) rfl (fun _ => rfl) (fun _ => rfl) (fun _ => rfl) rfl (Nat.le_of_ble_eq_true rfl) dX7_readRule_132 (fun v132_0 hw => ?_)
  exact hret _ _ _ _ (u0, v132_0) dX7_readRule_135 hw (Nat.le_of_ble_eq_true rfl) (Nat.le_of_ble_eq_true rfl)
set_option maxHeartbeats 4000000 in
set_option maxRecDepth 100000 in
theorem jX7_readRule_105 {X : VX} {E : VE} {l : Launch} (h0 : Nat) (h1 : Nat) (a0 : Nat → Nat) (a1 : Nat → Nat)  (Q : Md → Md → Prop) (C : VC X cX7_readRule 3 RX7 (rmL 6 0 0) E l) (hret : RetV X cX7_readRule 0 0 (fun (U : Md × Md) => [wX7 E h0 a0 U.1, wX9 E h1 a1 U.2].flatten) (fun (U : Md × Md) => Q U.1 U.2))  : ∀ (u0 : Md) (u1 : Md) (y2 : Int32), qX7_readRule_105 Q u0 u1 y2 → VV X 0 0 ([wX7 E h0 a0 u0, wX9 E h1 a1 u1].flatten) [(0, .ref h0), (1, .ref h1), (2, .int y2)] 105 [] := by
  intro u0 u1 y2 hw
  unfold qX7_readRule_105 at hw
  refine v_aload_n C dX7_readRule_105 1 rfl ?_
  refine v_ldcS C (tx := "before") 1 (by decide) dX7_readRule_106 ?_
  refine v_callVMi (st := []) (ci := 9) (qb := 15) C (kX9_isWord h1 a1 _ _ (by decide) hw) mM_X7_81 mI_X9 mC_X9_isWord mN_X9_isWord mS_X9_isWord rfl rfl hd_X9_isWord ⟨Nat.le_of_ble_eq_true rfl, Nat.le_of_ble_eq_true rfl⟩ ⟨Nat.le_of_ble_eq_true rfl, Nat.le_of_ble_eq_true rfl⟩ [1] [0] (N0 := 2) rfl (by decide) (ms2 := (fun (U : Md) => [wX7 E h0 a0 u0, wX9 E h1 a1 U])) rfl (fun _ => rfl) (fun _ => rfl) (fun _ => rfl) rfl (Nat.le_of_ble_eq_true rfl) dX7_readRule_108 (fun r108 v108_0 hw => ?_)
  obtain ⟨h01_108, hw⟩ := hw
  have hw := hw h01_108
  refine v_if_eq (tgt := 129) C dX7_readRule_111 (by decide) (fun hc => ?_) (fun hc => ?_)
  · have hw := hw.1 hc
    refine v_lv C (lv' := [(1, .ref h1)]) [1] rfl ?_
    exact jX7_readRule_129 h0 h1 a0 a1 Q C hret u0 v108_0 hw
  · have hw := hw.2 hc
    refine v_aload_n C dX7_readRule_114 1 rfl ?_
    refine v_callVMv (st := []) (ci := 9) (qb := 15) C (kX9_advance h1 a1 _ hw) mM_X7_104 mI_X9 mC_X9_advance mN_X9_advance mS_X9_advance rfl rfl hd_X9_advance ⟨Nat.le_of_ble_eq_true rfl, Nat.le_of_ble_eq_true rfl⟩ ⟨Nat.le_of_ble_eq_true rfl, Nat.le_of_ble_eq_true rfl⟩ [1] [0] (N0 := 2) rfl (by decide) (ms2 := (fun (U : Md) => [wX7 E h0 a0 u0, wX9 E h1 a1 U])) rfl (fun _ => rfl) (fun _ => rfl) (fun _ => rfl) rfl (Nat.le_of_ble_eq_true rfl) dX7_readRule_115 (fun v115_0 hw => ?_)
    refine v_aload_n C dX7_readRule_118 0 rfl ?_
    refine v_get (ci := 7) C inT7 0 11 rfl rfl (by decide) mF_X7_40_X7_11 rfl dX7_readRule_119 ?_
    refine v_iload_n C dX7_readRule_122 2 rfl ?_
    refine v_aload_n C dX7_readRule_123 0 rfl ?_
    refine v_aload_n C dX7_readRule_124 1 rfl ?_
    refine v_callVMi (st := [.int y2, .ref ((a0 11))]) (ci := 7) (qb := 0) C (kX7_readSet h0 h1 a1 _ hw) mM_X7_107 mI_X7 mC_X7_readSet mN_X7_readSet mS_X7_readSet rfl rfl hd_X7_readSet ⟨Nat.le_of_ble_eq_true rfl, Nat.le_of_ble_eq_true rfl⟩ ⟨Nat.le_of_ble_eq_true rfl, Nat.le_of_ble_eq_true rfl⟩ [1] [0] (N0 := 2) rfl (by decide) (ms2 := (fun (U : Md) => [wX7 E h0 a0 u0, wX9 E h1 a1 U])) rfl (fun _ => rfl) (fun _ => rfl) (fun _ => rfl) rfl (Nat.le_of_ble_eq_true rfl) dX7_readRule_125 (fun r125 v125_0 hw => ?_)
    obtain ⟨hi128, hw⟩ := hw
    obtain ⟨w128, e128⟩ : ∃ z : Md, z = tA u0 11 y2 r125 := ⟨_, rfl⟩
    have hw := hw w128 e128
    refine v_iast (ws' := [wX7 E h0 a0 w128, wX9 E h1 a1 v125_0].flatten) C 10 rfl hi128 (by rw [e128]; rfl) dX7_readRule_128 ?_
    refine v_lv C (lv' := [(1, .ref h1)]) [1] rfl ?_
    exact jX7_readRule_129 h0 h1 a0 a1 Q C hret w128 v125_0 hw
set_option maxHeartbeats 4000000 in
set_option maxRecDepth 100000 in
theorem jX7_readRule_47 {X : VX} {E : VE} {l : Launch} (h0 : Nat) (h1 : Nat) (a0 : Nat → Nat) (a1 : Nat → Nat)  (Q : Md → Md → Prop) (C : VC X cX7_readRule 3 RX7 (rmL 6 0 0) E l) (hret : RetV X cX7_readRule 0 0 (fun (U : Md × Md) => [wX7 E h0 a0 U.1, wX9 E h1 a1 U.2].flatten) (fun (U : Md × Md) => Q U.1 U.2))  : ∀ (u0 : Md) (u1 : Md) (y2 : Int32), qX7_readRule_47 Q u0 u1 y2 → VV X 0 0 ([wX7 E h0 a0 u0, wX9 E h1 a1 u1].flatten) [(0, .ref h0), (1, .ref h1), (2, .int y2)] 47 [] := by
  intro u0 u1 y2 hw
  unfold qX7_readRule_47 at hw
  refine v_aload_n C dX7_readRule_47 0 rfl ?_
  refine v_get (ci := 7) C inT7 0 12 rfl rfl (by decide) mF_X7_43_X7_12 rfl dX7_readRule_48 ?_
  refine v_iload_n C dX7_readRule_51 2 rfl ?_
  refine v_aload_n C dX7_readRule_52 0 rfl ?_
  refine v_aload_n C dX7_readRule_53 1 rfl ?_
  refine v_aload_n C dX7_readRule_54 0 rfl ?_
  refine v_get (ci := 7) C inT7 0 14 rfl rfl (by decide) mF_X7_49_X7_14 rfl dX7_readRule_55 ?_
  refine v_iload_n C dX7_readRule_58 2 rfl ?_
  refine v_iconst (v := 3) C dX7_readRule_59 (by decide) ?_
  refine v_imul C dX7_readRule_60 ?_
  refine v_callVi (st := [.int y2, .ref ((a0 12))]) (ci := 7) (qb := 0) (wr := ([0, 1, 2, 3, 4, 5, 6, 7, 8, 9, 10, 11, 12, 14] : List Nat).filterMap (fun i => ([wX7 E h0 a0 u0, wX9 E h1 a1 u1].flatten)[i]?)) C (kX7_readWord h0 h1 ((a0 14)) a1 _ _ _ _ hw) mM_X7_111 mI_X7 mC_X7_readWord mN_X7_readWord mS_X7_readWord rfl rfl hd_X7_readWord ⟨Nat.le_of_ble_eq_true rfl, Nat.le_of_ble_eq_true rfl⟩ ⟨Nat.le_of_ble_eq_true rfl, Nat.le_of_ble_eq_true rfl⟩ [15, 16, 13] [0, 1, 2, 3, 4, 5, 6, 7, 8, 9, 10, 11, 12, 14] rfl (by decide) rfl (by decide) (by decide) rfl (Nat.le_of_ble_eq_true rfl) dX7_readRule_61 (fun r61 U61 hw => ?_)
  obtain ⟨v61_0, v61_1⟩ := U61
  refine v_ws (ws' := [wX7 E h0 a0 (sB u0 14 v61_1), wX9 E h1 a1 v61_0].flatten) C [0, 1, 2, 3, 4, 5, 6, 7, 8, 9, 10, 11, 12, 16, 13, 14, 15] (by decide) rfl ?_
  obtain ⟨hi64, hw⟩ := hw
  obtain ⟨w64, e64⟩ : ∃ z : Md, z = tA (sB u0 14 v61_1) 12 y2 r61 := ⟨_, rfl⟩
  have hw := hw w64 e64
  refine v_iast (ws' := [wX7 E h0 a0 w64, wX9 E h1 a1 v61_0].flatten) C 11 rfl hi64 (by rw [e64]; rfl) dX7_readRule_64 ?_
  refine v_aload_n C dX7_readRule_65 1 rfl ?_
  refine v_bipush (v := 62) C dX7_readRule_66 (by decide) ?_
  refine v_callVMv (st := []) (ci := 9) (qb := 15) C (kX9_takeSign h1 a1 _ _ hw) mM_X7_115 mI_X9 mC_X9_takeSign mN_X9_takeSign mS_X9_takeSign rfl rfl hd_X9_takeSign ⟨Nat.le_of_ble_eq_true rfl, Nat.le_of_ble_eq_true rfl⟩ ⟨Nat.le_of_ble_eq_true rfl, Nat.le_of_ble_eq_true rfl⟩ [1] [0] (N0 := 2) rfl (by decide) (ms2 := (fun (U : Md) => [wX7 E h0 a0 w64, wX9 E h1 a1 U])) rfl (fun _ => rfl) (fun _ => rfl) (fun _ => rfl) rfl (Nat.le_of_ble_eq_true rfl) dX7_readRule_68 (fun v68_0 hw => ?_)
  refine v_aload_n C dX7_readRule_71 1 rfl ?_
  refine v_bipush (v := 45) C dX7_readRule_72 (by decide) ?_
  refine v_callVMi (st := []) (ci := 9) (qb := 15) C (kX9_isSign h1 a1 _ _ hw) mM_X7_119 mI_X9 mC_X9_isSign mN_X9_isSign mS_X9_isSign rfl rfl hd_X9_isSign ⟨Nat.le_of_ble_eq_true rfl, Nat.le_of_ble_eq_true rfl⟩ ⟨Nat.le_of_ble_eq_true rfl, Nat.le_of_ble_eq_true rfl⟩ [1] [0] (N0 := 2) rfl (by decide) (ms2 := (fun (U : Md) => [wX7 E h0 a0 w64, wX9 E h1 a1 U])) rfl (fun _ => rfl) (fun _ => rfl) (fun _ => rfl) rfl (Nat.le_of_ble_eq_true rfl) dX7_readRule_74 (fun r74 v74_0 hw => ?_)
  obtain ⟨h01_74, hw⟩ := hw
  have hw := hw h01_74
  refine v_if_eq (tgt := 87) C dX7_readRule_77 (by decide) (fun hc => ?_) (fun hc => ?_)
  · have hw := hw.1 hc
    refine v_aload_n C dX7_readRule_87 0 rfl ?_
    refine v_get (ci := 7) C inT7 0 13 rfl rfl (by decide) mF_X7_46_X7_13 rfl dX7_readRule_88 ?_
    refine v_iload_n C dX7_readRule_91 2 rfl ?_
    refine v_aload_n C dX7_readRule_92 0 rfl ?_
    refine v_aload_n C dX7_readRule_93 1 rfl ?_
    refine v_aload_n C dX7_readRule_94 0 rfl ?_
    refine v_get (ci := 7) C inT7 0 15 rfl rfl (by decide) mF_X7_52_X7_15 rfl dX7_readRule_95 ?_
    refine v_iload_n C dX7_readRule_98 2 rfl ?_
    refine v_iconst (v := 3) C dX7_readRule_99 (by decide) ?_
    refine v_imul C dX7_readRule_100 ?_
    refine v_callVi (st := [.int y2, .ref ((a0 13))]) (ci := 7) (qb := 0) (wr := ([0, 1, 2, 3, 4, 5, 6, 7, 8, 9, 10, 11, 12, 13] : List Nat).filterMap (fun i => ([wX7 E h0 a0 w64, wX9 E h1 a1 v74_0].flatten)[i]?)) C (kX7_readWord h0 h1 ((a0 15)) a1 _ _ _ _ hw) mM_X7_111 mI_X7 mC_X7_readWord mN_X7_readWord mS_X7_readWord rfl rfl hd_X7_readWord ⟨Nat.le_of_ble_eq_true rfl, Nat.le_of_ble_eq_true rfl⟩ ⟨Nat.le_of_ble_eq_true rfl, Nat.le_of_ble_eq_true rfl⟩ [15, 16, 14] [0, 1, 2, 3, 4, 5, 6, 7, 8, 9, 10, 11, 12, 13] rfl (by decide) rfl (by decide) (by decide) rfl (Nat.le_of_ble_eq_true rfl) dX7_readRule_101 (fun r101 U101 hw => ?_)
    obtain ⟨v101_0, v101_1⟩ := U101
    refine v_ws (ws' := [wX7 E h0 a0 (sB w64 15 v101_1), wX9 E h1 a1 v101_0].flatten) C [0, 1, 2, 3, 4, 5, 6, 7, 8, 9, 10, 11, 12, 13, 16, 14, 15] (by decide) rfl ?_
    obtain ⟨hi104, hw⟩ := hw
    obtain ⟨w104, e104⟩ : ∃ z : Md, z = tA (sB w64 15 v101_1) 13 y2 r101 := ⟨_, rfl⟩
    have hw := hw w104 e104
    refine v_iast (ws' := [wX7 E h0 a0 w104, wX9 E h1 a1 v101_0].flatten) C 12 rfl hi104 (by rw [e104]; rfl) dX7_readRule_104 ?_
    exact jX7_readRule_105 h0 h1 a0 a1 Q C hret w104 v101_0 y2 hw
  · have hw := hw.2 hc
    refine v_aload_n C dX7_readRule_80 1 rfl ?_
    refine v_callVMv (st := []) (ci := 9) (qb := 15) C (kX9_advance h1 a1 _ hw) mM_X7_104 mI_X9 mC_X9_advance mN_X9_advance mS_X9_advance rfl rfl hd_X9_advance ⟨Nat.le_of_ble_eq_true rfl, Nat.le_of_ble_eq_true rfl⟩ ⟨Nat.le_of_ble_eq_true rfl, Nat.le_of_ble_eq_true rfl⟩ [1] [0] (N0 := 2) rfl (by decide) (ms2 := (fun (U : Md) => [wX7 E h0 a0 w64, wX9 E h1 a1 U])) rfl (fun _ => rfl) (fun _ => rfl) (fun _ => rfl) rfl (Nat.le_of_ble_eq_true rfl) dX7_readRule_81 (fun v81_0 hw => ?_)
    refine v_goto (tgt := 105) C dX7_readRule_84 (by decide) ?_
    exact jX7_readRule_105 h0 h1 a0 a1 Q C hret w64 v81_0 y2 hw
set_option maxHeartbeats 4000000 in
set_option maxRecDepth 100000 in
theorem kX7_readRule {l : Launch} {E : VE} (h0 : Nat) (h1 : Nat) (a0 : Nat → Nat) (a1 : Nat → Nat) (u0 : Md) (u1 : Md) (x2 : Int32) {Q : Md → Md → Prop} (hw : qX7_readRule u0 u1 x2 Q) : MV l yX7_readRule cX7_readRule 3 6 0 0 E [.ref h0, .ref h1, .int x2] ([wX7 E h0 a0 u0, wX9 E h1 a1 u1].flatten) (fun (U : Md × Md) => [wX7 E h0 a0 U.1, wX9 E h1 a1 U.2].flatten) (fun (U : Md × Md) => Q U.1 U.2) := by
  refine MV.of (own := RX7) (by decide) rfl (Nat.le_of_ble_eq_true rfl) ?_
  intro X C hini hret
  show VV X 0 0 ([wX7 E h0 a0 u0, wX9 E h1 a1 u1].flatten) [(0, .ref h0), (1, .ref h1), (2, .int x2)] 0 []
  unfold qX7_readRule at hw
  refine v_aload_n C dX7_readRule_0 0 rfl ?_
  refine v_get (ci := 7) C inT7 0 10 rfl rfl (by decide) mF_X7_37_X7_10 rfl dX7_readRule_1 ?_
  refine v_iload_n C dX7_readRule_4 2 rfl ?_
  refine v_ldc C mK_X7_103 dX7_readRule_5 ?_
  obtain ⟨hi7, hw⟩ := hw
  obtain ⟨w7, e7⟩ : ∃ z : Md, z = tA u0 10 x2 134217727 := ⟨_, rfl⟩
  have hw := hw w7 e7
  refine v_iast (ws' := [wX7 E h0 a0 w7, wX9 E h1 a1 u1].flatten) C 9 rfl hi7 (by rw [e7]; rfl) dX7_readRule_7 ?_
  refine v_aload_n C dX7_readRule_8 0 rfl ?_
  refine v_get (ci := 7) C inT7 0 11 rfl rfl (by decide) mF_X7_40_X7_11 rfl dX7_readRule_9 ?_
  refine v_iload_n C dX7_readRule_12 2 rfl ?_
  refine v_ldc C mK_X7_103 dX7_readRule_13 ?_
  obtain ⟨hi15, hw⟩ := hw
  obtain ⟨w15, e15⟩ : ∃ z : Md, z = tA w7 11 x2 134217727 := ⟨_, rfl⟩
  have hw := hw w15 e15
  refine v_iast (ws' := [wX7 E h0 a0 w15, wX9 E h1 a1 u1].flatten) C 10 rfl hi15 (by rw [e15]; rfl) dX7_readRule_15 ?_
  refine v_aload_n C dX7_readRule_16 0 rfl ?_
  refine v_get (ci := 7) C inT7 0 13 rfl rfl (by decide) mF_X7_46_X7_13 rfl dX7_readRule_17 ?_
  refine v_iload_n C dX7_readRule_20 2 rfl ?_
  refine v_iconst (v := 0) C dX7_readRule_21 (by decide) ?_
  obtain ⟨hi22, hw⟩ := hw
  obtain ⟨w22, e22⟩ : ∃ z : Md, z = tA w15 13 x2 0 := ⟨_, rfl⟩
  have hw := hw w22 e22
  refine v_iast (ws' := [wX7 E h0 a0 w22, wX9 E h1 a1 u1].flatten) C 12 rfl hi22 (by rw [e22]; rfl) dX7_readRule_22 ?_
  refine v_aload_n C dX7_readRule_23 1 rfl ?_
  refine v_ldcS C (tx := "after") 0 (by decide) dX7_readRule_24 ?_
  refine v_callVMi (st := []) (ci := 9) (qb := 15) C (kX9_isWord h1 a1 _ _ (by decide) hw) mM_X7_81 mI_X9 mC_X9_isWord mN_X9_isWord mS_X9_isWord rfl rfl hd_X9_isWord ⟨Nat.le_of_ble_eq_true rfl, Nat.le_of_ble_eq_true rfl⟩ ⟨Nat.le_of_ble_eq_true rfl, Nat.le_of_ble_eq_true rfl⟩ [1] [0] (N0 := 2) rfl (by decide) (ms2 := (fun (U : Md) => [wX7 E h0 a0 w22, wX9 E h1 a1 U])) rfl (fun _ => rfl) (fun _ => rfl) (fun _ => rfl) rfl (Nat.le_of_ble_eq_true rfl) dX7_readRule_26 (fun r26 v26_0 hw => ?_)
  obtain ⟨h01_26, hw⟩ := hw
  have hw := hw h01_26
  refine v_if_eq (tgt := 47) C dX7_readRule_29 (by decide) (fun hc => ?_) (fun hc => ?_)
  · have hw := hw.1 hc
    exact jX7_readRule_47 h0 h1 a0 a1 Q C hret w22 v26_0 x2 hw
  · have hw := hw.2 hc
    refine v_aload_n C dX7_readRule_32 1 rfl ?_
    refine v_callVMv (st := []) (ci := 9) (qb := 15) C (kX9_advance h1 a1 _ hw) mM_X7_104 mI_X9 mC_X9_advance mN_X9_advance mS_X9_advance rfl rfl hd_X9_advance ⟨Nat.le_of_ble_eq_true rfl, Nat.le_of_ble_eq_true rfl⟩ ⟨Nat.le_of_ble_eq_true rfl, Nat.le_of_ble_eq_true rfl⟩ [1] [0] (N0 := 2) rfl (by decide) (ms2 := (fun (U : Md) => [wX7 E h0 a0 w22, wX9 E h1 a1 U])) rfl (fun _ => rfl) (fun _ => rfl) (fun _ => rfl) rfl (Nat.le_of_ble_eq_true rfl) dX7_readRule_33 (fun v33_0 hw => ?_)
    refine v_aload_n C dX7_readRule_36 0 rfl ?_
    refine v_get (ci := 7) C inT7 0 10 rfl rfl (by decide) mF_X7_37_X7_10 rfl dX7_readRule_37 ?_
    refine v_iload_n C dX7_readRule_40 2 rfl ?_
    refine v_aload_n C dX7_readRule_41 0 rfl ?_
    refine v_aload_n C dX7_readRule_42 1 rfl ?_
    refine v_callVMi (st := [.int x2, .ref ((a0 10))]) (ci := 7) (qb := 0) C (kX7_readSet h0 h1 a1 _ hw) mM_X7_107 mI_X7 mC_X7_readSet mN_X7_readSet mS_X7_readSet rfl rfl hd_X7_readSet ⟨Nat.le_of_ble_eq_true rfl, Nat.le_of_ble_eq_true rfl⟩ ⟨Nat.le_of_ble_eq_true rfl, Nat.le_of_ble_eq_true rfl⟩ [1] [0] (N0 := 2) rfl (by decide) (ms2 := (fun (U : Md) => [wX7 E h0 a0 w22, wX9 E h1 a1 U])) rfl (fun _ => rfl) (fun _ => rfl) (fun _ => rfl) rfl (Nat.le_of_ble_eq_true rfl) dX7_readRule_43 (fun r43 v43_0 hw => ?_)
    obtain ⟨hi46, hw⟩ := hw
    obtain ⟨w46, e46⟩ : ∃ z : Md, z = tA w22 10 x2 r43 := ⟨_, rfl⟩
    have hw := hw w46 e46
    refine v_iast (ws' := [wX7 E h0 a0 w46, wX9 E h1 a1 v43_0].flatten) C 9 rfl hi46 (by rw [e46]; rfl) dX7_readRule_46 ?_
    exact jX7_readRule_47 h0 h1 a0 a1 Q C hret w46 v43_0 x2 hw
set_option maxHeartbeats 4000000 in
set_option maxRecDepth 100000 in
theorem jX7_readSpelling_88 {X : VX} {E : VE} {l : Launch} (h0 : Nat) (h1 : Nat) (a0 : Nat → Nat) (a1 : Nat → Nat)  (Q : Int32 → Md → Md → Prop) (C : VC X cX7_readSpelling 6 RX7 (rmL 7 0 0) E l) (hret : RetI X cX7_readSpelling .int 0 0 (fun (U : Md × Md) => [wX7 E h0 a0 U.1, wX9 E h1 a1 U.2].flatten) (fun (r : Int32) (U : Md × Md) => Q r U.1 U.2))  : ∀ (u0 : Md) (u1 : Md) (y2 : Int32) (y3 : Int32) (y4 : Int32), qX7_readSpelling_88 Q u0 u1 y2 y3 y4 → VV X 0 0 ([wX7 E h0 a0 u0, wX9 E h1 a1 u1].flatten) [(0, .ref h0), (1, .ref h1), (2, .int y2), (3, .int y3), (4, .int y4)] 88 [] := by
  intro u0 u1 y2 y3 y4 hw
  unfold qX7_readSpelling_88 at hw
  refine v_aload_n C dX7_readSpelling_88 1 rfl ?_
  refine v_get (ci := 9) C inT9 15 2 rfl rfl (by decide) mF_X7_100_X9_2 rfl dX7_readSpelling_89 ?_
  refine v_if_ne (tgt := 136) C dX7_readSpelling_92 (by decide) (fun hc => ?_) (fun hc => ?_)
  · have hw := hw.1 hc
    refine v_iload C dX7_readSpelling_136 4 rfl ?_
    exact hret _ _ _ _ y4 (u0, u1) dX7_readSpelling_138 rfl hw (Nat.le_of_ble_eq_true rfl) (Nat.le_of_ble_eq_true rfl)
  · have hw := hw.2 hc
    refine v_aload_n C dX7_readSpelling_95 0 rfl ?_
    refine v_get (ci := 7) C inT7 0 7 rfl rfl (by decide) mF_X7_28_X7_7 rfl dX7_readSpelling_96 ?_
    refine v_aload_n C dX7_readSpelling_99 0 rfl ?_
    refine v_get (ci := 7) C inT7 0 6 rfl rfl (by decide) mF_X7_93_X7_6 rfl dX7_readSpelling_100 ?_
    refine v_iload_n C dX7_readSpelling_103 2 rfl ?_
    obtain ⟨hi104, hw⟩ := hw
    obtain ⟨w104, e104⟩ : ∃ z : Md, z = tA u0 7 (gF u0 6) y2 := ⟨_, rfl⟩
    have hw := hw w104 e104
    refine v_iast (ws' := [wX7 E h0 a0 w104, wX9 E h1 a1 u1].flatten) C 6 rfl hi104 (by rw [e104]; rfl) dX7_readSpelling_104 ?_
    refine v_aload_n C dX7_readSpelling_105 0 rfl ?_
    refine v_get (ci := 7) C inT7 0 8 rfl rfl (by decide) mF_X7_31_X7_8 rfl dX7_readSpelling_106 ?_
    refine v_aload_n C dX7_readSpelling_109 0 rfl ?_
    refine v_get (ci := 7) C inT7 0 6 rfl rfl (by decide) mF_X7_93_X7_6 rfl dX7_readSpelling_110 ?_
    refine v_iload_n C dX7_readSpelling_113 3 rfl ?_
    obtain ⟨hi114, hw⟩ := hw
    obtain ⟨w114, e114⟩ : ∃ z : Md, z = tA w104 8 (gF w104 6) y3 := ⟨_, rfl⟩
    have hw := hw w114 e114
    refine v_iast (ws' := [wX7 E h0 a0 w114, wX9 E h1 a1 u1].flatten) C 7 rfl hi114 (by rw [e114]; rfl) dX7_readSpelling_114 ?_
    refine v_aload_n C dX7_readSpelling_115 0 rfl ?_
    refine v_get (ci := 7) C inT7 0 9 rfl rfl (by decide) mF_X7_34_X7_9 rfl dX7_readSpelling_116 ?_
    refine v_aload_n C dX7_readSpelling_119 0 rfl ?_
    refine v_get (ci := 7) C inT7 0 6 rfl rfl (by decide) mF_X7_93_X7_6 rfl dX7_readSpelling_120 ?_
    refine v_iload C dX7_readSpelling_123 4 rfl ?_
    obtain ⟨hi125, hw⟩ := hw
    obtain ⟨w125, e125⟩ : ∃ z : Md, z = tA w114 9 (gF w114 6) y4 := ⟨_, rfl⟩
    have hw := hw w125 e125
    refine v_iast (ws' := [wX7 E h0 a0 w125, wX9 E h1 a1 u1].flatten) C 8 rfl hi125 (by rw [e125]; rfl) dX7_readSpelling_125 ?_
    refine v_aload_n C dX7_readSpelling_126 0 rfl ?_
    refine v_dup C dX7_readSpelling_127 rfl ?_
    refine v_get (ci := 7) C inT7 0 6 rfl rfl (by decide) mF_X7_93_X7_6 rfl dX7_readSpelling_128 ?_
    refine v_iconst (v := 1) C dX7_readSpelling_131 (by decide) ?_
    refine v_iadd C dX7_readSpelling_132 ?_
    obtain ⟨w133, e133⟩ : ∃ z : Md, z = sF w125 6 ((gF w125 6) + 1) := ⟨_, rfl⟩
    have hw := hw w133 e133
    refine v_put (ci := 7) (ws' := [wX7 E h0 a0 w133, wX9 E h1 a1 u1].flatten) C tyX7 tyX7_ok nmX7 inT7 0 6 rfl rfl (by decide) mF_X7_93_X7_6 rfl rfl rfl rfl (Nat.le_of_ble_eq_true rfl) (by rw [e133]; rfl) dX7_readSpelling_133 ?_
    refine v_iload C dX7_readSpelling_136 4 rfl ?_
    exact hret _ _ _ _ y4 (w133, u1) dX7_readSpelling_138 rfl hw (Nat.le_of_ble_eq_true rfl) (Nat.le_of_ble_eq_true rfl)
set_option maxHeartbeats 4000000 in
set_option maxRecDepth 100000 in
theorem jX7_readSpelling_49 {X : VX} {E : VE} {l : Launch} (h0 : Nat) (h1 : Nat) (a0 : Nat → Nat) (a1 : Nat → Nat)  (Q : Int32 → Md → Md → Prop) (C : VC X cX7_readSpelling 6 RX7 (rmL 7 0 0) E l) (hret : RetI X cX7_readSpelling .int 0 0 (fun (U : Md × Md) => [wX7 E h0 a0 U.1, wX9 E h1 a1 U.2].flatten) (fun (r : Int32) (U : Md × Md) => Q r U.1 U.2)) (K10 : Md → Md → Int32 → Int32 → Int32 → Int32 → Prop) (hK10 : ∀ (u0 : Md) (u1 : Md) (y2 : Int32) (y3 : Int32) (y4 : Int32) (y5 : Int32), K10 u0 u1 y2 y3 y4 y5 → VV X 0 0 ([wX7 E h0 a0 u0, wX9 E h1 a1 u1].flatten) [(0, .ref h0), (1, .ref h1), (2, .int y2), (3, .int y3), (4, .int y4), (5, .int y5)] 10 []) : ∀ (u0 : Md) (u1 : Md) (y2 : Int32) (y3 : Int32) (y4 : Int32) (y5 : Int32), qX7_readSpelling_49 Q K10 u0 u1 y2 y3 y4 y5 → VV X 0 0 ([wX7 E h0 a0 u0, wX9 E h1 a1 u1].flatten) [(0, .ref h0), (1, .ref h1), (2, .int y2), (3, .int y3), (4, .int y4), (5, .int y5)] 49 [] := by
  intro u0 u1 y2 y3 y4 y5 hw
  unfold qX7_readSpelling_49 at hw
  refine v_iload C dX7_readSpelling_49 4 rfl ?_
  refine v_bipush (v := 16) C dX7_readSpelling_51 (by decide) ?_
  refine v_icmp_lt (tgt := 64) C dX7_readSpelling_53 (by decide) (fun hc => ?_) (fun hc => ?_)
  · have hw := hw.1 hc
    refine v_aload_n C dX7_readSpelling_64 0 rfl ?_
    refine v_aload_n C dX7_readSpelling_65 1 rfl ?_
    refine v_aload_n C dX7_readSpelling_66 0 rfl ?_
    refine v_get (ci := 7) C inT7 0 6 rfl rfl (by decide) mF_X7_93_X7_6 rfl dX7_readSpelling_67 ?_
    refine v_bipush (v := 16) C dX7_readSpelling_70 (by decide) ?_
    refine v_imul C dX7_readSpelling_72 ?_
    refine v_iload C dX7_readSpelling_73 4 rfl ?_
    refine v_iadd C dX7_readSpelling_75 ?_
    refine v_callFv (st := []) (ci := 7) (qb := 0) C (kX7_readRule h0 h1 a0 a1 _ _ _ hw) mM_X7_96 mI_X7 mC_X7_readRule mN_X7_readRule mS_X7_readRule rfl rfl hd_X7_readRule ⟨Nat.le_of_ble_eq_true rfl, Nat.le_of_ble_eq_true rfl⟩ ⟨Nat.le_of_ble_eq_true rfl, Nat.le_of_ble_eq_true rfl⟩ rfl (Nat.le_of_ble_eq_true rfl) dX7_readSpelling_76 (fun U76 hw => ?_)
    obtain ⟨v76_0, v76_1⟩ := U76
    refine v_iinc (lv' := [(4, .int (y4 + Int32.ofInt 1)), (0, .ref h0), (1, .ref h1), (2, .int y2), (3, .int y3), (5, .int y5)]) C dX7_readSpelling_79 4 rfl (by decide) rfl ?_
    refine v_iinc (lv' := [(5, .int (y5 + Int32.ofInt 1)), (4, .int (y4 + Int32.ofInt 1)), (0, .ref h0), (1, .ref h1), (2, .int y2), (3, .int y3)]) C dX7_readSpelling_82 5 rfl (by decide) rfl ?_
    refine v_goto (tgt := 10) C dX7_readSpelling_85 (by decide) ?_
    refine v_lv C (lv' := [(0, .ref h0), (1, .ref h1), (2, .int y2), (3, .int y3), (4, .int (y4 + Int32.ofInt 1)), (5, .int (y5 + Int32.ofInt 1))]) [2, 3, 4, 5, 1, 0] rfl ?_
    exact hK10 v76_0 v76_1 y2 y3 (y4 + Int32.ofInt 1) (y5 + Int32.ofInt 1) hw
  · have hw := hw.2 hc
    refine v_aload_n C dX7_readSpelling_56 1 rfl ?_
    refine v_iconst (v := 3) C dX7_readSpelling_57 (by decide) ?_
    refine v_callVMv (st := []) (ci := 9) (qb := 15) C (kX9_blame h1 a1 _ _ hw) mM_X7_89 mI_X9 mC_X9_blame mN_X9_blame mS_X9_blame rfl rfl hd_X9_blame ⟨Nat.le_of_ble_eq_true rfl, Nat.le_of_ble_eq_true rfl⟩ ⟨Nat.le_of_ble_eq_true rfl, Nat.le_of_ble_eq_true rfl⟩ [1] [0] (N0 := 2) rfl (by decide) (ms2 := (fun (U : Md) => [wX7 E h0 a0 u0, wX9 E h1 a1 U])) rfl (fun _ => rfl) (fun _ => rfl) (fun _ => rfl) rfl (Nat.le_of_ble_eq_true rfl) dX7_readSpelling_58 (fun v58_0 hw => ?_)
    refine v_goto (tgt := 82) C dX7_readSpelling_61 (by decide) ?_
    refine v_iinc (lv' := [(5, .int (y5 + Int32.ofInt 1)), (0, .ref h0), (1, .ref h1), (2, .int y2), (3, .int y3), (4, .int y4)]) C dX7_readSpelling_82 5 rfl (by decide) rfl ?_
    refine v_goto (tgt := 10) C dX7_readSpelling_85 (by decide) ?_
    refine v_lv C (lv' := [(0, .ref h0), (1, .ref h1), (2, .int y2), (3, .int y3), (4, .int y4), (5, .int (y5 + Int32.ofInt 1))]) [1, 2, 3, 4, 5, 0] rfl ?_
    exact hK10 u0 v58_0 y2 y3 y4 (y5 + Int32.ofInt 1) hw
set_option maxHeartbeats 4000000 in
set_option maxRecDepth 100000 in
theorem jX7_readSpelling_10 {X : VX} {E : VE} {l : Launch} (h0 : Nat) (h1 : Nat) (a0 : Nat → Nat) (a1 : Nat → Nat)  (Q : Int32 → Md → Md → Prop) (C : VC X cX7_readSpelling 6 RX7 (rmL 7 0 0) E l) (hret : RetI X cX7_readSpelling .int 0 0 (fun (U : Md × Md) => [wX7 E h0 a0 U.1, wX9 E h1 a1 U.2].flatten) (fun (r : Int32) (U : Md × Md) => Q r U.1 U.2))  : ∀ (n : Nat), ∀ (u0 : Md) (u1 : Md) (y2 : Int32) (y3 : Int32) (y4 : Int32) (y5 : Int32), qX7_readSpelling_10 Q n u0 u1 y2 y3 y4 y5 → VV X 0 0 ([wX7 E h0 a0 u0, wX9 E h1 a1 u1].flatten) [(0, .ref h0), (1, .ref h1), (2, .int y2), (3, .int y3), (4, .int y4), (5, .int y5)] 10 [] := by
  intro n
  induction n with
  | zero =>
    intro u0 u1 y2 y3 y4 y5 hw
    exact hw.elim
  | succ n ih =>
    intro u0 u1 y2 y3 y4 y5 hw
    unfold qX7_readSpelling_10 at hw
    refine v_iload C dX7_readSpelling_10 5 rfl ?_
    refine v_bipush (v := 16) C dX7_readSpelling_12 (by decide) ?_
    refine v_icmp_gt (tgt := 88) C dX7_readSpelling_14 (by decide) (fun hc => ?_) (fun hc => ?_)
    · have hw := hw.1 hc
      refine v_lv C (lv' := [(0, .ref h0), (1, .ref h1), (2, .int y2), (3, .int y3), (4, .int y4)]) [0, 1, 2, 3, 4] rfl ?_
      exact jX7_readSpelling_88 h0 h1 a0 a1 Q C hret u0 u1 y2 y3 y4 hw
    · have hw := hw.2 hc
      refine v_aload_n C dX7_readSpelling_17 1 rfl ?_
      refine v_callVMi (st := []) (ci := 9) (qb := 15) C (kX9_goesOn h1 a1 _ hw) mM_X7_76 mI_X9 mC_X9_goesOn mN_X9_goesOn mS_X9_goesOn rfl rfl hd_X9_goesOn ⟨Nat.le_of_ble_eq_true rfl, Nat.le_of_ble_eq_true rfl⟩ ⟨Nat.le_of_ble_eq_true rfl, Nat.le_of_ble_eq_true rfl⟩ [1] [0] (N0 := 2) rfl (by decide) (ms2 := (fun (U : Md) => [wX7 E h0 a0 u0, wX9 E h1 a1 U])) rfl (fun _ => rfl) (fun _ => rfl) (fun _ => rfl) rfl (Nat.le_of_ble_eq_true rfl) dX7_readSpelling_18 (fun r18 v18_0 hw => ?_)
      obtain ⟨h01_18, hw⟩ := hw
      have hw := hw h01_18
      refine v_if_eq (tgt := 88) C dX7_readSpelling_21 (by decide) (fun hc => ?_) (fun hc => ?_)
      · have hw := hw.1 hc
        refine v_lv C (lv' := [(0, .ref h0), (1, .ref h1), (2, .int y2), (3, .int y3), (4, .int y4)]) [0, 1, 2, 3, 4] rfl ?_
        exact jX7_readSpelling_88 h0 h1 a0 a1 Q C hret u0 v18_0 y2 y3 y4 hw
      · have hw := hw.2 hc
        refine v_aload_n C dX7_readSpelling_24 1 rfl ?_
        refine v_ldcS C (tx := "after") 0 (by decide) dX7_readSpelling_25 ?_
        refine v_callVMi (st := []) (ci := 9) (qb := 15) C (kX9_isWord h1 a1 _ _ (by decide) hw) mM_X7_81 mI_X9 mC_X9_isWord mN_X9_isWord mS_X9_isWord rfl rfl hd_X9_isWord ⟨Nat.le_of_ble_eq_true rfl, Nat.le_of_ble_eq_true rfl⟩ ⟨Nat.le_of_ble_eq_true rfl, Nat.le_of_ble_eq_true rfl⟩ [1] [0] (N0 := 2) rfl (by decide) (ms2 := (fun (U : Md) => [wX7 E h0 a0 u0, wX9 E h1 a1 U])) rfl (fun _ => rfl) (fun _ => rfl) (fun _ => rfl) rfl (Nat.le_of_ble_eq_true rfl) dX7_readSpelling_27 (fun r27 v27_0 hw => ?_)
        obtain ⟨h01_27, hw⟩ := hw
        have hw := hw h01_27
        refine v_if_ne (tgt := 49) C dX7_readSpelling_30 (by decide) (fun hc => ?_) (fun hc => ?_)
        · have hw := hw.1 hc
          exact jX7_readSpelling_49 h0 h1 a0 a1 Q C hret (qX7_readSpelling_10 Q n) ih u0 v27_0 y2 y3 y4 y5 hw
        · have hw := hw.2 hc
          refine v_aload_n C dX7_readSpelling_33 1 rfl ?_
          refine v_iconst (v := 3) C dX7_readSpelling_34 (by decide) ?_
          refine v_callVMi (st := []) (ci := 9) (qb := 15) C (kX9_isWordOf h1 a1 _ _ hw) mM_X7_85 mI_X9 mC_X9_isWordOf mN_X9_isWordOf mS_X9_isWordOf rfl rfl hd_X9_isWordOf ⟨Nat.le_of_ble_eq_true rfl, Nat.le_of_ble_eq_true rfl⟩ ⟨Nat.le_of_ble_eq_true rfl, Nat.le_of_ble_eq_true rfl⟩ [1] [0] (N0 := 2) rfl (by decide) (ms2 := (fun (U : Md) => [wX7 E h0 a0 u0, wX9 E h1 a1 U])) rfl (fun _ => rfl) (fun _ => rfl) (fun _ => rfl) rfl (Nat.le_of_ble_eq_true rfl) dX7_readSpelling_35 (fun r35 v35_0 hw => ?_)
          obtain ⟨h01_35, hw⟩ := hw
          have hw := hw h01_35
          refine v_if_ne (tgt := 49) C dX7_readSpelling_38 (by decide) (fun hc => ?_) (fun hc => ?_)
          · have hw := hw.1 hc
            exact jX7_readSpelling_49 h0 h1 a0 a1 Q C hret (qX7_readSpelling_10 Q n) ih u0 v35_0 y2 y3 y4 y5 hw
          · have hw := hw.2 hc
            refine v_aload_n C dX7_readSpelling_41 1 rfl ?_
            refine v_iconst (v := 1) C dX7_readSpelling_42 (by decide) ?_
            refine v_callVMv (st := []) (ci := 9) (qb := 15) C (kX9_blame h1 a1 _ _ hw) mM_X7_89 mI_X9 mC_X9_blame mN_X9_blame mS_X9_blame rfl rfl hd_X9_blame ⟨Nat.le_of_ble_eq_true rfl, Nat.le_of_ble_eq_true rfl⟩ ⟨Nat.le_of_ble_eq_true rfl, Nat.le_of_ble_eq_true rfl⟩ [1] [0] (N0 := 2) rfl (by decide) (ms2 := (fun (U : Md) => [wX7 E h0 a0 u0, wX9 E h1 a1 U])) rfl (fun _ => rfl) (fun _ => rfl) (fun _ => rfl) rfl (Nat.le_of_ble_eq_true rfl) dX7_readSpelling_43 (fun v43_0 hw => ?_)
            refine v_goto (tgt := 82) C dX7_readSpelling_46 (by decide) ?_
            refine v_iinc (lv' := [(5, .int (y5 + Int32.ofInt 1)), (0, .ref h0), (1, .ref h1), (2, .int y2), (3, .int y3), (4, .int y4)]) C dX7_readSpelling_82 5 rfl (by decide) rfl ?_
            refine v_goto (tgt := 10) C dX7_readSpelling_85 (by decide) ?_
            refine v_lv C (lv' := [(0, .ref h0), (1, .ref h1), (2, .int y2), (3, .int y3), (4, .int y4), (5, .int (y5 + Int32.ofInt 1))]) [1, 2, 3, 4, 5, 0] rfl ?_
            exact ih u0 v43_0 y2 y3 y4 (y5 + Int32.ofInt 1) hw
set_option maxHeartbeats 4000000 in
set_option maxRecDepth 100000 in
theorem kX7_readSpelling {l : Launch} {E : VE} (h0 : Nat) (h1 : Nat) (a0 : Nat → Nat) (a1 : Nat → Nat) (u0 : Md) (u1 : Md) (x2 : Int32) (x3 : Int32) {Q : Int32 → Md → Md → Prop} (hw : qX7_readSpelling u0 u1 x2 x3 Q) : MI l yX7_readSpelling cX7_readSpelling 6 .int 7 0 0 E [.ref h0, .ref h1, .int x2, .int x3] ([wX7 E h0 a0 u0, wX9 E h1 a1 u1].flatten) (fun (U : Md × Md) => [wX7 E h0 a0 U.1, wX9 E h1 a1 U.2].flatten) (fun (r : Int32) (U : Md × Md) => Q r U.1 U.2) := by
  refine MI.of (own := RX7) (by decide) rfl (Nat.le_of_ble_eq_true rfl) ?_
  intro X C hini hret
  show VV X 0 0 ([wX7 E h0 a0 u0, wX9 E h1 a1 u1].flatten) [(0, .ref h0), (1, .ref h1), (2, .int x2), (3, .int x3)] 0 []
  unfold qX7_readSpelling at hw
  refine v_aload_n C dX7_readSpelling_0 1 rfl ?_
  refine v_callVMv (st := []) (ci := 9) (qb := 15) C (kX9_begin h1 a1 _ hw) mM_X7_73 mI_X9 mC_X9_begin mN_X9_begin mS_X9_begin rfl rfl hd_X9_begin ⟨Nat.le_of_ble_eq_true rfl, Nat.le_of_ble_eq_true rfl⟩ ⟨Nat.le_of_ble_eq_true rfl, Nat.le_of_ble_eq_true rfl⟩ [1] [0] (N0 := 2) rfl (by decide) (ms2 := (fun (U : Md) => [wX7 E h0 a0 u0, wX9 E h1 a1 U])) rfl (fun _ => rfl) (fun _ => rfl) (fun _ => rfl) rfl (Nat.le_of_ble_eq_true rfl) dX7_readSpelling_1 (fun v1_0 hw => ?_)
  refine v_iconst (v := 0) C dX7_readSpelling_4 (by decide) ?_
  refine v_istore (lv' := [(4, .int 0), (0, .ref h0), (1, .ref h1), (2, .int x2), (3, .int x3)]) C dX7_readSpelling_5 (by decide) rfl ?_
  refine v_iconst (v := 0) C dX7_readSpelling_7 (by decide) ?_
  refine v_istore (lv' := [(5, .int 0), (4, .int 0), (0, .ref h0), (1, .ref h1), (2, .int x2), (3, .int x3)]) C dX7_readSpelling_8 (by decide) rfl ?_
  refine v_lv C (lv' := [(0, .ref h0), (1, .ref h1), (2, .int x2), (3, .int x3), (4, .int 0), (5, .int 0)]) [2, 3, 4, 5, 1, 0] rfl ?_
  obtain ⟨n', hw⟩ := hw
  exact jX7_readSpelling_10 h0 h1 a0 a1 Q C hret n' u0 v1_0 x2 x3 0 0 hw
set_option maxHeartbeats 4000000 in
set_option maxRecDepth 100000 in
theorem kX7_copyFrom {l : Launch} {E : VE} (h0 : Nat) (h1 : Nat) (a0 : Nat → Nat) (a1 : Nat → Nat) (u0 : Md) (u1 : Md) {Q : Md → Md → Prop} (hw : qX7_copyFrom u0 u1 Q) : MV l yX7_copyFrom cX7_copyFrom 3 1 0 0 E [.ref h0, .ref h1] ([wX7 E h0 a0 u0, wX7 E h1 a1 u1].flatten) (fun (U : Md × Md) => [wX7 E h0 a0 U.1, wX7 E h1 a1 U.2].flatten) (fun (U : Md × Md) => Q U.1 U.2) := by
  refine MV.of (own := RX7) (by decide) rfl (Nat.le_of_ble_eq_true rfl) ?_
  intro X C hini hret
  show VV X 0 0 ([wX7 E h0 a0 u0, wX7 E h1 a1 u1].flatten) [(0, .ref h0), (1, .ref h1)] 0 []
  unfold qX7_copyFrom at hw
  refine v_aload_n C dX7_copyFrom_0 0 rfl ?_
  refine v_aload_n C dX7_copyFrom_1 1 rfl ?_
  refine v_get (ci := 7) C inT7 15 0 rfl rfl (by decide) mF_X7_55_X7_0 rfl dX7_copyFrom_2 ?_
  obtain ⟨w5, e5⟩ : ∃ z : Md, z = sF u0 0 (gF u1 0) := ⟨_, rfl⟩
  have hw := hw w5 e5
  refine v_put (ci := 7) (ws' := [wX7 E h0 a0 w5, wX7 E h1 a1 u1].flatten) C tyX7 tyX7_ok nmX7 inT7 0 0 rfl rfl (by decide) mF_X7_55_X7_0 rfl rfl rfl rfl (Nat.le_of_ble_eq_true rfl) (by rw [e5]; rfl) dX7_copyFrom_5 ?_
  refine v_aload_n C dX7_copyFrom_8 1 rfl ?_
  refine v_get (ci := 7) C inT7 15 1 rfl rfl (by decide) mF_X7_11_X7_1 rfl dX7_copyFrom_9 ?_
  refine v_iconst (v := 0) C dX7_copyFrom_12 (by decide) ?_
  refine v_aload_n C dX7_copyFrom_13 0 rfl ?_
  refine v_get (ci := 7) C inT7 0 1 rfl rfl (by decide) mF_X7_11_X7_1 rfl dX7_copyFrom_14 ?_
  refine v_iconst (v := 0) C dX7_copyFrom_17 (by decide) ?_
  refine v_aload_n C dX7_copyFrom_18 0 rfl ?_
  refine v_get (ci := 7) C inT7 0 0 rfl rfl (by decide) mF_X7_55_X7_0 rfl dX7_copyFrom_19 ?_
  obtain ⟨hi22, hw⟩ := hw
  obtain ⟨w22, e22⟩ : ∃ z : Md, z = sA w5 1 (va_cpy (gA u1 1) (gA w5 1) (0 : Int32).toNatClampNeg (0 : Int32).toNatClampNeg (gF w5 0).toNatClampNeg) := ⟨_, rfl⟩
  have hw := hw w22 e22
  refine v_copyi (ws' := [wX7 E h0 a0 w22, wX7 E h1 a1 u1].flatten) C 16 1 rfl rfl mM_X7_67 hi22 ⟨Nat.le_of_ble_eq_true rfl, Nat.le_of_ble_eq_true rfl⟩ (by rw [e22]; rfl) dX7_copyFrom_22 ?_
  refine v_aload_n C dX7_copyFrom_25 1 rfl ?_
  refine v_get (ci := 7) C inT7 15 2 rfl rfl (by decide) mF_X7_15_X7_2 rfl dX7_copyFrom_26 ?_
  refine v_iconst (v := 0) C dX7_copyFrom_29 (by decide) ?_
  refine v_aload_n C dX7_copyFrom_30 0 rfl ?_
  refine v_get (ci := 7) C inT7 0 2 rfl rfl (by decide) mF_X7_15_X7_2 rfl dX7_copyFrom_31 ?_
  refine v_iconst (v := 0) C dX7_copyFrom_34 (by decide) ?_
  refine v_aload_n C dX7_copyFrom_35 0 rfl ?_
  refine v_get (ci := 7) C inT7 0 0 rfl rfl (by decide) mF_X7_55_X7_0 rfl dX7_copyFrom_36 ?_
  obtain ⟨hi39, hw⟩ := hw
  obtain ⟨w39, e39⟩ : ∃ z : Md, z = sA w22 2 (va_cpy (gA u1 2) (gA w22 2) (0 : Int32).toNatClampNeg (0 : Int32).toNatClampNeg (gF w22 0).toNatClampNeg) := ⟨_, rfl⟩
  have hw := hw w39 e39
  refine v_copyi (ws' := [wX7 E h0 a0 w39, wX7 E h1 a1 u1].flatten) C 17 2 rfl rfl mM_X7_67 hi39 ⟨Nat.le_of_ble_eq_true rfl, Nat.le_of_ble_eq_true rfl⟩ (by rw [e39]; rfl) dX7_copyFrom_39 ?_
  refine v_aload_n C dX7_copyFrom_42 1 rfl ?_
  refine v_get (ci := 7) C inT7 15 3 rfl rfl (by decide) mF_X7_18_X7_3 rfl dX7_copyFrom_43 ?_
  refine v_iconst (v := 0) C dX7_copyFrom_46 (by decide) ?_
  refine v_aload_n C dX7_copyFrom_47 0 rfl ?_
  refine v_get (ci := 7) C inT7 0 3 rfl rfl (by decide) mF_X7_18_X7_3 rfl dX7_copyFrom_48 ?_
  refine v_iconst (v := 0) C dX7_copyFrom_51 (by decide) ?_
  refine v_aload_n C dX7_copyFrom_52 0 rfl ?_
  refine v_get (ci := 7) C inT7 0 0 rfl rfl (by decide) mF_X7_55_X7_0 rfl dX7_copyFrom_53 ?_
  obtain ⟨hi56, hw⟩ := hw
  obtain ⟨w56, e56⟩ : ∃ z : Md, z = sA w39 3 (va_cpy (gA u1 3) (gA w39 3) (0 : Int32).toNatClampNeg (0 : Int32).toNatClampNeg (gF w39 0).toNatClampNeg) := ⟨_, rfl⟩
  have hw := hw w56 e56
  refine v_copyi (ws' := [wX7 E h0 a0 w56, wX7 E h1 a1 u1].flatten) C 18 3 rfl rfl mM_X7_67 hi56 ⟨Nat.le_of_ble_eq_true rfl, Nat.le_of_ble_eq_true rfl⟩ (by rw [e56]; rfl) dX7_copyFrom_56 ?_
  refine v_aload_n C dX7_copyFrom_59 1 rfl ?_
  refine v_get (ci := 7) C inT7 15 4 rfl rfl (by decide) mF_X7_21_X7_4 rfl dX7_copyFrom_60 ?_
  refine v_iconst (v := 0) C dX7_copyFrom_63 (by decide) ?_
  refine v_aload_n C dX7_copyFrom_64 0 rfl ?_
  refine v_get (ci := 7) C inT7 0 4 rfl rfl (by decide) mF_X7_21_X7_4 rfl dX7_copyFrom_65 ?_
  refine v_iconst (v := 0) C dX7_copyFrom_68 (by decide) ?_
  refine v_aload_n C dX7_copyFrom_69 0 rfl ?_
  refine v_get (ci := 7) C inT7 0 0 rfl rfl (by decide) mF_X7_55_X7_0 rfl dX7_copyFrom_70 ?_
  obtain ⟨hi73, hw⟩ := hw
  obtain ⟨w73, e73⟩ : ∃ z : Md, z = sA w56 4 (va_cpy (gA u1 4) (gA w56 4) (0 : Int32).toNatClampNeg (0 : Int32).toNatClampNeg (gF w56 0).toNatClampNeg) := ⟨_, rfl⟩
  have hw := hw w73 e73
  refine v_copyi (ws' := [wX7 E h0 a0 w73, wX7 E h1 a1 u1].flatten) C 19 4 rfl rfl mM_X7_67 hi73 ⟨Nat.le_of_ble_eq_true rfl, Nat.le_of_ble_eq_true rfl⟩ (by rw [e73]; rfl) dX7_copyFrom_73 ?_
  refine v_aload_n C dX7_copyFrom_76 1 rfl ?_
  refine v_get (ci := 7) C inT7 15 5 rfl rfl (by decide) mF_X7_24_X7_5 rfl dX7_copyFrom_77 ?_
  refine v_iconst (v := 0) C dX7_copyFrom_80 (by decide) ?_
  refine v_aload_n C dX7_copyFrom_81 0 rfl ?_
  refine v_get (ci := 7) C inT7 0 5 rfl rfl (by decide) mF_X7_24_X7_5 rfl dX7_copyFrom_82 ?_
  refine v_iconst (v := 0) C dX7_copyFrom_85 (by decide) ?_
  refine v_aload_n C dX7_copyFrom_86 0 rfl ?_
  refine v_get (ci := 7) C inT7 0 0 rfl rfl (by decide) mF_X7_55_X7_0 rfl dX7_copyFrom_87 ?_
  refine v_bipush (v := 14) C dX7_copyFrom_90 (by decide) ?_
  refine v_imul C dX7_copyFrom_92 ?_
  obtain ⟨hi93, hw⟩ := hw
  obtain ⟨w93, e93⟩ : ∃ z : Md, z = sB w73 5 (va_cpy (gB u1 5) (gB w73 5) (0 : Int32).toNatClampNeg (0 : Int32).toNatClampNeg ((gF w73 0) * 14).toNatClampNeg) := ⟨_, rfl⟩
  have hw := hw w93 e93
  refine v_copyb (ws' := [wX7 E h0 a0 w93, wX7 E h1 a1 u1].flatten) C 20 5 rfl rfl mM_X7_67 hi93 ⟨Nat.le_of_ble_eq_true rfl, Nat.le_of_ble_eq_true rfl⟩ (by rw [e93]; rfl) dX7_copyFrom_93 ?_
  refine v_aload_n C dX7_copyFrom_96 0 rfl ?_
  refine v_aload_n C dX7_copyFrom_97 1 rfl ?_
  refine v_get (ci := 7) C inT7 15 6 rfl rfl (by decide) mF_X7_93_X7_6 rfl dX7_copyFrom_98 ?_
  obtain ⟨w101, e101⟩ : ∃ z : Md, z = sF w93 6 (gF u1 6) := ⟨_, rfl⟩
  have hw := hw w101 e101
  refine v_put (ci := 7) (ws' := [wX7 E h0 a0 w101, wX7 E h1 a1 u1].flatten) C tyX7 tyX7_ok nmX7 inT7 0 6 rfl rfl (by decide) mF_X7_93_X7_6 rfl rfl rfl rfl (Nat.le_of_ble_eq_true rfl) (by rw [e101]; rfl) dX7_copyFrom_101 ?_
  refine v_aload_n C dX7_copyFrom_104 1 rfl ?_
  refine v_get (ci := 7) C inT7 15 7 rfl rfl (by decide) mF_X7_28_X7_7 rfl dX7_copyFrom_105 ?_
  refine v_iconst (v := 0) C dX7_copyFrom_108 (by decide) ?_
  refine v_aload_n C dX7_copyFrom_109 0 rfl ?_
  refine v_get (ci := 7) C inT7 0 7 rfl rfl (by decide) mF_X7_28_X7_7 rfl dX7_copyFrom_110 ?_
  refine v_iconst (v := 0) C dX7_copyFrom_113 (by decide) ?_
  refine v_aload_n C dX7_copyFrom_114 0 rfl ?_
  refine v_get (ci := 7) C inT7 0 6 rfl rfl (by decide) mF_X7_93_X7_6 rfl dX7_copyFrom_115 ?_
  obtain ⟨hi118, hw⟩ := hw
  obtain ⟨w118, e118⟩ : ∃ z : Md, z = sA w101 7 (va_cpy (gA u1 7) (gA w101 7) (0 : Int32).toNatClampNeg (0 : Int32).toNatClampNeg (gF w101 6).toNatClampNeg) := ⟨_, rfl⟩
  have hw := hw w118 e118
  refine v_copyi (ws' := [wX7 E h0 a0 w118, wX7 E h1 a1 u1].flatten) C 21 6 rfl rfl mM_X7_67 hi118 ⟨Nat.le_of_ble_eq_true rfl, Nat.le_of_ble_eq_true rfl⟩ (by rw [e118]; rfl) dX7_copyFrom_118 ?_
  refine v_aload_n C dX7_copyFrom_121 1 rfl ?_
  refine v_get (ci := 7) C inT7 15 8 rfl rfl (by decide) mF_X7_31_X7_8 rfl dX7_copyFrom_122 ?_
  refine v_iconst (v := 0) C dX7_copyFrom_125 (by decide) ?_
  refine v_aload_n C dX7_copyFrom_126 0 rfl ?_
  refine v_get (ci := 7) C inT7 0 8 rfl rfl (by decide) mF_X7_31_X7_8 rfl dX7_copyFrom_127 ?_
  refine v_iconst (v := 0) C dX7_copyFrom_130 (by decide) ?_
  refine v_aload_n C dX7_copyFrom_131 0 rfl ?_
  refine v_get (ci := 7) C inT7 0 6 rfl rfl (by decide) mF_X7_93_X7_6 rfl dX7_copyFrom_132 ?_
  obtain ⟨hi135, hw⟩ := hw
  obtain ⟨w135, e135⟩ : ∃ z : Md, z = sA w118 8 (va_cpy (gA u1 8) (gA w118 8) (0 : Int32).toNatClampNeg (0 : Int32).toNatClampNeg (gF w118 6).toNatClampNeg) := ⟨_, rfl⟩
  have hw := hw w135 e135
  refine v_copyi (ws' := [wX7 E h0 a0 w135, wX7 E h1 a1 u1].flatten) C 22 7 rfl rfl mM_X7_67 hi135 ⟨Nat.le_of_ble_eq_true rfl, Nat.le_of_ble_eq_true rfl⟩ (by rw [e135]; rfl) dX7_copyFrom_135 ?_
  refine v_aload_n C dX7_copyFrom_138 1 rfl ?_
  refine v_get (ci := 7) C inT7 15 9 rfl rfl (by decide) mF_X7_34_X7_9 rfl dX7_copyFrom_139 ?_
  refine v_iconst (v := 0) C dX7_copyFrom_142 (by decide) ?_
  refine v_aload_n C dX7_copyFrom_143 0 rfl ?_
  refine v_get (ci := 7) C inT7 0 9 rfl rfl (by decide) mF_X7_34_X7_9 rfl dX7_copyFrom_144 ?_
  refine v_iconst (v := 0) C dX7_copyFrom_147 (by decide) ?_
  refine v_aload_n C dX7_copyFrom_148 0 rfl ?_
  refine v_get (ci := 7) C inT7 0 6 rfl rfl (by decide) mF_X7_93_X7_6 rfl dX7_copyFrom_149 ?_
  obtain ⟨hi152, hw⟩ := hw
  obtain ⟨w152, e152⟩ : ∃ z : Md, z = sA w135 9 (va_cpy (gA u1 9) (gA w135 9) (0 : Int32).toNatClampNeg (0 : Int32).toNatClampNeg (gF w135 6).toNatClampNeg) := ⟨_, rfl⟩
  have hw := hw w152 e152
  refine v_copyi (ws' := [wX7 E h0 a0 w152, wX7 E h1 a1 u1].flatten) C 23 8 rfl rfl mM_X7_67 hi152 ⟨Nat.le_of_ble_eq_true rfl, Nat.le_of_ble_eq_true rfl⟩ (by rw [e152]; rfl) dX7_copyFrom_152 ?_
  refine v_aload_n C dX7_copyFrom_155 0 rfl ?_
  refine v_get (ci := 7) C inT7 0 6 rfl rfl (by decide) mF_X7_93_X7_6 rfl dX7_copyFrom_156 ?_
  refine v_bipush (v := 16) C dX7_copyFrom_159 (by decide) ?_
  refine v_imul C dX7_copyFrom_161 ?_
  refine v_istore_n (lv' := [(2, .int ((gF w152 6) * 16)), (0, .ref h0), (1, .ref h1)]) C dX7_copyFrom_162 (by decide) rfl ?_
  refine v_aload_n C dX7_copyFrom_163 2 rfl ?_
  refine v_get (ci := 7) C inT7 15 10 rfl rfl (by decide) mF_X7_37_X7_10 rfl dX7_copyFrom_164 ?_
  refine v_iconst (v := 0) C dX7_copyFrom_167 (by decide) ?_
  refine v_aload_n C dX7_copyFrom_168 1 rfl ?_
  refine v_get (ci := 7) C inT7 0 10 rfl rfl (by decide) mF_X7_37_X7_10 rfl dX7_copyFrom_169 ?_
  refine v_iconst (v := 0) C dX7_copyFrom_172 (by decide) ?_
  refine v_iload_n C dX7_copyFrom_173 0 rfl ?_
  obtain ⟨hi174, hw⟩ := hw
  obtain ⟨w174, e174⟩ : ∃ z : Md, z = sA w152 10 (va_cpy (gA u1 10) (gA w152 10) (0 : Int32).toNatClampNeg (0 : Int32).toNatClampNeg ((gF w152 6) * 16).toNatClampNeg) := ⟨_, rfl⟩
  have hw := hw w174 e174
  refine v_copyi (ws' := [wX7 E h0 a0 w174, wX7 E h1 a1 u1].flatten) C 24 9 rfl rfl mM_X7_67 hi174 ⟨Nat.le_of_ble_eq_true rfl, Nat.le_of_ble_eq_true rfl⟩ (by rw [e174]; rfl) dX7_copyFrom_174 ?_
  refine v_aload_n C dX7_copyFrom_177 2 rfl ?_
  refine v_get (ci := 7) C inT7 15 11 rfl rfl (by decide) mF_X7_40_X7_11 rfl dX7_copyFrom_178 ?_
  refine v_iconst (v := 0) C dX7_copyFrom_181 (by decide) ?_
  refine v_aload_n C dX7_copyFrom_182 1 rfl ?_
  refine v_get (ci := 7) C inT7 0 11 rfl rfl (by decide) mF_X7_40_X7_11 rfl dX7_copyFrom_183 ?_
  refine v_iconst (v := 0) C dX7_copyFrom_186 (by decide) ?_
  refine v_iload_n C dX7_copyFrom_187 0 rfl ?_
  obtain ⟨hi188, hw⟩ := hw
  obtain ⟨w188, e188⟩ : ∃ z : Md, z = sA w174 11 (va_cpy (gA u1 11) (gA w174 11) (0 : Int32).toNatClampNeg (0 : Int32).toNatClampNeg ((gF w152 6) * 16).toNatClampNeg) := ⟨_, rfl⟩
  have hw := hw w188 e188
  refine v_copyi (ws' := [wX7 E h0 a0 w188, wX7 E h1 a1 u1].flatten) C 25 10 rfl rfl mM_X7_67 hi188 ⟨Nat.le_of_ble_eq_true rfl, Nat.le_of_ble_eq_true rfl⟩ (by rw [e188]; rfl) dX7_copyFrom_188 ?_
  refine v_aload_n C dX7_copyFrom_191 2 rfl ?_
  refine v_get (ci := 7) C inT7 15 12 rfl rfl (by decide) mF_X7_43_X7_12 rfl dX7_copyFrom_192 ?_
  refine v_iconst (v := 0) C dX7_copyFrom_195 (by decide) ?_
  refine v_aload_n C dX7_copyFrom_196 1 rfl ?_
  refine v_get (ci := 7) C inT7 0 12 rfl rfl (by decide) mF_X7_43_X7_12 rfl dX7_copyFrom_197 ?_
  refine v_iconst (v := 0) C dX7_copyFrom_200 (by decide) ?_
  refine v_iload_n C dX7_copyFrom_201 0 rfl ?_
  obtain ⟨hi202, hw⟩ := hw
  obtain ⟨w202, e202⟩ : ∃ z : Md, z = sA w188 12 (va_cpy (gA u1 12) (gA w188 12) (0 : Int32).toNatClampNeg (0 : Int32).toNatClampNeg ((gF w152 6) * 16).toNatClampNeg) := ⟨_, rfl⟩
  have hw := hw w202 e202
  refine v_copyi (ws' := [wX7 E h0 a0 w202, wX7 E h1 a1 u1].flatten) C 26 11 rfl rfl mM_X7_67 hi202 ⟨Nat.le_of_ble_eq_true rfl, Nat.le_of_ble_eq_true rfl⟩ (by rw [e202]; rfl) dX7_copyFrom_202 ?_
  refine v_aload_n C dX7_copyFrom_205 2 rfl ?_
  refine v_get (ci := 7) C inT7 15 13 rfl rfl (by decide) mF_X7_46_X7_13 rfl dX7_copyFrom_206 ?_
  refine v_iconst (v := 0) C dX7_copyFrom_209 (by decide) ?_
  refine v_aload_n C dX7_copyFrom_210 1 rfl ?_
  refine v_get (ci := 7) C inT7 0 13 rfl rfl (by decide) mF_X7_46_X7_13 rfl dX7_copyFrom_211 ?_
  refine v_iconst (v := 0) C dX7_copyFrom_214 (by decide) ?_
  refine v_iload_n C dX7_copyFrom_215 0 rfl ?_
  obtain ⟨hi216, hw⟩ := hw
  obtain ⟨w216, e216⟩ : ∃ z : Md, z = sA w202 13 (va_cpy (gA u1 13) (gA w202 13) (0 : Int32).toNatClampNeg (0 : Int32).toNatClampNeg ((gF w152 6) * 16).toNatClampNeg) := ⟨_, rfl⟩
  have hw := hw w216 e216
  refine v_copyi (ws' := [wX7 E h0 a0 w216, wX7 E h1 a1 u1].flatten) C 27 12 rfl rfl mM_X7_67 hi216 ⟨Nat.le_of_ble_eq_true rfl, Nat.le_of_ble_eq_true rfl⟩ (by rw [e216]; rfl) dX7_copyFrom_216 ?_
  refine v_aload_n C dX7_copyFrom_219 2 rfl ?_
  refine v_get (ci := 7) C inT7 15 14 rfl rfl (by decide) mF_X7_49_X7_14 rfl dX7_copyFrom_220 ?_
  refine v_iconst (v := 0) C dX7_copyFrom_223 (by decide) ?_
  refine v_aload_n C dX7_copyFrom_224 1 rfl ?_
  refine v_get (ci := 7) C inT7 0 14 rfl rfl (by decide) mF_X7_49_X7_14 rfl dX7_copyFrom_225 ?_
  refine v_iconst (v := 0) C dX7_copyFrom_228 (by decide) ?_
  refine v_iload_n C dX7_copyFrom_229 0 rfl ?_
  refine v_iconst (v := 3) C dX7_copyFrom_230 (by decide) ?_
  refine v_imul C dX7_copyFrom_231 ?_
  obtain ⟨hi232, hw⟩ := hw
  obtain ⟨w232, e232⟩ : ∃ z : Md, z = sB w216 14 (va_cpy (gB u1 14) (gB w216 14) (0 : Int32).toNatClampNeg (0 : Int32).toNatClampNeg (((gF w152 6) * 16) * 3).toNatClampNeg) := ⟨_, rfl⟩
  have hw := hw w232 e232
  refine v_copyb (ws' := [wX7 E h0 a0 w232, wX7 E h1 a1 u1].flatten) C 28 13 rfl rfl mM_X7_67 hi232 ⟨Nat.le_of_ble_eq_true rfl, Nat.le_of_ble_eq_true rfl⟩ (by rw [e232]; rfl) dX7_copyFrom_232 ?_
  refine v_aload_n C dX7_copyFrom_235 2 rfl ?_
  refine v_get (ci := 7) C inT7 15 15 rfl rfl (by decide) mF_X7_52_X7_15 rfl dX7_copyFrom_236 ?_
  refine v_iconst (v := 0) C dX7_copyFrom_239 (by decide) ?_
  refine v_aload_n C dX7_copyFrom_240 1 rfl ?_
  refine v_get (ci := 7) C inT7 0 15 rfl rfl (by decide) mF_X7_52_X7_15 rfl dX7_copyFrom_241 ?_
  refine v_iconst (v := 0) C dX7_copyFrom_244 (by decide) ?_
  refine v_iload_n C dX7_copyFrom_245 0 rfl ?_
  refine v_iconst (v := 3) C dX7_copyFrom_246 (by decide) ?_
  refine v_imul C dX7_copyFrom_247 ?_
  obtain ⟨hi248, hw⟩ := hw
  obtain ⟨w248, e248⟩ : ∃ z : Md, z = sB w232 15 (va_cpy (gB u1 15) (gB w232 15) (0 : Int32).toNatClampNeg (0 : Int32).toNatClampNeg (((gF w152 6) * 16) * 3).toNatClampNeg) := ⟨_, rfl⟩
  have hw := hw w248 e248
  refine v_copyb (ws' := [wX7 E h0 a0 w248, wX7 E h1 a1 u1].flatten) C 29 14 rfl rfl mM_X7_67 hi248 ⟨Nat.le_of_ble_eq_true rfl, Nat.le_of_ble_eq_true rfl⟩ (by rw [e248]; rfl) dX7_copyFrom_248 ?_
  exact hret _ _ _ _ (w248, u1) dX7_copyFrom_251 hw (Nat.le_of_ble_eq_true rfl) (Nat.le_of_ble_eq_true rfl)
