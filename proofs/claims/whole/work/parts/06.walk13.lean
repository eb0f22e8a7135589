set_option maxHeartbeats 4000000 in
set_option maxRecDepth 100000 in
theorem jX12_hasName_2 {X : VX} {E : VE} {l : Launch} (h0 : Nat) (a0 : Nat → Nat)  (Q : Int32 → Md → Prop) (C : VC X cX12_hasName 3 RX12 (rmL 1 0 0) E l) (hret : RetI X cX12_hasName .boolean 0 0 (fun (U : Md) => [wX12 E h0 a0 U].flatten) (fun (r : Int32) (U : Md) => (r = 0 ∨ r = 1) ∧ Q r U))  : ∀ (n : Nat), ∀ (u0 : Md) (y1 : Int32) (y2 : Int32), qX12_hasName_2 Q n u0 y1 y2 → VV X 0 0 ([wX12 E h0 a0 u0].flatten) [(0, .ref h0), (1, .int y1), (2, .int y2)] 2 [] := by
  intro n
  induction n with
  | zero =>
    intro u0 y1 y2 hw
    exact hw.elim
  | succ n ih =>
    intro u0 y1 y2 hw
    unfold qX12_hasName_2 at hw
    refine v_iload_n C dX12_hasName_2 2 rfl ?_
    refine v_aload_n C dX12_hasName_3 0 rfl ?_
    refine v_get (ci := 12) C inT12 0 1 rfl rfl (by decide) mF_X12_9_X12_1 rfl dX12_hasName_4 ?_
    refine v_iconst (v := 2) C dX12_hasName_7 (by decide) ?_
    obtain ⟨hi8, hw⟩ := hw
    refine v_iald C 1 rfl hi8 dX12_hasName_8 ?_
    refine v_icmp_ge (tgt := 30) C dX12_hasName_9 (by decide) (fun hc => ?_) (fun hc => ?_)
    · have hw := hw.1 hc
      refine v_iconst (v := 0) C dX12_hasName_30 (by decide) ?_
      exact hret _ _ _ _ 0 u0 dX12_hasName_31 rfl ⟨Or.inl rfl, hw⟩ (Nat.le_of_ble_eq_true rfl) (Nat.le_of_ble_eq_true rfl)
    · have hw := hw.2 hc
      refine v_aload_n C dX12_hasName_12 0 rfl ?_
      refine v_iload_n C dX12_hasName_13 2 rfl ?_
      refine v_iconst (v := 0) C dX12_hasName_14 (by decide) ?_
      refine v_callFi (st := []) (ci := 12) (qb := 0) C (kX12_nameIs h0 a0 _ _ _ hw) mM_X12_265 mI_X12 mC_X12_nameIs mN_X12_nameIs mS_X12_nameIs rfl rfl hd_X12_nameIs ⟨Nat.le_of_ble_eq_true rfl, Nat.le_of_ble_eq_true rfl⟩ ⟨Nat.le_of_ble_eq_true rfl, Nat.le_of_ble_eq_true rfl⟩ rfl (Nat.le_of_ble_eq_true rfl) dX12_hasName_15 (fun r15 v15_0 hw => ?_)
      refine v_iload_n C dX12_hasName_18 1 rfl ?_
      refine v_icmp_ne (tgt := 24) C dX12_hasName_19 (by decide) (fun hc => ?_) (fun hc => ?_)
      · have hw := hw.1 hc
        refine v_iinc (lv' := [(2, .int (y2 + Int32.ofInt 1)), (0, .ref h0), (1, .int y1)]) C dX12_hasName_24 2 rfl (by decide) rfl ?_
        refine v_goto (tgt := 2) C dX12_hasName_27 (by decide) ?_
        refine v_lv C (lv' := [(0, .ref h0), (1, .int y1), (2, .int (y2 + Int32.ofInt 1))]) [1, 2, 0] rfl ?_
        exact ih v15_0 y1 (y2 + Int32.ofInt 1) hw
      · have hw := hw.2 hc
        refine v_iconst (v := 1) C dX12_hasName_22 (by decide) ?_
        exact hret _ _ _ _ 1 v15_0 dX12_hasName_23 rfl ⟨Or.inr rfl, hw⟩ (Nat.le_of_ble_eq_true rfl) (Nat.le_of_ble_eq_true rfl)
set_option maxHeartbeats 4000000 in
set_option maxRecDepth 100000 in
theorem kX12_hasName {l : Launch} {E : VE} (h0 : Nat) (a0 : Nat → Nat) (u0 : Md) (x1 : Int32) {Q : Int32 → Md → Prop} (hw : qX12_hasName u0 x1 Q) : MI l yX12_hasName cX12_hasName 3 .boolean 1 0 0 E [.ref h0, .int x1] ([wX12 E h0 a0 u0].flatten) (fun (U : Md) => [wX12 E h0 a0 U].flatten) (fun (r : Int32) (U : Md) => (r = 0 ∨ r = 1) ∧ Q r U) := by
  refine MI.of (own := RX12) (by decide) rfl (Nat.le_of_ble_eq_true rfl) ?_
  intro X C hini hret
  show VV X 0 0 ([wX12 E h0 a0 u0].flatten) [(0, .ref h0), (1, .int x1)] 0 []
  unfold qX12_hasName at hw
  refine v_iconst (v := 0) C dX12_hasName_0 (by decide) ?_
  refine v_istore_n (lv' := [(2, .int 0), (0, .ref h0), (1, .int x1)]) C dX12_hasName_1 (by decide) rfl ?_
  refine v_lv C (lv' := [(0, .ref h0), (1, .int x1), (2, .int 0)]) [1, 2, 0] rfl ?_
  obtain ⟨n', hw⟩ := hw
  exact jX12_hasName_2 h0 a0 Q C hret n' u0 x1 0 hw
set_option maxHeartbeats 4000000 in
set_option maxRecDepth 100000 in
theorem jX12_givesOf_45 {X : VX} {E : VE} {l : Launch} (h0 : Nat) (a0 : Nat → Nat)  (Q : Int32 → Md → Prop) (C : VC X cX12_givesOf 6 RX12 (rmL 3 0 0) E l) (hret : RetI X cX12_givesOf .int 0 0 (fun (U : Md) => [wX12 E h0 a0 U].flatten) (fun (r : Int32) (U : Md) => Q r U)) (K7 : Md → Int32 → Int32 → Int32 → Int32 → Prop) (hK7 : ∀ (u0 : Md) (y1 : Int32) (y2 : Int32) (y3 : Int32) (y4 : Int32), K7 u0 y1 y2 y3 y4 → VV X 0 0 ([wX12 E h0 a0 u0].flatten) [(0, .ref h0), (1, .int y1), (2, .int y2), (3, .int y3), (4, .int y4)] 7 []) : ∀ (n : Nat), ∀ (u0 : Md) (y1 : Int32) (y2 : Int32) (y3 : Int32) (y4 : Int32) (y5 : Int32), qX12_givesOf_45 Q K7 n u0 y1 y2 y3 y4 y5 → VV X 0 0 ([wX12 E h0 a0 u0].flatten) [(0, .ref h0), (1, .int y1), (2, .int y2), (3, .int y3), (4, .int y4), (5, .int y5)] 45 [] := by
  intro n
  induction n with
  | zero =>
    intro u0 y1 y2 y3 y4 y5 hw
    exact hw.elim
  | succ n ih =>
    intro u0 y1 y2 y3 y4 y5 hw
    unfold qX12_givesOf_45 at hw
    refine v_iload C dX12_givesOf_45 5 rfl ?_
    refine v_aload_n C dX12_givesOf_47 0 rfl ?_
    refine v_get (ci := 12) C inT12 0 26 rfl rfl (by decide) mF_X12_291_X12_26 rfl dX12_givesOf_48 ?_
    refine v_icmp_ge (tgt := 79) C dX12_givesOf_51 (by decide) (fun hc => ?_) (fun hc => ?_)
    · have hw := hw.1 hc
      refine v_aload_n C dX12_givesOf_79 0 rfl ?_
      refine v_iconst (v := 0) C dX12_givesOf_80 (by decide) ?_
      obtain ⟨w81, e81⟩ : ∃ z : Md, z = sF u0 21 0 := ⟨_, rfl⟩
      have hw := hw w81 e81
      refine v_put (ci := 12) (ws' := [wX12 E h0 a0 w81].flatten) C tyX12 tyX12_ok nmX12 inT12 0 21 rfl rfl (by decide) mF_X12_258_X12_21 rfl rfl rfl rfl (Nat.le_of_ble_eq_true rfl) (by rw [e81]; rfl) dX12_givesOf_81 ?_
      refine v_aload_n C dX12_givesOf_84 0 rfl ?_
      refine v_iload C dX12_givesOf_85 4 rfl ?_
      refine v_aload_n C dX12_givesOf_87 0 rfl ?_
      refine v_get (ci := 12) C inT12 0 36 rfl rfl (by decide) mF_X12_80_X12_36 rfl dX12_givesOf_88 ?_
      refine v_callFv (st := []) (ci := 12) (qb := 0) C (kX12_spells h0 a0 _ _ _ hw) mM_X12_285 mI_X12 mC_X12_spells mN_X12_spells mS_X12_spells rfl rfl hd_X12_spells ⟨Nat.le_of_ble_eq_true rfl, Nat.le_of_ble_eq_true rfl⟩ ⟨Nat.le_of_ble_eq_true rfl, Nat.le_of_ble_eq_true rfl⟩ rfl (Nat.le_of_ble_eq_true rfl) dX12_givesOf_91 (fun v91_0 hw => ?_)
      refine v_iload_n C dX12_givesOf_94 3 rfl ?_
      refine v_aload_n C dX12_givesOf_95 0 rfl ?_
      refine v_callFi (st := [.int y3]) (ci := 12) (qb := 0) C (kX12_apart h0 a0 _ hw) mM_X12_300 mI_X12 mC_X12_apart mN_X12_apart mS_X12_apart rfl rfl hd_X12_apart ⟨Nat.le_of_ble_eq_true rfl, Nat.le_of_ble_eq_true rfl⟩ ⟨Nat.le_of_ble_eq_true rfl, Nat.le_of_ble_eq_true rfl⟩ rfl (Nat.le_of_ble_eq_true rfl) dX12_givesOf_96 (fun r96 v96_0 hw => ?_)
      refine v_imin C mM_X12_163 ⟨Nat.le_of_ble_eq_true rfl, Nat.le_of_ble_eq_true rfl, Nat.le_of_ble_eq_true rfl, Nat.le_of_ble_eq_true rfl⟩ dX12_givesOf_99 ?_
      refine v_istore_n (lv' := [(3, .int (imin y3 r96)), (0, .ref h0), (1, .int y1), (2, .int y2), (4, .int y4), (5, .int y5)]) C dX12_givesOf_102 (by decide) rfl ?_
      refine v_iinc (lv' := [(4, .int (y4 + Int32.ofInt 1)), (3, .int (imin y3 r96)), (0, .ref h0), (1, .int y1), (2, .int y2), (5, .int y5)]) C dX12_givesOf_103 4 rfl (by decide) rfl ?_
      refine v_goto (tgt := 7) C dX12_givesOf_106 (by decide) ?_
      refine v_lv C (lv' := [(0, .ref h0), (1, .int y1), (2, .int y2), (3, .int (imin y3 r96)), (4, .int (y4 + Int32.ofInt 1))]) [2, 3, 4, 1, 0] rfl ?_
      exact hK7 v96_0 y1 y2 (imin y3 r96) (y4 + Int32.ofInt 1) hw
    · have hw := hw.2 hc
      refine v_aload_n C dX12_givesOf_54 0 rfl ?_
      refine v_get (ci := 12) C inT12 0 25 rfl rfl (by decide) mF_X12_56_X12_25 rfl dX12_givesOf_55 ?_
      refine v_iload C dX12_givesOf_58 5 rfl ?_
      refine v_aload_n C dX12_givesOf_60 0 rfl ?_
      refine v_get (ci := 12) C inT12 0 38 rfl rfl (by decide) mF_X12_83_X12_38 rfl dX12_givesOf_61 ?_
      refine v_bipush (v := 24) C dX12_givesOf_64 (by decide) ?_
      refine v_iload_n C dX12_givesOf_66 1 rfl ?_
      refine v_imul C dX12_givesOf_67 ?_
      refine v_iload C dX12_givesOf_68 5 rfl ?_
      refine v_iadd C dX12_givesOf_70 ?_
      obtain ⟨hi71, hw⟩ := hw
      refine v_iald C 22 rfl hi71 dX12_givesOf_71 ?_
      obtain ⟨hi72, hw⟩ := hw
      obtain ⟨w72, e72⟩ : ∃ z : Md, z = tA u0 25 y5 (gA u0 38 ((24 * y1) + y5).toNatClampNeg) := ⟨_, rfl⟩
      have hw := hw w72 e72
      refine v_iast (ws' := [wX12 E h0 a0 w72].flatten) C 14 rfl hi72 (by rw [e72]; rfl) dX12_givesOf_72 ?_
      refine v_iinc (lv' := [(5, .int (y5 + Int32.ofInt 1)), (0, .ref h0), (1, .int y1), (2, .int y2), (3, .int y3), (4, .int y4)]) C dX12_givesOf_73 5 rfl (by decide) rfl ?_
      refine v_goto (tgt := 45) C dX12_givesOf_76 (by decide) ?_
      refine v_lv C (lv' := [(0, .ref h0), (1, .int y1), (2, .int y2), (3, .int y3), (4, .int y4), (5, .int (y5 + Int32.ofInt 1))]) [1, 2, 3, 4, 5, 0] rfl ?_
      exact ih w72 y1 y2 y3 y4 (y5 + Int32.ofInt 1) hw
set_option maxHeartbeats 4000000 in
set_option maxRecDepth 100000 in
theorem jX12_givesOf_7 {X : VX} {E : VE} {l : Launch} (h0 : Nat) (a0 : Nat → Nat)  (Q : Int32 → Md → Prop) (C : VC X cX12_givesOf 6 RX12 (rmL 3 0 0) E l) (hret : RetI X cX12_givesOf .int 0 0 (fun (U : Md) => [wX12 E h0 a0 U].flatten) (fun (r : Int32) (U : Md) => Q r U))  : ∀ (n : Nat), ∀ (u0 : Md) (y1 : Int32) (y2 : Int32) (y3 : Int32) (y4 : Int32), qX12_givesOf_7 Q n u0 y1 y2 y3 y4 → VV X 0 0 ([wX12 E h0 a0 u0].flatten) [(0, .ref h0), (1, .int y1), (2, .int y2), (3, .int y3), (4, .int y4)] 7 [] := by
  intro n
  induction n with
  | zero =>
    intro u0 y1 y2 y3 y4 hw
    exact hw.elim
  | succ n ih =>
    intro u0 y1 y2 y3 y4 hw
    unfold qX12_givesOf_7 at hw
    refine v_iload C dX12_givesOf_7 4 rfl ?_
    refine v_aload_n C dX12_givesOf_9 0 rfl ?_
    refine v_get (ci := 12) C inT12 0 1 rfl rfl (by decide) mF_X12_9_X12_1 rfl dX12_givesOf_10 ?_
    refine v_iconst (v := 2) C dX12_givesOf_13 (by decide) ?_
    obtain ⟨hi14, hw⟩ := hw
    refine v_iald C 1 rfl hi14 dX12_givesOf_14 ?_
    refine v_icmp_ge (tgt := 109) C dX12_givesOf_15 (by decide) (fun hc => ?_) (fun hc => ?_)
    · have hw := hw.1 hc
      refine v_bipush (v := 20) C dX12_givesOf_109 (by decide) ?_
      refine v_iload_n C dX12_givesOf_111 3 rfl ?_
      refine v_isub C dX12_givesOf_112 ?_
      exact hret _ _ _ _ (20 - y3) u0 dX12_givesOf_113 rfl hw (Nat.le_of_ble_eq_true rfl) (Nat.le_of_ble_eq_true rfl)
    · have hw := hw.2 hc
      refine v_aload_n C dX12_givesOf_18 0 rfl ?_
      refine v_iload C dX12_givesOf_19 4 rfl ?_
      refine v_iconst (v := 0) C dX12_givesOf_21 (by decide) ?_
      refine v_callFi (st := []) (ci := 12) (qb := 0) C (kX12_nameIs h0 a0 _ _ _ hw) mM_X12_265 mI_X12 mC_X12_nameIs mN_X12_nameIs mS_X12_nameIs rfl rfl hd_X12_nameIs ⟨Nat.le_of_ble_eq_true rfl, Nat.le_of_ble_eq_true rfl⟩ ⟨Nat.le_of_ble_eq_true rfl, Nat.le_of_ble_eq_true rfl⟩ rfl (Nat.le_of_ble_eq_true rfl) dX12_givesOf_22 (fun r22 v22_0 hw => ?_)
      refine v_iload_n C dX12_givesOf_25 2 rfl ?_
      refine v_icmp_eq (tgt := 32) C dX12_givesOf_26 (by decide) (fun hc => ?_) (fun hc => ?_)
      · have hw := hw.1 hc
        refine v_aload_n C dX12_givesOf_32 0 rfl ?_
        refine v_aload_n C dX12_givesOf_33 0 rfl ?_
        refine v_get (ci := 12) C inT12 0 39 rfl rfl (by decide) mF_X12_86_X12_39 rfl dX12_givesOf_34 ?_
        refine v_iload_n C dX12_givesOf_37 1 rfl ?_
        obtain ⟨hi38, hw⟩ := hw
        refine v_iald C 23 rfl hi38 dX12_givesOf_38 ?_
        obtain ⟨w39, e39⟩ : ∃ z : Md, z = sF v22_0 26 (gA v22_0 39 y1.toNatClampNeg) := ⟨_, rfl⟩
        have hw := hw w39 e39
        refine v_put (ci := 12) (ws' := [wX12 E h0 a0 w39].flatten) C tyX12 tyX12_ok nmX12 inT12 0 26 rfl rfl (by decide) mF_X12_291_X12_26 rfl rfl rfl rfl (Nat.le_of_ble_eq_true rfl) (by rw [e39]; rfl) dX12_givesOf_39 ?_
        refine v_iconst (v := 0) C dX12_givesOf_42 (by decide) ?_
        refine v_istore (lv' := [(5, .int 0), (0, .ref h0), (1, .int y1), (2, .int y2), (3, .int y3), (4, .int y4)]) C dX12_givesOf_43 (by decide) rfl ?_
        refine v_lv C (lv' := [(0, .ref h0), (1, .int y1), (2, .int y2), (3, .int y3), (4, .int y4), (5, .int 0)]) [1, 2, 3, 4, 5, 0] rfl ?_
        obtain ⟨n', hw⟩ := hw
        exact jX12_givesOf_45 h0 a0 Q C hret (qX12_givesOf_7 Q n) ih n' w39 y1 y2 y3 y4 0 hw
      · have hw := hw.2 hc
        refine v_goto (tgt := 103) C dX12_givesOf_29 (by decide) ?_
        refine v_iinc (lv' := [(4, .int (y4 + Int32.ofInt 1)), (0, .ref h0), (1, .int y1), (2, .int y2), (3, .int y3)]) C dX12_givesOf_103 4 rfl (by decide) rfl ?_
        refine v_goto (tgt := 7) C dX12_givesOf_106 (by decide) ?_
        refine v_lv C (lv' := [(0, .ref h0), (1, .int y1), (2, .int y2), (3, .int y3), (4, .int (y4 + Int32.ofInt 1))]) [1, 2, 3, 4, 0] rfl ?_
        exact ih v22_0 y1 y2 y3 (y4 + Int32.ofInt 1) hw
set_option maxHeartbeats 4000000 in
set_option maxRecDepth 100000 in
theorem kX12_givesOf {l : Launch} {E : VE} (h0 : Nat) (a0 : Nat → Nat) (u0 : Md) (x1 : Int32) (x2 : Int32) {Q : Int32 → Md → Prop} (hw : qX12_givesOf u0 x1 x2 Q) : MI l yX12_givesOf cX12_givesOf 6 .int 3 0 0 E [.ref h0, .int x1, .int x2] ([wX12 E h0 a0 u0].flatten) (fun (U : Md) => [wX12 E h0 a0 U].flatten) (fun (r : Int32) (U : Md) => Q r U) := by
  refine MI.of (own := RX12) (by decide) rfl (Nat.le_of_ble_eq_true rfl) ?_
  intro X C hini hret
  show VV X 0 0 ([wX12 E h0 a0 u0].flatten) [(0, .ref h0), (1, .int x1), (2, .int x2)] 0 []
  unfold qX12_givesOf at hw
  refine v_ldcw C mK_X12_420 dX12_givesOf_0 ?_
  refine v_istore_n (lv' := [(3, .int 1000000), (0, .ref h0), (1, .int x1), (2, .int x2)]) C dX12_givesOf_3 (by decide) rfl ?_
  refine v_iconst (v := 0) C dX12_givesOf_4 (by decide) ?_
  refine v_istore (lv' := [(4, .int 0), (3, .int 1000000), (0, .ref h0), (1, .int x1), (2, .int x2)]) C dX12_givesOf_5 (by decide) rfl ?_
  refine v_lv C (lv' := [(0, .ref h0), (1, .int x1), (2, .int x2), (3, .int 1000000), (4, .int 0)]) [2, 3, 4, 1, 0] rfl ?_
  obtain ⟨n', hw⟩ := hw
  exact jX12_givesOf_7 h0 a0 Q C hret n' u0 x1 x2 1000000 0 hw
set_option maxHeartbeats 4000000 in
set_option maxRecDepth 100000 in
theorem jX12_joins_lv0_126 {X : VX} {E : VE} {l : Launch} (h0 : Nat) (a0 : Nat → Nat)  (Q : Md → Prop) (C : VC X cX12_joins 6 RX12 (rmL 1 0 0) E l) (hret : RetV X cX12_joins 0 0 (fun (U : Md) => [wX12 E h0 a0 U].flatten) (fun (U : Md) => Q U)) (K58 : Md → Int32 → Int32 → Int32 → Int32 → Prop) (hK58 : ∀ (u0 : Md) (y1 : Int32) (y2 : Int32) (y3 : Int32) (y4 : Int32), K58 u0 y1 y2 y3 y4 → VV X 0 0 ([wX12 E h0 a0 u0].flatten) [(0, .ref h0), (1, .int y1), (2, .int y2), (3, .int y3), (4, .int y4)] 58 []) : ∀ (u0 : Md) (y1 : Int32) (y2 : Int32) (y3 : Int32) (y4 : Int32) (z0 : Int32), qX12_joins_lv0_126 Q K58 u0 y1 y2 y3 y4 z0 → VV X 0 0 ([wX12 E h0 a0 u0].flatten) [(0, .ref h0), (1, .int y1), (2, .int y2), (3, .int y3), (4, .int y4)] 126 [.int z0] := by
  intro u0 y1 y2 y3 y4 z0 hw
  unfold qX12_joins_lv0_126 at hw
  refine v_istore (lv' := [(5, .int z0), (0, .ref h0), (1, .int y1), (2, .int y2), (3, .int y3), (4, .int y4)]) C dX12_joins_126 (by decide) rfl ?_
  refine v_aload_n C dX12_joins_128 1 rfl ?_
  refine v_iload_n C dX12_joins_129 2 rfl ?_
  refine v_iconst (v := 1) C dX12_joins_130 (by decide) ?_
  refine v_iadd C dX12_joins_131 ?_
  refine v_iload_n C dX12_joins_132 3 rfl ?_
  refine v_iconst (v := 1) C dX12_joins_133 (by decide) ?_
  refine v_iload C dX12_joins_134 5 rfl ?_
  refine v_ishl C dX12_joins_136 ?_
  refine v_ior C dX12_joins_137 ?_
  refine v_iload_n C dX12_joins_138 4 rfl ?_
  refine v_aload_n C dX12_joins_139 1 rfl ?_
  refine v_get (ci := 12) C inT12 0 42 rfl rfl (by decide) mF_X12_92_X12_42 rfl dX12_joins_140 ?_
  refine v_bipush (v := 10) C dX12_joins_143 (by decide) ?_
  refine v_iload_n C dX12_joins_145 2 rfl ?_
  refine v_imul C dX12_joins_146 ?_
  refine v_iload C dX12_joins_147 5 rfl ?_
  refine v_iadd C dX12_joins_149 ?_
  obtain ⟨hi150, hw⟩ := hw
  refine v_iald C 25 rfl hi150 dX12_joins_150 ?_
  refine v_iadd C dX12_joins_151 ?_
  refine v_iload C dX12_joins_152 0 rfl ?_
  refine v_iadd C dX12_joins_154 ?_
  exact hw.elim
set_option maxHeartbeats 4000000 in
set_option maxRecDepth 100000 in
theorem jX12_joins_lv0_125 {X : VX} {E : VE} {l : Launch} (h0 : Nat) (a0 : Nat → Nat)  (Q : Md → Prop) (C : VC X cX12_joins 6 RX12 (rmL 1 0 0) E l) (hret : RetV X cX12_joins 0 0 (fun (U : Md) => [wX12 E h0 a0 U].flatten) (fun (U : Md) => Q U)) (K58 : Md → Int32 → Int32 → Int32 → Int32 → Prop) (hK58 : ∀ (u0 : Md) (y1 : Int32) (y2 : Int32) (y3 : Int32) (y4 : Int32), K58 u0 y1 y2 y3 y4 → VV X 0 0 ([wX12 E h0 a0 u0].flatten) [(0, .ref h0), (1, .int y1), (2, .int y2), (3, .int y3), (4, .int y4)] 58 []) : ∀ (u0 : Md) (y1 : Int32) (y2 : Int32) (y3 : Int32) (y4 : Int32), qX12_joins_lv0_125 Q K58 u0 y1 y2 y3 y4 → VV X 0 0 ([wX12 E h0 a0 u0].flatten) [(0, .ref h0), (1, .int y1), (2, .int y2), (3, .int y3), (4, .int y4)] 125 [] := by
  intro u0 y1 y2 y3 y4 hw
  unfold qX12_joins_lv0_125 at hw
  refine v_iconst (v := 0) C dX12_joins_125 (by decide) ?_
  exact jX12_joins_lv0_126 h0 a0 Q C hret K58 hK58 u0 y1 y2 y3 y4 0 hw
set_option maxHeartbeats 4000000 in
set_option maxRecDepth 100000 in
theorem jX12_joins_lv0_58 {X : VX} {E : VE} {l : Launch} (h0 : Nat) (a0 : Nat → Nat)  (Q : Md → Prop) (C : VC X cX12_joins 6 RX12 (rmL 1 0 0) E l) (hret : RetV X cX12_joins 0 0 (fun (U : Md) => [wX12 E h0 a0 U].flatten) (fun (U : Md) => Q U))  : ∀ (n : Nat), ∀ (u0 : Md) (y1 : Int32) (y2 : Int32) (y3 : Int32) (y4 : Int32), qX12_joins_lv0_58 Q n u0 y1 y2 y3 y4 → VV X 0 0 ([wX12 E h0 a0 u0].flatten) [(0, .ref h0), (1, .int y1), (2, .int y2), (3, .int y3), (4, .int y4)] 58 [] := by
  intro n
  induction n with
  | zero =>
    intro u0 y1 y2 y3 y4 hw
    exact hw.elim
  | succ n ih =>
    intro u0 y1 y2 y3 y4 hw
    unfold qX12_joins_lv0_58 at hw
    refine v_iload C dX12_joins_58 4 rfl ?_
    refine v_aload_n C dX12_joins_60 0 rfl ?_
    refine v_get (ci := 12) C inT12 0 40 rfl rfl (by decide) mF_X12_441_X12_40 rfl dX12_joins_61 ?_
    refine v_icmp_ge (tgt := 164) C dX12_joins_64 (by decide) (fun hc => ?_) (fun hc => ?_)
    · have hw := hw.1 hc
      exact hret _ _ _ _ u0 dX12_joins_164 hw (Nat.le_of_ble_eq_true rfl) (Nat.le_of_ble_eq_true rfl)
    · have hw := hw.2 hc
      refine v_iload_n C dX12_joins_67 2 rfl ?_
      refine v_iload C dX12_joins_68 4 rfl ?_
      refine v_ishr C dX12_joins_70 ?_
      refine v_iconst (v := 1) C dX12_joins_71 (by decide) ?_
      refine v_iand C dX12_joins_72 ?_
      refine v_iconst (v := 1) C dX12_joins_73 (by decide) ?_
      refine v_icmp_ne (tgt := 80) C dX12_joins_74 (by decide) (fun hc => ?_) (fun hc => ?_)
      · have hw := hw.1 hc
        refine v_aload_n C dX12_joins_80 0 rfl ?_
        refine v_get (ci := 12) C inT12 0 43 rfl rfl (by decide) mF_X12_95_X12_43 rfl dX12_joins_81 ?_
        refine v_iload_n C dX12_joins_84 1 rfl ?_
        refine v_iload C dX12_joins_85 4 rfl ?_
        obtain ⟨hi87, hw⟩ := hw
        obtain ⟨w87, e87⟩ : ∃ z : Md, z = tA u0 43 y1 y4 := ⟨_, rfl⟩
        have hw := hw w87 e87
        refine v_iast (ws' := [wX12 E h0 a0 w87].flatten) C 26 rfl hi87 (by rw [e87]; rfl) dX12_joins_87 ?_
        refine v_iload_n C dX12_joins_88 1 rfl ?_
        refine v_if_le (tgt := 125) C dX12_joins_89 (by decide) (fun hc => ?_) (fun hc => ?_)
        · have hw := hw.1 hc
          exact jX12_joins_lv0_125 h0 a0 Q C hret (qX12_joins_lv0_58 Q n) ih w87 y1 y2 y3 y4 hw
        · have hw := hw.2 hc
          refine v_aload_n C dX12_joins_92 0 rfl ?_
          refine v_aload_n C dX12_joins_93 0 rfl ?_
          refine v_get (ci := 12) C inT12 0 41 rfl rfl (by decide) mF_X12_89_X12_41 rfl dX12_joins_94 ?_
          refine v_aload_n C dX12_joins_97 0 rfl ?_
          refine v_get (ci := 12) C inT12 0 43 rfl rfl (by decide) mF_X12_95_X12_43 rfl dX12_joins_98 ?_
          refine v_iload_n C dX12_joins_101 1 rfl ?_
          refine v_iconst (v := 1) C dX12_joins_102 (by decide) ?_
          refine v_isub C dX12_joins_103 ?_
          obtain ⟨hi104, hw⟩ := hw
          refine v_iald C 26 rfl hi104 dX12_joins_104 ?_
          obtain ⟨hi105, hw⟩ := hw
          refine v_iald C 24 rfl hi105 dX12_joins_105 ?_
          refine v_aload_n C dX12_joins_106 0 rfl ?_
          refine v_get (ci := 12) C inT12 0 41 rfl rfl (by decide) mF_X12_89_X12_41 rfl dX12_joins_107 ?_
          refine v_iload C dX12_joins_110 4 rfl ?_
          obtain ⟨hi112, hw⟩ := hw
          refine v_iald C 24 rfl hi112 dX12_joins_112 ?_
          refine v_bipush (v := 30) C dX12_joins_113 (by decide) ?_
          refine v_callFi (st := []) (ci := 12) (qb := 0) C (kX12_isNear h0 a0 _ _ _ _ hw) mM_X12_382 mI_X12 mC_X12_isNear mN_X12_isNear mS_X12_isNear rfl rfl hd_X12_isNear ⟨Nat.le_of_ble_eq_true rfl, Nat.le_of_ble_eq_true rfl⟩ ⟨Nat.le_of_ble_eq_true rfl, Nat.le_of_ble_eq_true rfl⟩ rfl (Nat.le_of_ble_eq_true rfl) dX12_joins_115 (fun r115 v115_0 hw => ?_)
          obtain ⟨h01_115, hw⟩ := hw
          have hw := hw h01_115
          refine v_if_eq (tgt := 125) C dX12_joins_118 (by decide) (fun hc => ?_) (fun hc => ?_)
          · have hw := hw.1 hc
            exact jX12_joins_lv0_125 h0 a0 Q C hret (qX12_joins_lv0_58 Q n) ih v115_0 y1 y2 y3 y4 hw
          · have hw := hw.2 hc
            refine v_iconst (v := 3) C dX12_joins_121 (by decide) ?_
            refine v_goto (tgt := 126) C dX12_joins_122 (by decide) ?_
            exact jX12_joins_lv0_126 h0 a0 Q C hret (qX12_joins_lv0_58 Q n) ih v115_0 y1 y2 y3 y4 3 hw
      · have hw := hw.2 hc
        refine v_goto (tgt := 158) C dX12_joins_77 (by decide) ?_
        refine v_iinc (lv' := [(4, .int (y4 + Int32.ofInt 1)), (0, .ref h0), (1, .int y1), (2, .int y2), (3, .int y3)]) C dX12_joins_158 4 rfl (by decide) rfl ?_
        refine v_goto (tgt := 58) C dX12_joins_161 (by decide) ?_
        refine v_lv C (lv' := [(0, .ref h0), (1, .int y1), (2, .int y2), (3, .int y3), (4, .int (y4 + Int32.ofInt 1))]) [1, 2, 3, 4, 0] rfl ?_
        exact ih u0 y1 y2 y3 (y4 + Int32.ofInt 1) hw
set_option maxHeartbeats 4000000 in
set_option maxRecDepth 100000 in
theorem jX12_joins_lv0_25 {X : VX} {E : VE} {l : Launch} (h0 : Nat) (a0 : Nat → Nat)  (Q : Md → Prop) (C : VC X cX12_joins 6 RX12 (rmL 1 0 0) E l) (hret : RetV X cX12_joins 0 0 (fun (U : Md) => [wX12 E h0 a0 U].flatten) (fun (U : Md) => Q U))  : ∀ (n : Nat), ∀ (u0 : Md) (y4 : Int32), qX12_joins_lv0_25 Q n u0 y4 → VV X 0 0 ([wX12 E h0 a0 u0].flatten) [(0, .ref h0), (4, .int y4)] 25 [] := by
  intro n
  induction n with
  | zero =>
    intro u0 y4 hw
    exact hw.elim
  | succ n ih =>
    intro u0 y4 hw
    unfold qX12_joins_lv0_25 at hw
    refine v_iload C dX12_joins_25 1 rfl ?_
    refine v_aload_n C dX12_joins_27 0 rfl ?_
    refine v_get (ci := 12) C inT12 0 37 rfl rfl (by decide) mF_X12_435_X12_37 rfl dX12_joins_28 ?_
    refine v_icmp_ge (tgt := 54) C dX12_joins_31 (by decide) (fun hc => ?_) (fun hc => ?_)
    · have hw := hw.1 hc
      exact hret _ _ _ _ u0 dX12_joins_54 hw (Nat.le_of_ble_eq_true rfl) (Nat.le_of_ble_eq_true rfl)
    · have hw := hw.2 hc
      refine v_aload_n C dX12_joins_34 0 rfl ?_
      refine v_get (ci := 12) C inT12 0 44 rfl rfl (by decide) mF_X12_98_X12_44 rfl dX12_joins_35 ?_
      refine v_iload C dX12_joins_38 1 rfl ?_
      refine v_aload_n C dX12_joins_40 0 rfl ?_
      refine v_get (ci := 12) C inT12 0 43 rfl rfl (by decide) mF_X12_95_X12_43 rfl dX12_joins_41 ?_
      refine v_iload C dX12_joins_44 1 rfl ?_
      obtain ⟨hi46, hw⟩ := hw
      refine v_iald C 26 rfl hi46 dX12_joins_46 ?_
      obtain ⟨hi47, hw⟩ := hw
      obtain ⟨w47, e47⟩ : ∃ z : Md, z = tA u0 44 y4 (gA u0 43 y4.toNatClampNeg) := ⟨_, rfl⟩
      have hw := hw w47 e47
      refine v_iast (ws' := [wX12 E h0 a0 w47].flatten) C 27 rfl hi47 (by rw [e47]; rfl) dX12_joins_47 ?_
      refine v_iinc (lv' := [(4, .int (y4 + Int32.ofInt 1)), (0, .ref h0)]) C dX12_joins_48 1 rfl (by decide) rfl ?_
      refine v_goto (tgt := 25) C dX12_joins_51 (by decide) ?_
      refine v_lv C (lv' := [(0, .ref h0), (4, .int (y4 + Int32.ofInt 1))]) [1, 0] rfl ?_
      exact ih w47 (y4 + Int32.ofInt 1) hw
set_option maxHeartbeats 4000000 in
set_option maxRecDepth 100000 in
theorem kX12_joins_lv0 {l : Launch} {E : VE} (h0 : Nat) (a0 : Nat → Nat) (u0 : Md) (x1 : Int32) (x2 : Int32) (x3 : Int32) {Q : Md → Prop} (hw : qX12_joins_lv0 u0 x1 x2 x3 Q) : MV l yX12_joins cX12_joins 6 1 0 0 E [.ref h0, .int x1, .int x2, .int x3] ([wX12 E h0 a0 u0].flatten) (fun (U : Md) => [wX12 E h0 a0 U].flatten) (fun (U : Md) => Q U) := by
  refine MV.of (own := RX12) (by decide) rfl (Nat.le_of_ble_eq_true rfl) ?_
  intro X C hini hret
  show VV X 0 0 ([wX12 E h0 a0 u0].flatten) [(0, .ref h0), (1, .int x1), (2, .int x2), (3, .int x3)] 0 []
  unfold qX12_joins_lv0 at hw
  refine v_iload_n C dX12_joins_0 1 rfl ?_
  refine v_aload_n C dX12_joins_1 0 rfl ?_
  refine v_get (ci := 12) C inT12 0 37 rfl rfl (by decide) mF_X12_435_X12_37 rfl dX12_joins_2 ?_
  refine v_icmp_ne (tgt := 55) C dX12_joins_5 (by decide) (fun hc => ?_) (fun hc => ?_)
  · have hw := hw.1 hc
    refine v_iconst (v := 0) C dX12_joins_55 (by decide) ?_
    refine v_istore (lv' := [(4, .int 0), (0, .ref h0), (1, .int x1), (2, .int x2), (3, .int x3)]) C dX12_joins_56 (by decide) rfl ?_
    refine v_lv C (lv' := [(0, .ref h0), (1, .int x1), (2, .int x2), (3, .int x3), (4, .int 0)]) [1, 2, 3, 4, 0] rfl ?_
    obtain ⟨n', hw⟩ := hw
    exact jX12_joins_lv0_58 h0 a0 Q C hret n' u0 x1 x2 x3 0 hw
  · have hw := hw.2 hc
    refine v_iload_n C dX12_joins_8 3 rfl ?_
    refine v_aload_n C dX12_joins_9 0 rfl ?_
    refine v_get (ci := 12) C inT12 0 45 rfl rfl (by decide) mF_X12_438_X12_45 rfl dX12_joins_10 ?_
    refine v_icmp_gt (tgt := 17) C dX12_joins_13 (by decide) (fun hc => ?_) (fun hc => ?_)
    · have hw := hw.1 hc
      refine v_aload_n C dX12_joins_17 0 rfl ?_
      refine v_iload_n C dX12_joins_18 3 rfl ?_
      obtain ⟨w19, e19⟩ : ∃ z : Md, z = sF u0 45 x3 := ⟨_, rfl⟩
      have hw := hw w19 e19
      refine v_put (ci := 12) (ws' := [wX12 E h0 a0 w19].flatten) C tyX12 tyX12_ok nmX12 inT12 0 45 rfl rfl (by decide) mF_X12_438_X12_45 rfl rfl rfl rfl (Nat.le_of_ble_eq_true rfl) (by rw [e19]; rfl) dX12_joins_19 ?_
      refine v_iconst (v := 0) C dX12_joins_22 (by decide) ?_
      refine v_istore (lv' := [(4, .int 0), (0, .ref h0), (1, .int x1), (2, .int x2), (3, .int x3)]) C dX12_joins_23 (by decide) rfl ?_
      refine v_lv C (lv' := [(0, .ref h0), (4, .int 0)]) [1, 0] rfl ?_
      obtain ⟨n', hw⟩ := hw
      exact jX12_joins_lv0_25 h0 a0 Q C hret n' w19 0 hw
    · have hw := hw.2 hc
      exact hret _ _ _ _ u0 dX12_joins_16 hw (Nat.le_of_ble_eq_true rfl) (Nat.le_of_ble_eq_true rfl)
set_option maxHeartbeats 4000000 in
set_option maxRecDepth 100000 in
theorem jX12_joins_lv1_126 {X : VX} {E : VE} {l : Launch} (h0 : Nat) (a0 : Nat → Nat)  (Q : Md → Prop) (C : VC X cX12_joins 6 RX12 (rmL 2 0 0) E l) (hret : RetV X cX12_joins 0 0 (fun (U : Md) => [wX12 E h0 a0 U].flatten) (fun (U : Md) => Q U)) (K58 : Md → Int32 → Int32 → Int32 → Int32 → Prop) (hK58 : ∀ (u0 : Md) (y1 : Int32) (y2 : Int32) (y3 : Int32) (y4 : Int32), K58 u0 y1 y2 y3 y4 → VV X 0 0 ([wX12 E h0 a0 u0].flatten) [(0, .ref h0), (1, .int y1), (2, .int y2), (3, .int y3), (4, .int y4)] 58 []) : ∀ (u0 : Md) (y1 : Int32) (y2 : Int32) (y3 : Int32) (y4 : Int32) (z0 : Int32), qX12_joins_lv1_126 Q K58 u0 y1 y2 y3 y4 z0 → VV X 0 0 ([wX12 E h0 a0 u0].flatten) [(0, .ref h0), (1, .int y1), (2, .int y2), (3, .int y3), (4, .int y4)] 126 [.int z0] := by
  intro u0 y1 y2 y3 y4 z0 hw
  unfold qX12_joins_lv1_126 at hw
  refine v_istore (lv' := [(5, .int z0), (0, .ref h0), (1, .int y1), (2, .int y2), (3, .int y3), (4, .int y4)]) C dX12_joins_126 (by decide) rfl ?_
  refine v_aload_n C dX12_joins_128 1 rfl ?_
  refine v_iload_n C dX12_joins_129 2 rfl ?_
  refine v_iconst (v := 1) C dX12_joins_130 (by decide) ?_
  refine v_iadd C dX12_joins_131 ?_
  refine v_iload_n C dX12_joins_132 3 rfl ?_
  refine v_iconst (v := 1) C dX12_joins_133 (by decide) ?_
  refine v_iload C dX12_joins_134 5 rfl ?_
  refine v_ishl C dX12_joins_136 ?_
  refine v_ior C dX12_joins_137 ?_
  refine v_iload_n C dX12_joins_138 4 rfl ?_
  refine v_aload_n C dX12_joins_139 1 rfl ?_
  refine v_get (ci := 12) C inT12 0 42 rfl rfl (by decide) mF_X12_92_X12_42 rfl dX12_joins_140 ?_
  refine v_bipush (v := 10) C dX12_joins_143 (by decide) ?_
  refine v_iload_n C dX12_joins_145 2 rfl ?_
  refine v_imul C dX12_joins_146 ?_
  refine v_iload C dX12_joins_147 5 rfl ?_
  refine v_iadd C dX12_joins_149 ?_
  obtain ⟨hi150, hw⟩ := hw
  refine v_iald C 25 rfl hi150 dX12_joins_150 ?_
  refine v_iadd C dX12_joins_151 ?_
  refine v_iload C dX12_joins_152 0 rfl ?_
  refine v_iadd C dX12_joins_154 ?_
  refine v_callFv (st := []) (ci := 12) (qb := 0) C (kX12_joins_lv0 h0 a0 _ _ _ _ hw) mM_X12_444 mI_X12 mC_X12_joins mN_X12_joins mS_X12_joins rfl rfl hd_X12_joins ⟨Nat.le_of_ble_eq_true rfl, Nat.le_of_ble_eq_true rfl⟩ ⟨Nat.le_of_ble_eq_true rfl, Nat.le_of_ble_eq_true rfl⟩ rfl (Nat.le_of_ble_eq_true rfl) dX12_joins_155 (fun v155_0 hw => ?_)
  refine v_iinc (lv' := [(4, .int (y4 + Int32.ofInt 1)), (5, .int z0), (0, .ref h0), (1, .int y1), (2, .int y2), (3, .int y3)]) C dX12_joins_158 5 rfl (by decide) rfl ?_
  refine v_goto (tgt := 58) C dX12_joins_161 (by decide) ?_
  refine v_lv C (lv' := [(0, .ref h0), (1, .int y1), (2, .int y2), (3, .int y3), (4, .int (y4 + Int32.ofInt 1))]) [2, 3, 4, 5, 0] rfl ?_
  exact hK58 v155_0 y1 y2 y3 (y4 + Int32.ofInt 1) hw
set_option maxHeartbeats 4000000 in
set_option maxRecDepth 100000 in
theorem jX12_joins_lv1_125 {X : VX} {E : VE} {l : Launch} (h0 : Nat) (a0 : Nat → Nat)  (Q : Md → Prop) (C : VC X cX12_joins 6 RX12 (rmL 2 0 0) E l) (hret : RetV X cX12_joins 0 0 (fun (U : Md) => [wX12 E h0 a0 U].flatten) (fun (U : Md) => Q U)) (K58 : Md → Int32 → Int32 → Int32 → Int32 → Prop) (hK58 : ∀ (u0 : Md) (y1 : Int32) (y2 : Int32) (y3 : Int32) (y4 : Int32), K58 u0 y1 y2 y3 y4 → VV X 0 0 ([wX12 E h0 a0 u0].flatten) [(0, .ref h0), (1, .int y1), (2, .int y2), (3, .int y3), (4, .int y4)] 58 []) : ∀ (u0 : Md) (y1 : Int32) (y2 : Int32) (y3 : Int32) (y4 : Int32), qX12_joins_lv1_125 Q K58 u0 y1 y2 y3 y4 → VV X 0 0 ([wX12 E h0 a0 u0].flatten) [(0, .ref h0), (1, .int y1), (2, .int y2), (3, .int y3), (4, .int y4)] 125 [] := by
  intro u0 y1 y2 y3 y4 hw
  unfold qX12_joins_lv1_125 at hw
  refine v_iconst (v := 0) C dX12_joins_125 (by decide) ?_
  exact jX12_joins_lv1_126 h0 a0 Q C hret K58 hK58 u0 y1 y2 y3 y4 0 hw
set_option maxHeartbeats 4000000 in
set_option maxRecDepth 100000 in
theorem jX12_joins_lv1_58 {X : VX} {E : VE} {l : Launch} (h0 : Nat) (a0 : Nat → Nat)  (Q : Md → Prop) (C : VC X cX12_joins 6 RX12 (rmL 2 0 0) E l) (hret : RetV X cX12_joins 0 0 (fun (U : Md) => [wX12 E h0 a0 U].flatten) (fun (U : Md) => Q U))  : ∀ (n : Nat), ∀ (u0 : Md) (y1 : Int32) (y2 : Int32) (y3 : Int32) (y4 : Int32), qX12_joins_lv1_58 Q n u0 y1 y2 y3 y4 → VV X 0 0 ([wX12 E h0 a0 u0].flatten) [(0, .ref h0), (1, .int y1), (2, .int y2), (3, .int y3), (4, .int y4)] 58 [] := by
  intro n
  induction n with
  | zero =>
    intro u0 y1 y2 y3 y4 hw
    exact hw.elim
  | succ n ih =>
    intro u0 y1 y2 y3 y4 hw
    unfold qX12_joins_lv1_58 at hw
    refine v_iload C dX12_joins_58 4 rfl ?_
    refine v_aload_n C dX12_joins_60 0 rfl ?_
    refine v_get (ci := 12) C inT12 0 40 rfl rfl (by decide) mF_X12_441_X12_40 rfl dX12_joins_61 ?_
    refine v_icmp_ge (tgt := 164) C dX12_joins_64 (by decide) (fun hc => ?_) (fun hc => ?_)
    · have hw := hw.1 hc
      exact hret _ _ _ _ u0 dX12_joins_164 hw (Nat.le_of_ble_eq_true rfl) (Nat.le_of_ble_eq_true rfl)
    · have hw := hw.2 hc
      refine v_iload_n C dX12_joins_67 2 rfl ?_
      refine v_iload C dX12_joins_68 4 rfl ?_
      refine v_ishr C dX12_joins_70 ?_
      refine v_iconst (v := 1) C dX12_joins_71 (by decide) ?_
      refine v_iand C dX12_joins_72 ?_
      refine v_iconst (v := 1) C dX12_joins_73 (by decide) ?_
      refine v_icmp_ne (tgt := 80) C dX12_joins_74 (by decide) (fun hc => ?_) (fun hc => ?_)
      · have hw := hw.1 hc
        refine v_aload_n C dX12_joins_80 0 rfl ?_
        refine v_get (ci := 12) C inT12 0 43 rfl rfl (by decide) mF_X12_95_X12_43 rfl dX12_joins_81 ?_
        refine v_iload_n C dX12_joins_84 1 rfl ?_
        refine v_iload C dX12_joins_85 4 rfl ?_
        obtain ⟨hi87, hw⟩ := hw
        obtain ⟨w87, e87⟩ : ∃ z : Md, z = tA u0 43 y1 y4 := ⟨_, rfl⟩
        have hw := hw w87 e87
        refine v_iast (ws' := [wX12 E h0 a0 w87].flatten) C 26 rfl hi87 (by rw [e87]; rfl) dX12_joins_87 ?_
        refine v_iload_n C dX12_joins_88 1 rfl ?_
        refine v_if_le (tgt := 125) C dX12_joins_89 (by decide) (fun hc => ?_) (fun hc => ?_)
        · have hw := hw.1 hc
          exact jX12_joins_lv1_125 h0 a0 Q C hret (qX12_joins_lv1_58 Q n) ih w87 y1 y2 y3 y4 hw
        · have hw := hw.2 hc
          refine v_aload_n C dX12_joins_92 0 rfl ?_
          refine v_aload_n C dX12_joins_93 0 rfl ?_
          refine v_get (ci := 12) C inT12 0 41 rfl rfl (by decide) mF_X12_89_X12_41 rfl dX12_joins_94 ?_
          refine v_aload_n C dX12_joins_97 0 rfl ?_
          refine v_get (ci := 12) C inT12 0 43 rfl rfl (by decide) mF_X12_95_X12_43 rfl dX12_joins_98 ?_
          refine v_iload_n C dX12_joins_101 1 rfl ?_
          refine v_iconst (v := 1) C dX12_joins_102 (by decide) ?_
          refine v_isub C dX12_joins_103 ?_
          obtain ⟨hi104, hw⟩ := hw
          refine v_iald C 26 rfl hi104 dX12_joins_104 ?_
          obtain ⟨hi105, hw⟩ := hw
          refine v_iald C 24 rfl hi105 dX12_joins_105 ?_
          refine v_aload_n C dX12_joins_106 0 rfl ?_
          refine v_get (ci := 12) C inT12 0 41 rfl rfl (by decide) mF_X12_89_X12_41 rfl dX12_joins_107 ?_
          refine v_iload C dX12_joins_110 4 rfl ?_
          obtain ⟨hi112, hw⟩ := hw
          refine v_iald C 24 rfl hi112 dX12_joins_112 ?_
          refine v_bipush (v := 30) C dX12_joins_113 (by decide) ?_
          refine v_callFi (st := []) (ci := 12) (qb := 0) C (kX12_isNear h0 a0 _ _ _ _ hw) mM_X12_382 mI_X12 mC_X12_isNear mN_X12_isNear mS_X12_isNear rfl rfl hd_X12_isNear ⟨Nat.le_of_ble_eq_true rfl, Nat.le_of_ble_eq_true rfl⟩ ⟨Nat.le_of_ble_eq_true rfl, Nat.le_of_ble_eq_true rfl⟩ rfl (Nat.le_of_ble_eq_true rfl) dX12_joins_115 (fun r115 v115_0 hw => ?_)
          obtain ⟨h01_115, hw⟩ := hw
          have hw := hw h01_115
          refine v_if_eq (tgt := 125) C dX12_joins_118 (by decide) (fun hc => ?_) (fun hc => ?_)
          · have hw := hw.1 hc
            exact jX12_joins_lv1_125 h0 a0 Q C hret (qX12_joins_lv1_58 Q n) ih v115_0 y1 y2 y3 y4 hw
          · have hw := hw.2 hc
            refine v_iconst (v := 3) C dX12_joins_121 (by decide) ?_
            refine v_goto (tgt := 126) C dX12_joins_122 (by decide) ?_
            exact jX12_joins_lv1_126 h0 a0 Q C hret (qX12_joins_lv1_58 Q n) ih v115_0 y1 y2 y3 y4 3 hw
      · have hw := hw.2 hc
        refine v_goto (tgt := 158) C dX12_joins_77 (by decide) ?_
        refine v_iinc (lv' := [(4, .int (y4 + Int32.ofInt 1)), (0, .ref h0), (1, .int y1), (2, .int y2), (3, .int y3)]) C dX12_joins_158 4 rfl (by decide) rfl ?_
        refine v_goto (tgt := 58) C dX12_joins_161 (by decide) ?_
        refine v_lv C (lv' := [(0, .ref h0), (1, .int y1), (2, .int y2), (3, .int y3), (4, .int (y4 + Int32.ofInt 1))]) [1, 2, 3, 4, 0] rfl ?_
        exact ih u0 y1 y2 y3 (y4 + Int32.ofInt 1) hw
set_option maxHeartbeats 4000000 in
set_option maxRecDepth 100000 in
theorem jX12_joins_lv1_25 {X : VX} {E : VE} {l : Launch} (h0 : Nat) (a0 : Nat → Nat)  (Q : Md → Prop) (C : VC X cX12_joins 6 RX12 (rmL 2 0 0) E l) (hret : RetV X cX12_joins 0 0 (fun (U : Md) => [wX12 E h0 a0 U].flatten) (fun (U : Md) => Q U))  : ∀ (n : Nat), ∀ (u0 : Md) (y4 : Int32), qX12_joins_lv1_25 Q n u0 y4 → VV X 0 0 ([wX12 E h0 a0 u0].flatten) [(0, .ref h0), (4, .int y4)] 25 [] := by
  intro n
  induction n with
  | zero =>
    intro u0 y4 hw
    exact hw.elim
  | succ n ih =>
    intro u0 y4 hw
    unfold qX12_joins_lv1_25 at hw
    refine v_iload C dX12_joins_25 1 rfl ?_
    refine v_aload_n C dX12_joins_27 0 rfl ?_
    refine v_get (ci := 12) C inT12 0 37 rfl rfl (by decide) mF_X12_435_X12_37 rfl dX12_joins_28 ?_
    refine v_icmp_ge (tgt := 54) C dX12_joins_31 (by decide) (fun hc => ?_) (fun hc => ?_)
    · have hw := hw.1 hc
      exact hret _ _ _ _ u0 dX12_joins_54 hw (Nat.le_of_ble_eq_true rfl) (Nat.le_of_ble_eq_true rfl)
    · have hw := hw.2 hc
      refine v_aload_n C dX12_joins_34 0 rfl ?_
      refine v_get (ci := 12) C inT12 0 44 rfl rfl (by decide) mF_X12_98_X12_44 rfl dX12_joins_35 ?_
      refine v_iload C dX12_joins_38 1 rfl ?_
      refine v_aload_n C dX12_joins_40 0 rfl ?_
      refine v_get (ci := 12) C inT12 0 43 rfl rfl (by decide) mF_X12_95_X12_43 rfl dX12_joins_41 ?_
      refine v_iload C dX12_joins_44 1 rfl ?_
      obtain ⟨hi46, hw⟩ := hw
      refine v_iald C 26 rfl hi46 dX12_joins_46 ?_
      obtain ⟨hi47, hw⟩ := hw
      obtain ⟨w47, e47⟩ : ∃ z : Md, z = tA u0 44 y4 (gA u0 43 y4.toNatClampNeg) := ⟨_, rfl⟩
      have hw := hw w47 e47
      refine v_iast (ws' := [wX12 E h0 a0 w47].flatten) C 27 rfl hi47 (by rw [e47]; rfl) dX12_joins_47 ?_
      refine v_iinc (lv' := [(4, .int (y4 + Int32.ofInt 1)), (0, .ref h0)]) C dX12_joins_48 1 rfl (by decide) rfl ?_
      refine v_goto (tgt := 25) C dX12_joins_51 (by decide) ?_
      refine v_lv C (lv' := [(0, .ref h0), (4, .int (y4 + Int32.ofInt 1))]) [1, 0] rfl ?_
      exact ih w47 (y4 + Int32.ofInt 1) hw
set_option maxHeartbeats 4000000 in
set_option maxRecDepth 100000 in
theorem kX12_joins_lv1 {l : Launch} {E : VE} (h0 : Nat) (a0 : Nat → Nat) (u0 : Md) (x1 : Int32) (x2 : Int32) (x3 : Int32) {Q : Md → Prop} (hw : qX12_joins_lv1 u0 x1 x2 x3 Q) : MV l yX12_joins cX12_joins 6 2 0 0 E [.ref h0, .int x1, .int x2, .int x3] ([wX12 E h0 a0 u0].flatten) (fun (U : Md) => [wX12 E h0 a0 U].flatten) (fun (U : Md) => Q U) := by
  refine MV.of (own := RX12) (by decide) rfl (Nat.le_of_ble_eq_true rfl) ?_
  intro X C hini hret
  show VV X 0 0 ([wX12 E h0 a0 u0].flatten) [(0, .ref h0), (1, .int x1), (2, .int x2), (3, .int x3)] 0 []
  unfold qX12_joins_lv1 at hw
  refine v_iload_n C dX12_joins_0 1 rfl ?_
  refine v_aload_n C dX12_joins_1 0 rfl ?_
  refine v_get (ci := 12) C inT12 0 37 rfl rfl (by decide) mF_X12_435_X12_37 rfl dX12_joins_2 ?_
  refine v_icmp_ne (tgt := 55) C dX12_joins_5 (by decide) (fun hc => ?_) (fun hc => ?_)
  · have hw := hw.1 hc
    refine v_iconst (v := 0) C dX12_joins_55 (by decide) ?_
    refine v_istore (lv' := [(4, .int 0), (0, .ref h0), (1, .int x1), (2, .int x2), (3, .int x3)]) C dX12_joins_56 (by decide) rfl ?_
    refine v_lv C (lv' := [(0, .ref h0), (1, .int x1), (2, .int x2), (3, .int x3), (4, .int 0)]) [1, 2, 3, 4, 0] rfl ?_
    obtain ⟨n', hw⟩ := hw
    exact jX12_joins_lv1_58 h0 a0 Q C hret n' u0 x1 x2 x3 0 hw
  · have hw := hw.2 hc
    refine v_iload_n C dX12_joins_8 3 rfl ?_
    refine v_aload_n C dX12_joins_9 0 rfl ?_
    refine v_get (ci := 12) C inT12 0 45 rfl rfl (by decide) mF_X12_438_X12_45 rfl dX12_joins_10 ?_
    refine v_icmp_gt (tgt := 17) C dX12_joins_13 (by decide) (fun hc => ?_) (fun hc => ?_)
    · have hw := hw.1 hc
      refine v_aload_n C dX12_joins_17 0 rfl ?_
      refine v_iload_n C dX12_joins_18 3 rfl ?_
      obtain ⟨w19, e19⟩ : ∃ z : Md, z = sF u0 45 x3 := ⟨_, rfl⟩
      have hw := hw w19 e19
      refine v_put (ci := 12) (ws' := [wX12 E h0 a0 w19].flatten) C tyX12 tyX12_ok nmX12 inT12 0 45 rfl rfl (by decide) mF_X12_438_X12_45 rfl rfl rfl rfl (Nat.le_of_ble_eq_true rfl) (by rw [e19]; rfl) dX12_joins_19 ?_
      refine v_iconst (v := 0) C dX12_joins_22 (by decide) ?_
      refine v_istore (lv' := [(4, .int 0), (0, .ref h0), (1, .int x1), (2, .int x2), (3, .int x3)]) C dX12_joins_23 (by decide) rfl ?_
      refine v_lv C (lv' := [(0, .ref h0), (4, .int 0)]) [1, 0] rfl ?_
      obtain ⟨n', hw⟩ := hw
      exact jX12_joins_lv1_25 h0 a0 Q C hret n' w19 0 hw
    · have hw := hw.2 hc
      exact hret _ _ _ _ u0 dX12_joins_16 hw (Nat.le_of_ble_eq_true rfl) (Nat.le_of_ble_eq_true rfl)
set_option maxHeartbeats 4000000 in
set_option maxRecDepth 100000 in
theorem jX12_joins_lv2_126 {X : VX} {E : VE} {l : Launch} (h0 : Nat) (a0 : Nat → Nat)  (Q : Md → Prop) (C : VC X cX12_joins 6 RX12 (rmL 3 0 0) E l) (hret : RetV X cX12_joins 0 0 (fun (U : Md) => [wX12 E h0 a0 U].flatten) (fun (U : Md) => Q U)) (K58 : Md → Int32 → Int32 → Int32 → Int32 → Prop) (hK58 : ∀ (u0 : Md) (y1 : Int32) (y2 : Int32) (y3 : Int32) (y4 : Int32), K58 u0 y1 y2 y3 y4 → VV X 0 0 ([wX12 E h0 a0 u0].flatten) [(0, .ref h0), (1, .int y1), (2, .int y2), (3, .int y3), (4, .int y4)] 58 []) : ∀ (u0 : Md) (y1 : Int32) (y2 : Int32) (y3 : Int32) (y4 : Int32) (z0 : Int32), qX12_joins_lv2_126 Q K58 u0 y1 y2 y3 y4 z0 → VV X 0 0 ([wX12 E h0 a0 u0].flatten) [(0, .ref h0), (1, .int y1), (2, .int y2), (3, .int y3), (4, .int y4)] 126 [.int z0] := by
  intro u0 y1 y2 y3 y4 z0 hw
  unfold qX12_joins_lv2_126 at hw
  refine v_istore (lv' := [(5, .int z0), (0, .ref h0), (1, .int y1), (2, .int y2), (3, .int y3), (4, .int y4)]) C dX12_joins_126 (by decide) rfl ?_
  refine v_aload_n C dX12_joins_128 1 rfl ?_
  refine v_iload_n C dX12_joins_129 2 rfl ?_
  refine v_iconst (v := 1) C dX12_joins_130 (by decide) ?_
  refine v_iadd C dX12_joins_131 ?_
  refine v_iload_n C dX12_joins_132 3 rfl ?_
  refine v_iconst (v := 1) C dX12_joins_133 (by decide) ?_
  refine v_iload C dX12_joins_134 5 rfl ?_
  refine v_ishl C dX12_joins_136 ?_
  refine v_ior C dX12_joins_137 ?_
  refine v_iload_n C dX12_joins_138 4 rfl ?_
  refine v_aload_n C dX12_joins_139 1 rfl ?_
  refine v_get (ci := 12) C inT12 0 42 rfl rfl (by decide) mF_X12_92_X12_42 rfl dX12_joins_140 ?_
  refine v_bipush (v := 10) C dX12_joins_143 (by decide) ?_
  refine v_iload_n C dX12_joins_145 2 rfl ?_
  refine v_imul C dX12_joins_146 ?_
  refine v_iload C dX12_joins_147 5 rfl ?_
  refine v_iadd C dX12_joins_149 ?_
  obtain ⟨hi150, hw⟩ := hw
  refine v_iald C 25 rfl hi150 dX12_joins_150 ?_
  refine v_iadd C dX12_joins_151 ?_
  refine v_iload C dX12_joins_152 0 rfl ?_
  refine v_iadd C dX12_joins_154 ?_
  refine v_callFv (st := []) (ci := 12) (qb := 0) C (kX12_joins_lv1 h0 a0 _ _ _ _ hw) mM_X12_444 mI_X12 mC_X12_joins mN_X12_joins mS_X12_joins rfl rfl hd_X12_joins ⟨Nat.le_of_ble_eq_true rfl, Nat.le_of_ble_eq_true rfl⟩ ⟨Nat.le_of_ble_eq_true rfl, Nat.le_of_ble_eq_true rfl⟩ rfl (Nat.le_of_ble_eq_true rfl) dX12_joins_155 (fun v155_0 hw => ?_)
  refine v_iinc (lv' := [(4, .int (y4 + Int32.ofInt 1)), (5, .int z0), (0, .ref h0), (1, .int y1), (2, .int y2), (3, .int y3)]) C dX12_joins_158 5 rfl (by decide) rfl ?_
  refine v_goto (tgt := 58) C dX12_joins_161 (by decide) ?_
  refine v_lv C (lv' := [(0, .ref h0), (1, .int y1), (2, .int y2), (3, .int y3), (4, .int (y4 + Int32.ofInt 1))]) [2, 3, 4, 5, 0] rfl ?_
  exact hK58 v155_0 y1 y2 y3 (y4 + Int32.ofInt 1) hw
set_option maxHeartbeats 4000000 in
set_option maxRecDepth 100000 in
theorem jX12_joins_lv2_125 {X : VX} {E : VE} {l : Launch} (h0 : Nat) (a0 : Nat → Nat)  (Q : Md → Prop) (C : VC X cX12_joins 6 RX12 (rmL 3 0 0) E l) (hret : RetV X cX12_joins 0 0 (fun (U : Md) => [wX12 E h0 a0 U].flatten) (fun (U : Md) => Q U)) (K58 : Md → Int32 → Int32 → Int32 → Int32 → Prop) (hK58 : ∀ (u0 : Md) (y1 : Int32) (y2 : Int32) (y3 : Int32) (y4 : Int32), K58 u0 y1 y2 y3 y4 → VV X 0 0 ([wX12 E h0 a0 u0].flatten) [(0, .ref h0), (1, .int y1), (2, .int y2), (3, .int y3), (4, .int y4)] 58 []) : ∀ (u0 : Md) (y1 : Int32) (y2 : Int32) (y3 : Int32) (y4 : Int32), qX12_joins_lv2_125 Q K58 u0 y1 y2 y3 y4 → VV X 0 0 ([wX12 E h0 a0 u0].flatten) [(0, .ref h0), (1, .int y1), (2, .int y2), (3, .int y3), (4, .int y4)] 125 [] := by
  intro u0 y1 y2 y3 y4 hw
  unfold qX12_joins_lv2_125 at hw
  refine v_iconst (v := 0) C dX12_joins_125 (by decide) ?_
  exact jX12_joins_lv2_126 h0 a0 Q C hret K58 hK58 u0 y1 y2 y3 y4 0 hw
set_option maxHeartbeats 4000000 in
set_option maxRecDepth 100000 in
theorem jX12_joins_lv2_58 {X : VX} {E : VE} {l : Launch} (h0 : Nat) (a0 : Nat → Nat)  (Q : Md → Prop) (C : VC X cX12_joins 6 RX12 (rmL 3 0 0) E l) (hret : RetV X cX12_joins 0 0 (fun (U : Md) => [wX12 E h0 a0 U].flatten) (fun (U : Md) => Q U))  : ∀ (n : Nat), ∀ (u0 : Md) (y1 : Int32) (y2 : Int32) (y3 : Int32) (y4 : Int32), qX12_joins_lv2_58 Q n u0 y1 y2 y3 y4 → VV X 0 0 ([wX12 E h0 a0 u0].flatten) [(0, .ref h0), (1, .int y1), (2, .int y2), (3, .int y3), (4, .int y4)] 58 [] := by
  intro n
  induction n with
  | zero =>
    intro u0 y1 y2 y3 y4 hw
    exact hw.elim
  | succ n ih =>
    intro u0 y1 y2 y3 y4 hw
    unfold qX12_joins_lv2_58 at hw
    refine v_iload C dX12_joins_58 4 rfl ?_
    refine v_aload_n C dX12_joins_60 0 rfl ?_
    refine v_get (ci := 12) C inT12 0 40 rfl rfl (by decide) mF_X12_441_X12_40 rfl dX12_joins_61 ?_
    refine v_icmp_ge (tgt := 164) C dX12_joins_64 (by decide) (fun hc => ?_) (fun hc => ?_)
    · have hw := hw.1 hc
      exact hret _ _ _ _ u0 dX12_joins_164 hw (Nat.le_of_ble_eq_true rfl) (Nat.le_of_ble_eq_true rfl)
    · have hw := hw.2 hc
      refine v_iload_n C dX12_joins_67 2 rfl ?_
      refine v_iload C dX12_joins_68 4 rfl ?_
      refine v_ishr C dX12_joins_70 ?_
      refine v_iconst (v := 1) C dX12_joins_71 (by decide) ?_
      refine v_iand C dX12_joins_72 ?_
      refine v_iconst (v := 1) C dX12_joins_73 (by decide) ?_
      refine v_icmp_ne (tgt := 80) C dX12_joins_74 (by decide) (fun hc => ?_) (fun hc => ?_)
      · have hw := hw.1 hc
        refine v_aload_n C dX12_joins_80 0 rfl ?_
        refine v_get (ci := 12) C inT12 0 43 rfl rfl (by decide) mF_X12_95_X12_43 rfl dX12_joins_81 ?_
        refine v_iload_n C dX12_joins_84 1 rfl ?_
        refine v_iload C dX12_joins_85 4 rfl ?_
        obtain ⟨hi87, hw⟩ := hw
        obtain ⟨w87, e87⟩ : ∃ z : Md, z = tA u0 43 y1 y4 := ⟨_, rfl⟩
        have hw := hw w87 e87
        refine v_iast (ws' := [wX12 E h0 a0 w87].flatten) C 26 rfl hi87 (by rw [e87]; rfl) dX12_joins_87 ?_
        refine v_iload_n C dX12_joins_88 1 rfl ?_
        refine v_if_le (tgt := 125) C dX12_joins_89 (by decide) (fun hc => ?_) (fun hc => ?_)
        · have hw := hw.1 hc
          exact jX12_joins_lv2_125 h0 a0 Q C hret (qX12_joins_lv2_58 Q n) ih w87 y1 y2 y3 y4 hw
        · have hw := hw.2 hc
          refine v_aload_n C dX12_joins_92 0 rfl ?_
          refine v_aload_n C dX12_joins_93 0 rfl ?_
          refine v_get (ci := 12) C inT12 0 41 rfl rfl (by decide) mF_X12_89_X12_41 rfl dX12_joins_94 ?_
          refine v_aload_n C dX12_joins_97 0 rfl ?_
          refine v_get (ci := 12) C inT12 0 43 rfl rfl (by decide) mF_X12_95_X12_43 rfl dX12_joins_98 ?_
          refine v_iload_n C dX12_joins_101 1 rfl ?_
          refine v_iconst (v := 1) C dX12_joins_102 (by decide) ?_
          refine v_isub C dX12_joins_103 ?_
          obtain ⟨hi104, hw⟩ := hw
          refine v_iald C 26 rfl hi104 dX12_joins_104 ?_
          obtain ⟨hi105, hw⟩ := hw
          refine v_iald C 24 rfl hi105 dX12_joins_105 ?_
          refine v_aload_n C dX12_joins_106 0 rfl ?_
          refine v_get (ci := 12) C inT12 0 41 rfl rfl (by decide) mF_X12_89_X12_41 rfl dX12_joins_107 ?_
          refine v_iload C dX12_joins_110 4 rfl ?_
          obtain ⟨hi112, hw⟩ := hw
          refine v_iald C 24 rfl hi112 dX12_joins_112 ?_
          refine v_bipush (v := 30) C dX12_joins_113 (by decide) ?_
          refine v_callFi (st := []) (ci := 12) (qb := 0) C (kX12_isNear h0 a0 _ _ _ _ hw) mM_X12_382 mI_X12 mC_X12_isNear mN_X12_isNear mS_X12_isNear rfl rfl hd_X12_isNear ⟨Nat.le_of_ble_eq_true rfl, Nat.le_of_ble_eq_true rfl⟩ ⟨Nat.le_of_ble_eq_true rfl, Nat.le_of_ble_eq_true rfl⟩ rfl (Nat.le_of_ble_eq_true rfl) dX12_joins_115 (fun r115 v115_0 hw => ?_)
          obtain ⟨h01_115, hw⟩ := hw
          have hw := hw h01_115
          refine v_if_eq (tgt := 125) C dX12_joins_118 (by decide) (fun hc => ?_) (fun hc => ?_)
          · have hw := hw.1 hc
            exact jX12_joins_lv2_125 h0 a0 Q C hret (qX12_joins_lv2_58 Q n) ih v115_0 y1 y2 y3 y4 hw
          · have hw := hw.2 hc
            refine v_iconst (v := 3) C dX12_joins_121 (by decide) ?_
            refine v_goto (tgt := 126) C dX12_joins_122 (by decide) ?_
            exact jX12_joins_lv2_126 h0 a0 Q C hret (qX12_joins_lv2_58 Q n) ih v115_0 y1 y2 y3 y4 3 hw
      · have hw := hw.2 hc
        refine v_goto (tgt := 158) C dX12_joins_77 (by decide) ?_
        refine v_iinc (lv' := [(4, .int (y4 + Int32.ofInt 1)), (0, .ref h0), (1, .int y1), (2, .int y2), (3, .int y3)]) C dX12_joins_158 4 rfl (by decide) rfl ?_
        refine v_goto (tgt := 58) C dX12_joins_161 (by decide) ?_
        refine v_lv C (lv' := [(0, .ref h0), (1, .int y1), (2, .int y2), (3, .int y3), (4, .int (y4 + Int32.ofInt 1))]) [1, 2, 3, 4, 0] rfl ?_
        exact ih u0 y1 y2 y3 (y4 + Int32.ofInt 1) hw
set_option maxHeartbeats 4000000 in
set_option maxRecDepth 100000 in
theorem jX12_joins_lv2_25 {X : VX} {E : VE} {l : Launch} (h0 : Nat) (a0 : Nat → Nat)  (Q : Md → Prop) (C : VC X cX12_joins 6 RX12 (rmL 3 0 0) E l) (hret : RetV X cX12_joins 0 0 (fun (U : Md) => [wX12 E h0 a0 U].flatten) (fun (U : Md) => Q U))  : ∀ (n : Nat), ∀ (u0 : Md) (y4 : Int32), qX12_joins_lv2_25 Q n u0 y4 → VV X 0 0 ([wX12 E h0 a0 u0].flatten) [(0, .ref h0), (4, .int y4)] 25 [] := by
  intro n
  induction n with
  | zero =>
    intro u0 y4 hw
    exact hw.elim
  | succ n ih =>
    intro u0 y4 hw
    unfold qX12_joins_lv2_25 at hw
    refine v_iload C dX12_joins_25 1 rfl ?_
    refine v_aload_n C dX12_joins_27 0 rfl ?_
    refine v_get (ci := 12) C inT12 0 37 rfl rfl (by decide) mF_X12_435_X12_37 rfl dX12_joins_28 ?_
    refine v_icmp_ge (tgt := 54) C dX12_joins_31 (by decide) (fun hc => ?_) (fun hc => ?_)
    · have hw := hw.1 hc
      exact hret _ _ _ _ u0 dX12_joins_54 hw (Nat.le_of_ble_eq_true rfl) (Nat.le_of_ble_eq_true rfl)
    · have hw := hw.2 hc
      refine v_aload_n C dX12_joins_34 0 rfl ?_
      refine v_get (ci := 12) C inT12 0 44 rfl rfl (by decide) mF_X12_98_X12_44 rfl dX12_joins_35 ?_
      refine v_iload C dX12_joins_38 1 rfl ?_
      refine v_aload_n C dX12_joins_40 0 rfl ?_
      refine v_get (ci := 12) C inT12 0 43 rfl rfl (by decide) mF_X12_95_X12_43 rfl dX12_joins_41 ?_
      refine v_iload C dX12_joins_44 1 rfl ?_
      obtain ⟨hi46, hw⟩ := hw
      refine v_iald C 26 rfl hi46 dX12_joins_46 ?_
      obtain ⟨hi47, hw⟩ := hw
      obtain ⟨w47, e47⟩ : ∃ z : Md, z = tA u0 44 y4 (gA u0 43 y4.toNatClampNeg) := ⟨_, rfl⟩
      have hw := hw w47 e47
      refine v_iast (ws' := [wX12 E h0 a0 w47].flatten) C 27 rfl hi47 (by rw [e47]; rfl) dX12_joins_47 ?_
      refine v_iinc (lv' := [(4, .int (y4 + Int32.ofInt 1)), (0, .ref h0)]) C dX12_joins_48 1 rfl (by decide) rfl ?_
      refine v_goto (tgt := 25) C dX12_joins_51 (by decide) ?_
      refine v_lv C (lv' := [(0, .ref h0), (4, .int (y4 + Int32.ofInt 1))]) [1, 0] rfl ?_
      exact ih w47 (y4 + Int32.ofInt 1) hw
set_option maxHeartbeats 4000000 in
set_option maxRecDepth 100000 in
theorem kX12_joins_lv2 {l : Launch} {E : VE} (h0 : Nat) (a0 : Nat → Nat) (u0 : Md) (x1 : Int32) (x2 : Int32) (x3 : Int32) {Q : Md → Prop} (hw : qX12_joins_lv2 u0 x1 x2 x3 Q) : MV l yX12_joins cX12_joins 6 3 0 0 E [.ref h0, .int x1, .int x2, .int x3] ([wX12 E h0 a0 u0].flatten) (fun (U : Md) => [wX12 E h0 a0 U].flatten) (fun (U : Md) => Q U) := by
  refine MV.of (own := RX12) (by decide) rfl (Nat.le_of_ble_eq_true rfl) ?_
  intro X C hini hret
  show VV X 0 0 ([wX12 E h0 a0 u0].flatten) [(0, .ref h0), (1, .int x1), (2, .int x2), (3, .int x3)] 0 []
  unfold qX12_joins_lv2 at hw
  refine v_iload_n C dX12_joins_0 1 rfl ?_
  refine v_aload_n C dX12_joins_1 0 rfl ?_
  refine v_get (ci := 12) C inT12 0 37 rfl rfl (by decide) mF_X12_435_X12_37 rfl dX12_joins_2 ?_
  refine v_icmp_ne (tgt := 55) C dX12_joins_5 (by decide) (fun hc => ?_) (fun hc => ?_)
  · have hw := hw.1 hc
    refine v_iconst (v := 0) C dX12_joins_55 (by decide) ?_
    refine v_istore (lv' := [(4, .int 0), (0, .ref h0), (1, .int x1), (2, .int x2), (3, .int x3)]) C dX12_joins_56 (by decide) rfl ?_
    refine v_lv C (lv' := [(0, .ref h0), (1, .int x1), (2, .int x2), (3, .int x3), (4, .int 0)]) [1, 2, 3, 4, 0] rfl ?_
    obtain ⟨n', hw⟩ := hw
    exact jX12_joins_lv2_58 h0 a0 Q C hret n' u0 x1 x2 x3 0 hw
  · have hw := hw.2 hc
    refine v_iload_n C dX12_joins_8 3 rfl ?_
    refine v_aload_n C dX12_joins_9 0 rfl ?_
    refine v_get (ci := 12) C inT12 0 45 rfl rfl (by decide) mF_X12_438_X12_45 rfl dX12_joins_10 ?_
    refine v_icmp_gt (tgt := 17) C dX12_joins_13 (by decide) (fun hc => ?_) (fun hc => ?_)
    · have hw := hw.1 hc
      refine v_aload_n C dX12_joins_17 0 rfl ?_
      refine v_iload_n C dX12_joins_18 3 rfl ?_
      obtain ⟨w19, e19⟩ : ∃ z : Md, z = sF u0 45 x3 := ⟨_, rfl⟩
      have hw := hw w19 e19
      refine v_put (ci := 12) (ws' := [wX12 E h0 a0 w19].flatten) C tyX12 tyX12_ok nmX12 inT12 0 45 rfl rfl (by decide) mF_X12_438_X12_45 rfl rfl rfl rfl (Nat.le_of_ble_eq_true rfl) (by rw [e19]; rfl) dX12_joins_19 ?_
      refine v_iconst (v := 0) C dX12_joins_22 (by decide) ?_
      refine v_istore (lv' := [(4, .int 0), (0, .ref h0), (1, .int x1), (2, .int x2), (3, .int x3)]) C dX12_joins_23 (by decide) rfl ?_
      refine v_lv C (lv' := [(0, .ref h0), (4, .int 0)]) [1, 0] rfl ?_
      obtain ⟨n', hw⟩ := hw
      exact jX12_joins_lv2_25 h0 a0 Q C hret n' w19 0 hw
    · have hw := hw.2 hc
      exact hret _ _ _ _ u0 dX12_joins_16 hw (Nat.le_of_ble_eq_true rfl) (Nat.le_of_ble_eq_true rfl)
set_option maxHeartbeats 4000000 in
set_option maxRecDepth 100000 in
theorem jX12_joins_lv3_126 {X : VX} {E : VE} {l : Launch} (h0 : Nat) (a0 : Nat → Nat)  (Q : Md → Prop) (C : VC X cX12_joins 6 RX12 (rmL 4 0 0) E l) (hret : RetV X cX12_joins 0 0 (fun (U : Md) => [wX12 E h0 a0 U].flatten) (fun (U : Md) => Q U)) (K58 : Md → Int32 → Int32 → Int32 → Int32 → Prop) (hK58 : ∀ (u0 : Md) (y1 : Int32) (y2 : Int32) (y3 : Int32) (y4 : Int32), K58 u0 y1 y2 y3 y4 → VV X 0 0 ([wX12 E h0 a0 u0].flatten) [(0, .ref h0), (1, .int y1), (2, .int y2), (3, .int y3), (4, .int y4)] 58 []) : ∀ (u0 : Md) (y1 : Int32) (y2 : Int32) (y3 : Int32) (y4 : Int32) (z0 : Int32), qX12_joins_lv3_126 Q K58 u0 y1 y2 y3 y4 z0 → VV X 0 0 ([wX12 E h0 a0 u0].flatten) [(0, .ref h0), (1, .int y1), (2, .int y2), (3, .int y3), (4, .int y4)] 126 [.int z0] := by
  intro u0 y1 y2 y3 y4 z0 hw
  unfold qX12_joins_lv3_126 at hw
  refine v_istore (lv' := [(5, .int z0), (0, .ref h0), (1, .int y1), (2, .int y2), (3, .int y3), (4, .int y4)]) C dX12_joins_126 (by decide) rfl ?_
  refine v_aload_n C dX12_joins_128 1 rfl ?_
  refine v_iload_n C dX12_joins_129 2 rfl ?_
  refine v_iconst (v := 1) C dX12_joins_130 (by decide) ?_
  refine v_iadd C dX12_joins_131 ?_
  refine v_iload_n C dX12_joins_132 3 rfl ?_
  refine v_iconst (v := 1) C dX12_joins_133 (by decide) ?_
  refine v_iload C dX12_joins_134 5 rfl ?_
  refine v_ishl C dX12_joins_136 ?_
  refine v_ior C dX12_joins_137 ?_
  refine v_iload_n C dX12_joins_138 4 rfl ?_
  refine v_aload_n C dX12_joins_139 1 rfl ?_
  refine v_get (ci := 12) C inT12 0 42 rfl rfl (by decide) mF_X12_92_X12_42 rfl dX12_joins_140 ?_
  refine v_bipush (v := 10) C dX12_joins_143 (by decide) ?_
  refine v_iload_n C dX12_joins_145 2 rfl ?_
  refine v_imul C dX12_joins_146 ?_
  refine v_iload C dX12_joins_147 5 rfl ?_
  refine v_iadd C dX12_joins_149 ?_
  obtain ⟨hi150, hw⟩ := hw
  refine v_iald C 25 rfl hi150 dX12_joins_150 ?_
  refine v_iadd C dX12_joins_151 ?_
  refine v_iload C dX12_joins_152 0 rfl ?_
  refine v_iadd C dX12_joins_154 ?_
  refine v_callFv (st := []) (ci := 12) (qb := 0) C (kX12_joins_lv2 h0 a0 _ _ _ _ hw) mM_X12_444 mI_X12 mC_X12_joins mN_X12_joins mS_X12_joins rfl rfl hd_X12_joins ⟨Nat.le_of_ble_eq_true rfl, Nat.le_of_ble_eq_true rfl⟩ ⟨Nat.le_of_ble_eq_true rfl, Nat.le_of_ble_eq_true rfl⟩ rfl (Nat.le_of_ble_eq_true rfl) dX12_joins_155 (fun v155_0 hw => ?_)
  refine v_iinc (lv' := [(4, .int (y4 + Int32.ofInt 1)), (5, .int z0), (0, .ref h0), (1, .int y1), (2, .int y2), (3, .int y3)]) C dX12_joins_158 5 rfl (by decide) rfl ?_
  refine v_goto (tgt := 58) C dX12_joins_161 (by decide) ?_
  refine v_lv C (lv' := [(0, .ref h0), (1, .int y1), (2, .int y2), (3, .int y3), (4, .int (y4 + Int32.ofInt 1))]) [2, 3, 4, 5, 0] rfl ?_
  exact hK58 v155_0 y1 y2 y3 (y4 + Int32.ofInt 1) hw
set_option maxHeartbeats 4000000 in
set_option maxRecDepth 100000 in
theorem jX12_joins_lv3_125 {X : VX} {E : VE} {l : Launch} (h0 : Nat) (a0 : Nat → Nat)  (Q : Md → Prop) (C : VC X cX12_joins 6 RX12 (rmL 4 0 0) E l) (hret : RetV X cX12_joins 0 0 (fun (U : Md) => [wX12 E h0 a0 U].flatten) (fun (U : Md) => Q U)) (K58 : Md → Int32 → Int32 → Int32 → Int32 → Prop) (hK58 : ∀ (u0 : Md) (y1 : Int32) (y2 : Int32) (y3 : Int32) (y4 : Int32), K58 u0 y1 y2 y3 y4 → VV X 0 0 ([wX12 E h0 a0 u0].flatten) [(0, .ref h0), (1, .int y1), (2, .int y2), (3, .int y3), (4, .int y4)] 58 []) : ∀ (u0 : Md) (y1 : Int32) (y2 : Int32) (y3 : Int32) (y4 : Int32), qX12_joins_lv3_125 Q K58 u0 y1 y2 y3 y4 → VV X 0 0 ([wX12 E h0 a0 u0].flatten) [(0, .ref h0), (1, .int y1), (2, .int y2), (3, .int y3), (4, .int y4)] 125 [] := by
  intro u0 y1 y2 y3 y4 hw
  unfold qX12_joins_lv3_125 at hw
  refine v_iconst (v := 0) C dX12_joins_125 (by decide) ?_
  exact jX12_joins_lv3_126 h0 a0 Q C hret K58 hK58 u0 y1 y2 y3 y4 0 hw
set_option maxHeartbeats 4000000 in
set_option maxRecDepth 100000 in
theorem jX12_joins_lv3_58 {X : VX} {E : VE} {l : Launch} (h0 : Nat) (a0 : Nat → Nat)  (Q : Md → Prop) (C : VC X cX12_joins 6 RX12 (rmL 4 0 0) E l) (hret : RetV X cX12_joins 0 0 (fun (U : Md) => [wX12 E h0 a0 U].flatten) (fun (U : Md) => Q U))  : ∀ (n : Nat), ∀ (u0 : Md) (y1 : Int32) (y2 : Int32) (y3 : Int32) (y4 : Int32), qX12_joins_lv3_58 Q n u0 y1 y2 y3 y4 → VV X 0 0 ([wX12 E h0 a0 u0].flatten) [(0, .ref h0), (1, .int y1), (2, .int y2), (3, .int y3), (4, .int y4)] 58 [] := by
  intro n
  induction n with
  | zero =>
    intro u0 y1 y2 y3 y4 hw
    exact hw.elim
  | succ n ih =>
    intro u0 y1 y2 y3 y4 hw
    unfold qX12_joins_lv3_58 at hw
    refine v_iload C dX12_joins_58 4 rfl ?_
    refine v_aload_n C dX12_joins_60 0 rfl ?_
    refine v_get (ci := 12) C inT12 0 40 rfl rfl (by decide) mF_X12_441_X12_40 rfl dX12_joins_61 ?_
    refine v_icmp_ge (tgt := 164) C dX12_joins_64 (by decide) (fun hc => ?_) (fun hc => ?_)
    · have hw := hw.1 hc
      exact hret _ _ _ _ u0 dX12_joins_164 hw (Nat.le_of_ble_eq_true rfl) (Nat.le_of_ble_eq_true rfl)
    · have hw := hw.2 hc
      refine v_iload_n C dX12_joins_67 2 rfl ?_
      refine v_iload C dX12_joins_68 4 rfl ?_
      refine v_ishr C dX12_joins_70 ?_
      refine v_iconst (v := 1) C dX12_joins_71 (by decide) ?_
      refine v_iand C dX12_joins_72 ?_
      refine v_iconst (v := 1) C dX12_joins_73 (by decide) ?_
      refine v_icmp_ne (tgt := 80) C dX12_joins_74 (by decide) (fun hc => ?_) (fun hc => ?_)
      · have hw := hw.1 hc
        refine v_aload_n C dX12_joins_80 0 rfl ?_
        refine v_get (ci := 12) C inT12 0 43 rfl rfl (by decide) mF_X12_95_X12_43 rfl dX12_joins_81 ?_
        refine v_iload_n C dX12_joins_84 1 rfl ?_
        refine v_iload C dX12_joins_85 4 rfl ?_
        obtain ⟨hi87, hw⟩ := hw
        obtain ⟨w87, e87⟩ : ∃ z : Md, z = tA u0 43 y1 y4 := ⟨_, rfl⟩
        have hw := hw w87 e87
        refine v_iast (ws' := [wX12 E h0 a0 w87].flatten) C 26 rfl hi87 (by rw [e87]; rfl) dX12_joins_87 ?_
        refine v_iload_n C dX12_joins_88 1 rfl ?_
        refine v_if_le (tgt := 125) C dX12_joins_89 (by decide) (fun hc => ?_) (fun hc => ?_)
        · have hw := hw.1 hc
          exact jX12_joins_lv3_125 h0 a0 Q C hret (qX12_joins_lv3_58 Q n) ih w87 y1 y2 y3 y4 hw
        · have hw := hw.2 hc
          refine v_aload_n C dX12_joins_92 0 rfl ?_
          refine v_aload_n C dX12_joins_93 0 rfl ?_
          refine v_get (ci := 12) C inT12 0 41 rfl rfl (by decide) mF_X12_89_X12_41 rfl dX12_joins_94 ?_
          refine v_aload_n C dX12_joins_97 0 rfl ?_
          refine v_get (ci := 12) C inT12 0 43 rfl rfl (by decide) mF_X12_95_X12_43 rfl dX12_joins_98 ?_
          refine v_iload_n C dX12_joins_101 1 rfl ?_
          refine v_iconst (v := 1) C dX12_joins_102 (by decide) ?_
          refine v_isub C dX12_joins_103 ?_
          obtain ⟨hi104, hw⟩ := hw
          refine v_iald C 26 rfl hi104 dX12_joins_104 ?_
          obtain ⟨hi105, hw⟩ := hw
          refine v_iald C 24 rfl hi105 dX12_joins_105 ?_
          refine v_aload_n C dX12_joins_106 0 rfl ?_
          refine v_get (ci := 12) C inT12 0 41 rfl rfl (by decide) mF_X12_89_X12_41 rfl dX12_joins_107 ?_
          refine v_iload C dX12_joins_110 4 rfl ?_
          obtain ⟨hi112, hw⟩ := hw
          refine v_iald C 24 rfl hi112 dX12_joins_112 ?_
          refine v_bipush (v := 30) C dX12_joins_113 (by decide) ?_
          refine v_callFi (st := []) (ci := 12) (qb := 0) C (kX12_isNear h0 a0 _ _ _ _ hw) mM_X12_382 mI_X12 mC_X12_isNear mN_X12_isNear mS_X12_isNear rfl rfl hd_X12_isNear ⟨Nat.le_of_ble_eq_true rfl, Nat.le_of_ble_eq_true rfl⟩ ⟨Nat.le_of_ble_eq_true rfl, Nat.le_of_ble_eq_true rfl⟩ rfl (Nat.le_of_ble_eq_true rfl) dX12_joins_115 (fun r115 v115_0 hw => ?_)
          obtain ⟨h01_115, hw⟩ := hw
          have hw := hw h01_115
          refine v_if_eq (tgt := 125) C dX12_joins_118 (by decide) (fun hc => ?_) (fun hc => ?_)
          · have hw := hw.1 hc
            exact jX12_joins_lv3_125 h0 a0 Q C hret (qX12_joins_lv3_58 Q n) ih v115_0 y1 y2 y3 y4 hw
          · have hw := hw.2 hc
            refine v_iconst (v := 3) C dX12_joins_121 (by decide) ?_
            refine v_goto (tgt := 126) C dX12_joins_122 (by decide) ?_
            exact jX12_joins_lv3_126 h0 a0 Q C hret (qX12_joins_lv3_58 Q n) ih v115_0 y1 y2 y3 y4 3 hw
      · have hw := hw.2 hc
        refine v_goto (tgt := 158) C dX12_joins_77 (by decide) ?_
        refine v_iinc (lv' := [(4, .int (y4 + Int32.ofInt 1)), (0, .ref h0), (1, .int y1), (2, .int y2), (3, .int y3)]) C dX12_joins_158 4 rfl (by decide) rfl ?_
        refine v_goto (tgt := 58) C dX12_joins_161 (by decide) ?_
        refine v_lv C (lv' := [(0, .ref h0), (1, .int y1), (2, .int y2), (3, .int y3), (4, .int (y4 + Int32.ofInt 1))]) [1, 2, 3, 4, 0] rfl ?_
        exact ih u0 y1 y2 y3 (y4 + Int32.ofInt 1) hw
set_option maxHeartbeats 4000000 in
set_option maxRecDepth 100000 in
theorem jX12_joins_lv3_25 {X : VX} {E : VE} {l : Launch} (h0 : Nat) (a0 : Nat → Nat)  (Q : Md → Prop) (C : VC X cX12_joins 6 RX12 (rmL 4 0 0) E l) (hret : RetV X cX12_joins 0 0 (fun (U : Md) => [wX12 E h0 a0 U].flatten) (fun (U : Md) => Q U))  : ∀ (n : Nat), ∀ (u0 : Md) (y4 : Int32), qX12_joins_lv3_25 Q n u0 y4 → VV X 0 0 ([wX12 E h0 a0 u0].flatten) [(0, .ref h0), (4, .int y4)] 25 [] := by
  intro n
  induction n with
  | zero =>
    intro u0 y4 hw
    exact hw.elim
  | succ n ih =>
    intro u0 y4 hw
    unfold qX12_joins_lv3_25 at hw
    refine v_iload C dX12_joins_25 1 rfl ?_
    refine v_aload_n C dX12_joins_27 0 rfl ?_
    refine v_get (ci := 12) C inT12 0 37 rfl rfl (by decide) mF_X12_435_X12_37 rfl dX12_joins_28 ?_
    refine v_icmp_ge (tgt := 54) C dX12_joins_31 (by decide) (fun hc => ?_) (fun hc => ?_)
    · have hw := hw.1 hc
      exact hret _ _ _ _ u0 dX12_joins_54 hw (Nat.le_of_ble_eq_true rfl) (Nat.le_of_ble_eq_true rfl)
    · have hw := hw.2 hc
      refine v_aload_n C dX12_joins_34 0 rfl ?_
      refine v_get (ci := 12) C inT12 0 44 rfl rfl (by decide) mF_X12_98_X12_44 rfl dX12_joins_35 ?_
      refine v_iload C dX12_joins_38 1 rfl ?_
      refine v_aload_n C dX12_joins_40 0 rfl ?_
      refine v_get (ci := 12) C inT12 0 43 rfl rfl (by decide) mF_X12_95_X12_43 rfl dX12_joins_41 ?_
      refine v_iload C dX12_joins_44 1 rfl ?_
      obtain ⟨hi46, hw⟩ := hw
      refine v_iald C 26 rfl hi46 dX12_joins_46 ?_
      obtain ⟨hi47, hw⟩ := hw
      obtain ⟨w47, e47⟩ : ∃ z : Md, z = tA u0 44 y4 (gA u0 43 y4.toNatClampNeg) := ⟨_, rfl⟩
      have hw := hw w47 e47
      refine v_iast (ws' := [wX12 E h0 a0 w47].flatten) C 27 rfl hi47 (by rw [e47]; rfl) dX12_joins_47 ?_
      refine v_iinc (lv' := [(4, .int (y4 + Int32.ofInt 1)), (0, .ref h0)]) C dX12_joins_48 1 rfl (by decide) rfl ?_
      refine v_goto (tgt := 25) C dX12_joins_51 (by decide) ?_
      refine v_lv C (lv' := [(0, .ref h0), (4, .int (y4 + Int32.ofInt 1))]) [1, 0] rfl ?_
      exact ih w47 (y4 + Int32.ofInt 1) hw
set_option maxHeartbeats 4000000 in
set_option maxRecDepth 100000 in
theorem kX12_joins_lv3 {l : Launch} {E : VE} (h0 : Nat) (a0 : Nat → Nat) (u0 : Md) (x1 : Int32) (x2 : Int32) (x3 : Int32) {Q : Md → Prop} (hw : qX12_joins_lv3 u0 x1 x2 x3 Q) : MV l yX12_joins cX12_joins 6 4 0 0 E [.ref h0, .int x1, .int x2, .int x3] ([wX12 E h0 a0 u0].flatten) (fun (U : Md) => [wX12 E h0 a0 U].flatten) (fun (U : Md) => Q U) := by
  refine MV.of (own := RX12) (by decide) rfl (Nat.le_of_ble_eq_true rfl) ?_
  intro X C hini hret
  show VV X 0 0 ([wX12 E h0 a0 u0].flatten) [(0, .ref h0), (1, .int x1), (2, .int x2), (3, .int x3)] 0 []
  unfold qX12_joins_lv3 at hw
  refine v_iload_n C dX12_joins_0 1 rfl ?_
  refine v_aload_n C dX12_joins_1 0 rfl ?_
  refine v_get (ci := 12) C inT12 0 37 rfl rfl (by decide) mF_X12_435_X12_37 rfl dX12_joins_2 ?_
  refine v_icmp_ne (tgt := 55) C dX12_joins_5 (by decide) (fun hc => ?_) (fun hc => ?_)
  · have hw := hw.1 hc
    refine v_iconst (v := 0) C dX12_joins_55 (by decide) ?_
    refine v_istore (lv' := [(4, .int 0), (0, .ref h0), (1, .int x1), (2, .int x2), (3, .int x3)]) C dX12_joins_56 (by decide) rfl ?_
    refine v_lv C (lv' := [(0, .ref h0), (1, .int x1), (2, .int x2), (3, .int x3), (4, .int 0)]) [1, 2, 3, 4, 0] rfl ?_
    obtain ⟨n', hw⟩ := hw
    exact jX12_joins_lv3_58 h0 a0 Q C hret n' u0 x1 x2 x3 0 hw
  · have hw := hw.2 hc
    refine v_iload_n C dX12_joins_8 3 rfl ?_
    refine v_aload_n C dX12_joins_9 0 rfl ?_
    refine v_get (ci := 12) C inT12 0 45 rfl rfl (by decide) mF_X12_438_X12_45 rfl dX12_joins_10 ?_
    refine v_icmp_gt (tgt := 17) C dX12_joins_13 (by decide) (fun hc => ?_) (fun hc => ?_)
    · have hw := hw.1 hc
      refine v_aload_n C dX12_joins_17 0 rfl ?_
      refine v_iload_n C dX12_joins_18 3 rfl ?_
      obtain ⟨w19, e19⟩ : ∃ z : Md, z = sF u0 45 x3 := ⟨_, rfl⟩
      have hw := hw w19 e19
      refine v_put (ci := 12) (ws' := [wX12 E h0 a0 w19].flatten) C tyX12 tyX12_ok nmX12 inT12 0 45 rfl rfl (by decide) mF_X12_438_X12_45 rfl rfl rfl rfl (Nat.le_of_ble_eq_true rfl) (by rw [e19]; rfl) dX12_joins_19 ?_
      refine v_iconst (v := 0) C dX12_joins_22 (by decide) ?_
      refine v_istore (lv' := [(4, .int 0), (0, .ref h0), (1, .int x1), (2, .int x2), (3, .int x3)]) C dX12_joins_23 (by decide) rfl ?_
      refine v_lv C (lv' := [(0, .ref h0), (4, .int 0)]) [1, 0] rfl ?_
      obtain ⟨n', hw⟩ := hw
      exact jX12_joins_lv3_25 h0 a0 Q C hret n' w19 0 hw
    · have hw := hw.2 hc
      exact hret _ _ _ _ u0 dX12_joins_16 hw (Nat.le_of_ble_eq_true rfl) (Nat.le_of_ble_eq_true rfl)
set_option maxHeartbeats 4000000 in
set_option maxRecDepth 100000 in
theorem jX12_joins_lv4_126 {X : VX} {E : VE} {l : Launch} (h0 : Nat) (a0 : Nat → Nat)  (Q : Md → Prop) (C : VC X cX12_joins 6 RX12 (rmL 5 0 0) E l) (hret : RetV X cX12_joins 0 0 (fun (U : Md) => [wX12 E h0 a0 U].flatten) (fun (U : Md) => Q U)) (K58 : Md → Int32 → Int32 → Int32 → Int32 → Prop) (hK58 : ∀ (u0 : Md) (y1 : Int32) (y2 : Int32) (y3 : Int32) (y4 : Int32), K58 u0 y1 y2 y3 y4 → VV X 0 0 ([wX12 E h0 a0 u0].flatten) [(0, .ref h0), (1, .int y1), (2, .int y2), (3, .int y3), (4, .int y4)] 58 []) : ∀ (u0 : Md) (y1 : Int32) (y2 : Int32) (y3 : Int32) (y4 : Int32) (z0 : Int32), qX12_joins_lv4_126 Q K58 u0 y1 y2 y3 y4 z0 → VV X 0 0 ([wX12 E h0 a0 u0].flatten) [(0, .ref h0), (1, .int y1), (2, .int y2), (3, .int y3), (4, .int y4)] 126 [.int z0] := by
  intro u0 y1 y2 y3 y4 z0 hw
  unfold qX12_joins_lv4_126 at hw
  refine v_istore (lv' := [(5, .int z0), (0, .ref h0), (1, .int y1), (2, .int y2), (3, .int y3), (4, .int y4)]) C dX12_joins_126 (by decide) rfl ?_
  refine v_aload_n C dX12_joins_128 1 rfl ?_
  refine v_iload_n C dX12_joins_129 2 rfl ?_
  refine v_iconst (v := 1) C dX12_joins_130 (by decide) ?_
  refine v_iadd C dX12_joins_131 ?_
  refine v_iload_n C dX12_joins_132 3 rfl ?_
  refine v_iconst (v := 1) C dX12_joins_133 (by decide) ?_
  refine v_iload C dX12_joins_134 5 rfl ?_
  refine v_ishl C dX12_joins_136 ?_
  refine v_ior C dX12_joins_137 ?_
  refine v_iload_n C dX12_joins_138 4 rfl ?_
  refine v_aload_n C dX12_joins_139 1 rfl ?_
  refine v_get (ci := 12) C inT12 0 42 rfl rfl (by decide) mF_X12_92_X12_42 rfl dX12_joins_140 ?_
  refine v_bipush (v := 10) C dX12_joins_143 (by decide) ?_
  refine v_iload_n C dX12_joins_145 2 rfl ?_
  refine v_imul C dX12_joins_146 ?_
  refine v_iload C dX12_joins_147 5 rfl ?_
  refine v_iadd C dX12_joins_149 ?_
  obtain ⟨hi150, hw⟩ := hw
  refine v_iald C 25 rfl hi150 dX12_joins_150 ?_
  refine v_iadd C dX12_joins_151 ?_
  refine v_iload C dX12_joins_152 0 rfl ?_
  refine v_iadd C dX12_joins_154 ?_
  refine v_callFv (st := []) (ci := 12) (qb := 0) C (kX12_joins_lv3 h0 a0 _ _ _ _ hw) mM_X12_444 mI_X12 mC_X12_joins mN_X12_joins mS_X12_joins rfl rfl hd_X12_joins ⟨Nat.le_of_ble_eq_true rfl, Nat.le_of_ble_eq_true rfl⟩ ⟨Nat.le_of_ble_eq_true rfl, Nat.le_of_ble_eq_true rfl⟩ rfl (Nat.le_of_ble_eq_true rfl) dX12_joins_155 (fun v155_0 hw => ?_)
  refine v_iinc (lv' := [(4, .int (y4 + Int32.ofInt 1)), (5, .int z0), (0, .ref h0), (1, .int y1), (2, .int y2), (3, .int y3)]) C dX12_joins_158 5 rfl (by decide) rfl ?_
  refine v_goto (tgt := 58) C dX12_joins_161 (by decide) ?_
  refine v_lv C (lv' := [(0, .ref h0), (1, .int y1), (2, .int y2), (3, .int y3), (4, .int (y4 + Int32.ofInt 1))]) [2, 3, 4, 5, 0] rfl ?_
  exact hK58 v155_0 y1 y2 y3 (y4 + Int32.ofInt 1) hw
set_option maxHeartbeats 4000000 in
set_option maxRecDepth 100000 in
theorem jX12_joins_lv4_125 {X : VX} {E : VE} {l : Launch} (h0 : Nat) (a0 : Nat → Nat)  (Q : Md → Prop) (C : VC X cX12_joins 6 RX12 (rmL 5 0 0) E l) (hret : RetV X cX12_joins 0 0 (fun (U : Md) => [wX12 E h0 a0 U].flatten) (fun (U : Md) => Q U)) (K58 : Md → Int32 → Int32 → Int32 → Int32 → Prop) (hK58 : ∀ (u0 : Md) (y1 : Int32) (y2 : Int32) (y3 : Int32) (y4 : Int32), K58 u0 y1 y2 y3 y4 → VV X 0 0 ([wX12 E h0 a0 u0].flatten) [(0, .ref h0), (1, .int y1), (2, .int y2), (3, .int y3), (4, .int y4)] 58 []) : ∀ (u0 : Md) (y1 : Int32) (y2 : Int32) (y3 : Int32) (y4 : Int32), qX12_joins_lv4_125 Q K58 u0 y1 y2 y3 y4 → VV X 0 0 ([wX12 E h0 a0 u0].flatten) [(0, .ref h0), (1, .int y1), (2, .int y2), (3, .int y3), (4, .int y4)] 125 [] := by
  intro u0 y1 y2 y3 y4 hw
  unfold qX12_joins_lv4_125 at hw
  refine v_iconst (v := 0) C dX12_joins_125 (by decide) ?_
  exact jX12_joins_lv4_126 h0 a0 Q C hret K58 hK58 u0 y1 y2 y3 y4 0 hw
set_option maxHeartbeats 4000000 in
set_option maxRecDepth 100000 in
theorem jX12_joins_lv4_58 {X : VX} {E : VE} {l : Launch} (h0 : Nat) (a0 : Nat → Nat)  (Q : Md → Prop) (C : VC X cX12_joins 6 RX12 (rmL 5 0 0) E l) (hret : RetV X cX12_joins 0 0 (fun (U : Md) => [wX12 E h0 a0 U].flatten) (fun (U : Md) => Q U))  : ∀ (n : Nat), ∀ (u0 : Md) (y1 : Int32) (y2 : Int32) (y3 : Int32) (y4 : Int32), qX12_joins_lv4_58 Q n u0 y1 y2 y3 y4 → VV X 0 0 ([wX12 E h0 a0 u0].flatten) [(0, .ref h0), (1, .int y1), (2, .int y2), (3, .int y3), (4, .int y4)] 58 [] := by
  intro n
  induction n with
  | zero =>
    intro u0 y1 y2 y3 y4 hw
    exact hw.elim
  | succ n ih =>
    intro u0 y1 y2 y3 y4 hw
    unfold qX12_joins_lv4_58 at hw
    refine v_iload C dX12_joins_58 4 rfl ?_
    refine v_aload_n C dX12_joins_60 0 rfl ?_
    refine v_get (ci := 12) C inT12 0 40 rfl rfl (by decide) mF_X12_441_X12_40 rfl dX12_joins_61 ?_
    refine v_icmp_ge (tgt := 164) C dX12_joins_64 (by decide) (fun hc => ?_) (fun hc => ?_)
    · have hw := hw.1 hc
      exact hret _ _ _ _ u0 dX12_joins_164 hw (Nat.le_of_ble_eq_true rfl) (Nat.le_of_ble_eq_true rfl)
    · have hw := hw.2 hc
      refine v_iload_n C dX12_joins_67 2 rfl ?_
      refine v_iload C dX12_joins_68 4 rfl ?_
      refine v_ishr C dX12_joins_70 ?_
      refine v_iconst (v := 1) C dX12_joins_71 (by decide) ?_
      refine v_iand C dX12_joins_72 ?_
      refine v_iconst (v := 1) C dX12_joins_73 (by decide) ?_
      refine v_icmp_ne (tgt := 80) C dX12_joins_74 (by decide) (fun hc => ?_) (fun hc => ?_)
      · have hw := hw.1 hc
        refine v_aload_n C dX12_joins_80 0 rfl ?_
        refine v_get (ci := 12) C inT12 0 43 rfl rfl (by decide) mF_X12_95_X12_43 rfl dX12_joins_81 ?_
        refine v_iload_n C dX12_joins_84 1 rfl ?_
        refine v_iload C dX12_joins_85 4 rfl ?_
        obtain ⟨hi87, hw⟩ := hw
        obtain ⟨w87, e87⟩ : ∃ z : Md, z = tA u0 43 y1 y4 := ⟨_, rfl⟩
        have hw := hw w87 e87
        refine v_iast (ws' := [wX12 E h0 a0 w87].flatten) C 26 rfl hi87 (by rw [e87]; rfl) dX12_joins_87 ?_
        refine v_iload_n C dX12_joins_88 1 rfl ?_
        refine v_if_le (tgt := 125) C dX12_joins_89 (by decide) (fun hc => ?_) (fun hc => ?_)
        · have hw := hw.1 hc
          exact jX12_joins_lv4_125 h0 a0 Q C hret (qX12_joins_lv4_58 Q n) ih w87 y1 y2 y3 y4 hw
        · have hw := hw.2 hc
          refine v_aload_n C dX12_joins_92 0 rfl ?_
          refine v_aload_n C dX12_joins_93 0 rfl ?_
          refine v_get (ci := 12) C inT12 0 41 rfl rfl (by decide) mF_X12_89_X12_41 rfl dX12_joins_94 ?_
          refine v_aload_n C dX12_joins_97 0 rfl ?_
          refine v_get (ci := 12) C inT12 0 43 rfl rfl (by decide) mF_X12_95_X12_43 rfl dX12_joins_98 ?_
          refine v_iload_n C dX12_joins_101 1 rfl ?_
          refine v_iconst (v := 1) C dX12_joins_102 (by decide) ?_
          refine v_isub C dX12_joins_103 ?_
          obtain ⟨hi104, hw⟩ := hw
          refine v_iald C 26 rfl hi104 dX12_joins_104 ?_
          obtain ⟨hi105, hw⟩ := hw
          refine v_iald C 24 rfl hi105 dX12_joins_105 ?_
          refine v_aload_n C dX12_joins_106 0 rfl ?_
          refine v_get (ci := 12) C inT12 0 41 rfl rfl (by decide) mF_X12_89_X12_41 rfl dX12_joins_107 ?_
          refine v_iload C dX12_joins_110 4 rfl ?_
          obtain ⟨hi112, hw⟩ := hw
          refine v_iald C 24 rfl hi112 dX12_joins_112 ?_
          refine v_bipush (v := 30) C dX12_joins_113 (by decide) ?_
          refine v_callFi (st := []) (ci := 12) (qb := 0) C (kX12_isNear h0 a0 _ _ _ _ hw) mM_X12_382 mI_X12 mC_X12_isNear mN_X12_isNear mS_X12_isNear rfl rfl hd_X12_isNear ⟨Nat.le_of_ble_eq_true rfl, Nat.le_of_ble_eq_true rfl⟩ ⟨Nat.le_of_ble_eq_true rfl, Nat.le_of_ble_eq_true rfl⟩ rfl (Nat.le_of_ble_eq_true rfl) dX12_joins_115 (fun r115 v115_0 hw => ?_)
          obtain ⟨h01_115, hw⟩ := hw
          have hw := hw h01_115
          refine v_if_eq (tgt := 125) C dX12_joins_118 (by decide) (fun hc => ?_) (fun hc => ?_)
          · have hw := hw.1 hc
            exact jX12_joins_lv4_125 h0 a0 Q C hret (qX12_joins_lv4_58 Q n) ih v115_0 y1 y2 y3 y4 hw
          · have hw := hw.2 hc
            refine v_iconst (v := 3) C dX12_joins_121 (by decide) ?_
            refine v_goto (tgt := 126) C dX12_joins_122 (by decide) ?_
            exact jX12_joins_lv4_126 h0 a0 Q C hret (qX12_joins_lv4_58 Q n) ih v115_0 y1 y2 y3 y4 3 hw
      · have hw := hw.2 hc
        refine v_goto (tgt := 158) C dX12_joins_77 (by decide) ?_
        refine v_iinc (lv' := [(4, .int (y4 + Int32.ofInt 1)), (0, .ref h0), (1, .int y1), (2, .int y2), (3, .int y3)]) C dX12_joins_158 4 rfl (by decide) rfl ?_
        refine v_goto (tgt := 58) C dX12_joins_161 (by decide) ?_
        refine v_lv C (lv' := [(0, .ref h0), (1, .int y1), (2, .int y2), (3, .int y3), (4, .int (y4 + Int32.ofInt 1))]) [1, 2, 3, 4, 0] rfl ?_
        exact ih u0 y1 y2 y3 (y4 + Int32.ofInt 1) hw
set_option maxHeartbeats 4000000 in
set_option maxRecDepth 100000 in
theorem jX12_joins_lv4_25 {X : VX} {E : VE} {l : Launch} (h0 : Nat) (a0 : Nat → Nat)  (Q : Md → Prop) (C : VC X cX12_joins 6 RX12 (rmL 5 0 0) E l) (hret : RetV X cX12_joins 0 0 (fun (U : Md) => [wX12 E h0 a0 U].flatten) (fun (U : Md) => Q U))  : ∀ (n : Nat), ∀ (u0 : Md) (y4 : Int32), qX12_joins_lv4_25 Q n u0 y4 → VV X 0 0 ([wX12 E h0 a0 u0].flatten) [(0, .ref h0), (4, .int y4)] 25 [] := by
  intro n
  induction n with
  | zero =>
    intro u0 y4 hw
    exact hw.elim
  | succ n ih =>
    intro u0 y4 hw
    unfold qX12_joins_lv4_25 at hw
    refine v_iload C dX12_joins_25 1 rfl ?_
    refine v_aload_n C dX12_joins_27 0 rfl ?_
    refine v_get (ci := 12) C inT12 0 37 rfl rfl (by decide) mF_X12_435_X12_37 rfl dX12_joins_28 ?_
    refine v_icmp_ge (tgt := 54) C dX12_joins_31 (by decide) (fun hc => ?_) (fun hc => ?_)
    · have hw := hw.1 hc
      exact hret _ _ _ _ u0 dX12_joins_54 hw (Nat.le_of_ble_eq_true rfl) (Nat.le_of_ble_eq_true rfl)
    · have hw := hw.2 hc
      refine v_aload_n C dX12_joins_34 0 rfl ?_
      refine v_get (ci := 12) C inT12 0 44 rfl rfl (by decide) mF_X12_98_X12_44 rfl dX12_joins_35 ?_
      refine v_iload C dX12_joins_38 1 rfl ?_
      refine v_aload_n C dX12_joins_40 0 rfl ?_
      refine v_get (ci := 12) C inT12 0 43 rfl rfl (by decide) mF_X12_95_X12_43 rfl dX12_joins_41 ?_
      refine v_iload C dX12_joins_44 1 rfl ?_
      obtain ⟨hi46, hw⟩ := hw
      refine v_iald C 26 rfl hi46 dX12_joins_46 ?_
      obtain ⟨hi47, hw⟩ := hw
      obtain ⟨w47, e47⟩ : ∃ z : Md, z = tA u0 44 y4 (gA u0 43 y4.toNatClampNeg) := ⟨_, rfl⟩
      have hw := hw w47 e47
      refine v_iast (ws' := [wX12 E h0 a0 w47].flatten) C 27 rfl hi47 (by rw [e47]; rfl) dX12_joins_47 ?_
      refine v_iinc (lv' := [(4, .int (y4 + Int32.ofInt 1)), (0, .ref h0)]) C dX12_joins_48 1 rfl (by decide) rfl ?_
      refine v_goto (tgt := 25) C dX12_joins_51 (by decide) ?_
      refine v_lv C (lv' := [(0, .ref h0), (4, .int (y4 + Int32.ofInt 1))]) [1, 0] rfl ?_
      exact ih w47 (y4 + Int32.ofInt 1) hw
set_option maxHeartbeats 4000000 in
set_option maxRecDepth 100000 in
theorem kX12_joins_lv4 {l : Launch} {E : VE} (h0 : Nat) (a0 : Nat → Nat) (u0 : Md) (x1 : Int32) (x2 : Int32) (x3 : Int32) {Q : Md → Prop} (hw : qX12_joins_lv4 u0 x1 x2 x3 Q) : MV l yX12_joins cX12_joins 6 5 0 0 E [.ref h0, .int x1, .int x2, .int x3] ([wX12 E h0 a0 u0].flatten) (fun (U : Md) => [wX12 E h0 a0 U].flatten) (fun (U : Md) => Q U) := by
  refine MV.of (own := RX12) (by decide) rfl (Nat.le_of_ble_eq_true rfl) ?_
  intro X C hini hret
  show VV X 0 0 ([wX12 E h0 a0 u0].flatten) [(0, .ref h0), (1, .int x1), (2, .int x2), (3, .int x3)] 0 []
  unfold qX12_joins_lv4 at hw
  refine v_iload_n C dX12_joins_0 1 rfl ?_
  refine v_aload_n C dX12_joins_1 0 rfl ?_
  refine v_get (ci := 12) C inT12 0 37 rfl rfl (by decide) mF_X12_435_X12_37 rfl dX12_joins_2 ?_
  refine v_icmp_ne (tgt := 55) C dX12_joins_5 (by decide) (fun hc => ?_) (fun hc => ?_)
  · have hw := hw.1 hc
    refine v_iconst (v := 0) C dX12_joins_55 (by decide) ?_
    refine v_istore (lv' := [(4, .int 0), (0, .ref h0), (1, .int x1), (2, .int x2), (3, .int x3)]) C dX12_joins_56 (by decide) rfl ?_
    refine v_lv C (lv' := [(0, .ref h0), (1, .int x1), (2, .int x2), (3, .int x3), (4, .int 0)]) [1, 2, 3, 4, 0] rfl ?_
    obtain ⟨n', hw⟩ := hw
    exact jX12_joins_lv4_58 h0 a0 Q C hret n' u0 x1 x2 x3 0 hw
  · have hw := hw.2 hc
    refine v_iload_n C dX12_joins_8 3 rfl ?_
    refine v_aload_n C dX12_joins_9 0 rfl ?_
    refine v_get (ci := 12) C inT12 0 45 rfl rfl (by decide) mF_X12_438_X12_45 rfl dX12_joins_10 ?_
    refine v_icmp_gt (tgt := 17) C dX12_joins_13 (by decide) (fun hc => ?_) (fun hc => ?_)
    · have hw := hw.1 hc
      refine v_aload_n C dX12_joins_17 0 rfl ?_
      refine v_iload_n C dX12_joins_18 3 rfl ?_
      obtain ⟨w19, e19⟩ : ∃ z : Md, z = sF u0 45 x3 := ⟨_, rfl⟩
      have hw := hw w19 e19
      refine v_put (ci := 12) (ws' := [wX12 E h0 a0 w19].flatten) C tyX12 tyX12_ok nmX12 inT12 0 45 rfl rfl (by decide) mF_X12_438_X12_45 rfl rfl rfl rfl (Nat.le_of_ble_eq_true rfl) (by rw [e19]; rfl) dX12_joins_19 ?_
      refine v_iconst (v := 0) C dX12_joins_22 (by decide) ?_
      refine v_istore (lv' := [(4, .int 0), (0, .ref h0), (1, .int x1), (2, .int x2), (3, .int x3)]) C dX12_joins_23 (by decide) rfl ?_
      refine v_lv C (lv' := [(0, .ref h0), (4, .int 0)]) [1, 0] rfl ?_
      obtain ⟨n', hw⟩ := hw
      exact jX12_joins_lv4_25 h0 a0 Q C hret n' w19 0 hw
    · have hw := hw.2 hc
      exact hret _ _ _ _ u0 dX12_joins_16 hw (Nat.le_of_ble_eq_true rfl) (Nat.le_of_ble_eq_true rfl)
set_option maxHeartbeats 4000000 in
set_option maxRecDepth 100000 in
theorem jX12_joins_lv5_126 {X : VX} {E : VE} {l : Launch} (h0 : Nat) (a0 : Nat → Nat)  (Q : Md → Prop) (C : VC X cX12_joins 6 RX12 (rmL 6 0 0) E l) (hret : RetV X cX12_joins 0 0 (fun (U : Md) => [wX12 E h0 a0 U].flatten) (fun (U : Md) => Q U)) (K58 : Md → Int32 → Int32 → Int32 → Int32 → Prop) (hK58 : ∀ (u0 : Md) (y1 : Int32) (y2 : Int32) (y3 : Int32) (y4 : Int32), K58 u0 y1 y2 y3 y4 → VV X 0 0 ([wX12 E h0 a0 u0].flatten) [(0, .ref h0), (1, .int y1), (2, .int y2), (3, .int y3), (4, .int y4)] 58 []) : ∀ (u0 : Md) (y1 : Int32) (y2 : Int32) (y3 : Int32) (y4 : Int32) (z0 : Int32), qX12_joins_lv5_126 Q K58 u0 y1 y2 y3 y4 z0 → VV X 0 0 ([wX12 E h0 a0 u0].flatten) [(0, .ref h0), (1, .int y1), (2, .int y2), (3, .int y3), (4, .int y4)] 126 [.int z0] := by
  intro u0 y1 y2 y3 y4 z0 hw
  unfold qX12_joins_lv5_126 at hw
  refine v_istore (lv' := [(5, .int z0), (0, .ref h0), (1, .int y1), (2, .int y2), (3, .int y3), (4, .int y4)]) C dX12_joins_126 (by decide) rfl ?_
  refine v_aload_n C dX12_joins_128 1 rfl ?_
  refine v_iload_n C dX12_joins_129 2 rfl ?_
  refine v_iconst (v := 1) C dX12_joins_130 (by decide) ?_
  refine v_iadd C dX12_joins_131 ?_
  refine v_iload_n C dX12_joins_132 3 rfl ?_
  refine v_iconst (v := 1) C dX12_joins_133 (by decide) ?_
  refine v_iload C dX12_joins_134 5 rfl ?_
  refine v_ishl C dX12_joins_136 ?_
  refine v_ior C dX12_joins_137 ?_
  refine v_iload_n C dX12_joins_138 4 rfl ?_
  refine v_aload_n C dX12_joins_139 1 rfl ?_
  refine v_get (ci := 12) C inT12 0 42 rfl rfl (by decide) mF_X12_92_X12_42 rfl dX12_joins_140 ?_
  refine v_bipush (v := 10) C dX12_joins_143 (by decide) ?_
  refine v_iload_n C dX12_joins_145 2 rfl ?_
  refine v_imul C dX12_joins_146 ?_
  refine v_iload C dX12_joins_147 5 rfl ?_
  refine v_iadd C dX12_joins_149 ?_
  obtain ⟨hi150, hw⟩ := hw
  refine v_iald C 25 rfl hi150 dX12_joins_150 ?_
  refine v_iadd C dX12_joins_151 ?_
  refine v_iload C dX12_joins_152 0 rfl ?_
  refine v_iadd C dX12_joins_154 ?_
  refine v_callFv (st := []) (ci := 12) (qb := 0) C (kX12_joins_lv4 h0 a0 _ _ _ _ hw) mM_X12_444 mI_X12 mC_X12_joins mN_X12_joins mS_X12_joins rfl rfl hd_X12_joins ⟨Nat.le_of_ble_eq_true rfl, Nat.le_of_ble_eq_true rfl⟩ ⟨Nat.le_of_ble_eq_true rfl, Nat.le_of_ble_eq_true rfl⟩ rfl (Nat.le_of_ble_eq_true rfl) dX12_joins_155 (fun v155_0 hw => ?_)
  refine v_iinc (lv' := [(4, .int (y4 + Int32.ofInt 1)), (5, .int z0), (0, .ref h0), (1, .int y1), (2, .int y2), (3, .int y3)]) C dX12_joins_158 5 rfl (by decide) rfl ?_
  refine v_goto (tgt := 58) C dX12_joins_161 (by decide) ?_
  refine v_lv C (lv' := [(0, .ref h0), (1, .int y1), (2, .int y2), (3, .int y3), (4, .int (y4 + Int32.ofInt 1))]) [2, 3, 4, 5, 0] rfl ?_
  exact hK58 v155_0 y1 y2 y3 (y4 + Int32.ofInt 1) hw
set_option maxHeartbeats 4000000 in
set_option maxRecDepth 100000 in
theorem jX12_joins_lv5_125 {X : VX} {E : VE} {l : Launch} (h0 : Nat) (a0 : Nat → Nat)  (Q : Md → Prop) (C : VC X cX12_joins 6 RX12 (rmL 6 0 0) E l) (hret : RetV X cX12_joins 0 0 (fun (U : Md) => [wX12 E h0 a0 U].flatten) (fun (U : Md) => Q U)) (K58 : Md → Int32 → Int32 → Int32 → Int32 → Prop) (hK58 : ∀ (u0 : Md) (y1 : Int32) (y2 : Int32) (y3 : Int32) (y4 : Int32), K58 u0 y1 y2 y3 y4 → VV X 0 0 ([wX12 E h0 a0 u0].flatten) [(0, .ref h0), (1, .int y1), (2, .int y2), (3, .int y3), (4, .int y4)] 58 []) : ∀ (u0 : Md) (y1 : Int32) (y2 : Int32) (y3 : Int32) (y4 : Int32), qX12_joins_lv5_125 Q K58 u0 y1 y2 y3 y4 → VV X 0 0 ([wX12 E h0 a0 u0].flatten) [(0, .ref h0), (1, .int y1), (2, .int y2), (3, .int y3), (4, .int y4)] 125 [] := by
  intro u0 y1 y2 y3 y4 hw
  unfold qX12_joins_lv5_125 at hw
  refine v_iconst (v := 0) C dX12_joins_125 (by decide) ?_
  exact jX12_joins_lv5_126 h0 a0 Q C hret K58 hK58 u0 y1 y2 y3 y4 0 hw
set_option maxHeartbeats 4000000 in
set_option maxRecDepth 100000 in
theorem jX12_joins_lv5_58 {X : VX} {E : VE} {l : Launch} (h0 : Nat) (a0 : Nat → Nat)  (Q : Md → Prop) (C : VC X cX12_joins 6 RX12 (rmL 6 0 0) E l) (hret : RetV X cX12_joins 0 0 (fun (U : Md) => [wX12 E h0 a0 U].flatten) (fun (U : Md) => Q U))  : ∀ (n : Nat), ∀ (u0 : Md) (y1 : Int32) (y2 : Int32) (y3 : Int32) (y4 : Int32), qX12_joins_lv5_58 Q n u0 y1 y2 y3 y4 → VV X 0 0 ([wX12 E h0 a0 u0].flatten) [(0, .ref h0), (1, .int y1), (2, .int y2), (3, .int y3), (4, .int y4)] 58 [] := by
  intro n
  induction n with
  | zero =>
    intro u0 y1 y2 y3 y4 hw
    exact hw.elim
  | succ n ih =>
    intro u0 y1 y2 y3 y4 hw
    unfold qX12_joins_lv5_58 at hw
    refine v_iload C dX12_joins_58 4 rfl ?_
    refine v_aload_n C dX12_joins_60 0 rfl ?_
    refine v_get (ci := 12) C inT12 0 40 rfl rfl (by decide) mF_X12_441_X12_40 rfl dX12_joins_61 ?_
    refine v_icmp_ge (tgt := 164) C dX12_joins_64 (by decide) (fun hc => ?_) (fun hc => ?_)
    · have hw := hw.1 hc
      exact hret _ _ _ _ u0 dX12_joins_164 hw (Nat.le_of_ble_eq_true rfl) (Nat.le_of_ble_eq_true rfl)
    · have hw := hw.2 hc
      refine v_iload_n C dX12_joins_67 2 rfl ?_
      refine v_iload C dX12_joins_68 4 rfl ?_
      refine v_ishr C dX12_joins_70 ?_
      refine v_iconst (v := 1) C dX12_joins_71 (by decide) ?_
      refine v_iand C dX12_joins_72 ?_
      refine v_iconst (v := 1) C dX12_joins_73 (by decide) ?_
      refine v_icmp_ne (tgt := 80) C dX12_joins_74 (by decide) (fun hc => ?_) (fun hc => ?_)
      · have hw := hw.1 hc
        refine v_aload_n C dX12_joins_80 0 rfl ?_
        refine v_get (ci := 12) C inT12 0 43 rfl rfl (by decide) mF_X12_95_X12_43 rfl dX12_joins_81 ?_
        refine v_iload_n C dX12_joins_84 1 rfl ?_
        refine v_iload C dX12_joins_85 4 rfl ?_
        obtain ⟨hi87, hw⟩ := hw
        obtain ⟨w87, e87⟩ : ∃ z : Md, z = tA u0 43 y1 y4 := ⟨_, rfl⟩
        have hw := hw w87 e87
        refine v_iast (ws' := [wX12 E h0 a0 w87].flatten) C 26 rfl hi87 (by rw [e87]; rfl) dX12_joins_87 ?_
        refine v_iload_n C dX12_joins_88 1 rfl ?_
        refine v_if_le (tgt := 125) C dX12_joins_89 (by decide) (fun hc => ?_) (fun hc => ?_)
        · have hw := hw.1 hc
          exact jX12_joins_lv5_125 h0 a0 Q C hret (qX12_joins_lv5_58 Q n) ih w87 y1 y2 y3 y4 hw
        · have hw := hw.2 hc
          refine v_aload_n C dX12_joins_92 0 rfl ?_
          refine v_aload_n C dX12_joins_93 0 rfl ?_
          refine v_get (ci := 12) C inT12 0 41 rfl rfl (by decide) mF_X12_89_X12_41 rfl dX12_joins_94 ?_
          refine v_aload_n C dX12_joins_97 0 rfl ?_
          refine v_get (ci := 12) C inT12 0 43 rfl rfl (by decide) mF_X12_95_X12_43 rfl dX12_joins_98 ?_
          refine v_iload_n C dX12_joins_101 1 rfl ?_
          refine v_iconst (v := 1) C dX12_joins_102 (by decide) ?_
          refine v_isub C dX12_joins_103 ?_
          obtain ⟨hi104, hw⟩ := hw
          refine v_iald C 26 rfl hi104 dX12_joins_104 ?_
          obtain ⟨hi105, hw⟩ := hw
          refine v_iald C 24 rfl hi105 dX12_joins_105 ?_
          refine v_aload_n C dX12_joins_106 0 rfl ?_
          refine v_get (ci := 12) C inT12 0 41 rfl rfl (by decide) mF_X12_89_X12_41 rfl dX12_joins_107 ?_
          refine v_iload C dX12_joins_110 4 rfl ?_
          obtain ⟨hi112, hw⟩ := hw
          refine v_iald C 24 rfl hi112 dX12_joins_112 ?_
          refine v_bipush (v := 30) C dX12_joins_113 (by decide) ?_
          refine v_callFi (st := []) (ci := 12) (qb := 0) C (kX12_isNear h0 a0 _ _ _ _ hw) mM_X12_382 mI_X12 mC_X12_isNear mN_X12_isNear mS_X12_isNear rfl rfl hd_X12_isNear ⟨Nat.le_of_ble_eq_true rfl, Nat.le_of_ble_eq_true rfl⟩ ⟨Nat.le_of_ble_eq_true rfl, Nat.le_of_ble_eq_true rfl⟩ rfl (Nat.le_of_ble_eq_true rfl) dX12_joins_115 (fun r115 v115_0 hw => ?_)
          obtain ⟨h01_115, hw⟩ := hw
          have hw := hw h01_115
          refine v_if_eq (tgt := 125) C dX12_joins_118 (by decide) (fun hc => ?_) (fun hc => ?_)
          · have hw := hw.1 hc
            exact jX12_joins_lv5_125 h0 a0 Q C hret (qX12_joins_lv5_58 Q n) ih v115_0 y1 y2 y3 y4 hw
          · have hw := hw.2 hc
            refine v_iconst (v := 3) C dX12_joins_121 (by decide) ?_
            refine v_goto (tgt := 126) C dX12_joins_122 (by decide) ?_
            exact jX12_joins_lv5_126 h0 a0 Q C hret (qX12_joins_lv5_58 Q n) ih v115_0 y1 y2 y3 y4 3 hw
      · have hw := hw.2 hc
        refine v_goto (tgt := 158) C dX12_joins_77 (by decide) ?_
        refine v_iinc (lv' := [(4, .int (y4 + Int32.ofInt 1)), (0, .ref h0), (1, .int y1), (2, .int y2), (3, .int y3)]) C dX12_joins_158 4 rfl (by decide) rfl ?_
        refine v_goto (tgt := 58) C dX12_joins_161 (by decide) ?_
        refine v_lv C (lv' := [(0, .ref h0), (1, .int y1), (2, .int y2), (3, .int y3), (4, .int (y4 + Int32.ofInt 1))]) [1, 2, 3, 4, 0] rfl ?_
        exact ih u0 y1 y2 y3 (y4 + Int32.ofInt 1) hw
set_option maxHeartbeats 4000000 in
set_option maxRecDepth 100000 in
theorem jX12_joins_lv5_25 {X : VX} {E : VE} {l : Launch} (h0 : Nat) (a0 : Nat → Nat)  (Q : Md → Prop) (C : VC X cX12_joins 6 RX12 (rmL 6 0 0) E l) (hret : RetV X cX12_joins 0 0 (fun (U : Md) => [wX12 E h0 a0 U].flatten) (fun (U : Md) => Q U))  : ∀ (n : Nat), ∀ (u0 : Md) (y4 : Int32), qX12_joins_lv5_25 Q n u0 y4 → VV X 0 0 ([wX12 E h0 a0 u0].flatten) [(0, .ref h0), (4, .int y4)] 25 [] := by
  intro n
  induction n with
  | zero =>
    intro u0 y4 hw
    exact hw.elim
  | succ n ih =>
    intro u0 y4 hw
    unfold qX12_joins_lv5_25 at hw
    refine v_iload C dX12_joins_25 1 rfl ?_
    refine v_aload_n C dX12_joins_27 0 rfl ?_
    refine v_get (ci := 12) C inT12 0 37 rfl rfl (by decide) mF_X12_435_X12_37 rfl dX12_joins_28 ?_
    refine v_icmp_ge (tgt := 54) C dX12_joins_31 (by decide) (fun hc => ?_) (fun hc => ?_)
    · have hw := hw.1 hc
      exact hret _ _ _ _ u0 dX12_joins_54 hw (Nat.le_of_ble_eq_true rfl) (Nat.le_of_ble_eq_true rfl)
    · have hw := hw.2 hc
      refine v_aload_n C dX12_joins_34 0 rfl ?_
      refine v_get (ci := 12) C inT12 0 44 rfl rfl (by decide) mF_X12_98_X12_44 rfl dX12_joins_35 ?_
      refine v_iload C dX12_joins_38 1 rfl ?_
      refine v_aload_n C dX12_joins_40 0 rfl ?_
      refine v_get (ci := 12) C inT12 0 43 rfl rfl (by decide) mF_X12_95_X12_43 rfl dX12_joins_41 ?_
      refine v_iload C dX12_joins_44 1 rfl ?_
      obtain ⟨hi46, hw⟩ := hw
      refine v_iald C 26 rfl hi46 dX12_joins_46 ?_
      obtain ⟨hi47, hw⟩ := hw
      obtain ⟨w47, e47⟩ : ∃ z : Md, z = tA u0 44 y4 (gA u0 43 y4.toNatClampNeg) := ⟨_, rfl⟩
      have hw := hw w47 e47
      refine v_iast (ws' := [wX12 E h0 a0 w47].flatten) C 27 rfl hi47 (by rw [e47]; rfl) dX12_joins_47 ?_
      refine v_iinc (lv' := [(4, .int (y4 + Int32.ofInt 1)), (0, .ref h0)]) C dX12_joins_48 1 rfl (by decide) rfl ?_
      refine v_goto (tgt := 25) C dX12_joins_51 (by decide) ?_
      refine v_lv C (lv' := [(0, .ref h0), (4, .int (y4 + Int32.ofInt 1))]) [1, 0] rfl ?_
      exact ih w47 (y4 + Int32.ofInt 1) hw
set_option maxHeartbeats 4000000 in
set_option maxRecDepth 100000 in
theorem kX12_joins_lv5 {l : Launch} {E : VE} (h0 : Nat) (a0 : Nat → Nat) (u0 : Md) (x1 : Int32) (x2 : Int32) (x3 : Int32) {Q : Md → Prop} (hw : qX12_joins_lv5 u0 x1 x2 x3 Q) : MV l yX12_joins cX12_joins 6 6 0 0 E [.ref h0, .int x1, .int x2, .int x3] ([wX12 E h0 a0 u0].flatten) (fun (U : Md) => [wX12 E h0 a0 U].flatten) (fun (U : Md) => Q U) := by
  refine MV.of (own := RX12) (by decide) rfl (Nat.le_of_ble_eq_true rfl) ?_
  intro X C hini hret
  show VV X 0 0 ([wX12 E h0 a0 u0].flatten) [(0, .ref h0), (1, .int x1), (2, .int x2), (3, .int x3)] 0 []
  unfold qX12_joins_lv5 at hw
  refine v_iload_n C dX12_joins_0 1 rfl ?_
  refine v_aload_n C dX12_joins_1 0 rfl ?_
  refine v_get (ci := 12) C inT12 0 37 rfl rfl (by decide) mF_X12_435_X12_37 rfl dX12_joins_2 ?_
  refine v_icmp_ne (tgt := 55) C dX12_joins_5 (by decide) (fun hc => ?_) (fun hc => ?_)
  · have hw := hw.1 hc
    refine v_iconst (v := 0) C dX12_joins_55 (by decide) ?_
    refine v_istore (lv' := [(4, .int 0), (0, .ref h0), (1, .int x1), (2, .int x2), (3, .int x3)]) C dX12_joins_56 (by decide) rfl ?_
    refine v_lv C (lv' := [(0, .ref h0), (1, .int x1), (2, .int x2), (3, .int x3), (4, .int 0)]) [1, 2, 3, 4, 0] rfl ?_
    obtain ⟨n', hw⟩ := hw
    exact jX12_joins_lv5_58 h0 a0 Q C hret n' u0 x1 x2 x3 0 hw
  · have hw := hw.2 hc
    refine v_iload_n C dX12_joins_8 3 rfl ?_
    refine v_aload_n C dX12_joins_9 0 rfl ?_
    refine v_get (ci := 12) C inT12 0 45 rfl rfl (by decide) mF_X12_438_X12_45 rfl dX12_joins_10 ?_
    refine v_icmp_gt (tgt := 17) C dX12_joins_13 (by decide) (fun hc => ?_) (fun hc => ?_)
    · have hw := hw.1 hc
      refine v_aload_n C dX12_joins_17 0 rfl ?_
      refine v_iload_n C dX12_joins_18 3 rfl ?_
      obtain ⟨w19, e19⟩ : ∃ z : Md, z = sF u0 45 x3 := ⟨_, rfl⟩
      have hw := hw w19 e19
      refine v_put (ci := 12) (ws' := [wX12 E h0 a0 w19].flatten) C tyX12 tyX12_ok nmX12 inT12 0 45 rfl rfl (by decide) mF_X12_438_X12_45 rfl rfl rfl rfl (Nat.le_of_ble_eq_true rfl) (by rw [e19]; rfl) dX12_joins_19 ?_
      refine v_iconst (v := 0) C dX12_joins_22 (by decide) ?_
      refine v_istore (lv' := [(4, .int 0), (0, .ref h0), (1, .int x1), (2, .int x2), (3, .int x3)]) C dX12_joins_23 (by decide) rfl ?_
      refine v_lv C (lv' := [(0, .ref h0), (4, .int 0)]) [1, 0] rfl ?_
      obtain ⟨n', hw⟩ := hw
      exact jX12_joins_lv5_25 h0 a0 Q C hret n' w19 0 hw
    · have hw := hw.2 hc
      exact hret _ _ _ _ u0 dX12_joins_16 hw (Nat.le_of_ble_eq_true rfl) (Nat.le_of_ble_eq_true rfl)
set_option maxHeartbeats 4000000 in
set_option maxRecDepth 100000 in
theorem jX12_joins_lv6_126 {X : VX} {E : VE} {l : Launch} (h0 : Nat) (a0 : Nat → Nat)  (Q : Md → Prop) (C : VC X cX12_joins 6 RX12 (rmL 7 0 0) E l) (hret : RetV X cX12_joins 0 0 (fun (U : Md) => [wX12 E h0 a0 U].flatten) (fun (U : Md) => Q U)) (K58 : Md → Int32 → Int32 → Int32 → Int32 → Prop) (hK58 : ∀ (u0 : Md) (y1 : Int32) (y2 : Int32) (y3 : Int32) (y4 : Int32), K58 u0 y1 y2 y3 y4 → VV X 0 0 ([wX12 E h0 a0 u0].flatten) [(0, .ref h0), (1, .int y1), (2, .int y2), (3, .int y3), (4, .int y4)] 58 []) : ∀ (u0 : Md) (y1 : Int32) (y2 : Int32) (y3 : Int32) (y4 : Int32) (z0 : Int32), qX12_joins_lv6_126 Q K58 u0 y1 y2 y3 y4 z0 → VV X 0 0 ([wX12 E h0 a0 u0].flatten) [(0, .ref h0), (1, .int y1), (2, .int y2), (3, .int y3), (4, .int y4)] 126 [.int z0] := by
  intro u0 y1 y2 y3 y4 z0 hw
  unfold qX12_joins_lv6_126 at hw
  refine v_istore (lv' := [(5, .int z0), (0, .ref h0), (1, .int y1), (2, .int y2), (3, .int y3), (4, .int y4)]) C dX12_joins_126 (by decide) rfl ?_
  refine v_aload_n C dX12_joins_128 1 rfl ?_
  refine v_iload_n C dX12_joins_129 2 rfl ?_
  refine v_iconst (v := 1) C dX12_joins_130 (by decide) ?_
  refine v_iadd C dX12_joins_131 ?_
  refine v_iload_n C dX12_joins_132 3 rfl ?_
  refine v_iconst (v := 1) C dX12_joins_133 (by decide) ?_
  refine v_iload C dX12_joins_134 5 rfl ?_
  refine v_ishl C dX12_joins_136 ?_
  refine v_ior C dX12_joins_137 ?_
  refine v_iload_n C dX12_joins_138 4 rfl ?_
  refine v_aload_n C dX12_joins_139 1 rfl ?_
  refine v_get (ci := 12) C inT12 0 42 rfl rfl (by decide) mF_X12_92_X12_42 rfl dX12_joins_140 ?_
  refine v_bipush (v := 10) C dX12_joins_143 (by decide) ?_
  refine v_iload_n C dX12_joins_145 2 rfl ?_
  refine v_imul C dX12_joins_146 ?_
  refine v_iload C dX12_joins_147 5 rfl ?_
  refine v_iadd C dX12_joins_149 ?_
  obtain ⟨hi150, hw⟩ := hw
  refine v_iald C 25 rfl hi150 dX12_joins_150 ?_
  refine v_iadd C dX12_joins_151 ?_
  refine v_iload C dX12_joins_152 0 rfl ?_
  refine v_iadd C dX12_joins_154 ?_
  refine v_callFv (st := []) (ci := 12) (qb := 0) C (kX12_joins_lv5 h0 a0 _ _ _ _ hw) mM_X12_444 mI_X12 mC_X12_joins mN_X12_joins mS_X12_joins rfl rfl hd_X12_joins ⟨Nat.le_of_ble_eq_true rfl, Nat.le_of_ble_eq_true rfl⟩ ⟨Nat.le_of_ble_eq_true rfl, Nat.le_of_ble_eq_true rfl⟩ rfl (Nat.le_of_ble_eq_true rfl) dX12_joins_155 (fun v155_0 hw => ?_)
  refine v_iinc (lv' := [(4, .int (y4 + Int32.ofInt 1)), (5, .int z0), (0, .ref h0), (1, .int y1), (2, .int y2), (3, .int y3)]) C dX12_joins_158 5 rfl (by decide) rfl ?_
  refine v_goto (tgt := 58) C dX12_joins_161 (by decide) ?_
  refine v_lv C (lv' := [(0, .ref h0), (1, .int y1), (2, .int y2), (3, .int y3), (4, .int (y4 + Int32.ofInt 1))]) [2, 3, 4, 5, 0] rfl ?_
  exact hK58 v155_0 y1 y2 y3 (y4 + Int32.ofInt 1) hw
set_option maxHeartbeats 4000000 in
set_option maxRecDepth 100000 in
theorem jX12_joins_lv6_125 {X : VX} {E : VE} {l : Launch} (h0 : Nat) (a0 : Nat → Nat)  (Q : Md → Prop) (C : VC X cX12_joins 6 RX12 (rmL 7 0 0) E l) (hret : RetV X cX12_joins 0 0 (fun (U : Md) => [wX12 E h0 a0 U].flatten) (fun (U : Md) => Q U)) (K58 : Md → Int32 → Int32 → Int32 → Int32 → Prop) (hK58 : ∀ (u0 : Md) (y1 : Int32) (y2 : Int32) (y3 : Int32) (y4 : Int32), K58 u0 y1 y2 y3 y4 → VV X 0 0 ([wX12 E h0 a0 u0].flatten) [(0, .ref h0), (1, .int y1), (2, .int y2), (3, .int y3), (4, .int y4)] 58 []) : ∀ (u0 : Md) (y1 : Int32) (y2 : Int32) (y3 : Int32) (y4 : Int32), qX12_joins_lv6_125 Q K58 u0 y1 y2 y3 y4 → VV X 0 0 ([wX12 E h0 a0 u0].flatten) [(0, .ref h0), (1, .int y1), (2, .int y2), (3, .int y3), (4, .int y4)] 125 [] := by
  intro u0 y1 y2 y3 y4 hw
  unfold qX12_joins_lv6_125 at hw
  refine v_iconst (v := 0) C dX12_joins_125 (by decide) ?_
  exact jX12_joins_lv6_126 h0 a0 Q C hret K58 hK58 u0 y1 y2 y3 y4 0 hw
set_option maxHeartbeats 4000000 in
set_option maxRecDepth 100000 in
theorem jX12_joins_lv6_58 {X : VX} {E : VE} {l : Launch} (h0 : Nat) (a0 : Nat → Nat)  (Q : Md → Prop) (C : VC X cX12_joins 6 RX12 (rmL 7 0 0) E l) (hret : RetV X cX12_joins 0 0 (fun (U : Md) => [wX12 E h0 a0 U].flatten) (fun (U : Md) => Q U))  : ∀ (n : Nat), ∀ (u0 : Md) (y1 : Int32) (y2 : Int32) (y3 : Int32) (y4 : Int32), qX12_joins_lv6_58 Q n u0 y1 y2 y3 y4 → VV X 0 0 ([wX12 E h0 a0 u0].flatten) [(0, .ref h0), (1, .int y1), (2, .int y2), (3, .int y3), (4, .int y4)] 58 [] := by
  intro n
  induction n with
  | zero =>
    intro u0 y1 y2 y3 y4 hw
    exact hw.elim
  | succ n ih =>
    intro u0 y1 y2 y3 y4 hw
    unfold qX12_joins_lv6_58 at hw
    refine v_iload C dX12_joins_58 4 rfl ?_
    refine v_aload_n C dX12_joins_60 0 rfl ?_
    refine v_get (ci := 12) C inT12 0 40 rfl rfl (by decide) mF_X12_441_X12_40 rfl dX12_joins_61 ?_
    refine v_icmp_ge (tgt := 164) C dX12_joins_64 (by decide) (fun hc => ?_) (fun hc => ?_)
    · have hw := hw.1 hc
      exact hret _ _ _ _ u0 dX12_joins_164 hw (Nat.le_of_ble_eq_true rfl) (Nat.le_of_ble_eq_true rfl)
    · have hw := hw.2 hc
      refine v_iload_n C dX12_joins_67 2 rfl ?_
      refine v_iload C dX12_joins_68 4 rfl ?_
      refine v_ishr C dX12_joins_70 ?_
      refine v_iconst (v := 1) C dX12_joins_71 (by decide) ?_
      refine v_iand C dX12_joins_72 ?_
      refine v_iconst (v := 1) C dX12_joins_73 (by decide) ?_
      refine v_icmp_ne (tgt := 80) C dX12_joins_74 (by decide) (fun hc => ?_) (fun hc => ?_)
      · have hw := hw.1 hc
        refine v_aload_n C dX12_joins_80 0 rfl ?_
        refine v_get (ci := 12) C inT12 0 43 rfl rfl (by decide) mF_X12_95_X12_43 rfl dX12_joins_81 ?_
        refine v_iload_n C dX12_joins_84 1 rfl ?_
        refine v_iload C dX12_joins_85 4 rfl ?_
        obtain ⟨hi87, hw⟩ := hw
        obtain ⟨w87, e87⟩ : ∃ z : Md, z = tA u0 43 y1 y4 := ⟨_, rfl⟩
        have hw := hw w87 e87
        refine v_iast (ws' := [wX12 E h0 a0 w87].flatten) C 26 rfl hi87 (by rw [e87]; rfl) dX12_joins_87 ?_
        refine v_iload_n C dX12_joins_88 1 rfl ?_
        refine v_if_le (tgt := 125) C dX12_joins_89 (by decide) (fun hc => ?_) (fun hc => ?_)
        · have hw := hw.1 hc
          exact jX12_joins_lv6_125 h0 a0 Q C hret (qX12_joins_lv6_58 Q n) ih w87 y1 y2 y3 y4 hw
        · have hw := hw.2 hc
          refine v_aload_n C dX12_joins_92 0 rfl ?_
          refine v_aload_n C dX12_joins_93 0 rfl ?_
          refine v_get (ci := 12) C inT12 0 41 rfl rfl (by decide) mF_X12_89_X12_41 rfl dX12_joins_94 ?_
          refine v_aload_n C dX12_joins_97 0 rfl ?_
          refine v_get (ci := 12) C inT12 0 43 rfl rfl (by decide) mF_X12_95_X12_43 rfl dX12_joins_98 ?_
          refine v_iload_n C dX12_joins_101 1 rfl ?_
          refine v_iconst (v := 1) C dX12_joins_102 (by decide) ?_
          refine v_isub C dX12_joins_103 ?_
          obtain ⟨hi104, hw⟩ := hw
          refine v_iald C 26 rfl hi104 dX12_joins_104 ?_
          obtain ⟨hi105, hw⟩ := hw
          refine v_iald C 24 rfl hi105 dX12_joins_105 ?_
          refine v_aload_n C dX12_joins_106 0 rfl ?_
          refine v_get (ci := 12) C inT12 0 41 rfl rfl (by decide) mF_X12_89_X12_41 rfl dX12_joins_107 ?_
          refine v_iload C dX12_joins_110 4 rfl ?_
          obtain ⟨hi112, hw⟩ := hw
          refine v_iald C 24 rfl hi112 dX12_joins_112 ?_
          refine v_bipush (v := 30) C dX12_joins_113 (by decide) ?_
          refine v_callFi (st := []) (ci := 12) (qb := 0) C (kX12_isNear h0 a0 _ _ _ _ hw) mM_X12_382 mI_X12 mC_X12_isNear mN_X12_isNear mS_X12_isNear rfl rfl hd_X12_isNear ⟨Nat.le_of_ble_eq_true rfl, Nat.le_of_ble_eq_true rfl⟩ ⟨Nat.le_of_ble_eq_true rfl, Nat.le_of_ble_eq_true rfl⟩ rfl (Nat.le_of_ble_eq_true rfl) dX12_joins_115 (fun r115 v115_0 hw => ?_)
          obtain ⟨h01_115, hw⟩ := hw
          have hw := hw h01_115
          refine v_if_eq (tgt := 125) C dX12_joins_118 (by decide) (fun hc => ?_) (fun hc => ?_)
          · have hw := hw.1 hc
            exact jX12_joins_lv6_125 h0 a0 Q C hret (qX12_joins_lv6_58 Q n) ih v115_0 y1 y2 y3 y4 hw
          · have hw := hw.2 hc
            refine v_iconst (v := 3) C dX12_joins_121 (by decide) ?_
            refine v_goto (tgt := 126) C dX12_joins_122 (by decide) ?_
            exact jX12_joins_lv6_126 h0 a0 Q C hret (qX12_joins_lv6_58 Q n) ih v115_0 y1 y2 y3 y4 3 hw
      · have hw := hw.2 hc
        refine v_goto (tgt := 158) C dX12_joins_77 (by decide) ?_
        refine v_iinc (lv' := [(4, .int (y4 + Int32.ofInt 1)), (0, .ref h0), (1, .int y1), (2, .int y2), (3, .int y3)]) C dX12_joins_158 4 rfl (by decide) rfl ?_
        refine v_goto (tgt := 58) C dX12_joins_161 (by decide) ?_
        refine v_lv C (lv' := [(0, .ref h0), (1, .int y1), (2, .int y2), (3, .int y3), (4, .int (y4 + Int32.ofInt 1))]) [1, 2, 3, 4, 0] rfl ?_
        exact ih u0 y1 y2 y3 (y4 + Int32.ofInt 1) hw
set_option maxHeartbeats 4000000 in
set_option maxRecDepth 100000 in
theorem jX12_joins_lv6_25 {X : VX} {E : VE} {l : Launch} (h0 : Nat) (a0 : Nat → Nat)  (Q : Md → Prop) (C : VC X cX12_joins 6 RX12 (rmL 7 0 0) E l) (hret : RetV X cX12_joins 0 0 (fun (U : Md) => [wX12 E h0 a0 U].flatten) (fun (U : Md) => Q U))  : ∀ (n : Nat), ∀ (u0 : Md) (y4 : Int32), qX12_joins_lv6_25 Q n u0 y4 → VV X 0 0 ([wX12 E h0 a0 u0].flatten) [(0, .ref h0), (4, .int y4)] 25 [] := by
  intro n
  induction n with
  | zero =>
    intro u0 y4 hw
    exact hw.elim
  | succ n ih =>
    intro u0 y4 hw
    unfold qX12_joins_lv6_25 at hw
    refine v_iload C dX12_joins_25 1 rfl ?_
    refine v_aload_n C dX12_joins_27 0 rfl ?_
    refine v_get (ci := 12) C inT12 0 37 rfl rfl (by decide) mF_X12_435_X12_37 rfl dX12_joins_28 ?_
    refine v_icmp_ge (tgt := 54) C dX12_joins_31 (by decide) (fun hc => ?_) (fun hc => ?_)
    · have hw := hw.1 hc
      exact hret _ _ _ _ u0 dX12_joins_54 hw (Nat.le_of_ble_eq_true rfl) (Nat.le_of_ble_eq_true rfl)
    · have hw := hw.2 hc
      refine v_aload_n C dX12_joins_34 0 rfl ?_
      refine v_get (ci := 12) C inT12 0 44 rfl rfl (by decide) mF_X12_98_X12_44 rfl dX12_joins_35 ?_
      refine v_iload C dX12_joins_38 1 rfl ?_
      refine v_aload_n C dX12_joins_40 0 rfl ?_
      refine v_get (ci := 12) C inT12 0 43 rfl rfl (by decide) mF_X12_95_X12_43 rfl dX12_joins_41 ?_
      refine v_iload C dX12_joins_44 1 rfl ?_
      obtain ⟨hi46, hw⟩ := hw
      refine v_iald C 26 rfl hi46 dX12_joins_46 ?_
      obtain ⟨hi47, hw⟩ := hw
      obtain ⟨w47, e47⟩ : ∃ z : Md, z = tA u0 44 y4 (gA u0 43 y4.toNatClampNeg) := ⟨_, rfl⟩
      have hw := hw w47 e47
      refine v_iast (ws' := [wX12 E h0 a0 w47].flatten) C 27 rfl hi47 (by rw [e47]; rfl) dX12_joins_47 ?_
      refine v_iinc (lv' := [(4, .int (y4 + Int32.ofInt 1)), (0, .ref h0)]) C dX12_joins_48 1 rfl (by decide) rfl ?_
      refine v_goto (tgt := 25) C dX12_joins_51 (by decide) ?_
      refine v_lv C (lv' := [(0, .ref h0), (4, .int (y4 + Int32.ofInt 1))]) [1, 0] rfl ?_
      exact ih w47 (y4 + Int32.ofInt 1) hw
set_option maxHeartbeats 4000000 in
set_option maxRecDepth 100000 in
theorem kX12_joins_lv6 {l : Launch} {E : VE} (h0 : Nat) (a0 : Nat → Nat) (u0 : Md) (x1 : Int32) (x2 : Int32) (x3 : Int32) {Q : Md → Prop} (hw : qX12_joins_lv6 u0 x1 x2 x3 Q) : MV l yX12_joins cX12_joins 6 7 0 0 E [.ref h0, .int x1, .int x2, .int x3] ([wX12 E h0 a0 u0].flatten) (fun (U : Md) => [wX12 E h0 a0 U].flatten) (fun (U : Md) => Q U) := by
  refine MV.of (own := RX12) (by decide) rfl (Nat.le_of_ble_eq_true rfl) ?_
  intro X C hini hret
  show VV X 0 0 ([wX12 E h0 a0 u0].flatten) [(0, .ref h0), (1, .int x1), (2, .int x2), (3, .int x3)] 0 []
  unfold qX12_joins_lv6 at hw
  refine v_iload_n C dX12_joins_0 1 rfl ?_
  refine v_aload_n C dX12_joins_1 0 rfl ?_
  refine v_get (ci := 12) C inT12 0 37 rfl rfl (by decide) mF_X12_435_X12_37 rfl dX12_joins_2 ?_
  refine v_icmp_ne (tgt := 55) C dX12_joins_5 (by decide) (fun hc => ?_) (fun hc => ?_)
  · have hw := hw.1 hc
    refine v_iconst (v := 0) C dX12_joins_55 (by decide) ?_
    refine v_istore (lv' := [(4, .int 0), (0, .ref h0), (1, .int x1), (2, .int x2), (3, .int x3)]) C dX12_joins_56 (by decide) rfl ?_
    refine v_lv C (lv' := [(0, .ref h0), (1, .int x1), (2, .int x2), (3, .int x3), (4, .int 0)]) [1, 2, 3, 4, 0] rfl ?_
    obtain ⟨n', hw⟩ := hw
    exact jX12_joins_lv6_58 h0 a0 Q C hret n' u0 x1 x2 x3 0 hw
  · have hw := hw.2 hc
    refine v_iload_n C dX12_joins_8 3 rfl ?_
    refine v_aload_n C dX12_joins_9 0 rfl ?_
    refine v_get (ci := 12) C inT12 0 45 rfl rfl (by decide) mF_X12_438_X12_45 rfl dX12_joins_10 ?_
    refine v_icmp_gt (tgt := 17) C dX12_joins_13 (by decide) (fun hc => ?_) (fun hc => ?_)
    · have hw := hw.1 hc
      refine v_aload_n C dX12_joins_17 0 rfl ?_
      refine v_iload_n C dX12_joins_18 3 rfl ?_
      obtain ⟨w19, e19⟩ : ∃ z : Md, z = sF u0 45 x3 := ⟨_, rfl⟩
      have hw := hw w19 e19
      refine v_put (ci := 12) (ws' := [wX12 E h0 a0 w19].flatten) C tyX12 tyX12_ok nmX12 inT12 0 45 rfl rfl (by decide) mF_X12_438_X12_45 rfl rfl rfl rfl (Nat.le_of_ble_eq_true rfl) (by rw [e19]; rfl) dX12_joins_19 ?_
      refine v_iconst (v := 0) C dX12_joins_22 (by decide) ?_
      refine v_istore (lv' := [(4, .int 0), (0, .ref h0), (1, .int x1), (2, .int x2), (3, .int x3)]) C dX12_joins_23 (by decide) rfl ?_
      refine v_lv C (lv' := [(0, .ref h0), (4, .int 0)]) [1, 0] rfl ?_
      obtain ⟨n', hw⟩ := hw
      exact jX12_joins_lv6_25 h0 a0 Q C hret n' w19 0 hw
    · have hw := hw.2 hc
      exact hret _ _ _ _ u0 dX12_joins_16 hw (Nat.le_of_ble_eq_true rfl) (Nat.le_of_ble_eq_true rfl)
set_option maxHeartbeats 4000000 in
set_option maxRecDepth 100000 in
theorem jX12_joins_lv7_126 {X : VX} {E : VE} {l : Launch} (h0 : Nat) (a0 : Nat → Nat)  (Q : Md → Prop) (C : VC X cX12_joins 6 RX12 (rmL 8 0 0) E l) (hret : RetV X cX12_joins 0 0 (fun (U : Md) => [wX12 E h0 a0 U].flatten) (fun (U : Md) => Q U)) (K58 : Md → Int32 → Int32 → Int32 → Int32 → Prop) (hK58 : ∀ (u0 : Md) (y1 : Int32) (y2 : Int32) (y3 : Int32) (y4 : Int32), K58 u0 y1 y2 y3 y4 → VV X 0 0 ([wX12 E h0 a0 u0].flatten) [(0, .ref h0), (1, .int y1), (2, .int y2), (3, .int y3), (4, .int y4)] 58 []) : ∀ (u0 : Md) (y1 : Int32) (y2 : Int32) (y3 : Int32) (y4 : Int32) (z0 : Int32), qX12_joins_lv7_126 Q K58 u0 y1 y2 y3 y4 z0 → VV X 0 0 ([wX12 E h0 a0 u0].flatten) [(0, .ref h0), (1, .int y1), (2, .int y2), (3, .int y3), (4, .int y4)] 126 [.int z0] := by
  intro u0 y1 y2 y3 y4 z0 hw
  unfold qX12_joins_lv7_126 at hw
  refine v_istore (lv' := [(5, .int z0), (0, .ref h0), (1, .int y1), (2, .int y2), (3, .int y3), (4, .int y4)]) C dX12_joins_126 (by decide) rfl ?_
  refine v_aload_n C dX12_joins_128 1 rfl ?_
  refine v_iload_n C dX12_joins_129 2 rfl ?_
  refine v_iconst (v := 1) C dX12_joins_130 (by decide) ?_
  refine v_iadd C dX12_joins_131 ?_
  refine v_iload_n C dX12_joins_132 3 rfl ?_
  refine v_iconst (v := 1) C dX12_joins_133 (by decide) ?_
  refine v_iload C dX12_joins_134 5 rfl ?_
  refine v_ishl C dX12_joins_136 ?_
  refine v_ior C dX12_joins_137 ?_
  refine v_iload_n C dX12_joins_138 4 rfl ?_
  refine v_aload_n C dX12_joins_139 1 rfl ?_
  refine v_get (ci := 12) C inT12 0 42 rfl rfl (by decide) mF_X12_92_X12_42 rfl dX12_joins_140 ?_
  refine v_bipush (v := 10) C dX12_joins_143 (by decide) ?_
  refine v_iload_n C dX12_joins_145 2 rfl ?_
  refine v_imul C dX12_joins_146 ?_
  refine v_iload C dX12_joins_147 5 rfl ?_
  refine v_iadd C dX12_joins_149 ?_
  obtain ⟨hi150, hw⟩ := hw
  refine v_iald C 25 rfl hi150 dX12_joins_150 ?_
  refine v_iadd C dX12_joins_151 ?_
  refine v_iload C dX12_joins_152 0 rfl ?_
  refine v_iadd C dX12_joins_154 ?_
  refine v_callFv (st := []) (ci := 12) (qb := 0) C (kX12_joins_lv6 h0 a0 _ _ _ _ hw) mM_X12_444 mI_X12 mC_X12_joins mN_X12_joins mS_X12_joins rfl rfl hd_X12_joins ⟨Nat.le_of_ble_eq_true rfl, Nat.le_of_ble_eq_true rfl⟩ ⟨Nat.le_of_ble_eq_true rfl, Nat.le_of_ble_eq_true rfl⟩ rfl (Nat.le_of_ble_eq_true rfl) dX12_joins_155 (fun v155_0 hw => ?_)
  refine v_iinc (lv' := [(4, .int (y4 + Int32.ofInt 1)), (5, .int z0), (0, .ref h0), (1, .int y1), (2, .int y2), (3, .int y3)]) C dX12_joins_158 5 rfl (by decide) rfl ?_
  refine v_goto (tgt := 58) C dX12_joins_161 (by decide) ?_
  refine v_lv C (lv' := [(0, .ref h0), (1, .int y1), (2, .int y2), (3, .int y3), (4, .int (y4 + Int32.ofInt 1))]) [2, 3, 4, 5, 0] rfl ?_
  exact hK58 v155_0 y1 y2 y3 (y4 + Int32.ofInt 1) hw
set_option maxHeartbeats 4000000 in
set_option maxRecDepth 100000 in
theorem jX12_joins_lv7_125 {X : VX} {E : VE} {l : Launch} (h0 : Nat) (a0 : Nat → Nat)  (Q : Md → Prop) (C : VC X cX12_joins 6 RX12 (rmL 8 0 0) E l) (hret : RetV X cX12_joins 0 0 (fun (U : Md) => [wX12 E h0 a0 U].flatten) (fun (U : Md) => Q U)) (K58 : Md → Int32 → Int32 → Int32 → Int32 → Prop) (hK58 : ∀ (u0 : Md) (y1 : Int32) (y2 : Int32) (y3 : Int32) (y4 : Int32), K58 u0 y1 y2 y3 y4 → VV X 0 0 ([wX12 E h0 a0 u0].flatten) [(0, .ref h0), (1, .int y1), (2, .int y2), (3, .int y3), (4, .int y4)] 58 []) : ∀ (u0 : Md) (y1 : Int32) (y2 : Int32) (y3 : Int32) (y4 : Int32), qX12_joins_lv7_125 Q K58 u0 y1 y2 y3 y4 → VV X 0 0 ([wX12 E h0 a0 u0].flatten) [(0, .ref h0), (1, .int y1), (2, .int y2), (3, .int y3), (4, .int y4)] 125 [] := by
  intro u0 y1 y2 y3 y4 hw
  unfold qX12_joins_lv7_125 at hw
  refine v_iconst (v := 0) C dX12_joins_125 (by decide) ?_
  exact jX12_joins_lv7_126 h0 a0 Q C hret K58 hK58 u0 y1 y2 y3 y4 0 hw
set_option maxHeartbeats 4000000 in
set_option maxRecDepth 100000 in
theorem jX12_joins_lv7_58 {X : VX} {E : VE} {l : Launch} (h0 : Nat) (a0 : Nat → Nat)  (Q : Md → Prop) (C : VC X cX12_joins 6 RX12 (rmL 8 0 0) E l) (hret : RetV X cX12_joins 0 0 (fun (U : Md) => [wX12 E h0 a0 U].flatten) (fun (U : Md) => Q U))  : ∀ (n : Nat), ∀ (u0 : Md) (y1 : Int32) (y2 : Int32) (y3 : Int32) (y4 : Int32), qX12_joins_lv7_58 Q n u0 y1 y2 y3 y4 → VV X 0 0 ([wX12 E h0 a0 u0].flatten) [(0, .ref h0), (1, .int y1), (2, .int y2), (3, .int y3), (4, .int y4)] 58 [] := by
  intro n
  induction n with
  | zero =>
    intro u0 y1 y2 y3 y4 hw
    exact hw.elim
  | succ n ih =>
    intro u0 y1 y2 y3 y4 hw
    unfold qX12_joins_lv7_58 at hw
    refine v_iload C dX12_joins_58 4 rfl ?_
    refine v_aload_n C dX12_joins_60 0 rfl ?_
    refine v_get (ci := 12) C inT12 0 40 rfl rfl (by decide) mF_X12_441_X12_40 rfl dX12_joins_61 ?_
    refine v_icmp_ge (tgt := 164) C dX12_joins_64 (by decide) (fun hc => ?_) (fun hc => ?_)
    · have hw := hw.1 hc
      exact hret _ _ _ _ u0 dX12_joins_164 hw (Nat.le_of_ble_eq_true rfl) (Nat.le_of_ble_eq_true rfl)
    · have hw := hw.2 hc
      refine v_iload_n C dX12_joins_67 2 rfl ?_
      refine v_iload C dX12_joins_68 4 rfl ?_
      refine v_ishr C dX12_joins_70 ?_
      refine v_iconst (v := 1) C dX12_joins_71 (by decide) ?_
      refine v_iand C dX12_joins_72 ?_
      refine v_iconst (v := 1) C dX12_joins_73 (by decide) ?_
      refine v_icmp_ne (tgt := 80) C dX12_joins_74 (by decide) (fun hc => ?_) (fun hc => ?_)
      · have hw := hw.1 hc
        refine v_aload_n C dX12_joins_80 0 rfl ?_
        refine v_get (ci := 12) C inT12 0 43 rfl rfl (by decide) mF_X12_95_X12_43 rfl dX12_joins_81 ?_
        refine v_iload_n C dX12_joins_84 1 rfl ?_
        refine v_iload C dX12_joins_85 4 rfl ?_
        obtain ⟨hi87, hw⟩ := hw
        obtain ⟨w87, e87⟩ : ∃ z : Md, z = tA u0 43 y1 y4 := ⟨_, rfl⟩
        have hw := hw w87 e87
        refine v_iast (ws' := [wX12 E h0 a0 w87].flatten) C 26 rfl hi87 (by rw [e87]; rfl) dX12_joins_87 ?_
        refine v_iload_n C dX12_joins_88 1 rfl ?_
        refine v_if_le (tgt := 125) C dX12_joins_89 (by decide) (fun hc => ?_) (fun hc => ?_)
        · have hw := hw.1 hc
          exact jX12_joins_lv7_125 h0 a0 Q C hret (qX12_joins_lv7_58 Q n) ih w87 y1 y2 y3 y4 hw
        · have hw := hw.2 hc
          refine v_aload_n C dX12_joins_92 0 rfl ?_
          refine v_aload_n C dX12_joins_93 0 rfl ?_
          refine v_get (ci := 12) C inT12 0 41 rfl rfl (by decide) mF_X12_89_X12_41 rfl dX12_joins_94 ?_
          refine v_aload_n C dX12_joins_97 0 rfl ?_
          refine v_get (ci := 12) C inT12 0 43 rfl rfl (by decide) mF_X12_95_X12_43 rfl dX12_joins_98 ?_
          refine v_iload_n C dX12_joins_101 1 rfl ?_
          refine v_iconst (v := 1) C dX12_joins_102 (by decide) ?_
          refine v_isub C dX12_joins_103 ?_
          obtain ⟨hi104, hw⟩ := hw
          refine v_iald C 26 rfl hi104 dX12_joins_104 ?_
          obtain ⟨hi105, hw⟩ := hw
          refine v_iald C 24 rfl hi105 dX12_joins_105 ?_
          refine v_aload_n C dX12_joins_106 0 rfl ?_
          refine v_get (ci := 12) C inT12 0 41 rfl rfl (by decide) mF_X12_89_X12_41 rfl dX12_joins_107 ?_
          refine v_iload C dX12_joins_110 4 rfl ?_
          obtain ⟨hi112, hw⟩ := hw
          refine v_iald C 24 rfl hi112 dX12_joins_112 ?_
          refine v_bipush (v := 30) C dX12_joins_113 (by decide) ?_
          refine v_callFi (st := []) (ci := 12) (qb := 0) C (kX12_isNear h0 a0 _ _ _ _ hw) mM_X12_382 mI_X12 mC_X12_isNear mN_X12_isNear mS_X12_isNear rfl rfl hd_X12_isNear ⟨Nat.le_of_ble_eq_true rfl, Nat.le_of_ble_eq_true rfl⟩ ⟨Nat.le_of_ble_eq_true rfl, Nat.le_of_ble_eq_true rfl⟩ rfl (Nat.le_of_ble_eq_true rfl) dX12_joins_115 (fun r115 v115_0 hw => ?_)
          obtain ⟨h01_115, hw⟩ := hw
          have hw := hw h01_115
          refine v_if_eq (tgt := 125) C dX12_joins_118 (by decide) (fun hc => ?_) (fun hc => ?_)
          · have hw := hw.1 hc
            exact jX12_joins_lv7_125 h0 a0 Q C hret (qX12_joins_lv7_58 Q n) ih v115_0 y1 y2 y3 y4 hw
          · have hw := hw.2 hc
            refine v_iconst (v := 3) C dX12_joins_121 (by decide) ?_
            refine v_goto (tgt := 126) C dX12_joins_122 (by decide) ?_
            exact jX12_joins_lv7_126 h0 a0 Q C hret (qX12_joins_lv7_58 Q n) ih v115_0 y1 y2 y3 y4 3 hw
      · have hw := hw.2 hc
        refine v_goto (tgt := 158) C dX12_joins_77 (by decide) ?_
        refine v_iinc (lv' := [(4, .int (y4 + Int32.ofInt 1)), (0, .ref h0), (1, .int y1), (2, .int y2), (3, .int y3)]) C dX12_joins_158 4 rfl (by decide) rfl ?_
        refine v_goto (tgt := 58) C dX12_joins_161 (by decide) ?_
        refine v_lv C (lv' := [(0, .ref h0), (1, .int y1), (2, .int y2), (3, .int y3), (4, .int (y4 + Int32.ofInt 1))]) [1, 2, 3, 4, 0] rfl ?_
        exact ih u0 y1 y2 y3 (y4 + Int32.ofInt 1) hw
set_option maxHeartbeats 4000000 in
set_option maxRecDepth 100000 in
theorem jX12_joins_lv7_25 {X : VX} {E : VE} {l : Launch} (h0 : Nat) (a0 : Nat → Nat)  (Q : Md → Prop) (C : VC X cX12_joins 6 RX12 (rmL 8 0 0) E l) (hret : RetV X cX12_joins 0 0 (fun (U : Md) => [wX12 E h0 a0 U].flatten) (fun (U : Md) => Q U))  : ∀ (n : Nat), ∀ (u0 : Md) (y4 : Int32), qX12_joins_lv7_25 Q n u0 y4 → VV X 0 0 ([wX12 E h0 a0 u0].flatten) [(0, .ref h0), (4, .int y4)] 25 [] := by
  intro n
  induction n with
  | zero =>
    intro u0 y4 hw
    exact hw.elim
  | succ n ih =>
    intro u0 y4 hw
    unfold qX12_joins_lv7_25 at hw
    refine v_iload C dX12_joins_25 1 rfl ?_
    refine v_aload_n C dX12_joins_27 0 rfl ?_
    refine v_get (ci := 12) C inT12 0 37 rfl rfl (by decide) mF_X12_435_X12_37 rfl dX12_joins_28 ?_
    refine v_icmp_ge (tgt := 54) C dX12_joins_31 (by decide) (fun hc => ?_) (fun hc => ?_)
    · have hw := hw.1 hc
      exact hret _ _ _ _ u0 dX12_joins_54 hw (Nat.le_of_ble_eq_true rfl) (Nat.le_of_ble_eq_true rfl)
    · have hw := hw.2 hc
      refine v_aload_n C dX12_joins_34 0 rfl ?_
      refine v_get (ci := 12) C inT12 0 44 rfl rfl (by decide) mF_X12_98_X12_44 rfl dX12_joins_35 ?_
      refine v_iload C dX12_joins_38 1 rfl ?_
      refine v_aload_n C dX12_joins_40 0 rfl ?_
      refine v_get (ci := 12) C inT12 0 43 rfl rfl (by decide) mF_X12_95_X12_43 rfl dX12_joins_41 ?_
      refine v_iload C dX12_joins_44 1 rfl ?_
      obtain ⟨hi46, hw⟩ := hw
      refine v_iald C 26 rfl hi46 dX12_joins_46 ?_
      obtain ⟨hi47, hw⟩ := hw
      obtain ⟨w47, e47⟩ : ∃ z : Md, z = tA u0 44 y4 (gA u0 43 y4.toNatClampNeg) := ⟨_, rfl⟩
      have hw := hw w47 e47
      refine v_iast (ws' := [wX12 E h0 a0 w47].flatten) C 27 rfl hi47 (by rw [e47]; rfl) dX12_joins_47 ?_
      refine v_iinc (lv' := [(4, .int (y4 + Int32.ofInt 1)), (0, .ref h0)]) C dX12_joins_48 1 rfl (by decide) rfl ?_
      refine v_goto (tgt := 25) C dX12_joins_51 (by decide) ?_
      refine v_lv C (lv' := [(0, .ref h0), (4, .int (y4 + Int32.ofInt 1))]) [1, 0] rfl ?_
      exact ih w47 (y4 + Int32.ofInt 1) hw
set_option maxHeartbeats 4000000 in
set_option maxRecDepth 100000 in
theorem kX12_joins_lv7 {l : Launch} {E : VE} (h0 : Nat) (a0 : Nat → Nat) (u0 : Md) (x1 : Int32) (x2 : Int32) (x3 : Int32) {Q : Md → Prop} (hw : qX12_joins_lv7 u0 x1 x2 x3 Q) : MV l yX12_joins cX12_joins 6 8 0 0 E [.ref h0, .int x1, .int x2, .int x3] ([wX12 E h0 a0 u0].flatten) (fun (U : Md) => [wX12 E h0 a0 U].flatten) (fun (U : Md) => Q U) := by
  refine MV.of (own := RX12) (by decide) rfl (Nat.le_of_ble_eq_true rfl) ?_
  intro X C hini hret
  show VV X 0 0 ([wX12 E h0 a0 u0].flatten) [(0, .ref h0), (1, .int x1), (2, .int x2), (3, .int x3)] 0 []
  unfold qX12_joins_lv7 at hw
  refine v_iload_n C dX12_joins_0 1 rfl ?_
  refine v_aload_n C dX12_joins_1 0 rfl ?_
  refine v_get (ci := 12) C inT12 0 37 rfl rfl (by decide) mF_X12_435_X12_37 rfl dX12_joins_2 ?_
  refine v_icmp_ne (tgt := 55) C dX12_joins_5 (by decide) (fun hc => ?_) (fun hc => ?_)
  · have hw := hw.1 hc
    refine v_iconst (v := 0) C dX12_joins_55 (by decide) ?_
    refine v_istore (lv' := [(4, .int 0), (0, .ref h0), (1, .int x1), (2, .int x2), (3, .int x3)]) C dX12_joins_56 (by decide) rfl ?_
    refine v_lv C (lv' := [(0, .ref h0), (1, .int x1), (2, .int x2), (3, .int x3), (4, .int 0)]) [1, 2, 3, 4, 0] rfl ?_
    obtain ⟨n', hw⟩ := hw
    exact jX12_joins_lv7_58 h0 a0 Q C hret n' u0 x1 x2 x3 0 hw
  · have hw := hw.2 hc
    refine v_iload_n C dX12_joins_8 3 rfl ?_
    refine v_aload_n C dX12_joins_9 0 rfl ?_
    refine v_get (ci := 12) C inT12 0 45 rfl rfl (by decide) mF_X12_438_X12_45 rfl dX12_joins_10 ?_
    refine v_icmp_gt (tgt := 17) C dX12_joins_13 (by decide) (fun hc => ?_) (fun hc => ?_)
    · have hw := hw.1 hc
      refine v_aload_n C dX12_joins_17 0 rfl ?_
      refine v_iload_n C dX12_joins_18 3 rfl ?_
      obtain ⟨w19, e19⟩ : ∃ z : Md, z = sF u0 45 x3 := ⟨_, rfl⟩
      have hw := hw w19 e19
      refine v_put (ci := 12) (ws' := [wX12 E h0 a0 w19].flatten) C tyX12 tyX12_ok nmX12 inT12 0 45 rfl rfl (by decide) mF_X12_438_X12_45 rfl rfl rfl rfl (Nat.le_of_ble_eq_true rfl) (by rw [e19]; rfl) dX12_joins_19 ?_
      refine v_iconst (v := 0) C dX12_joins_22 (by decide) ?_
      refine v_istore (lv' := [(4, .int 0), (0, .ref h0), (1, .int x1), (2, .int x2), (3, .int x3)]) C dX12_joins_23 (by decide) rfl ?_
      refine v_lv C (lv' := [(0, .ref h0), (4, .int 0)]) [1, 0] rfl ?_
      obtain ⟨n', hw⟩ := hw
      exact jX12_joins_lv7_25 h0 a0 Q C hret n' w19 0 hw
    · have hw := hw.2 hc
      exact hret _ _ _ _ u0 dX12_joins_16 hw (Nat.le_of_ble_eq_true rfl) (Nat.le_of_ble_eq_true rfl)
set_option maxHeartbeats 4000000 in
set_option maxRecDepth 100000 in
theorem jX12_join_166 {X : VX} {E : VE} {l : Launch} (h0 : Nat) (a0 : Nat → Nat)  (Q : Int32 → Md → Prop) (C : VC X cX12_join 3 RX12 (rmL 9 0 0) E l) (hret : RetI X cX12_join .int 0 0 (fun (U : Md) => [wX12 E h0 a0 U].flatten) (fun (r : Int32) (U : Md) => Q r U))  : ∀ (n : Nat), ∀ (u0 : Md) (y1 : Int32), qX12_join_166 Q n u0 y1 → VV X 0 0 ([wX12 E h0 a0 u0].flatten) [(0, .ref h0), (1, .int y1)] 166 [] := by
  intro n
  induction n with
  | zero =>
    intro u0 y1 hw
    exact hw.elim
  | succ n ih =>
    intro u0 y1 hw
    unfold qX12_join_166 at hw
    refine v_iload_n C dX12_join_166 1 rfl ?_
    refine v_aload_n C dX12_join_167 0 rfl ?_
    refine v_get (ci := 12) C inT12 0 37 rfl rfl (by decide) mF_X12_435_X12_37 rfl dX12_join_168 ?_
    refine v_icmp_ge (tgt := 197) C dX12_join_171 (by decide) (fun hc => ?_) (fun hc => ?_)
    · have hw := hw.1 hc
      refine v_aload_n C dX12_join_197 0 rfl ?_
      refine v_get (ci := 12) C inT12 0 45 rfl rfl (by decide) mF_X12_438_X12_45 rfl dX12_join_198 ?_
      exact hret _ _ _ _ (gF u0 45) u0 dX12_join_201 rfl hw (Nat.le_of_ble_eq_true rfl) (Nat.le_of_ble_eq_true rfl)
    · have hw := hw.2 hc
      refine v_aload_n C dX12_join_174 0 rfl ?_
      refine v_get (ci := 12) C inT12 0 46 rfl rfl (by decide) mF_X12_101_X12_46 rfl dX12_join_175 ?_
      refine v_iload_n C dX12_join_178 1 rfl ?_
      refine v_aload_n C dX12_join_179 0 rfl ?_
      refine v_get (ci := 12) C inT12 0 41 rfl rfl (by decide) mF_X12_89_X12_41 rfl dX12_join_180 ?_
      refine v_aload_n C dX12_join_183 0 rfl ?_
      refine v_get (ci := 12) C inT12 0 44 rfl rfl (by decide) mF_X12_98_X12_44 rfl dX12_join_184 ?_
      refine v_iload_n C dX12_join_187 1 rfl ?_
      obtain ⟨hi188, hw⟩ := hw
      refine v_iald C 27 rfl hi188 dX12_join_188 ?_
      obtain ⟨hi189, hw⟩ := hw
      refine v_iald C 24 rfl hi189 dX12_join_189 ?_
      obtain ⟨hi190, hw⟩ := hw
      obtain ⟨w190, e190⟩ : ∃ z : Md, z = tA u0 46 y1 (gA u0 41 (gA u0 44 y1.toNatClampNeg).toNatClampNeg) := ⟨_, rfl⟩
      have hw := hw w190 e190
      refine v_iast (ws' := [wX12 E h0 a0 w190].flatten) C 28 rfl hi190 (by rw [e190]; rfl) dX12_join_190 ?_
      refine v_iinc (lv' := [(1, .int (y1 + Int32.ofInt 1)), (0, .ref h0)]) C dX12_join_191 1 rfl (by decide) rfl ?_
      refine v_goto (tgt := 166) C dX12_join_194 (by decide) ?_
      refine v_lv C (lv' := [(0, .ref h0), (1, .int (y1 + Int32.ofInt 1))]) [1, 0] rfl ?_
      exact ih w190 (y1 + Int32.ofInt 1) hw
set_option maxHeartbeats 4000000 in
set_option maxRecDepth 100000 in
theorem jX12_join_100 {X : VX} {E : VE} {l : Launch} (h0 : Nat) (a0 : Nat → Nat)  (Q : Int32 → Md → Prop) (C : VC X cX12_join 3 RX12 (rmL 9 0 0) E l) (hret : RetI X cX12_join .int 0 0 (fun (U : Md) => [wX12 E h0 a0 U].flatten) (fun (r : Int32) (U : Md) => Q r U)) (K90 : Md → Int32 → Prop) (hK90 : ∀ (u0 : Md) (y1 : Int32), K90 u0 y1 → VV X 0 0 ([wX12 E h0 a0 u0].flatten) [(0, .ref h0), (1, .int y1)] 90 []) : ∀ (n : Nat), ∀ (u0 : Md) (y1 : Int32) (y2 : Int32), qX12_join_100 Q K90 n u0 y1 y2 → VV X 0 0 ([wX12 E h0 a0 u0].flatten) [(0, .ref h0), (1, .int y1), (2, .int y2)] 100 [] := by
  intro n
  induction n with
  | zero =>
    intro u0 y1 y2 hw
    exact hw.elim
  | succ n ih =>
    intro u0 y1 y2 hw
    unfold qX12_join_100 at hw
    refine v_iload_n C dX12_join_100 2 rfl ?_
    refine v_aload_n C dX12_join_101 0 rfl ?_
    refine v_get (ci := 12) C inT12 0 40 rfl rfl (by decide) mF_X12_441_X12_40 rfl dX12_join_102 ?_
    refine v_icmp_ge (tgt := 136) C dX12_join_105 (by decide) (fun hc => ?_) (fun hc => ?_)
    · have hw := hw.1 hc
      refine v_iinc (lv' := [(1, .int (y1 + Int32.ofInt 1)), (0, .ref h0), (2, .int y2)]) C dX12_join_136 1 rfl (by decide) rfl ?_
      refine v_goto (tgt := 90) C dX12_join_139 (by decide) ?_
      refine v_lv C (lv' := [(0, .ref h0), (1, .int (y1 + Int32.ofInt 1))]) [1, 0] rfl ?_
      exact hK90 u0 (y1 + Int32.ofInt 1) hw
    · have hw := hw.2 hc
      refine v_aload_n C dX12_join_108 0 rfl ?_
      refine v_get (ci := 12) C inT12 0 42 rfl rfl (by decide) mF_X12_92_X12_42 rfl dX12_join_109 ?_
      refine v_bipush (v := 10) C dX12_join_112 (by decide) ?_
      refine v_iload_n C dX12_join_114 1 rfl ?_
      refine v_imul C dX12_join_115 ?_
      refine v_iload_n C dX12_join_116 2 rfl ?_
      refine v_iadd C dX12_join_117 ?_
      refine v_aload_n C dX12_join_118 0 rfl ?_
      refine v_iload_n C dX12_join_119 1 rfl ?_
      refine v_aload_n C dX12_join_120 0 rfl ?_
      refine v_get (ci := 12) C inT12 0 41 rfl rfl (by decide) mF_X12_89_X12_41 rfl dX12_join_121 ?_
      refine v_iload_n C dX12_join_124 2 rfl ?_
      obtain ⟨hi125, hw⟩ := hw
      refine v_iald C 24 rfl hi125 dX12_join_125 ?_
      refine v_callFi (st := [.int ((10 * y1) + y2), .ref ((a0 42))]) (ci := 12) (qb := 0) C (kX12_givesOf h0 a0 _ _ _ hw) mM_X12_450 mI_X12 mC_X12_givesOf mN_X12_givesOf mS_X12_givesOf rfl rfl hd_X12_givesOf ⟨Nat.le_of_ble_eq_true rfl, Nat.le_of_ble_eq_true rfl⟩ ⟨Nat.le_of_ble_eq_true rfl, Nat.le_of_ble_eq_true rfl⟩ rfl (Nat.le_of_ble_eq_true rfl) dX12_join_126 (fun r126 v126_0 hw => ?_)
      obtain ⟨hi129, hw⟩ := hw
      obtain ⟨w129, e129⟩ : ∃ z : Md, z = tA v126_0 42 ((10 * y1) + y2) r126 := ⟨_, rfl⟩
      have hw := hw w129 e129
      refine v_iast (ws' := [wX12 E h0 a0 w129].flatten) C 25 rfl hi129 (by rw [e129]; rfl) dX12_join_129 ?_
      refine v_iinc (lv' := [(2, .int (y2 + Int32.ofInt 1)), (0, .ref h0), (1, .int y1)]) C dX12_join_130 2 rfl (by decide) rfl ?_
      refine v_goto (tgt := 100) C dX12_join_133 (by decide) ?_
      refine v_lv C (lv' := [(0, .ref h0), (1, .int y1), (2, .int (y2 + Int32.ofInt 1))]) [1, 2, 0] rfl ?_
      exact ih w129 y1 (y2 + Int32.ofInt 1) hw
set_option maxHeartbeats 4000000 in
set_option maxRecDepth 100000 in
theorem jX12_join_90 {X : VX} {E : VE} {l : Launch} (h0 : Nat) (a0 : Nat → Nat)  (Q : Int32 → Md → Prop) (C : VC X cX12_join 3 RX12 (rmL 9 0 0) E l) (hret : RetI X cX12_join .int 0 0 (fun (U : Md) => [wX12 E h0 a0 U].flatten) (fun (r : Int32) (U : Md) => Q r U))  : ∀ (n : Nat), ∀ (u0 : Md) (y1 : Int32), qX12_join_90 Q n u0 y1 → VV X 0 0 ([wX12 E h0 a0 u0].flatten) [(0, .ref h0), (1, .int y1)] 90 [] := by
  intro n
  induction n with
  | zero =>
    intro u0 y1 hw
    exact hw.elim
  | succ n ih =>
    intro u0 y1 hw
    unfold qX12_join_90 at hw
    refine v_iload_n C dX12_join_90 1 rfl ?_
    refine v_aload_n C dX12_join_91 0 rfl ?_
    refine v_get (ci := 12) C inT12 0 37 rfl rfl (by decide) mF_X12_435_X12_37 rfl dX12_join_92 ?_
    refine v_icmp_ge (tgt := 142) C dX12_join_95 (by decide) (fun hc => ?_) (fun hc => ?_)
    · have hw := hw.1 hc
      refine v_aload_n C dX12_join_142 0 rfl ?_
      refine v_ldcw C mK_X12_453 dX12_join_143 ?_
      obtain ⟨w146, e146⟩ : ∃ z : Md, z = sF u0 45 ((-1000000)) := ⟨_, rfl⟩
      have hw := hw w146 e146
      refine v_put (ci := 12) (ws' := [wX12 E h0 a0 w146].flatten) C tyX12 tyX12_ok nmX12 inT12 0 45 rfl rfl (by decide) mF_X12_438_X12_45 rfl rfl rfl rfl (Nat.le_of_ble_eq_true rfl) (by rw [e146]; rfl) dX12_join_146 ?_
      refine v_aload_n C dX12_join_149 0 rfl ?_
      refine v_iconst (v := 0) C dX12_join_150 (by decide) ?_
      refine v_iconst (v := 0) C dX12_join_151 (by decide) ?_
      refine v_iconst (v := 0) C dX12_join_152 (by decide) ?_
      refine v_callFv (st := []) (ci := 12) (qb := 0) C (kX12_joins_lv7 h0 a0 _ _ _ _ hw) mM_X12_444 mI_X12 mC_X12_joins mN_X12_joins mS_X12_joins rfl rfl hd_X12_joins ⟨Nat.le_of_ble_eq_true rfl, Nat.le_of_ble_eq_true rfl⟩ ⟨Nat.le_of_ble_eq_true rfl, Nat.le_of_ble_eq_true rfl⟩ rfl (Nat.le_of_ble_eq_true rfl) dX12_join_153 (fun v153_0 hw => ?_)
      refine v_aload_n C dX12_join_156 0 rfl ?_
      refine v_aload_n C dX12_join_157 0 rfl ?_
      refine v_get (ci := 12) C inT12 0 37 rfl rfl (by decide) mF_X12_435_X12_37 rfl dX12_join_158 ?_
      obtain ⟨w161, e161⟩ : ∃ z : Md, z = sF v153_0 47 (gF v153_0 37) := ⟨_, rfl⟩
      have hw := hw w161 e161
      refine v_put (ci := 12) (ws' := [wX12 E h0 a0 w161].flatten) C tyX12 tyX12_ok nmX12 inT12 0 47 rfl rfl (by decide) mF_X12_104_X12_47 rfl rfl rfl rfl (Nat.le_of_ble_eq_true rfl) (by rw [e161]; rfl) dX12_join_161 ?_
      refine v_iconst (v := 0) C dX12_join_164 (by decide) ?_
      refine v_istore_n (lv' := [(1, .int 0), (0, .ref h0)]) C dX12_join_165 (by decide) rfl ?_
      refine v_lv C (lv' := [(0, .ref h0), (1, .int 0)]) [1, 0] rfl ?_
      obtain ⟨n', hw⟩ := hw
      exact jX12_join_166 h0 a0 Q C hret n' w161 0 hw
    · have hw := hw.2 hc
      refine v_iconst (v := 0) C dX12_join_98 (by decide) ?_
      refine v_istore_n (lv' := [(2, .int 0), (0, .ref h0), (1, .int y1)]) C dX12_join_99 (by decide) rfl ?_
      refine v_lv C (lv' := [(0, .ref h0), (1, .int y1), (2, .int 0)]) [1, 2, 0] rfl ?_
      obtain ⟨n', hw⟩ := hw
      exact jX12_join_100 h0 a0 Q C hret (qX12_join_90 Q n) ih n' u0 y1 0 hw
set_option maxHeartbeats 4000000 in
set_option maxRecDepth 100000 in
theorem jX12_join_17 {X : VX} {E : VE} {l : Launch} (h0 : Nat) (a0 : Nat → Nat)  (Q : Int32 → Md → Prop) (C : VC X cX12_join 3 RX12 (rmL 9 0 0) E l) (hret : RetI X cX12_join .int 0 0 (fun (U : Md) => [wX12 E h0 a0 U].flatten) (fun (r : Int32) (U : Md) => Q r U))  : ∀ (n : Nat), ∀ (u0 : Md) (y1 : Int32), qX12_join_17 Q n u0 y1 → VV X 0 0 ([wX12 E h0 a0 u0].flatten) [(0, .ref h0), (1, .int y1)] 17 [] := by
  intro n
  induction n with
  | zero =>
    intro u0 y1 hw
    exact hw.elim
  | succ n ih =>
    intro u0 y1 hw
    unfold qX12_join_17 at hw
    refine v_iload_n C dX12_join_17 1 rfl ?_
    refine v_aload_n C dX12_join_18 0 rfl ?_
    refine v_get (ci := 12) C inT12 0 1 rfl rfl (by decide) mF_X12_9_X12_1 rfl dX12_join_19 ?_
    refine v_iconst (v := 1) C dX12_join_22 (by decide) ?_
    obtain ⟨hi23, hw⟩ := hw
    refine v_iald C 1 rfl hi23 dX12_join_23 ?_
    refine v_icmp_ge (tgt := 75) C dX12_join_24 (by decide) (fun hc => ?_) (fun hc => ?_)
    · have hw := hw.1 hc
      refine v_aload_n C dX12_join_75 0 rfl ?_
      refine v_get (ci := 12) C inT12 0 37 rfl rfl (by decide) mF_X12_435_X12_37 rfl dX12_join_76 ?_
      refine v_aload_n C dX12_join_79 0 rfl ?_
      refine v_get (ci := 12) C inT12 0 40 rfl rfl (by decide) mF_X12_441_X12_40 rfl dX12_join_80 ?_
      refine v_icmp_le (tgt := 88) C dX12_join_83 (by decide) (fun hc => ?_) (fun hc => ?_)
      · have hw := hw.1 hc
        refine v_iconst (v := 0) C dX12_join_88 (by decide) ?_
        refine v_istore_n (lv' := [(1, .int 0), (0, .ref h0)]) C dX12_join_89 (by decide) rfl ?_
        refine v_lv C (lv' := [(0, .ref h0), (1, .int 0)]) [1, 0] rfl ?_
        obtain ⟨n', hw⟩ := hw
        exact jX12_join_90 h0 a0 Q C hret n' u0 0 hw
      · have hw := hw.2 hc
        refine v_iconst (v := (-1)) C dX12_join_86 (by decide) ?_
        exact hret _ _ _ _ ((-1)) u0 dX12_join_87 rfl hw (Nat.le_of_ble_eq_true rfl) (Nat.le_of_ble_eq_true rfl)
    · have hw := hw.2 hc
      refine v_aload_n C dX12_join_27 0 rfl ?_
      refine v_iload_n C dX12_join_28 1 rfl ?_
      refine v_callFi (st := []) (ci := 12) (qb := 0) C (kX12_hasName h0 a0 _ _ hw) mM_X12_447 mI_X12 mC_X12_hasName mN_X12_hasName mS_X12_hasName rfl rfl hd_X12_hasName ⟨Nat.le_of_ble_eq_true rfl, Nat.le_of_ble_eq_true rfl⟩ ⟨Nat.le_of_ble_eq_true rfl, Nat.le_of_ble_eq_true rfl⟩ rfl (Nat.le_of_ble_eq_true rfl) dX12_join_29 (fun r29 v29_0 hw => ?_)
      obtain ⟨h01_29, hw⟩ := hw
      have hw := hw h01_29
      refine v_if_ne (tgt := 38) C dX12_join_32 (by decide) (fun hc => ?_) (fun hc => ?_)
      · have hw := hw.1 hc
        refine v_aload_n C dX12_join_38 0 rfl ?_
        refine v_get (ci := 12) C inT12 0 40 rfl rfl (by decide) mF_X12_441_X12_40 rfl dX12_join_39 ?_
        refine v_bipush (v := 10) C dX12_join_42 (by decide) ?_
        refine v_icmp_ne (tgt := 49) C dX12_join_44 (by decide) (fun hc => ?_) (fun hc => ?_)
        · have hw := hw.1 hc
          refine v_aload_n C dX12_join_49 0 rfl ?_
          refine v_get (ci := 12) C inT12 0 41 rfl rfl (by decide) mF_X12_89_X12_41 rfl dX12_join_50 ?_
          refine v_aload_n C dX12_join_53 0 rfl ?_
          refine v_get (ci := 12) C inT12 0 40 rfl rfl (by decide) mF_X12_441_X12_40 rfl dX12_join_54 ?_
          refine v_iload_n C dX12_join_57 1 rfl ?_
          obtain ⟨hi58, hw⟩ := hw
          obtain ⟨w58, e58⟩ : ∃ z : Md, z = tA v29_0 41 (gF v29_0 40) y1 := ⟨_, rfl⟩
          have hw := hw w58 e58
          refine v_iast (ws' := [wX12 E h0 a0 w58].flatten) C 24 rfl hi58 (by rw [e58]; rfl) dX12_join_58 ?_
          refine v_aload_n C dX12_join_59 0 rfl ?_
          refine v_dup C dX12_join_60 rfl ?_
          refine v_get (ci := 12) C inT12 0 40 rfl rfl (by decide) mF_X12_441_X12_40 rfl dX12_join_61 ?_
          refine v_iconst (v := 1) C dX12_join_64 (by decide) ?_
          refine v_iadd C dX12_join_65 ?_
          obtain ⟨w66, e66⟩ : ∃ z : Md, z = sF w58 40 ((gF w58 40) + 1) := ⟨_, rfl⟩
          have hw := hw w66 e66
          refine v_put (ci := 12) (ws' := [wX12 E h0 a0 w66].flatten) C tyX12 tyX12_ok nmX12 inT12 0 40 rfl rfl (by decide) mF_X12_441_X12_40 rfl rfl rfl rfl (Nat.le_of_ble_eq_true rfl) (by rw [e66]; rfl) dX12_join_66 ?_
          refine v_iinc (lv' := [(1, .int (y1 + Int32.ofInt 1)), (0, .ref h0)]) C dX12_join_69 1 rfl (by decide) rfl ?_
          refine v_goto (tgt := 17) C dX12_join_72 (by decide) ?_
          refine v_lv C (lv' := [(0, .ref h0), (1, .int (y1 + Int32.ofInt 1))]) [1, 0] rfl ?_
          exact ih w66 (y1 + Int32.ofInt 1) hw
        · have hw := hw.2 hc
          refine v_iconst (v := (-1)) C dX12_join_47 (by decide) ?_
          exact hret _ _ _ _ ((-1)) v29_0 dX12_join_48 rfl hw (Nat.le_of_ble_eq_true rfl) (Nat.le_of_ble_eq_true rfl)
      · have hw := hw.2 hc
        refine v_goto (tgt := 69) C dX12_join_35 (by decide) ?_
        refine v_iinc (lv' := [(1, .int (y1 + Int32.ofInt 1)), (0, .ref h0)]) C dX12_join_69 1 rfl (by decide) rfl ?_
        refine v_goto (tgt := 17) C dX12_join_72 (by decide) ?_
        refine v_lv C (lv' := [(0, .ref h0), (1, .int (y1 + Int32.ofInt 1))]) [1, 0] rfl ?_
        exact ih v29_0 (y1 + Int32.ofInt 1) hw
set_option maxHeartbeats 4000000 in
set_option maxRecDepth 100000 in
theorem kX12_join {l : Launch} {E : VE} (h0 : Nat) (a0 : Nat → Nat) (u0 : Md) {Q : Int32 → Md → Prop} (hw : qX12_join u0 Q) : MI l yX12_join cX12_join 3 .int 9 0 0 E [.ref h0] ([wX12 E h0 a0 u0].flatten) (fun (U : Md) => [wX12 E h0 a0 U].flatten) (fun (r : Int32) (U : Md) => Q r U) := by
  refine MI.of (own := RX12) (by decide) rfl (Nat.le_of_ble_eq_true rfl) ?_
  intro X C hini hret
  show VV X 0 0 ([wX12 E h0 a0 u0].flatten) [(0, .ref h0)] 0 []
  unfold qX12_join at hw
  refine v_aload_n C dX12_join_0 0 rfl ?_
  refine v_get (ci := 12) C inT12 0 36 rfl rfl (by decide) mF_X12_80_X12_36 rfl dX12_join_1 ?_
  refine v_iconst (v := (-1)) C dX12_join_4 (by decide) ?_
  refine v_icmp_ne (tgt := 10) C dX12_join_5 (by decide) (fun hc => ?_) (fun hc => ?_)
  · have hw := hw.1 hc
    refine v_aload_n C dX12_join_10 0 rfl ?_
    refine v_iconst (v := 0) C dX12_join_11 (by decide) ?_
    obtain ⟨w12, e12⟩ : ∃ z : Md, z = sF u0 40 0 := ⟨_, rfl⟩
    have hw := hw w12 e12
    refine v_put (ci := 12) (ws' := [wX12 E h0 a0 w12].flatten) C tyX12 tyX12_ok nmX12 inT12 0 40 rfl rfl (by decide) mF_X12_441_X12_40 rfl rfl rfl rfl (Nat.le_of_ble_eq_true rfl) (by rw [e12]; rfl) dX12_join_12 ?_
    refine v_iconst (v := 0) C dX12_join_15 (by decide) ?_
    refine v_istore_n (lv' := [(1, .int 0), (0, .ref h0)]) C dX12_join_16 (by decide) rfl ?_
    refine v_lv C (lv' := [(0, .ref h0), (1, .int 0)]) [1, 0] rfl ?_
    obtain ⟨n', hw⟩ := hw
    exact jX12_join_17 h0 a0 Q C hret n' w12 0 hw
  · have hw := hw.2 hc
    refine v_iconst (v := (-1)) C dX12_join_8 (by decide) ?_
    exact hret _ _ _ _ ((-1)) u0 dX12_join_9 rfl hw (Nat.le_of_ble_eq_true rfl) (Nat.le_of_ble_eq_true rfl)
