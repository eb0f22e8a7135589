set_option maxHeartbeats 4000000 in
set_option maxRecDepth 100000 in
theorem jX12_firstOf_79 {X : VX} {E : VE} {l : Launch} (h0 : Nat) (a0 : Nat → Nat)  (Q : Int32 → Md → Prop) (C : VC X cX12_firstOf 7 RX12 (rmL 2 0 0) E l) (hret : RetI X cX12_firstOf .int 0 0 (fun (U : Md) => [wX12 E h0 a0 U].flatten) (fun (r : Int32) (U : Md) => Q r U))  : ∀ (u0 : Md) (y1 : Int32), qX12_firstOf_79 Q u0 y1 → VV X 0 0 ([wX12 E h0 a0 u0].flatten) [(0, .ref h0), (1, .int y1)] 79 [] := by
  intro u0 y1 hw
  unfold qX12_firstOf_79 at hw
  refine v_aload_n C dX12_firstOf_79 0 rfl ?_
  refine v_iload_n C dX12_firstOf_80 1 rfl ?_
  refine v_iconst (v := (-1)) C dX12_firstOf_81 (by decide) ?_
  refine v_callFi (st := []) (ci := 12) (qb := 0) C (kX12_most h0 a0 _ _ _ hw) mM_X12_362 mI_X12 mC_X12_most mN_X12_most mS_X12_most rfl rfl hd_X12_most ⟨Nat.le_of_ble_eq_true rfl, Nat.le_of_ble_eq_true rfl⟩ ⟨Nat.le_of_ble_eq_true rfl, Nat.le_of_ble_eq_true rfl⟩ rfl (Nat.le_of_ble_eq_true rfl) dX12_firstOf_82 (fun r82 v82_0 hw => ?_)
  exact hret _ _ _ _ r82 v82_0 dX12_firstOf_85 rfl hw (Nat.le_of_ble_eq_true rfl) (Nat.le_of_ble_eq_true rfl)
set_option maxHeartbeats 4000000 in
set_option maxRecDepth 100000 in
theorem jX12_firstOf_10 {X : VX} {E : VE} {l : Launch} (h0 : Nat) (a0 : Nat → Nat)  (Q : Int32 → Md → Prop) (C : VC X cX12_firstOf 7 RX12 (rmL 2 0 0) E l) (hret : RetI X cX12_firstOf .int 0 0 (fun (U : Md) => [wX12 E h0 a0 U].flatten) (fun (r : Int32) (U : Md) => Q r U))  : ∀ (n : Nat), ∀ (u0 : Md) (y1 : Int32) (y3 : Int32) (y4 : Int32) (y5 : Int32), qX12_firstOf_10 Q n u0 y1 y3 y4 y5 → VV X 0 0 ([wX12 E h0 a0 u0].flatten) [(0, .ref h0), (1, .int y1), (3, .int y3), (4, .int y4), (5, .int y5)] 10 [] := by
  intro n
  induction n with
  | zero =>
    intro u0 y1 y3 y4 y5 hw
    exact hw.elim
  | succ n ih =>
    intro u0 y1 y3 y4 y5 hw
    unfold qX12_firstOf_10 at hw
    refine v_iload C dX12_firstOf_10 3 rfl ?_
    refine v_iconst (v := (-1)) C dX12_firstOf_12 (by decide) ?_
    refine v_icmp_eq (tgt := 79) C dX12_firstOf_13 (by decide) (fun hc => ?_) (fun hc => ?_)
    · have hw := hw.1 hc
      refine v_lv C (lv' := [(0, .ref h0), (1, .int y1)]) [0, 1] rfl ?_
      exact jX12_firstOf_79 h0 a0 Q C hret u0 y1 hw
    · have hw := hw.2 hc
      refine v_iload C dX12_firstOf_16 4 rfl ?_
      refine v_aload_n C dX12_firstOf_18 0 rfl ?_
      refine v_get (ci := 12) C inT12 0 1 rfl rfl (by decide) mF_X12_9_X12_1 rfl dX12_firstOf_19 ?_
      refine v_iload C dX12_firstOf_22 3 rfl ?_
      refine v_iconst (v := 1) C dX12_firstOf_24 (by decide) ?_
      refine v_iadd C dX12_firstOf_25 ?_
      obtain ⟨hi26, hw⟩ := hw
      refine v_iald C 1 rfl hi26 dX12_firstOf_26 ?_
      refine v_icmp_ge (tgt := 79) C dX12_firstOf_27 (by decide) (fun hc => ?_) (fun hc => ?_)
      · have hw := hw.1 hc
        refine v_lv C (lv' := [(0, .ref h0), (1, .int y1)]) [0, 1] rfl ?_
        exact jX12_firstOf_79 h0 a0 Q C hret u0 y1 hw
      · have hw := hw.2 hc
        refine v_iload C dX12_firstOf_30 3 rfl ?_
        refine v_iconst (v := 2) C dX12_firstOf_32 (by decide) ?_
        refine v_iadd C dX12_firstOf_33 ?_
        refine v_bipush (v := 24) C dX12_firstOf_34 (by decide) ?_
        refine v_iload C dX12_firstOf_36 4 rfl ?_
        refine v_imul C dX12_firstOf_38 ?_
        refine v_iadd C dX12_firstOf_39 ?_
        refine v_istore (lv' := [(6, .int ((y4 + 2) + (24 * y5))), (0, .ref h0), (1, .int y1), (3, .int y3), (4, .int y4), (5, .int y5)]) C dX12_firstOf_40 (by decide) rfl ?_
        refine v_aload_n C dX12_firstOf_42 1 rfl ?_
        refine v_get (ci := 12) C inT12 0 1 rfl rfl (by decide) mF_X12_9_X12_1 rfl dX12_firstOf_43 ?_
        refine v_iload C dX12_firstOf_46 0 rfl ?_
        obtain ⟨hi48, hw⟩ := hw
        refine v_iald C 1 rfl hi48 dX12_firstOf_48 ?_
        refine v_if_ne (tgt := 73) C dX12_firstOf_49 (by decide) (fun hc => ?_) (fun hc => ?_)
        · have hw := hw.1 hc
          refine v_iinc (lv' := [(5, .int (y5 + Int32.ofInt 1)), (6, .int ((y4 + 2) + (24 * y5))), (0, .ref h0), (1, .int y1), (3, .int y3), (4, .int y4)]) C dX12_firstOf_73 5 rfl (by decide) rfl ?_
          refine v_goto (tgt := 10) C dX12_firstOf_76 (by decide) ?_
          refine v_lv C (lv' := [(0, .ref h0), (1, .int y1), (3, .int y3), (4, .int y4), (5, .int (y5 + Int32.ofInt 1))]) [2, 3, 4, 5, 0] rfl ?_
          exact ih u0 y1 y3 y4 (y5 + Int32.ofInt 1) hw
        · have hw := hw.2 hc
          refine v_aload_n C dX12_firstOf_52 1 rfl ?_
          refine v_iload C dX12_firstOf_53 0 rfl ?_
          refine v_iload_n C dX12_firstOf_55 2 rfl ?_
          refine v_iload_n C dX12_firstOf_56 3 rfl ?_
          refine v_callFi (st := []) (ci := 12) (qb := 0) C (kX12_holdFor h0 a0 _ _ _ _ hw) mM_X12_358 mI_X12 mC_X12_holdFor mN_X12_holdFor mS_X12_holdFor rfl rfl hd_X12_holdFor ⟨Nat.le_of_ble_eq_true rfl, Nat.le_of_ble_eq_true rfl⟩ ⟨Nat.le_of_ble_eq_true rfl, Nat.le_of_ble_eq_true rfl⟩ rfl (Nat.le_of_ble_eq_true rfl) dX12_firstOf_57 (fun r57 v57_0 hw => ?_)
          obtain ⟨h01_57, hw⟩ := hw
          have hw := hw h01_57
          refine v_if_eq (tgt := 73) C dX12_firstOf_60 (by decide) (fun hc => ?_) (fun hc => ?_)
          · have hw := hw.1 hc
            refine v_iinc (lv' := [(5, .int (y5 + Int32.ofInt 1)), (6, .int ((y4 + 2) + (24 * y5))), (0, .ref h0), (1, .int y1), (3, .int y3), (4, .int y4)]) C dX12_firstOf_73 5 rfl (by decide) rfl ?_
            refine v_goto (tgt := 10) C dX12_firstOf_76 (by decide) ?_
            refine v_lv C (lv' := [(0, .ref h0), (1, .int y1), (3, .int y3), (4, .int y4), (5, .int (y5 + Int32.ofInt 1))]) [2, 3, 4, 5, 0] rfl ?_
            exact ih v57_0 y1 y3 y4 (y5 + Int32.ofInt 1) hw
          · have hw := hw.2 hc
            refine v_aload_n C dX12_firstOf_63 1 rfl ?_
            refine v_get (ci := 12) C inT12 0 1 rfl rfl (by decide) mF_X12_9_X12_1 rfl dX12_firstOf_64 ?_
            refine v_iload C dX12_firstOf_67 0 rfl ?_
            refine v_iconst (v := 1) C dX12_firstOf_69 (by decide) ?_
            refine v_iadd C dX12_firstOf_70 ?_
            obtain ⟨hi71, hw⟩ := hw
            refine v_iald C 1 rfl hi71 dX12_firstOf_71 ?_
            exact hret _ _ _ _ (gA v57_0 1 (((y4 + 2) + (24 * y5)) + 1).toNatClampNeg) v57_0 dX12_firstOf_72 rfl hw (Nat.le_of_ble_eq_true rfl) (Nat.le_of_ble_eq_true rfl)
set_option maxHeartbeats 4000000 in
set_option maxRecDepth 100000 in
theorem kX12_firstOf {l : Launch} {E : VE} (h0 : Nat) (a0 : Nat → Nat) (u0 : Md) (x1 : Int32) (x2 : Int32) (x3 : Int32) {Q : Int32 → Md → Prop} (hw : qX12_firstOf u0 x1 x2 x3 Q) : MI l yX12_firstOf cX12_firstOf 7 .int 2 0 0 E [.ref h0, .int x1, .int x2, .int x3] ([wX12 E h0 a0 u0].flatten) (fun (U : Md) => [wX12 E h0 a0 U].flatten) (fun (r : Int32) (U : Md) => Q r U) := by
  refine MI.of (own := RX12) (by decide) rfl (Nat.le_of_ble_eq_true rfl) ?_
  intro X C hini hret
  show VV X 0 0 ([wX12 E h0 a0 u0].flatten) [(0, .ref h0), (1, .int x1), (2, .int x2), (3, .int x3)] 0 []
  unfold qX12_firstOf at hw
  refine v_aload_n C dX12_firstOf_0 0 rfl ?_
  refine v_iload_n C dX12_firstOf_1 2 rfl ?_
  refine v_callFi (st := []) (ci := 12) (qb := 0) C (kX12_actOf h0 a0 _ _ hw) mM_X12_352 mI_X12 mC_X12_actOf mN_X12_actOf mS_X12_actOf rfl rfl hd_X12_actOf ⟨Nat.le_of_ble_eq_true rfl, Nat.le_of_ble_eq_true rfl⟩ ⟨Nat.le_of_ble_eq_true rfl, Nat.le_of_ble_eq_true rfl⟩ rfl (Nat.le_of_ble_eq_true rfl) dX12_firstOf_2 (fun r2 v2_0 hw => ?_)
  refine v_istore (lv' := [(4, .int r2), (0, .ref h0), (1, .int x1), (2, .int x2), (3, .int x3)]) C dX12_firstOf_5 (by decide) rfl ?_
  refine v_iconst (v := 0) C dX12_firstOf_7 (by decide) ?_
  refine v_istore (lv' := [(5, .int 0), (4, .int r2), (0, .ref h0), (1, .int x1), (2, .int x2), (3, .int x3)]) C dX12_firstOf_8 (by decide) rfl ?_
  refine v_lv C (lv' := [(0, .ref h0), (1, .int x1), (3, .int x3), (4, .int r2), (5, .int 0)]) [2, 3, 5, 1, 0] rfl ?_
  obtain ⟨n', hw⟩ := hw
  exact jX12_firstOf_10 h0 a0 Q C hret n' v2_0 x1 x3 r2 0 hw
set_option maxHeartbeats 4000000 in
set_option maxRecDepth 100000 in
theorem jX12_besideOf_89 {X : VX} {E : VE} {l : Launch} (h0 : Nat) (a0 : Nat → Nat)  (Q : Int32 → Md → Prop) (C : VC X cX12_besideOf 7 RX12 (rmL 3 0 0) E l) (hret : RetI X cX12_besideOf .int 0 0 (fun (U : Md) => [wX12 E h0 a0 U].flatten) (fun (r : Int32) (U : Md) => Q r U))  : ∀ (u0 : Md) (y1 : Int32) (y2 : Int32) (y3 : Int32) (y5 : Int32), qX12_besideOf_89 Q u0 y1 y2 y3 y5 → VV X 0 0 ([wX12 E h0 a0 u0].flatten) [(0, .ref h0), (1, .int y1), (2, .int y2), (3, .int y3), (5, .int y5)] 89 [] := by
  intro u0 y1 y2 y3 y5 hw
  unfold qX12_besideOf_89 at hw
  refine v_aload_n C dX12_besideOf_89 0 rfl ?_
  refine v_iload_n C dX12_besideOf_90 1 rfl ?_
  refine v_aload_n C dX12_besideOf_91 0 rfl ?_
  refine v_iload_n C dX12_besideOf_92 1 rfl ?_
  refine v_iload_n C dX12_besideOf_93 2 rfl ?_
  refine v_iload_n C dX12_besideOf_94 3 rfl ?_
  refine v_callFi (st := [.int y1, .ref h0]) (ci := 12) (qb := 0) C (kX12_firstOf h0 a0 _ _ _ _ hw) mM_X12_365 mI_X12 mC_X12_firstOf mN_X12_firstOf mS_X12_firstOf rfl rfl hd_X12_firstOf ⟨Nat.le_of_ble_eq_true rfl, Nat.le_of_ble_eq_true rfl⟩ ⟨Nat.le_of_ble_eq_true rfl, Nat.le_of_ble_eq_true rfl⟩ rfl (Nat.le_of_ble_eq_true rfl) dX12_besideOf_95 (fun r95 v95_0 hw => ?_)
  refine v_callFi (st := []) (ci := 12) (qb := 0) C (kX12_most h0 a0 _ _ _ hw) mM_X12_362 mI_X12 mC_X12_most mN_X12_most mS_X12_most rfl rfl hd_X12_most ⟨Nat.le_of_ble_eq_true rfl, Nat.le_of_ble_eq_true rfl⟩ ⟨Nat.le_of_ble_eq_true rfl, Nat.le_of_ble_eq_true rfl⟩ rfl (Nat.le_of_ble_eq_true rfl) dX12_besideOf_98 (fun r98 v98_0 hw => ?_)
  refine v_istore (lv' := [(6, .int r98), (0, .ref h0), (1, .int y1), (2, .int y2), (3, .int y3), (5, .int y5)]) C dX12_besideOf_101 (by decide) rfl ?_
  refine v_iload C dX12_besideOf_103 5 rfl ?_
  refine v_if_eq (tgt := 127) C dX12_besideOf_105 (by decide) (fun hc => ?_) (fun hc => ?_)
  · have hw := hw.1 hc
    refine v_iconst (v := (-1)) C dX12_besideOf_127 (by decide) ?_
    exact hret _ _ _ _ ((-1)) v98_0 dX12_besideOf_128 rfl hw (Nat.le_of_ble_eq_true rfl) (Nat.le_of_ble_eq_true rfl)
  · have hw := hw.2 hc
    refine v_aload_n C dX12_besideOf_108 1 rfl ?_
    refine v_get (ci := 12) C inT12 0 9 rfl rfl (by decide) mF_X12_34_X12_9 rfl dX12_besideOf_109 ?_
    refine v_iconst (v := 3) C dX12_besideOf_112 (by decide) ?_
    refine v_iload_n C dX12_besideOf_113 2 rfl ?_
    refine v_imul C dX12_besideOf_114 ?_
    refine v_iload C dX12_besideOf_115 0 rfl ?_
    refine v_iadd C dX12_besideOf_117 ?_
    obtain ⟨hi118, hw⟩ := hw
    refine v_iald C 8 rfl hi118 dX12_besideOf_118 ?_
    refine v_if_le (tgt := 127) C dX12_besideOf_119 (by decide) (fun hc => ?_) (fun hc => ?_)
    · have hw := hw.1 hc
      refine v_iconst (v := (-1)) C dX12_besideOf_127 (by decide) ?_
      exact hret _ _ _ _ ((-1)) v98_0 dX12_besideOf_128 rfl hw (Nat.le_of_ble_eq_true rfl) (Nat.le_of_ble_eq_true rfl)
    · have hw := hw.2 hc
      refine v_iload C dX12_besideOf_122 0 rfl ?_
      refine v_goto (tgt := 128) C dX12_besideOf_124 (by decide) ?_
      exact hret _ _ _ _ r98 v98_0 dX12_besideOf_128 rfl hw (Nat.le_of_ble_eq_true rfl) (Nat.le_of_ble_eq_true rfl)
set_option maxHeartbeats 4000000 in
set_option maxRecDepth 100000 in
theorem jX12_besideOf_76 {X : VX} {E : VE} {l : Launch} (h0 : Nat) (a0 : Nat → Nat)  (Q : Int32 → Md → Prop) (C : VC X cX12_besideOf 7 RX12 (rmL 3 0 0) E l) (hret : RetI X cX12_besideOf .int 0 0 (fun (U : Md) => [wX12 E h0 a0 U].flatten) (fun (r : Int32) (U : Md) => Q r U)) (K13 : Md → Int32 → Int32 → Int32 → Int32 → Int32 → Int32 → Prop) (hK13 : ∀ (u0 : Md) (y1 : Int32) (y2 : Int32) (y3 : Int32) (y4 : Int32) (y5 : Int32) (y6 : Int32), K13 u0 y1 y2 y3 y4 y5 y6 → VV X 0 0 ([wX12 E h0 a0 u0].flatten) [(0, .ref h0), (1, .int y1), (2, .int y2), (3, .int y3), (4, .int y4), (5, .int y5), (6, .int y6)] 13 []) : ∀ (u0 : Md) (y1 : Int32) (y2 : Int32) (y3 : Int32) (y4 : Int32) (y6 : Int32), qX12_besideOf_76 Q K13 u0 y1 y2 y3 y4 y6 → VV X 0 0 ([wX12 E h0 a0 u0].flatten) [(0, .ref h0), (1, .int y1), (2, .int y2), (3, .int y3), (4, .int y4), (6, .int y6)] 76 [] := by
  intro u0 y1 y2 y3 y4 y6 hw
  unfold qX12_besideOf_76 at hw
  refine v_iconst (v := 1) C dX12_besideOf_76 (by decide) ?_
  refine v_goto (tgt := 81) C dX12_besideOf_77 (by decide) ?_
  refine v_istore (lv' := [(5, .int 1), (0, .ref h0), (1, .int y1), (2, .int y2), (3, .int y3), (4, .int y4), (6, .int y6)]) C dX12_besideOf_81 (by decide) rfl ?_
  refine v_iinc (lv' := [(6, .int (y6 + Int32.ofInt 1)), (5, .int 1), (0, .ref h0), (1, .int y1), (2, .int y2), (3, .int y3), (4, .int y4)]) C dX12_besideOf_83 6 rfl (by decide) rfl ?_
  refine v_goto (tgt := 13) C dX12_besideOf_86 (by decide) ?_
  refine v_lv C (lv' := [(0, .ref h0), (1, .int y1), (2, .int y2), (3, .int y3), (4, .int y4), (5, .int 1), (6, .int (y6 + Int32.ofInt 1))]) [2, 3, 4, 5, 6, 1, 0] rfl ?_
  exact hK13 u0 y1 y2 y3 y4 1 (y6 + Int32.ofInt 1) hw
set_option maxHeartbeats 4000000 in
set_option maxRecDepth 100000 in
theorem jX12_besideOf_80 {X : VX} {E : VE} {l : Launch} (h0 : Nat) (a0 : Nat → Nat)  (Q : Int32 → Md → Prop) (C : VC X cX12_besideOf 7 RX12 (rmL 3 0 0) E l) (hret : RetI X cX12_besideOf .int 0 0 (fun (U : Md) => [wX12 E h0 a0 U].flatten) (fun (r : Int32) (U : Md) => Q r U)) (K13 : Md → Int32 → Int32 → Int32 → Int32 → Int32 → Int32 → Prop) (hK13 : ∀ (u0 : Md) (y1 : Int32) (y2 : Int32) (y3 : Int32) (y4 : Int32) (y5 : Int32) (y6 : Int32), K13 u0 y1 y2 y3 y4 y5 y6 → VV X 0 0 ([wX12 E h0 a0 u0].flatten) [(0, .ref h0), (1, .int y1), (2, .int y2), (3, .int y3), (4, .int y4), (5, .int y5), (6, .int y6)] 13 []) : ∀ (u0 : Md) (y1 : Int32) (y2 : Int32) (y3 : Int32) (y4 : Int32) (y6 : Int32), qX12_besideOf_80 Q K13 u0 y1 y2 y3 y4 y6 → VV X 0 0 ([wX12 E h0 a0 u0].flatten) [(0, .ref h0), (1, .int y1), (2, .int y2), (3, .int y3), (4, .int y4), (6, .int y6)] 80 [] := by
  intro u0 y1 y2 y3 y4 y6 hw
  unfold qX12_besideOf_80 at hw
  refine v_iconst (v := 0) C dX12_besideOf_80 (by decide) ?_
  refine v_istore (lv' := [(5, .int 0), (0, .ref h0), (1, .int y1), (2, .int y2), (3, .int y3), (4, .int y4), (6, .int y6)]) C dX12_besideOf_81 (by decide) rfl ?_
  refine v_iinc (lv' := [(6, .int (y6 + Int32.ofInt 1)), (5, .int 0), (0, .ref h0), (1, .int y1), (2, .int y2), (3, .int y3), (4, .int y4)]) C dX12_besideOf_83 6 rfl (by decide) rfl ?_
  refine v_goto (tgt := 13) C dX12_besideOf_86 (by decide) ?_
  refine v_lv C (lv' := [(0, .ref h0), (1, .int y1), (2, .int y2), (3, .int y3), (4, .int y4), (5, .int 0), (6, .int (y6 + Int32.ofInt 1))]) [2, 3, 4, 5, 6, 1, 0] rfl ?_
  exact hK13 u0 y1 y2 y3 y4 0 (y6 + Int32.ofInt 1) hw
set_option maxHeartbeats 4000000 in
set_option maxRecDepth 100000 in
theorem jX12_besideOf_13 {X : VX} {E : VE} {l : Launch} (h0 : Nat) (a0 : Nat → Nat)  (Q : Int32 → Md → Prop) (C : VC X cX12_besideOf 7 RX12 (rmL 3 0 0) E l) (hret : RetI X cX12_besideOf .int 0 0 (fun (U : Md) => [wX12 E h0 a0 U].flatten) (fun (r : Int32) (U : Md) => Q r U))  : ∀ (n : Nat), ∀ (u0 : Md) (y1 : Int32) (y2 : Int32) (y3 : Int32) (y4 : Int32) (y5 : Int32) (y6 : Int32), qX12_besideOf_13 Q n u0 y1 y2 y3 y4 y5 y6 → VV X 0 0 ([wX12 E h0 a0 u0].flatten) [(0, .ref h0), (1, .int y1), (2, .int y2), (3, .int y3), (4, .int y4), (5, .int y5), (6, .int y6)] 13 [] := by
  intro n
  induction n with
  | zero =>
    intro u0 y1 y2 y3 y4 y5 y6 hw
    exact hw.elim
  | succ n ih =>
    intro u0 y1 y2 y3 y4 y5 y6 hw
    unfold qX12_besideOf_13 at hw
    refine v_iload C dX12_besideOf_13 4 rfl ?_
    refine v_iconst (v := (-1)) C dX12_besideOf_15 (by decide) ?_
    refine v_icmp_eq (tgt := 89) C dX12_besideOf_16 (by decide) (fun hc => ?_) (fun hc => ?_)
    · have hw := hw.1 hc
      refine v_lv C (lv' := [(0, .ref h0), (1, .int y1), (2, .int y2), (3, .int y3), (5, .int y5)]) [0, 1, 2, 3, 5] rfl ?_
      exact jX12_besideOf_89 h0 a0 Q C hret u0 y1 y2 y3 y5 hw
    · have hw := hw.2 hc
      refine v_iload C dX12_besideOf_19 6 rfl ?_
      refine v_aload_n C dX12_besideOf_21 0 rfl ?_
      refine v_get (ci := 12) C inT12 0 1 rfl rfl (by decide) mF_X12_9_X12_1 rfl dX12_besideOf_22 ?_
      refine v_iload C dX12_besideOf_25 4 rfl ?_
      refine v_iconst (v := 1) C dX12_besideOf_27 (by decide) ?_
      refine v_iadd C dX12_besideOf_28 ?_
      obtain ⟨hi29, hw⟩ := hw
      refine v_iald C 1 rfl hi29 dX12_besideOf_29 ?_
      refine v_icmp_ge (tgt := 89) C dX12_besideOf_30 (by decide) (fun hc => ?_) (fun hc => ?_)
      · have hw := hw.1 hc
        refine v_lv C (lv' := [(0, .ref h0), (1, .int y1), (2, .int y2), (3, .int y3), (5, .int y5)]) [0, 1, 2, 3, 5] rfl ?_
        exact jX12_besideOf_89 h0 a0 Q C hret u0 y1 y2 y3 y5 hw
      · have hw := hw.2 hc
        refine v_iload C dX12_besideOf_33 5 rfl ?_
        refine v_if_ne (tgt := 76) C dX12_besideOf_35 (by decide) (fun hc => ?_) (fun hc => ?_)
        · have hw := hw.1 hc
          refine v_lv C (lv' := [(0, .ref h0), (1, .int y1), (2, .int y2), (3, .int y3), (4, .int y4), (6, .int y6)]) [0, 1, 2, 3, 4, 6] rfl ?_
          exact jX12_besideOf_76 h0 a0 Q C hret (qX12_besideOf_13 Q n) ih u0 y1 y2 y3 y4 y6 hw
        · have hw := hw.2 hc
          refine v_aload_n C dX12_besideOf_38 0 rfl ?_
          refine v_get (ci := 12) C inT12 0 1 rfl rfl (by decide) mF_X12_9_X12_1 rfl dX12_besideOf_39 ?_
          refine v_iload C dX12_besideOf_42 4 rfl ?_
          refine v_iconst (v := 2) C dX12_besideOf_44 (by decide) ?_
          refine v_iadd C dX12_besideOf_45 ?_
          refine v_bipush (v := 24) C dX12_besideOf_46 (by decide) ?_
          refine v_iload C dX12_besideOf_48 6 rfl ?_
          refine v_imul C dX12_besideOf_50 ?_
          refine v_iadd C dX12_besideOf_51 ?_
          obtain ⟨hi52, hw⟩ := hw
          refine v_iald C 1 rfl hi52 dX12_besideOf_52 ?_
          refine v_iconst (v := 1) C dX12_besideOf_53 (by decide) ?_
          refine v_icmp_ne (tgt := 80) C dX12_besideOf_54 (by decide) (fun hc => ?_) (fun hc => ?_)
          · have hw := hw.1 hc
            refine v_lv C (lv' := [(0, .ref h0), (1, .int y1), (2, .int y2), (3, .int y3), (4, .int y4), (6, .int y6)]) [0, 1, 2, 3, 4, 6] rfl ?_
            exact jX12_besideOf_80 h0 a0 Q C hret (qX12_besideOf_13 Q n) ih u0 y1 y2 y3 y4 y6 hw
          · have hw := hw.2 hc
            refine v_aload_n C dX12_besideOf_57 0 rfl ?_
            refine v_iload C dX12_besideOf_58 4 rfl ?_
            refine v_iconst (v := 2) C dX12_besideOf_60 (by decide) ?_
            refine v_iadd C dX12_besideOf_61 ?_
            refine v_bipush (v := 24) C dX12_besideOf_62 (by decide) ?_
            refine v_iload C dX12_besideOf_64 6 rfl ?_
            refine v_imul C dX12_besideOf_66 ?_
            refine v_iadd C dX12_besideOf_67 ?_
            refine v_iload_n C dX12_besideOf_68 1 rfl ?_
            refine v_iload_n C dX12_besideOf_69 3 rfl ?_
            refine v_callFi (st := []) (ci := 12) (qb := 0) C (kX12_holdFor h0 a0 _ _ _ _ hw) mM_X12_358 mI_X12 mC_X12_holdFor mN_X12_holdFor mS_X12_holdFor rfl rfl hd_X12_holdFor ⟨Nat.le_of_ble_eq_true rfl, Nat.le_of_ble_eq_true rfl⟩ ⟨Nat.le_of_ble_eq_true rfl, Nat.le_of_ble_eq_true rfl⟩ rfl (Nat.le_of_ble_eq_true rfl) dX12_besideOf_70 (fun r70 v70_0 hw => ?_)
            obtain ⟨h01_70, hw⟩ := hw
            have hw := hw h01_70
            refine v_if_eq (tgt := 80) C dX12_besideOf_73 (by decide) (fun hc => ?_) (fun hc => ?_)
            · have hw := hw.1 hc
              refine v_lv C (lv' := [(0, .ref h0), (1, .int y1), (2, .int y2), (3, .int y3), (4, .int y4), (6, .int y6)]) [0, 1, 2, 3, 4, 6] rfl ?_
              exact jX12_besideOf_80 h0 a0 Q C hret (qX12_besideOf_13 Q n) ih v70_0 y1 y2 y3 y4 y6 hw
            · have hw := hw.2 hc
              refine v_lv C (lv' := [(0, .ref h0), (1, .int y1), (2, .int y2), (3, .int y3), (4, .int y4), (6, .int y6)]) [0, 1, 2, 3, 4, 6] rfl ?_
              exact jX12_besideOf_76 h0 a0 Q C hret (qX12_besideOf_13 Q n) ih v70_0 y1 y2 y3 y4 y6 hw
set_option maxHeartbeats 4000000 in
set_option maxRecDepth 100000 in
theorem kX12_besideOf {l : Launch} {E : VE} (h0 : Nat) (a0 : Nat → Nat) (u0 : Md) (x1 : Int32) (x2 : Int32) (x3 : Int32) {Q : Int32 → Md → Prop} (hw : qX12_besideOf u0 x1 x2 x3 Q) : MI l yX12_besideOf cX12_besideOf 7 .int 3 0 0 E [.ref h0, .int x1, .int x2, .int x3] ([wX12 E h0 a0 u0].flatten) (fun (U : Md) => [wX12 E h0 a0 U].flatten) (fun (r : Int32) (U : Md) => Q r U) := by
  refine MI.of (own := RX12) (by decide) rfl (Nat.le_of_ble_eq_true rfl) ?_
  intro X C hini hret
  show VV X 0 0 ([wX12 E h0 a0 u0].flatten) [(0, .ref h0), (1, .int x1), (2, .int x2), (3, .int x3)] 0 []
  unfold qX12_besideOf at hw
  refine v_aload_n C dX12_besideOf_0 0 rfl ?_
  refine v_iload_n C dX12_besideOf_1 2 rfl ?_
  refine v_callFi (st := []) (ci := 12) (qb := 0) C (kX12_actOf h0 a0 _ _ hw) mM_X12_352 mI_X12 mC_X12_actOf mN_X12_actOf mS_X12_actOf rfl rfl hd_X12_actOf ⟨Nat.le_of_ble_eq_true rfl, Nat.le_of_ble_eq_true rfl⟩ ⟨Nat.le_of_ble_eq_true rfl, Nat.le_of_ble_eq_true rfl⟩ rfl (Nat.le_of_ble_eq_true rfl) dX12_besideOf_2 (fun r2 v2_0 hw => ?_)
  refine v_istore (lv' := [(4, .int r2), (0, .ref h0), (1, .int x1), (2, .int x2), (3, .int x3)]) C dX12_besideOf_5 (by decide) rfl ?_
  refine v_iconst (v := 0) C dX12_besideOf_7 (by decide) ?_
  refine v_istore (lv' := [(5, .int 0), (4, .int r2), (0, .ref h0), (1, .int x1), (2, .int x2), (3, .int x3)]) C dX12_besideOf_8 (by decide) rfl ?_
  refine v_iconst (v := 0) C dX12_besideOf_10 (by decide) ?_
  refine v_istore (lv' := [(6, .int 0), (5, .int 0), (4, .int r2), (0, .ref h0), (1, .int x1), (2, .int x2), (3, .int x3)]) C dX12_besideOf_11 (by decide) rfl ?_
  refine v_lv C (lv' := [(0, .ref h0), (1, .int x1), (2, .int x2), (3, .int x3), (4, .int r2), (5, .int 0), (6, .int 0)]) [3, 4, 5, 6, 2, 1, 0] rfl ?_
  obtain ⟨n', hw⟩ := hw
  exact jX12_besideOf_13 h0 a0 Q C hret n' v2_0 x1 x2 x3 r2 0 0 hw
set_option maxHeartbeats 4000000 in
set_option maxRecDepth 100000 in
theorem kX12_first {l : Launch} {E : VE} (h0 : Nat) (a0 : Nat → Nat) (u0 : Md) (x1 : Int32) (x2 : Int32) (x3 : Int32) {Q : Int32 → Md → Prop} (hw : qX12_first u0 x1 x2 x3 Q) : MI l yX12_first cX12_first 5 .int 3 0 0 E [.ref h0, .int x1, .int x2, .int x3] ([wX12 E h0 a0 u0].flatten) (fun (U : Md) => [wX12 E h0 a0 U].flatten) (fun (r : Int32) (U : Md) => Q r U) := by
  refine MI.of (own := RX12) (by decide) rfl (Nat.le_of_ble_eq_true rfl) ?_
  intro X C hini hret
  show VV X 0 0 ([wX12 E h0 a0 u0].flatten) [(0, .ref h0), (1, .int x1), (2, .int x2), (3, .int x3)] 0 []
  unfold qX12_first at hw
  refine v_aload_n C dX12_first_0 0 rfl ?_
  refine v_iload_n C dX12_first_1 1 rfl ?_
  refine v_callFi (st := []) (ci := 12) (qb := 0) C (kX12_isPlace h0 a0 _ _ hw) mM_X12_147 mI_X12 mC_X12_isPlace mN_X12_isPlace mS_X12_isPlace rfl rfl hd_X12_isPlace ⟨Nat.le_of_ble_eq_true rfl, Nat.le_of_ble_eq_true rfl⟩ ⟨Nat.le_of_ble_eq_true rfl, Nat.le_of_ble_eq_true rfl⟩ rfl (Nat.le_of_ble_eq_true rfl) dX12_first_2 (fun r2 v2_0 hw => ?_)
  obtain ⟨h01_2, hw⟩ := hw
  have hw := hw h01_2
  refine v_if_eq (tgt := 22) C dX12_first_5 (by decide) (fun hc => ?_) (fun hc => ?_)
  · have hw := hw.1 hc
    refine v_bipush (v := (-2)) C dX12_first_22 (by decide) ?_
    exact hret _ _ _ _ ((-2)) v2_0 dX12_first_24 rfl hw (Nat.le_of_ble_eq_true rfl) (Nat.le_of_ble_eq_true rfl)
  · have hw := hw.2 hc
    refine v_iload_n C dX12_first_8 2 rfl ?_
    refine v_callSPi (st := []) C (kX12_isYear _ hw) mM_X12_160 mI_X12 mC_X12_isYear mT_X12_isYear hd_X12_isYear ⟨Nat.le_of_ble_eq_true rfl, Nat.le_of_ble_eq_true rfl⟩ ⟨Nat.le_of_ble_eq_true rfl, Nat.le_of_ble_eq_true rfl⟩ rfl (Nat.le_of_ble_eq_true rfl) dX12_first_9 (fun r9 U9 hw => ?_)
    obtain ⟨h01_9, hw⟩ := hw
    have hw := hw h01_9
    refine v_if_eq (tgt := 22) C dX12_first_12 (by decide) (fun hc => ?_) (fun hc => ?_)
    · have hw := hw.1 hc
      refine v_bipush (v := (-2)) C dX12_first_22 (by decide) ?_
      exact hret _ _ _ _ ((-2)) v2_0 dX12_first_24 rfl hw (Nat.le_of_ble_eq_true rfl) (Nat.le_of_ble_eq_true rfl)
    · have hw := hw.2 hc
      refine v_iload_n C dX12_first_15 3 rfl ?_
      refine v_callSPi (st := []) C (kX12_isYear _ hw) mM_X12_160 mI_X12 mC_X12_isYear mT_X12_isYear hd_X12_isYear ⟨Nat.le_of_ble_eq_true rfl, Nat.le_of_ble_eq_true rfl⟩ ⟨Nat.le_of_ble_eq_true rfl, Nat.le_of_ble_eq_true rfl⟩ rfl (Nat.le_of_ble_eq_true rfl) dX12_first_16 (fun r16 U16 hw => ?_)
      obtain ⟨h01_16, hw⟩ := hw
      have hw := hw h01_16
      refine v_if_ne (tgt := 25) C dX12_first_19 (by decide) (fun hc => ?_) (fun hc => ?_)
      · have hw := hw.1 hc
        refine v_iload_n C dX12_first_25 2 rfl ?_
        refine v_iload_n C dX12_first_26 3 rfl ?_
        refine v_imin C mM_X12_163 ⟨Nat.le_of_ble_eq_true rfl, Nat.le_of_ble_eq_true rfl, Nat.le_of_ble_eq_true rfl, Nat.le_of_ble_eq_true rfl⟩ dX12_first_27 ?_
        refine v_istore (lv' := [(4, .int (imin x2 x3)), (0, .ref h0), (1, .int x1), (2, .int x2), (3, .int x3)]) C dX12_first_30 (by decide) rfl ?_
        refine v_aload_n C dX12_first_32 1 rfl ?_
        refine v_iload C dX12_first_33 0 rfl ?_
        refine v_callFv (st := []) (ci := 12) (qb := 0) C (kX12_looks h0 a0 _ _ hw) mM_X12_151 mI_X12 mC_X12_looks mN_X12_looks mS_X12_looks rfl rfl hd_X12_looks ⟨Nat.le_of_ble_eq_true rfl, Nat.le_of_ble_eq_true rfl⟩ ⟨Nat.le_of_ble_eq_true rfl, Nat.le_of_ble_eq_true rfl⟩ rfl (Nat.le_of_ble_eq_true rfl) dX12_first_35 (fun v35_0 hw => ?_)
        refine v_aload_n C dX12_first_38 1 rfl ?_
        refine v_iload_n C dX12_first_39 2 rfl ?_
        refine v_iload C dX12_first_40 0 rfl ?_
        refine v_iload_n C dX12_first_42 3 rfl ?_
        refine v_callFi (st := []) (ci := 12) (qb := 0) C (kX12_firstOf h0 a0 _ _ _ _ hw) mM_X12_365 mI_X12 mC_X12_firstOf mN_X12_firstOf mS_X12_firstOf rfl rfl hd_X12_firstOf ⟨Nat.le_of_ble_eq_true rfl, Nat.le_of_ble_eq_true rfl⟩ ⟨Nat.le_of_ble_eq_true rfl, Nat.le_of_ble_eq_true rfl⟩ rfl (Nat.le_of_ble_eq_true rfl) dX12_first_43 (fun r43 v43_0 hw => ?_)
        exact hret _ _ _ _ r43 v43_0 dX12_first_46 rfl hw (Nat.le_of_ble_eq_true rfl) (Nat.le_of_ble_eq_true rfl)
      · have hw := hw.2 hc
        refine v_bipush (v := (-2)) C dX12_first_22 (by decide) ?_
        exact hret _ _ _ _ ((-2)) v2_0 dX12_first_24 rfl hw (Nat.le_of_ble_eq_true rfl) (Nat.le_of_ble_eq_true rfl)
set_option maxHeartbeats 4000000 in
set_option maxRecDepth 100000 in
theorem kX12_beside {l : Launch} {E : VE} (h0 : Nat) (a0 : Nat → Nat) (u0 : Md) (x1 : Int32) (x2 : Int32) (x3 : Int32) {Q : Int32 → Md → Prop} (hw : qX12_beside u0 x1 x2 x3 Q) : MI l yX12_beside cX12_beside 5 .int 4 0 0 E [.ref h0, .int x1, .int x2, .int x3] ([wX12 E h0 a0 u0].flatten) (fun (U : Md) => [wX12 E h0 a0 U].flatten) (fun (r : Int32) (U : Md) => Q r U) := by
  refine MI.of (own := RX12) (by decide) rfl (Nat.le_of_ble_eq_true rfl) ?_
  intro X C hini hret
  show VV X 0 0 ([wX12 E h0 a0 u0].flatten) [(0, .ref h0), (1, .int x1), (2, .int x2), (3, .int x3)] 0 []
  unfold qX12_beside at hw
  refine v_aload_n C dX12_beside_0 0 rfl ?_
  refine v_iload_n C dX12_beside_1 1 rfl ?_
  refine v_callFi (st := []) (ci := 12) (qb := 0) C (kX12_isPlace h0 a0 _ _ hw) mM_X12_147 mI_X12 mC_X12_isPlace mN_X12_isPlace mS_X12_isPlace rfl rfl hd_X12_isPlace ⟨Nat.le_of_ble_eq_true rfl, Nat.le_of_ble_eq_true rfl⟩ ⟨Nat.le_of_ble_eq_true rfl, Nat.le_of_ble_eq_true rfl⟩ rfl (Nat.le_of_ble_eq_true rfl) dX12_beside_2 (fun r2 v2_0 hw => ?_)
  obtain ⟨h01_2, hw⟩ := hw
  have hw := hw h01_2
  refine v_if_eq (tgt := 22) C dX12_beside_5 (by decide) (fun hc => ?_) (fun hc => ?_)
  · have hw := hw.1 hc
    refine v_bipush (v := (-2)) C dX12_beside_22 (by decide) ?_
    exact hret _ _ _ _ ((-2)) v2_0 dX12_beside_24 rfl hw (Nat.le_of_ble_eq_true rfl) (Nat.le_of_ble_eq_true rfl)
  · have hw := hw.2 hc
    refine v_iload_n C dX12_beside_8 2 rfl ?_
    refine v_callSPi (st := []) C (kX12_isYear _ hw) mM_X12_160 mI_X12 mC_X12_isYear mT_X12_isYear hd_X12_isYear ⟨Nat.le_of_ble_eq_true rfl, Nat.le_of_ble_eq_true rfl⟩ ⟨Nat.le_of_ble_eq_true rfl, Nat.le_of_ble_eq_true rfl⟩ rfl (Nat.le_of_ble_eq_true rfl) dX12_beside_9 (fun r9 U9 hw => ?_)
    obtain ⟨h01_9, hw⟩ := hw
    have hw := hw h01_9
    refine v_if_eq (tgt := 22) C dX12_beside_12 (by decide) (fun hc => ?_) (fun hc => ?_)
    · have hw := hw.1 hc
      refine v_bipush (v := (-2)) C dX12_beside_22 (by decide) ?_
      exact hret _ _ _ _ ((-2)) v2_0 dX12_beside_24 rfl hw (Nat.le_of_ble_eq_true rfl) (Nat.le_of_ble_eq_true rfl)
    · have hw := hw.2 hc
      refine v_iload_n C dX12_beside_15 3 rfl ?_
      refine v_callSPi (st := []) C (kX12_isYear _ hw) mM_X12_160 mI_X12 mC_X12_isYear mT_X12_isYear hd_X12_isYear ⟨Nat.le_of_ble_eq_true rfl, Nat.le_of_ble_eq_true rfl⟩ ⟨Nat.le_of_ble_eq_true rfl, Nat.le_of_ble_eq_true rfl⟩ rfl (Nat.le_of_ble_eq_true rfl) dX12_beside_16 (fun r16 U16 hw => ?_)
      obtain ⟨h01_16, hw⟩ := hw
      have hw := hw h01_16
      refine v_if_ne (tgt := 25) C dX12_beside_19 (by decide) (fun hc => ?_) (fun hc => ?_)
      · have hw := hw.1 hc
        refine v_iload_n C dX12_beside_25 2 rfl ?_
        refine v_iload_n C dX12_beside_26 3 rfl ?_
        refine v_imin C mM_X12_163 ⟨Nat.le_of_ble_eq_true rfl, Nat.le_of_ble_eq_true rfl, Nat.le_of_ble_eq_true rfl, Nat.le_of_ble_eq_true rfl⟩ dX12_beside_27 ?_
        refine v_istore (lv' := [(4, .int (imin x2 x3)), (0, .ref h0), (1, .int x1), (2, .int x2), (3, .int x3)]) C dX12_beside_30 (by decide) rfl ?_
        refine v_aload_n C dX12_beside_32 1 rfl ?_
        refine v_iload C dX12_beside_33 0 rfl ?_
        refine v_callFv (st := []) (ci := 12) (qb := 0) C (kX12_looks h0 a0 _ _ hw) mM_X12_151 mI_X12 mC_X12_looks mN_X12_looks mS_X12_looks rfl rfl hd_X12_looks ⟨Nat.le_of_ble_eq_true rfl, Nat.le_of_ble_eq_true rfl⟩ ⟨Nat.le_of_ble_eq_true rfl, Nat.le_of_ble_eq_true rfl⟩ rfl (Nat.le_of_ble_eq_true rfl) dX12_beside_35 (fun v35_0 hw => ?_)
        refine v_aload_n C dX12_beside_38 1 rfl ?_
        refine v_iload_n C dX12_beside_39 2 rfl ?_
        refine v_iload C dX12_beside_40 0 rfl ?_
        refine v_iload_n C dX12_beside_42 3 rfl ?_
        refine v_callFi (st := []) (ci := 12) (qb := 0) C (kX12_besideOf h0 a0 _ _ _ _ hw) mM_X12_368 mI_X12 mC_X12_besideOf mN_X12_besideOf mS_X12_besideOf rfl rfl hd_X12_besideOf ⟨Nat.le_of_ble_eq_true rfl, Nat.le_of_ble_eq_true rfl⟩ ⟨Nat.le_of_ble_eq_true rfl, Nat.le_of_ble_eq_true rfl⟩ rfl (Nat.le_of_ble_eq_true rfl) dX12_beside_43 (fun r43 v43_0 hw => ?_)
        exact hret _ _ _ _ r43 v43_0 dX12_beside_46 rfl hw (Nat.le_of_ble_eq_true rfl) (Nat.le_of_ble_eq_true rfl)
      · have hw := hw.2 hc
        refine v_bipush (v := (-2)) C dX12_beside_22 (by decide) ?_
        exact hret _ _ _ _ ((-2)) v2_0 dX12_beside_24 rfl hw (Nat.le_of_ble_eq_true rfl) (Nat.le_of_ble_eq_true rfl)
set_option maxHeartbeats 4000000 in
set_option maxRecDepth 100000 in
theorem jX12_swings_177 {X : VX} {E : VE} {l : Launch} (h0 : Nat) (a0 : Nat → Nat)  (Q : Int32 → Md → Prop) (C : VC X cX12_swings 9 RX12 (rmL 3 0 0) E l) (hret : RetI X cX12_swings .int 0 0 (fun (U : Md) => [wX12 E h0 a0 U].flatten) (fun (r : Int32) (U : Md) => Q r U)) (K38 : Md → Int32 → Int32 → Int32 → Int32 → Prop) (K47 : Md → Int32 → Int32 → Int32 → Int32 → Int32 → Prop) (hK38 : ∀ (u0 : Md) (y1 : Int32) (y2 : Int32) (y3 : Int32) (y4 : Int32), K38 u0 y1 y2 y3 y4 → VV X 0 0 ([wX12 E h0 a0 u0].flatten) [(0, .ref h0), (1, .int y1), (2, .int y2), (3, .int y3), (4, .int y4)] 38 []) (hK47 : ∀ (u0 : Md) (y1 : Int32) (y2 : Int32) (y3 : Int32) (y4 : Int32) (y5 : Int32), K47 u0 y1 y2 y3 y4 y5 → VV X 0 0 ([wX12 E h0 a0 u0].flatten) [(0, .ref h0), (1, .int y1), (2, .int y2), (3, .int y3), (4, .int y4), (5, .int y5)] 47 []) : ∀ (u0 : Md) (y1 : Int32) (y2 : Int32) (y3 : Int32) (y4 : Int32) (y5 : Int32) (y6 : Int32) (y7 : Int32), qX12_swings_177 Q K38 K47 u0 y1 y2 y3 y4 y5 y6 y7 → VV X 0 0 ([wX12 E h0 a0 u0].flatten) [(0, .ref h0), (1, .int y1), (2, .int y2), (3, .int y3), (4, .int y4), (5, .int y5), (6, .int y6), (7, .int y7)] 177 [] := by
  intro u0 y1 y2 y3 y4 y5 y6 y7 hw
  unfold qX12_swings_177 at hw
  refine v_aload_n C dX12_swings_177 0 rfl ?_
  refine v_get (ci := 12) C inT12 0 9 rfl rfl (by decide) mF_X12_34_X12_9 rfl dX12_swings_178 ?_
  refine v_iconst (v := 3) C dX12_swings_181 (by decide) ?_
  refine v_iload_n C dX12_swings_182 1 rfl ?_
  refine v_imul C dX12_swings_183 ?_
  refine v_iload C dX12_swings_184 4 rfl ?_
  refine v_iadd C dX12_swings_186 ?_
  refine v_iload C dX12_swings_187 6 rfl ?_
  obtain ⟨hi189, hw⟩ := hw
  obtain ⟨w189, e189⟩ : ∃ z : Md, z = tA u0 9 ((3 * y1) + y4) y6 := ⟨_, rfl⟩
  have hw := hw w189 e189
  refine v_iast (ws' := [wX12 E h0 a0 w189].flatten) C 8 rfl hi189 (by rw [e189]; rfl) dX12_swings_189 ?_
  refine v_aload_n C dX12_swings_190 0 rfl ?_
  refine v_get (ci := 12) C inT12 0 9 rfl rfl (by decide) mF_X12_34_X12_9 rfl dX12_swings_191 ?_
  refine v_iconst (v := 3) C dX12_swings_194 (by decide) ?_
  refine v_iload_n C dX12_swings_195 1 rfl ?_
  refine v_imul C dX12_swings_196 ?_
  refine v_iload C dX12_swings_197 5 rfl ?_
  refine v_iadd C dX12_swings_199 ?_
  refine v_iload C dX12_swings_200 7 rfl ?_
  obtain ⟨hi202, hw⟩ := hw
  obtain ⟨w202, e202⟩ : ∃ z : Md, z = tA w189 9 ((3 * y1) + y5) y7 := ⟨_, rfl⟩
  have hw := hw w202 e202
  refine v_iast (ws' := [wX12 E h0 a0 w202].flatten) C 8 rfl hi202 (by rw [e202]; rfl) dX12_swings_202 ?_
  refine v_iinc (lv' := [(5, .int (y5 + Int32.ofInt 1)), (0, .ref h0), (1, .int y1), (2, .int y2), (3, .int y3), (4, .int y4), (6, .int y6), (7, .int y7)]) C dX12_swings_203 5 rfl (by decide) rfl ?_
  refine v_goto (tgt := 47) C dX12_swings_206 (by decide) ?_
  refine v_lv C (lv' := [(0, .ref h0), (1, .int y1), (2, .int y2), (3, .int y3), (4, .int y4), (5, .int (y5 + Int32.ofInt 1))]) [1, 2, 3, 4, 5, 0] rfl ?_
  exact hK47 w202 y1 y2 y3 y4 (y5 + Int32.ofInt 1) hw
set_option maxHeartbeats 4000000 in
set_option maxRecDepth 100000 in
theorem jX12_swings_119 {X : VX} {E : VE} {l : Launch} (h0 : Nat) (a0 : Nat → Nat)  (Q : Int32 → Md → Prop) (C : VC X cX12_swings 9 RX12 (rmL 3 0 0) E l) (hret : RetI X cX12_swings .int 0 0 (fun (U : Md) => [wX12 E h0 a0 U].flatten) (fun (r : Int32) (U : Md) => Q r U)) (K38 : Md → Int32 → Int32 → Int32 → Int32 → Prop) (K47 : Md → Int32 → Int32 → Int32 → Int32 → Int32 → Prop) (K92 : Md → Int32 → Int32 → Int32 → Int32 → Int32 → Int32 → Int32 → Int32 → Prop) (hK38 : ∀ (u0 : Md) (y1 : Int32) (y2 : Int32) (y3 : Int32) (y4 : Int32), K38 u0 y1 y2 y3 y4 → VV X 0 0 ([wX12 E h0 a0 u0].flatten) [(0, .ref h0), (1, .int y1), (2, .int y2), (3, .int y3), (4, .int y4)] 38 []) (hK47 : ∀ (u0 : Md) (y1 : Int32) (y2 : Int32) (y3 : Int32) (y4 : Int32) (y5 : Int32), K47 u0 y1 y2 y3 y4 y5 → VV X 0 0 ([wX12 E h0 a0 u0].flatten) [(0, .ref h0), (1, .int y1), (2, .int y2), (3, .int y3), (4, .int y4), (5, .int y5)] 47 []) (hK92 : ∀ (u0 : Md) (y1 : Int32) (y2 : Int32) (y3 : Int32) (y4 : Int32) (y5 : Int32) (y6 : Int32) (y7 : Int32) (y8 : Int32), K92 u0 y1 y2 y3 y4 y5 y6 y7 y8 → VV X 0 0 ([wX12 E h0 a0 u0].flatten) [(0, .ref h0), (1, .int y1), (2, .int y2), (3, .int y3), (4, .int y4), (5, .int y5), (6, .int y6), (7, .int y7), (8, .int y8)] 92 []) : ∀ (u0 : Md) (y1 : Int32) (y2 : Int32) (y3 : Int32) (y4 : Int32) (y5 : Int32) (y6 : Int32) (y7 : Int32) (y8 : Int32), qX12_swings_119 Q K38 K47 K92 u0 y1 y2 y3 y4 y5 y6 y7 y8 → VV X 0 0 ([wX12 E h0 a0 u0].flatten) [(0, .ref h0), (1, .int y1), (2, .int y2), (3, .int y3), (4, .int y4), (5, .int y5), (6, .int y6), (7, .int y7), (8, .int y8)] 119 [] := by
  intro u0 y1 y2 y3 y4 y5 y6 y7 y8 hw
  unfold qX12_swings_119 at hw
  refine v_aload_n C dX12_swings_119 0 rfl ?_
  refine v_get (ci := 12) C inT12 0 9 rfl rfl (by decide) mF_X12_34_X12_9 rfl dX12_swings_120 ?_
  refine v_iconst (v := 3) C dX12_swings_123 (by decide) ?_
  refine v_iload_n C dX12_swings_124 1 rfl ?_
  refine v_imul C dX12_swings_125 ?_
  refine v_iload C dX12_swings_126 4 rfl ?_
  refine v_iadd C dX12_swings_128 ?_
  refine v_iload C dX12_swings_129 6 rfl ?_
  refine v_iload C dX12_swings_131 8 rfl ?_
  refine v_isub C dX12_swings_133 ?_
  obtain ⟨hi134, hw⟩ := hw
  obtain ⟨w134, e134⟩ : ∃ z : Md, z = tA u0 9 ((3 * y1) + y4) (y6 - y8) := ⟨_, rfl⟩
  have hw := hw w134 e134
  refine v_iast (ws' := [wX12 E h0 a0 w134].flatten) C 8 rfl hi134 (by rw [e134]; rfl) dX12_swings_134 ?_
  refine v_aload_n C dX12_swings_135 0 rfl ?_
  refine v_get (ci := 12) C inT12 0 9 rfl rfl (by decide) mF_X12_34_X12_9 rfl dX12_swings_136 ?_
  refine v_iconst (v := 3) C dX12_swings_139 (by decide) ?_
  refine v_iload_n C dX12_swings_140 1 rfl ?_
  refine v_imul C dX12_swings_141 ?_
  refine v_iload C dX12_swings_142 5 rfl ?_
  refine v_iadd C dX12_swings_144 ?_
  refine v_iload C dX12_swings_145 7 rfl ?_
  refine v_iload C dX12_swings_147 8 rfl ?_
  refine v_iadd C dX12_swings_149 ?_
  obtain ⟨hi150, hw⟩ := hw
  obtain ⟨w150, e150⟩ : ∃ z : Md, z = tA w134 9 ((3 * y1) + y5) (y7 + y8) := ⟨_, rfl⟩
  have hw := hw w150 e150
  refine v_iast (ws' := [wX12 E h0 a0 w150].flatten) C 8 rfl hi150 (by rw [e150]; rfl) dX12_swings_150 ?_
  refine v_aload_n C dX12_swings_151 0 rfl ?_
  refine v_iload_n C dX12_swings_152 1 rfl ?_
  refine v_aload_n C dX12_swings_153 0 rfl ?_
  refine v_callFi (st := [.int y1, .ref h0]) (ci := 12) (qb := 0) C (kX12_now h0 a0 _ hw) mM_X12_138 mI_X12 mC_X12_now mN_X12_now mS_X12_now rfl rfl hd_X12_now ⟨Nat.le_of_ble_eq_true rfl, Nat.le_of_ble_eq_true rfl⟩ ⟨Nat.le_of_ble_eq_true rfl, Nat.le_of_ble_eq_true rfl⟩ rfl (Nat.le_of_ble_eq_true rfl) dX12_swings_154 (fun r154 v154_0 hw => ?_)
  refine v_aload_n C dX12_swings_157 0 rfl ?_
  refine v_callFi (st := [.int r154, .int y1, .ref h0]) (ci := 12) (qb := 0) C (kX12_now h0 a0 _ hw) mM_X12_138 mI_X12 mC_X12_now mN_X12_now mS_X12_now rfl rfl hd_X12_now ⟨Nat.le_of_ble_eq_true rfl, Nat.le_of_ble_eq_true rfl⟩ ⟨Nat.le_of_ble_eq_true rfl, Nat.le_of_ble_eq_true rfl⟩ rfl (Nat.le_of_ble_eq_true rfl) dX12_swings_158 (fun r158 v158_0 hw => ?_)
  refine v_callFi (st := []) (ci := 12) (qb := 0) C (kX12_firstOf h0 a0 _ _ _ _ hw) mM_X12_365 mI_X12 mC_X12_firstOf mN_X12_firstOf mS_X12_firstOf rfl rfl hd_X12_firstOf ⟨Nat.le_of_ble_eq_true rfl, Nat.le_of_ble_eq_true rfl⟩ ⟨Nat.le_of_ble_eq_true rfl, Nat.le_of_ble_eq_true rfl⟩ rfl (Nat.le_of_ble_eq_true rfl) dX12_swings_161 (fun r161 v161_0 hw => ?_)
  refine v_iload_n C dX12_swings_164 2 rfl ?_
  refine v_icmp_eq (tgt := 171) C dX12_swings_165 (by decide) (fun hc => ?_) (fun hc => ?_)
  · have hw := hw.1 hc
    refine v_iinc (lv' := [(8, .int (y8 + Int32.ofInt 1)), (0, .ref h0), (1, .int y1), (2, .int y2), (3, .int y3), (4, .int y4), (5, .int y5), (6, .int y6), (7, .int y7)]) C dX12_swings_171 8 rfl (by decide) rfl ?_
    refine v_goto (tgt := 92) C dX12_swings_174 (by decide) ?_
    refine v_lv C (lv' := [(0, .ref h0), (1, .int y1), (2, .int y2), (3, .int y3), (4, .int y4), (5, .int y5), (6, .int y6), (7, .int y7), (8, .int (y8 + Int32.ofInt 1))]) [1, 2, 3, 4, 5, 6, 7, 8, 0] rfl ?_
    exact hK92 v161_0 y1 y2 y3 y4 y5 y6 y7 (y8 + Int32.ofInt 1) hw
  · have hw := hw.2 hc
    refine v_iload C dX12_swings_168 8 rfl ?_
    refine v_istore_n (lv' := [(3, .int y8), (0, .ref h0), (1, .int y1), (2, .int y2), (4, .int y4), (5, .int y5), (6, .int y6), (7, .int y7), (8, .int y8)]) C dX12_swings_170 (by decide) rfl ?_
    refine v_iinc (lv' := [(8, .int (y8 + Int32.ofInt 1)), (3, .int y8), (0, .ref h0), (1, .int y1), (2, .int y2), (4, .int y4), (5, .int y5), (6, .int y6), (7, .int y7)]) C dX12_swings_171 8 rfl (by decide) rfl ?_
    refine v_goto (tgt := 92) C dX12_swings_174 (by decide) ?_
    refine v_lv C (lv' := [(0, .ref h0), (1, .int y1), (2, .int y2), (3, .int y8), (4, .int y4), (5, .int y5), (6, .int y6), (7, .int y7), (8, .int (y8 + Int32.ofInt 1))]) [2, 3, 4, 1, 5, 6, 7, 8, 0] rfl ?_
    exact hK92 v161_0 y1 y2 y8 y4 y5 y6 y7 (y8 + Int32.ofInt 1) hw
set_option maxHeartbeats 4000000 in
set_option maxRecDepth 100000 in
theorem jX12_swings_92 {X : VX} {E : VE} {l : Launch} (h0 : Nat) (a0 : Nat → Nat)  (Q : Int32 → Md → Prop) (C : VC X cX12_swings 9 RX12 (rmL 3 0 0) E l) (hret : RetI X cX12_swings .int 0 0 (fun (U : Md) => [wX12 E h0 a0 U].flatten) (fun (r : Int32) (U : Md) => Q r U)) (K38 : Md → Int32 → Int32 → Int32 → Int32 → Prop) (K47 : Md → Int32 → Int32 → Int32 → Int32 → Int32 → Prop) (hK38 : ∀ (u0 : Md) (y1 : Int32) (y2 : Int32) (y3 : Int32) (y4 : Int32), K38 u0 y1 y2 y3 y4 → VV X 0 0 ([wX12 E h0 a0 u0].flatten) [(0, .ref h0), (1, .int y1), (2, .int y2), (3, .int y3), (4, .int y4)] 38 []) (hK47 : ∀ (u0 : Md) (y1 : Int32) (y2 : Int32) (y3 : Int32) (y4 : Int32) (y5 : Int32), K47 u0 y1 y2 y3 y4 y5 → VV X 0 0 ([wX12 E h0 a0 u0].flatten) [(0, .ref h0), (1, .int y1), (2, .int y2), (3, .int y3), (4, .int y4), (5, .int y5)] 47 []) : ∀ (n : Nat), ∀ (u0 : Md) (y1 : Int32) (y2 : Int32) (y3 : Int32) (y4 : Int32) (y5 : Int32) (y6 : Int32) (y7 : Int32) (y8 : Int32), qX12_swings_92 Q K38 K47 n u0 y1 y2 y3 y4 y5 y6 y7 y8 → VV X 0 0 ([wX12 E h0 a0 u0].flatten) [(0, .ref h0), (1, .int y1), (2, .int y2), (3, .int y3), (4, .int y4), (5, .int y5), (6, .int y6), (7, .int y7), (8, .int y8)] 92 [] := by
  intro n
  induction n with
  | zero =>
    intro u0 y1 y2 y3 y4 y5 y6 y7 y8 hw
    exact hw.elim
  | succ n ih =>
    intro u0 y1 y2 y3 y4 y5 y6 y7 y8 hw
    unfold qX12_swings_92 at hw
    refine v_iload C dX12_swings_92 8 rfl ?_
    refine v_aload_n C dX12_swings_94 0 rfl ?_
    refine v_get (ci := 12) C inT12 0 8 rfl rfl (by decide) mF_X12_31_X12_8 rfl dX12_swings_95 ?_
    refine v_iconst (v := 3) C dX12_swings_98 (by decide) ?_
    refine v_iload_n C dX12_swings_99 1 rfl ?_
    refine v_imul C dX12_swings_100 ?_
    refine v_iload C dX12_swings_101 4 rfl ?_
    refine v_iadd C dX12_swings_103 ?_
    obtain ⟨hi104, hw⟩ := hw
    refine v_iald C 7 rfl hi104 dX12_swings_104 ?_
    refine v_icmp_gt (tgt := 177) C dX12_swings_105 (by decide) (fun hc => ?_) (fun hc => ?_)
    · have hw := hw.1 hc
      refine v_lv C (lv' := [(0, .ref h0), (1, .int y1), (2, .int y2), (3, .int y3), (4, .int y4), (5, .int y5), (6, .int y6), (7, .int y7)]) [0, 1, 2, 3, 4, 5, 6, 7] rfl ?_
      exact jX12_swings_177 h0 a0 Q C hret K38 K47 hK38 hK47 u0 y1 y2 y3 y4 y5 y6 y7 hw
    · have hw := hw.2 hc
      refine v_iload_n C dX12_swings_108 3 rfl ?_
      refine v_iconst (v := (-1)) C dX12_swings_109 (by decide) ?_
      refine v_icmp_eq (tgt := 119) C dX12_swings_110 (by decide) (fun hc => ?_) (fun hc => ?_)
      · have hw := hw.1 hc
        exact jX12_swings_119 h0 a0 Q C hret K38 K47 (qX12_swings_92 Q K38 K47 n) hK38 hK47 ih u0 y1 y2 y3 y4 y5 y6 y7 y8 hw
      · have hw := hw.2 hc
        refine v_iload C dX12_swings_113 8 rfl ?_
        refine v_iload_n C dX12_swings_115 3 rfl ?_
        refine v_icmp_ge (tgt := 177) C dX12_swings_116 (by decide) (fun hc => ?_) (fun hc => ?_)
        · have hw := hw.1 hc
          refine v_lv C (lv' := [(0, .ref h0), (1, .int y1), (2, .int y2), (3, .int y3), (4, .int y4), (5, .int y5), (6, .int y6), (7, .int y7)]) [0, 1, 2, 3, 4, 5, 6, 7] rfl ?_
          exact jX12_swings_177 h0 a0 Q C hret K38 K47 hK38 hK47 u0 y1 y2 y3 y4 y5 y6 y7 hw
        · have hw := hw.2 hc
          exact jX12_swings_119 h0 a0 Q C hret K38 K47 (qX12_swings_92 Q K38 K47 n) hK38 hK47 ih u0 y1 y2 y3 y4 y5 y6 y7 y8 hw
set_option maxHeartbeats 4000000 in
set_option maxRecDepth 100000 in
theorem jX12_swings_47 {X : VX} {E : VE} {l : Launch} (h0 : Nat) (a0 : Nat → Nat)  (Q : Int32 → Md → Prop) (C : VC X cX12_swings 9 RX12 (rmL 3 0 0) E l) (hret : RetI X cX12_swings .int 0 0 (fun (U : Md) => [wX12 E h0 a0 U].flatten) (fun (r : Int32) (U : Md) => Q r U)) (K38 : Md → Int32 → Int32 → Int32 → Int32 → Prop) (hK38 : ∀ (u0 : Md) (y1 : Int32) (y2 : Int32) (y3 : Int32) (y4 : Int32), K38 u0 y1 y2 y3 y4 → VV X 0 0 ([wX12 E h0 a0 u0].flatten) [(0, .ref h0), (1, .int y1), (2, .int y2), (3, .int y3), (4, .int y4)] 38 []) : ∀ (n : Nat), ∀ (u0 : Md) (y1 : Int32) (y2 : Int32) (y3 : Int32) (y4 : Int32) (y5 : Int32), qX12_swings_47 Q K38 n u0 y1 y2 y3 y4 y5 → VV X 0 0 ([wX12 E h0 a0 u0].flatten) [(0, .ref h0), (1, .int y1), (2, .int y2), (3, .int y3), (4, .int y4), (5, .int y5)] 47 [] := by
  intro n
  induction n with
  | zero =>
    intro u0 y1 y2 y3 y4 y5 hw
    exact hw.elim
  | succ n ih =>
    intro u0 y1 y2 y3 y4 y5 hw
    unfold qX12_swings_47 at hw
    refine v_iload C dX12_swings_47 5 rfl ?_
    refine v_iconst (v := 3) C dX12_swings_49 (by decide) ?_
    refine v_icmp_ge (tgt := 209) C dX12_swings_50 (by decide) (fun hc => ?_) (fun hc => ?_)
    · have hw := hw.1 hc
      refine v_iinc (lv' := [(4, .int (y4 + Int32.ofInt 1)), (0, .ref h0), (1, .int y1), (2, .int y2), (3, .int y3), (5, .int y5)]) C dX12_swings_209 4 rfl (by decide) rfl ?_
      refine v_goto (tgt := 38) C dX12_swings_212 (by decide) ?_
      refine v_lv C (lv' := [(0, .ref h0), (1, .int y1), (2, .int y2), (3, .int y3), (4, .int (y4 + Int32.ofInt 1))]) [1, 2, 3, 4, 0] rfl ?_
      exact hK38 u0 y1 y2 y3 (y4 + Int32.ofInt 1) hw
    · have hw := hw.2 hc
      refine v_iload C dX12_swings_53 4 rfl ?_
      refine v_iload C dX12_swings_55 5 rfl ?_
      refine v_icmp_ne (tgt := 63) C dX12_swings_57 (by decide) (fun hc => ?_) (fun hc => ?_)
      · have hw := hw.1 hc
        refine v_aload_n C dX12_swings_63 0 rfl ?_
        refine v_get (ci := 12) C inT12 0 9 rfl rfl (by decide) mF_X12_34_X12_9 rfl dX12_swings_64 ?_
        refine v_iconst (v := 3) C dX12_swings_67 (by decide) ?_
        refine v_iload_n C dX12_swings_68 1 rfl ?_
        refine v_imul C dX12_swings_69 ?_
        refine v_iload C dX12_swings_70 4 rfl ?_
        refine v_iadd C dX12_swings_72 ?_
        obtain ⟨hi73, hw⟩ := hw
        refine v_iald C 8 rfl hi73 dX12_swings_73 ?_
        refine v_istore (lv' := [(6, .int (gA u0 9 ((3 * y1) + y4).toNatClampNeg)), (0, .ref h0), (1, .int y1), (2, .int y2), (3, .int y3), (4, .int y4), (5, .int y5)]) C dX12_swings_74 (by decide) rfl ?_
        refine v_aload_n C dX12_swings_76 1 rfl ?_
        refine v_get (ci := 12) C inT12 0 9 rfl rfl (by decide) mF_X12_34_X12_9 rfl dX12_swings_77 ?_
        refine v_iconst (v := 3) C dX12_swings_80 (by decide) ?_
        refine v_iload_n C dX12_swings_81 2 rfl ?_
        refine v_imul C dX12_swings_82 ?_
        refine v_iload C dX12_swings_83 6 rfl ?_
        refine v_iadd C dX12_swings_85 ?_
        obtain ⟨hi86, hw⟩ := hw
        refine v_iald C 8 rfl hi86 dX12_swings_86 ?_
        refine v_istore (lv' := [(7, .int (gA u0 9 ((3 * y1) + y5).toNatClampNeg)), (6, .int (gA u0 9 ((3 * y1) + y4).toNatClampNeg)), (0, .ref h0), (1, .int y1), (2, .int y2), (3, .int y3), (4, .int y4), (5, .int y5)]) C dX12_swings_87 (by decide) rfl ?_
        refine v_iconst (v := 1) C dX12_swings_89 (by decide) ?_
        refine v_istore (lv' := [(8, .int 1), (7, .int (gA u0 9 ((3 * y1) + y5).toNatClampNeg)), (6, .int (gA u0 9 ((3 * y1) + y4).toNatClampNeg)), (0, .ref h0), (1, .int y1), (2, .int y2), (3, .int y3), (4, .int y4), (5, .int y5)]) C dX12_swings_90 (by decide) rfl ?_
        refine v_lv C (lv' := [(0, .ref h0), (1, .int y1), (2, .int y2), (3, .int y3), (4, .int y4), (5, .int y5), (6, .int (gA u0 9 ((3 * y1) + y4).toNatClampNeg)), (7, .int (gA u0 9 ((3 * y1) + y5).toNatClampNeg)), (8, .int 1)]) [3, 4, 5, 6, 7, 8, 2, 1, 0] rfl ?_
        obtain ⟨n', hw⟩ := hw
        exact jX12_swings_92 h0 a0 Q C hret K38 (qX12_swings_47 Q K38 n) hK38 ih n' u0 y1 y2 y3 y4 y5 (gA u0 9 ((3 * y1) + y4).toNatClampNeg) (gA u0 9 ((3 * y1) + y5).toNatClampNeg) 1 hw
      · have hw := hw.2 hc
        refine v_goto (tgt := 203) C dX12_swings_60 (by decide) ?_
        refine v_iinc (lv' := [(5, .int (y5 + Int32.ofInt 1)), (0, .ref h0), (1, .int y1), (2, .int y2), (3, .int y3), (4, .int y4)]) C dX12_swings_203 5 rfl (by decide) rfl ?_
        refine v_goto (tgt := 47) C dX12_swings_206 (by decide) ?_
        refine v_lv C (lv' := [(0, .ref h0), (1, .int y1), (2, .int y2), (3, .int y3), (4, .int y4), (5, .int (y5 + Int32.ofInt 1))]) [1, 2, 3, 4, 5, 0] rfl ?_
        exact ih u0 y1 y2 y3 y4 (y5 + Int32.ofInt 1) hw
set_option maxHeartbeats 4000000 in
set_option maxRecDepth 100000 in
theorem jX12_swings_38 {X : VX} {E : VE} {l : Launch} (h0 : Nat) (a0 : Nat → Nat)  (Q : Int32 → Md → Prop) (C : VC X cX12_swings 9 RX12 (rmL 3 0 0) E l) (hret : RetI X cX12_swings .int 0 0 (fun (U : Md) => [wX12 E h0 a0 U].flatten) (fun (r : Int32) (U : Md) => Q r U))  : ∀ (n : Nat), ∀ (u0 : Md) (y1 : Int32) (y2 : Int32) (y3 : Int32) (y4 : Int32), qX12_swings_38 Q n u0 y1 y2 y3 y4 → VV X 0 0 ([wX12 E h0 a0 u0].flatten) [(0, .ref h0), (1, .int y1), (2, .int y2), (3, .int y3), (4, .int y4)] 38 [] := by
  intro n
  induction n with
  | zero =>
    intro u0 y1 y2 y3 y4 hw
    exact hw.elim
  | succ n ih =>
    intro u0 y1 y2 y3 y4 hw
    unfold qX12_swings_38 at hw
    refine v_iload C dX12_swings_38 4 rfl ?_
    refine v_iconst (v := 3) C dX12_swings_40 (by decide) ?_
    refine v_icmp_ge (tgt := 215) C dX12_swings_41 (by decide) (fun hc => ?_) (fun hc => ?_)
    · have hw := hw.1 hc
      refine v_iload_n C dX12_swings_215 3 rfl ?_
      exact hret _ _ _ _ y3 u0 dX12_swings_216 rfl hw (Nat.le_of_ble_eq_true rfl) (Nat.le_of_ble_eq_true rfl)
    · have hw := hw.2 hc
      refine v_iconst (v := 0) C dX12_swings_44 (by decide) ?_
      refine v_istore (lv' := [(5, .int 0), (0, .ref h0), (1, .int y1), (2, .int y2), (3, .int y3), (4, .int y4)]) C dX12_swings_45 (by decide) rfl ?_
      refine v_lv C (lv' := [(0, .ref h0), (1, .int y1), (2, .int y2), (3, .int y3), (4, .int y4), (5, .int 0)]) [1, 2, 3, 4, 5, 0] rfl ?_
      obtain ⟨n', hw⟩ := hw
      exact jX12_swings_47 h0 a0 Q C hret (qX12_swings_38 Q n) ih n' u0 y1 y2 y3 y4 0 hw
set_option maxHeartbeats 4000000 in
set_option maxRecDepth 100000 in
theorem kX12_swings {l : Launch} {E : VE} (h0 : Nat) (a0 : Nat → Nat) (u0 : Md) (x1 : Int32) {Q : Int32 → Md → Prop} (hw : qX12_swings u0 x1 Q) : MI l yX12_swings cX12_swings 9 .int 3 0 0 E [.ref h0, .int x1] ([wX12 E h0 a0 u0].flatten) (fun (U : Md) => [wX12 E h0 a0 U].flatten) (fun (r : Int32) (U : Md) => Q r U) := by
  refine MI.of (own := RX12) (by decide) rfl (Nat.le_of_ble_eq_true rfl) ?_
  intro X C hini hret
  show VV X 0 0 ([wX12 E h0 a0 u0].flatten) [(0, .ref h0), (1, .int x1)] 0 []
  unfold qX12_swings at hw
  refine v_aload_n C dX12_swings_0 0 rfl ?_
  refine v_iload_n C dX12_swings_1 1 rfl ?_
  refine v_callFi (st := []) (ci := 12) (qb := 0) C (kX12_isPlace h0 a0 _ _ hw) mM_X12_147 mI_X12 mC_X12_isPlace mN_X12_isPlace mS_X12_isPlace rfl rfl hd_X12_isPlace ⟨Nat.le_of_ble_eq_true rfl, Nat.le_of_ble_eq_true rfl⟩ ⟨Nat.le_of_ble_eq_true rfl, Nat.le_of_ble_eq_true rfl⟩ rfl (Nat.le_of_ble_eq_true rfl) dX12_swings_2 (fun r2 v2_0 hw => ?_)
  obtain ⟨h01_2, hw⟩ := hw
  have hw := hw h01_2
  refine v_if_ne (tgt := 11) C dX12_swings_5 (by decide) (fun hc => ?_) (fun hc => ?_)
  · have hw := hw.1 hc
    refine v_aload_n C dX12_swings_11 0 rfl ?_
    refine v_aload_n C dX12_swings_12 0 rfl ?_
    refine v_callFi (st := [.ref h0]) (ci := 12) (qb := 0) C (kX12_now h0 a0 _ hw) mM_X12_138 mI_X12 mC_X12_now mN_X12_now mS_X12_now rfl rfl hd_X12_now ⟨Nat.le_of_ble_eq_true rfl, Nat.le_of_ble_eq_true rfl⟩ ⟨Nat.le_of_ble_eq_true rfl, Nat.le_of_ble_eq_true rfl⟩ rfl (Nat.le_of_ble_eq_true rfl) dX12_swings_13 (fun r13 v13_0 hw => ?_)
    refine v_callFv (st := []) (ci := 12) (qb := 0) C (kX12_looks h0 a0 _ _ hw) mM_X12_151 mI_X12 mC_X12_looks mN_X12_looks mS_X12_looks rfl rfl hd_X12_looks ⟨Nat.le_of_ble_eq_true rfl, Nat.le_of_ble_eq_true rfl⟩ ⟨Nat.le_of_ble_eq_true rfl, Nat.le_of_ble_eq_true rfl⟩ rfl (Nat.le_of_ble_eq_true rfl) dX12_swings_16 (fun v16_0 hw => ?_)
    refine v_aload_n C dX12_swings_19 0 rfl ?_
    refine v_iload_n C dX12_swings_20 1 rfl ?_
    refine v_aload_n C dX12_swings_21 0 rfl ?_
    refine v_callFi (st := [.int x1, .ref h0]) (ci := 12) (qb := 0) C (kX12_now h0 a0 _ hw) mM_X12_138 mI_X12 mC_X12_now mN_X12_now mS_X12_now rfl rfl hd_X12_now ⟨Nat.le_of_ble_eq_true rfl, Nat.le_of_ble_eq_true rfl⟩ ⟨Nat.le_of_ble_eq_true rfl, Nat.le_of_ble_eq_true rfl⟩ rfl (Nat.le_of_ble_eq_true rfl) dX12_swings_22 (fun r22 v22_0 hw => ?_)
    refine v_aload_n C dX12_swings_25 0 rfl ?_
    refine v_callFi (st := [.int r22, .int x1, .ref h0]) (ci := 12) (qb := 0) C (kX12_now h0 a0 _ hw) mM_X12_138 mI_X12 mC_X12_now mN_X12_now mS_X12_now rfl rfl hd_X12_now ⟨Nat.le_of_ble_eq_true rfl, Nat.le_of_ble_eq_true rfl⟩ ⟨Nat.le_of_ble_eq_true rfl, Nat.le_of_ble_eq_true rfl⟩ rfl (Nat.le_of_ble_eq_true rfl) dX12_swings_26 (fun r26 v26_0 hw => ?_)
    refine v_callFi (st := []) (ci := 12) (qb := 0) C (kX12_firstOf h0 a0 _ _ _ _ hw) mM_X12_365 mI_X12 mC_X12_firstOf mN_X12_firstOf mS_X12_firstOf rfl rfl hd_X12_firstOf ⟨Nat.le_of_ble_eq_true rfl, Nat.le_of_ble_eq_true rfl⟩ ⟨Nat.le_of_ble_eq_true rfl, Nat.le_of_ble_eq_true rfl⟩ rfl (Nat.le_of_ble_eq_true rfl) dX12_swings_29 (fun r29 v29_0 hw => ?_)
    refine v_istore_n (lv' := [(2, .int r29), (0, .ref h0), (1, .int x1)]) C dX12_swings_32 (by decide) rfl ?_
    refine v_iconst (v := (-1)) C dX12_swings_33 (by decide) ?_
    refine v_istore_n (lv' := [(3, .int ((-1))), (2, .int r29), (0, .ref h0), (1, .int x1)]) C dX12_swings_34 (by decide) rfl ?_
    refine v_iconst (v := 0) C dX12_swings_35 (by decide) ?_
    refine v_istore (lv' := [(4, .int 0), (3, .int ((-1))), (2, .int r29), (0, .ref h0), (1, .int x1)]) C dX12_swings_36 (by decide) rfl ?_
    refine v_lv C (lv' := [(0, .ref h0), (1, .int x1), (2, .int r29), (3, .int ((-1))), (4, .int 0)]) [3, 4, 2, 1, 0] rfl ?_
    obtain ⟨n', hw⟩ := hw
    exact jX12_swings_38 h0 a0 Q C hret n' v29_0 x1 r29 ((-1)) 0 hw
  · have hw := hw.2 hc
    refine v_bipush (v := (-2)) C dX12_swings_8 (by decide) ?_
    exact hret _ _ _ _ ((-2)) v2_0 dX12_swings_10 rfl hw (Nat.le_of_ble_eq_true rfl) (Nat.le_of_ble_eq_true rfl)
set_option maxHeartbeats 4000000 in
set_option maxRecDepth 100000 in
theorem kX12_isHearing {l : Launch} {E : VE} (h0 : Nat) (a0 : Nat → Nat) (u0 : Md) (x1 : Int32) {Q : Int32 → Md → Prop} (hw : qX12_isHearing u0 x1 Q) : MI l yX12_isHearing cX12_isHearing 2 .boolean 1 0 0 E [.ref h0, .int x1] ([wX12 E h0 a0 u0].flatten) (fun (U : Md) => [wX12 E h0 a0 U].flatten) (fun (r : Int32) (U : Md) => (r = 0 ∨ r = 1) ∧ Q r U) := by
  refine MI.of (own := RX12) (by decide) rfl (Nat.le_of_ble_eq_true rfl) ?_
  intro X C hini hret
  show VV X 0 0 ([wX12 E h0 a0 u0].flatten) [(0, .ref h0), (1, .int x1)] 0 []
  unfold qX12_isHearing at hw
  refine v_iload_n C dX12_isHearing_0 1 rfl ?_
  refine v_i2l C dX12_isHearing_1 ?_
  refine v_lconst (v := 0) C dX12_isHearing_2 (by decide) ?_
  refine v_aload_n C dX12_isHearing_3 0 rfl ?_
  refine v_get (ci := 12) C inT12 0 1 rfl rfl (by decide) mF_X12_9_X12_1 rfl dX12_isHearing_4 ?_
  refine v_iconst (v := 5) C dX12_isHearing_7 (by decide) ?_
  obtain ⟨hi8, hw⟩ := hw
  refine v_iald C 1 rfl hi8 dX12_isHearing_8 ?_
  refine v_iconst (v := 1) C dX12_isHearing_9 (by decide) ?_
  refine v_isub C dX12_isHearing_10 ?_
  refine v_i2l C dX12_isHearing_11 ?_
  refine v_callSPi (st := []) C (kX12_in _ _ _ hw) mM_X12_125 mI_X12 mC_X12_in mT_X12_in hd_X12_in ⟨Nat.le_of_ble_eq_true rfl, Nat.le_of_ble_eq_true rfl⟩ ⟨Nat.le_of_ble_eq_true rfl, Nat.le_of_ble_eq_true rfl⟩ rfl (Nat.le_of_ble_eq_true rfl) dX12_isHearing_12 (fun r12 U12 hw => ?_)
  obtain ⟨h01_12, hw⟩ := hw
  have hw := hw h01_12
  exact hret _ _ _ _ r12 u0 dX12_isHearing_15 (nz01 h01_12) ⟨h01_12, hw⟩ (Nat.le_of_ble_eq_true rfl) (Nat.le_of_ble_eq_true rfl)
set_option maxHeartbeats 4000000 in
set_option maxRecDepth 100000 in
theorem kX12_hearing {l : Launch} {E : VE} (h0 : Nat) (x1 : Int32) {Q : Int32 → Prop} (hw : qX12_hearing x1 Q) : MI l yX12_hearing cX12_hearing 2 .int 0 0 0 E [.ref h0, .int x1] ([]) (fun (_ : Unit) => ([] : va_W)) (fun (r : Int32) (_ : Unit) => Q r) := by
  refine MI.of (own := RX12) (by decide) rfl (Nat.le_of_ble_eq_true rfl) ?_
  intro X C hini hret
  show VV X 0 0 ([]) [(0, .ref h0), (1, .int x1)] 0 []
  unfold qX12_hearing at hw
  refine v_sipush (v := 6030) C dX12_hearing_0 (by decide) ?_
  refine v_bipush (v := 11) C dX12_hearing_3 (by decide) ?_
  refine v_iload_n C dX12_hearing_5 1 rfl ?_
  refine v_imul C dX12_hearing_6 ?_
  refine v_iadd C dX12_hearing_7 ?_
  exact hret _ _ _ _ (6030 + (11 * x1)) () dX12_hearing_8 rfl hw (Nat.le_of_ble_eq_true rfl) (Nat.le_of_ble_eq_true rfl)
set_option maxHeartbeats 4000000 in
set_option maxRecDepth 100000 in
theorem jX12_ask_109 {X : VX} {E : VE} {l : Launch} (h0 : Nat) (a0 : Nat → Nat)  (Q : Int32 → Md → Prop) (C : VC X cX12_ask 4 RX12 (rmL 2 0 0) E l) (hret : RetI X cX12_ask .int 0 0 (fun (U : Md) => [wX12 E h0 a0 U].flatten) (fun (r : Int32) (U : Md) => Q r U))  : ∀ (n : Nat), ∀ (u0 : Md) (y2 : Int32) (y3 : Int32), qX12_ask_109 Q n u0 y2 y3 → VV X 0 0 ([wX12 E h0 a0 u0].flatten) [(0, .ref h0), (2, .int y2), (3, .int y3)] 109 [] := by
  intro n
  induction n with
  | zero =>
    intro u0 y2 y3 hw
    exact hw.elim
  | succ n ih =>
    intro u0 y2 y3 hw
    unfold qX12_ask_109 at hw
    refine v_iload_n C dX12_ask_109 2 rfl ?_
    refine v_bipush (v := 9) C dX12_ask_110 (by decide) ?_
    refine v_icmp_ge (tgt := 136) C dX12_ask_112 (by decide) (fun hc => ?_) (fun hc => ?_)
    · have hw := hw.1 hc
      refine v_aload_n C dX12_ask_136 0 rfl ?_
      refine v_get (ci := 12) C inT12 0 1 rfl rfl (by decide) mF_X12_9_X12_1 rfl dX12_ask_137 ?_
      refine v_iconst (v := 5) C dX12_ask_140 (by decide) ?_
      refine v_dup2 C dX12_ask_141 rfl rfl ?_
      obtain ⟨hi142, hw⟩ := hw
      refine v_iald C 1 rfl hi142 dX12_ask_142 ?_
      refine v_iconst (v := 1) C dX12_ask_143 (by decide) ?_
      refine v_iadd C dX12_ask_144 ?_
      obtain ⟨hi145, hw⟩ := hw
      obtain ⟨w145, e145⟩ : ∃ z : Md, z = tA u0 1 5 ((gA u0 1 (5 : Int32).toNatClampNeg) + 1) := ⟨_, rfl⟩
      have hw := hw w145 e145
      refine v_iast (ws' := [wX12 E h0 a0 w145].flatten) C 1 rfl hi145 (by rw [e145]; rfl) dX12_ask_145 ?_
      refine v_iload_n C dX12_ask_146 1 rfl ?_
      exact hret _ _ _ _ y2 w145 dX12_ask_147 rfl hw (Nat.le_of_ble_eq_true rfl) (Nat.le_of_ble_eq_true rfl)
    · have hw := hw.2 hc
      refine v_aload_n C dX12_ask_115 0 rfl ?_
      refine v_get (ci := 12) C inT12 0 1 rfl rfl (by decide) mF_X12_9_X12_1 rfl dX12_ask_116 ?_
      refine v_aload_n C dX12_ask_119 0 rfl ?_
      refine v_iload_n C dX12_ask_120 1 rfl ?_
      refine v_callVPi (st := [.ref ((a0 1))]) (ci := 12) (qb := 0) C (kX12_hearing h0 _ hw) mM_X12_371 mI_X12 mC_X12_hearing mN_X12_hearing mS_X12_hearing rfl rfl hd_X12_hearing ⟨Nat.le_of_ble_eq_true rfl, Nat.le_of_ble_eq_true rfl⟩ ⟨Nat.le_of_ble_eq_true rfl, Nat.le_of_ble_eq_true rfl⟩ rfl (Nat.le_of_ble_eq_true rfl) dX12_ask_121 (fun r121 U121 hw => ?_)
      refine v_iconst (v := 2) C dX12_ask_124 (by decide) ?_
      refine v_iadd C dX12_ask_125 ?_
      refine v_iload_n C dX12_ask_126 2 rfl ?_
      refine v_iadd C dX12_ask_127 ?_
      refine v_iconst (v := 0) C dX12_ask_128 (by decide) ?_
      obtain ⟨hi129, hw⟩ := hw
      obtain ⟨w129, e129⟩ : ∃ z : Md, z = tA u0 1 ((r121 + 2) + y3) 0 := ⟨_, rfl⟩
      have hw := hw w129 e129
      refine v_iast (ws' := [wX12 E h0 a0 w129].flatten) C 1 rfl hi129 (by rw [e129]; rfl) dX12_ask_129 ?_
      refine v_iinc (lv' := [(3, .int (y3 + Int32.ofInt 1)), (0, .ref h0), (2, .int y2)]) C dX12_ask_130 2 rfl (by decide) rfl ?_
      refine v_goto (tgt := 109) C dX12_ask_133 (by decide) ?_
      refine v_lv C (lv' := [(0, .ref h0), (2, .int y2), (3, .int (y3 + Int32.ofInt 1))]) [1, 2, 0] rfl ?_
      exact ih w129 y2 (y3 + Int32.ofInt 1) hw
set_option maxHeartbeats 4000000 in
set_option maxRecDepth 100000 in
theorem jX12_ask_29 {X : VX} {E : VE} {l : Launch} (h0 : Nat) (a0 : Nat → Nat)  (Q : Int32 → Md → Prop) (C : VC X cX12_ask 4 RX12 (rmL 2 0 0) E l) (hret : RetI X cX12_ask .int 0 0 (fun (U : Md) => [wX12 E h0 a0 U].flatten) (fun (r : Int32) (U : Md) => Q r U))  : ∀ (n : Nat), ∀ (u0 : Md) (y1 : Int32) (y2 : Int32) (y3 : Int32), qX12_ask_29 Q n u0 y1 y2 y3 → VV X 0 0 ([wX12 E h0 a0 u0].flatten) [(0, .ref h0), (1, .int y1), (2, .int y2), (3, .int y3)] 29 [] := by
  intro n
  induction n with
  | zero =>
    intro u0 y1 y2 y3 hw
    exact hw.elim
  | succ n ih =>
    intro u0 y1 y2 y3 hw
    unfold qX12_ask_29 at hw
    refine v_iload_n C dX12_ask_29 3 rfl ?_
    refine v_iload_n C dX12_ask_30 2 rfl ?_
    refine v_icmp_ge (tgt := 83) C dX12_ask_31 (by decide) (fun hc => ?_) (fun hc => ?_)
    · have hw := hw.1 hc
      refine v_aload_n C dX12_ask_83 0 rfl ?_
      refine v_get (ci := 12) C inT12 0 1 rfl rfl (by decide) mF_X12_9_X12_1 rfl dX12_ask_84 ?_
      refine v_aload_n C dX12_ask_87 0 rfl ?_
      refine v_iload_n C dX12_ask_88 2 rfl ?_
      refine v_callVPi (st := [.ref ((a0 1))]) (ci := 12) (qb := 0) C (kX12_hearing h0 _ hw) mM_X12_371 mI_X12 mC_X12_hearing mN_X12_hearing mS_X12_hearing rfl rfl hd_X12_hearing ⟨Nat.le_of_ble_eq_true rfl, Nat.le_of_ble_eq_true rfl⟩ ⟨Nat.le_of_ble_eq_true rfl, Nat.le_of_ble_eq_true rfl⟩ rfl (Nat.le_of_ble_eq_true rfl) dX12_ask_89 (fun r89 U89 hw => ?_)
      refine v_iload_n C dX12_ask_92 1 rfl ?_
      obtain ⟨hi93, hw⟩ := hw
      obtain ⟨w93, e93⟩ : ∃ z : Md, z = tA u0 1 r89 y1 := ⟨_, rfl⟩
      have hw := hw w93 e93
      refine v_iast (ws' := [wX12 E h0 a0 w93].flatten) C 1 rfl hi93 (by rw [e93]; rfl) dX12_ask_93 ?_
      refine v_aload_n C dX12_ask_94 0 rfl ?_
      refine v_get (ci := 12) C inT12 0 1 rfl rfl (by decide) mF_X12_9_X12_1 rfl dX12_ask_95 ?_
      refine v_aload_n C dX12_ask_98 0 rfl ?_
      refine v_iload_n C dX12_ask_99 2 rfl ?_
      refine v_callVPi (st := [.ref ((a0 1))]) (ci := 12) (qb := 0) C (kX12_hearing h0 _ hw) mM_X12_371 mI_X12 mC_X12_hearing mN_X12_hearing mS_X12_hearing rfl rfl hd_X12_hearing ⟨Nat.le_of_ble_eq_true rfl, Nat.le_of_ble_eq_true rfl⟩ ⟨Nat.le_of_ble_eq_true rfl, Nat.le_of_ble_eq_true rfl⟩ rfl (Nat.le_of_ble_eq_true rfl) dX12_ask_100 (fun r100 U100 hw => ?_)
      refine v_iconst (v := 1) C dX12_ask_103 (by decide) ?_
      refine v_iadd C dX12_ask_104 ?_
      refine v_iconst (v := 1) C dX12_ask_105 (by decide) ?_
      obtain ⟨hi106, hw⟩ := hw
      obtain ⟨w106, e106⟩ : ∃ z : Md, z = tA w93 1 (r100 + 1) 1 := ⟨_, rfl⟩
      have hw := hw w106 e106
      refine v_iast (ws' := [wX12 E h0 a0 w106].flatten) C 1 rfl hi106 (by rw [e106]; rfl) dX12_ask_106 ?_
      refine v_iconst (v := 0) C dX12_ask_107 (by decide) ?_
      refine v_istore_n (lv' := [(3, .int 0), (0, .ref h0), (1, .int y1), (2, .int y2)]) C dX12_ask_108 (by decide) rfl ?_
      refine v_lv C (lv' := [(0, .ref h0), (2, .int y2), (3, .int 0)]) [1, 3, 0] rfl ?_
      obtain ⟨n', hw⟩ := hw
      exact jX12_ask_109 h0 a0 Q C hret n' w106 y2 0 hw
    · have hw := hw.2 hc
      refine v_aload_n C dX12_ask_34 0 rfl ?_
      refine v_get (ci := 12) C inT12 0 1 rfl rfl (by decide) mF_X12_9_X12_1 rfl dX12_ask_35 ?_
      refine v_aload_n C dX12_ask_38 0 rfl ?_
      refine v_iload_n C dX12_ask_39 3 rfl ?_
      refine v_callVPi (st := [.ref ((a0 1))]) (ci := 12) (qb := 0) C (kX12_hearing h0 _ hw) mM_X12_371 mI_X12 mC_X12_hearing mN_X12_hearing mS_X12_hearing rfl rfl hd_X12_hearing ⟨Nat.le_of_ble_eq_true rfl, Nat.le_of_ble_eq_true rfl⟩ ⟨Nat.le_of_ble_eq_true rfl, Nat.le_of_ble_eq_true rfl⟩ rfl (Nat.le_of_ble_eq_true rfl) dX12_ask_40 (fun r40 U40 hw => ?_)
      refine v_iconst (v := 1) C dX12_ask_43 (by decide) ?_
      refine v_iadd C dX12_ask_44 ?_
      obtain ⟨hi45, hw⟩ := hw
      refine v_iald C 1 rfl hi45 dX12_ask_45 ?_
      refine v_iconst (v := 1) C dX12_ask_46 (by decide) ?_
      refine v_icmp_ne (tgt := 77) C dX12_ask_47 (by decide) (fun hc => ?_) (fun hc => ?_)
      · have hw := hw.1 hc
        refine v_iinc (lv' := [(3, .int (y3 + Int32.ofInt 1)), (0, .ref h0), (1, .int y1), (2, .int y2)]) C dX12_ask_77 3 rfl (by decide) rfl ?_
        refine v_goto (tgt := 29) C dX12_ask_80 (by decide) ?_
        refine v_lv C (lv' := [(0, .ref h0), (1, .int y1), (2, .int y2), (3, .int (y3 + Int32.ofInt 1))]) [1, 2, 3, 0] rfl ?_
        exact ih u0 y1 y2 (y3 + Int32.ofInt 1) hw
      · have hw := hw.2 hc
        refine v_aload_n C dX12_ask_50 0 rfl ?_
        refine v_aload_n C dX12_ask_51 0 rfl ?_
        refine v_get (ci := 12) C inT12 0 1 rfl rfl (by decide) mF_X12_9_X12_1 rfl dX12_ask_52 ?_
        refine v_aload_n C dX12_ask_55 0 rfl ?_
        refine v_iload_n C dX12_ask_56 3 rfl ?_
        refine v_callVPi (st := [.ref ((a0 1)), .ref h0]) (ci := 12) (qb := 0) C (kX12_hearing h0 _ hw) mM_X12_371 mI_X12 mC_X12_hearing mN_X12_hearing mS_X12_hearing rfl rfl hd_X12_hearing ⟨Nat.le_of_ble_eq_true rfl, Nat.le_of_ble_eq_true rfl⟩ ⟨Nat.le_of_ble_eq_true rfl, Nat.le_of_ble_eq_true rfl⟩ rfl (Nat.le_of_ble_eq_true rfl) dX12_ask_57 (fun r57 U57 hw => ?_)
        obtain ⟨hi60, hw⟩ := hw
        refine v_iald C 1 rfl hi60 dX12_ask_60 ?_
        refine v_iconst (v := 0) C dX12_ask_61 (by decide) ?_
        refine v_callFi (st := []) (ci := 12) (qb := 0) C (kX12_nameIs h0 a0 _ _ _ hw) mM_X12_265 mI_X12 mC_X12_nameIs mN_X12_nameIs mS_X12_nameIs rfl rfl hd_X12_nameIs ⟨Nat.le_of_ble_eq_true rfl, Nat.le_of_ble_eq_true rfl⟩ ⟨Nat.le_of_ble_eq_true rfl, Nat.le_of_ble_eq_true rfl⟩ rfl (Nat.le_of_ble_eq_true rfl) dX12_ask_62 (fun r62 v62_0 hw => ?_)
        refine v_aload_n C dX12_ask_65 0 rfl ?_
        refine v_iload_n C dX12_ask_66 1 rfl ?_
        refine v_iconst (v := 0) C dX12_ask_67 (by decide) ?_
        refine v_callFi (st := [.int r62]) (ci := 12) (qb := 0) C (kX12_nameIs h0 a0 _ _ _ hw) mM_X12_265 mI_X12 mC_X12_nameIs mN_X12_nameIs mS_X12_nameIs rfl rfl hd_X12_nameIs ⟨Nat.le_of_ble_eq_true rfl, Nat.le_of_ble_eq_true rfl⟩ ⟨Nat.le_of_ble_eq_true rfl, Nat.le_of_ble_eq_true rfl⟩ rfl (Nat.le_of_ble_eq_true rfl) dX12_ask_68 (fun r68 v68_0 hw => ?_)
        refine v_icmp_ne (tgt := 77) C dX12_ask_71 (by decide) (fun hc => ?_) (fun hc => ?_)
        · have hw := hw.1 hc
          refine v_iinc (lv' := [(3, .int (y3 + Int32.ofInt 1)), (0, .ref h0), (1, .int y1), (2, .int y2)]) C dX12_ask_77 3 rfl (by decide) rfl ?_
          refine v_goto (tgt := 29) C dX12_ask_80 (by decide) ?_
          refine v_lv C (lv' := [(0, .ref h0), (1, .int y1), (2, .int y2), (3, .int (y3 + Int32.ofInt 1))]) [1, 2, 3, 0] rfl ?_
          exact ih v68_0 y1 y2 (y3 + Int32.ofInt 1) hw
        · have hw := hw.2 hc
          refine v_bipush (v := (-5)) C dX12_ask_74 (by decide) ?_
          exact hret _ _ _ _ ((-5)) v68_0 dX12_ask_76 rfl hw (Nat.le_of_ble_eq_true rfl) (Nat.le_of_ble_eq_true rfl)
set_option maxHeartbeats 4000000 in
set_option maxRecDepth 100000 in
theorem kX12_ask {l : Launch} {E : VE} (h0 : Nat) (a0 : Nat → Nat) (u0 : Md) (x1 : Int32) {Q : Int32 → Md → Prop} (hw : qX12_ask u0 x1 Q) : MI l yX12_ask cX12_ask 4 .int 2 0 0 E [.ref h0, .int x1] ([wX12 E h0 a0 u0].flatten) (fun (U : Md) => [wX12 E h0 a0 U].flatten) (fun (r : Int32) (U : Md) => Q r U) := by
  refine MI.of (own := RX12) (by decide) rfl (Nat.le_of_ble_eq_true rfl) ?_
  intro X C hini hret
  show VV X 0 0 ([wX12 E h0 a0 u0].flatten) [(0, .ref h0), (1, .int x1)] 0 []
  unfold qX12_ask at hw
  refine v_aload_n C dX12_ask_0 0 rfl ?_
  refine v_iload_n C dX12_ask_1 1 rfl ?_
  refine v_callFi (st := []) (ci := 12) (qb := 0) C (kX12_isName h0 a0 _ _ hw) mM_X12_282 mI_X12 mC_X12_isName mN_X12_isName mS_X12_isName rfl rfl hd_X12_isName ⟨Nat.le_of_ble_eq_true rfl, Nat.le_of_ble_eq_true rfl⟩ ⟨Nat.le_of_ble_eq_true rfl, Nat.le_of_ble_eq_true rfl⟩ rfl (Nat.le_of_ble_eq_true rfl) dX12_ask_2 (fun r2 v2_0 hw => ?_)
  obtain ⟨h01_2, hw⟩ := hw
  have hw := hw h01_2
  refine v_if_ne (tgt := 11) C dX12_ask_5 (by decide) (fun hc => ?_) (fun hc => ?_)
  · have hw := hw.1 hc
    refine v_aload_n C dX12_ask_11 0 rfl ?_
    refine v_get (ci := 12) C inT12 0 1 rfl rfl (by decide) mF_X12_9_X12_1 rfl dX12_ask_12 ?_
    refine v_iconst (v := 5) C dX12_ask_15 (by decide) ?_
    obtain ⟨hi16, hw⟩ := hw
    refine v_iald C 1 rfl hi16 dX12_ask_16 ?_
    refine v_istore_n (lv' := [(2, .int (gA v2_0 1 (5 : Int32).toNatClampNeg)), (0, .ref h0), (1, .int x1)]) C dX12_ask_17 (by decide) rfl ?_
    refine v_iload_n C dX12_ask_18 0 rfl ?_
    refine v_bipush (v := 60) C dX12_ask_19 (by decide) ?_
    refine v_icmp_ne (tgt := 27) C dX12_ask_21 (by decide) (fun hc => ?_) (fun hc => ?_)
    · have hw := hw.1 hc
      refine v_iconst (v := 0) C dX12_ask_27 (by decide) ?_
      refine v_istore_n (lv' := [(3, .int 0), (2, .int (gA v2_0 1 (5 : Int32).toNatClampNeg)), (0, .ref h0), (1, .int x1)]) C dX12_ask_28 (by decide) rfl ?_
      refine v_lv C (lv' := [(0, .ref h0), (1, .int x1), (2, .int (gA v2_0 1 (5 : Int32).toNatClampNeg)), (3, .int 0)]) [2, 3, 1, 0] rfl ?_
      obtain ⟨n', hw⟩ := hw
      exact jX12_ask_29 h0 a0 Q C hret n' v2_0 x1 (gA v2_0 1 (5 : Int32).toNatClampNeg) 0 hw
    · have hw := hw.2 hc
      refine v_bipush (v := (-3)) C dX12_ask_24 (by decide) ?_
      exact hret _ _ _ _ ((-3)) v2_0 dX12_ask_26 rfl hw (Nat.le_of_ble_eq_true rfl) (Nat.le_of_ble_eq_true rfl)
  · have hw := hw.2 hc
    refine v_bipush (v := (-2)) C dX12_ask_8 (by decide) ?_
    exact hret _ _ _ _ ((-2)) v2_0 dX12_ask_10 rfl hw (Nat.le_of_ble_eq_true rfl) (Nat.le_of_ble_eq_true rfl)
set_option maxHeartbeats 4000000 in
set_option maxRecDepth 100000 in
theorem kX12_vote {l : Launch} {E : VE} (h0 : Nat) (a0 : Nat → Nat) (u0 : Md) (x1 : Int32) (x2 : Int32) (x3 : Int32) {Q : Int32 → Md → Prop} (hw : qX12_vote u0 x1 x2 x3 Q) : MI l yX12_vote cX12_vote 4 .int 2 0 0 E [.ref h0, .int x1, .int x2, .int x3] ([wX12 E h0 a0 u0].flatten) (fun (U : Md) => [wX12 E h0 a0 U].flatten) (fun (r : Int32) (U : Md) => Q r U) := by
  refine MI.of (own := RX12) (by decide) rfl (Nat.le_of_ble_eq_true rfl) ?_
  intro X C hini hret
  show VV X 0 0 ([wX12 E h0 a0 u0].flatten) [(0, .ref h0), (1, .int x1), (2, .int x2), (3, .int x3)] 0 []
  unfold qX12_vote at hw
  refine v_aload_n C dX12_vote_0 0 rfl ?_
  refine v_iload_n C dX12_vote_1 1 rfl ?_
  refine v_callFi (st := []) (ci := 12) (qb := 0) C (kX12_isHearing h0 a0 _ _ hw) mM_X12_374 mI_X12 mC_X12_isHearing mN_X12_isHearing mS_X12_isHearing rfl rfl hd_X12_isHearing ⟨Nat.le_of_ble_eq_true rfl, Nat.le_of_ble_eq_true rfl⟩ ⟨Nat.le_of_ble_eq_true rfl, Nat.le_of_ble_eq_true rfl⟩ rfl (Nat.le_of_ble_eq_true rfl) dX12_vote_2 (fun r2 v2_0 hw => ?_)
  obtain ⟨h01_2, hw⟩ := hw
  have hw := hw h01_2
  refine v_if_eq (tgt := 20) C dX12_vote_5 (by decide) (fun hc => ?_) (fun hc => ?_)
  · have hw := hw.1 hc
    refine v_bipush (v := (-2)) C dX12_vote_20 (by decide) ?_
    exact hret _ _ _ _ ((-2)) v2_0 dX12_vote_22 rfl hw (Nat.le_of_ble_eq_true rfl) (Nat.le_of_ble_eq_true rfl)
  · have hw := hw.2 hc
    refine v_iload_n C dX12_vote_8 2 rfl ?_
    refine v_i2l C dX12_vote_9 ?_
    refine v_lconst (v := 0) C dX12_vote_10 (by decide) ?_
    refine v_ldc2 C mJ_X12_377 dX12_vote_11 ?_
    refine v_callSPi (st := []) C (kX12_in _ _ _ hw) mM_X12_125 mI_X12 mC_X12_in mT_X12_in hd_X12_in ⟨Nat.le_of_ble_eq_true rfl, Nat.le_of_ble_eq_true rfl⟩ ⟨Nat.le_of_ble_eq_true rfl, Nat.le_of_ble_eq_true rfl⟩ rfl (Nat.le_of_ble_eq_true rfl) dX12_vote_14 (fun r14 U14 hw => ?_)
    obtain ⟨h01_14, hw⟩ := hw
    have hw := hw h01_14
    refine v_if_ne (tgt := 23) C dX12_vote_17 (by decide) (fun hc => ?_) (fun hc => ?_)
    · have hw := hw.1 hc
      refine v_aload_n C dX12_vote_23 0 rfl ?_
      refine v_get (ci := 12) C inT12 0 1 rfl rfl (by decide) mF_X12_9_X12_1 rfl dX12_vote_24 ?_
      refine v_aload_n C dX12_vote_27 0 rfl ?_
      refine v_iload_n C dX12_vote_28 1 rfl ?_
      refine v_callVPi (st := [.ref ((a0 1))]) (ci := 12) (qb := 0) C (kX12_hearing h0 _ hw) mM_X12_371 mI_X12 mC_X12_hearing mN_X12_hearing mS_X12_hearing rfl rfl hd_X12_hearing ⟨Nat.le_of_ble_eq_true rfl, Nat.le_of_ble_eq_true rfl⟩ ⟨Nat.le_of_ble_eq_true rfl, Nat.le_of_ble_eq_true rfl⟩ rfl (Nat.le_of_ble_eq_true rfl) dX12_vote_29 (fun r29 U29 hw => ?_)
      refine v_iconst (v := 1) C dX12_vote_32 (by decide) ?_
      refine v_iadd C dX12_vote_33 ?_
      obtain ⟨hi34, hw⟩ := hw
      refine v_iald C 1 rfl hi34 dX12_vote_34 ?_
      refine v_if_ne (tgt := 41) C dX12_vote_35 (by decide) (fun hc => ?_) (fun hc => ?_)
      · have hw := hw.1 hc
        refine v_aload_n C dX12_vote_41 0 rfl ?_
        refine v_get (ci := 12) C inT12 0 1 rfl rfl (by decide) mF_X12_9_X12_1 rfl dX12_vote_42 ?_
        refine v_aload_n C dX12_vote_45 0 rfl ?_
        refine v_iload_n C dX12_vote_46 1 rfl ?_
        refine v_callVPi (st := [.ref ((a0 1))]) (ci := 12) (qb := 0) C (kX12_hearing h0 _ hw) mM_X12_371 mI_X12 mC_X12_hearing mN_X12_hearing mS_X12_hearing rfl rfl hd_X12_hearing ⟨Nat.le_of_ble_eq_true rfl, Nat.le_of_ble_eq_true rfl⟩ ⟨Nat.le_of_ble_eq_true rfl, Nat.le_of_ble_eq_true rfl⟩ rfl (Nat.le_of_ble_eq_true rfl) dX12_vote_47 (fun r47 U47 hw => ?_)
        refine v_iconst (v := 2) C dX12_vote_50 (by decide) ?_
        refine v_iadd C dX12_vote_51 ?_
        refine v_iload_n C dX12_vote_52 2 rfl ?_
        refine v_iadd C dX12_vote_53 ?_
        refine v_iload_n C dX12_vote_54 3 rfl ?_
        refine v_if_eq (tgt := 62) C dX12_vote_55 (by decide) (fun hc => ?_) (fun hc => ?_)
        · have hw := hw.1 hc
          refine v_iconst (v := 2) C dX12_vote_62 (by decide) ?_
          obtain ⟨hi63, hw⟩ := hw
          obtain ⟨w63, e63⟩ : ∃ z : Md, z = tA v2_0 1 ((r47 + 2) + x2) 2 := ⟨_, rfl⟩
          have hw := hw w63 e63
          refine v_iast (ws' := [wX12 E h0 a0 w63].flatten) C 1 rfl hi63 (by rw [e63]; rfl) dX12_vote_63 ?_
          refine v_iconst (v := 0) C dX12_vote_64 (by decide) ?_
          exact hret _ _ _ _ 0 w63 dX12_vote_65 rfl hw (Nat.le_of_ble_eq_true rfl) (Nat.le_of_ble_eq_true rfl)
        · have hw := hw.2 hc
          refine v_iconst (v := 1) C dX12_vote_58 (by decide) ?_
          refine v_goto (tgt := 63) C dX12_vote_59 (by decide) ?_
          obtain ⟨hi63, hw⟩ := hw
          obtain ⟨w63, e63⟩ : ∃ z : Md, z = tA v2_0 1 ((r47 + 2) + x2) 1 := ⟨_, rfl⟩
          have hw := hw w63 e63
          refine v_iast (ws' := [wX12 E h0 a0 w63].flatten) C 1 rfl hi63 (by rw [e63]; rfl) dX12_vote_63 ?_
          refine v_iconst (v := 0) C dX12_vote_64 (by decide) ?_
          exact hret _ _ _ _ 0 w63 dX12_vote_65 rfl hw (Nat.le_of_ble_eq_true rfl) (Nat.le_of_ble_eq_true rfl)
      · have hw := hw.2 hc
        refine v_bipush (v := (-5)) C dX12_vote_38 (by decide) ?_
        exact hret _ _ _ _ ((-5)) v2_0 dX12_vote_40 rfl hw (Nat.le_of_ble_eq_true rfl) (Nat.le_of_ble_eq_true rfl)
    · have hw := hw.2 hc
      refine v_bipush (v := (-2)) C dX12_vote_20 (by decide) ?_
      exact hret _ _ _ _ ((-2)) v2_0 dX12_vote_22 rfl hw (Nat.le_of_ble_eq_true rfl) (Nat.le_of_ble_eq_true rfl)
set_option maxHeartbeats 4000000 in
set_option maxRecDepth 100000 in
theorem kX12_event {l : Launch} {E : VE} (h0 : Nat) (a0 : Nat → Nat) (u0 : Md) (x1 : Int32) (x2 : Int32) (x3 : Int32) {Q : Md → Prop} (hw : qX12_event u0 x1 x2 x3 Q) : MV l yX12_event cX12_event 5 1 0 0 E [.ref h0, .int x1, .int x2, .int x3] ([wX12 E h0 a0 u0].flatten) (fun (U : Md) => [wX12 E h0 a0 U].flatten) (fun (U : Md) => Q U) := by
  refine MV.of (own := RX12) (by decide) rfl (Nat.le_of_ble_eq_true rfl) ?_
  intro X C hini hret
  show VV X 0 0 ([wX12 E h0 a0 u0].flatten) [(0, .ref h0), (1, .int x1), (2, .int x2), (3, .int x3)] 0 []
  unfold qX12_event at hw
  refine v_sipush (v := 9170) C dX12_event_0 (by decide) ?_
  refine v_iconst (v := 4) C dX12_event_3 (by decide) ?_
  refine v_aload_n C dX12_event_4 0 rfl ?_
  refine v_get (ci := 12) C inT12 0 1 rfl rfl (by decide) mF_X12_9_X12_1 rfl dX12_event_5 ?_
  refine v_bipush (v := 9) C dX12_event_8 (by decide) ?_
  obtain ⟨hi10, hw⟩ := hw
  refine v_iald C 1 rfl hi10 dX12_event_10 ?_
  refine v_imul C dX12_event_11 ?_
  refine v_iadd C dX12_event_12 ?_
  refine v_istore (lv' := [(4, .int (9170 + (4 * (gA u0 1 (9 : Int32).toNatClampNeg)))), (0, .ref h0), (1, .int x1), (2, .int x2), (3, .int x3)]) C dX12_event_13 (by decide) rfl ?_
  refine v_aload_n C dX12_event_15 1 rfl ?_
  refine v_get (ci := 12) C inT12 0 1 rfl rfl (by decide) mF_X12_9_X12_1 rfl dX12_event_16 ?_
  refine v_iload C dX12_event_19 0 rfl ?_
  refine v_iload_n C dX12_event_21 2 rfl ?_
  obtain ⟨hi22, hw⟩ := hw
  obtain ⟨w22, e22⟩ : ∃ z : Md, z = tA u0 1 (9170 + (4 * (gA u0 1 (9 : Int32).toNatClampNeg))) x1 := ⟨_, rfl⟩
  have hw := hw w22 e22
  refine v_iast (ws' := [wX12 E h0 a0 w22].flatten) C 1 rfl hi22 (by rw [e22]; rfl) dX12_event_22 ?_
  refine v_aload_n C dX12_event_23 1 rfl ?_
  refine v_get (ci := 12) C inT12 0 1 rfl rfl (by decide) mF_X12_9_X12_1 rfl dX12_event_24 ?_
  refine v_iload C dX12_event_27 0 rfl ?_
  refine v_iconst (v := 1) C dX12_event_29 (by decide) ?_
  refine v_iadd C dX12_event_30 ?_
  refine v_iload_n C dX12_event_31 3 rfl ?_
  obtain ⟨hi32, hw⟩ := hw
  obtain ⟨w32, e32⟩ : ∃ z : Md, z = tA w22 1 ((9170 + (4 * (gA u0 1 (9 : Int32).toNatClampNeg))) + 1) x2 := ⟨_, rfl⟩
  have hw := hw w32 e32
  refine v_iast (ws' := [wX12 E h0 a0 w32].flatten) C 1 rfl hi32 (by rw [e32]; rfl) dX12_event_32 ?_
  refine v_aload_n C dX12_event_33 1 rfl ?_
  refine v_get (ci := 12) C inT12 0 1 rfl rfl (by decide) mF_X12_9_X12_1 rfl dX12_event_34 ?_
  refine v_iload C dX12_event_37 0 rfl ?_
  refine v_iconst (v := 2) C dX12_event_39 (by decide) ?_
  refine v_iadd C dX12_event_40 ?_
  refine v_iload_n C dX12_event_41 4 rfl ?_
  obtain ⟨hi42, hw⟩ := hw
  obtain ⟨w42, e42⟩ : ∃ z : Md, z = tA w32 1 ((9170 + (4 * (gA u0 1 (9 : Int32).toNatClampNeg))) + 2) x3 := ⟨_, rfl⟩
  have hw := hw w42 e42
  refine v_iast (ws' := [wX12 E h0 a0 w42].flatten) C 1 rfl hi42 (by rw [e42]; rfl) dX12_event_42 ?_
  refine v_aload_n C dX12_event_43 1 rfl ?_
  refine v_get (ci := 12) C inT12 0 1 rfl rfl (by decide) mF_X12_9_X12_1 rfl dX12_event_44 ?_
  refine v_iload C dX12_event_47 0 rfl ?_
  refine v_iconst (v := 3) C dX12_event_49 (by decide) ?_
  refine v_iadd C dX12_event_50 ?_
  refine v_aload_n C dX12_event_51 1 rfl ?_
  refine v_callFi (st := [.int ((9170 + (4 * (gA u0 1 (9 : Int32).toNatClampNeg))) + 3), .ref ((a0 1))]) (ci := 12) (qb := 0) C (kX12_now h0 a0 _ hw) mM_X12_138 mI_X12 mC_X12_now mN_X12_now mS_X12_now rfl rfl hd_X12_now ⟨Nat.le_of_ble_eq_true rfl, Nat.le_of_ble_eq_true rfl⟩ ⟨Nat.le_of_ble_eq_true rfl, Nat.le_of_ble_eq_true rfl⟩ rfl (Nat.le_of_ble_eq_true rfl) dX12_event_52 (fun r52 v52_0 hw => ?_)
  obtain ⟨hi55, hw⟩ := hw
  obtain ⟨w55, e55⟩ : ∃ z : Md, z = tA v52_0 1 ((9170 + (4 * (gA u0 1 (9 : Int32).toNatClampNeg))) + 3) r52 := ⟨_, rfl⟩
  have hw := hw w55 e55
  refine v_iast (ws' := [wX12 E h0 a0 w55].flatten) C 1 rfl hi55 (by rw [e55]; rfl) dX12_event_55 ?_
  refine v_aload_n C dX12_event_56 1 rfl ?_
  refine v_get (ci := 12) C inT12 0 1 rfl rfl (by decide) mF_X12_9_X12_1 rfl dX12_event_57 ?_
  refine v_bipush (v := 9) C dX12_event_60 (by decide) ?_
  refine v_dup2 C dX12_event_62 rfl rfl ?_
  obtain ⟨hi63, hw⟩ := hw
  refine v_iald C 1 rfl hi63 dX12_event_63 ?_
  refine v_iconst (v := 1) C dX12_event_64 (by decide) ?_
  refine v_iadd C dX12_event_65 ?_
  obtain ⟨hi66, hw⟩ := hw
  obtain ⟨w66, e66⟩ : ∃ z : Md, z = tA w55 1 9 ((gA w55 1 (9 : Int32).toNatClampNeg) + 1) := ⟨_, rfl⟩
  have hw := hw w66 e66
  refine v_iast (ws' := [wX12 E h0 a0 w66].flatten) C 1 rfl hi66 (by rw [e66]; rfl) dX12_event_66 ?_
  exact hret _ _ _ _ w66 dX12_event_67 hw (Nat.le_of_ble_eq_true rfl) (Nat.le_of_ble_eq_true rfl)
set_option maxHeartbeats 4000000 in
set_option maxRecDepth 100000 in
theorem jX12_settledOf_8 {X : VX} {E : VE} {l : Launch} (h0 : Nat) (a0 : Nat → Nat)  (Q : Int32 → Md → Prop) (C : VC X cX12_settledOf 6 RX12 (rmL 0 0 0) E l) (hret : RetI X cX12_settledOf .int 0 0 (fun (U : Md) => [wX12 E h0 a0 U].flatten) (fun (r : Int32) (U : Md) => Q r U))  : ∀ (n : Nat), ∀ (u0 : Md) (y1 : Int32) (y2 : Int32) (y3 : Int32) (y4 : Int32) (y5 : Int32), qX12_settledOf_8 Q n u0 y1 y2 y3 y4 y5 → VV X 0 0 ([wX12 E h0 a0 u0].flatten) [(0, .ref h0), (1, .int y1), (2, .int y2), (3, .int y3), (4, .int y4), (5, .int y5)] 8 [] := by
  intro n
  induction n with
  | zero =>
    intro u0 y1 y2 y3 y4 y5 hw
    exact hw.elim
  | succ n ih =>
    intro u0 y1 y2 y3 y4 y5 hw
    unfold qX12_settledOf_8 at hw
    refine v_iload C dX12_settledOf_8 5 rfl ?_
    refine v_sipush (v := 9170) C dX12_settledOf_10 (by decide) ?_
    refine v_iconst (v := 4) C dX12_settledOf_13 (by decide) ?_
    refine v_aload_n C dX12_settledOf_14 0 rfl ?_
    refine v_get (ci := 12) C inT12 0 1 rfl rfl (by decide) mF_X12_9_X12_1 rfl dX12_settledOf_15 ?_
    refine v_bipush (v := 9) C dX12_settledOf_18 (by decide) ?_
    obtain ⟨hi20, hw⟩ := hw
    refine v_iald C 1 rfl hi20 dX12_settledOf_20 ?_
    refine v_imul C dX12_settledOf_21 ?_
    refine v_iadd C dX12_settledOf_22 ?_
    refine v_icmp_ge (tgt := 110) C dX12_settledOf_23 (by decide) (fun hc => ?_) (fun hc => ?_)
    · have hw := hw.1 hc
      refine v_iload C dX12_settledOf_110 4 rfl ?_
      refine v_if_ne (tgt := 119) C dX12_settledOf_112 (by decide) (fun hc => ?_) (fun hc => ?_)
      · have hw := hw.1 hc
        refine v_aload_n C dX12_settledOf_119 0 rfl ?_
        refine v_get (ci := 12) C inT12 0 28 rfl rfl (by decide) mF_X12_62_X12_28 rfl dX12_settledOf_120 ?_
        refine v_iload C dX12_settledOf_123 4 rfl ?_
        refine v_iconst (v := 1) C dX12_settledOf_125 (by decide) ?_
        refine v_isub C dX12_settledOf_126 ?_
        obtain ⟨hi127, hw⟩ := hw
        refine v_iald C 16 rfl hi127 dX12_settledOf_127 ?_
        exact hret _ _ _ _ (gA u0 28 (y4 - 1).toNatClampNeg) u0 dX12_settledOf_128 rfl hw (Nat.le_of_ble_eq_true rfl) (Nat.le_of_ble_eq_true rfl)
      · have hw := hw.2 hc
        refine v_iconst (v := (-1)) C dX12_settledOf_115 (by decide) ?_
        refine v_goto (tgt := 128) C dX12_settledOf_116 (by decide) ?_
        exact hret _ _ _ _ ((-1)) u0 dX12_settledOf_128 rfl hw (Nat.le_of_ble_eq_true rfl) (Nat.le_of_ble_eq_true rfl)
    · have hw := hw.2 hc
      refine v_aload_n C dX12_settledOf_26 0 rfl ?_
      refine v_get (ci := 12) C inT12 0 1 rfl rfl (by decide) mF_X12_9_X12_1 rfl dX12_settledOf_27 ?_
      refine v_iload C dX12_settledOf_30 5 rfl ?_
      obtain ⟨hi32, hw⟩ := hw
      refine v_iald C 1 rfl hi32 dX12_settledOf_32 ?_
      refine v_iload_n C dX12_settledOf_33 1 rfl ?_
      refine v_icmp_ne (tgt := 104) C dX12_settledOf_34 (by decide) (fun hc => ?_) (fun hc => ?_)
      · have hw := hw.1 hc
        refine v_iinc (lv' := [(5, .int (y5 + Int32.ofInt 4)), (0, .ref h0), (1, .int y1), (2, .int y2), (3, .int y3), (4, .int y4)]) C dX12_settledOf_104 5 rfl (by decide) rfl ?_
        refine v_goto (tgt := 8) C dX12_settledOf_107 (by decide) ?_
        refine v_lv C (lv' := [(0, .ref h0), (1, .int y1), (2, .int y2), (3, .int y3), (4, .int y4), (5, .int (y5 + Int32.ofInt 4))]) [1, 2, 3, 4, 5, 0] rfl ?_
        exact ih u0 y1 y2 y3 y4 (y5 + Int32.ofInt 4) hw
      · have hw := hw.2 hc
        refine v_aload_n C dX12_settledOf_37 0 rfl ?_
        refine v_get (ci := 12) C inT12 0 1 rfl rfl (by decide) mF_X12_9_X12_1 rfl dX12_settledOf_38 ?_
        refine v_iload C dX12_settledOf_41 5 rfl ?_
        refine v_iconst (v := 1) C dX12_settledOf_43 (by decide) ?_
        refine v_iadd C dX12_settledOf_44 ?_
        obtain ⟨hi45, hw⟩ := hw
        refine v_iald C 1 rfl hi45 dX12_settledOf_45 ?_
        refine v_iload_n C dX12_settledOf_46 2 rfl ?_
        refine v_icmp_ne (tgt := 104) C dX12_settledOf_47 (by decide) (fun hc => ?_) (fun hc => ?_)
        · have hw := hw.1 hc
          refine v_iinc (lv' := [(5, .int (y5 + Int32.ofInt 4)), (0, .ref h0), (1, .int y1), (2, .int y2), (3, .int y3), (4, .int y4)]) C dX12_settledOf_104 5 rfl (by decide) rfl ?_
          refine v_goto (tgt := 8) C dX12_settledOf_107 (by decide) ?_
          refine v_lv C (lv' := [(0, .ref h0), (1, .int y1), (2, .int y2), (3, .int y3), (4, .int y4), (5, .int (y5 + Int32.ofInt 4))]) [1, 2, 3, 4, 5, 0] rfl ?_
          exact ih u0 y1 y2 y3 y4 (y5 + Int32.ofInt 4) hw
        · have hw := hw.2 hc
          refine v_aload_n C dX12_settledOf_50 0 rfl ?_
          refine v_get (ci := 12) C inT12 0 1 rfl rfl (by decide) mF_X12_9_X12_1 rfl dX12_settledOf_51 ?_
          refine v_iload C dX12_settledOf_54 5 rfl ?_
          refine v_iconst (v := 3) C dX12_settledOf_56 (by decide) ?_
          refine v_iadd C dX12_settledOf_57 ?_
          obtain ⟨hi58, hw⟩ := hw
          refine v_iald C 1 rfl hi58 dX12_settledOf_58 ?_
          refine v_iload_n C dX12_settledOf_59 3 rfl ?_
          refine v_icmp_le (tgt := 66) C dX12_settledOf_60 (by decide) (fun hc => ?_) (fun hc => ?_)
          · have hw := hw.1 hc
            refine v_aload_n C dX12_settledOf_66 0 rfl ?_
            refine v_get (ci := 12) C inT12 0 1 rfl rfl (by decide) mF_X12_9_X12_1 rfl dX12_settledOf_67 ?_
            refine v_iload C dX12_settledOf_70 5 rfl ?_
            refine v_iconst (v := 2) C dX12_settledOf_72 (by decide) ?_
            refine v_iadd C dX12_settledOf_73 ?_
            obtain ⟨hi74, hw⟩ := hw
            refine v_iald C 1 rfl hi74 dX12_settledOf_74 ?_
            refine v_iconst (v := (-1)) C dX12_settledOf_75 (by decide) ?_
            refine v_icmp_ne (tgt := 85) C dX12_settledOf_76 (by decide) (fun hc => ?_) (fun hc => ?_)
            · have hw := hw.1 hc
              refine v_aload_n C dX12_settledOf_85 0 rfl ?_
              refine v_get (ci := 12) C inT12 0 28 rfl rfl (by decide) mF_X12_62_X12_28 rfl dX12_settledOf_86 ?_
              refine v_iload C dX12_settledOf_89 4 rfl ?_
              refine v_aload_n C dX12_settledOf_91 0 rfl ?_
              refine v_get (ci := 12) C inT12 0 1 rfl rfl (by decide) mF_X12_9_X12_1 rfl dX12_settledOf_92 ?_
              refine v_iload C dX12_settledOf_95 5 rfl ?_
              refine v_iconst (v := 2) C dX12_settledOf_97 (by decide) ?_
              refine v_iadd C dX12_settledOf_98 ?_
              obtain ⟨hi99, hw⟩ := hw
              refine v_iald C 1 rfl hi99 dX12_settledOf_99 ?_
              obtain ⟨hi100, hw⟩ := hw
              obtain ⟨w100, e100⟩ : ∃ z : Md, z = tA u0 28 y4 (gA u0 1 (y5 + 2).toNatClampNeg) := ⟨_, rfl⟩
              have hw := hw w100 e100
              refine v_iast (ws' := [wX12 E h0 a0 w100].flatten) C 16 rfl hi100 (by rw [e100]; rfl) dX12_settledOf_100 ?_
              refine v_iinc (lv' := [(4, .int (y4 + Int32.ofInt 1)), (0, .ref h0), (1, .int y1), (2, .int y2), (3, .int y3), (5, .int y5)]) C dX12_settledOf_101 4 rfl (by decide) rfl ?_
              refine v_iinc (lv' := [(5, .int (y5 + Int32.ofInt 4)), (4, .int (y4 + Int32.ofInt 1)), (0, .ref h0), (1, .int y1), (2, .int y2), (3, .int y3)]) C dX12_settledOf_104 5 rfl (by decide) rfl ?_
              refine v_goto (tgt := 8) C dX12_settledOf_107 (by decide) ?_
              refine v_lv C (lv' := [(0, .ref h0), (1, .int y1), (2, .int y2), (3, .int y3), (4, .int (y4 + Int32.ofInt 1)), (5, .int (y5 + Int32.ofInt 4))]) [2, 3, 4, 5, 1, 0] rfl ?_
              exact ih w100 y1 y2 y3 (y4 + Int32.ofInt 1) (y5 + Int32.ofInt 4) hw
            · have hw := hw.2 hc
              refine v_iinc (lv' := [(4, .int (y4 + Int32.ofInt (-1))), (0, .ref h0), (1, .int y1), (2, .int y2), (3, .int y3), (5, .int y5)]) C dX12_settledOf_79 4 rfl (by decide) rfl ?_
              refine v_goto (tgt := 104) C dX12_settledOf_82 (by decide) ?_
              refine v_iinc (lv' := [(5, .int (y5 + Int32.ofInt 4)), (4, .int (y4 + Int32.ofInt (-1))), (0, .ref h0), (1, .int y1), (2, .int y2), (3, .int y3)]) C dX12_settledOf_104 5 rfl (by decide) rfl ?_
              refine v_goto (tgt := 8) C dX12_settledOf_107 (by decide) ?_
              refine v_lv C (lv' := [(0, .ref h0), (1, .int y1), (2, .int y2), (3, .int y3), (4, .int (y4 + Int32.ofInt (-1))), (5, .int (y5 + Int32.ofInt 4))]) [2, 3, 4, 5, 1, 0] rfl ?_
              exact ih u0 y1 y2 y3 (y4 + Int32.ofInt (-1)) (y5 + Int32.ofInt 4) hw
          · have hw := hw.2 hc
            refine v_goto (tgt := 104) C dX12_settledOf_63 (by decide) ?_
            refine v_iinc (lv' := [(5, .int (y5 + Int32.ofInt 4)), (0, .ref h0), (1, .int y1), (2, .int y2), (3, .int y3), (4, .int y4)]) C dX12_settledOf_104 5 rfl (by decide) rfl ?_
            refine v_goto (tgt := 8) C dX12_settledOf_107 (by decide) ?_
            refine v_lv C (lv' := [(0, .ref h0), (1, .int y1), (2, .int y2), (3, .int y3), (4, .int y4), (5, .int (y5 + Int32.ofInt 4))]) [1, 2, 3, 4, 5, 0] rfl ?_
            exact ih u0 y1 y2 y3 y4 (y5 + Int32.ofInt 4) hw
set_option maxHeartbeats 4000000 in
set_option maxRecDepth 100000 in
theorem kX12_settledOf {l : Launch} {E : VE} (h0 : Nat) (a0 : Nat → Nat) (u0 : Md) (x1 : Int32) (x2 : Int32) (x3 : Int32) {Q : Int32 → Md → Prop} (hw : qX12_settledOf u0 x1 x2 x3 Q) : MI l yX12_settledOf cX12_settledOf 6 .int 0 0 0 E [.ref h0, .int x1, .int x2, .int x3] ([wX12 E h0 a0 u0].flatten) (fun (U : Md) => [wX12 E h0 a0 U].flatten) (fun (r : Int32) (U : Md) => Q r U) := by
  refine MI.of (own := RX12) (by decide) rfl (Nat.le_of_ble_eq_true rfl) ?_
  intro X C hini hret
  show VV X 0 0 ([wX12 E h0 a0 u0].flatten) [(0, .ref h0), (1, .int x1), (2, .int x2), (3, .int x3)] 0 []
  unfold qX12_settledOf at hw
  refine v_iconst (v := 0) C dX12_settledOf_0 (by decide) ?_
  refine v_istore (lv' := [(4, .int 0), (0, .ref h0), (1, .int x1), (2, .int x2), (3, .int x3)]) C dX12_settledOf_1 (by decide) rfl ?_
  refine v_sipush (v := 9170) C dX12_settledOf_3 (by decide) ?_
  refine v_istore (lv' := [(5, .int 9170), (4, .int 0), (0, .ref h0), (1, .int x1), (2, .int x2), (3, .int x3)]) C dX12_settledOf_6 (by decide) rfl ?_
  refine v_lv C (lv' := [(0, .ref h0), (1, .int x1), (2, .int x2), (3, .int x3), (4, .int 0), (5, .int 9170)]) [2, 3, 4, 5, 1, 0] rfl ?_
  obtain ⟨n', hw⟩ := hw
  exact jX12_settledOf_8 h0 a0 Q C hret n' u0 x1 x2 x3 0 9170 hw
set_option maxHeartbeats 4000000 in
set_option maxRecDepth 100000 in
theorem kX12_isNear {l : Launch} {E : VE} (h0 : Nat) (a0 : Nat → Nat) (u0 : Md) (x1 : Int32) (x2 : Int32) (x3 : Int32) {Q : Int32 → Md → Prop} (hw : qX12_isNear u0 x1 x2 x3 Q) : MI l yX12_isNear cX12_isNear 6 .boolean 0 0 0 E [.ref h0, .int x1, .int x2, .int x3] ([wX12 E h0 a0 u0].flatten) (fun (U : Md) => [wX12 E h0 a0 U].flatten) (fun (r : Int32) (U : Md) => (r = 0 ∨ r = 1) ∧ Q r U) := by
  refine MI.of (own := RX12) (by decide) rfl (Nat.le_of_ble_eq_true rfl) ?_
  intro X C hini hret
  show VV X 0 0 ([wX12 E h0 a0 u0].flatten) [(0, .ref h0), (1, .int x1), (2, .int x2), (3, .int x3)] 0 []
  unfold qX12_isNear at hw
  refine v_aload_n C dX12_isNear_0 0 rfl ?_
  refine v_get (ci := 12) C inT12 0 1 rfl rfl (by decide) mF_X12_9_X12_1 rfl dX12_isNear_1 ?_
  refine v_bipush (v := 10) C dX12_isNear_4 (by decide) ?_
  refine v_iconst (v := 2) C dX12_isNear_6 (by decide) ?_
  refine v_iload_n C dX12_isNear_7 1 rfl ?_
  refine v_imul C dX12_isNear_8 ?_
  refine v_iadd C dX12_isNear_9 ?_
  obtain ⟨hi10, hw⟩ := hw
  refine v_iald C 1 rfl hi10 dX12_isNear_10 ?_
  refine v_aload_n C dX12_isNear_11 0 rfl ?_
  refine v_get (ci := 12) C inT12 0 1 rfl rfl (by decide) mF_X12_9_X12_1 rfl dX12_isNear_12 ?_
  refine v_bipush (v := 10) C dX12_isNear_15 (by decide) ?_
  refine v_iconst (v := 2) C dX12_isNear_17 (by decide) ?_
  refine v_iload_n C dX12_isNear_18 2 rfl ?_
  refine v_imul C dX12_isNear_19 ?_
  refine v_iadd C dX12_isNear_20 ?_
  obtain ⟨hi21, hw⟩ := hw
  refine v_iald C 1 rfl hi21 dX12_isNear_21 ?_
  refine v_isub C dX12_isNear_22 ?_
  refine v_istore (lv' := [(4, .int ((gA u0 1 (10 + (2 * x1)).toNatClampNeg) - (gA u0 1 (10 + (2 * x2)).toNatClampNeg))), (0, .ref h0), (1, .int x1), (2, .int x2), (3, .int x3)]) C dX12_isNear_23 (by decide) rfl ?_
  refine v_aload_n C dX12_isNear_25 1 rfl ?_
  refine v_get (ci := 12) C inT12 0 1 rfl rfl (by decide) mF_X12_9_X12_1 rfl dX12_isNear_26 ?_
  refine v_bipush (v := 10) C dX12_isNear_29 (by decide) ?_
  refine v_iconst (v := 2) C dX12_isNear_31 (by decide) ?_
  refine v_iload_n C dX12_isNear_32 2 rfl ?_
  refine v_imul C dX12_isNear_33 ?_
  refine v_iadd C dX12_isNear_34 ?_
  refine v_iconst (v := 1) C dX12_isNear_35 (by decide) ?_
  refine v_iadd C dX12_isNear_36 ?_
  obtain ⟨hi37, hw⟩ := hw
  refine v_iald C 1 rfl hi37 dX12_isNear_37 ?_
  refine v_aload_n C dX12_isNear_38 1 rfl ?_
  refine v_get (ci := 12) C inT12 0 1 rfl rfl (by decide) mF_X12_9_X12_1 rfl dX12_isNear_39 ?_
  refine v_bipush (v := 10) C dX12_isNear_42 (by decide) ?_
  refine v_iconst (v := 2) C dX12_isNear_44 (by decide) ?_
  refine v_iload_n C dX12_isNear_45 3 rfl ?_
  refine v_imul C dX12_isNear_46 ?_
  refine v_iadd C dX12_isNear_47 ?_
  refine v_iconst (v := 1) C dX12_isNear_48 (by decide) ?_
  refine v_iadd C dX12_isNear_49 ?_
  obtain ⟨hi50, hw⟩ := hw
  refine v_iald C 1 rfl hi50 dX12_isNear_50 ?_
  refine v_isub C dX12_isNear_51 ?_
  refine v_istore (lv' := [(5, .int ((gA u0 1 ((10 + (2 * x1)) + 1).toNatClampNeg) - (gA u0 1 ((10 + (2 * x2)) + 1).toNatClampNeg))), (4, .int ((gA u0 1 (10 + (2 * x1)).toNatClampNeg) - (gA u0 1 (10 + (2 * x2)).toNatClampNeg))), (0, .ref h0), (1, .int x1), (2, .int x2), (3, .int x3)]) C dX12_isNear_52 (by decide) rfl ?_
  refine v_iload C dX12_isNear_54 1 rfl ?_
  refine v_i2l C dX12_isNear_56 ?_
  refine v_iload C dX12_isNear_57 1 rfl ?_
  refine v_i2l C dX12_isNear_59 ?_
  refine v_lmul C dX12_isNear_60 rfl ?_
  refine v_iload C dX12_isNear_61 0 rfl ?_
  refine v_i2l C dX12_isNear_63 ?_
  refine v_iload C dX12_isNear_64 0 rfl ?_
  refine v_i2l C dX12_isNear_66 ?_
  refine v_lmul C dX12_isNear_67 rfl ?_
  refine v_ladd C dX12_isNear_68 rfl ?_
  refine v_iload_n C dX12_isNear_69 5 rfl ?_
  refine v_i2l C dX12_isNear_70 ?_
  refine v_iload_n C dX12_isNear_71 5 rfl ?_
  refine v_i2l C dX12_isNear_72 ?_
  refine v_lmul C dX12_isNear_73 rfl ?_
  refine v_lcmp C dX12_isNear_74 ?_
  refine v_if_gt (tgt := 82) C dX12_isNear_75 (by decide) (fun hc => ?_) (fun hc => ?_)
  · have hw := hw.1 hc
    refine v_iconst (v := 0) C dX12_isNear_82 (by decide) ?_
    exact hret _ _ _ _ 0 u0 dX12_isNear_83 rfl ⟨Or.inl rfl, hw⟩ (Nat.le_of_ble_eq_true rfl) (Nat.le_of_ble_eq_true rfl)
  · have hw := hw.2 hc
    refine v_iconst (v := 1) C dX12_isNear_78 (by decide) ?_
    refine v_goto (tgt := 83) C dX12_isNear_79 (by decide) ?_
    exact hret _ _ _ _ 1 u0 dX12_isNear_83 rfl ⟨Or.inr rfl, hw⟩ (Nat.le_of_ble_eq_true rfl) (Nat.le_of_ble_eq_true rfl)
set_option maxHeartbeats 4000000 in
set_option maxRecDepth 100000 in
theorem jX12_isTooAlike_59 {X : VX} {E : VE} {l : Launch} (h0 : Nat) (a0 : Nat → Nat)  (Q : Int32 → Md → Prop) (C : VC X cX12_isTooAlike 7 RX12 (rmL 4 0 0) E l) (hret : RetI X cX12_isTooAlike .boolean 0 0 (fun (U : Md) => [wX12 E h0 a0 U].flatten) (fun (r : Int32) (U : Md) => (r = 0 ∨ r = 1) ∧ Q r U)) (K25 : Md → Int32 → Int32 → Int32 → Int32 → Prop) (hK25 : ∀ (u0 : Md) (y1 : Int32) (y2 : Int32) (y3 : Int32) (y4 : Int32), K25 u0 y1 y2 y3 y4 → VV X 0 0 ([wX12 E h0 a0 u0].flatten) [(0, .ref h0), (1, .int y1), (2, .int y2), (3, .int y3), (4, .int y4)] 25 []) : ∀ (n : Nat), ∀ (u0 : Md) (y1 : Int32) (y2 : Int32) (y3 : Int32) (y4 : Int32) (y5 : Int32), qX12_isTooAlike_59 Q K25 n u0 y1 y2 y3 y4 y5 → VV X 0 0 ([wX12 E h0 a0 u0].flatten) [(0, .ref h0), (1, .int y1), (2, .int y2), (3, .int y3), (4, .int y4), (5, .int y5)] 59 [] := by
  intro n
  induction n with
  | zero =>
    intro u0 y1 y2 y3 y4 y5 hw
    exact hw.elim
  | succ n ih =>
    intro u0 y1 y2 y3 y4 y5 hw
    unfold qX12_isTooAlike_59 at hw
    refine v_iload C dX12_isTooAlike_59 5 rfl ?_
    refine v_iconst (v := 3) C dX12_isTooAlike_61 (by decide) ?_
    refine v_icmp_ge (tgt := 114) C dX12_isTooAlike_62 (by decide) (fun hc => ?_) (fun hc => ?_)
    · have hw := hw.1 hc
      refine v_iinc (lv' := [(4, .int (y4 + Int32.ofInt 1)), (0, .ref h0), (1, .int y1), (2, .int y2), (3, .int y3), (5, .int y5)]) C dX12_isTooAlike_114 4 rfl (by decide) rfl ?_
      refine v_goto (tgt := 25) C dX12_isTooAlike_117 (by decide) ?_
      refine v_lv C (lv' := [(0, .ref h0), (1, .int y1), (2, .int y2), (3, .int y3), (4, .int (y4 + Int32.ofInt 1))]) [1, 2, 3, 4, 0] rfl ?_
      exact hK25 u0 y1 y2 y3 (y4 + Int32.ofInt 1) hw
    · have hw := hw.2 hc
      refine v_aload_n C dX12_isTooAlike_65 0 rfl ?_
      refine v_iload C dX12_isTooAlike_66 4 rfl ?_
      refine v_iload C dX12_isTooAlike_68 5 rfl ?_
      refine v_aload_n C dX12_isTooAlike_70 0 rfl ?_
      refine v_callFi (st := [.int y5, .int y4, .ref h0]) (ci := 12) (qb := 0) C (kX12_now h0 a0 _ hw) mM_X12_138 mI_X12 mC_X12_now mN_X12_now mS_X12_now rfl rfl hd_X12_now ⟨Nat.le_of_ble_eq_true rfl, Nat.le_of_ble_eq_true rfl⟩ ⟨Nat.le_of_ble_eq_true rfl, Nat.le_of_ble_eq_true rfl⟩ rfl (Nat.le_of_ble_eq_true rfl) dX12_isTooAlike_71 (fun r71 v71_0 hw => ?_)
      refine v_callFi (st := []) (ci := 12) (qb := 0) C (kX12_settledOf h0 a0 _ _ _ _ hw) mM_X12_385 mI_X12 mC_X12_settledOf mN_X12_settledOf mS_X12_settledOf rfl rfl hd_X12_settledOf ⟨Nat.le_of_ble_eq_true rfl, Nat.le_of_ble_eq_true rfl⟩ ⟨Nat.le_of_ble_eq_true rfl, Nat.le_of_ble_eq_true rfl⟩ rfl (Nat.le_of_ble_eq_true rfl) dX12_isTooAlike_74 (fun r74 v74_0 hw => ?_)
      refine v_istore (lv' := [(6, .int r74), (0, .ref h0), (1, .int y1), (2, .int y2), (3, .int y3), (4, .int y4), (5, .int y5)]) C dX12_isTooAlike_77 (by decide) rfl ?_
      refine v_iload C dX12_isTooAlike_79 0 rfl ?_
      refine v_iconst (v := (-1)) C dX12_isTooAlike_81 (by decide) ?_
      refine v_icmp_eq (tgt := 108) C dX12_isTooAlike_82 (by decide) (fun hc => ?_) (fun hc => ?_)
      · have hw := hw.1 hc
        refine v_iinc (lv' := [(5, .int (y5 + Int32.ofInt 1)), (6, .int r74), (0, .ref h0), (1, .int y1), (2, .int y2), (3, .int y3), (4, .int y4)]) C dX12_isTooAlike_108 6 rfl (by decide) rfl ?_
        refine v_goto (tgt := 59) C dX12_isTooAlike_111 (by decide) ?_
        refine v_lv C (lv' := [(0, .ref h0), (1, .int y1), (2, .int y2), (3, .int y3), (4, .int y4), (5, .int (y5 + Int32.ofInt 1))]) [2, 3, 4, 5, 6, 0] rfl ?_
        exact ih v74_0 y1 y2 y3 y4 (y5 + Int32.ofInt 1) hw
      · have hw := hw.2 hc
        refine v_aload_n C dX12_isTooAlike_85 1 rfl ?_
        refine v_iload_n C dX12_isTooAlike_86 2 rfl ?_
        refine v_iload C dX12_isTooAlike_87 0 rfl ?_
        refine v_aload_n C dX12_isTooAlike_89 1 rfl ?_
        refine v_callFi (st := [.int r74, .int y1, .ref h0]) (ci := 12) (qb := 0) C (kX12_now h0 a0 _ hw) mM_X12_138 mI_X12 mC_X12_now mN_X12_now mS_X12_now rfl rfl hd_X12_now ⟨Nat.le_of_ble_eq_true rfl, Nat.le_of_ble_eq_true rfl⟩ ⟨Nat.le_of_ble_eq_true rfl, Nat.le_of_ble_eq_true rfl⟩ rfl (Nat.le_of_ble_eq_true rfl) dX12_isTooAlike_90 (fun r90 v90_0 hw => ?_)
        refine v_callFi (st := []) (ci := 12) (qb := 0) C (kX12_editsOf h0 a0 _ _ _ _ hw) mM_X12_303 mI_X12 mC_X12_editsOf mN_X12_editsOf mS_X12_editsOf rfl rfl hd_X12_editsOf ⟨Nat.le_of_ble_eq_true rfl, Nat.le_of_ble_eq_true rfl⟩ ⟨Nat.le_of_ble_eq_true rfl, Nat.le_of_ble_eq_true rfl⟩ rfl (Nat.le_of_ble_eq_true rfl) dX12_isTooAlike_93 (fun r93 v93_0 hw => ?_)
        refine v_aload_n C dX12_isTooAlike_96 1 rfl ?_
        refine v_iconst (v := 2) C dX12_isTooAlike_97 (by decide) ?_
        refine v_iconst (v := 2) C dX12_isTooAlike_98 (by decide) ?_
        refine v_iconst (v := 0) C dX12_isTooAlike_99 (by decide) ?_
        refine v_callFi (st := [.int r93]) (ci := 12) (qb := 0) C (kX12_termOf h0 a0 _ _ _ _ hw) mM_X12_379 mI_X12 mC_X12_termOf mN_X12_termOf mS_X12_termOf rfl rfl hd_X12_termOf ⟨Nat.le_of_ble_eq_true rfl, Nat.le_of_ble_eq_true rfl⟩ ⟨Nat.le_of_ble_eq_true rfl, Nat.le_of_ble_eq_true rfl⟩ rfl (Nat.le_of_ble_eq_true rfl) dX12_isTooAlike_100 (fun r100 v100_0 hw => ?_)
        refine v_icmp_gt (tgt := 108) C dX12_isTooAlike_103 (by decide) (fun hc => ?_) (fun hc => ?_)
        · have hw := hw.1 hc
          refine v_iinc (lv' := [(5, .int (y5 + Int32.ofInt 1)), (6, .int r74), (0, .ref h0), (1, .int y1), (2, .int y2), (3, .int y3), (4, .int y4)]) C dX12_isTooAlike_108 6 rfl (by decide) rfl ?_
          refine v_goto (tgt := 59) C dX12_isTooAlike_111 (by decide) ?_
          refine v_lv C (lv' := [(0, .ref h0), (1, .int y1), (2, .int y2), (3, .int y3), (4, .int y4), (5, .int (y5 + Int32.ofInt 1))]) [2, 3, 4, 5, 6, 0] rfl ?_
          exact ih v100_0 y1 y2 y3 y4 (y5 + Int32.ofInt 1) hw
        · have hw := hw.2 hc
          refine v_iconst (v := 1) C dX12_isTooAlike_106 (by decide) ?_
          exact hret _ _ _ _ 1 v100_0 dX12_isTooAlike_107 rfl ⟨Or.inr rfl, hw⟩ (Nat.le_of_ble_eq_true rfl) (Nat.le_of_ble_eq_true rfl)
set_option maxHeartbeats 4000000 in
set_option maxRecDepth 100000 in
theorem jX12_isTooAlike_25 {X : VX} {E : VE} {l : Launch} (h0 : Nat) (a0 : Nat → Nat)  (Q : Int32 → Md → Prop) (C : VC X cX12_isTooAlike 7 RX12 (rmL 4 0 0) E l) (hret : RetI X cX12_isTooAlike .boolean 0 0 (fun (U : Md) => [wX12 E h0 a0 U].flatten) (fun (r : Int32) (U : Md) => (r = 0 ∨ r = 1) ∧ Q r U))  : ∀ (n : Nat), ∀ (u0 : Md) (y1 : Int32) (y2 : Int32) (y3 : Int32) (y4 : Int32), qX12_isTooAlike_25 Q n u0 y1 y2 y3 y4 → VV X 0 0 ([wX12 E h0 a0 u0].flatten) [(0, .ref h0), (1, .int y1), (2, .int y2), (3, .int y3), (4, .int y4)] 25 [] := by
  intro n
  induction n with
  | zero =>
    intro u0 y1 y2 y3 y4 hw
    exact hw.elim
  | succ n ih =>
    intro u0 y1 y2 y3 y4 hw
    unfold qX12_isTooAlike_25 at hw
    refine v_iload C dX12_isTooAlike_25 4 rfl ?_
    refine v_aload_n C dX12_isTooAlike_27 0 rfl ?_
    refine v_get (ci := 12) C inT12 0 1 rfl rfl (by decide) mF_X12_9_X12_1 rfl dX12_isTooAlike_28 ?_
    refine v_iconst (v := 1) C dX12_isTooAlike_31 (by decide) ?_
    obtain ⟨hi32, hw⟩ := hw
    refine v_iald C 1 rfl hi32 dX12_isTooAlike_32 ?_
    refine v_icmp_ge (tgt := 120) C dX12_isTooAlike_33 (by decide) (fun hc => ?_) (fun hc => ?_)
    · have hw := hw.1 hc
      refine v_iconst (v := 0) C dX12_isTooAlike_120 (by decide) ?_
      exact hret _ _ _ _ 0 u0 dX12_isTooAlike_121 rfl ⟨Or.inl rfl, hw⟩ (Nat.le_of_ble_eq_true rfl) (Nat.le_of_ble_eq_true rfl)
    · have hw := hw.2 hc
      refine v_iload C dX12_isTooAlike_36 4 rfl ?_
      refine v_iload_n C dX12_isTooAlike_38 3 rfl ?_
      refine v_icmp_eq (tgt := 114) C dX12_isTooAlike_39 (by decide) (fun hc => ?_) (fun hc => ?_)
      · have hw := hw.1 hc
        refine v_iinc (lv' := [(4, .int (y4 + Int32.ofInt 1)), (0, .ref h0), (1, .int y1), (2, .int y2), (3, .int y3)]) C dX12_isTooAlike_114 4 rfl (by decide) rfl ?_
        refine v_goto (tgt := 25) C dX12_isTooAlike_117 (by decide) ?_
        refine v_lv C (lv' := [(0, .ref h0), (1, .int y1), (2, .int y2), (3, .int y3), (4, .int (y4 + Int32.ofInt 1))]) [1, 2, 3, 4, 0] rfl ?_
        exact ih u0 y1 y2 y3 (y4 + Int32.ofInt 1) hw
      · have hw := hw.2 hc
        refine v_aload_n C dX12_isTooAlike_42 0 rfl ?_
        refine v_iload C dX12_isTooAlike_43 4 rfl ?_
        refine v_iload_n C dX12_isTooAlike_45 3 rfl ?_
        refine v_iload_n C dX12_isTooAlike_46 2 rfl ?_
        refine v_callFi (st := []) (ci := 12) (qb := 0) C (kX12_isNear h0 a0 _ _ _ _ hw) mM_X12_382 mI_X12 mC_X12_isNear mN_X12_isNear mS_X12_isNear rfl rfl hd_X12_isNear ⟨Nat.le_of_ble_eq_true rfl, Nat.le_of_ble_eq_true rfl⟩ ⟨Nat.le_of_ble_eq_true rfl, Nat.le_of_ble_eq_true rfl⟩ rfl (Nat.le_of_ble_eq_true rfl) dX12_isTooAlike_47 (fun r47 v47_0 hw => ?_)
        obtain ⟨h01_47, hw⟩ := hw
        have hw := hw h01_47
        refine v_if_ne (tgt := 56) C dX12_isTooAlike_50 (by decide) (fun hc => ?_) (fun hc => ?_)
        · have hw := hw.1 hc
          refine v_iconst (v := 0) C dX12_isTooAlike_56 (by decide) ?_
          refine v_istore (lv' := [(5, .int 0), (0, .ref h0), (1, .int y1), (2, .int y2), (3, .int y3), (4, .int y4)]) C dX12_isTooAlike_57 (by decide) rfl ?_
          refine v_lv C (lv' := [(0, .ref h0), (1, .int y1), (2, .int y2), (3, .int y3), (4, .int y4), (5, .int 0)]) [1, 2, 3, 4, 5, 0] rfl ?_
          obtain ⟨n', hw⟩ := hw
          exact jX12_isTooAlike_59 h0 a0 Q C hret (qX12_isTooAlike_25 Q n) ih n' v47_0 y1 y2 y3 y4 0 hw
        · have hw := hw.2 hc
          refine v_goto (tgt := 114) C dX12_isTooAlike_53 (by decide) ?_
          refine v_iinc (lv' := [(4, .int (y4 + Int32.ofInt 1)), (0, .ref h0), (1, .int y1), (2, .int y2), (3, .int y3)]) C dX12_isTooAlike_114 4 rfl (by decide) rfl ?_
          refine v_goto (tgt := 25) C dX12_isTooAlike_117 (by decide) ?_
          refine v_lv C (lv' := [(0, .ref h0), (1, .int y1), (2, .int y2), (3, .int y3), (4, .int (y4 + Int32.ofInt 1))]) [1, 2, 3, 4, 0] rfl ?_
          exact ih v47_0 y1 y2 y3 (y4 + Int32.ofInt 1) hw
set_option maxHeartbeats 4000000 in
set_option maxRecDepth 100000 in
theorem kX12_isTooAlike {l : Launch} {E : VE} (h0 : Nat) (a0 : Nat → Nat) (u0 : Md) (x1 : Int32) {Q : Int32 → Md → Prop} (hw : qX12_isTooAlike u0 x1 Q) : MI l yX12_isTooAlike cX12_isTooAlike 7 .boolean 4 0 0 E [.ref h0, .int x1] ([wX12 E h0 a0 u0].flatten) (fun (U : Md) => [wX12 E h0 a0 U].flatten) (fun (r : Int32) (U : Md) => (r = 0 ∨ r = 1) ∧ Q r U) := by
  refine MI.of (own := RX12) (by decide) rfl (Nat.le_of_ble_eq_true rfl) ?_
  intro X C hini hret
  show VV X 0 0 ([wX12 E h0 a0 u0].flatten) [(0, .ref h0), (1, .int x1)] 0 []
  unfold qX12_isTooAlike at hw
  refine v_aload_n C dX12_isTooAlike_0 0 rfl ?_
  refine v_iconst (v := 2) C dX12_isTooAlike_1 (by decide) ?_
  refine v_iconst (v := 1) C dX12_isTooAlike_2 (by decide) ?_
  refine v_iconst (v := (-1)) C dX12_isTooAlike_3 (by decide) ?_
  refine v_callFi (st := []) (ci := 12) (qb := 0) C (kX12_termOf h0 a0 _ _ _ _ hw) mM_X12_379 mI_X12 mC_X12_termOf mN_X12_termOf mS_X12_termOf rfl rfl hd_X12_termOf ⟨Nat.le_of_ble_eq_true rfl, Nat.le_of_ble_eq_true rfl⟩ ⟨Nat.le_of_ble_eq_true rfl, Nat.le_of_ble_eq_true rfl⟩ rfl (Nat.le_of_ble_eq_true rfl) dX12_isTooAlike_4 (fun r4 v4_0 hw => ?_)
  refine v_istore_n (lv' := [(2, .int r4), (0, .ref h0), (1, .int x1)]) C dX12_isTooAlike_7 (by decide) rfl ?_
  refine v_iload_n C dX12_isTooAlike_8 0 rfl ?_
  refine v_iconst (v := (-1)) C dX12_isTooAlike_9 (by decide) ?_
  refine v_icmp_ne (tgt := 15) C dX12_isTooAlike_10 (by decide) (fun hc => ?_) (fun hc => ?_)
  · have hw := hw.1 hc
    refine v_aload_n C dX12_isTooAlike_15 1 rfl ?_
    refine v_iload_n C dX12_isTooAlike_16 2 rfl ?_
    refine v_iconst (v := 0) C dX12_isTooAlike_17 (by decide) ?_
    refine v_callFi (st := []) (ci := 12) (qb := 0) C (kX12_nameIs h0 a0 _ _ _ hw) mM_X12_265 mI_X12 mC_X12_nameIs mN_X12_nameIs mS_X12_nameIs rfl rfl hd_X12_nameIs ⟨Nat.le_of_ble_eq_true rfl, Nat.le_of_ble_eq_true rfl⟩ ⟨Nat.le_of_ble_eq_true rfl, Nat.le_of_ble_eq_true rfl⟩ rfl (Nat.le_of_ble_eq_true rfl) dX12_isTooAlike_18 (fun r18 v18_0 hw => ?_)
    refine v_istore_n (lv' := [(3, .int r18), (2, .int r4), (0, .ref h0), (1, .int x1)]) C dX12_isTooAlike_21 (by decide) rfl ?_
    refine v_iconst (v := 0) C dX12_isTooAlike_22 (by decide) ?_
    refine v_istore (lv' := [(4, .int 0), (3, .int r18), (2, .int r4), (0, .ref h0), (1, .int x1)]) C dX12_isTooAlike_23 (by decide) rfl ?_
    refine v_lv C (lv' := [(0, .ref h0), (1, .int x1), (2, .int r4), (3, .int r18), (4, .int 0)]) [3, 4, 2, 1, 0] rfl ?_
    obtain ⟨n', hw⟩ := hw
    exact jX12_isTooAlike_25 h0 a0 Q C hret n' v18_0 x1 r4 r18 0 hw
  · have hw := hw.2 hc
    refine v_iconst (v := 0) C dX12_isTooAlike_13 (by decide) ?_
    exact hret _ _ _ _ 0 v4_0 dX12_isTooAlike_14 rfl ⟨Or.inl rfl, hw⟩ (Nat.le_of_ble_eq_true rfl) (Nat.le_of_ble_eq_true rfl)
set_option maxHeartbeats 4000000 in
set_option maxRecDepth 100000 in
theorem jX12_close_191 {X : VX} {E : VE} {l : Launch} (h0 : Nat) (a0 : Nat → Nat)  (Q : Int32 → Md → Prop) (C : VC X cX12_close 6 RX12 (rmL 5 0 0) E l) (hret : RetI X cX12_close .int 0 0 (fun (U : Md) => [wX12 E h0 a0 U].flatten) (fun (r : Int32) (U : Md) => Q r U))  : ∀ (u0 : Md) (y4 : Int32), qX12_close_191 Q u0 y4 → VV X 0 0 ([wX12 E h0 a0 u0].flatten) [(0, .ref h0), (4, .int y4)] 191 [] := by
  intro u0 y4 hw
  unfold qX12_close_191 at hw
  refine v_aload_n C dX12_close_191 0 rfl ?_
  refine v_iload C dX12_close_192 1 rfl ?_
  refine v_callFi (st := []) (ci := 12) (qb := 0) C (kX12_isTooAlike h0 a0 _ _ hw) mM_X12_388 mI_X12 mC_X12_isTooAlike mN_X12_isTooAlike mS_X12_isTooAlike rfl rfl hd_X12_isTooAlike ⟨Nat.le_of_ble_eq_true rfl, Nat.le_of_ble_eq_true rfl⟩ ⟨Nat.le_of_ble_eq_true rfl, Nat.le_of_ble_eq_true rfl⟩ rfl (Nat.le_of_ble_eq_true rfl) dX12_close_194 (fun r194 v194_0 hw => ?_)
  obtain ⟨h01_194, hw⟩ := hw
  have hw := hw h01_194
  refine v_if_eq (tgt := 202) C dX12_close_197 (by decide) (fun hc => ?_) (fun hc => ?_)
  · have hw := hw.1 hc
    refine v_aload_n C dX12_close_202 0 rfl ?_
    refine v_aload_n C dX12_close_203 0 rfl ?_
    refine v_iload C dX12_close_204 1 rfl ?_
    refine v_iconst (v := 0) C dX12_close_206 (by decide) ?_
    refine v_callFi (st := [.ref h0]) (ci := 12) (qb := 0) C (kX12_nameIs h0 a0 _ _ _ hw) mM_X12_265 mI_X12 mC_X12_nameIs mN_X12_nameIs mS_X12_nameIs rfl rfl hd_X12_nameIs ⟨Nat.le_of_ble_eq_true rfl, Nat.le_of_ble_eq_true rfl⟩ ⟨Nat.le_of_ble_eq_true rfl, Nat.le_of_ble_eq_true rfl⟩ rfl (Nat.le_of_ble_eq_true rfl) dX12_close_207 (fun r207 v207_0 hw => ?_)
    refine v_aload_n C dX12_close_210 0 rfl ?_
    refine v_iload C dX12_close_211 1 rfl ?_
    refine v_iconst (v := 1) C dX12_close_213 (by decide) ?_
    refine v_callFi (st := [.int r207, .ref h0]) (ci := 12) (qb := 0) C (kX12_nameIs h0 a0 _ _ _ hw) mM_X12_265 mI_X12 mC_X12_nameIs mN_X12_nameIs mS_X12_nameIs rfl rfl hd_X12_nameIs ⟨Nat.le_of_ble_eq_true rfl, Nat.le_of_ble_eq_true rfl⟩ ⟨Nat.le_of_ble_eq_true rfl, Nat.le_of_ble_eq_true rfl⟩ rfl (Nat.le_of_ble_eq_true rfl) dX12_close_214 (fun r214 v214_0 hw => ?_)
    refine v_iload C dX12_close_217 1 rfl ?_
    refine v_callFv (st := []) (ci := 12) (qb := 0) C (kX12_event h0 a0 _ _ _ _ hw) mM_X12_391 mI_X12 mC_X12_event mN_X12_event mS_X12_event rfl rfl hd_X12_event ⟨Nat.le_of_ble_eq_true rfl, Nat.le_of_ble_eq_true rfl⟩ ⟨Nat.le_of_ble_eq_true rfl, Nat.le_of_ble_eq_true rfl⟩ rfl (Nat.le_of_ble_eq_true rfl) dX12_close_219 (fun v219_0 hw => ?_)
    refine v_iconst (v := 0) C dX12_close_222 (by decide) ?_
    exact hret _ _ _ _ 0 v219_0 dX12_close_223 rfl hw (Nat.le_of_ble_eq_true rfl) (Nat.le_of_ble_eq_true rfl)
  · have hw := hw.2 hc
    refine v_iconst (v := 3) C dX12_close_200 (by decide) ?_
    exact hret _ _ _ _ 3 v194_0 dX12_close_201 rfl hw (Nat.le_of_ble_eq_true rfl) (Nat.le_of_ble_eq_true rfl)
set_option maxHeartbeats 4000000 in
set_option maxRecDepth 100000 in
theorem jX12_close_107 {X : VX} {E : VE} {l : Launch} (h0 : Nat) (a0 : Nat → Nat)  (Q : Int32 → Md → Prop) (C : VC X cX12_close 6 RX12 (rmL 5 0 0) E l) (hret : RetI X cX12_close .int 0 0 (fun (U : Md) => [wX12 E h0 a0 U].flatten) (fun (r : Int32) (U : Md) => Q r U)) (K49 : Md → Int32 → Int32 → Int32 → Int32 → Prop) (hK49 : ∀ (u0 : Md) (y1 : Int32) (y2 : Int32) (y3 : Int32) (y4 : Int32), K49 u0 y1 y2 y3 y4 → VV X 0 0 ([wX12 E h0 a0 u0].flatten) [(0, .ref h0), (1, .int y1), (2, .int y2), (3, .int y3), (4, .int y4)] 49 []) : ∀ (u0 : Md) (y1 : Int32) (y2 : Int32) (y4 : Int32) (z0 : Int32) (z1 : Int32), qX12_close_107 Q K49 u0 y1 y2 y4 z0 z1 → VV X 0 0 ([wX12 E h0 a0 u0].flatten) [(0, .ref h0), (1, .int y1), (2, .int y2), (4, .int y4)] 107 [.int z0, .int z1] := by
  intro u0 y1 y2 y4 z0 z1 hw
  unfold qX12_close_107 at hw
  refine v_iadd C dX12_close_107 ?_
  refine v_istore_n (lv' := [(3, .int (z1 + z0)), (0, .ref h0), (1, .int y1), (2, .int y2), (4, .int y4)]) C dX12_close_108 (by decide) rfl ?_
  refine v_iinc (lv' := [(4, .int (y4 + Int32.ofInt 1)), (3, .int (z1 + z0)), (0, .ref h0), (1, .int y1), (2, .int y2)]) C dX12_close_109 4 rfl (by decide) rfl ?_
  refine v_goto (tgt := 49) C dX12_close_112 (by decide) ?_
  refine v_lv C (lv' := [(0, .ref h0), (1, .int y1), (2, .int y2), (3, .int (z1 + z0)), (4, .int (y4 + Int32.ofInt 1))]) [2, 3, 4, 1, 0] rfl ?_
  exact hK49 u0 y1 y2 (z1 + z0) (y4 + Int32.ofInt 1) hw
set_option maxHeartbeats 4000000 in
set_option maxRecDepth 100000 in
theorem jX12_close_80 {X : VX} {E : VE} {l : Launch} (h0 : Nat) (a0 : Nat → Nat)  (Q : Int32 → Md → Prop) (C : VC X cX12_close 6 RX12 (rmL 5 0 0) E l) (hret : RetI X cX12_close .int 0 0 (fun (U : Md) => [wX12 E h0 a0 U].flatten) (fun (r : Int32) (U : Md) => Q r U)) (K49 : Md → Int32 → Int32 → Int32 → Int32 → Prop) (hK49 : ∀ (u0 : Md) (y1 : Int32) (y2 : Int32) (y3 : Int32) (y4 : Int32), K49 u0 y1 y2 y3 y4 → VV X 0 0 ([wX12 E h0 a0 u0].flatten) [(0, .ref h0), (1, .int y1), (2, .int y2), (3, .int y3), (4, .int y4)] 49 []) : ∀ (u0 : Md) (y1 : Int32) (y3 : Int32) (y4 : Int32) (z0 : Int32) (z1 : Int32), qX12_close_80 Q K49 u0 y1 y3 y4 z0 z1 → VV X 0 0 ([wX12 E h0 a0 u0].flatten) [(0, .ref h0), (1, .int y1), (3, .int y3), (4, .int y4)] 80 [.int z0, .int z1] := by
  intro u0 y1 y3 y4 z0 z1 hw
  unfold qX12_close_80 at hw
  refine v_iadd C dX12_close_80 ?_
  refine v_istore_n (lv' := [(2, .int (z1 + z0)), (0, .ref h0), (1, .int y1), (3, .int y3), (4, .int y4)]) C dX12_close_81 (by decide) rfl ?_
  refine v_iload_n C dX12_close_82 3 rfl ?_
  refine v_aload_n C dX12_close_83 1 rfl ?_
  refine v_get (ci := 12) C inT12 0 1 rfl rfl (by decide) mF_X12_9_X12_1 rfl dX12_close_84 ?_
  refine v_aload_n C dX12_close_87 1 rfl ?_
  refine v_iload_n C dX12_close_88 2 rfl ?_
  refine v_callVPi (st := [.ref ((a0 1)), .int y3]) (ci := 12) (qb := 0) C (kX12_hearing h0 _ hw) mM_X12_371 mI_X12 mC_X12_hearing mN_X12_hearing mS_X12_hearing rfl rfl hd_X12_hearing ⟨Nat.le_of_ble_eq_true rfl, Nat.le_of_ble_eq_true rfl⟩ ⟨Nat.le_of_ble_eq_true rfl, Nat.le_of_ble_eq_true rfl⟩ rfl (Nat.le_of_ble_eq_true rfl) dX12_close_89 (fun r89 U89 hw => ?_)
  refine v_iconst (v := 2) C dX12_close_92 (by decide) ?_
  refine v_iadd C dX12_close_93 ?_
  refine v_iload C dX12_close_94 4 rfl ?_
  refine v_iadd C dX12_close_96 ?_
  obtain ⟨hi97, hw⟩ := hw
  refine v_iald C 1 rfl hi97 dX12_close_97 ?_
  refine v_iconst (v := 1) C dX12_close_98 (by decide) ?_
  refine v_icmp_ne (tgt := 106) C dX12_close_99 (by decide) (fun hc => ?_) (fun hc => ?_)
  · have hw := hw.1 hc
    refine v_iconst (v := 0) C dX12_close_106 (by decide) ?_
    refine v_lv C (lv' := [(0, .ref h0), (1, .int y1), (2, .int (z1 + z0)), (4, .int y4)]) [1, 2, 0, 4] rfl ?_
    exact jX12_close_107 h0 a0 Q C hret K49 hK49 u0 y1 (z1 + z0) y4 0 y3 hw
  · have hw := hw.2 hc
    refine v_iconst (v := 1) C dX12_close_102 (by decide) ?_
    refine v_goto (tgt := 107) C dX12_close_103 (by decide) ?_
    refine v_lv C (lv' := [(0, .ref h0), (1, .int y1), (2, .int (z1 + z0)), (4, .int y4)]) [1, 2, 0, 4] rfl ?_
    exact jX12_close_107 h0 a0 Q C hret K49 hK49 u0 y1 (z1 + z0) y4 1 y3 hw
set_option maxHeartbeats 4000000 in
set_option maxRecDepth 100000 in
theorem jX12_close_49 {X : VX} {E : VE} {l : Launch} (h0 : Nat) (a0 : Nat → Nat)  (Q : Int32 → Md → Prop) (C : VC X cX12_close 6 RX12 (rmL 5 0 0) E l) (hret : RetI X cX12_close .int 0 0 (fun (U : Md) => [wX12 E h0 a0 U].flatten) (fun (r : Int32) (U : Md) => Q r U))  : ∀ (n : Nat), ∀ (u0 : Md) (y1 : Int32) (y2 : Int32) (y3 : Int32) (y4 : Int32), qX12_close_49 Q n u0 y1 y2 y3 y4 → VV X 0 0 ([wX12 E h0 a0 u0].flatten) [(0, .ref h0), (1, .int y1), (2, .int y2), (3, .int y3), (4, .int y4)] 49 [] := by
  intro n
  induction n with
  | zero =>
    intro u0 y1 y2 y3 y4 hw
    exact hw.elim
  | succ n ih =>
    intro u0 y1 y2 y3 y4 hw
    unfold qX12_close_49 at hw
    refine v_iload C dX12_close_49 4 rfl ?_
    refine v_bipush (v := 9) C dX12_close_51 (by decide) ?_
    refine v_icmp_ge (tgt := 115) C dX12_close_53 (by decide) (fun hc => ?_) (fun hc => ?_)
    · have hw := hw.1 hc
      refine v_iload_n C dX12_close_115 2 rfl ?_
      refine v_if_eq (tgt := 136) C dX12_close_116 (by decide) (fun hc => ?_) (fun hc => ?_)
      · have hw := hw.1 hc
        refine v_iconst (v := 1) C dX12_close_136 (by decide) ?_
        exact hret _ _ _ _ 1 u0 dX12_close_137 rfl hw (Nat.le_of_ble_eq_true rfl) (Nat.le_of_ble_eq_true rfl)
      · have hw := hw.2 hc
        refine v_bipush (v := 100) C dX12_close_119 (by decide) ?_
        refine v_iload_n C dX12_close_121 3 rfl ?_
        refine v_imul C dX12_close_122 ?_
        refine v_aload_n C dX12_close_123 0 rfl ?_
        refine v_iconst (v := 5) C dX12_close_124 (by decide) ?_
        refine v_iconst (v := 1) C dX12_close_125 (by decide) ?_
        refine v_bipush (v := 50) C dX12_close_126 (by decide) ?_
        refine v_callFi (st := [.int (100 * y3)]) (ci := 12) (qb := 0) C (kX12_termOf h0 a0 _ _ _ _ hw) mM_X12_379 mI_X12 mC_X12_termOf mN_X12_termOf mS_X12_termOf rfl rfl hd_X12_termOf ⟨Nat.le_of_ble_eq_true rfl, Nat.le_of_ble_eq_true rfl⟩ ⟨Nat.le_of_ble_eq_true rfl, Nat.le_of_ble_eq_true rfl⟩ rfl (Nat.le_of_ble_eq_true rfl) dX12_close_128 (fun r128 v128_0 hw => ?_)
        refine v_iload_n C dX12_close_131 2 rfl ?_
        refine v_imul C dX12_close_132 ?_
        refine v_icmp_ge (tgt := 138) C dX12_close_133 (by decide) (fun hc => ?_) (fun hc => ?_)
        · have hw := hw.1 hc
          refine v_aload_n C dX12_close_138 0 rfl ?_
          refine v_get (ci := 12) C inT12 0 1 rfl rfl (by decide) mF_X12_9_X12_1 rfl dX12_close_139 ?_
          refine v_aload_n C dX12_close_142 0 rfl ?_
          refine v_iload_n C dX12_close_143 1 rfl ?_
          refine v_callVPi (st := [.ref ((a0 1))]) (ci := 12) (qb := 0) C (kX12_hearing h0 _ hw) mM_X12_371 mI_X12 mC_X12_hearing mN_X12_hearing mS_X12_hearing rfl rfl hd_X12_hearing ⟨Nat.le_of_ble_eq_true rfl, Nat.le_of_ble_eq_true rfl⟩ ⟨Nat.le_of_ble_eq_true rfl, Nat.le_of_ble_eq_true rfl⟩ rfl (Nat.le_of_ble_eq_true rfl) dX12_close_144 (fun r144 U144 hw => ?_)
          obtain ⟨hi147, hw⟩ := hw
          refine v_iald C 1 rfl hi147 dX12_close_147 ?_
          refine v_istore (lv' := [(4, .int (gA v128_0 1 r144.toNatClampNeg)), (0, .ref h0), (1, .int y1), (2, .int y2), (3, .int y3)]) C dX12_close_148 (by decide) rfl ?_
          refine v_aload_n C dX12_close_150 1 rfl ?_
          refine v_iload C dX12_close_151 0 rfl ?_
          refine v_iconst (v := 2) C dX12_close_153 (by decide) ?_
          refine v_callFi (st := []) (ci := 12) (qb := 0) C (kX12_nameIs h0 a0 _ _ _ hw) mM_X12_265 mI_X12 mC_X12_nameIs mN_X12_nameIs mS_X12_nameIs rfl rfl hd_X12_nameIs ⟨Nat.le_of_ble_eq_true rfl, Nat.le_of_ble_eq_true rfl⟩ ⟨Nat.le_of_ble_eq_true rfl, Nat.le_of_ble_eq_true rfl⟩ rfl (Nat.le_of_ble_eq_true rfl) dX12_close_154 (fun r154 v154_0 hw => ?_)
          refine v_istore (lv' := [(5, .int r154), (4, .int (gA v128_0 1 r144.toNatClampNeg)), (0, .ref h0), (1, .int y1), (2, .int y2), (3, .int y3)]) C dX12_close_157 (by decide) rfl ?_
          refine v_iload C dX12_close_159 0 rfl ?_
          refine v_bipush (v := (-9)) C dX12_close_161 (by decide) ?_
          refine v_icmp_eq (tgt := 189) C dX12_close_163 (by decide) (fun hc => ?_) (fun hc => ?_)
          · have hw := hw.1 hc
            refine v_iconst (v := 2) C dX12_close_189 (by decide) ?_
            exact hret _ _ _ _ 2 v154_0 dX12_close_190 rfl hw (Nat.le_of_ble_eq_true rfl) (Nat.le_of_ble_eq_true rfl)
          · have hw := hw.2 hc
            refine v_iload C dX12_close_166 0 rfl ?_
            refine v_iconst (v := (-1)) C dX12_close_168 (by decide) ?_
            refine v_icmp_eq (tgt := 191) C dX12_close_169 (by decide) (fun hc => ?_) (fun hc => ?_)
            · have hw := hw.1 hc
              refine v_lv C (lv' := [(0, .ref h0), (4, .int (gA v128_0 1 r144.toNatClampNeg))]) [2, 1] rfl ?_
              exact jX12_close_191 h0 a0 Q C hret v154_0 (gA v128_0 1 r144.toNatClampNeg) hw
            · have hw := hw.2 hc
              refine v_aload_n C dX12_close_172 2 rfl ?_
              refine v_callFi (st := []) (ci := 12) (qb := 0) C (kX12_now h0 a0 _ hw) mM_X12_138 mI_X12 mC_X12_now mN_X12_now mS_X12_now rfl rfl hd_X12_now ⟨Nat.le_of_ble_eq_true rfl, Nat.le_of_ble_eq_true rfl⟩ ⟨Nat.le_of_ble_eq_true rfl, Nat.le_of_ble_eq_true rfl⟩ rfl (Nat.le_of_ble_eq_true rfl) dX12_close_173 (fun r173 v173_0 hw => ?_)
              refine v_iload C dX12_close_176 0 rfl ?_
              refine v_isub C dX12_close_178 ?_
              refine v_aload_n C dX12_close_179 2 rfl ?_
              refine v_iconst (v := 3) C dX12_close_180 (by decide) ?_
              refine v_iconst (v := 1) C dX12_close_181 (by decide) ?_
              refine v_iconst (v := 0) C dX12_close_182 (by decide) ?_
              refine v_callFi (st := [.int (r173 - r154)]) (ci := 12) (qb := 0) C (kX12_termOf h0 a0 _ _ _ _ hw) mM_X12_379 mI_X12 mC_X12_termOf mN_X12_termOf mS_X12_termOf rfl rfl hd_X12_termOf ⟨Nat.le_of_ble_eq_true rfl, Nat.le_of_ble_eq_true rfl⟩ ⟨Nat.le_of_ble_eq_true rfl, Nat.le_of_ble_eq_true rfl⟩ rfl (Nat.le_of_ble_eq_true rfl) dX12_close_183 (fun r183 v183_0 hw => ?_)
              refine v_icmp_ge (tgt := 191) C dX12_close_186 (by decide) (fun hc => ?_) (fun hc => ?_)
              · have hw := hw.1 hc
                refine v_lv C (lv' := [(0, .ref h0), (4, .int (gA v128_0 1 r144.toNatClampNeg))]) [2, 1] rfl ?_
                exact jX12_close_191 h0 a0 Q C hret v183_0 (gA v128_0 1 r144.toNatClampNeg) hw
              · have hw := hw.2 hc
                refine v_iconst (v := 2) C dX12_close_189 (by decide) ?_
                exact hret _ _ _ _ 2 v183_0 dX12_close_190 rfl hw (Nat.le_of_ble_eq_true rfl) (Nat.le_of_ble_eq_true rfl)
        · have hw := hw.2 hc
          refine v_iconst (v := 1) C dX12_close_136 (by decide) ?_
          exact hret _ _ _ _ 1 v128_0 dX12_close_137 rfl hw (Nat.le_of_ble_eq_true rfl) (Nat.le_of_ble_eq_true rfl)
    · have hw := hw.2 hc
      refine v_iload_n C dX12_close_56 2 rfl ?_
      refine v_aload_n C dX12_close_57 0 rfl ?_
      refine v_get (ci := 12) C inT12 0 1 rfl rfl (by decide) mF_X12_9_X12_1 rfl dX12_close_58 ?_
      refine v_aload_n C dX12_close_61 0 rfl ?_
      refine v_iload_n C dX12_close_62 1 rfl ?_
      refine v_callVPi (st := [.ref ((a0 1)), .int y2]) (ci := 12) (qb := 0) C (kX12_hearing h0 _ hw) mM_X12_371 mI_X12 mC_X12_hearing mN_X12_hearing mS_X12_hearing rfl rfl hd_X12_hearing ⟨Nat.le_of_ble_eq_true rfl, Nat.le_of_ble_eq_true rfl⟩ ⟨Nat.le_of_ble_eq_true rfl, Nat.le_of_ble_eq_true rfl⟩ rfl (Nat.le_of_ble_eq_true rfl) dX12_close_63 (fun r63 U63 hw => ?_)
      refine v_iconst (v := 2) C dX12_close_66 (by decide) ?_
      refine v_iadd C dX12_close_67 ?_
      refine v_iload C dX12_close_68 4 rfl ?_
      refine v_iadd C dX12_close_70 ?_
      obtain ⟨hi71, hw⟩ := hw
      refine v_iald C 1 rfl hi71 dX12_close_71 ?_
      refine v_if_le (tgt := 79) C dX12_close_72 (by decide) (fun hc => ?_) (fun hc => ?_)
      · have hw := hw.1 hc
        refine v_iconst (v := 0) C dX12_close_79 (by decide) ?_
        refine v_lv C (lv' := [(0, .ref h0), (1, .int y1), (3, .int y3), (4, .int y4)]) [0, 1, 3, 4] rfl ?_
        exact jX12_close_80 h0 a0 Q C hret (qX12_close_49 Q n) ih u0 y1 y3 y4 0 y2 hw
      · have hw := hw.2 hc
        refine v_iconst (v := 1) C dX12_close_75 (by decide) ?_
        refine v_goto (tgt := 80) C dX12_close_76 (by decide) ?_
        refine v_lv C (lv' := [(0, .ref h0), (1, .int y1), (3, .int y3), (4, .int y4)]) [0, 1, 3, 4] rfl ?_
        exact jX12_close_80 h0 a0 Q C hret (qX12_close_49 Q n) ih u0 y1 y3 y4 1 y2 hw
set_option maxHeartbeats 4000000 in
set_option maxRecDepth 100000 in
theorem kX12_close {l : Launch} {E : VE} (h0 : Nat) (a0 : Nat → Nat) (u0 : Md) (x1 : Int32) {Q : Int32 → Md → Prop} (hw : qX12_close u0 x1 Q) : MI l yX12_close cX12_close 6 .int 5 0 0 E [.ref h0, .int x1] ([wX12 E h0 a0 u0].flatten) (fun (U : Md) => [wX12 E h0 a0 U].flatten) (fun (r : Int32) (U : Md) => Q r U) := by
  refine MI.of (own := RX12) (by decide) rfl (Nat.le_of_ble_eq_true rfl) ?_
  intro X C hini hret
  show VV X 0 0 ([wX12 E h0 a0 u0].flatten) [(0, .ref h0), (1, .int x1)] 0 []
  unfold qX12_close at hw
  refine v_aload_n C dX12_close_0 0 rfl ?_
  refine v_iload_n C dX12_close_1 1 rfl ?_
  refine v_callFi (st := []) (ci := 12) (qb := 0) C (kX12_isHearing h0 a0 _ _ hw) mM_X12_374 mI_X12 mC_X12_isHearing mN_X12_isHearing mS_X12_isHearing rfl rfl hd_X12_isHearing ⟨Nat.le_of_ble_eq_true rfl, Nat.le_of_ble_eq_true rfl⟩ ⟨Nat.le_of_ble_eq_true rfl, Nat.le_of_ble_eq_true rfl⟩ rfl (Nat.le_of_ble_eq_true rfl) dX12_close_2 (fun r2 v2_0 hw => ?_)
  obtain ⟨h01_2, hw⟩ := hw
  have hw := hw h01_2
  refine v_if_ne (tgt := 11) C dX12_close_5 (by decide) (fun hc => ?_) (fun hc => ?_)
  · have hw := hw.1 hc
    refine v_aload_n C dX12_close_11 0 rfl ?_
    refine v_get (ci := 12) C inT12 0 1 rfl rfl (by decide) mF_X12_9_X12_1 rfl dX12_close_12 ?_
    refine v_aload_n C dX12_close_15 0 rfl ?_
    refine v_iload_n C dX12_close_16 1 rfl ?_
    refine v_callVPi (st := [.ref ((a0 1))]) (ci := 12) (qb := 0) C (kX12_hearing h0 _ hw) mM_X12_371 mI_X12 mC_X12_hearing mN_X12_hearing mS_X12_hearing rfl rfl hd_X12_hearing ⟨Nat.le_of_ble_eq_true rfl, Nat.le_of_ble_eq_true rfl⟩ ⟨Nat.le_of_ble_eq_true rfl, Nat.le_of_ble_eq_true rfl⟩ rfl (Nat.le_of_ble_eq_true rfl) dX12_close_17 (fun r17 U17 hw => ?_)
    refine v_iconst (v := 1) C dX12_close_20 (by decide) ?_
    refine v_iadd C dX12_close_21 ?_
    obtain ⟨hi22, hw⟩ := hw
    refine v_iald C 1 rfl hi22 dX12_close_22 ?_
    refine v_if_ne (tgt := 29) C dX12_close_23 (by decide) (fun hc => ?_) (fun hc => ?_)
    · have hw := hw.1 hc
      refine v_aload_n C dX12_close_29 0 rfl ?_
      refine v_get (ci := 12) C inT12 0 1 rfl rfl (by decide) mF_X12_9_X12_1 rfl dX12_close_30 ?_
      refine v_aload_n C dX12_close_33 0 rfl ?_
      refine v_iload_n C dX12_close_34 1 rfl ?_
      refine v_callVPi (st := [.ref ((a0 1))]) (ci := 12) (qb := 0) C (kX12_hearing h0 _ hw) mM_X12_371 mI_X12 mC_X12_hearing mN_X12_hearing mS_X12_hearing rfl rfl hd_X12_hearing ⟨Nat.le_of_ble_eq_true rfl, Nat.le_of_ble_eq_true rfl⟩ ⟨Nat.le_of_ble_eq_true rfl, Nat.le_of_ble_eq_true rfl⟩ rfl (Nat.le_of_ble_eq_true rfl) dX12_close_35 (fun r35 U35 hw => ?_)
      refine v_iconst (v := 1) C dX12_close_38 (by decide) ?_
      refine v_iadd C dX12_close_39 ?_
      refine v_iconst (v := 0) C dX12_close_40 (by decide) ?_
      obtain ⟨hi41, hw⟩ := hw
      obtain ⟨w41, e41⟩ : ∃ z : Md, z = tA v2_0 1 (r35 + 1) 0 := ⟨_, rfl⟩
      have hw := hw w41 e41
      refine v_iast (ws' := [wX12 E h0 a0 w41].flatten) C 1 rfl hi41 (by rw [e41]; rfl) dX12_close_41 ?_
      refine v_iconst (v := 0) C dX12_close_42 (by decide) ?_
      refine v_istore_n (lv' := [(2, .int 0), (0, .ref h0), (1, .int x1)]) C dX12_close_43 (by decide) rfl ?_
      refine v_iconst (v := 0) C dX12_close_44 (by decide) ?_
      refine v_istore_n (lv' := [(3, .int 0), (2, .int 0), (0, .ref h0), (1, .int x1)]) C dX12_close_45 (by decide) rfl ?_
      refine v_iconst (v := 0) C dX12_close_46 (by decide) ?_
      refine v_istore (lv' := [(4, .int 0), (3, .int 0), (2, .int 0), (0, .ref h0), (1, .int x1)]) C dX12_close_47 (by decide) rfl ?_
      refine v_lv C (lv' := [(0, .ref h0), (1, .int x1), (2, .int 0), (3, .int 0), (4, .int 0)]) [3, 4, 2, 1, 0] rfl ?_
      obtain ⟨n', hw⟩ := hw
      exact jX12_close_49 h0 a0 Q C hret n' w41 x1 0 0 0 hw
    · have hw := hw.2 hc
      refine v_bipush (v := (-5)) C dX12_close_26 (by decide) ?_
      exact hret _ _ _ _ ((-5)) v2_0 dX12_close_28 rfl hw (Nat.le_of_ble_eq_true rfl) (Nat.le_of_ble_eq_true rfl)
  · have hw := hw.2 hc
    refine v_bipush (v := (-2)) C dX12_close_8 (by decide) ?_
    exact hret _ _ _ _ ((-2)) v2_0 dX12_close_10 rfl hw (Nat.le_of_ble_eq_true rfl) (Nat.le_of_ble_eq_true rfl)
