set_option maxHeartbeats 4000000 in
set_option maxRecDepth 100000 in
theorem kX12_settled {l : Launch} {E : VE} (h0 : Nat) (a0 : Nat → Nat) (u0 : Md) (x1 : Int32) (x2 : Int32) (x3 : Int32) (x4 : Int32) {Q : Int32 → Md → Prop} (hw : qX12_settled u0 x1 x2 x3 x4 Q) : MI l yX12_settled cX12_settled 5 .int 2 0 0 E [.ref h0, .int x1, .int x2, .int x3, .int x4] ([wX12 E h0 a0 u0].flatten) (fun (U : Md) => [wX12 E h0 a0 U].flatten) (fun (r : Int32) (U : Md) => Q r U) := by
  refine MI.of (own := RX12) (by decide) rfl (Nat.le_of_ble_eq_true rfl) ?_
  intro X C hini hret
  show VV X 0 0 ([wX12 E h0 a0 u0].flatten) [(0, .ref h0), (1, .int x1), (2, .int x2), (3, .int x3), (4, .int x4)] 0 []
  unfold qX12_settled at hw
  refine v_aload_n C dX12_settled_0 0 rfl ?_
  refine v_iload_n C dX12_settled_1 1 rfl ?_
  refine v_callFi (st := []) (ci := 12) (qb := 0) C (kX12_isPlace h0 a0 _ _ hw) mM_X12_147 mI_X12 mC_X12_isPlace mN_X12_isPlace mS_X12_isPlace rfl rfl hd_X12_isPlace ⟨Nat.le_of_ble_eq_true rfl, Nat.le_of_ble_eq_true rfl⟩ ⟨Nat.le_of_ble_eq_true rfl, Nat.le_of_ble_eq_true rfl⟩ rfl (Nat.le_of_ble_eq_true rfl) dX12_settled_2 (fun r2 v2_0 hw => ?_)
  obtain ⟨h01_2, hw⟩ := hw
  have hw := hw h01_2
  refine v_if_eq (tgt := 45) C dX12_settled_5 (by decide) (fun hc => ?_) (fun hc => ?_)
  · have hw := hw.1 hc
    refine v_bipush (v := (-2)) C dX12_settled_45 (by decide) ?_
    exact hret _ _ _ _ ((-2)) v2_0 dX12_settled_47 rfl hw (Nat.le_of_ble_eq_true rfl) (Nat.le_of_ble_eq_true rfl)
  · have hw := hw.2 hc
    refine v_iload_n C dX12_settled_8 2 rfl ?_
    refine v_callSPi (st := []) C (kX12_isTongue _ hw) mM_X12_155 mI_X12 mC_X12_isTongue mT_X12_isTongue hd_X12_isTongue ⟨Nat.le_of_ble_eq_true rfl, Nat.le_of_ble_eq_true rfl⟩ ⟨Nat.le_of_ble_eq_true rfl, Nat.le_of_ble_eq_true rfl⟩ rfl (Nat.le_of_ble_eq_true rfl) dX12_settled_9 (fun r9 U9 hw => ?_)
    obtain ⟨h01_9, hw⟩ := hw
    have hw := hw h01_9
    refine v_if_eq (tgt := 45) C dX12_settled_12 (by decide) (fun hc => ?_) (fun hc => ?_)
    · have hw := hw.1 hc
      refine v_bipush (v := (-2)) C dX12_settled_45 (by decide) ?_
      exact hret _ _ _ _ ((-2)) v2_0 dX12_settled_47 rfl hw (Nat.le_of_ble_eq_true rfl) (Nat.le_of_ble_eq_true rfl)
    · have hw := hw.2 hc
      refine v_iload_n C dX12_settled_15 3 rfl ?_
      refine v_callSPi (st := []) C (kX12_isYear _ hw) mM_X12_160 mI_X12 mC_X12_isYear mT_X12_isYear hd_X12_isYear ⟨Nat.le_of_ble_eq_true rfl, Nat.le_of_ble_eq_true rfl⟩ ⟨Nat.le_of_ble_eq_true rfl, Nat.le_of_ble_eq_true rfl⟩ rfl (Nat.le_of_ble_eq_true rfl) dX12_settled_16 (fun r16 U16 hw => ?_)
      obtain ⟨h01_16, hw⟩ := hw
      have hw := hw h01_16
      refine v_if_eq (tgt := 45) C dX12_settled_19 (by decide) (fun hc => ?_) (fun hc => ?_)
      · have hw := hw.1 hc
        refine v_bipush (v := (-2)) C dX12_settled_45 (by decide) ?_
        exact hret _ _ _ _ ((-2)) v2_0 dX12_settled_47 rfl hw (Nat.le_of_ble_eq_true rfl) (Nat.le_of_ble_eq_true rfl)
      · have hw := hw.2 hc
        refine v_iload C dX12_settled_22 4 rfl ?_
        refine v_callSPi (st := []) C (kX12_isYear _ hw) mM_X12_160 mI_X12 mC_X12_isYear mT_X12_isYear hd_X12_isYear ⟨Nat.le_of_ble_eq_true rfl, Nat.le_of_ble_eq_true rfl⟩ ⟨Nat.le_of_ble_eq_true rfl, Nat.le_of_ble_eq_true rfl⟩ rfl (Nat.le_of_ble_eq_true rfl) dX12_settled_24 (fun r24 U24 hw => ?_)
        obtain ⟨h01_24, hw⟩ := hw
        have hw := hw h01_24
        refine v_if_eq (tgt := 45) C dX12_settled_27 (by decide) (fun hc => ?_) (fun hc => ?_)
        · have hw := hw.1 hc
          refine v_bipush (v := (-2)) C dX12_settled_45 (by decide) ?_
          exact hret _ _ _ _ ((-2)) v2_0 dX12_settled_47 rfl hw (Nat.le_of_ble_eq_true rfl) (Nat.le_of_ble_eq_true rfl)
        · have hw := hw.2 hc
          refine v_aload_n C dX12_settled_30 0 rfl ?_
          refine v_iload_n C dX12_settled_31 1 rfl ?_
          refine v_iload_n C dX12_settled_32 2 rfl ?_
          refine v_iload_n C dX12_settled_33 3 rfl ?_
          refine v_iload C dX12_settled_34 4 rfl ?_
          refine v_imin C mM_X12_163 ⟨Nat.le_of_ble_eq_true rfl, Nat.le_of_ble_eq_true rfl, Nat.le_of_ble_eq_true rfl, Nat.le_of_ble_eq_true rfl⟩ dX12_settled_36 ?_
          refine v_callFi (st := []) (ci := 12) (qb := 0) C (kX12_settledOf h0 a0 _ _ _ _ hw) mM_X12_385 mI_X12 mC_X12_settledOf mN_X12_settledOf mS_X12_settledOf rfl rfl hd_X12_settledOf ⟨Nat.le_of_ble_eq_true rfl, Nat.le_of_ble_eq_true rfl⟩ ⟨Nat.le_of_ble_eq_true rfl, Nat.le_of_ble_eq_true rfl⟩ rfl (Nat.le_of_ble_eq_true rfl) dX12_settled_39 (fun r39 v39_0 hw => ?_)
          refine v_goto (tgt := 47) C dX12_settled_42 (by decide) ?_
          exact hret _ _ _ _ r39 v39_0 dX12_settled_47 rfl hw (Nat.le_of_ble_eq_true rfl) (Nat.le_of_ble_eq_true rfl)
set_option maxHeartbeats 4000000 in
set_option maxRecDepth 100000 in
theorem kX12_undo {l : Launch} {E : VE} (h0 : Nat) (a0 : Nat → Nat) (u0 : Md) (x1 : Int32) (x2 : Int32) {Q : Int32 → Md → Prop} (hw : qX12_undo u0 x1 x2 Q) : MI l yX12_undo cX12_undo 3 .int 2 0 0 E [.ref h0, .int x1, .int x2] ([wX12 E h0 a0 u0].flatten) (fun (U : Md) => [wX12 E h0 a0 U].flatten) (fun (r : Int32) (U : Md) => Q r U) := by
  refine MI.of (own := RX12) (by decide) rfl (Nat.le_of_ble_eq_true rfl) ?_
  intro X C hini hret
  show VV X 0 0 ([wX12 E h0 a0 u0].flatten) [(0, .ref h0), (1, .int x1), (2, .int x2)] 0 []
  unfold qX12_undo at hw
  refine v_aload_n C dX12_undo_0 0 rfl ?_
  refine v_iload_n C dX12_undo_1 1 rfl ?_
  refine v_callFi (st := []) (ci := 12) (qb := 0) C (kX12_isPlace h0 a0 _ _ hw) mM_X12_147 mI_X12 mC_X12_isPlace mN_X12_isPlace mS_X12_isPlace rfl rfl hd_X12_isPlace ⟨Nat.le_of_ble_eq_true rfl, Nat.le_of_ble_eq_true rfl⟩ ⟨Nat.le_of_ble_eq_true rfl, Nat.le_of_ble_eq_true rfl⟩ rfl (Nat.le_of_ble_eq_true rfl) dX12_undo_2 (fun r2 v2_0 hw => ?_)
  obtain ⟨h01_2, hw⟩ := hw
  have hw := hw h01_2
  refine v_if_eq (tgt := 15) C dX12_undo_5 (by decide) (fun hc => ?_) (fun hc => ?_)
  · have hw := hw.1 hc
    refine v_bipush (v := (-2)) C dX12_undo_15 (by decide) ?_
    exact hret _ _ _ _ ((-2)) v2_0 dX12_undo_17 rfl hw (Nat.le_of_ble_eq_true rfl) (Nat.le_of_ble_eq_true rfl)
  · have hw := hw.2 hc
    refine v_iload_n C dX12_undo_8 2 rfl ?_
    refine v_callSPi (st := []) C (kX12_isTongue _ hw) mM_X12_155 mI_X12 mC_X12_isTongue mT_X12_isTongue hd_X12_isTongue ⟨Nat.le_of_ble_eq_true rfl, Nat.le_of_ble_eq_true rfl⟩ ⟨Nat.le_of_ble_eq_true rfl, Nat.le_of_ble_eq_true rfl⟩ rfl (Nat.le_of_ble_eq_true rfl) dX12_undo_9 (fun r9 U9 hw => ?_)
    obtain ⟨h01_9, hw⟩ := hw
    have hw := hw h01_9
    refine v_if_ne (tgt := 18) C dX12_undo_12 (by decide) (fun hc => ?_) (fun hc => ?_)
    · have hw := hw.1 hc
      refine v_aload_n C dX12_undo_18 0 rfl ?_
      refine v_iload_n C dX12_undo_19 1 rfl ?_
      refine v_iload_n C dX12_undo_20 2 rfl ?_
      refine v_aload_n C dX12_undo_21 0 rfl ?_
      refine v_callFi (st := [.int x2, .int x1, .ref h0]) (ci := 12) (qb := 0) C (kX12_now h0 a0 _ hw) mM_X12_138 mI_X12 mC_X12_now mN_X12_now mS_X12_now rfl rfl hd_X12_now ⟨Nat.le_of_ble_eq_true rfl, Nat.le_of_ble_eq_true rfl⟩ ⟨Nat.le_of_ble_eq_true rfl, Nat.le_of_ble_eq_true rfl⟩ rfl (Nat.le_of_ble_eq_true rfl) dX12_undo_22 (fun r22 v22_0 hw => ?_)
      refine v_callFi (st := []) (ci := 12) (qb := 0) C (kX12_settledOf h0 a0 _ _ _ _ hw) mM_X12_385 mI_X12 mC_X12_settledOf mN_X12_settledOf mS_X12_settledOf rfl rfl hd_X12_settledOf ⟨Nat.le_of_ble_eq_true rfl, Nat.le_of_ble_eq_true rfl⟩ ⟨Nat.le_of_ble_eq_true rfl, Nat.le_of_ble_eq_true rfl⟩ rfl (Nat.le_of_ble_eq_true rfl) dX12_undo_25 (fun r25 v25_0 hw => ?_)
      refine v_iconst (v := (-1)) C dX12_undo_28 (by decide) ?_
      refine v_icmp_ne (tgt := 35) C dX12_undo_29 (by decide) (fun hc => ?_) (fun hc => ?_)
      · have hw := hw.1 hc
        refine v_aload_n C dX12_undo_35 0 rfl ?_
        refine v_iload_n C dX12_undo_36 1 rfl ?_
        refine v_iload_n C dX12_undo_37 2 rfl ?_
        refine v_iconst (v := (-1)) C dX12_undo_38 (by decide) ?_
        refine v_callFv (st := []) (ci := 12) (qb := 0) C (kX12_event h0 a0 _ _ _ _ hw) mM_X12_391 mI_X12 mC_X12_event mN_X12_event mS_X12_event rfl rfl hd_X12_event ⟨Nat.le_of_ble_eq_true rfl, Nat.le_of_ble_eq_true rfl⟩ ⟨Nat.le_of_ble_eq_true rfl, Nat.le_of_ble_eq_true rfl⟩ rfl (Nat.le_of_ble_eq_true rfl) dX12_undo_39 (fun v39_0 hw => ?_)
        refine v_aload_n C dX12_undo_42 0 rfl ?_
        refine v_iload_n C dX12_undo_43 1 rfl ?_
        refine v_iload_n C dX12_undo_44 2 rfl ?_
        refine v_aload_n C dX12_undo_45 0 rfl ?_
        refine v_callFi (st := [.int x2, .int x1, .ref h0]) (ci := 12) (qb := 0) C (kX12_now h0 a0 _ hw) mM_X12_138 mI_X12 mC_X12_now mN_X12_now mS_X12_now rfl rfl hd_X12_now ⟨Nat.le_of_ble_eq_true rfl, Nat.le_of_ble_eq_true rfl⟩ ⟨Nat.le_of_ble_eq_true rfl, Nat.le_of_ble_eq_true rfl⟩ rfl (Nat.le_of_ble_eq_true rfl) dX12_undo_46 (fun r46 v46_0 hw => ?_)
        refine v_callFi (st := []) (ci := 12) (qb := 0) C (kX12_settledOf h0 a0 _ _ _ _ hw) mM_X12_385 mI_X12 mC_X12_settledOf mN_X12_settledOf mS_X12_settledOf rfl rfl hd_X12_settledOf ⟨Nat.le_of_ble_eq_true rfl, Nat.le_of_ble_eq_true rfl⟩ ⟨Nat.le_of_ble_eq_true rfl, Nat.le_of_ble_eq_true rfl⟩ rfl (Nat.le_of_ble_eq_true rfl) dX12_undo_49 (fun r49 v49_0 hw => ?_)
        exact hret _ _ _ _ r49 v49_0 dX12_undo_52 rfl hw (Nat.le_of_ble_eq_true rfl) (Nat.le_of_ble_eq_true rfl)
      · have hw := hw.2 hc
        refine v_bipush (v := (-5)) C dX12_undo_32 (by decide) ?_
        exact hret _ _ _ _ ((-5)) v25_0 dX12_undo_34 rfl hw (Nat.le_of_ble_eq_true rfl) (Nat.le_of_ble_eq_true rfl)
    · have hw := hw.2 hc
      refine v_bipush (v := (-2)) C dX12_undo_15 (by decide) ?_
      exact hret _ _ _ _ ((-2)) v2_0 dX12_undo_17 rfl hw (Nat.le_of_ble_eq_true rfl) (Nat.le_of_ble_eq_true rfl)
set_option maxHeartbeats 4000000 in
set_option maxRecDepth 100000 in
theorem jX12_shows_100 {X : VX} {E : VE} {l : Launch} (h0 : Nat) (a0 : Nat → Nat)  (Q : Md → Prop) (C : VC X cX12_shows 8 RX12 (rmL 4 0 0) E l) (hret : RetV X cX12_shows 0 0 (fun (U : Md) => [wX12 E h0 a0 U].flatten) (fun (U : Md) => Q U))  : ∀ (u0 : Md) (y4 : Int32) (y7 : Int32), qX12_shows_100 Q u0 y4 y7 → VV X 0 0 ([wX12 E h0 a0 u0].flatten) [(0, .ref h0), (4, .int y4), (7, .int y7)] 100 [] := by
  intro u0 y4 y7 hw
  unfold qX12_shows_100 at hw
  refine v_iload C dX12_shows_100 2 rfl ?_
  refine v_iconst (v := (-1)) C dX12_shows_102 (by decide) ?_
  refine v_icmp_eq (tgt := 114) C dX12_shows_103 (by decide) (fun hc => ?_) (fun hc => ?_)
  · have hw := hw.1 hc
    exact hret _ _ _ _ u0 dX12_shows_114 hw (Nat.le_of_ble_eq_true rfl) (Nat.le_of_ble_eq_true rfl)
  · have hw := hw.2 hc
    refine v_aload_n C dX12_shows_106 0 rfl ?_
    refine v_iload C dX12_shows_107 2 rfl ?_
    refine v_iload C dX12_shows_109 1 rfl ?_
    refine v_callFv (st := []) (ci := 12) (qb := 0) C (kX12_spells h0 a0 _ _ _ hw) mM_X12_285 mI_X12 mC_X12_spells mN_X12_spells mS_X12_spells rfl rfl hd_X12_spells ⟨Nat.le_of_ble_eq_true rfl, Nat.le_of_ble_eq_true rfl⟩ ⟨Nat.le_of_ble_eq_true rfl, Nat.le_of_ble_eq_true rfl⟩ rfl (Nat.le_of_ble_eq_true rfl) dX12_shows_111 (fun v111_0 hw => ?_)
    exact hret _ _ _ _ v111_0 dX12_shows_114 hw (Nat.le_of_ble_eq_true rfl) (Nat.le_of_ble_eq_true rfl)
set_option maxHeartbeats 4000000 in
set_option maxRecDepth 100000 in
theorem jX12_shows_80 {X : VX} {E : VE} {l : Launch} (h0 : Nat) (a0 : Nat → Nat)  (Q : Md → Prop) (C : VC X cX12_shows 8 RX12 (rmL 4 0 0) E l) (hret : RetV X cX12_shows 0 0 (fun (U : Md) => [wX12 E h0 a0 U].flatten) (fun (U : Md) => Q U))  : ∀ (u0 : Md) (y4 : Int32) (y5 : Int32) (y7 : Int32), qX12_shows_80 Q u0 y4 y5 y7 → VV X 0 0 ([wX12 E h0 a0 u0].flatten) [(0, .ref h0), (4, .int y4), (5, .int y5), (7, .int y7)] 80 [] := by
  intro u0 y4 y5 y7 hw
  unfold qX12_shows_80 at hw
  refine v_iload C dX12_shows_80 2 rfl ?_
  refine v_iconst (v := (-1)) C dX12_shows_82 (by decide) ?_
  refine v_icmp_eq (tgt := 100) C dX12_shows_83 (by decide) (fun hc => ?_) (fun hc => ?_)
  · have hw := hw.1 hc
    refine v_lv C (lv' := [(0, .ref h0), (4, .int y4), (7, .int y7)]) [0, 1, 3] rfl ?_
    exact jX12_shows_100 h0 a0 Q C hret u0 y4 y7 hw
  · have hw := hw.2 hc
    refine v_iload C dX12_shows_86 3 rfl ?_
    refine v_iconst (v := (-1)) C dX12_shows_88 (by decide) ?_
    refine v_icmp_eq (tgt := 100) C dX12_shows_89 (by decide) (fun hc => ?_) (fun hc => ?_)
    · have hw := hw.1 hc
      refine v_lv C (lv' := [(0, .ref h0), (4, .int y4), (7, .int y7)]) [0, 1, 3] rfl ?_
      exact jX12_shows_100 h0 a0 Q C hret u0 y4 y7 hw
    · have hw := hw.2 hc
      refine v_aload_n C dX12_shows_92 0 rfl ?_
      refine v_bipush (v := 32) C dX12_shows_93 (by decide) ?_
      refine v_bipush (v := (-4)) C dX12_shows_95 (by decide) ?_
      refine v_callFv (st := []) (ci := 12) (qb := 0) C (kX12_lays h0 a0 _ _ _ hw) mM_X12_275 mI_X12 mC_X12_lays mN_X12_lays mS_X12_lays rfl rfl hd_X12_lays ⟨Nat.le_of_ble_eq_true rfl, Nat.le_of_ble_eq_true rfl⟩ ⟨Nat.le_of_ble_eq_true rfl, Nat.le_of_ble_eq_true rfl⟩ rfl (Nat.le_of_ble_eq_true rfl) dX12_shows_97 (fun v97_0 hw => ?_)
      refine v_lv C (lv' := [(0, .ref h0), (4, .int y4), (7, .int y7)]) [0, 1, 3] rfl ?_
      exact jX12_shows_100 h0 a0 Q C hret v97_0 y4 y7 hw
set_option maxHeartbeats 4000000 in
set_option maxRecDepth 100000 in
theorem jX12_shows_59 {X : VX} {E : VE} {l : Launch} (h0 : Nat) (a0 : Nat → Nat)  (Q : Md → Prop) (C : VC X cX12_shows 8 RX12 (rmL 4 0 0) E l) (hret : RetV X cX12_shows 0 0 (fun (U : Md) => [wX12 E h0 a0 U].flatten) (fun (U : Md) => Q U))  : ∀ (u0 : Md) (y4 : Int32) (y5 : Int32) (z0 : Int32), qX12_shows_59 Q u0 y4 y5 z0 → VV X 0 0 ([wX12 E h0 a0 u0].flatten) [(0, .ref h0), (4, .int y4), (5, .int y5)] 59 [.int z0] := by
  intro u0 y4 y5 z0 hw
  unfold qX12_shows_59 at hw
  refine v_istore (lv' := [(7, .int z0), (0, .ref h0), (4, .int y4), (5, .int y5)]) C dX12_shows_59 (by decide) rfl ?_
  refine v_aload_n C dX12_shows_61 1 rfl ?_
  refine v_iconst (v := 0) C dX12_shows_62 (by decide) ?_
  obtain ⟨w63, e63⟩ : ∃ z : Md, z = sF u0 21 0 := ⟨_, rfl⟩
  have hw := hw w63 e63
  refine v_put (ci := 12) (ws' := [wX12 E h0 a0 w63].flatten) C tyX12 tyX12_ok nmX12 inT12 0 21 rfl rfl (by decide) mF_X12_258_X12_21 rfl rfl rfl rfl (Nat.le_of_ble_eq_true rfl) (by rw [e63]; rfl) dX12_shows_63 ?_
  refine v_iload C dX12_shows_66 3 rfl ?_
  refine v_iconst (v := (-1)) C dX12_shows_68 (by decide) ?_
  refine v_icmp_eq (tgt := 80) C dX12_shows_69 (by decide) (fun hc => ?_) (fun hc => ?_)
  · have hw := hw.1 hc
    refine v_lv C (lv' := [(0, .ref h0), (4, .int y4), (5, .int y5), (7, .int z0)]) [1, 2, 3, 0] rfl ?_
    exact jX12_shows_80 h0 a0 Q C hret w63 y4 y5 z0 hw
  · have hw := hw.2 hc
    refine v_aload_n C dX12_shows_72 1 rfl ?_
    refine v_iload C dX12_shows_73 3 rfl ?_
    refine v_iload C dX12_shows_75 2 rfl ?_
    refine v_callFv (st := []) (ci := 12) (qb := 0) C (kX12_spells h0 a0 _ _ _ hw) mM_X12_285 mI_X12 mC_X12_spells mN_X12_spells mS_X12_spells rfl rfl hd_X12_spells ⟨Nat.le_of_ble_eq_true rfl, Nat.le_of_ble_eq_true rfl⟩ ⟨Nat.le_of_ble_eq_true rfl, Nat.le_of_ble_eq_true rfl⟩ rfl (Nat.le_of_ble_eq_true rfl) dX12_shows_77 (fun v77_0 hw => ?_)
    refine v_lv C (lv' := [(0, .ref h0), (4, .int y4), (5, .int y5), (7, .int z0)]) [1, 2, 3, 0] rfl ?_
    exact jX12_shows_80 h0 a0 Q C hret v77_0 y4 y5 z0 hw
set_option maxHeartbeats 4000000 in
set_option maxRecDepth 100000 in
theorem kX12_shows {l : Launch} {E : VE} (h0 : Nat) (a0 : Nat → Nat) (u0 : Md) (x1 : Int32) (x2 : Int32) (x3 : Int32) {Q : Md → Prop} (hw : qX12_shows u0 x1 x2 x3 Q) : MV l yX12_shows cX12_shows 8 4 0 0 E [.ref h0, .int x1, .int x2, .int x3] ([wX12 E h0 a0 u0].flatten) (fun (U : Md) => [wX12 E h0 a0 U].flatten) (fun (U : Md) => Q U) := by
  refine MV.of (own := RX12) (by decide) rfl (Nat.le_of_ble_eq_true rfl) ?_
  intro X C hini hret
  show VV X 0 0 ([wX12 E h0 a0 u0].flatten) [(0, .ref h0), (1, .int x1), (2, .int x2), (3, .int x3)] 0 []
  unfold qX12_shows at hw
  refine v_iload_n C dX12_shows_0 2 rfl ?_
  refine v_iload_n C dX12_shows_1 3 rfl ?_
  refine v_imin C mM_X12_163 ⟨Nat.le_of_ble_eq_true rfl, Nat.le_of_ble_eq_true rfl, Nat.le_of_ble_eq_true rfl, Nat.le_of_ble_eq_true rfl⟩ dX12_shows_2 ?_
  refine v_istore (lv' := [(4, .int (imin x2 x3)), (0, .ref h0), (1, .int x1), (2, .int x2), (3, .int x3)]) C dX12_shows_5 (by decide) rfl ?_
  refine v_aload_n C dX12_shows_7 1 rfl ?_
  refine v_iload C dX12_shows_8 0 rfl ?_
  refine v_callFv (st := []) (ci := 12) (qb := 0) C (kX12_looks h0 a0 _ _ hw) mM_X12_151 mI_X12 mC_X12_looks mN_X12_looks mS_X12_looks rfl rfl hd_X12_looks ⟨Nat.le_of_ble_eq_true rfl, Nat.le_of_ble_eq_true rfl⟩ ⟨Nat.le_of_ble_eq_true rfl, Nat.le_of_ble_eq_true rfl⟩ rfl (Nat.le_of_ble_eq_true rfl) dX12_shows_10 (fun v10_0 hw => ?_)
  refine v_aload_n C dX12_shows_13 1 rfl ?_
  refine v_iload_n C dX12_shows_14 2 rfl ?_
  refine v_aload_n C dX12_shows_15 1 rfl ?_
  refine v_iload_n C dX12_shows_16 2 rfl ?_
  refine v_iload C dX12_shows_17 0 rfl ?_
  refine v_iload_n C dX12_shows_19 3 rfl ?_
  refine v_callFi (st := [.int x1, .ref h0]) (ci := 12) (qb := 0) C (kX12_firstOf h0 a0 _ _ _ _ hw) mM_X12_365 mI_X12 mC_X12_firstOf mN_X12_firstOf mS_X12_firstOf rfl rfl hd_X12_firstOf ⟨Nat.le_of_ble_eq_true rfl, Nat.le_of_ble_eq_true rfl⟩ ⟨Nat.le_of_ble_eq_true rfl, Nat.le_of_ble_eq_true rfl⟩ rfl (Nat.le_of_ble_eq_true rfl) dX12_shows_20 (fun r20 v20_0 hw => ?_)
  refine v_iload C dX12_shows_23 0 rfl ?_
  refine v_callFi (st := []) (ci := 12) (qb := 0) C (kX12_settledOf h0 a0 _ _ _ _ hw) mM_X12_385 mI_X12 mC_X12_settledOf mN_X12_settledOf mS_X12_settledOf rfl rfl hd_X12_settledOf ⟨Nat.le_of_ble_eq_true rfl, Nat.le_of_ble_eq_true rfl⟩ ⟨Nat.le_of_ble_eq_true rfl, Nat.le_of_ble_eq_true rfl⟩ rfl (Nat.le_of_ble_eq_true rfl) dX12_shows_25 (fun r25 v25_0 hw => ?_)
  refine v_istore (lv' := [(5, .int r25), (4, .int (imin x2 x3)), (0, .ref h0), (1, .int x1), (2, .int x2), (3, .int x3)]) C dX12_shows_28 (by decide) rfl ?_
  refine v_aload_n C dX12_shows_30 2 rfl ?_
  refine v_iload_n C dX12_shows_31 3 rfl ?_
  refine v_iload C dX12_shows_32 1 rfl ?_
  refine v_iload_n C dX12_shows_34 4 rfl ?_
  refine v_callFi (st := []) (ci := 12) (qb := 0) C (kX12_besideOf h0 a0 _ _ _ _ hw) mM_X12_368 mI_X12 mC_X12_besideOf mN_X12_besideOf mS_X12_besideOf rfl rfl hd_X12_besideOf ⟨Nat.le_of_ble_eq_true rfl, Nat.le_of_ble_eq_true rfl⟩ ⟨Nat.le_of_ble_eq_true rfl, Nat.le_of_ble_eq_true rfl⟩ rfl (Nat.le_of_ble_eq_true rfl) dX12_shows_35 (fun r35 v35_0 hw => ?_)
  refine v_istore (lv' := [(6, .int r35), (5, .int r25), (4, .int (imin x2 x3)), (0, .ref h0), (1, .int x1), (2, .int x2), (3, .int x3)]) C dX12_shows_38 (by decide) rfl ?_
  refine v_iload C dX12_shows_40 0 rfl ?_
  refine v_iconst (v := (-1)) C dX12_shows_42 (by decide) ?_
  refine v_icmp_ne (tgt := 50) C dX12_shows_43 (by decide) (fun hc => ?_) (fun hc => ?_)
  · have hw := hw.1 hc
    refine v_aload_n C dX12_shows_50 3 rfl ?_
    refine v_iload_n C dX12_shows_51 4 rfl ?_
    refine v_iload C dX12_shows_52 0 rfl ?_
    refine v_iload C dX12_shows_54 2 rfl ?_
    refine v_callFi (st := []) (ci := 12) (qb := 0) C (kX12_settledOf h0 a0 _ _ _ _ hw) mM_X12_385 mI_X12 mC_X12_settledOf mN_X12_settledOf mS_X12_settledOf rfl rfl hd_X12_settledOf ⟨Nat.le_of_ble_eq_true rfl, Nat.le_of_ble_eq_true rfl⟩ ⟨Nat.le_of_ble_eq_true rfl, Nat.le_of_ble_eq_true rfl⟩ rfl (Nat.le_of_ble_eq_true rfl) dX12_shows_56 (fun r56 v56_0 hw => ?_)
    refine v_lv C (lv' := [(0, .ref h0), (4, .int (imin x2 x3)), (5, .int r25)]) [3, 2, 1] rfl ?_
    exact jX12_shows_59 h0 a0 Q C hret v56_0 (imin x2 x3) r25 r56 hw
  · have hw := hw.2 hc
    refine v_iconst (v := (-1)) C dX12_shows_46 (by decide) ?_
    refine v_goto (tgt := 59) C dX12_shows_47 (by decide) ?_
    refine v_lv C (lv' := [(0, .ref h0), (4, .int (imin x2 x3)), (5, .int r25)]) [3, 2, 1] rfl ?_
    exact jX12_shows_59 h0 a0 Q C hret v35_0 (imin x2 x3) r25 ((-1)) hw
set_option maxHeartbeats 4000000 in
set_option maxRecDepth 100000 in
theorem kX12_shown {l : Launch} {E : VE} (h0 : Nat) (a0 : Nat → Nat) (u0 : Md) (x1 : Int32) (x2 : Int32) (x3 : Int32) {Q : Int32 → Md → Prop} (hw : qX12_shown u0 x1 x2 x3 Q) : MI l yX12_shown cX12_shown 4 .int 5 0 0 E [.ref h0, .int x1, .int x2, .int x3] ([wX12 E h0 a0 u0].flatten) (fun (U : Md) => [wX12 E h0 a0 U].flatten) (fun (r : Int32) (U : Md) => Q r U) := by
  refine MI.of (own := RX12) (by decide) rfl (Nat.le_of_ble_eq_true rfl) ?_
  intro X C hini hret
  show VV X 0 0 ([wX12 E h0 a0 u0].flatten) [(0, .ref h0), (1, .int x1), (2, .int x2), (3, .int x3)] 0 []
  unfold qX12_shown at hw
  refine v_aload_n C dX12_shown_0 0 rfl ?_
  refine v_iload_n C dX12_shown_1 1 rfl ?_
  refine v_callFi (st := []) (ci := 12) (qb := 0) C (kX12_isPlace h0 a0 _ _ hw) mM_X12_147 mI_X12 mC_X12_isPlace mN_X12_isPlace mS_X12_isPlace rfl rfl hd_X12_isPlace ⟨Nat.le_of_ble_eq_true rfl, Nat.le_of_ble_eq_true rfl⟩ ⟨Nat.le_of_ble_eq_true rfl, Nat.le_of_ble_eq_true rfl⟩ rfl (Nat.le_of_ble_eq_true rfl) dX12_shown_2 (fun r2 v2_0 hw => ?_)
  obtain ⟨h01_2, hw⟩ := hw
  have hw := hw h01_2
  refine v_if_eq (tgt := 22) C dX12_shown_5 (by decide) (fun hc => ?_) (fun hc => ?_)
  · have hw := hw.1 hc
    refine v_bipush (v := (-2)) C dX12_shown_22 (by decide) ?_
    exact hret _ _ _ _ ((-2)) v2_0 dX12_shown_24 rfl hw (Nat.le_of_ble_eq_true rfl) (Nat.le_of_ble_eq_true rfl)
  · have hw := hw.2 hc
    refine v_iload_n C dX12_shown_8 2 rfl ?_
    refine v_callSPi (st := []) C (kX12_isYear _ hw) mM_X12_160 mI_X12 mC_X12_isYear mT_X12_isYear hd_X12_isYear ⟨Nat.le_of_ble_eq_true rfl, Nat.le_of_ble_eq_true rfl⟩ ⟨Nat.le_of_ble_eq_true rfl, Nat.le_of_ble_eq_true rfl⟩ rfl (Nat.le_of_ble_eq_true rfl) dX12_shown_9 (fun r9 U9 hw => ?_)
    obtain ⟨h01_9, hw⟩ := hw
    have hw := hw h01_9
    refine v_if_eq (tgt := 22) C dX12_shown_12 (by decide) (fun hc => ?_) (fun hc => ?_)
    · have hw := hw.1 hc
      refine v_bipush (v := (-2)) C dX12_shown_22 (by decide) ?_
      exact hret _ _ _ _ ((-2)) v2_0 dX12_shown_24 rfl hw (Nat.le_of_ble_eq_true rfl) (Nat.le_of_ble_eq_true rfl)
    · have hw := hw.2 hc
      refine v_iload_n C dX12_shown_15 3 rfl ?_
      refine v_callSPi (st := []) C (kX12_isYear _ hw) mM_X12_160 mI_X12 mC_X12_isYear mT_X12_isYear hd_X12_isYear ⟨Nat.le_of_ble_eq_true rfl, Nat.le_of_ble_eq_true rfl⟩ ⟨Nat.le_of_ble_eq_true rfl, Nat.le_of_ble_eq_true rfl⟩ rfl (Nat.le_of_ble_eq_true rfl) dX12_shown_16 (fun r16 U16 hw => ?_)
      obtain ⟨h01_16, hw⟩ := hw
      have hw := hw h01_16
      refine v_if_ne (tgt := 25) C dX12_shown_19 (by decide) (fun hc => ?_) (fun hc => ?_)
      · have hw := hw.1 hc
        refine v_aload_n C dX12_shown_25 0 rfl ?_
        refine v_iload_n C dX12_shown_26 1 rfl ?_
        refine v_iload_n C dX12_shown_27 2 rfl ?_
        refine v_iload_n C dX12_shown_28 3 rfl ?_
        refine v_callFv (st := []) (ci := 12) (qb := 0) C (kX12_shows h0 a0 _ _ _ _ hw) mM_X12_395 mI_X12 mC_X12_shows mN_X12_shows mS_X12_shows rfl rfl hd_X12_shows ⟨Nat.le_of_ble_eq_true rfl, Nat.le_of_ble_eq_true rfl⟩ ⟨Nat.le_of_ble_eq_true rfl, Nat.le_of_ble_eq_true rfl⟩ rfl (Nat.le_of_ble_eq_true rfl) dX12_shown_29 (fun v29_0 hw => ?_)
        refine v_aload_n C dX12_shown_32 0 rfl ?_
        refine v_callFi (st := []) (ci := 12) (qb := 0) C (kX12_takesInHand h0 a0 _ hw) mM_X12_288 mI_X12 mC_X12_takesInHand mN_X12_takesInHand mS_X12_takesInHand rfl rfl hd_X12_takesInHand ⟨Nat.le_of_ble_eq_true rfl, Nat.le_of_ble_eq_true rfl⟩ ⟨Nat.le_of_ble_eq_true rfl, Nat.le_of_ble_eq_true rfl⟩ rfl (Nat.le_of_ble_eq_true rfl) dX12_shown_33 (fun r33 v33_0 hw => ?_)
        exact hret _ _ _ _ r33 v33_0 dX12_shown_36 rfl hw (Nat.le_of_ble_eq_true rfl) (Nat.le_of_ble_eq_true rfl)
      · have hw := hw.2 hc
        refine v_bipush (v := (-2)) C dX12_shown_22 (by decide) ?_
        exact hret _ _ _ _ ((-2)) v2_0 dX12_shown_24 rfl hw (Nat.le_of_ble_eq_true rfl) (Nat.le_of_ble_eq_true rfl)
set_option maxHeartbeats 4000000 in
set_option maxRecDepth 100000 in
theorem kX12_sign {l : Launch} {E : VE} (h0 : Nat) (a0 : Nat → Nat) (u0 : Md) (x1 : Int32) (x2 : Int32) {Q : Int32 → Md → Prop} (hw : qX12_sign u0 x1 x2 Q) : MI l yX12_sign cX12_sign 4 .int 2 0 0 E [.ref h0, .int x1, .int x2] ([wX12 E h0 a0 u0].flatten) (fun (U : Md) => [wX12 E h0 a0 U].flatten) (fun (r : Int32) (U : Md) => Q r U) := by
  refine MI.of (own := RX12) (by decide) rfl (Nat.le_of_ble_eq_true rfl) ?_
  intro X C hini hret
  show VV X 0 0 ([wX12 E h0 a0 u0].flatten) [(0, .ref h0), (1, .int x1), (2, .int x2)] 0 []
  unfold qX12_sign at hw
  refine v_aload_n C dX12_sign_0 0 rfl ?_
  refine v_iload_n C dX12_sign_1 1 rfl ?_
  refine v_callFi (st := []) (ci := 12) (qb := 0) C (kX12_isPlace h0 a0 _ _ hw) mM_X12_147 mI_X12 mC_X12_isPlace mN_X12_isPlace mS_X12_isPlace rfl rfl hd_X12_isPlace ⟨Nat.le_of_ble_eq_true rfl, Nat.le_of_ble_eq_true rfl⟩ ⟨Nat.le_of_ble_eq_true rfl, Nat.le_of_ble_eq_true rfl⟩ rfl (Nat.le_of_ble_eq_true rfl) dX12_sign_2 (fun r2 v2_0 hw => ?_)
  obtain ⟨h01_2, hw⟩ := hw
  have hw := hw h01_2
  refine v_if_eq (tgt := 20) C dX12_sign_5 (by decide) (fun hc => ?_) (fun hc => ?_)
  · have hw := hw.1 hc
    refine v_bipush (v := (-2)) C dX12_sign_20 (by decide) ?_
    exact hret _ _ _ _ ((-2)) v2_0 dX12_sign_22 rfl hw (Nat.le_of_ble_eq_true rfl) (Nat.le_of_ble_eq_true rfl)
  · have hw := hw.2 hc
    refine v_iload_n C dX12_sign_8 2 rfl ?_
    refine v_i2l C dX12_sign_9 ?_
    refine v_lconst (v := 0) C dX12_sign_10 (by decide) ?_
    refine v_ldc2 C mJ_X12_398 dX12_sign_11 ?_
    refine v_callSPi (st := []) C (kX12_in _ _ _ hw) mM_X12_125 mI_X12 mC_X12_in mT_X12_in hd_X12_in ⟨Nat.le_of_ble_eq_true rfl, Nat.le_of_ble_eq_true rfl⟩ ⟨Nat.le_of_ble_eq_true rfl, Nat.le_of_ble_eq_true rfl⟩ rfl (Nat.le_of_ble_eq_true rfl) dX12_sign_14 (fun r14 U14 hw => ?_)
    obtain ⟨h01_14, hw⟩ := hw
    have hw := hw h01_14
    refine v_if_ne (tgt := 23) C dX12_sign_17 (by decide) (fun hc => ?_) (fun hc => ?_)
    · have hw := hw.1 hc
      refine v_aload_n C dX12_sign_23 0 rfl ?_
      refine v_get (ci := 12) C inT12 0 1 rfl rfl (by decide) mF_X12_9_X12_1 rfl dX12_sign_24 ?_
      refine v_bipush (v := 7) C dX12_sign_27 (by decide) ?_
      obtain ⟨hi29, hw⟩ := hw
      refine v_iald C 1 rfl hi29 dX12_sign_29 ?_
      refine v_istore_n (lv' := [(3, .int (gA v2_0 1 (7 : Int32).toNatClampNeg)), (0, .ref h0), (1, .int x1), (2, .int x2)]) C dX12_sign_30 (by decide) rfl ?_
      refine v_iload_n C dX12_sign_31 0 rfl ?_
      refine v_bipush (v := 40) C dX12_sign_32 (by decide) ?_
      refine v_icmp_ne (tgt := 40) C dX12_sign_34 (by decide) (fun hc => ?_) (fun hc => ?_)
      · have hw := hw.1 hc
        refine v_aload_n C dX12_sign_40 1 rfl ?_
        refine v_get (ci := 12) C inT12 0 1 rfl rfl (by decide) mF_X12_9_X12_1 rfl dX12_sign_41 ?_
        refine v_sipush (v := 7490) C dX12_sign_44 (by decide) ?_
        refine v_iconst (v := 3) C dX12_sign_47 (by decide) ?_
        refine v_iload_n C dX12_sign_48 0 rfl ?_
        refine v_imul C dX12_sign_49 ?_
        refine v_iadd C dX12_sign_50 ?_
        refine v_iload_n C dX12_sign_51 2 rfl ?_
        obtain ⟨hi52, hw⟩ := hw
        obtain ⟨w52, e52⟩ : ∃ z : Md, z = tA v2_0 1 (7490 + (3 * (gA v2_0 1 (7 : Int32).toNatClampNeg))) x1 := ⟨_, rfl⟩
        have hw := hw w52 e52
        refine v_iast (ws' := [wX12 E h0 a0 w52].flatten) C 1 rfl hi52 (by rw [e52]; rfl) dX12_sign_52 ?_
        refine v_aload_n C dX12_sign_53 1 rfl ?_
        refine v_get (ci := 12) C inT12 0 1 rfl rfl (by decide) mF_X12_9_X12_1 rfl dX12_sign_54 ?_
        refine v_sipush (v := 7490) C dX12_sign_57 (by decide) ?_
        refine v_iconst (v := 3) C dX12_sign_60 (by decide) ?_
        refine v_iload_n C dX12_sign_61 0 rfl ?_
        refine v_imul C dX12_sign_62 ?_
        refine v_iadd C dX12_sign_63 ?_
        refine v_iconst (v := 1) C dX12_sign_64 (by decide) ?_
        refine v_iadd C dX12_sign_65 ?_
        refine v_iload_n C dX12_sign_66 3 rfl ?_
        obtain ⟨hi67, hw⟩ := hw
        obtain ⟨w67, e67⟩ : ∃ z : Md, z = tA w52 1 ((7490 + (3 * (gA v2_0 1 (7 : Int32).toNatClampNeg))) + 1) x2 := ⟨_, rfl⟩
        have hw := hw w67 e67
        refine v_iast (ws' := [wX12 E h0 a0 w67].flatten) C 1 rfl hi67 (by rw [e67]; rfl) dX12_sign_67 ?_
        refine v_aload_n C dX12_sign_68 1 rfl ?_
        refine v_get (ci := 12) C inT12 0 1 rfl rfl (by decide) mF_X12_9_X12_1 rfl dX12_sign_69 ?_
        refine v_sipush (v := 7490) C dX12_sign_72 (by decide) ?_
        refine v_iconst (v := 3) C dX12_sign_75 (by decide) ?_
        refine v_iload_n C dX12_sign_76 0 rfl ?_
        refine v_imul C dX12_sign_77 ?_
        refine v_iadd C dX12_sign_78 ?_
        refine v_iconst (v := 2) C dX12_sign_79 (by decide) ?_
        refine v_iadd C dX12_sign_80 ?_
        refine v_aload_n C dX12_sign_81 1 rfl ?_
        refine v_callFi (st := [.int ((7490 + (3 * (gA v2_0 1 (7 : Int32).toNatClampNeg))) + 2), .ref ((a0 1))]) (ci := 12) (qb := 0) C (kX12_now h0 a0 _ hw) mM_X12_138 mI_X12 mC_X12_now mN_X12_now mS_X12_now rfl rfl hd_X12_now ⟨Nat.le_of_ble_eq_true rfl, Nat.le_of_ble_eq_true rfl⟩ ⟨Nat.le_of_ble_eq_true rfl, Nat.le_of_ble_eq_true rfl⟩ rfl (Nat.le_of_ble_eq_true rfl) dX12_sign_82 (fun r82 v82_0 hw => ?_)
        obtain ⟨hi85, hw⟩ := hw
        obtain ⟨w85, e85⟩ : ∃ z : Md, z = tA v82_0 1 ((7490 + (3 * (gA v2_0 1 (7 : Int32).toNatClampNeg))) + 2) r82 := ⟨_, rfl⟩
        have hw := hw w85 e85
        refine v_iast (ws' := [wX12 E h0 a0 w85].flatten) C 1 rfl hi85 (by rw [e85]; rfl) dX12_sign_85 ?_
        refine v_aload_n C dX12_sign_86 1 rfl ?_
        refine v_get (ci := 12) C inT12 0 1 rfl rfl (by decide) mF_X12_9_X12_1 rfl dX12_sign_87 ?_
        refine v_bipush (v := 7) C dX12_sign_90 (by decide) ?_
        refine v_dup2 C dX12_sign_92 rfl rfl ?_
        obtain ⟨hi93, hw⟩ := hw
        refine v_iald C 1 rfl hi93 dX12_sign_93 ?_
        refine v_iconst (v := 1) C dX12_sign_94 (by decide) ?_
        refine v_iadd C dX12_sign_95 ?_
        obtain ⟨hi96, hw⟩ := hw
        obtain ⟨w96, e96⟩ : ∃ z : Md, z = tA w85 1 7 ((gA w85 1 (7 : Int32).toNatClampNeg) + 1) := ⟨_, rfl⟩
        have hw := hw w96 e96
        refine v_iast (ws' := [wX12 E h0 a0 w96].flatten) C 1 rfl hi96 (by rw [e96]; rfl) dX12_sign_96 ?_
        refine v_iload_n C dX12_sign_97 0 rfl ?_
        exact hret _ _ _ _ (gA v2_0 1 (7 : Int32).toNatClampNeg) w96 dX12_sign_98 rfl hw (Nat.le_of_ble_eq_true rfl) (Nat.le_of_ble_eq_true rfl)
      · have hw := hw.2 hc
        refine v_bipush (v := (-3)) C dX12_sign_37 (by decide) ?_
        exact hret _ _ _ _ ((-3)) v2_0 dX12_sign_39 rfl hw (Nat.le_of_ble_eq_true rfl) (Nat.le_of_ble_eq_true rfl)
    · have hw := hw.2 hc
      refine v_bipush (v := (-2)) C dX12_sign_20 (by decide) ?_
      exact hret _ _ _ _ ((-2)) v2_0 dX12_sign_22 rfl hw (Nat.le_of_ble_eq_true rfl) (Nat.le_of_ble_eq_true rfl)
set_option maxHeartbeats 4000000 in
set_option maxRecDepth 100000 in
theorem kX12_isSign0 {l : Launch} {E : VE} (h0 : Nat) (a0 : Nat → Nat) (u0 : Md) (x1 : Int32) {Q : Int32 → Md → Prop} (hw : qX12_isSign0 u0 x1 Q) : MI l yX12_isSign0 cX12_isSign0 2 .boolean 1 0 0 E [.ref h0, .int x1] ([wX12 E h0 a0 u0].flatten) (fun (U : Md) => [wX12 E h0 a0 U].flatten) (fun (r : Int32) (U : Md) => (r = 0 ∨ r = 1) ∧ Q r U) := by
  refine MI.of (own := RX12) (by decide) rfl (Nat.le_of_ble_eq_true rfl) ?_
  intro X C hini hret
  show VV X 0 0 ([wX12 E h0 a0 u0].flatten) [(0, .ref h0), (1, .int x1)] 0 []
  unfold qX12_isSign0 at hw
  refine v_iload_n C dX12_isSign0_0 1 rfl ?_
  refine v_i2l C dX12_isSign0_1 ?_
  refine v_lconst (v := 0) C dX12_isSign0_2 (by decide) ?_
  refine v_aload_n C dX12_isSign0_3 0 rfl ?_
  refine v_get (ci := 12) C inT12 0 1 rfl rfl (by decide) mF_X12_9_X12_1 rfl dX12_isSign0_4 ?_
  refine v_bipush (v := 7) C dX12_isSign0_7 (by decide) ?_
  obtain ⟨hi9, hw⟩ := hw
  refine v_iald C 1 rfl hi9 dX12_isSign0_9 ?_
  refine v_iconst (v := 1) C dX12_isSign0_10 (by decide) ?_
  refine v_isub C dX12_isSign0_11 ?_
  refine v_i2l C dX12_isSign0_12 ?_
  refine v_callSPi (st := []) C (kX12_in _ _ _ hw) mM_X12_125 mI_X12 mC_X12_in mT_X12_in hd_X12_in ⟨Nat.le_of_ble_eq_true rfl, Nat.le_of_ble_eq_true rfl⟩ ⟨Nat.le_of_ble_eq_true rfl, Nat.le_of_ble_eq_true rfl⟩ rfl (Nat.le_of_ble_eq_true rfl) dX12_isSign0_13 (fun r13 U13 hw => ?_)
  obtain ⟨h01_13, hw⟩ := hw
  have hw := hw h01_13
  exact hret _ _ _ _ r13 u0 dX12_isSign0_16 (nz01 h01_13) ⟨h01_13, hw⟩ (Nat.le_of_ble_eq_true rfl) (Nat.le_of_ble_eq_true rfl)
set_option maxHeartbeats 4000000 in
set_option maxRecDepth 100000 in
theorem kX12_signIs {l : Launch} {E : VE} (h0 : Nat) (a0 : Nat → Nat) (u0 : Md) (x1 : Int32) (x2 : Int32) {Q : Int32 → Md → Prop} (hw : qX12_signIs u0 x1 x2 Q) : MI l yX12_signIs cX12_signIs 3 .int 0 0 0 E [.ref h0, .int x1, .int x2] ([wX12 E h0 a0 u0].flatten) (fun (U : Md) => [wX12 E h0 a0 U].flatten) (fun (r : Int32) (U : Md) => Q r U) := by
  refine MI.of (own := RX12) (by decide) rfl (Nat.le_of_ble_eq_true rfl) ?_
  intro X C hini hret
  show VV X 0 0 ([wX12 E h0 a0 u0].flatten) [(0, .ref h0), (1, .int x1), (2, .int x2)] 0 []
  unfold qX12_signIs at hw
  refine v_aload_n C dX12_signIs_0 0 rfl ?_
  refine v_get (ci := 12) C inT12 0 1 rfl rfl (by decide) mF_X12_9_X12_1 rfl dX12_signIs_1 ?_
  refine v_sipush (v := 7490) C dX12_signIs_4 (by decide) ?_
  refine v_iconst (v := 3) C dX12_signIs_7 (by decide) ?_
  refine v_iload_n C dX12_signIs_8 1 rfl ?_
  refine v_imul C dX12_signIs_9 ?_
  refine v_iadd C dX12_signIs_10 ?_
  refine v_iload_n C dX12_signIs_11 2 rfl ?_
  refine v_iadd C dX12_signIs_12 ?_
  obtain ⟨hi13, hw⟩ := hw
  refine v_iald C 1 rfl hi13 dX12_signIs_13 ?_
  exact hret _ _ _ _ (gA u0 1 ((7490 + (3 * x1)) + x2).toNatClampNeg) u0 dX12_signIs_14 rfl hw (Nat.le_of_ble_eq_true rfl) (Nat.le_of_ble_eq_true rfl)
set_option maxHeartbeats 4000000 in
set_option maxRecDepth 100000 in
theorem kX12_anew {l : Launch} {E : VE} (h0 : Nat) (a0 : Nat → Nat) (u0 : Md) (x1 : Int32) {Q : Int32 → Md → Prop} (hw : qX12_anew u0 x1 Q) : MI l yX12_anew cX12_anew 2 .int 2 0 0 E [.ref h0, .int x1] ([wX12 E h0 a0 u0].flatten) (fun (U : Md) => [wX12 E h0 a0 U].flatten) (fun (r : Int32) (U : Md) => Q r U) := by
  refine MI.of (own := RX12) (by decide) rfl (Nat.le_of_ble_eq_true rfl) ?_
  intro X C hini hret
  show VV X 0 0 ([wX12 E h0 a0 u0].flatten) [(0, .ref h0), (1, .int x1)] 0 []
  unfold qX12_anew at hw
  refine v_aload_n C dX12_anew_0 0 rfl ?_
  refine v_iload_n C dX12_anew_1 1 rfl ?_
  refine v_callFi (st := []) (ci := 12) (qb := 0) C (kX12_isSign0 h0 a0 _ _ hw) mM_X12_400 mI_X12 mC_X12_isSign0 mN_X12_isSign0 mS_X12_isSign0 rfl rfl hd_X12_isSign0 ⟨Nat.le_of_ble_eq_true rfl, Nat.le_of_ble_eq_true rfl⟩ ⟨Nat.le_of_ble_eq_true rfl, Nat.le_of_ble_eq_true rfl⟩ rfl (Nat.le_of_ble_eq_true rfl) dX12_anew_2 (fun r2 v2_0 hw => ?_)
  obtain ⟨h01_2, hw⟩ := hw
  have hw := hw h01_2
  refine v_if_ne (tgt := 11) C dX12_anew_5 (by decide) (fun hc => ?_) (fun hc => ?_)
  · have hw := hw.1 hc
    refine v_aload_n C dX12_anew_11 0 rfl ?_
    refine v_get (ci := 12) C inT12 0 1 rfl rfl (by decide) mF_X12_9_X12_1 rfl dX12_anew_12 ?_
    refine v_sipush (v := 7490) C dX12_anew_15 (by decide) ?_
    refine v_iconst (v := 3) C dX12_anew_18 (by decide) ?_
    refine v_iload_n C dX12_anew_19 1 rfl ?_
    refine v_imul C dX12_anew_20 ?_
    refine v_iadd C dX12_anew_21 ?_
    refine v_iconst (v := 2) C dX12_anew_22 (by decide) ?_
    refine v_iadd C dX12_anew_23 ?_
    refine v_aload_n C dX12_anew_24 0 rfl ?_
    refine v_callFi (st := [.int ((7490 + (3 * x1)) + 2), .ref ((a0 1))]) (ci := 12) (qb := 0) C (kX12_now h0 a0 _ hw) mM_X12_138 mI_X12 mC_X12_now mN_X12_now mS_X12_now rfl rfl hd_X12_now ⟨Nat.le_of_ble_eq_true rfl, Nat.le_of_ble_eq_true rfl⟩ ⟨Nat.le_of_ble_eq_true rfl, Nat.le_of_ble_eq_true rfl⟩ rfl (Nat.le_of_ble_eq_true rfl) dX12_anew_25 (fun r25 v25_0 hw => ?_)
    obtain ⟨hi28, hw⟩ := hw
    obtain ⟨w28, e28⟩ : ∃ z : Md, z = tA v25_0 1 ((7490 + (3 * x1)) + 2) r25 := ⟨_, rfl⟩
    have hw := hw w28 e28
    refine v_iast (ws' := [wX12 E h0 a0 w28].flatten) C 1 rfl hi28 (by rw [e28]; rfl) dX12_anew_28 ?_
    refine v_iconst (v := 0) C dX12_anew_29 (by decide) ?_
    exact hret _ _ _ _ 0 w28 dX12_anew_30 rfl hw (Nat.le_of_ble_eq_true rfl) (Nat.le_of_ble_eq_true rfl)
  · have hw := hw.2 hc
    refine v_bipush (v := (-2)) C dX12_anew_8 (by decide) ?_
    exact hret _ _ _ _ ((-2)) v2_0 dX12_anew_10 rfl hw (Nat.le_of_ble_eq_true rfl) (Nat.le_of_ble_eq_true rfl)
set_option maxHeartbeats 4000000 in
set_option maxRecDepth 100000 in
theorem kX12_isLame {l : Launch} {E : VE} (h0 : Nat) (a0 : Nat → Nat) (u0 : Md) (x1 : Int32) {Q : Int32 → Md → Prop} (hw : qX12_isLame u0 x1 Q) : MI l yX12_isLame cX12_isLame 2 .boolean 5 0 0 E [.ref h0, .int x1] ([wX12 E h0 a0 u0].flatten) (fun (U : Md) => [wX12 E h0 a0 U].flatten) (fun (r : Int32) (U : Md) => (r = 0 ∨ r = 1) ∧ Q r U) := by
  refine MI.of (own := RX12) (by decide) rfl (Nat.le_of_ble_eq_true rfl) ?_
  intro X C hini hret
  show VV X 0 0 ([wX12 E h0 a0 u0].flatten) [(0, .ref h0), (1, .int x1)] 0 []
  unfold qX12_isLame at hw
  refine v_aload_n C dX12_isLame_0 0 rfl ?_
  refine v_aload_n C dX12_isLame_1 0 rfl ?_
  refine v_iload_n C dX12_isLame_2 1 rfl ?_
  refine v_iconst (v := 0) C dX12_isLame_3 (by decide) ?_
  refine v_callFi (st := [.ref h0]) (ci := 12) (qb := 0) C (kX12_signIs h0 a0 _ _ _ hw) mM_X12_403 mI_X12 mC_X12_signIs mN_X12_signIs mS_X12_signIs rfl rfl hd_X12_signIs ⟨Nat.le_of_ble_eq_true rfl, Nat.le_of_ble_eq_true rfl⟩ ⟨Nat.le_of_ble_eq_true rfl, Nat.le_of_ble_eq_true rfl⟩ rfl (Nat.le_of_ble_eq_true rfl) dX12_isLame_4 (fun r4 v4_0 hw => ?_)
  refine v_aload_n C dX12_isLame_7 0 rfl ?_
  refine v_iload_n C dX12_isLame_8 1 rfl ?_
  refine v_iconst (v := 2) C dX12_isLame_9 (by decide) ?_
  refine v_callFi (st := [.int r4, .ref h0]) (ci := 12) (qb := 0) C (kX12_signIs h0 a0 _ _ _ hw) mM_X12_403 mI_X12 mC_X12_signIs mN_X12_signIs mS_X12_signIs rfl rfl hd_X12_signIs ⟨Nat.le_of_ble_eq_true rfl, Nat.le_of_ble_eq_true rfl⟩ ⟨Nat.le_of_ble_eq_true rfl, Nat.le_of_ble_eq_true rfl⟩ rfl (Nat.le_of_ble_eq_true rfl) dX12_isLame_10 (fun r10 v10_0 hw => ?_)
  refine v_aload_n C dX12_isLame_13 0 rfl ?_
  refine v_iload_n C dX12_isLame_14 1 rfl ?_
  refine v_iconst (v := 2) C dX12_isLame_15 (by decide) ?_
  refine v_callFi (st := [.int r10, .int r4, .ref h0]) (ci := 12) (qb := 0) C (kX12_signIs h0 a0 _ _ _ hw) mM_X12_403 mI_X12 mC_X12_signIs mN_X12_signIs mS_X12_signIs rfl rfl hd_X12_signIs ⟨Nat.le_of_ble_eq_true rfl, Nat.le_of_ble_eq_true rfl⟩ ⟨Nat.le_of_ble_eq_true rfl, Nat.le_of_ble_eq_true rfl⟩ rfl (Nat.le_of_ble_eq_true rfl) dX12_isLame_16 (fun r16 v16_0 hw => ?_)
  refine v_callFv (st := []) (ci := 12) (qb := 0) C (kX12_shows h0 a0 _ _ _ _ hw) mM_X12_395 mI_X12 mC_X12_shows mN_X12_shows mS_X12_shows rfl rfl hd_X12_shows ⟨Nat.le_of_ble_eq_true rfl, Nat.le_of_ble_eq_true rfl⟩ ⟨Nat.le_of_ble_eq_true rfl, Nat.le_of_ble_eq_true rfl⟩ rfl (Nat.le_of_ble_eq_true rfl) dX12_isLame_19 (fun v19_0 hw => ?_)
  refine v_aload_n C dX12_isLame_22 0 rfl ?_
  refine v_callFv (st := []) (ci := 12) (qb := 0) C (kX12_holds h0 a0 _ hw) mM_X12_294 mI_X12 mC_X12_holds mN_X12_holds mS_X12_holds rfl rfl hd_X12_holds ⟨Nat.le_of_ble_eq_true rfl, Nat.le_of_ble_eq_true rfl⟩ ⟨Nat.le_of_ble_eq_true rfl, Nat.le_of_ble_eq_true rfl⟩ rfl (Nat.le_of_ble_eq_true rfl) dX12_isLame_23 (fun v23_0 hw => ?_)
  refine v_aload_n C dX12_isLame_26 0 rfl ?_
  refine v_aload_n C dX12_isLame_27 0 rfl ?_
  refine v_iload_n C dX12_isLame_28 1 rfl ?_
  refine v_iconst (v := 0) C dX12_isLame_29 (by decide) ?_
  refine v_callFi (st := [.ref h0]) (ci := 12) (qb := 0) C (kX12_signIs h0 a0 _ _ _ hw) mM_X12_403 mI_X12 mC_X12_signIs mN_X12_signIs mS_X12_signIs rfl rfl hd_X12_signIs ⟨Nat.le_of_ble_eq_true rfl, Nat.le_of_ble_eq_true rfl⟩ ⟨Nat.le_of_ble_eq_true rfl, Nat.le_of_ble_eq_true rfl⟩ rfl (Nat.le_of_ble_eq_true rfl) dX12_isLame_30 (fun r30 v30_0 hw => ?_)
  refine v_aload_n C dX12_isLame_33 0 rfl ?_
  refine v_callFi (st := [.int r30, .ref h0]) (ci := 12) (qb := 0) C (kX12_now h0 a0 _ hw) mM_X12_138 mI_X12 mC_X12_now mN_X12_now mS_X12_now rfl rfl hd_X12_now ⟨Nat.le_of_ble_eq_true rfl, Nat.le_of_ble_eq_true rfl⟩ ⟨Nat.le_of_ble_eq_true rfl, Nat.le_of_ble_eq_true rfl⟩ rfl (Nat.le_of_ble_eq_true rfl) dX12_isLame_34 (fun r34 v34_0 hw => ?_)
  refine v_aload_n C dX12_isLame_37 0 rfl ?_
  refine v_callFi (st := [.int r34, .int r30, .ref h0]) (ci := 12) (qb := 0) C (kX12_now h0 a0 _ hw) mM_X12_138 mI_X12 mC_X12_now mN_X12_now mS_X12_now rfl rfl hd_X12_now ⟨Nat.le_of_ble_eq_true rfl, Nat.le_of_ble_eq_true rfl⟩ ⟨Nat.le_of_ble_eq_true rfl, Nat.le_of_ble_eq_true rfl⟩ rfl (Nat.le_of_ble_eq_true rfl) dX12_isLame_38 (fun r38 v38_0 hw => ?_)
  refine v_callFv (st := []) (ci := 12) (qb := 0) C (kX12_shows h0 a0 _ _ _ _ hw) mM_X12_395 mI_X12 mC_X12_shows mN_X12_shows mS_X12_shows rfl rfl hd_X12_shows ⟨Nat.le_of_ble_eq_true rfl, Nat.le_of_ble_eq_true rfl⟩ ⟨Nat.le_of_ble_eq_true rfl, Nat.le_of_ble_eq_true rfl⟩ rfl (Nat.le_of_ble_eq_true rfl) dX12_isLame_41 (fun v41_0 hw => ?_)
  refine v_aload_n C dX12_isLame_44 0 rfl ?_
  refine v_callFi (st := []) (ci := 12) (qb := 0) C (kX12_isAlike h0 a0 _ hw) mM_X12_297 mI_X12 mC_X12_isAlike mN_X12_isAlike mS_X12_isAlike rfl rfl hd_X12_isAlike ⟨Nat.le_of_ble_eq_true rfl, Nat.le_of_ble_eq_true rfl⟩ ⟨Nat.le_of_ble_eq_true rfl, Nat.le_of_ble_eq_true rfl⟩ rfl (Nat.le_of_ble_eq_true rfl) dX12_isLame_45 (fun r45 v45_0 hw => ?_)
  obtain ⟨h01_45, hw⟩ := hw
  have hw := hw h01_45
  refine v_if_ne (tgt := 55) C dX12_isLame_48 (by decide) (fun hc => ?_) (fun hc => ?_)
  · have hw := hw.1 hc
    refine v_iconst (v := 0) C dX12_isLame_55 (by decide) ?_
    exact hret _ _ _ _ 0 v45_0 dX12_isLame_56 rfl ⟨Or.inl rfl, hw⟩ (Nat.le_of_ble_eq_true rfl) (Nat.le_of_ble_eq_true rfl)
  · have hw := hw.2 hc
    refine v_iconst (v := 1) C dX12_isLame_51 (by decide) ?_
    refine v_goto (tgt := 56) C dX12_isLame_52 (by decide) ?_
    exact hret _ _ _ _ 1 v45_0 dX12_isLame_56 rfl ⟨Or.inr rfl, hw⟩ (Nat.le_of_ble_eq_true rfl) (Nat.le_of_ble_eq_true rfl)
set_option maxHeartbeats 4000000 in
set_option maxRecDepth 100000 in
theorem jX12_lameSince_75 {X : VX} {E : VE} {l : Launch} (h0 : Nat) (a0 : Nat → Nat)  (Q : Int32 → Md → Prop) (C : VC X cX12_lameSince 4 RX12 (rmL 5 0 0) E l) (hret : RetI X cX12_lameSince .int 0 0 (fun (U : Md) => [wX12 E h0 a0 U].flatten) (fun (r : Int32) (U : Md) => Q r U)) (K33 : Md → Int32 → Int32 → Int32 → Prop) (hK33 : ∀ (u0 : Md) (y1 : Int32) (y2 : Int32) (y3 : Int32), K33 u0 y1 y2 y3 → VV X 0 0 ([wX12 E h0 a0 u0].flatten) [(0, .ref h0), (1, .int y1), (2, .int y2), (3, .int y3)] 33 []) : ∀ (u0 : Md) (y1 : Int32) (y2 : Int32) (z0 : Int32), qX12_lameSince_75 Q K33 u0 y1 y2 z0 → VV X 0 0 ([wX12 E h0 a0 u0].flatten) [(0, .ref h0), (1, .int y1), (2, .int y2)] 75 [.int z0] := by
  intro u0 y1 y2 z0 hw
  unfold qX12_lameSince_75 at hw
  refine v_istore_n (lv' := [(3, .int z0), (0, .ref h0), (1, .int y1), (2, .int y2)]) C dX12_lameSince_75 (by decide) rfl ?_
  refine v_iload_n C dX12_lameSince_76 0 rfl ?_
  refine v_if_eq (tgt := 33) C dX12_lameSince_77 (by decide) (fun hc => ?_) (fun hc => ?_)
  · have hw := hw.1 hc
    refine v_lv C (lv' := [(0, .ref h0), (1, .int y1), (2, .int y2), (3, .int z0)]) [1, 2, 3, 0] rfl ?_
    exact hK33 u0 y1 y2 z0 hw
  · have hw := hw.2 hc
    refine v_iinc (lv' := [(2, .int (y2 + Int32.ofInt (-1))), (3, .int z0), (0, .ref h0), (1, .int y1)]) C dX12_lameSince_80 3 rfl (by decide) rfl ?_
    refine v_goto (tgt := 33) C dX12_lameSince_83 (by decide) ?_
    refine v_lv C (lv' := [(0, .ref h0), (1, .int y1), (2, .int (y2 + Int32.ofInt (-1))), (3, .int z0)]) [2, 3, 0, 1] rfl ?_
    exact hK33 u0 y1 (y2 + Int32.ofInt (-1)) z0 hw
set_option maxHeartbeats 4000000 in
set_option maxRecDepth 100000 in
theorem jX12_lameSince_33 {X : VX} {E : VE} {l : Launch} (h0 : Nat) (a0 : Nat → Nat)  (Q : Int32 → Md → Prop) (C : VC X cX12_lameSince 4 RX12 (rmL 5 0 0) E l) (hret : RetI X cX12_lameSince .int 0 0 (fun (U : Md) => [wX12 E h0 a0 U].flatten) (fun (r : Int32) (U : Md) => Q r U))  : ∀ (n : Nat), ∀ (u0 : Md) (y1 : Int32) (y2 : Int32) (y3 : Int32), qX12_lameSince_33 Q n u0 y1 y2 y3 → VV X 0 0 ([wX12 E h0 a0 u0].flatten) [(0, .ref h0), (1, .int y1), (2, .int y2), (3, .int y3)] 33 [] := by
  intro n
  induction n with
  | zero =>
    intro u0 y1 y2 y3 hw
    exact hw.elim
  | succ n ih =>
    intro u0 y1 y2 y3 hw
    unfold qX12_lameSince_33 at hw
    refine v_iload_n C dX12_lameSince_33 3 rfl ?_
    refine v_if_eq (tgt := 86) C dX12_lameSince_34 (by decide) (fun hc => ?_) (fun hc => ?_)
    · have hw := hw.1 hc
      refine v_iload_n C dX12_lameSince_86 2 rfl ?_
      exact hret _ _ _ _ y2 u0 dX12_lameSince_87 rfl hw (Nat.le_of_ble_eq_true rfl) (Nat.le_of_ble_eq_true rfl)
    · have hw := hw.2 hc
      refine v_iload_n C dX12_lameSince_37 2 rfl ?_
      refine v_aload_n C dX12_lameSince_38 0 rfl ?_
      refine v_iload_n C dX12_lameSince_39 1 rfl ?_
      refine v_iconst (v := 2) C dX12_lameSince_40 (by decide) ?_
      refine v_callFi (st := [.int y2]) (ci := 12) (qb := 0) C (kX12_signIs h0 a0 _ _ _ hw) mM_X12_403 mI_X12 mC_X12_signIs mN_X12_signIs mS_X12_signIs rfl rfl hd_X12_signIs ⟨Nat.le_of_ble_eq_true rfl, Nat.le_of_ble_eq_true rfl⟩ ⟨Nat.le_of_ble_eq_true rfl, Nat.le_of_ble_eq_true rfl⟩ rfl (Nat.le_of_ble_eq_true rfl) dX12_lameSince_41 (fun r41 v41_0 hw => ?_)
      refine v_icmp_le (tgt := 86) C dX12_lameSince_44 (by decide) (fun hc => ?_) (fun hc => ?_)
      · have hw := hw.1 hc
        refine v_iload_n C dX12_lameSince_86 2 rfl ?_
        exact hret _ _ _ _ y2 v41_0 dX12_lameSince_87 rfl hw (Nat.le_of_ble_eq_true rfl) (Nat.le_of_ble_eq_true rfl)
      · have hw := hw.2 hc
        refine v_aload_n C dX12_lameSince_47 0 rfl ?_
        refine v_aload_n C dX12_lameSince_48 0 rfl ?_
        refine v_iload_n C dX12_lameSince_49 1 rfl ?_
        refine v_iconst (v := 0) C dX12_lameSince_50 (by decide) ?_
        refine v_callFi (st := [.ref h0]) (ci := 12) (qb := 0) C (kX12_signIs h0 a0 _ _ _ hw) mM_X12_403 mI_X12 mC_X12_signIs mN_X12_signIs mS_X12_signIs rfl rfl hd_X12_signIs ⟨Nat.le_of_ble_eq_true rfl, Nat.le_of_ble_eq_true rfl⟩ ⟨Nat.le_of_ble_eq_true rfl, Nat.le_of_ble_eq_true rfl⟩ rfl (Nat.le_of_ble_eq_true rfl) dX12_lameSince_51 (fun r51 v51_0 hw => ?_)
        refine v_iload_n C dX12_lameSince_54 2 rfl ?_
        refine v_iconst (v := 1) C dX12_lameSince_55 (by decide) ?_
        refine v_isub C dX12_lameSince_56 ?_
        refine v_iload_n C dX12_lameSince_57 2 rfl ?_
        refine v_iconst (v := 1) C dX12_lameSince_58 (by decide) ?_
        refine v_isub C dX12_lameSince_59 ?_
        refine v_callFv (st := []) (ci := 12) (qb := 0) C (kX12_shows h0 a0 _ _ _ _ hw) mM_X12_395 mI_X12 mC_X12_shows mN_X12_shows mS_X12_shows rfl rfl hd_X12_shows ⟨Nat.le_of_ble_eq_true rfl, Nat.le_of_ble_eq_true rfl⟩ ⟨Nat.le_of_ble_eq_true rfl, Nat.le_of_ble_eq_true rfl⟩ rfl (Nat.le_of_ble_eq_true rfl) dX12_lameSince_60 (fun v60_0 hw => ?_)
        refine v_aload_n C dX12_lameSince_63 0 rfl ?_
        refine v_callFi (st := []) (ci := 12) (qb := 0) C (kX12_isAlike h0 a0 _ hw) mM_X12_297 mI_X12 mC_X12_isAlike mN_X12_isAlike mS_X12_isAlike rfl rfl hd_X12_isAlike ⟨Nat.le_of_ble_eq_true rfl, Nat.le_of_ble_eq_true rfl⟩ ⟨Nat.le_of_ble_eq_true rfl, Nat.le_of_ble_eq_true rfl⟩ rfl (Nat.le_of_ble_eq_true rfl) dX12_lameSince_64 (fun r64 v64_0 hw => ?_)
        obtain ⟨h01_64, hw⟩ := hw
        have hw := hw h01_64
        refine v_if_ne (tgt := 74) C dX12_lameSince_67 (by decide) (fun hc => ?_) (fun hc => ?_)
        · have hw := hw.1 hc
          refine v_iconst (v := 0) C dX12_lameSince_74 (by decide) ?_
          refine v_lv C (lv' := [(0, .ref h0), (1, .int y1), (2, .int y2)]) [0, 1, 2] rfl ?_
          exact jX12_lameSince_75 h0 a0 Q C hret (qX12_lameSince_33 Q n) ih v64_0 y1 y2 0 hw
        · have hw := hw.2 hc
          refine v_iconst (v := 1) C dX12_lameSince_70 (by decide) ?_
          refine v_goto (tgt := 75) C dX12_lameSince_71 (by decide) ?_
          refine v_lv C (lv' := [(0, .ref h0), (1, .int y1), (2, .int y2)]) [0, 1, 2] rfl ?_
          exact jX12_lameSince_75 h0 a0 Q C hret (qX12_lameSince_33 Q n) ih v64_0 y1 y2 1 hw
set_option maxHeartbeats 4000000 in
set_option maxRecDepth 100000 in
theorem kX12_lameSince {l : Launch} {E : VE} (h0 : Nat) (a0 : Nat → Nat) (u0 : Md) (x1 : Int32) {Q : Int32 → Md → Prop} (hw : qX12_lameSince u0 x1 Q) : MI l yX12_lameSince cX12_lameSince 4 .int 5 0 0 E [.ref h0, .int x1] ([wX12 E h0 a0 u0].flatten) (fun (U : Md) => [wX12 E h0 a0 U].flatten) (fun (r : Int32) (U : Md) => Q r U) := by
  refine MI.of (own := RX12) (by decide) rfl (Nat.le_of_ble_eq_true rfl) ?_
  intro X C hini hret
  show VV X 0 0 ([wX12 E h0 a0 u0].flatten) [(0, .ref h0), (1, .int x1)] 0 []
  unfold qX12_lameSince at hw
  refine v_aload_n C dX12_lameSince_0 0 rfl ?_
  refine v_aload_n C dX12_lameSince_1 0 rfl ?_
  refine v_iload_n C dX12_lameSince_2 1 rfl ?_
  refine v_iconst (v := 0) C dX12_lameSince_3 (by decide) ?_
  refine v_callFi (st := [.ref h0]) (ci := 12) (qb := 0) C (kX12_signIs h0 a0 _ _ _ hw) mM_X12_403 mI_X12 mC_X12_signIs mN_X12_signIs mS_X12_signIs rfl rfl hd_X12_signIs ⟨Nat.le_of_ble_eq_true rfl, Nat.le_of_ble_eq_true rfl⟩ ⟨Nat.le_of_ble_eq_true rfl, Nat.le_of_ble_eq_true rfl⟩ rfl (Nat.le_of_ble_eq_true rfl) dX12_lameSince_4 (fun r4 v4_0 hw => ?_)
  refine v_aload_n C dX12_lameSince_7 0 rfl ?_
  refine v_iload_n C dX12_lameSince_8 1 rfl ?_
  refine v_iconst (v := 2) C dX12_lameSince_9 (by decide) ?_
  refine v_callFi (st := [.int r4, .ref h0]) (ci := 12) (qb := 0) C (kX12_signIs h0 a0 _ _ _ hw) mM_X12_403 mI_X12 mC_X12_signIs mN_X12_signIs mS_X12_signIs rfl rfl hd_X12_signIs ⟨Nat.le_of_ble_eq_true rfl, Nat.le_of_ble_eq_true rfl⟩ ⟨Nat.le_of_ble_eq_true rfl, Nat.le_of_ble_eq_true rfl⟩ rfl (Nat.le_of_ble_eq_true rfl) dX12_lameSince_10 (fun r10 v10_0 hw => ?_)
  refine v_aload_n C dX12_lameSince_13 0 rfl ?_
  refine v_iload_n C dX12_lameSince_14 1 rfl ?_
  refine v_iconst (v := 2) C dX12_lameSince_15 (by decide) ?_
  refine v_callFi (st := [.int r10, .int r4, .ref h0]) (ci := 12) (qb := 0) C (kX12_signIs h0 a0 _ _ _ hw) mM_X12_403 mI_X12 mC_X12_signIs mN_X12_signIs mS_X12_signIs rfl rfl hd_X12_signIs ⟨Nat.le_of_ble_eq_true rfl, Nat.le_of_ble_eq_true rfl⟩ ⟨Nat.le_of_ble_eq_true rfl, Nat.le_of_ble_eq_true rfl⟩ rfl (Nat.le_of_ble_eq_true rfl) dX12_lameSince_16 (fun r16 v16_0 hw => ?_)
  refine v_callFv (st := []) (ci := 12) (qb := 0) C (kX12_shows h0 a0 _ _ _ _ hw) mM_X12_395 mI_X12 mC_X12_shows mN_X12_shows mS_X12_shows rfl rfl hd_X12_shows ⟨Nat.le_of_ble_eq_true rfl, Nat.le_of_ble_eq_true rfl⟩ ⟨Nat.le_of_ble_eq_true rfl, Nat.le_of_ble_eq_true rfl⟩ rfl (Nat.le_of_ble_eq_true rfl) dX12_lameSince_19 (fun v19_0 hw => ?_)
  refine v_aload_n C dX12_lameSince_22 0 rfl ?_
  refine v_callFv (st := []) (ci := 12) (qb := 0) C (kX12_holds h0 a0 _ hw) mM_X12_294 mI_X12 mC_X12_holds mN_X12_holds mS_X12_holds rfl rfl hd_X12_holds ⟨Nat.le_of_ble_eq_true rfl, Nat.le_of_ble_eq_true rfl⟩ ⟨Nat.le_of_ble_eq_true rfl, Nat.le_of_ble_eq_true rfl⟩ rfl (Nat.le_of_ble_eq_true rfl) dX12_lameSince_23 (fun v23_0 hw => ?_)
  refine v_aload_n C dX12_lameSince_26 0 rfl ?_
  refine v_callFi (st := []) (ci := 12) (qb := 0) C (kX12_now h0 a0 _ hw) mM_X12_138 mI_X12 mC_X12_now mN_X12_now mS_X12_now rfl rfl hd_X12_now ⟨Nat.le_of_ble_eq_true rfl, Nat.le_of_ble_eq_true rfl⟩ ⟨Nat.le_of_ble_eq_true rfl, Nat.le_of_ble_eq_true rfl⟩ rfl (Nat.le_of_ble_eq_true rfl) dX12_lameSince_27 (fun r27 v27_0 hw => ?_)
  refine v_istore_n (lv' := [(2, .int r27), (0, .ref h0), (1, .int x1)]) C dX12_lameSince_30 (by decide) rfl ?_
  refine v_iconst (v := 1) C dX12_lameSince_31 (by decide) ?_
  refine v_istore_n (lv' := [(3, .int 1), (2, .int r27), (0, .ref h0), (1, .int x1)]) C dX12_lameSince_32 (by decide) rfl ?_
  refine v_lv C (lv' := [(0, .ref h0), (1, .int x1), (2, .int r27), (3, .int 1)]) [2, 3, 1, 0] rfl ?_
  obtain ⟨n', hw⟩ := hw
  exact jX12_lameSince_33 h0 a0 Q C hret n' v27_0 x1 r27 1 hw
set_option maxHeartbeats 4000000 in
set_option maxRecDepth 100000 in
theorem kX12_signOf {l : Launch} {E : VE} (h0 : Nat) (a0 : Nat → Nat) (u0 : Md) (x1 : Int32) (x2 : Int32) {Q : Int32 → Md → Prop} (hw : qX12_signOf u0 x1 x2 Q) : MI l yX12_signOf cX12_signOf 5 .int 6 0 0 E [.ref h0, .int x1, .int x2] ([wX12 E h0 a0 u0].flatten) (fun (U : Md) => [wX12 E h0 a0 U].flatten) (fun (r : Int32) (U : Md) => Q r U) := by
  refine MI.of (own := RX12) (by decide) rfl (Nat.le_of_ble_eq_true rfl) ?_
  intro X C hini hret
  show VV X 0 0 ([wX12 E h0 a0 u0].flatten) [(0, .ref h0), (1, .int x1), (2, .int x2)] 0 []
  unfold qX12_signOf at hw
  refine v_aload_n C dX12_signOf_0 0 rfl ?_
  refine v_iload_n C dX12_signOf_1 1 rfl ?_
  refine v_callFi (st := []) (ci := 12) (qb := 0) C (kX12_isSign0 h0 a0 _ _ hw) mM_X12_400 mI_X12 mC_X12_isSign0 mN_X12_isSign0 mS_X12_isSign0 rfl rfl hd_X12_isSign0 ⟨Nat.le_of_ble_eq_true rfl, Nat.le_of_ble_eq_true rfl⟩ ⟨Nat.le_of_ble_eq_true rfl, Nat.le_of_ble_eq_true rfl⟩ rfl (Nat.le_of_ble_eq_true rfl) dX12_signOf_2 (fun r2 v2_0 hw => ?_)
  obtain ⟨h01_2, hw⟩ := hw
  have hw := hw h01_2
  refine v_if_eq (tgt := 20) C dX12_signOf_5 (by decide) (fun hc => ?_) (fun hc => ?_)
  · have hw := hw.1 hc
    refine v_bipush (v := (-2)) C dX12_signOf_20 (by decide) ?_
    exact hret _ _ _ _ ((-2)) v2_0 dX12_signOf_22 rfl hw (Nat.le_of_ble_eq_true rfl) (Nat.le_of_ble_eq_true rfl)
  · have hw := hw.2 hc
    refine v_iload_n C dX12_signOf_8 2 rfl ?_
    refine v_i2l C dX12_signOf_9 ?_
    refine v_lconst (v := 0) C dX12_signOf_10 (by decide) ?_
    refine v_ldc2 C mJ_X12_406 dX12_signOf_11 ?_
    refine v_callSPi (st := []) C (kX12_in _ _ _ hw) mM_X12_125 mI_X12 mC_X12_in mT_X12_in hd_X12_in ⟨Nat.le_of_ble_eq_true rfl, Nat.le_of_ble_eq_true rfl⟩ ⟨Nat.le_of_ble_eq_true rfl, Nat.le_of_ble_eq_true rfl⟩ rfl (Nat.le_of_ble_eq_true rfl) dX12_signOf_14 (fun r14 U14 hw => ?_)
    obtain ⟨h01_14, hw⟩ := hw
    have hw := hw h01_14
    refine v_if_ne (tgt := 23) C dX12_signOf_17 (by decide) (fun hc => ?_) (fun hc => ?_)
    · have hw := hw.1 hc
      refine v_iload_n C dX12_signOf_23 2 rfl ?_
      refine v_iconst (v := 2) C dX12_signOf_24 (by decide) ?_
      refine v_icmp_le (tgt := 63) C dX12_signOf_25 (by decide) (fun hc => ?_) (fun hc => ?_)
      · have hw := hw.1 hc
        refine v_aload_n C dX12_signOf_63 0 rfl ?_
        refine v_iload_n C dX12_signOf_64 1 rfl ?_
        refine v_callFi (st := []) (ci := 12) (qb := 0) C (kX12_isLame h0 a0 _ _ hw) mM_X12_408 mI_X12 mC_X12_isLame mN_X12_isLame mS_X12_isLame rfl rfl hd_X12_isLame ⟨Nat.le_of_ble_eq_true rfl, Nat.le_of_ble_eq_true rfl⟩ ⟨Nat.le_of_ble_eq_true rfl, Nat.le_of_ble_eq_true rfl⟩ rfl (Nat.le_of_ble_eq_true rfl) dX12_signOf_65 (fun r65 v65_0 hw => ?_)
        obtain ⟨h01_65, hw⟩ := hw
        have hw := hw h01_65
        refine v_istore_n (lv' := [(3, .int r65), (0, .ref h0), (1, .int x1), (2, .int x2)]) C dX12_signOf_68 (by decide) rfl ?_
        refine v_iload_n C dX12_signOf_69 3 rfl ?_
        refine v_if_ne (tgt := 83) C dX12_signOf_70 (by decide) (fun hc => ?_) (fun hc => ?_)
        · have hw := hw.1 hc
          refine v_iload_n C dX12_signOf_83 0 rfl ?_
          refine v_if_ne (tgt := 98) C dX12_signOf_84 (by decide) (fun hc => ?_) (fun hc => ?_)
          · have hw := hw.1 hc
            refine v_aload_n C dX12_signOf_98 1 rfl ?_
            refine v_iload_n C dX12_signOf_99 2 rfl ?_
            refine v_callFi (st := []) (ci := 12) (qb := 0) C (kX12_lameSince h0 a0 _ _ hw) mM_X12_411 mI_X12 mC_X12_lameSince mN_X12_lameSince mS_X12_lameSince rfl rfl hd_X12_lameSince ⟨Nat.le_of_ble_eq_true rfl, Nat.le_of_ble_eq_true rfl⟩ ⟨Nat.le_of_ble_eq_true rfl, Nat.le_of_ble_eq_true rfl⟩ rfl (Nat.le_of_ble_eq_true rfl) dX12_signOf_100 (fun r100 v100_0 hw => ?_)
            refine v_aload_n C dX12_signOf_103 1 rfl ?_
            refine v_iconst (v := 4) C dX12_signOf_104 (by decide) ?_
            refine v_iconst (v := 1) C dX12_signOf_105 (by decide) ?_
            refine v_bipush (v := 10) C dX12_signOf_106 (by decide) ?_
            refine v_callFi (st := [.int r100]) (ci := 12) (qb := 0) C (kX12_termOf h0 a0 _ _ _ _ hw) mM_X12_379 mI_X12 mC_X12_termOf mN_X12_termOf mS_X12_termOf rfl rfl hd_X12_termOf ⟨Nat.le_of_ble_eq_true rfl, Nat.le_of_ble_eq_true rfl⟩ ⟨Nat.le_of_ble_eq_true rfl, Nat.le_of_ble_eq_true rfl⟩ rfl (Nat.le_of_ble_eq_true rfl) dX12_signOf_108 (fun r108 v108_0 hw => ?_)
            refine v_iadd C dX12_signOf_111 ?_
            refine v_istore (lv' := [(4, .int (r100 + r108)), (3, .int r65), (0, .ref h0), (1, .int x1), (2, .int x2)]) C dX12_signOf_112 (by decide) rfl ?_
            refine v_iload_n C dX12_signOf_114 4 rfl ?_
            refine v_iconst (v := 1) C dX12_signOf_115 (by decide) ?_
            refine v_icmp_ne (tgt := 124) C dX12_signOf_116 (by decide) (fun hc => ?_) (fun hc => ?_)
            · have hw := hw.1 hc
              refine v_iconst (v := 0) C dX12_signOf_124 (by decide) ?_
              refine v_aload_n C dX12_signOf_125 2 rfl ?_
              refine v_callFi (st := [.int 0]) (ci := 12) (qb := 0) C (kX12_now h0 a0 _ hw) mM_X12_138 mI_X12 mC_X12_now mN_X12_now mS_X12_now rfl rfl hd_X12_now ⟨Nat.le_of_ble_eq_true rfl, Nat.le_of_ble_eq_true rfl⟩ ⟨Nat.le_of_ble_eq_true rfl, Nat.le_of_ble_eq_true rfl⟩ rfl (Nat.le_of_ble_eq_true rfl) dX12_signOf_126 (fun r126 v126_0 hw => ?_)
              refine v_iload C dX12_signOf_129 0 rfl ?_
              refine v_isub C dX12_signOf_131 ?_
              refine v_imax C mM_X12_414 ⟨Nat.le_of_ble_eq_true rfl, Nat.le_of_ble_eq_true rfl, Nat.le_of_ble_eq_true rfl, Nat.le_of_ble_eq_true rfl⟩ dX12_signOf_132 ?_
              exact hret _ _ _ _ (imax 0 (r126 - (r100 + r108))) v126_0 dX12_signOf_135 rfl hw (Nat.le_of_ble_eq_true rfl) (Nat.le_of_ble_eq_true rfl)
            · have hw := hw.2 hc
              refine v_iload C dX12_signOf_119 0 rfl ?_
              refine v_goto (tgt := 135) C dX12_signOf_121 (by decide) ?_
              exact hret _ _ _ _ (r100 + r108) v108_0 dX12_signOf_135 rfl hw (Nat.le_of_ble_eq_true rfl) (Nat.le_of_ble_eq_true rfl)
          · have hw := hw.2 hc
            refine v_iload_n C dX12_signOf_87 3 rfl ?_
            refine v_iconst (v := 1) C dX12_signOf_88 (by decide) ?_
            refine v_icmp_ne (tgt := 96) C dX12_signOf_89 (by decide) (fun hc => ?_) (fun hc => ?_)
            · have hw := hw.1 hc
              refine v_iconst (v := 0) C dX12_signOf_96 (by decide) ?_
              exact hret _ _ _ _ 0 v65_0 dX12_signOf_97 rfl hw (Nat.le_of_ble_eq_true rfl) (Nat.le_of_ble_eq_true rfl)
            · have hw := hw.2 hc
              refine v_iconst (v := (-1)) C dX12_signOf_92 (by decide) ?_
              refine v_goto (tgt := 97) C dX12_signOf_93 (by decide) ?_
              exact hret _ _ _ _ ((-1)) v65_0 dX12_signOf_97 rfl hw (Nat.le_of_ble_eq_true rfl) (Nat.le_of_ble_eq_true rfl)
        · have hw := hw.2 hc
          refine v_iload_n C dX12_signOf_73 0 rfl ?_
          refine v_if_eq (tgt := 81) C dX12_signOf_74 (by decide) (fun hc => ?_) (fun hc => ?_)
          · have hw := hw.1 hc
            refine v_iconst (v := 0) C dX12_signOf_81 (by decide) ?_
            exact hret _ _ _ _ 0 v65_0 dX12_signOf_82 rfl hw (Nat.le_of_ble_eq_true rfl) (Nat.le_of_ble_eq_true rfl)
          · have hw := hw.2 hc
            refine v_iconst (v := 1) C dX12_signOf_77 (by decide) ?_
            refine v_goto (tgt := 82) C dX12_signOf_78 (by decide) ?_
            exact hret _ _ _ _ 1 v65_0 dX12_signOf_82 rfl hw (Nat.le_of_ble_eq_true rfl) (Nat.le_of_ble_eq_true rfl)
      · have hw := hw.2 hc
        refine v_iload_n C dX12_signOf_28 2 rfl ?_
        refine v_iconst (v := 3) C dX12_signOf_29 (by decide) ?_
        refine v_icmp_ne (tgt := 42) C dX12_signOf_30 (by decide) (fun hc => ?_) (fun hc => ?_)
        · have hw := hw.1 hc
          refine v_iload_n C dX12_signOf_42 2 rfl ?_
          refine v_iconst (v := 4) C dX12_signOf_43 (by decide) ?_
          refine v_icmp_ne (tgt := 56) C dX12_signOf_44 (by decide) (fun hc => ?_) (fun hc => ?_)
          · have hw := hw.1 hc
            refine v_aload_n C dX12_signOf_56 0 rfl ?_
            refine v_iload_n C dX12_signOf_57 1 rfl ?_
            refine v_iconst (v := 1) C dX12_signOf_58 (by decide) ?_
            refine v_callFi (st := []) (ci := 12) (qb := 0) C (kX12_signIs h0 a0 _ _ _ hw) mM_X12_403 mI_X12 mC_X12_signIs mN_X12_signIs mS_X12_signIs rfl rfl hd_X12_signIs ⟨Nat.le_of_ble_eq_true rfl, Nat.le_of_ble_eq_true rfl⟩ ⟨Nat.le_of_ble_eq_true rfl, Nat.le_of_ble_eq_true rfl⟩ rfl (Nat.le_of_ble_eq_true rfl) dX12_signOf_59 (fun r59 v59_0 hw => ?_)
            exact hret _ _ _ _ r59 v59_0 dX12_signOf_62 rfl hw (Nat.le_of_ble_eq_true rfl) (Nat.le_of_ble_eq_true rfl)
          · have hw := hw.2 hc
            refine v_aload_n C dX12_signOf_47 0 rfl ?_
            refine v_iload_n C dX12_signOf_48 1 rfl ?_
            refine v_iconst (v := 0) C dX12_signOf_49 (by decide) ?_
            refine v_callFi (st := []) (ci := 12) (qb := 0) C (kX12_signIs h0 a0 _ _ _ hw) mM_X12_403 mI_X12 mC_X12_signIs mN_X12_signIs mS_X12_signIs rfl rfl hd_X12_signIs ⟨Nat.le_of_ble_eq_true rfl, Nat.le_of_ble_eq_true rfl⟩ ⟨Nat.le_of_ble_eq_true rfl, Nat.le_of_ble_eq_true rfl⟩ rfl (Nat.le_of_ble_eq_true rfl) dX12_signOf_50 (fun r50 v50_0 hw => ?_)
            refine v_goto (tgt := 62) C dX12_signOf_53 (by decide) ?_
            exact hret _ _ _ _ r50 v50_0 dX12_signOf_62 rfl hw (Nat.le_of_ble_eq_true rfl) (Nat.le_of_ble_eq_true rfl)
        · have hw := hw.2 hc
          refine v_aload_n C dX12_signOf_33 0 rfl ?_
          refine v_iload_n C dX12_signOf_34 1 rfl ?_
          refine v_iconst (v := 2) C dX12_signOf_35 (by decide) ?_
          refine v_callFi (st := []) (ci := 12) (qb := 0) C (kX12_signIs h0 a0 _ _ _ hw) mM_X12_403 mI_X12 mC_X12_signIs mN_X12_signIs mS_X12_signIs rfl rfl hd_X12_signIs ⟨Nat.le_of_ble_eq_true rfl, Nat.le_of_ble_eq_true rfl⟩ ⟨Nat.le_of_ble_eq_true rfl, Nat.le_of_ble_eq_true rfl⟩ rfl (Nat.le_of_ble_eq_true rfl) dX12_signOf_36 (fun r36 v36_0 hw => ?_)
          refine v_goto (tgt := 62) C dX12_signOf_39 (by decide) ?_
          exact hret _ _ _ _ r36 v36_0 dX12_signOf_62 rfl hw (Nat.le_of_ble_eq_true rfl) (Nat.le_of_ble_eq_true rfl)
    · have hw := hw.2 hc
      refine v_bipush (v := (-2)) C dX12_signOf_20 (by decide) ?_
      exact hret _ _ _ _ ((-2)) v2_0 dX12_signOf_22 rfl hw (Nat.le_of_ble_eq_true rfl) (Nat.le_of_ble_eq_true rfl)
set_option maxHeartbeats 4000000 in
set_option maxRecDepth 100000 in
theorem jX12_mayBe_54 {X : VX} {E : VE} {l : Launch} (h0 : Nat) (a0 : Nat → Nat)  (Q : Int32 → Md → Prop) (C : VC X cX12_mayBe 7 RX12 (rmL 1 0 0) E l) (hret : RetI X cX12_mayBe .boolean 0 0 (fun (U : Md) => [wX12 E h0 a0 U].flatten) (fun (r : Int32) (U : Md) => (r = 0 ∨ r = 1) ∧ Q r U)) (K6 : Md → Int32 → Int32 → Int32 → Int32 → Int32 → Prop) (hK6 : ∀ (u0 : Md) (y1 : Int32) (y2 : Int32) (y3 : Int32) (y4 : Int32) (y5 : Int32), K6 u0 y1 y2 y3 y4 y5 → VV X 0 0 ([wX12 E h0 a0 u0].flatten) [(0, .ref h0), (1, .int y1), (2, .int y2), (3, .int y3), (4, .int y4), (5, .int y5)] 6 []) : ∀ (u0 : Md) (y1 : Int32) (y2 : Int32) (y3 : Int32) (y4 : Int32) (y5 : Int32) (y6 : Int32), qX12_mayBe_54 Q K6 u0 y1 y2 y3 y4 y5 y6 → VV X 0 0 ([wX12 E h0 a0 u0].flatten) [(0, .ref h0), (1, .int y1), (2, .int y2), (3, .int y3), (4, .int y4), (5, .int y5), (6, .int y6)] 54 [] := by
  intro u0 y1 y2 y3 y4 y5 y6 hw
  unfold qX12_mayBe_54 at hw
  refine v_iload C dX12_mayBe_54 6 rfl ?_
  refine v_if_eq (tgt := 83) C dX12_mayBe_56 (by decide) (fun hc => ?_) (fun hc => ?_)
  · have hw := hw.1 hc
    refine v_iinc (lv' := [(5, .int (y5 + Int32.ofInt 1)), (0, .ref h0), (1, .int y1), (2, .int y2), (3, .int y3), (4, .int y4), (6, .int y6)]) C dX12_mayBe_83 5 rfl (by decide) rfl ?_
    refine v_goto (tgt := 6) C dX12_mayBe_86 (by decide) ?_
    refine v_lv C (lv' := [(0, .ref h0), (1, .int y1), (2, .int y2), (3, .int y3), (4, .int y4), (5, .int (y5 + Int32.ofInt 1))]) [1, 2, 3, 4, 5, 0] rfl ?_
    exact hK6 u0 y1 y2 y3 y4 (y5 + Int32.ofInt 1) hw
  · have hw := hw.2 hc
    refine v_aload_n C dX12_mayBe_59 0 rfl ?_
    refine v_get (ci := 12) C inT12 0 32 rfl rfl (by decide) mF_X12_71_X12_32 rfl dX12_mayBe_60 ?_
    refine v_iload C dX12_mayBe_63 5 rfl ?_
    obtain ⟨hi65, hw⟩ := hw
    refine v_iald C 19 rfl hi65 dX12_mayBe_65 ?_
    refine v_iconst (v := (-1)) C dX12_mayBe_66 (by decide) ?_
    refine v_icmp_eq (tgt := 83) C dX12_mayBe_67 (by decide) (fun hc => ?_) (fun hc => ?_)
    · have hw := hw.1 hc
      refine v_iinc (lv' := [(5, .int (y5 + Int32.ofInt 1)), (0, .ref h0), (1, .int y1), (2, .int y2), (3, .int y3), (4, .int y4), (6, .int y6)]) C dX12_mayBe_83 5 rfl (by decide) rfl ?_
      refine v_goto (tgt := 6) C dX12_mayBe_86 (by decide) ?_
      refine v_lv C (lv' := [(0, .ref h0), (1, .int y1), (2, .int y2), (3, .int y3), (4, .int y4), (5, .int (y5 + Int32.ofInt 1))]) [1, 2, 3, 4, 5, 0] rfl ?_
      exact hK6 u0 y1 y2 y3 y4 (y5 + Int32.ofInt 1) hw
    · have hw := hw.2 hc
      refine v_aload_n C dX12_mayBe_70 0 rfl ?_
      refine v_get (ci := 12) C inT12 0 32 rfl rfl (by decide) mF_X12_71_X12_32 rfl dX12_mayBe_71 ?_
      refine v_iload C dX12_mayBe_74 5 rfl ?_
      obtain ⟨hi76, hw⟩ := hw
      refine v_iald C 19 rfl hi76 dX12_mayBe_76 ?_
      refine v_iload_n C dX12_mayBe_77 2 rfl ?_
      refine v_icmp_eq (tgt := 83) C dX12_mayBe_78 (by decide) (fun hc => ?_) (fun hc => ?_)
      · have hw := hw.1 hc
        refine v_iinc (lv' := [(5, .int (y5 + Int32.ofInt 1)), (0, .ref h0), (1, .int y1), (2, .int y2), (3, .int y3), (4, .int y4), (6, .int y6)]) C dX12_mayBe_83 5 rfl (by decide) rfl ?_
        refine v_goto (tgt := 6) C dX12_mayBe_86 (by decide) ?_
        refine v_lv C (lv' := [(0, .ref h0), (1, .int y1), (2, .int y2), (3, .int y3), (4, .int y4), (5, .int (y5 + Int32.ofInt 1))]) [1, 2, 3, 4, 5, 0] rfl ?_
        exact hK6 u0 y1 y2 y3 y4 (y5 + Int32.ofInt 1) hw
      · have hw := hw.2 hc
        refine v_iconst (v := 0) C dX12_mayBe_81 (by decide) ?_
        exact hret _ _ _ _ 0 u0 dX12_mayBe_82 rfl ⟨Or.inl rfl, hw⟩ (Nat.le_of_ble_eq_true rfl) (Nat.le_of_ble_eq_true rfl)
set_option maxHeartbeats 4000000 in
set_option maxRecDepth 100000 in
theorem jX12_mayBe_30 {X : VX} {E : VE} {l : Launch} (h0 : Nat) (a0 : Nat → Nat)  (Q : Int32 → Md → Prop) (C : VC X cX12_mayBe 7 RX12 (rmL 1 0 0) E l) (hret : RetI X cX12_mayBe .boolean 0 0 (fun (U : Md) => [wX12 E h0 a0 U].flatten) (fun (r : Int32) (U : Md) => (r = 0 ∨ r = 1) ∧ Q r U)) (K6 : Md → Int32 → Int32 → Int32 → Int32 → Int32 → Prop) (hK6 : ∀ (u0 : Md) (y1 : Int32) (y2 : Int32) (y3 : Int32) (y4 : Int32) (y5 : Int32), K6 u0 y1 y2 y3 y4 y5 → VV X 0 0 ([wX12 E h0 a0 u0].flatten) [(0, .ref h0), (1, .int y1), (2, .int y2), (3, .int y3), (4, .int y4), (5, .int y5)] 6 []) : ∀ (u0 : Md) (y1 : Int32) (y2 : Int32) (y3 : Int32) (y4 : Int32) (y5 : Int32) (z0 : Int32), qX12_mayBe_30 Q K6 u0 y1 y2 y3 y4 y5 z0 → VV X 0 0 ([wX12 E h0 a0 u0].flatten) [(0, .ref h0), (1, .int y1), (2, .int y2), (3, .int y3), (4, .int y4), (5, .int y5)] 30 [.int z0] := by
  intro u0 y1 y2 y3 y4 y5 z0 hw
  unfold qX12_mayBe_30 at hw
  refine v_istore (lv' := [(6, .int z0), (0, .ref h0), (1, .int y1), (2, .int y2), (3, .int y3), (4, .int y4), (5, .int y5)]) C dX12_mayBe_30 (by decide) rfl ?_
  refine v_iload C dX12_mayBe_32 0 rfl ?_
  refine v_if_eq (tgt := 54) C dX12_mayBe_34 (by decide) (fun hc => ?_) (fun hc => ?_)
  · have hw := hw.1 hc
    refine v_lv C (lv' := [(0, .ref h0), (1, .int y1), (2, .int y2), (3, .int y3), (4, .int y4), (5, .int y5), (6, .int z0)]) [1, 2, 3, 4, 5, 6, 0] rfl ?_
    exact jX12_mayBe_54 h0 a0 Q C hret K6 hK6 u0 y1 y2 y3 y4 y5 z0 hw
  · have hw := hw.2 hc
    refine v_iload C dX12_mayBe_37 5 rfl ?_
    refine v_aload_n C dX12_mayBe_39 1 rfl ?_
    refine v_aload_n C dX12_mayBe_40 1 rfl ?_
    refine v_get (ci := 12) C inT12 0 29 rfl rfl (by decide) mF_X12_65_X12_29 rfl dX12_mayBe_41 ?_
    refine v_iload C dX12_mayBe_44 6 rfl ?_
    obtain ⟨hi46, hw⟩ := hw
    refine v_iald C 17 rfl hi46 dX12_mayBe_46 ?_
    refine v_iconst (v := 1) C dX12_mayBe_47 (by decide) ?_
    refine v_callFi (st := [.int y4]) (ci := 12) (qb := 0) C (kX12_signIs h0 a0 _ _ _ hw) mM_X12_403 mI_X12 mC_X12_signIs mN_X12_signIs mS_X12_signIs rfl rfl hd_X12_signIs ⟨Nat.le_of_ble_eq_true rfl, Nat.le_of_ble_eq_true rfl⟩ ⟨Nat.le_of_ble_eq_true rfl, Nat.le_of_ble_eq_true rfl⟩ rfl (Nat.le_of_ble_eq_true rfl) dX12_mayBe_48 (fun r48 v48_0 hw => ?_)
    refine v_iadd C dX12_mayBe_51 ?_
    refine v_istore (lv' := [(4, .int (y4 + r48)), (6, .int z0), (0, .ref h0), (1, .int y1), (2, .int y2), (3, .int y3), (5, .int y5)]) C dX12_mayBe_52 (by decide) rfl ?_
    refine v_lv C (lv' := [(0, .ref h0), (1, .int y1), (2, .int y2), (3, .int y3), (4, .int (y4 + r48)), (5, .int y5), (6, .int z0)]) [2, 3, 4, 5, 0, 6, 1] rfl ?_
    exact jX12_mayBe_54 h0 a0 Q C hret K6 hK6 v48_0 y1 y2 y3 (y4 + r48) y5 z0 hw
set_option maxHeartbeats 4000000 in
set_option maxRecDepth 100000 in
theorem jX12_mayBe_6 {X : VX} {E : VE} {l : Launch} (h0 : Nat) (a0 : Nat → Nat)  (Q : Int32 → Md → Prop) (C : VC X cX12_mayBe 7 RX12 (rmL 1 0 0) E l) (hret : RetI X cX12_mayBe .boolean 0 0 (fun (U : Md) => [wX12 E h0 a0 U].flatten) (fun (r : Int32) (U : Md) => (r = 0 ∨ r = 1) ∧ Q r U))  : ∀ (n : Nat), ∀ (u0 : Md) (y1 : Int32) (y2 : Int32) (y3 : Int32) (y4 : Int32) (y5 : Int32), qX12_mayBe_6 Q n u0 y1 y2 y3 y4 y5 → VV X 0 0 ([wX12 E h0 a0 u0].flatten) [(0, .ref h0), (1, .int y1), (2, .int y2), (3, .int y3), (4, .int y4), (5, .int y5)] 6 [] := by
  intro n
  induction n with
  | zero =>
    intro u0 y1 y2 y3 y4 y5 hw
    exact hw.elim
  | succ n ih =>
    intro u0 y1 y2 y3 y4 y5 hw
    unfold qX12_mayBe_6 at hw
    refine v_iload C dX12_mayBe_6 5 rfl ?_
    refine v_aload_n C dX12_mayBe_8 0 rfl ?_
    refine v_get (ci := 12) C inT12 0 30 rfl rfl (by decide) mF_X12_417_X12_30 rfl dX12_mayBe_9 ?_
    refine v_icmp_ge (tgt := 89) C dX12_mayBe_12 (by decide) (fun hc => ?_) (fun hc => ?_)
    · have hw := hw.1 hc
      refine v_iload C dX12_mayBe_89 4 rfl ?_
      refine v_iload_n C dX12_mayBe_91 3 rfl ?_
      refine v_icmp_gt (tgt := 99) C dX12_mayBe_92 (by decide) (fun hc => ?_) (fun hc => ?_)
      · have hw := hw.1 hc
        refine v_iconst (v := 0) C dX12_mayBe_99 (by decide) ?_
        exact hret _ _ _ _ 0 u0 dX12_mayBe_100 rfl ⟨Or.inl rfl, hw⟩ (Nat.le_of_ble_eq_true rfl) (Nat.le_of_ble_eq_true rfl)
      · have hw := hw.2 hc
        refine v_iconst (v := 1) C dX12_mayBe_95 (by decide) ?_
        refine v_goto (tgt := 100) C dX12_mayBe_96 (by decide) ?_
        exact hret _ _ _ _ 1 u0 dX12_mayBe_100 rfl ⟨Or.inr rfl, hw⟩ (Nat.le_of_ble_eq_true rfl) (Nat.le_of_ble_eq_true rfl)
    · have hw := hw.2 hc
      refine v_iload_n C dX12_mayBe_15 1 rfl ?_
      refine v_iload C dX12_mayBe_16 5 rfl ?_
      refine v_ishr C dX12_mayBe_18 ?_
      refine v_iconst (v := 1) C dX12_mayBe_19 (by decide) ?_
      refine v_iand C dX12_mayBe_20 ?_
      refine v_iconst (v := 1) C dX12_mayBe_21 (by decide) ?_
      refine v_icmp_ne (tgt := 29) C dX12_mayBe_22 (by decide) (fun hc => ?_) (fun hc => ?_)
      · have hw := hw.1 hc
        refine v_iconst (v := 0) C dX12_mayBe_29 (by decide) ?_
        exact jX12_mayBe_30 h0 a0 Q C hret (qX12_mayBe_6 Q n) ih u0 y1 y2 y3 y4 y5 0 hw
      · have hw := hw.2 hc
        refine v_iconst (v := 1) C dX12_mayBe_25 (by decide) ?_
        refine v_goto (tgt := 30) C dX12_mayBe_26 (by decide) ?_
        exact jX12_mayBe_30 h0 a0 Q C hret (qX12_mayBe_6 Q n) ih u0 y1 y2 y3 y4 y5 1 hw
set_option maxHeartbeats 4000000 in
set_option maxRecDepth 100000 in
theorem kX12_mayBe {l : Launch} {E : VE} (h0 : Nat) (a0 : Nat → Nat) (u0 : Md) (x1 : Int32) (x2 : Int32) (x3 : Int32) {Q : Int32 → Md → Prop} (hw : qX12_mayBe u0 x1 x2 x3 Q) : MI l yX12_mayBe cX12_mayBe 7 .boolean 1 0 0 E [.ref h0, .int x1, .int x2, .int x3] ([wX12 E h0 a0 u0].flatten) (fun (U : Md) => [wX12 E h0 a0 U].flatten) (fun (r : Int32) (U : Md) => (r = 0 ∨ r = 1) ∧ Q r U) := by
  refine MI.of (own := RX12) (by decide) rfl (Nat.le_of_ble_eq_true rfl) ?_
  intro X C hini hret
  show VV X 0 0 ([wX12 E h0 a0 u0].flatten) [(0, .ref h0), (1, .int x1), (2, .int x2), (3, .int x3)] 0 []
  unfold qX12_mayBe at hw
  refine v_iconst (v := 0) C dX12_mayBe_0 (by decide) ?_
  refine v_istore (lv' := [(4, .int 0), (0, .ref h0), (1, .int x1), (2, .int x2), (3, .int x3)]) C dX12_mayBe_1 (by decide) rfl ?_
  refine v_iconst (v := 0) C dX12_mayBe_3 (by decide) ?_
  refine v_istore (lv' := [(5, .int 0), (4, .int 0), (0, .ref h0), (1, .int x1), (2, .int x2), (3, .int x3)]) C dX12_mayBe_4 (by decide) rfl ?_
  refine v_lv C (lv' := [(0, .ref h0), (1, .int x1), (2, .int x2), (3, .int x3), (4, .int 0), (5, .int 0)]) [2, 3, 4, 5, 1, 0] rfl ?_
  obtain ⟨n', hw⟩ := hw
  exact jX12_mayBe_6 h0 a0 Q C hret n' u0 x1 x2 x3 0 0 hw
set_option maxHeartbeats 4000000 in
set_option maxRecDepth 100000 in
theorem jX12_bits_4 {X : VX} {E : VE} {l : Launch} (h0 : Nat)  (Q : Int32 → Prop) (C : VC X cX12_bits 4 RX12 (rmL 0 0 0) E l) (hret : RetI X cX12_bits .int 0 0 (fun (_ : Unit) => ([] : va_W)) (fun (r : Int32) (_ : Unit) => Q r))  : ∀ (n : Nat), ∀ (y1 : Int32) (y2 : Int32) (y3 : Int32), qX12_bits_4 Q n y1 y2 y3 → VV X 0 0 ([]) [(1, .int y1), (2, .int y2), (3, .int y3)] 4 [] := by
  intro n
  induction n with
  | zero =>
    intro y1 y2 y3 hw
    exact hw.elim
  | succ n ih =>
    intro y1 y2 y3 hw
    unfold qX12_bits_4 at hw
    refine v_iload_n C dX12_bits_4 2 rfl ?_
    refine v_bipush (v := 9) C dX12_bits_5 (by decide) ?_
    refine v_icmp_ge (tgt := 24) C dX12_bits_7 (by decide) (fun hc => ?_) (fun hc => ?_)
    · have hw := hw.1 hc
      refine v_iload_n C dX12_bits_24 1 rfl ?_
      exact hret _ _ _ _ y2 () dX12_bits_25 rfl hw (Nat.le_of_ble_eq_true rfl) (Nat.le_of_ble_eq_true rfl)
    · have hw := hw.2 hc
      refine v_iload_n C dX12_bits_10 1 rfl ?_
      refine v_iload_n C dX12_bits_11 0 rfl ?_
      refine v_iload_n C dX12_bits_12 2 rfl ?_
      refine v_ishr C dX12_bits_13 ?_
      refine v_iconst (v := 1) C dX12_bits_14 (by decide) ?_
      refine v_iand C dX12_bits_15 ?_
      refine v_iadd C dX12_bits_16 ?_
      refine v_istore_n (lv' := [(2, .int (y2 + ((y1 >>> (y3 &&& 31)) &&& 1))), (1, .int y1), (3, .int y3)]) C dX12_bits_17 (by decide) rfl ?_
      refine v_iinc (lv' := [(3, .int (y3 + Int32.ofInt 1)), (2, .int (y2 + ((y1 >>> (y3 &&& 31)) &&& 1))), (1, .int y1)]) C dX12_bits_18 2 rfl (by decide) rfl ?_
      refine v_goto (tgt := 4) C dX12_bits_21 (by decide) ?_
      refine v_lv C (lv' := [(1, .int y1), (2, .int (y2 + ((y1 >>> (y3 &&& 31)) &&& 1))), (3, .int (y3 + Int32.ofInt 1))]) [2, 1, 0] rfl ?_
      exact ih y1 (y2 + ((y1 >>> (y3 &&& 31)) &&& 1)) (y3 + Int32.ofInt 1) hw
set_option maxHeartbeats 4000000 in
set_option maxRecDepth 100000 in
theorem kX12_bits {l : Launch} {E : VE} (h0 : Nat) (x1 : Int32) {Q : Int32 → Prop} (hw : qX12_bits x1 Q) : MI l yX12_bits cX12_bits 4 .int 0 0 0 E [.ref h0, .int x1] ([]) (fun (_ : Unit) => ([] : va_W)) (fun (r : Int32) (_ : Unit) => Q r) := by
  refine MI.of (own := RX12) (by decide) rfl (Nat.le_of_ble_eq_true rfl) ?_
  intro X C hini hret
  show VV X 0 0 ([]) [(0, .ref h0), (1, .int x1)] 0 []
  unfold qX12_bits at hw
  refine v_iconst (v := 0) C dX12_bits_0 (by decide) ?_
  refine v_istore_n (lv' := [(2, .int 0), (0, .ref h0), (1, .int x1)]) C dX12_bits_1 (by decide) rfl ?_
  refine v_iconst (v := 0) C dX12_bits_2 (by decide) ?_
  refine v_istore_n (lv' := [(3, .int 0), (2, .int 0), (0, .ref h0), (1, .int x1)]) C dX12_bits_3 (by decide) rfl ?_
  refine v_lv C (lv' := [(1, .int x1), (2, .int 0), (3, .int 0)]) [3, 1, 0] rfl ?_
  obtain ⟨n', hw⟩ := hw
  exact jX12_bits_4 h0 Q C hret n' x1 0 0 hw
set_option maxHeartbeats 4000000 in
set_option maxRecDepth 100000 in
theorem jX12_leastOf_161 {X : VX} {E : VE} {l : Launch} (h0 : Nat) (a0 : Nat → Nat)  (Q : Int32 → Md → Prop) (C : VC X cX12_leastOf 7 RX12 (rmL 2 0 0) E l) (hret : RetI X cX12_leastOf .int 0 0 (fun (U : Md) => [wX12 E h0 a0 U].flatten) (fun (r : Int32) (U : Md) => Q r U)) (K46 : Md → Int32 → Int32 → Int32 → Prop) (K83 : Md → Int32 → Int32 → Int32 → Int32 → Prop) (K110 : Md → Int32 → Int32 → Int32 → Int32 → Int32 → Int32 → Prop) (hK46 : ∀ (u0 : Md) (y1 : Int32) (y2 : Int32) (y3 : Int32), K46 u0 y1 y2 y3 → VV X 0 0 ([wX12 E h0 a0 u0].flatten) [(0, .ref h0), (1, .int y1), (2, .int y2), (3, .int y3)] 46 []) (hK83 : ∀ (u0 : Md) (y1 : Int32) (y2 : Int32) (y3 : Int32) (y4 : Int32), K83 u0 y1 y2 y3 y4 → VV X 0 0 ([wX12 E h0 a0 u0].flatten) [(0, .ref h0), (1, .int y1), (2, .int y2), (3, .int y3), (4, .int y4)] 83 []) (hK110 : ∀ (u0 : Md) (y1 : Int32) (y2 : Int32) (y3 : Int32) (y4 : Int32) (y5 : Int32) (y6 : Int32), K110 u0 y1 y2 y3 y4 y5 y6 → VV X 0 0 ([wX12 E h0 a0 u0].flatten) [(0, .ref h0), (1, .int y1), (2, .int y2), (3, .int y3), (4, .int y4), (5, .int y5), (6, .int y6)] 110 []) : ∀ (u0 : Md) (y1 : Int32) (y2 : Int32) (y3 : Int32) (y4 : Int32) (y5 : Int32) (y6 : Int32), qX12_leastOf_161 Q K46 K83 K110 u0 y1 y2 y3 y4 y5 y6 → VV X 0 0 ([wX12 E h0 a0 u0].flatten) [(0, .ref h0), (1, .int y1), (2, .int y2), (3, .int y3), (4, .int y4), (5, .int y5), (6, .int y6)] 161 [] := by
  intro u0 y1 y2 y3 y4 y5 y6 hw
  unfold qX12_leastOf_161 at hw
  refine v_iload C dX12_leastOf_161 6 rfl ?_
  refine v_iconst (v := 1) C dX12_leastOf_163 (by decide) ?_
  refine v_isub C dX12_leastOf_164 ?_
  refine v_iload C dX12_leastOf_165 4 rfl ?_
  refine v_iand C dX12_leastOf_167 ?_
  refine v_istore (lv' := [(6, .int ((y6 - 1) &&& y4)), (0, .ref h0), (1, .int y1), (2, .int y2), (3, .int y3), (4, .int y4), (5, .int y5)]) C dX12_leastOf_168 (by decide) rfl ?_
  refine v_goto (tgt := 110) C dX12_leastOf_170 (by decide) ?_
  refine v_lv C (lv' := [(0, .ref h0), (1, .int y1), (2, .int y2), (3, .int y3), (4, .int y4), (5, .int y5), (6, .int ((y6 - 1) &&& y4))]) [1, 2, 3, 4, 5, 6, 0] rfl ?_
  exact hK110 u0 y1 y2 y3 y4 y5 ((y6 - 1) &&& y4) hw
set_option maxHeartbeats 4000000 in
set_option maxRecDepth 100000 in
theorem jX12_leastOf_110 {X : VX} {E : VE} {l : Launch} (h0 : Nat) (a0 : Nat → Nat)  (Q : Int32 → Md → Prop) (C : VC X cX12_leastOf 7 RX12 (rmL 2 0 0) E l) (hret : RetI X cX12_leastOf .int 0 0 (fun (U : Md) => [wX12 E h0 a0 U].flatten) (fun (r : Int32) (U : Md) => Q r U)) (K46 : Md → Int32 → Int32 → Int32 → Prop) (K83 : Md → Int32 → Int32 → Int32 → Int32 → Prop) (hK46 : ∀ (u0 : Md) (y1 : Int32) (y2 : Int32) (y3 : Int32), K46 u0 y1 y2 y3 → VV X 0 0 ([wX12 E h0 a0 u0].flatten) [(0, .ref h0), (1, .int y1), (2, .int y2), (3, .int y3)] 46 []) (hK83 : ∀ (u0 : Md) (y1 : Int32) (y2 : Int32) (y3 : Int32) (y4 : Int32), K83 u0 y1 y2 y3 y4 → VV X 0 0 ([wX12 E h0 a0 u0].flatten) [(0, .ref h0), (1, .int y1), (2, .int y2), (3, .int y3), (4, .int y4)] 83 []) : ∀ (n : Nat), ∀ (u0 : Md) (y1 : Int32) (y2 : Int32) (y3 : Int32) (y4 : Int32) (y5 : Int32) (y6 : Int32), qX12_leastOf_110 Q K46 K83 n u0 y1 y2 y3 y4 y5 y6 → VV X 0 0 ([wX12 E h0 a0 u0].flatten) [(0, .ref h0), (1, .int y1), (2, .int y2), (3, .int y3), (4, .int y4), (5, .int y5), (6, .int y6)] 110 [] := by
  intro n
  induction n with
  | zero =>
    intro u0 y1 y2 y3 y4 y5 y6 hw
    exact hw.elim
  | succ n ih =>
    intro u0 y1 y2 y3 y4 y5 y6 hw
    unfold qX12_leastOf_110 at hw
    refine v_iload C dX12_leastOf_110 6 rfl ?_
    refine v_if_le (tgt := 173) C dX12_leastOf_112 (by decide) (fun hc => ?_) (fun hc => ?_)
    · have hw := hw.1 hc
      refine v_aload_n C dX12_leastOf_173 0 rfl ?_
      refine v_get (ci := 12) C inT12 0 31 rfl rfl (by decide) mF_X12_68_X12_31 rfl dX12_leastOf_174 ?_
      refine v_sipush (v := 512) C dX12_leastOf_177 (by decide) ?_
      refine v_iload_n C dX12_leastOf_180 3 rfl ?_
      refine v_imul C dX12_leastOf_181 ?_
      refine v_iload C dX12_leastOf_182 4 rfl ?_
      refine v_iadd C dX12_leastOf_184 ?_
      refine v_iload C dX12_leastOf_185 5 rfl ?_
      obtain ⟨hi187, hw⟩ := hw
      obtain ⟨w187, e187⟩ : ∃ z : Md, z = tA u0 31 ((512 * y3) + y4) y5 := ⟨_, rfl⟩
      have hw := hw w187 e187
      refine v_iast (ws' := [wX12 E h0 a0 w187].flatten) C 18 rfl hi187 (by rw [e187]; rfl) dX12_leastOf_187 ?_
      refine v_iinc (lv' := [(4, .int (y4 + Int32.ofInt 1)), (0, .ref h0), (1, .int y1), (2, .int y2), (3, .int y3), (5, .int y5), (6, .int y6)]) C dX12_leastOf_188 4 rfl (by decide) rfl ?_
      refine v_goto (tgt := 83) C dX12_leastOf_191 (by decide) ?_
      refine v_lv C (lv' := [(0, .ref h0), (1, .int y1), (2, .int y2), (3, .int y3), (4, .int (y4 + Int32.ofInt 1))]) [1, 2, 3, 4, 0] rfl ?_
      exact hK83 w187 y1 y2 y3 (y4 + Int32.ofInt 1) hw
    · have hw := hw.2 hc
      refine v_aload_n C dX12_leastOf_115 0 rfl ?_
      refine v_get (ci := 12) C inT12 0 35 rfl rfl (by decide) mF_X12_77_X12_35 rfl dX12_leastOf_116 ?_
      refine v_iload C dX12_leastOf_119 6 rfl ?_
      obtain ⟨hi121, hw⟩ := hw
      refine v_zald C 21 rfl hi121 dX12_leastOf_121 ?_
      refine v_if_eq (tgt := 161) C dX12_leastOf_122 (by decide) (fun hc => ?_) (fun hc => ?_)
      · have hw := hw.1 hc
        exact jX12_leastOf_161 h0 a0 Q C hret K46 K83 (qX12_leastOf_110 Q K46 K83 n) hK46 hK83 ih u0 y1 y2 y3 y4 y5 y6 hw
      · have hw := hw.2 hc
        refine v_iload C dX12_leastOf_125 5 rfl ?_
        refine v_iload_n C dX12_leastOf_127 3 rfl ?_
        refine v_aload_n C dX12_leastOf_128 0 rfl ?_
        refine v_iload C dX12_leastOf_129 6 rfl ?_
        refine v_callVPi (st := [.int y3, .int y5]) (ci := 12) (qb := 0) C (kX12_bits h0 _ hw) mM_X12_424 mI_X12 mC_X12_bits mN_X12_bits mS_X12_bits rfl rfl hd_X12_bits ⟨Nat.le_of_ble_eq_true rfl, Nat.le_of_ble_eq_true rfl⟩ ⟨Nat.le_of_ble_eq_true rfl, Nat.le_of_ble_eq_true rfl⟩ rfl (Nat.le_of_ble_eq_true rfl) dX12_leastOf_131 (fun r131 U131 hw => ?_)
        refine v_imul C dX12_leastOf_134 ?_
        refine v_aload_n C dX12_leastOf_135 0 rfl ?_
        refine v_get (ci := 12) C inT12 0 31 rfl rfl (by decide) mF_X12_68_X12_31 rfl dX12_leastOf_136 ?_
        refine v_sipush (v := 512) C dX12_leastOf_139 (by decide) ?_
        refine v_iload_n C dX12_leastOf_142 3 rfl ?_
        refine v_iconst (v := 1) C dX12_leastOf_143 (by decide) ?_
        refine v_iadd C dX12_leastOf_144 ?_
        refine v_imul C dX12_leastOf_145 ?_
        refine v_iload C dX12_leastOf_146 4 rfl ?_
        refine v_iload C dX12_leastOf_148 6 rfl ?_
        refine v_iconst (v := (-1)) C dX12_leastOf_150 (by decide) ?_
        refine v_ixor C dX12_leastOf_151 ?_
        refine v_iand C dX12_leastOf_152 ?_
        refine v_iadd C dX12_leastOf_153 ?_
        obtain ⟨hi154, hw⟩ := hw
        refine v_iald C 18 rfl hi154 dX12_leastOf_154 ?_
        refine v_iadd C dX12_leastOf_155 ?_
        refine v_imin C mM_X12_163 ⟨Nat.le_of_ble_eq_true rfl, Nat.le_of_ble_eq_true rfl, Nat.le_of_ble_eq_true rfl, Nat.le_of_ble_eq_true rfl⟩ dX12_leastOf_156 ?_
        refine v_istore (lv' := [(5, .int (imin y5 ((y3 * r131) + (gA u0 31 ((512 * (y3 + 1)) + (y4 &&& (y6 ^^^ ((-1))))).toNatClampNeg)))), (0, .ref h0), (1, .int y1), (2, .int y2), (3, .int y3), (4, .int y4), (6, .int y6)]) C dX12_leastOf_159 (by decide) rfl ?_
        refine v_lv C (lv' := [(0, .ref h0), (1, .int y1), (2, .int y2), (3, .int y3), (4, .int y4), (5, .int (imin y5 ((y3 * r131) + (gA u0 31 ((512 * (y3 + 1)) + (y4 &&& (y6 ^^^ ((-1))))).toNatClampNeg)))), (6, .int y6)]) [1, 2, 3, 4, 5, 0, 6] rfl ?_
        exact jX12_leastOf_161 h0 a0 Q C hret K46 K83 (qX12_leastOf_110 Q K46 K83 n) hK46 hK83 ih u0 y1 y2 y3 y4 (imin y5 ((y3 * r131) + (gA u0 31 ((512 * (y3 + 1)) + (y4 &&& (y6 ^^^ ((-1))))).toNatClampNeg))) y6 hw
set_option maxHeartbeats 4000000 in
set_option maxRecDepth 100000 in
theorem jX12_leastOf_83 {X : VX} {E : VE} {l : Launch} (h0 : Nat) (a0 : Nat → Nat)  (Q : Int32 → Md → Prop) (C : VC X cX12_leastOf 7 RX12 (rmL 2 0 0) E l) (hret : RetI X cX12_leastOf .int 0 0 (fun (U : Md) => [wX12 E h0 a0 U].flatten) (fun (r : Int32) (U : Md) => Q r U)) (K46 : Md → Int32 → Int32 → Int32 → Prop) (hK46 : ∀ (u0 : Md) (y1 : Int32) (y2 : Int32) (y3 : Int32), K46 u0 y1 y2 y3 → VV X 0 0 ([wX12 E h0 a0 u0].flatten) [(0, .ref h0), (1, .int y1), (2, .int y2), (3, .int y3)] 46 []) : ∀ (n : Nat), ∀ (u0 : Md) (y1 : Int32) (y2 : Int32) (y3 : Int32) (y4 : Int32), qX12_leastOf_83 Q K46 n u0 y1 y2 y3 y4 → VV X 0 0 ([wX12 E h0 a0 u0].flatten) [(0, .ref h0), (1, .int y1), (2, .int y2), (3, .int y3), (4, .int y4)] 83 [] := by
  intro n
  induction n with
  | zero =>
    intro u0 y1 y2 y3 y4 hw
    exact hw.elim
  | succ n ih =>
    intro u0 y1 y2 y3 y4 hw
    unfold qX12_leastOf_83 at hw
    refine v_iload C dX12_leastOf_83 4 rfl ?_
    refine v_iload_n C dX12_leastOf_85 2 rfl ?_
    refine v_icmp_gt (tgt := 194) C dX12_leastOf_86 (by decide) (fun hc => ?_) (fun hc => ?_)
    · have hw := hw.1 hc
      refine v_iinc (lv' := [(3, .int (y3 + Int32.ofInt (-1))), (0, .ref h0), (1, .int y1), (2, .int y2), (4, .int y4)]) C dX12_leastOf_194 3 rfl (by decide) rfl ?_
      refine v_goto (tgt := 46) C dX12_leastOf_197 (by decide) ?_
      refine v_lv C (lv' := [(0, .ref h0), (1, .int y1), (2, .int y2), (3, .int (y3 + Int32.ofInt (-1)))]) [1, 2, 3, 0] rfl ?_
      exact hK46 u0 y1 y2 (y3 + Int32.ofInt (-1)) hw
    · have hw := hw.2 hc
      refine v_aload_n C dX12_leastOf_89 0 rfl ?_
      refine v_get (ci := 12) C inT12 0 31 rfl rfl (by decide) mF_X12_68_X12_31 rfl dX12_leastOf_90 ?_
      refine v_sipush (v := 512) C dX12_leastOf_93 (by decide) ?_
      refine v_iload_n C dX12_leastOf_96 3 rfl ?_
      refine v_iconst (v := 1) C dX12_leastOf_97 (by decide) ?_
      refine v_iadd C dX12_leastOf_98 ?_
      refine v_imul C dX12_leastOf_99 ?_
      refine v_iload C dX12_leastOf_100 4 rfl ?_
      refine v_iadd C dX12_leastOf_102 ?_
      obtain ⟨hi103, hw⟩ := hw
      refine v_iald C 18 rfl hi103 dX12_leastOf_103 ?_
      refine v_istore (lv' := [(5, .int (gA u0 31 ((512 * (y3 + 1)) + y4).toNatClampNeg)), (0, .ref h0), (1, .int y1), (2, .int y2), (3, .int y3), (4, .int y4)]) C dX12_leastOf_104 (by decide) rfl ?_
      refine v_iload C dX12_leastOf_106 5 rfl ?_
      refine v_istore (lv' := [(6, .int y4), (5, .int (gA u0 31 ((512 * (y3 + 1)) + y4).toNatClampNeg)), (0, .ref h0), (1, .int y1), (2, .int y2), (3, .int y3), (4, .int y4)]) C dX12_leastOf_108 (by decide) rfl ?_
      refine v_lv C (lv' := [(0, .ref h0), (1, .int y1), (2, .int y2), (3, .int y3), (4, .int y4), (5, .int (gA u0 31 ((512 * (y3 + 1)) + y4).toNatClampNeg)), (6, .int y4)]) [2, 3, 4, 5, 6, 1, 0] rfl ?_
      obtain ⟨n', hw⟩ := hw
      exact jX12_leastOf_110 h0 a0 Q C hret K46 (qX12_leastOf_83 Q K46 n) hK46 ih n' u0 y1 y2 y3 y4 (gA u0 31 ((512 * (y3 + 1)) + y4).toNatClampNeg) y4 hw
set_option maxHeartbeats 4000000 in
set_option maxRecDepth 100000 in
theorem jX12_leastOf_53 {X : VX} {E : VE} {l : Launch} (h0 : Nat) (a0 : Nat → Nat)  (Q : Int32 → Md → Prop) (C : VC X cX12_leastOf 7 RX12 (rmL 2 0 0) E l) (hret : RetI X cX12_leastOf .int 0 0 (fun (U : Md) => [wX12 E h0 a0 U].flatten) (fun (r : Int32) (U : Md) => Q r U)) (K46 : Md → Int32 → Int32 → Int32 → Prop) (hK46 : ∀ (u0 : Md) (y1 : Int32) (y2 : Int32) (y3 : Int32), K46 u0 y1 y2 y3 → VV X 0 0 ([wX12 E h0 a0 u0].flatten) [(0, .ref h0), (1, .int y1), (2, .int y2), (3, .int y3)] 46 []) : ∀ (n : Nat), ∀ (u0 : Md) (y1 : Int32) (y2 : Int32) (y3 : Int32) (y4 : Int32), qX12_leastOf_53 Q K46 n u0 y1 y2 y3 y4 → VV X 0 0 ([wX12 E h0 a0 u0].flatten) [(0, .ref h0), (1, .int y1), (2, .int y2), (3, .int y3), (4, .int y4)] 53 [] := by
  intro n
  induction n with
  | zero =>
    intro u0 y1 y2 y3 y4 hw
    exact hw.elim
  | succ n ih =>
    intro u0 y1 y2 y3 y4 hw
    unfold qX12_leastOf_53 at hw
    refine v_iload C dX12_leastOf_53 4 rfl ?_
    refine v_iload_n C dX12_leastOf_55 2 rfl ?_
    refine v_icmp_gt (tgt := 80) C dX12_leastOf_56 (by decide) (fun hc => ?_) (fun hc => ?_)
    · have hw := hw.1 hc
      refine v_iconst (v := 0) C dX12_leastOf_80 (by decide) ?_
      refine v_istore (lv' := [(4, .int 0), (0, .ref h0), (1, .int y1), (2, .int y2), (3, .int y3)]) C dX12_leastOf_81 (by decide) rfl ?_
      refine v_lv C (lv' := [(0, .ref h0), (1, .int y1), (2, .int y2), (3, .int y3), (4, .int 0)]) [1, 2, 3, 4, 0] rfl ?_
      obtain ⟨n', hw⟩ := hw
      exact jX12_leastOf_83 h0 a0 Q C hret K46 hK46 n' u0 y1 y2 y3 0 hw
    · have hw := hw.2 hc
      refine v_aload_n C dX12_leastOf_59 0 rfl ?_
      refine v_get (ci := 12) C inT12 0 35 rfl rfl (by decide) mF_X12_77_X12_35 rfl dX12_leastOf_60 ?_
      refine v_iload C dX12_leastOf_63 4 rfl ?_
      refine v_aload_n C dX12_leastOf_65 0 rfl ?_
      refine v_iload C dX12_leastOf_66 4 rfl ?_
      refine v_iload_n C dX12_leastOf_68 3 rfl ?_
      refine v_iload_n C dX12_leastOf_69 1 rfl ?_
      refine v_callFi (st := [.int y4, .ref ((a0 35))]) (ci := 12) (qb := 0) C (kX12_mayBe h0 a0 _ _ _ _ hw) mM_X12_421 mI_X12 mC_X12_mayBe mN_X12_mayBe mS_X12_mayBe rfl rfl hd_X12_mayBe ⟨Nat.le_of_ble_eq_true rfl, Nat.le_of_ble_eq_true rfl⟩ ⟨Nat.le_of_ble_eq_true rfl, Nat.le_of_ble_eq_true rfl⟩ rfl (Nat.le_of_ble_eq_true rfl) dX12_leastOf_70 (fun r70 v70_0 hw => ?_)
      obtain ⟨h01_70, hw⟩ := hw
      have hw := hw h01_70
      obtain ⟨hi73, hw⟩ := hw
      obtain ⟨w73, e73⟩ : ∃ z : Md, z = tZ v70_0 35 y4 r70 := ⟨_, rfl⟩
      have hw := hw w73 e73
      refine v_zast (ws' := [wX12 E h0 a0 w73].flatten) C 21 rfl hi73 (by rw [e73]; rfl) dX12_leastOf_73 ?_
      refine v_iinc (lv' := [(4, .int (y4 + Int32.ofInt 1)), (0, .ref h0), (1, .int y1), (2, .int y2), (3, .int y3)]) C dX12_leastOf_74 4 rfl (by decide) rfl ?_
      refine v_goto (tgt := 53) C dX12_leastOf_77 (by decide) ?_
      refine v_lv C (lv' := [(0, .ref h0), (1, .int y1), (2, .int y2), (3, .int y3), (4, .int (y4 + Int32.ofInt 1))]) [1, 2, 3, 4, 0] rfl ?_
      exact ih w73 y1 y2 y3 (y4 + Int32.ofInt 1) hw
set_option maxHeartbeats 4000000 in
set_option maxRecDepth 100000 in
theorem jX12_leastOf_46 {X : VX} {E : VE} {l : Launch} (h0 : Nat) (a0 : Nat → Nat)  (Q : Int32 → Md → Prop) (C : VC X cX12_leastOf 7 RX12 (rmL 2 0 0) E l) (hret : RetI X cX12_leastOf .int 0 0 (fun (U : Md) => [wX12 E h0 a0 U].flatten) (fun (r : Int32) (U : Md) => Q r U))  : ∀ (n : Nat), ∀ (u0 : Md) (y1 : Int32) (y2 : Int32) (y3 : Int32), qX12_leastOf_46 Q n u0 y1 y2 y3 → VV X 0 0 ([wX12 E h0 a0 u0].flatten) [(0, .ref h0), (1, .int y1), (2, .int y2), (3, .int y3)] 46 [] := by
  intro n
  induction n with
  | zero =>
    intro u0 y1 y2 y3 hw
    exact hw.elim
  | succ n ih =>
    intro u0 y1 y2 y3 hw
    unfold qX12_leastOf_46 at hw
    refine v_iload_n C dX12_leastOf_46 3 rfl ?_
    refine v_if_lt (tgt := 200) C dX12_leastOf_47 (by decide) (fun hc => ?_) (fun hc => ?_)
    · have hw := hw.1 hc
      refine v_aload_n C dX12_leastOf_200 0 rfl ?_
      refine v_get (ci := 12) C inT12 0 31 rfl rfl (by decide) mF_X12_68_X12_31 rfl dX12_leastOf_201 ?_
      refine v_iload_n C dX12_leastOf_204 2 rfl ?_
      obtain ⟨hi205, hw⟩ := hw
      refine v_iald C 18 rfl hi205 dX12_leastOf_205 ?_
      exact hret _ _ _ _ (gA u0 31 y2.toNatClampNeg) u0 dX12_leastOf_206 rfl hw (Nat.le_of_ble_eq_true rfl) (Nat.le_of_ble_eq_true rfl)
    · have hw := hw.2 hc
      refine v_iconst (v := 0) C dX12_leastOf_50 (by decide) ?_
      refine v_istore (lv' := [(4, .int 0), (0, .ref h0), (1, .int y1), (2, .int y2), (3, .int y3)]) C dX12_leastOf_51 (by decide) rfl ?_
      refine v_lv C (lv' := [(0, .ref h0), (1, .int y1), (2, .int y2), (3, .int y3), (4, .int 0)]) [1, 2, 3, 4, 0] rfl ?_
      obtain ⟨n', hw⟩ := hw
      exact jX12_leastOf_53 h0 a0 Q C hret (qX12_leastOf_46 Q n) ih n' u0 y1 y2 y3 0 hw
set_option maxHeartbeats 4000000 in
set_option maxRecDepth 100000 in
theorem jX12_leastOf_11 {X : VX} {E : VE} {l : Launch} (h0 : Nat) (a0 : Nat → Nat)  (Q : Int32 → Md → Prop) (C : VC X cX12_leastOf 7 RX12 (rmL 2 0 0) E l) (hret : RetI X cX12_leastOf .int 0 0 (fun (U : Md) => [wX12 E h0 a0 U].flatten) (fun (r : Int32) (U : Md) => Q r U))  : ∀ (n : Nat), ∀ (u0 : Md) (y1 : Int32) (y2 : Int32) (y3 : Int32), qX12_leastOf_11 Q n u0 y1 y2 y3 → VV X 0 0 ([wX12 E h0 a0 u0].flatten) [(0, .ref h0), (1, .int y1), (2, .int y2), (3, .int y3)] 11 [] := by
  intro n
  induction n with
  | zero =>
    intro u0 y1 y2 y3 hw
    exact hw.elim
  | succ n ih =>
    intro u0 y1 y2 y3 hw
    unfold qX12_leastOf_11 at hw
    refine v_iload_n C dX12_leastOf_11 3 rfl ?_
    refine v_iload_n C dX12_leastOf_12 2 rfl ?_
    refine v_icmp_gt (tgt := 43) C dX12_leastOf_13 (by decide) (fun hc => ?_) (fun hc => ?_)
    · have hw := hw.1 hc
      refine v_bipush (v := 8) C dX12_leastOf_43 (by decide) ?_
      refine v_istore_n (lv' := [(3, .int 8), (0, .ref h0), (1, .int y1), (2, .int y2)]) C dX12_leastOf_45 (by decide) rfl ?_
      refine v_lv C (lv' := [(0, .ref h0), (1, .int y1), (2, .int y2), (3, .int 8)]) [1, 2, 3, 0] rfl ?_
      obtain ⟨n', hw⟩ := hw
      exact jX12_leastOf_46 h0 a0 Q C hret n' u0 y1 y2 8 hw
    · have hw := hw.2 hc
      refine v_aload_n C dX12_leastOf_16 0 rfl ?_
      refine v_get (ci := 12) C inT12 0 31 rfl rfl (by decide) mF_X12_68_X12_31 rfl dX12_leastOf_17 ?_
      refine v_sipush (v := 4608) C dX12_leastOf_20 (by decide) ?_
      refine v_iload_n C dX12_leastOf_23 3 rfl ?_
      refine v_iadd C dX12_leastOf_24 ?_
      refine v_iload_n C dX12_leastOf_25 3 rfl ?_
      refine v_if_ne (tgt := 33) C dX12_leastOf_26 (by decide) (fun hc => ?_) (fun hc => ?_)
      · have hw := hw.1 hc
        refine v_ldcw C mK_X12_420 dX12_leastOf_33 ?_
        obtain ⟨hi36, hw⟩ := hw
        obtain ⟨w36, e36⟩ : ∃ z : Md, z = tA u0 31 (4608 + y3) 1000000 := ⟨_, rfl⟩
        have hw := hw w36 e36
        refine v_iast (ws' := [wX12 E h0 a0 w36].flatten) C 18 rfl hi36 (by rw [e36]; rfl) dX12_leastOf_36 ?_
        refine v_iinc (lv' := [(3, .int (y3 + Int32.ofInt 1)), (0, .ref h0), (1, .int y1), (2, .int y2)]) C dX12_leastOf_37 3 rfl (by decide) rfl ?_
        refine v_goto (tgt := 11) C dX12_leastOf_40 (by decide) ?_
        refine v_lv C (lv' := [(0, .ref h0), (1, .int y1), (2, .int y2), (3, .int (y3 + Int32.ofInt 1))]) [1, 2, 3, 0] rfl ?_
        exact ih w36 y1 y2 (y3 + Int32.ofInt 1) hw
      · have hw := hw.2 hc
        refine v_iconst (v := 0) C dX12_leastOf_29 (by decide) ?_
        refine v_goto (tgt := 36) C dX12_leastOf_30 (by decide) ?_
        obtain ⟨hi36, hw⟩ := hw
        obtain ⟨w36, e36⟩ : ∃ z : Md, z = tA u0 31 (4608 + y3) 0 := ⟨_, rfl⟩
        have hw := hw w36 e36
        refine v_iast (ws' := [wX12 E h0 a0 w36].flatten) C 18 rfl hi36 (by rw [e36]; rfl) dX12_leastOf_36 ?_
        refine v_iinc (lv' := [(3, .int (y3 + Int32.ofInt 1)), (0, .ref h0), (1, .int y1), (2, .int y2)]) C dX12_leastOf_37 3 rfl (by decide) rfl ?_
        refine v_goto (tgt := 11) C dX12_leastOf_40 (by decide) ?_
        refine v_lv C (lv' := [(0, .ref h0), (1, .int y1), (2, .int y2), (3, .int (y3 + Int32.ofInt 1))]) [1, 2, 3, 0] rfl ?_
        exact ih w36 y1 y2 (y3 + Int32.ofInt 1) hw
set_option maxHeartbeats 4000000 in
set_option maxRecDepth 100000 in
theorem kX12_leastOf {l : Launch} {E : VE} (h0 : Nat) (a0 : Nat → Nat) (u0 : Md) (x1 : Int32) {Q : Int32 → Md → Prop} (hw : qX12_leastOf u0 x1 Q) : MI l yX12_leastOf cX12_leastOf 7 .int 2 0 0 E [.ref h0, .int x1] ([wX12 E h0 a0 u0].flatten) (fun (U : Md) => [wX12 E h0 a0 U].flatten) (fun (r : Int32) (U : Md) => Q r U) := by
  refine MI.of (own := RX12) (by decide) rfl (Nat.le_of_ble_eq_true rfl) ?_
  intro X C hini hret
  show VV X 0 0 ([wX12 E h0 a0 u0].flatten) [(0, .ref h0), (1, .int x1)] 0 []
  unfold qX12_leastOf at hw
  refine v_iconst (v := 1) C dX12_leastOf_0 (by decide) ?_
  refine v_aload_n C dX12_leastOf_1 0 rfl ?_
  refine v_get (ci := 12) C inT12 0 30 rfl rfl (by decide) mF_X12_417_X12_30 rfl dX12_leastOf_2 ?_
  refine v_ishl C dX12_leastOf_5 ?_
  refine v_iconst (v := 1) C dX12_leastOf_6 (by decide) ?_
  refine v_isub C dX12_leastOf_7 ?_
  refine v_istore_n (lv' := [(2, .int (((1 : Int32) <<< ((gF u0 30) &&& 31)) - 1)), (0, .ref h0), (1, .int x1)]) C dX12_leastOf_8 (by decide) rfl ?_
  refine v_iconst (v := 0) C dX12_leastOf_9 (by decide) ?_
  refine v_istore_n (lv' := [(3, .int 0), (2, .int (((1 : Int32) <<< ((gF u0 30) &&& 31)) - 1)), (0, .ref h0), (1, .int x1)]) C dX12_leastOf_10 (by decide) rfl ?_
  refine v_lv C (lv' := [(0, .ref h0), (1, .int x1), (2, .int (((1 : Int32) <<< ((gF u0 30) &&& 31)) - 1)), (3, .int 0)]) [2, 3, 1, 0] rfl ?_
  obtain ⟨n', hw⟩ := hw
  exact jX12_leastOf_11 h0 a0 Q C hret n' u0 x1 (((1 : Int32) <<< ((gF u0 30) &&& 31)) - 1) 0 hw
set_option maxHeartbeats 4000000 in
set_option maxRecDepth 100000 in
theorem jX12_plan_158 {X : VX} {E : VE} {l : Launch} (h0 : Nat) (a0 : Nat → Nat)  (Q : Int32 → Md → Prop) (C : VC X cX12_plan 4 RX12 (rmL 6 0 0) E l) (hret : RetI X cX12_plan .int 0 0 (fun (U : Md) => [wX12 E h0 a0 U].flatten) (fun (r : Int32) (U : Md) => Q r U)) (K143 : Md → Int32 → Int32 → Int32 → Prop) (hK143 : ∀ (u0 : Md) (y1 : Int32) (y2 : Int32) (y3 : Int32), K143 u0 y1 y2 y3 → VV X 0 0 ([wX12 E h0 a0 u0].flatten) [(0, .ref h0), (1, .int y1), (2, .int y2), (3, .int y3)] 143 []) : ∀ (n : Nat), ∀ (u0 : Md) (y1 : Int32) (y2 : Int32) (y3 : Int32), qX12_plan_158 Q K143 n u0 y1 y2 y3 → VV X 0 0 ([wX12 E h0 a0 u0].flatten) [(0, .ref h0), (1, .int y1), (2, .int y2), (3, .int y3)] 158 [] := by
  intro n
  induction n with
  | zero =>
    intro u0 y1 y2 y3 hw
    exact hw.elim
  | succ n ih =>
    intro u0 y1 y2 y3 hw
    unfold qX12_plan_158 at hw
    refine v_aload_n C dX12_plan_158 0 rfl ?_
    refine v_iload_n C dX12_plan_159 1 rfl ?_
    refine v_callFi (st := []) (ci := 12) (qb := 0) C (kX12_leastOf h0 a0 _ _ hw) mM_X12_427 mI_X12 mC_X12_leastOf mN_X12_leastOf mS_X12_leastOf rfl rfl hd_X12_leastOf ⟨Nat.le_of_ble_eq_true rfl, Nat.le_of_ble_eq_true rfl⟩ ⟨Nat.le_of_ble_eq_true rfl, Nat.le_of_ble_eq_true rfl⟩ rfl (Nat.le_of_ble_eq_true rfl) dX12_plan_160 (fun r160 v160_0 hw => ?_)
    refine v_iload_n C dX12_plan_163 2 rfl ?_
    refine v_icmp_eq (tgt := 180) C dX12_plan_164 (by decide) (fun hc => ?_) (fun hc => ?_)
    · have hw := hw.1 hc
      refine v_aload_n C dX12_plan_180 0 rfl ?_
      refine v_get (ci := 12) C inT12 0 33 rfl rfl (by decide) mF_X12_74_X12_33 rfl dX12_plan_181 ?_
      refine v_aload_n C dX12_plan_184 0 rfl ?_
      refine v_get (ci := 12) C inT12 0 29 rfl rfl (by decide) mF_X12_65_X12_29 rfl dX12_plan_185 ?_
      refine v_iload_n C dX12_plan_188 3 rfl ?_
      obtain ⟨hi189, hw⟩ := hw
      refine v_iald C 17 rfl hi189 dX12_plan_189 ?_
      refine v_aload_n C dX12_plan_190 0 rfl ?_
      refine v_get (ci := 12) C inT12 0 32 rfl rfl (by decide) mF_X12_71_X12_32 rfl dX12_plan_191 ?_
      refine v_iload_n C dX12_plan_194 3 rfl ?_
      obtain ⟨hi195, hw⟩ := hw
      refine v_iald C 19 rfl hi195 dX12_plan_195 ?_
      obtain ⟨hi196, hw⟩ := hw
      obtain ⟨w196, e196⟩ : ∃ z : Md, z = tA v160_0 33 (gA v160_0 29 y3.toNatClampNeg) (gA v160_0 32 y3.toNatClampNeg) := ⟨_, rfl⟩
      have hw := hw w196 e196
      refine v_iast (ws' := [wX12 E h0 a0 w196].flatten) C 20 rfl hi196 (by rw [e196]; rfl) dX12_plan_196 ?_
      refine v_iinc (lv' := [(3, .int (y3 + Int32.ofInt 1)), (0, .ref h0), (1, .int y1), (2, .int y2)]) C dX12_plan_197 3 rfl (by decide) rfl ?_
      refine v_goto (tgt := 143) C dX12_plan_200 (by decide) ?_
      refine v_lv C (lv' := [(0, .ref h0), (1, .int y1), (2, .int y2), (3, .int (y3 + Int32.ofInt 1))]) [1, 2, 3, 0] rfl ?_
      exact hK143 w196 y1 y2 (y3 + Int32.ofInt 1) hw
    · have hw := hw.2 hc
      refine v_aload_n C dX12_plan_167 0 rfl ?_
      refine v_get (ci := 12) C inT12 0 32 rfl rfl (by decide) mF_X12_71_X12_32 rfl dX12_plan_168 ?_
      refine v_iload_n C dX12_plan_171 3 rfl ?_
      refine v_dup2 C dX12_plan_172 rfl rfl ?_
      obtain ⟨hi173, hw⟩ := hw
      refine v_iald C 19 rfl hi173 dX12_plan_173 ?_
      refine v_iconst (v := 1) C dX12_plan_174 (by decide) ?_
      refine v_iadd C dX12_plan_175 ?_
      obtain ⟨hi176, hw⟩ := hw
      obtain ⟨w176, e176⟩ : ∃ z : Md, z = tA v160_0 32 y3 ((gA v160_0 32 y3.toNatClampNeg) + 1) := ⟨_, rfl⟩
      have hw := hw w176 e176
      refine v_iast (ws' := [wX12 E h0 a0 w176].flatten) C 19 rfl hi176 (by rw [e176]; rfl) dX12_plan_176 ?_
      refine v_goto (tgt := 158) C dX12_plan_177 (by decide) ?_
      exact ih w176 y1 y2 y3 hw
set_option maxHeartbeats 4000000 in
set_option maxRecDepth 100000 in
theorem jX12_plan_143 {X : VX} {E : VE} {l : Launch} (h0 : Nat) (a0 : Nat → Nat)  (Q : Int32 → Md → Prop) (C : VC X cX12_plan 4 RX12 (rmL 6 0 0) E l) (hret : RetI X cX12_plan .int 0 0 (fun (U : Md) => [wX12 E h0 a0 U].flatten) (fun (r : Int32) (U : Md) => Q r U))  : ∀ (n : Nat), ∀ (u0 : Md) (y1 : Int32) (y2 : Int32) (y3 : Int32), qX12_plan_143 Q n u0 y1 y2 y3 → VV X 0 0 ([wX12 E h0 a0 u0].flatten) [(0, .ref h0), (1, .int y1), (2, .int y2), (3, .int y3)] 143 [] := by
  intro n
  induction n with
  | zero =>
    intro u0 y1 y2 y3 hw
    exact hw.elim
  | succ n ih =>
    intro u0 y1 y2 y3 hw
    unfold qX12_plan_143 at hw
    refine v_iload_n C dX12_plan_143 3 rfl ?_
    refine v_aload_n C dX12_plan_144 0 rfl ?_
    refine v_get (ci := 12) C inT12 0 30 rfl rfl (by decide) mF_X12_417_X12_30 rfl dX12_plan_145 ?_
    refine v_icmp_ge (tgt := 203) C dX12_plan_148 (by decide) (fun hc => ?_) (fun hc => ?_)
    · have hw := hw.1 hc
      refine v_aload_n C dX12_plan_203 0 rfl ?_
      refine v_iconst (v := 1) C dX12_plan_204 (by decide) ?_
      obtain ⟨w205, e205⟩ : ∃ z : Md, z = sF u0 34 1 := ⟨_, rfl⟩
      have hw := hw w205 e205
      refine v_put (ci := 12) (ws' := [wX12 E h0 a0 w205].flatten) C tyX12 tyX12_ok nmX12 inT12 0 34 rfl rfl (by decide) mF_X12_430_X12_34 rfl rfl rfl rfl (Nat.le_of_ble_eq_true rfl) (by rw [e205]; rfl) dX12_plan_205 ?_
      refine v_iload_n C dX12_plan_208 2 rfl ?_
      exact hret _ _ _ _ y2 w205 dX12_plan_209 rfl hw (Nat.le_of_ble_eq_true rfl) (Nat.le_of_ble_eq_true rfl)
    · have hw := hw.2 hc
      refine v_aload_n C dX12_plan_151 0 rfl ?_
      refine v_get (ci := 12) C inT12 0 32 rfl rfl (by decide) mF_X12_71_X12_32 rfl dX12_plan_152 ?_
      refine v_iload_n C dX12_plan_155 3 rfl ?_
      refine v_iconst (v := 0) C dX12_plan_156 (by decide) ?_
      obtain ⟨hi157, hw⟩ := hw
      obtain ⟨w157, e157⟩ : ∃ z : Md, z = tA u0 32 y3 0 := ⟨_, rfl⟩
      have hw := hw w157 e157
      refine v_iast (ws' := [wX12 E h0 a0 w157].flatten) C 19 rfl hi157 (by rw [e157]; rfl) dX12_plan_157 ?_
      obtain ⟨n', hw⟩ := hw
      exact jX12_plan_158 h0 a0 Q C hret (qX12_plan_143 Q n) ih n' w157 y1 y2 y3 hw
set_option maxHeartbeats 4000000 in
set_option maxRecDepth 100000 in
theorem jX12_plan_122 {X : VX} {E : VE} {l : Launch} (h0 : Nat) (a0 : Nat → Nat)  (Q : Int32 → Md → Prop) (C : VC X cX12_plan 4 RX12 (rmL 6 0 0) E l) (hret : RetI X cX12_plan .int 0 0 (fun (U : Md) => [wX12 E h0 a0 U].flatten) (fun (r : Int32) (U : Md) => Q r U))  : ∀ (n : Nat), ∀ (u0 : Md) (y1 : Int32) (y2 : Int32) (y3 : Int32), qX12_plan_122 Q n u0 y1 y2 y3 → VV X 0 0 ([wX12 E h0 a0 u0].flatten) [(0, .ref h0), (1, .int y1), (2, .int y2), (3, .int y3)] 122 [] := by
  intro n
  induction n with
  | zero =>
    intro u0 y1 y2 y3 hw
    exact hw.elim
  | succ n ih =>
    intro u0 y1 y2 y3 hw
    unfold qX12_plan_122 at hw
    refine v_iload_n C dX12_plan_122 3 rfl ?_
    refine v_bipush (v := 40) C dX12_plan_123 (by decide) ?_
    refine v_icmp_ge (tgt := 141) C dX12_plan_125 (by decide) (fun hc => ?_) (fun hc => ?_)
    · have hw := hw.1 hc
      refine v_iconst (v := 0) C dX12_plan_141 (by decide) ?_
      refine v_istore_n (lv' := [(3, .int 0), (0, .ref h0), (1, .int y1), (2, .int y2)]) C dX12_plan_142 (by decide) rfl ?_
      refine v_lv C (lv' := [(0, .ref h0), (1, .int y1), (2, .int y2), (3, .int 0)]) [1, 2, 3, 0] rfl ?_
      obtain ⟨n', hw⟩ := hw
      exact jX12_plan_143 h0 a0 Q C hret n' u0 y1 y2 0 hw
    · have hw := hw.2 hc
      refine v_aload_n C dX12_plan_128 0 rfl ?_
      refine v_get (ci := 12) C inT12 0 33 rfl rfl (by decide) mF_X12_74_X12_33 rfl dX12_plan_129 ?_
      refine v_iload_n C dX12_plan_132 3 rfl ?_
      refine v_iconst (v := (-1)) C dX12_plan_133 (by decide) ?_
      obtain ⟨hi134, hw⟩ := hw
      obtain ⟨w134, e134⟩ : ∃ z : Md, z = tA u0 33 y3 ((-1)) := ⟨_, rfl⟩
      have hw := hw w134 e134
      refine v_iast (ws' := [wX12 E h0 a0 w134].flatten) C 20 rfl hi134 (by rw [e134]; rfl) dX12_plan_134 ?_
      refine v_iinc (lv' := [(3, .int (y3 + Int32.ofInt 1)), (0, .ref h0), (1, .int y1), (2, .int y2)]) C dX12_plan_135 3 rfl (by decide) rfl ?_
      refine v_goto (tgt := 122) C dX12_plan_138 (by decide) ?_
      refine v_lv C (lv' := [(0, .ref h0), (1, .int y1), (2, .int y2), (3, .int (y3 + Int32.ofInt 1))]) [1, 2, 3, 0] rfl ?_
      exact ih w134 y1 y2 (y3 + Int32.ofInt 1) hw
set_option maxHeartbeats 4000000 in
set_option maxRecDepth 100000 in
theorem jX12_plan_95 {X : VX} {E : VE} {l : Launch} (h0 : Nat) (a0 : Nat → Nat)  (Q : Int32 → Md → Prop) (C : VC X cX12_plan 4 RX12 (rmL 6 0 0) E l) (hret : RetI X cX12_plan .int 0 0 (fun (U : Md) => [wX12 E h0 a0 U].flatten) (fun (r : Int32) (U : Md) => Q r U))  : ∀ (n : Nat), ∀ (u0 : Md) (y1 : Int32) (y2 : Int32), qX12_plan_95 Q n u0 y1 y2 → VV X 0 0 ([wX12 E h0 a0 u0].flatten) [(0, .ref h0), (1, .int y1), (2, .int y2)] 95 [] := by
  intro n
  induction n with
  | zero =>
    intro u0 y1 y2 hw
    exact hw.elim
  | succ n ih =>
    intro u0 y1 y2 hw
    unfold qX12_plan_95 at hw
    refine v_iload_n C dX12_plan_95 2 rfl ?_
    refine v_bipush (v := 9) C dX12_plan_96 (by decide) ?_
    refine v_icmp_ge (tgt := 114) C dX12_plan_98 (by decide) (fun hc => ?_) (fun hc => ?_)
    · have hw := hw.1 hc
      refine v_aload_n C dX12_plan_114 0 rfl ?_
      refine v_iload_n C dX12_plan_115 1 rfl ?_
      refine v_callFi (st := []) (ci := 12) (qb := 0) C (kX12_leastOf h0 a0 _ _ hw) mM_X12_427 mI_X12 mC_X12_leastOf mN_X12_leastOf mS_X12_leastOf rfl rfl hd_X12_leastOf ⟨Nat.le_of_ble_eq_true rfl, Nat.le_of_ble_eq_true rfl⟩ ⟨Nat.le_of_ble_eq_true rfl, Nat.le_of_ble_eq_true rfl⟩ rfl (Nat.le_of_ble_eq_true rfl) dX12_plan_116 (fun r116 v116_0 hw => ?_)
      refine v_istore_n (lv' := [(2, .int r116), (0, .ref h0), (1, .int y1)]) C dX12_plan_119 (by decide) rfl ?_
      refine v_iconst (v := 0) C dX12_plan_120 (by decide) ?_
      refine v_istore_n (lv' := [(3, .int 0), (2, .int r116), (0, .ref h0), (1, .int y1)]) C dX12_plan_121 (by decide) rfl ?_
      refine v_lv C (lv' := [(0, .ref h0), (1, .int y1), (2, .int r116), (3, .int 0)]) [2, 3, 1, 0] rfl ?_
      obtain ⟨n', hw⟩ := hw
      exact jX12_plan_122 h0 a0 Q C hret n' v116_0 y1 r116 0 hw
    · have hw := hw.2 hc
      refine v_aload_n C dX12_plan_101 0 rfl ?_
      refine v_get (ci := 12) C inT12 0 32 rfl rfl (by decide) mF_X12_71_X12_32 rfl dX12_plan_102 ?_
      refine v_iload_n C dX12_plan_105 2 rfl ?_
      refine v_iconst (v := (-1)) C dX12_plan_106 (by decide) ?_
      obtain ⟨hi107, hw⟩ := hw
      obtain ⟨w107, e107⟩ : ∃ z : Md, z = tA u0 32 y2 ((-1)) := ⟨_, rfl⟩
      have hw := hw w107 e107
      refine v_iast (ws' := [wX12 E h0 a0 w107].flatten) C 19 rfl hi107 (by rw [e107]; rfl) dX12_plan_107 ?_
      refine v_iinc (lv' := [(2, .int (y2 + Int32.ofInt 1)), (0, .ref h0), (1, .int y1)]) C dX12_plan_108 2 rfl (by decide) rfl ?_
      refine v_goto (tgt := 95) C dX12_plan_111 (by decide) ?_
      refine v_lv C (lv' := [(0, .ref h0), (1, .int y1), (2, .int (y2 + Int32.ofInt 1))]) [1, 2, 0] rfl ?_
      exact ih w107 y1 (y2 + Int32.ofInt 1) hw
set_option maxHeartbeats 4000000 in
set_option maxRecDepth 100000 in
theorem jX12_plan_22 {X : VX} {E : VE} {l : Launch} (h0 : Nat) (a0 : Nat → Nat)  (Q : Int32 → Md → Prop) (C : VC X cX12_plan 4 RX12 (rmL 6 0 0) E l) (hret : RetI X cX12_plan .int 0 0 (fun (U : Md) => [wX12 E h0 a0 U].flatten) (fun (r : Int32) (U : Md) => Q r U))  : ∀ (n : Nat), ∀ (u0 : Md) (y1 : Int32) (y2 : Int32), qX12_plan_22 Q n u0 y1 y2 → VV X 0 0 ([wX12 E h0 a0 u0].flatten) [(0, .ref h0), (1, .int y1), (2, .int y2)] 22 [] := by
  intro n
  induction n with
  | zero =>
    intro u0 y1 y2 hw
    exact hw.elim
  | succ n ih =>
    intro u0 y1 y2 hw
    unfold qX12_plan_22 at hw
    refine v_iload_n C dX12_plan_22 2 rfl ?_
    refine v_aload_n C dX12_plan_23 0 rfl ?_
    refine v_get (ci := 12) C inT12 0 1 rfl rfl (by decide) mF_X12_9_X12_1 rfl dX12_plan_24 ?_
    refine v_bipush (v := 7) C dX12_plan_27 (by decide) ?_
    obtain ⟨hi29, hw⟩ := hw
    refine v_iald C 1 rfl hi29 dX12_plan_29 ?_
    refine v_icmp_ge (tgt := 82) C dX12_plan_30 (by decide) (fun hc => ?_) (fun hc => ?_)
    · have hw := hw.1 hc
      refine v_aload_n C dX12_plan_82 0 rfl ?_
      refine v_get (ci := 12) C inT12 0 30 rfl rfl (by decide) mF_X12_417_X12_30 rfl dX12_plan_83 ?_
      refine v_bipush (v := 9) C dX12_plan_86 (by decide) ?_
      refine v_icmp_le (tgt := 93) C dX12_plan_88 (by decide) (fun hc => ?_) (fun hc => ?_)
      · have hw := hw.1 hc
        refine v_iconst (v := 0) C dX12_plan_93 (by decide) ?_
        refine v_istore_n (lv' := [(2, .int 0), (0, .ref h0), (1, .int y1)]) C dX12_plan_94 (by decide) rfl ?_
        refine v_lv C (lv' := [(0, .ref h0), (1, .int y1), (2, .int 0)]) [1, 2, 0] rfl ?_
        obtain ⟨n', hw⟩ := hw
        exact jX12_plan_95 h0 a0 Q C hret n' u0 y1 0 hw
      · have hw := hw.2 hc
        refine v_iconst (v := (-1)) C dX12_plan_91 (by decide) ?_
        exact hret _ _ _ _ ((-1)) u0 dX12_plan_92 rfl hw (Nat.le_of_ble_eq_true rfl) (Nat.le_of_ble_eq_true rfl)
    · have hw := hw.2 hc
      refine v_aload_n C dX12_plan_33 0 rfl ?_
      refine v_iload_n C dX12_plan_34 2 rfl ?_
      refine v_callFi (st := []) (ci := 12) (qb := 0) C (kX12_isLame h0 a0 _ _ hw) mM_X12_408 mI_X12 mC_X12_isLame mN_X12_isLame mS_X12_isLame rfl rfl hd_X12_isLame ⟨Nat.le_of_ble_eq_true rfl, Nat.le_of_ble_eq_true rfl⟩ ⟨Nat.le_of_ble_eq_true rfl, Nat.le_of_ble_eq_true rfl⟩ rfl (Nat.le_of_ble_eq_true rfl) dX12_plan_35 (fun r35 v35_0 hw => ?_)
      obtain ⟨h01_35, hw⟩ := hw
      have hw := hw h01_35
      refine v_if_ne (tgt := 44) C dX12_plan_38 (by decide) (fun hc => ?_) (fun hc => ?_)
      · have hw := hw.1 hc
        refine v_aload_n C dX12_plan_44 0 rfl ?_
        refine v_iload_n C dX12_plan_45 2 rfl ?_
        refine v_iconst (v := 1) C dX12_plan_46 (by decide) ?_
        refine v_callFi (st := []) (ci := 12) (qb := 0) C (kX12_signIs h0 a0 _ _ _ hw) mM_X12_403 mI_X12 mC_X12_signIs mN_X12_signIs mS_X12_signIs rfl rfl hd_X12_signIs ⟨Nat.le_of_ble_eq_true rfl, Nat.le_of_ble_eq_true rfl⟩ ⟨Nat.le_of_ble_eq_true rfl, Nat.le_of_ble_eq_true rfl⟩ rfl (Nat.le_of_ble_eq_true rfl) dX12_plan_47 (fun r47 v47_0 hw => ?_)
        refine v_iload_n C dX12_plan_50 1 rfl ?_
        refine v_icmp_le (tgt := 56) C dX12_plan_51 (by decide) (fun hc => ?_) (fun hc => ?_)
        · have hw := hw.1 hc
          refine v_aload_n C dX12_plan_56 0 rfl ?_
          refine v_get (ci := 12) C inT12 0 29 rfl rfl (by decide) mF_X12_65_X12_29 rfl dX12_plan_57 ?_
          refine v_aload_n C dX12_plan_60 0 rfl ?_
          refine v_get (ci := 12) C inT12 0 30 rfl rfl (by decide) mF_X12_417_X12_30 rfl dX12_plan_61 ?_
          refine v_iload_n C dX12_plan_64 2 rfl ?_
          obtain ⟨hi65, hw⟩ := hw
          obtain ⟨w65, e65⟩ : ∃ z : Md, z = tA v47_0 29 (gF v47_0 30) y2 := ⟨_, rfl⟩
          have hw := hw w65 e65
          refine v_iast (ws' := [wX12 E h0 a0 w65].flatten) C 17 rfl hi65 (by rw [e65]; rfl) dX12_plan_65 ?_
          refine v_aload_n C dX12_plan_66 0 rfl ?_
          refine v_dup C dX12_plan_67 rfl ?_
          refine v_get (ci := 12) C inT12 0 30 rfl rfl (by decide) mF_X12_417_X12_30 rfl dX12_plan_68 ?_
          refine v_iconst (v := 1) C dX12_plan_71 (by decide) ?_
          refine v_iadd C dX12_plan_72 ?_
          obtain ⟨w73, e73⟩ : ∃ z : Md, z = sF w65 30 ((gF w65 30) + 1) := ⟨_, rfl⟩
          have hw := hw w73 e73
          refine v_put (ci := 12) (ws' := [wX12 E h0 a0 w73].flatten) C tyX12 tyX12_ok nmX12 inT12 0 30 rfl rfl (by decide) mF_X12_417_X12_30 rfl rfl rfl rfl (Nat.le_of_ble_eq_true rfl) (by rw [e73]; rfl) dX12_plan_73 ?_
          refine v_iinc (lv' := [(2, .int (y2 + Int32.ofInt 1)), (0, .ref h0), (1, .int y1)]) C dX12_plan_76 2 rfl (by decide) rfl ?_
          refine v_goto (tgt := 22) C dX12_plan_79 (by decide) ?_
          refine v_lv C (lv' := [(0, .ref h0), (1, .int y1), (2, .int (y2 + Int32.ofInt 1))]) [1, 2, 0] rfl ?_
          exact ih w73 y1 (y2 + Int32.ofInt 1) hw
        · have hw := hw.2 hc
          refine v_iconst (v := (-1)) C dX12_plan_54 (by decide) ?_
          exact hret _ _ _ _ ((-1)) v47_0 dX12_plan_55 rfl hw (Nat.le_of_ble_eq_true rfl) (Nat.le_of_ble_eq_true rfl)
      · have hw := hw.2 hc
        refine v_goto (tgt := 76) C dX12_plan_41 (by decide) ?_
        refine v_iinc (lv' := [(2, .int (y2 + Int32.ofInt 1)), (0, .ref h0), (1, .int y1)]) C dX12_plan_76 2 rfl (by decide) rfl ?_
        refine v_goto (tgt := 22) C dX12_plan_79 (by decide) ?_
        refine v_lv C (lv' := [(0, .ref h0), (1, .int y1), (2, .int (y2 + Int32.ofInt 1))]) [1, 2, 0] rfl ?_
        exact ih v35_0 y1 (y2 + Int32.ofInt 1) hw
set_option maxHeartbeats 4000000 in
set_option maxRecDepth 100000 in
theorem kX12_plan {l : Launch} {E : VE} (h0 : Nat) (a0 : Nat → Nat) (u0 : Md) (x1 : Int32) {Q : Int32 → Md → Prop} (hw : qX12_plan u0 x1 Q) : MI l yX12_plan cX12_plan 4 .int 6 0 0 E [.ref h0, .int x1] ([wX12 E h0 a0 u0].flatten) (fun (U : Md) => [wX12 E h0 a0 U].flatten) (fun (r : Int32) (U : Md) => Q r U) := by
  refine MI.of (own := RX12) (by decide) rfl (Nat.le_of_ble_eq_true rfl) ?_
  intro X C hini hret
  show VV X 0 0 ([wX12 E h0 a0 u0].flatten) [(0, .ref h0), (1, .int x1)] 0 []
  unfold qX12_plan at hw
  refine v_iload_n C dX12_plan_0 1 rfl ?_
  refine v_i2l C dX12_plan_1 ?_
  refine v_lconst (v := 0) C dX12_plan_2 (by decide) ?_
  refine v_ldc2 C mJ_X12_398 dX12_plan_3 ?_
  refine v_callSPi (st := []) C (kX12_in _ _ _ hw) mM_X12_125 mI_X12 mC_X12_in mT_X12_in hd_X12_in ⟨Nat.le_of_ble_eq_true rfl, Nat.le_of_ble_eq_true rfl⟩ ⟨Nat.le_of_ble_eq_true rfl, Nat.le_of_ble_eq_true rfl⟩ rfl (Nat.le_of_ble_eq_true rfl) dX12_plan_6 (fun r6 U6 hw => ?_)
  obtain ⟨h01_6, hw⟩ := hw
  have hw := hw h01_6
  refine v_if_ne (tgt := 15) C dX12_plan_9 (by decide) (fun hc => ?_) (fun hc => ?_)
  · have hw := hw.1 hc
    refine v_aload_n C dX12_plan_15 0 rfl ?_
    refine v_iconst (v := 0) C dX12_plan_16 (by decide) ?_
    obtain ⟨w17, e17⟩ : ∃ z : Md, z = sF u0 30 0 := ⟨_, rfl⟩
    have hw := hw w17 e17
    refine v_put (ci := 12) (ws' := [wX12 E h0 a0 w17].flatten) C tyX12 tyX12_ok nmX12 inT12 0 30 rfl rfl (by decide) mF_X12_417_X12_30 rfl rfl rfl rfl (Nat.le_of_ble_eq_true rfl) (by rw [e17]; rfl) dX12_plan_17 ?_
    refine v_iconst (v := 0) C dX12_plan_20 (by decide) ?_
    refine v_istore_n (lv' := [(2, .int 0), (0, .ref h0), (1, .int x1)]) C dX12_plan_21 (by decide) rfl ?_
    refine v_lv C (lv' := [(0, .ref h0), (1, .int x1), (2, .int 0)]) [1, 2, 0] rfl ?_
    obtain ⟨n', hw⟩ := hw
    exact jX12_plan_22 h0 a0 Q C hret n' w17 x1 0 hw
  · have hw := hw.2 hc
    refine v_bipush (v := (-2)) C dX12_plan_12 (by decide) ?_
    exact hret _ _ _ _ ((-2)) u0 dX12_plan_14 rfl hw (Nat.le_of_ble_eq_true rfl) (Nat.le_of_ble_eq_true rfl)
set_option maxHeartbeats 4000000 in
set_option maxRecDepth 100000 in
theorem kX12_planned {l : Launch} {E : VE} (h0 : Nat) (a0 : Nat → Nat) (u0 : Md) (x1 : Int32) {Q : Int32 → Md → Prop} (hw : qX12_planned u0 x1 Q) : MI l yX12_planned cX12_planned 2 .int 1 0 0 E [.ref h0, .int x1] ([wX12 E h0 a0 u0].flatten) (fun (U : Md) => [wX12 E h0 a0 U].flatten) (fun (r : Int32) (U : Md) => Q r U) := by
  refine MI.of (own := RX12) (by decide) rfl (Nat.le_of_ble_eq_true rfl) ?_
  intro X C hini hret
  show VV X 0 0 ([wX12 E h0 a0 u0].flatten) [(0, .ref h0), (1, .int x1)] 0 []
  unfold qX12_planned at hw
  refine v_aload_n C dX12_planned_0 0 rfl ?_
  refine v_get (ci := 12) C inT12 0 34 rfl rfl (by decide) mF_X12_430_X12_34 rfl dX12_planned_1 ?_
  refine v_if_eq (tgt := 28) C dX12_planned_4 (by decide) (fun hc => ?_) (fun hc => ?_)
  · have hw := hw.1 hc
    refine v_iconst (v := (-1)) C dX12_planned_28 (by decide) ?_
    exact hret _ _ _ _ ((-1)) u0 dX12_planned_29 rfl hw (Nat.le_of_ble_eq_true rfl) (Nat.le_of_ble_eq_true rfl)
  · have hw := hw.2 hc
    refine v_iload_n C dX12_planned_7 1 rfl ?_
    refine v_i2l C dX12_planned_8 ?_
    refine v_lconst (v := 0) C dX12_planned_9 (by decide) ?_
    refine v_ldc2 C mJ_X12_433 dX12_planned_10 ?_
    refine v_callSPi (st := []) C (kX12_in _ _ _ hw) mM_X12_125 mI_X12 mC_X12_in mT_X12_in hd_X12_in ⟨Nat.le_of_ble_eq_true rfl, Nat.le_of_ble_eq_true rfl⟩ ⟨Nat.le_of_ble_eq_true rfl, Nat.le_of_ble_eq_true rfl⟩ rfl (Nat.le_of_ble_eq_true rfl) dX12_planned_13 (fun r13 U13 hw => ?_)
    obtain ⟨h01_13, hw⟩ := hw
    have hw := hw h01_13
    refine v_if_eq (tgt := 28) C dX12_planned_16 (by decide) (fun hc => ?_) (fun hc => ?_)
    · have hw := hw.1 hc
      refine v_iconst (v := (-1)) C dX12_planned_28 (by decide) ?_
      exact hret _ _ _ _ ((-1)) u0 dX12_planned_29 rfl hw (Nat.le_of_ble_eq_true rfl) (Nat.le_of_ble_eq_true rfl)
    · have hw := hw.2 hc
      refine v_aload_n C dX12_planned_19 0 rfl ?_
      refine v_get (ci := 12) C inT12 0 33 rfl rfl (by decide) mF_X12_74_X12_33 rfl dX12_planned_20 ?_
      refine v_iload_n C dX12_planned_23 1 rfl ?_
      obtain ⟨hi24, hw⟩ := hw
      refine v_iald C 20 rfl hi24 dX12_planned_24 ?_
      refine v_goto (tgt := 29) C dX12_planned_25 (by decide) ?_
      exact hret _ _ _ _ (gA u0 33 x1.toNatClampNeg) u0 dX12_planned_29 rfl hw (Nat.le_of_ble_eq_true rfl) (Nat.le_of_ble_eq_true rfl)
set_option maxHeartbeats 4000000 in
set_option maxRecDepth 100000 in
theorem kX12_paper {l : Launch} {E : VE} (h0 : Nat) (a0 : Nat → Nat) (u0 : Md) (x1 : Int32) {Q : Int32 → Md → Prop} (hw : qX12_paper u0 x1 Q) : MI l yX12_paper cX12_paper 2 .int 1 0 0 E [.ref h0, .int x1] ([wX12 E h0 a0 u0].flatten) (fun (U : Md) => [wX12 E h0 a0 U].flatten) (fun (r : Int32) (U : Md) => Q r U) := by
  refine MI.of (own := RX12) (by decide) rfl (Nat.le_of_ble_eq_true rfl) ?_
  intro X C hini hret
  show VV X 0 0 ([wX12 E h0 a0 u0].flatten) [(0, .ref h0), (1, .int x1)] 0 []
  unfold qX12_paper at hw
  refine v_iload_n C dX12_paper_0 1 rfl ?_
  refine v_i2l C dX12_paper_1 ?_
  refine v_lconst (v := 0) C dX12_paper_2 (by decide) ?_
  refine v_aload_n C dX12_paper_3 0 rfl ?_
  refine v_callFi (st := [.long 0, .long x1.toInt64]) (ci := 12) (qb := 0) C (kX12_now h0 a0 _ hw) mM_X12_138 mI_X12 mC_X12_now mN_X12_now mS_X12_now rfl rfl hd_X12_now ⟨Nat.le_of_ble_eq_true rfl, Nat.le_of_ble_eq_true rfl⟩ ⟨Nat.le_of_ble_eq_true rfl, Nat.le_of_ble_eq_true rfl⟩ rfl (Nat.le_of_ble_eq_true rfl) dX12_paper_4 (fun r4 v4_0 hw => ?_)
  refine v_i2l C dX12_paper_7 ?_
  refine v_callSPi (st := []) C (kX12_in _ _ _ hw) mM_X12_125 mI_X12 mC_X12_in mT_X12_in hd_X12_in ⟨Nat.le_of_ble_eq_true rfl, Nat.le_of_ble_eq_true rfl⟩ ⟨Nat.le_of_ble_eq_true rfl, Nat.le_of_ble_eq_true rfl⟩ rfl (Nat.le_of_ble_eq_true rfl) dX12_paper_8 (fun r8 U8 hw => ?_)
  obtain ⟨h01_8, hw⟩ := hw
  have hw := hw h01_8
  refine v_if_ne (tgt := 17) C dX12_paper_11 (by decide) (fun hc => ?_) (fun hc => ?_)
  · have hw := hw.1 hc
    refine v_aload_n C dX12_paper_17 0 rfl ?_
    refine v_iload_n C dX12_paper_18 1 rfl ?_
    obtain ⟨w19, e19⟩ : ∃ z : Md, z = sF v4_0 36 x1 := ⟨_, rfl⟩
    have hw := hw w19 e19
    refine v_put (ci := 12) (ws' := [wX12 E h0 a0 w19].flatten) C tyX12 tyX12_ok nmX12 inT12 0 36 rfl rfl (by decide) mF_X12_80_X12_36 rfl rfl rfl rfl (Nat.le_of_ble_eq_true rfl) (by rw [e19]; rfl) dX12_paper_19 ?_
    refine v_aload_n C dX12_paper_22 0 rfl ?_
    refine v_iconst (v := 0) C dX12_paper_23 (by decide) ?_
    obtain ⟨w24, e24⟩ : ∃ z : Md, z = sF w19 37 0 := ⟨_, rfl⟩
    have hw := hw w24 e24
    refine v_put (ci := 12) (ws' := [wX12 E h0 a0 w24].flatten) C tyX12 tyX12_ok nmX12 inT12 0 37 rfl rfl (by decide) mF_X12_435_X12_37 rfl rfl rfl rfl (Nat.le_of_ble_eq_true rfl) (by rw [e24]; rfl) dX12_paper_24 ?_
    refine v_iconst (v := 0) C dX12_paper_27 (by decide) ?_
    exact hret _ _ _ _ 0 w24 dX12_paper_28 rfl hw (Nat.le_of_ble_eq_true rfl) (Nat.le_of_ble_eq_true rfl)
  · have hw := hw.2 hc
    refine v_bipush (v := (-2)) C dX12_paper_14 (by decide) ?_
    exact hret _ _ _ _ ((-2)) v4_0 dX12_paper_16 rfl hw (Nat.le_of_ble_eq_true rfl) (Nat.le_of_ble_eq_true rfl)
set_option maxHeartbeats 4000000 in
set_option maxRecDepth 100000 in
theorem jX12_written_34 {X : VX} {E : VE} {l : Launch} (h0 : Nat) (a0 : Nat → Nat)  (Q : Int32 → Md → Prop) (C : VC X cX12_written 2 RX12 (rmL 2 0 0) E l) (hret : RetI X cX12_written .int 0 0 (fun (U : Md) => [wX12 E h0 a0 U].flatten) (fun (r : Int32) (U : Md) => Q r U))  : ∀ (n : Nat), ∀ (u0 : Md) (y1 : Int32), qX12_written_34 Q n u0 y1 → VV X 0 0 ([wX12 E h0 a0 u0].flatten) [(0, .ref h0), (1, .int y1)] 34 [] := by
  intro n
  induction n with
  | zero =>
    intro u0 y1 hw
    exact hw.elim
  | succ n ih =>
    intro u0 y1 hw
    unfold qX12_written_34 at hw
    refine v_iload_n C dX12_written_34 1 rfl ?_
    refine v_aload_n C dX12_written_35 0 rfl ?_
    refine v_get (ci := 12) C inT12 0 5 rfl rfl (by decide) mF_X12_131_X12_5 rfl dX12_written_36 ?_
    refine v_icmp_ge (tgt := 68) C dX12_written_39 (by decide) (fun hc => ?_) (fun hc => ?_)
    · have hw := hw.1 hc
      refine v_aload_n C dX12_written_68 0 rfl ?_
      refine v_get (ci := 12) C inT12 0 39 rfl rfl (by decide) mF_X12_86_X12_39 rfl dX12_written_69 ?_
      refine v_aload_n C dX12_written_72 0 rfl ?_
      refine v_get (ci := 12) C inT12 0 37 rfl rfl (by decide) mF_X12_435_X12_37 rfl dX12_written_73 ?_
      refine v_aload_n C dX12_written_76 0 rfl ?_
      refine v_get (ci := 12) C inT12 0 5 rfl rfl (by decide) mF_X12_131_X12_5 rfl dX12_written_77 ?_
      obtain ⟨hi80, hw⟩ := hw
      obtain ⟨w80, e80⟩ : ∃ z : Md, z = tA u0 39 (gF u0 37) (gF u0 5) := ⟨_, rfl⟩
      have hw := hw w80 e80
      refine v_iast (ws' := [wX12 E h0 a0 w80].flatten) C 23 rfl hi80 (by rw [e80]; rfl) dX12_written_80 ?_
      refine v_aload_n C dX12_written_81 0 rfl ?_
      refine v_iconst (v := 0) C dX12_written_82 (by decide) ?_
      obtain ⟨w83, e83⟩ : ∃ z : Md, z = sF w80 5 0 := ⟨_, rfl⟩
      have hw := hw w83 e83
      refine v_put (ci := 12) (ws' := [wX12 E h0 a0 w83].flatten) C tyX12 tyX12_ok nmX12 inT12 0 5 rfl rfl (by decide) mF_X12_131_X12_5 rfl rfl rfl rfl (Nat.le_of_ble_eq_true rfl) (by rw [e83]; rfl) dX12_written_83 ?_
      refine v_aload_n C dX12_written_86 0 rfl ?_
      refine v_dup C dX12_written_87 rfl ?_
      refine v_get (ci := 12) C inT12 0 37 rfl rfl (by decide) mF_X12_435_X12_37 rfl dX12_written_88 ?_
      refine v_iconst (v := 1) C dX12_written_91 (by decide) ?_
      refine v_iadd C dX12_written_92 ?_
      obtain ⟨w93, e93⟩ : ∃ z : Md, z = sF w83 37 ((gF w83 37) + 1) := ⟨_, rfl⟩
      have hw := hw w93 e93
      refine v_put (ci := 12) (ws' := [wX12 E h0 a0 w93].flatten) C tyX12 tyX12_ok nmX12 inT12 0 37 rfl rfl (by decide) mF_X12_435_X12_37 rfl rfl rfl rfl (Nat.le_of_ble_eq_true rfl) (by rw [e93]; rfl) dX12_written_93 ?_
      refine v_aload_n C dX12_written_96 0 rfl ?_
      refine v_get (ci := 12) C inT12 0 37 rfl rfl (by decide) mF_X12_435_X12_37 rfl dX12_written_97 ?_
      exact hret _ _ _ _ (gF w93 37) w93 dX12_written_100 rfl hw (Nat.le_of_ble_eq_true rfl) (Nat.le_of_ble_eq_true rfl)
    · have hw := hw.2 hc
      refine v_aload_n C dX12_written_42 0 rfl ?_
      refine v_get (ci := 12) C inT12 0 38 rfl rfl (by decide) mF_X12_83_X12_38 rfl dX12_written_43 ?_
      refine v_bipush (v := 24) C dX12_written_46 (by decide) ?_
      refine v_aload_n C dX12_written_48 0 rfl ?_
      refine v_get (ci := 12) C inT12 0 37 rfl rfl (by decide) mF_X12_435_X12_37 rfl dX12_written_49 ?_
      refine v_imul C dX12_written_52 ?_
      refine v_iload_n C dX12_written_53 1 rfl ?_
      refine v_iadd C dX12_written_54 ?_
      refine v_aload_n C dX12_written_55 0 rfl ?_
      refine v_get (ci := 12) C inT12 0 4 rfl rfl (by decide) mF_X12_21_X12_4 rfl dX12_written_56 ?_
      refine v_iload_n C dX12_written_59 1 rfl ?_
      obtain ⟨hi60, hw⟩ := hw
      refine v_bald C 4 rfl hi60 dX12_written_60 ?_
      obtain ⟨hi61, hw⟩ := hw
      obtain ⟨w61, e61⟩ : ∃ z : Md, z = tA u0 38 ((24 * (gF u0 37)) + y1) ((gB u0 4 y1.toNatClampNeg).toInt32) := ⟨_, rfl⟩
      have hw := hw w61 e61
      refine v_iast (ws' := [wX12 E h0 a0 w61].flatten) C 22 rfl hi61 (by rw [e61]; rfl) dX12_written_61 ?_
      refine v_iinc (lv' := [(1, .int (y1 + Int32.ofInt 1)), (0, .ref h0)]) C dX12_written_62 1 rfl (by decide) rfl ?_
      refine v_goto (tgt := 34) C dX12_written_65 (by decide) ?_
      refine v_lv C (lv' := [(0, .ref h0), (1, .int (y1 + Int32.ofInt 1))]) [1, 0] rfl ?_
      exact ih w61 (y1 + Int32.ofInt 1) hw
set_option maxHeartbeats 4000000 in
set_option maxRecDepth 100000 in
theorem kX12_written {l : Launch} {E : VE} (h0 : Nat) (a0 : Nat → Nat) (u0 : Md) {Q : Int32 → Md → Prop} (hw : qX12_written u0 Q) : MI l yX12_written cX12_written 2 .int 2 0 0 E [.ref h0] ([wX12 E h0 a0 u0].flatten) (fun (U : Md) => [wX12 E h0 a0 U].flatten) (fun (r : Int32) (U : Md) => Q r U) := by
  refine MI.of (own := RX12) (by decide) rfl (Nat.le_of_ble_eq_true rfl) ?_
  intro X C hini hret
  show VV X 0 0 ([wX12 E h0 a0 u0].flatten) [(0, .ref h0)] 0 []
  unfold qX12_written at hw
  refine v_aload_n C dX12_written_0 0 rfl ?_
  refine v_get (ci := 12) C inT12 0 36 rfl rfl (by decide) mF_X12_80_X12_36 rfl dX12_written_1 ?_
  refine v_iconst (v := (-1)) C dX12_written_4 (by decide) ?_
  refine v_icmp_eq (tgt := 17) C dX12_written_5 (by decide) (fun hc => ?_) (fun hc => ?_)
  · have hw := hw.1 hc
    refine v_bipush (v := (-2)) C dX12_written_17 (by decide) ?_
    exact hret _ _ _ _ ((-2)) u0 dX12_written_19 rfl hw (Nat.le_of_ble_eq_true rfl) (Nat.le_of_ble_eq_true rfl)
  · have hw := hw.2 hc
    refine v_aload_n C dX12_written_8 0 rfl ?_
    refine v_bipush (v := 24) C dX12_written_9 (by decide) ?_
    refine v_callFi (st := []) (ci := 12) (qb := 0) C (kX12_isLetters h0 a0 _ _ hw) mM_X12_173 mI_X12 mC_X12_isLetters mN_X12_isLetters mS_X12_isLetters rfl rfl hd_X12_isLetters ⟨Nat.le_of_ble_eq_true rfl, Nat.le_of_ble_eq_true rfl⟩ ⟨Nat.le_of_ble_eq_true rfl, Nat.le_of_ble_eq_true rfl⟩ rfl (Nat.le_of_ble_eq_true rfl) dX12_written_11 (fun r11 v11_0 hw => ?_)
    obtain ⟨h01_11, hw⟩ := hw
    have hw := hw h01_11
    refine v_if_ne (tgt := 20) C dX12_written_14 (by decide) (fun hc => ?_) (fun hc => ?_)
    · have hw := hw.1 hc
      refine v_aload_n C dX12_written_20 0 rfl ?_
      refine v_get (ci := 12) C inT12 0 37 rfl rfl (by decide) mF_X12_435_X12_37 rfl dX12_written_21 ?_
      refine v_bipush (v := 7) C dX12_written_24 (by decide) ?_
      refine v_icmp_ne (tgt := 32) C dX12_written_26 (by decide) (fun hc => ?_) (fun hc => ?_)
      · have hw := hw.1 hc
        refine v_iconst (v := 0) C dX12_written_32 (by decide) ?_
        refine v_istore_n (lv' := [(1, .int 0), (0, .ref h0)]) C dX12_written_33 (by decide) rfl ?_
        refine v_lv C (lv' := [(0, .ref h0), (1, .int 0)]) [1, 0] rfl ?_
        obtain ⟨n', hw⟩ := hw
        exact jX12_written_34 h0 a0 Q C hret n' v11_0 0 hw
      · have hw := hw.2 hc
        refine v_bipush (v := (-3)) C dX12_written_29 (by decide) ?_
        exact hret _ _ _ _ ((-3)) v11_0 dX12_written_31 rfl hw (Nat.le_of_ble_eq_true rfl) (Nat.le_of_ble_eq_true rfl)
    · have hw := hw.2 hc
      refine v_bipush (v := (-2)) C dX12_written_17 (by decide) ?_
      exact hret _ _ _ _ ((-2)) v11_0 dX12_written_19 rfl hw (Nat.le_of_ble_eq_true rfl) (Nat.le_of_ble_eq_true rfl)
