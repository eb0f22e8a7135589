set_option maxHeartbeats 4000000 in
set_option maxRecDepth 100000 in
theorem jX11_name_31 {X : VX} {E : VE} {l : Launch} (h0 : Nat) (a0 : Nat → Nat) (a0_0 : Nat → Nat) (a0_0_2 : Nat → Nat) (a0_0_3 : Nat → Nat) (a0_2 : Nat → Nat)  (Q : Int32 → Md → Md → Md → Md → Md → Prop) (C : VC X cX11_name 6 RX11 (rmL 2 0 0) E l) (hret : RetI X cX11_name .int 0 0 (fun (U : Md × Md × Md × Md × Md) => [wX11 E h0 a0 U.1, wX8 E (a0 0) a0_0 U.2.1, wX2 E (a0_0 2) a0_0_2 U.2.2.1, wX7 E (a0_0 3) a0_0_3 U.2.2.2.1, wX9 E (a0 2) a0_2 U.2.2.2.2].flatten) (fun (r : Int32) (U : Md × Md × Md × Md × Md) => Q r U.1 U.2.1 U.2.2.1 U.2.2.2.1 U.2.2.2.2))  : ∀ (u0 : Md) (u0_0 : Md) (u0_0_2 : Md) (u0_0_3 : Md) (u0_2 : Md) (y1 : Int32) (y2 : Int32) (y3 : Int32) (z0 : Int32), qX11_name_31 Q u0 u0_0 u0_0_2 u0_0_3 u0_2 y1 y2 y3 z0 → VV X 0 0 ([wX11 E h0 a0 u0, wX8 E (a0 0) a0_0 u0_0, wX2 E (a0_0 2) a0_0_2 u0_0_2, wX7 E (a0_0 3) a0_0_3 u0_0_3, wX9 E (a0 2) a0_2 u0_2].flatten) [(0, .ref h0), (1, .int y1), (2, .int y2), (3, .int y3)] 31 [.int z0] := by
  intro u0 u0_0 u0_0_2 u0_0_3 u0_2 y1 y2 y3 z0 hw
  unfold qX11_name_31 at hw
  refine v_istore (lv' := [(4, .int z0), (0, .ref h0), (1, .int y1), (2, .int y2), (3, .int y3)]) C dX11_name_31 (by decide) rfl ?_
  refine v_iload C dX11_name_33 0 rfl ?_
  refine v_if_eq (tgt := 71) C dX11_name_35 (by decide) (fun hc => ?_) (fun hc => ?_)
  · have hw := hw.1 hc
    refine v_bipush (v := (-2)) C dX11_name_71 (by decide) ?_
    exact hret _ _ _ _ ((-2)) (u0, u0_0, u0_0_2, u0_0_3, u0_2) dX11_name_73 rfl hw (Nat.le_of_ble_eq_true rfl) (Nat.le_of_ble_eq_true rfl)
  · have hw := hw.2 hc
    refine v_aload_n C dX11_name_38 1 rfl ?_
    refine v_get (ci := 11) C inT11 0 0 rfl rfl (by decide) mF_X11_10_X11_0 rfl dX11_name_39 ?_
    refine v_get (ci := 8) C inT8 5 2 rfl rfl (by decide) mF_X11_87_X8_2 rfl dX11_name_42 ?_
    refine v_iload_n C dX11_name_45 2 rfl ?_
    refine v_callVMi (st := []) (ci := 2) (qb := 7) C (kX2_has ((a0_0 2)) a0_0_2 _ _ hw) mM_X11_97 mI_X2 mC_X2_has mN_X2_has mS_X2_has rfl rfl hd_X2_has ⟨Nat.le_of_ble_eq_true rfl, Nat.le_of_ble_eq_true rfl⟩ ⟨Nat.le_of_ble_eq_true rfl, Nat.le_of_ble_eq_true rfl⟩ [2] [0, 1, 3, 4] (N0 := 5) rfl (by decide) (ms2 := (fun (U : Md) => [wX11 E h0 a0 u0, wX8 E (a0 0) a0_0 u0_0, wX2 E (a0_0 2) a0_0_2 U, wX7 E (a0_0 3) a0_0_3 u0_0_3, wX9 E (a0 2) a0_2 u0_2])) rfl (fun _ => rfl) (fun _ => rfl) (fun _ => rfl) rfl (Nat.le_of_ble_eq_true rfl) dX11_name_46 (fun r46 v46_0 hw => ?_)
    obtain ⟨h01_46, hw⟩ := hw
    have hw := hw h01_46
    refine v_if_eq (tgt := 71) C dX11_name_49 (by decide) (fun hc => ?_) (fun hc => ?_)
    · have hw := hw.1 hc
      refine v_bipush (v := (-2)) C dX11_name_71 (by decide) ?_
      exact hret _ _ _ _ ((-2)) (u0, u0_0, v46_0, u0_0_3, u0_2) dX11_name_73 rfl hw (Nat.le_of_ble_eq_true rfl) (Nat.le_of_ble_eq_true rfl)
    · have hw := hw.2 hc
      refine v_iload_n C dX11_name_52 3 rfl ?_
      refine v_callSPi (st := []) C (kX11_isTongue _ hw) mM_X11_118 mI_X11 mC_X11_isTongue mT_X11_isTongue hd_X11_isTongue ⟨Nat.le_of_ble_eq_true rfl, Nat.le_of_ble_eq_true rfl⟩ ⟨Nat.le_of_ble_eq_true rfl, Nat.le_of_ble_eq_true rfl⟩ rfl (Nat.le_of_ble_eq_true rfl) dX11_name_53 (fun r53 U53 hw => ?_)
      obtain ⟨h01_53, hw⟩ := hw
      have hw := hw h01_53
      refine v_if_eq (tgt := 71) C dX11_name_56 (by decide) (fun hc => ?_) (fun hc => ?_)
      · have hw := hw.1 hc
        refine v_bipush (v := (-2)) C dX11_name_71 (by decide) ?_
        exact hret _ _ _ _ ((-2)) (u0, u0_0, v46_0, u0_0_3, u0_2) dX11_name_73 rfl hw (Nat.le_of_ble_eq_true rfl) (Nat.le_of_ble_eq_true rfl)
      · have hw := hw.2 hc
        refine v_aload_n C dX11_name_59 1 rfl ?_
        refine v_get (ci := 11) C inT11 0 2 rfl rfl (by decide) mF_X11_23_X11_2 rfl dX11_name_60 ?_
        refine v_bipush (v := 12) C dX11_name_63 (by decide) ?_
        refine v_callVMi (st := []) (ci := 9) (qb := 31) C (kX9_isLetters ((a0 2)) a0_2 _ _ hw) mM_X11_139 mI_X9 mC_X9_isLetters mN_X9_isLetters mS_X9_isLetters rfl rfl hd_X9_isLetters ⟨Nat.le_of_ble_eq_true rfl, Nat.le_of_ble_eq_true rfl⟩ ⟨Nat.le_of_ble_eq_true rfl, Nat.le_of_ble_eq_true rfl⟩ [4] [0, 1, 2, 3] (N0 := 5) rfl (by decide) (ms2 := (fun (U : Md) => [wX11 E h0 a0 u0, wX8 E (a0 0) a0_0 u0_0, wX2 E (a0_0 2) a0_0_2 v46_0, wX7 E (a0_0 3) a0_0_3 u0_0_3, wX9 E (a0 2) a0_2 U])) rfl (fun _ => rfl) (fun _ => rfl) (fun _ => rfl) rfl (Nat.le_of_ble_eq_true rfl) dX11_name_65 (fun r65 v65_0 hw => ?_)
        obtain ⟨h01_65, hw⟩ := hw
        have hw := hw h01_65
        refine v_if_ne (tgt := 74) C dX11_name_68 (by decide) (fun hc => ?_) (fun hc => ?_)
        · have hw := hw.1 hc
          refine v_aload_n C dX11_name_74 1 rfl ?_
          refine v_get (ci := 11) C inT11 0 0 rfl rfl (by decide) mF_X11_10_X11_0 rfl dX11_name_75 ?_
          refine v_get (ci := 8) C inT8 5 3 rfl rfl (by decide) mF_X11_142_X8_3 rfl dX11_name_78 ?_
          refine v_aload_n C dX11_name_81 1 rfl ?_
          refine v_get (ci := 11) C inT11 0 2 rfl rfl (by decide) mF_X11_23_X11_2 rfl dX11_name_82 ?_
          refine v_iload_n C dX11_name_85 2 rfl ?_
          refine v_iload_n C dX11_name_86 3 rfl ?_
          refine v_iload_n C dX11_name_87 4 rfl ?_
          refine v_callVMi (st := []) (ci := 7) (qb := 16) C (kX7_addName ((a0_0 3)) ((a0 2)) a0_0_3 a0_2 _ _ _ _ _ hw) mM_X11_146 mI_X7 mC_X7_addName mN_X7_addName mS_X7_addName rfl rfl hd_X7_addName ⟨Nat.le_of_ble_eq_true rfl, Nat.le_of_ble_eq_true rfl⟩ ⟨Nat.le_of_ble_eq_true rfl, Nat.le_of_ble_eq_true rfl⟩ [3, 4] [0, 1, 2] (N0 := 5) rfl (by decide) (ms2 := (fun (U : Md × Md) => [wX11 E h0 a0 u0, wX8 E (a0 0) a0_0 u0_0, wX2 E (a0_0 2) a0_0_2 v46_0, wX7 E (a0_0 3) a0_0_3 U.1, wX9 E (a0 2) a0_2 U.2])) rfl (fun _ => rfl) (fun _ => rfl) (fun _ => rfl) rfl (Nat.le_of_ble_eq_true rfl) dX11_name_88 (fun r88 U88 hw => ?_)
          obtain ⟨v88_0, v88_1⟩ := U88
          refine v_istore (lv' := [(5, .int r88), (4, .int z0), (0, .ref h0), (1, .int y1), (2, .int y2), (3, .int y3)]) C dX11_name_91 (by decide) rfl ?_
          refine v_iload C dX11_name_93 0 rfl ?_
          refine v_if_lt (tgt := 106) C dX11_name_95 (by decide) (fun hc => ?_) (fun hc => ?_)
          · have hw := hw.1 hc
            refine v_iload C dX11_name_106 0 rfl ?_
            exact hret _ _ _ _ r88 (u0, u0_0, v46_0, v88_0, v88_1) dX11_name_108 rfl hw (Nat.le_of_ble_eq_true rfl) (Nat.le_of_ble_eq_true rfl)
          · have hw := hw.2 hc
            refine v_aload_n C dX11_name_98 2 rfl ?_
            refine v_get (ci := 11) C inT11 0 2 rfl rfl (by decide) mF_X11_23_X11_2 rfl dX11_name_99 ?_
            refine v_iconst (v := 0) C dX11_name_102 (by decide) ?_
            obtain ⟨w103, e103⟩ : ∃ z : Md, z = sF v88_1 1 0 := ⟨_, rfl⟩
            have hw := hw w103 e103
            refine v_put (ci := 9) (ws' := [wX11 E h0 a0 u0, wX8 E (a0 0) a0_0 u0_0, wX2 E (a0_0 2) a0_0_2 v46_0, wX7 E (a0_0 3) a0_0_3 v88_0, wX9 E (a0 2) a0_2 w103].flatten) C tyX9 tyX9_ok nmX9 inT9 31 1 rfl rfl (by decide) mF_X11_72_X9_1 rfl rfl rfl rfl (Nat.le_of_ble_eq_true rfl) (by rw [e103]; rfl) dX11_name_103 ?_
            refine v_iload C dX11_name_106 0 rfl ?_
            exact hret _ _ _ _ r88 (u0, u0_0, v46_0, v88_0, w103) dX11_name_108 rfl hw (Nat.le_of_ble_eq_true rfl) (Nat.le_of_ble_eq_true rfl)
        · have hw := hw.2 hc
          refine v_bipush (v := (-2)) C dX11_name_71 (by decide) ?_
          exact hret _ _ _ _ ((-2)) (u0, u0_0, v46_0, u0_0_3, v65_0) dX11_name_73 rfl hw (Nat.le_of_ble_eq_true rfl) (Nat.le_of_ble_eq_true rfl)
set_option maxHeartbeats 4000000 in
set_option maxRecDepth 100000 in
theorem jX11_name_26 {X : VX} {E : VE} {l : Launch} (h0 : Nat) (a0 : Nat → Nat) (a0_0 : Nat → Nat) (a0_0_2 : Nat → Nat) (a0_0_3 : Nat → Nat) (a0_2 : Nat → Nat)  (Q : Int32 → Md → Md → Md → Md → Md → Prop) (C : VC X cX11_name 6 RX11 (rmL 2 0 0) E l) (hret : RetI X cX11_name .int 0 0 (fun (U : Md × Md × Md × Md × Md) => [wX11 E h0 a0 U.1, wX8 E (a0 0) a0_0 U.2.1, wX2 E (a0_0 2) a0_0_2 U.2.2.1, wX7 E (a0_0 3) a0_0_3 U.2.2.2.1, wX9 E (a0 2) a0_2 U.2.2.2.2].flatten) (fun (r : Int32) (U : Md × Md × Md × Md × Md) => Q r U.1 U.2.1 U.2.2.1 U.2.2.2.1 U.2.2.2.2))  : ∀ (u0 : Md) (u0_0 : Md) (u0_0_2 : Md) (u0_0_3 : Md) (u0_2 : Md) (y1 : Int32) (y2 : Int32) (y3 : Int32), qX11_name_26 Q u0 u0_0 u0_0_2 u0_0_3 u0_2 y1 y2 y3 → VV X 0 0 ([wX11 E h0 a0 u0, wX8 E (a0 0) a0_0 u0_0, wX2 E (a0_0 2) a0_0_2 u0_0_2, wX7 E (a0_0 3) a0_0_3 u0_0_3, wX9 E (a0 2) a0_2 u0_2].flatten) [(0, .ref h0), (1, .int y1), (2, .int y2), (3, .int y3)] 26 [] := by
  intro u0 u0_0 u0_0_2 u0_0_3 u0_2 y1 y2 y3 hw
  unfold qX11_name_26 at hw
  refine v_iconst (v := 1) C dX11_name_26 (by decide) ?_
  refine v_goto (tgt := 31) C dX11_name_27 (by decide) ?_
  exact jX11_name_31 h0 a0 a0_0 a0_0_2 a0_0_3 a0_2 Q C hret u0 u0_0 u0_0_2 u0_0_3 u0_2 y1 y2 y3 1 hw
set_option maxHeartbeats 4000000 in
set_option maxRecDepth 100000 in
theorem jX11_name_30 {X : VX} {E : VE} {l : Launch} (h0 : Nat) (a0 : Nat → Nat) (a0_0 : Nat → Nat) (a0_0_2 : Nat → Nat) (a0_0_3 : Nat → Nat) (a0_2 : Nat → Nat)  (Q : Int32 → Md → Md → Md → Md → Md → Prop) (C : VC X cX11_name 6 RX11 (rmL 2 0 0) E l) (hret : RetI X cX11_name .int 0 0 (fun (U : Md × Md × Md × Md × Md) => [wX11 E h0 a0 U.1, wX8 E (a0 0) a0_0 U.2.1, wX2 E (a0_0 2) a0_0_2 U.2.2.1, wX7 E (a0_0 3) a0_0_3 U.2.2.2.1, wX9 E (a0 2) a0_2 U.2.2.2.2].flatten) (fun (r : Int32) (U : Md × Md × Md × Md × Md) => Q r U.1 U.2.1 U.2.2.1 U.2.2.2.1 U.2.2.2.2))  : ∀ (u0 : Md) (u0_0 : Md) (u0_0_2 : Md) (u0_0_3 : Md) (u0_2 : Md) (y1 : Int32) (y2 : Int32) (y3 : Int32), qX11_name_30 Q u0 u0_0 u0_0_2 u0_0_3 u0_2 y1 y2 y3 → VV X 0 0 ([wX11 E h0 a0 u0, wX8 E (a0 0) a0_0 u0_0, wX2 E (a0_0 2) a0_0_2 u0_0_2, wX7 E (a0_0 3) a0_0_3 u0_0_3, wX9 E (a0 2) a0_2 u0_2].flatten) [(0, .ref h0), (1, .int y1), (2, .int y2), (3, .int y3)] 30 [] := by
  intro u0 u0_0 u0_0_2 u0_0_3 u0_2 y1 y2 y3 hw
  unfold qX11_name_30 at hw
  refine v_iconst (v := 0) C dX11_name_30 (by decide) ?_
  exact jX11_name_31 h0 a0 a0_0 a0_0_2 a0_0_3 a0_2 Q C hret u0 u0_0 u0_0_2 u0_0_3 u0_2 y1 y2 y3 0 hw
set_option maxHeartbeats 4000000 in
set_option maxRecDepth 100000 in
theorem kX11_name {l : Launch} {E : VE} (h0 : Nat) (a0 : Nat → Nat) (a0_0 : Nat → Nat) (a0_0_2 : Nat → Nat) (a0_0_3 : Nat → Nat) (a0_2 : Nat → Nat) (u0 : Md) (u0_0 : Md) (u0_0_2 : Md) (u0_0_3 : Md) (u0_2 : Md) (x1 : Int32) (x2 : Int32) (x3 : Int32) {Q : Int32 → Md → Md → Md → Md → Md → Prop} (hw : qX11_name u0 u0_0 u0_0_2 u0_0_3 u0_2 x1 x2 x3 Q) : MI l yX11_name cX11_name 6 .int 2 0 0 E [.ref h0, .int x1, .int x2, .int x3] ([wX11 E h0 a0 u0, wX8 E (a0 0) a0_0 u0_0, wX2 E (a0_0 2) a0_0_2 u0_0_2, wX7 E (a0_0 3) a0_0_3 u0_0_3, wX9 E (a0 2) a0_2 u0_2].flatten) (fun (U : Md × Md × Md × Md × Md) => [wX11 E h0 a0 U.1, wX8 E (a0 0) a0_0 U.2.1, wX2 E (a0_0 2) a0_0_2 U.2.2.1, wX7 E (a0_0 3) a0_0_3 U.2.2.2.1, wX9 E (a0 2) a0_2 U.2.2.2.2].flatten) (fun (r : Int32) (U : Md × Md × Md × Md × Md) => Q r U.1 U.2.1 U.2.2.1 U.2.2.2.1 U.2.2.2.2) := by
  refine MI.of (own := RX11) (by decide) rfl (Nat.le_of_ble_eq_true rfl) ?_
  intro X C hini hret
  show VV X 0 0 ([wX11 E h0 a0 u0, wX8 E (a0 0) a0_0 u0_0, wX2 E (a0_0 2) a0_0_2 u0_0_2, wX7 E (a0_0 3) a0_0_3 u0_0_3, wX9 E (a0 2) a0_2 u0_2].flatten) [(0, .ref h0), (1, .int x1), (2, .int x2), (3, .int x3)] 0 []
  unfold qX11_name at hw
  refine v_iload_n C dX11_name_0 3 rfl ?_
  refine v_iconst (v := (-1)) C dX11_name_1 (by decide) ?_
  refine v_icmp_eq (tgt := 26) C dX11_name_2 (by decide) (fun hc => ?_) (fun hc => ?_)
  · have hw := hw.1 hc
    exact jX11_name_26 h0 a0 a0_0 a0_0_2 a0_0_3 a0_2 Q C hret u0 u0_0 u0_0_2 u0_0_3 u0_2 x1 x2 x3 hw
  · have hw := hw.2 hc
    refine v_iload_n C dX11_name_5 3 rfl ?_
    refine v_bipush (v := (-9)) C dX11_name_6 (by decide) ?_
    refine v_icmp_eq (tgt := 26) C dX11_name_8 (by decide) (fun hc => ?_) (fun hc => ?_)
    · have hw := hw.1 hc
      exact jX11_name_26 h0 a0 a0_0 a0_0_2 a0_0_3 a0_2 Q C hret u0 u0_0 u0_0_2 u0_0_3 u0_2 x1 x2 x3 hw
    · have hw := hw.2 hc
      refine v_iload_n C dX11_name_11 3 rfl ?_
      refine v_if_lt (tgt := 30) C dX11_name_12 (by decide) (fun hc => ?_) (fun hc => ?_)
      · have hw := hw.1 hc
        exact jX11_name_30 h0 a0 a0_0 a0_0_2 a0_0_3 a0_2 Q C hret u0 u0_0 u0_0_2 u0_0_3 u0_2 x1 x2 x3 hw
      · have hw := hw.2 hc
        refine v_iload_n C dX11_name_15 3 rfl ?_
        refine v_aload_n C dX11_name_16 0 rfl ?_
        refine v_get (ci := 11) C inT11 0 0 rfl rfl (by decide) mF_X11_10_X11_0 rfl dX11_name_17 ?_
        refine v_get (ci := 8) C inT8 5 0 rfl rfl (by decide) mF_X11_84_X8_0 rfl dX11_name_20 ?_
        refine v_icmp_gt (tgt := 30) C dX11_name_23 (by decide) (fun hc => ?_) (fun hc => ?_)
        · have hw := hw.1 hc
          exact jX11_name_30 h0 a0 a0_0 a0_0_2 a0_0_3 a0_2 Q C hret u0 u0_0 u0_0_2 u0_0_3 u0_2 x1 x2 x3 hw
        · have hw := hw.2 hc
          exact jX11_name_26 h0 a0 a0_0 a0_0_2 a0_0_3 a0_2 Q C hret u0 u0_0 u0_0_2 u0_0_3 u0_2 x1 x2 x3 hw
set_option maxHeartbeats 4000000 in
set_option maxRecDepth 100000 in
theorem kX11_taken {l : Launch} {E : VE} (h0 : Nat) (a0 : Nat → Nat) (a0_0 : Nat → Nat) (a0_2 : Nat → Nat) (u0 : Md) (u0_0 : Md) (u0_2 : Md) (x1 : Int32) {Q : Int32 → Md → Md → Md → Prop} (hw : qX11_taken u0 u0_0 u0_2 x1 Q) : MI l yX11_taken cX11_taken 2 .int 1 0 0 E [.ref h0, .int x1] ([wX11 E h0 a0 u0, wX8 E (a0 0) a0_0 u0_0, wX9 E (a0 2) a0_2 u0_2].flatten) (fun (U : Md × Md × Md) => [wX11 E h0 a0 U.1, wX8 E (a0 0) a0_0 U.2.1, wX9 E (a0 2) a0_2 U.2.2].flatten) (fun (r : Int32) (U : Md × Md × Md) => Q r U.1 U.2.1 U.2.2) := by
  refine MI.of (own := RX11) (by decide) rfl (Nat.le_of_ble_eq_true rfl) ?_
  intro X C hini hret
  show VV X 0 0 ([wX11 E h0 a0 u0, wX8 E (a0 0) a0_0 u0_0, wX9 E (a0 2) a0_2 u0_2].flatten) [(0, .ref h0), (1, .int x1)] 0 []
  unfold qX11_taken at hw
  refine v_aload_n C dX11_taken_0 0 rfl ?_
  refine v_get (ci := 11) C inT11 0 2 rfl rfl (by decide) mF_X11_23_X11_2 rfl dX11_taken_1 ?_
  refine v_iconst (v := 0) C dX11_taken_4 (by decide) ?_
  obtain ⟨w5, e5⟩ : ∃ z : Md, z = sF u0_2 1 0 := ⟨_, rfl⟩
  have hw := hw w5 e5
  refine v_put (ci := 9) (ws' := [wX11 E h0 a0 u0, wX8 E (a0 0) a0_0 u0_0, wX9 E (a0 2) a0_2 w5].flatten) C tyX9 tyX9_ok nmX9 inT9 7 1 rfl rfl (by decide) mF_X11_72_X9_1 rfl rfl rfl rfl (Nat.le_of_ble_eq_true rfl) (by rw [e5]; rfl) dX11_taken_5 ?_
  refine v_aload_n C dX11_taken_8 0 rfl ?_
  refine v_get (ci := 11) C inT11 0 2 rfl rfl (by decide) mF_X11_23_X11_2 rfl dX11_taken_9 ?_
  refine v_get (ci := 9) C inT9 7 2 rfl rfl (by decide) mF_X11_173_X9_2 rfl dX11_taken_12 ?_
  refine v_if_eq (tgt := 21) C dX11_taken_15 (by decide) (fun hc => ?_) (fun hc => ?_)
  · have hw := hw.1 hc
    refine v_aload_n C dX11_taken_21 0 rfl ?_
    refine v_get (ci := 11) C inT11 0 0 rfl rfl (by decide) mF_X11_10_X11_0 rfl dX11_taken_22 ?_
    refine v_callVMv (st := []) (ci := 8) (qb := 5) C (kX8_mark ((a0 0)) a0_0 _ hw) mM_X11_108 mI_X8 mC_X8_mark mN_X8_mark mS_X8_mark rfl rfl hd_X8_mark ⟨Nat.le_of_ble_eq_true rfl, Nat.le_of_ble_eq_true rfl⟩ ⟨Nat.le_of_ble_eq_true rfl, Nat.le_of_ble_eq_true rfl⟩ [1] [0, 2] (N0 := 3) rfl (by decide) (ms2 := (fun (U : Md) => [wX11 E h0 a0 u0, wX8 E (a0 0) a0_0 U, wX9 E (a0 2) a0_2 w5])) rfl (fun _ => rfl) (fun _ => rfl) (fun _ => rfl) rfl (Nat.le_of_ble_eq_true rfl) dX11_taken_25 (fun v25_0 hw => ?_)
    refine v_iload_n C dX11_taken_28 1 rfl ?_
    exact hret _ _ _ _ x1 (u0, v25_0, w5) dX11_taken_29 rfl hw (Nat.le_of_ble_eq_true rfl) (Nat.le_of_ble_eq_true rfl)
  · have hw := hw.2 hc
    refine v_bipush (v := (-4)) C dX11_taken_18 (by decide) ?_
    exact hret _ _ _ _ ((-4)) (u0, u0_0, w5) dX11_taken_20 rfl hw (Nat.le_of_ble_eq_true rfl) (Nat.le_of_ble_eq_true rfl)
set_option maxHeartbeats 4000000 in
set_option maxRecDepth 100000 in
theorem kX11_spelling {l : Launch} {E : VE} (h0 : Nat) (a0 : Nat → Nat) (a0_0 : Nat → Nat) (a0_0_3 : Nat → Nat) (a0_2 : Nat → Nat) (u0 : Md) (u0_0 : Md) (u0_0_3 : Md) (u0_2 : Md) (x1 : Int32) {Q : Int32 → Md → Md → Md → Md → Prop} (hw : qX11_spelling u0 u0_0 u0_0_3 u0_2 x1 Q) : MI l yX11_spelling cX11_spelling 3 .int 8 0 0 E [.ref h0, .int x1] ([wX11 E h0 a0 u0, wX8 E (a0 0) a0_0 u0_0, wX7 E (a0_0 3) a0_0_3 u0_0_3, wX9 E (a0 2) a0_2 u0_2].flatten) (fun (U : Md × Md × Md × Md) => [wX11 E h0 a0 U.1, wX8 E (a0 0) a0_0 U.2.1, wX7 E (a0_0 3) a0_0_3 U.2.2.1, wX9 E (a0 2) a0_2 U.2.2.2].flatten) (fun (r : Int32) (U : Md × Md × Md × Md) => Q r U.1 U.2.1 U.2.2.1 U.2.2.2) := by
  refine MI.of (own := RX11) (by decide) rfl (Nat.le_of_ble_eq_true rfl) ?_
  intro X C hini hret
  show VV X 0 0 ([wX11 E h0 a0 u0, wX8 E (a0 0) a0_0 u0_0, wX7 E (a0_0 3) a0_0_3 u0_0_3, wX9 E (a0 2) a0_2 u0_2].flatten) [(0, .ref h0), (1, .int x1)] 0 []
  unfold qX11_spelling at hw
  refine v_iload_n C dX11_spelling_0 1 rfl ?_
  refine v_callSPi (st := []) C (kX11_isTongue _ hw) mM_X11_118 mI_X11 mC_X11_isTongue mT_X11_isTongue hd_X11_isTongue ⟨Nat.le_of_ble_eq_true rfl, Nat.le_of_ble_eq_true rfl⟩ ⟨Nat.le_of_ble_eq_true rfl, Nat.le_of_ble_eq_true rfl⟩ rfl (Nat.le_of_ble_eq_true rfl) dX11_spelling_1 (fun r1 U1 hw => ?_)
  obtain ⟨h01_1, hw⟩ := hw
  have hw := hw h01_1
  refine v_if_ne (tgt := 10) C dX11_spelling_4 (by decide) (fun hc => ?_) (fun hc => ?_)
  · have hw := hw.1 hc
    refine v_aload_n C dX11_spelling_10 0 rfl ?_
    refine v_get (ci := 11) C inT11 0 0 rfl rfl (by decide) mF_X11_10_X11_0 rfl dX11_spelling_11 ?_
    refine v_get (ci := 8) C inT8 5 3 rfl rfl (by decide) mF_X11_142_X8_3 rfl dX11_spelling_14 ?_
    refine v_get (ci := 7) C inT7 7 6 rfl rfl (by decide) mF_X11_150_X7_6 rfl dX11_spelling_17 ?_
    refine v_bipush (v := 12) C dX11_spelling_20 (by decide) ?_
    refine v_icmp_lt (tgt := 28) C dX11_spelling_22 (by decide) (fun hc => ?_) (fun hc => ?_)
    · have hw := hw.1 hc
      refine v_aload_n C dX11_spelling_28 0 rfl ?_
      refine v_get (ci := 11) C inT11 0 0 rfl rfl (by decide) mF_X11_10_X11_0 rfl dX11_spelling_29 ?_
      refine v_get (ci := 8) C inT8 5 3 rfl rfl (by decide) mF_X11_142_X8_3 rfl dX11_spelling_32 ?_
      refine v_aload_n C dX11_spelling_35 0 rfl ?_
      refine v_get (ci := 11) C inT11 0 2 rfl rfl (by decide) mF_X11_23_X11_2 rfl dX11_spelling_36 ?_
      refine v_iload_n C dX11_spelling_39 1 rfl ?_
      refine v_aload_n C dX11_spelling_40 0 rfl ?_
      refine v_get (ci := 11) C inT11 0 0 rfl rfl (by decide) mF_X11_10_X11_0 rfl dX11_spelling_41 ?_
      refine v_get (ci := 8) C inT8 5 0 rfl rfl (by decide) mF_X11_84_X8_0 rfl dX11_spelling_44 ?_
      refine v_callVMi (st := []) (ci := 7) (qb := 7) C (kX7_readSpelling ((a0_0 3)) ((a0 2)) a0_0_3 a0_2 _ _ _ _ hw) mM_X11_153 mI_X7 mC_X7_readSpelling mN_X7_readSpelling mS_X7_readSpelling rfl rfl hd_X7_readSpelling ⟨Nat.le_of_ble_eq_true rfl, Nat.le_of_ble_eq_true rfl⟩ ⟨Nat.le_of_ble_eq_true rfl, Nat.le_of_ble_eq_true rfl⟩ [2, 3] [0, 1] (N0 := 4) rfl (by decide) (ms2 := (fun (U : Md × Md) => [wX11 E h0 a0 u0, wX8 E (a0 0) a0_0 u0_0, wX7 E (a0_0 3) a0_0_3 U.1, wX9 E (a0 2) a0_2 U.2])) rfl (fun _ => rfl) (fun _ => rfl) (fun _ => rfl) rfl (Nat.le_of_ble_eq_true rfl) dX11_spelling_47 (fun r47 U47 hw => ?_)
      obtain ⟨v47_0, v47_1⟩ := U47
      refine v_istore_n (lv' := [(2, .int r47), (0, .ref h0), (1, .int x1)]) C dX11_spelling_50 (by decide) rfl ?_
      refine v_aload_n C dX11_spelling_51 1 rfl ?_
      refine v_iload_n C dX11_spelling_52 0 rfl ?_
      refine v_callVMi (st := []) (ci := 11) (qb := 0) C (kX11_taken h0 a0 a0_0 a0_2 _ _ _ _ hw) mM_X11_157 mI_X11 mC_X11_taken mN_X11_taken mS_X11_taken rfl rfl hd_X11_taken ⟨Nat.le_of_ble_eq_true rfl, Nat.le_of_ble_eq_true rfl⟩ ⟨Nat.le_of_ble_eq_true rfl, Nat.le_of_ble_eq_true rfl⟩ [0, 1, 3] [2] (N0 := 4) rfl (by decide) (ms2 := (fun (U : Md × Md × Md) => [wX11 E h0 a0 U.1, wX8 E (a0 0) a0_0 U.2.1, wX7 E (a0_0 3) a0_0_3 v47_0, wX9 E (a0 2) a0_2 U.2.2])) rfl (fun _ => rfl) (fun _ => rfl) (fun _ => rfl) rfl (Nat.le_of_ble_eq_true rfl) dX11_spelling_53 (fun r53 U53 hw => ?_)
      obtain ⟨v53_0, v53_1, v53_2⟩ := U53
      exact hret _ _ _ _ r53 (v53_0, v53_1, v47_0, v53_2) dX11_spelling_56 rfl hw (Nat.le_of_ble_eq_true rfl) (Nat.le_of_ble_eq_true rfl)
    · have hw := hw.2 hc
      refine v_bipush (v := (-3)) C dX11_spelling_25 (by decide) ?_
      exact hret _ _ _ _ ((-3)) (u0, u0_0, u0_0_3, u0_2) dX11_spelling_27 rfl hw (Nat.le_of_ble_eq_true rfl) (Nat.le_of_ble_eq_true rfl)
  · have hw := hw.2 hc
    refine v_bipush (v := (-2)) C dX11_spelling_7 (by decide) ?_
    exact hret _ _ _ _ ((-2)) (u0, u0_0, u0_0_3, u0_2) dX11_spelling_9 rfl hw (Nat.le_of_ble_eq_true rfl) (Nat.le_of_ble_eq_true rfl)
set_option maxHeartbeats 4000000 in
set_option maxRecDepth 100000 in
theorem kX11_act {l : Launch} {E : VE} (h0 : Nat) (a0 : Nat → Nat) (a0_0 : Nat → Nat) (a0_0_4 : Nat → Nat) (a0_2 : Nat → Nat) (u0 : Md) (u0_0 : Md) (u0_0_4 : Md) (u0_2 : Md) {Q : Int32 → Md → Md → Md → Md → Prop} (hw : qX11_act u0 u0_0 u0_0_4 u0_2 Q) : MI l yX11_act cX11_act 2 .int 9 0 0 E [.ref h0] ([wX11 E h0 a0 u0, wX8 E (a0 0) a0_0 u0_0, wX0 E (a0_0 4) a0_0_4 u0_0_4, wX9 E (a0 2) a0_2 u0_2].flatten) (fun (U : Md × Md × Md × Md) => [wX11 E h0 a0 U.1, wX8 E (a0 0) a0_0 U.2.1, wX0 E (a0_0 4) a0_0_4 U.2.2.1, wX9 E (a0 2) a0_2 U.2.2.2].flatten) (fun (r : Int32) (U : Md × Md × Md × Md) => Q r U.1 U.2.1 U.2.2.1 U.2.2.2) := by
  refine MI.of (own := RX11) (by decide) rfl (Nat.le_of_ble_eq_true rfl) ?_
  intro X C hini hret
  show VV X 0 0 ([wX11 E h0 a0 u0, wX8 E (a0 0) a0_0 u0_0, wX0 E (a0_0 4) a0_0_4 u0_0_4, wX9 E (a0 2) a0_2 u0_2].flatten) [(0, .ref h0)] 0 []
  unfold qX11_act at hw
  refine v_aload_n C dX11_act_0 0 rfl ?_
  refine v_get (ci := 11) C inT11 0 0 rfl rfl (by decide) mF_X11_10_X11_0 rfl dX11_act_1 ?_
  refine v_get (ci := 8) C inT8 5 4 rfl rfl (by decide) mF_X11_161_X8_4 rfl dX11_act_4 ?_
  refine v_get (ci := 0) C inT0 7 0 rfl rfl (by decide) mF_X11_165_X0_0 rfl dX11_act_7 ?_
  refine v_bipush (v := 8) C dX11_act_10 (by decide) ?_
  refine v_icmp_lt (tgt := 18) C dX11_act_12 (by decide) (fun hc => ?_) (fun hc => ?_)
  · have hw := hw.1 hc
    refine v_aload_n C dX11_act_18 0 rfl ?_
    refine v_get (ci := 11) C inT11 0 0 rfl rfl (by decide) mF_X11_10_X11_0 rfl dX11_act_19 ?_
    refine v_get (ci := 8) C inT8 5 4 rfl rfl (by decide) mF_X11_161_X8_4 rfl dX11_act_22 ?_
    refine v_aload_n C dX11_act_25 0 rfl ?_
    refine v_get (ci := 11) C inT11 0 2 rfl rfl (by decide) mF_X11_23_X11_2 rfl dX11_act_26 ?_
    refine v_aload_n C dX11_act_29 0 rfl ?_
    refine v_get (ci := 11) C inT11 0 0 rfl rfl (by decide) mF_X11_10_X11_0 rfl dX11_act_30 ?_
    refine v_get (ci := 8) C inT8 5 0 rfl rfl (by decide) mF_X11_84_X8_0 rfl dX11_act_33 ?_
    refine v_callVMi (st := []) (ci := 0) (qb := 7) C (kX0_readAct ((a0_0 4)) ((a0 2)) a0_0_4 a0_2 _ _ _ hw) mM_X11_169 mI_X0 mC_X0_readAct mN_X0_readAct mS_X0_readAct rfl rfl hd_X0_readAct ⟨Nat.le_of_ble_eq_true rfl, Nat.le_of_ble_eq_true rfl⟩ ⟨Nat.le_of_ble_eq_true rfl, Nat.le_of_ble_eq_true rfl⟩ [2, 3] [0, 1] (N0 := 4) rfl (by decide) (ms2 := (fun (U : Md × Md) => [wX11 E h0 a0 u0, wX8 E (a0 0) a0_0 u0_0, wX0 E (a0_0 4) a0_0_4 U.1, wX9 E (a0 2) a0_2 U.2])) rfl (fun _ => rfl) (fun _ => rfl) (fun _ => rfl) rfl (Nat.le_of_ble_eq_true rfl) dX11_act_36 (fun r36 U36 hw => ?_)
    obtain ⟨v36_0, v36_1⟩ := U36
    refine v_istore_n (lv' := [(1, .int r36), (0, .ref h0)]) C dX11_act_39 (by decide) rfl ?_
    refine v_aload_n C dX11_act_40 1 rfl ?_
    refine v_iload_n C dX11_act_41 0 rfl ?_
    refine v_callVMi (st := []) (ci := 11) (qb := 0) C (kX11_taken h0 a0 a0_0 a0_2 _ _ _ _ hw) mM_X11_157 mI_X11 mC_X11_taken mN_X11_taken mS_X11_taken rfl rfl hd_X11_taken ⟨Nat.le_of_ble_eq_true rfl, Nat.le_of_ble_eq_true rfl⟩ ⟨Nat.le_of_ble_eq_true rfl, Nat.le_of_ble_eq_true rfl⟩ [0, 1, 3] [2] (N0 := 4) rfl (by decide) (ms2 := (fun (U : Md × Md × Md) => [wX11 E h0 a0 U.1, wX8 E (a0 0) a0_0 U.2.1, wX0 E (a0_0 4) a0_0_4 v36_0, wX9 E (a0 2) a0_2 U.2.2])) rfl (fun _ => rfl) (fun _ => rfl) (fun _ => rfl) rfl (Nat.le_of_ble_eq_true rfl) dX11_act_42 (fun r42 U42 hw => ?_)
    obtain ⟨v42_0, v42_1, v42_2⟩ := U42
    exact hret _ _ _ _ r42 (v42_0, v42_1, v36_0, v42_2) dX11_act_45 rfl hw (Nat.le_of_ble_eq_true rfl) (Nat.le_of_ble_eq_true rfl)
  · have hw := hw.2 hc
    refine v_bipush (v := (-3)) C dX11_act_15 (by decide) ?_
    exact hret _ _ _ _ ((-3)) (u0, u0_0, u0_0_4, u0_2) dX11_act_17 rfl hw (Nat.le_of_ble_eq_true rfl) (Nat.le_of_ble_eq_true rfl)
set_option maxHeartbeats 4000000 in
set_option maxRecDepth 100000 in
theorem kX11_fault {l : Launch} {E : VE} (h0 : Nat) (a0 : Nat → Nat) (a0_2 : Nat → Nat) (u0 : Md) (u0_2 : Md) (x1 : Int32) {Q : Int32 → Md → Md → Prop} (hw : qX11_fault u0 u0_2 x1 Q) : MI l yX11_fault cX11_fault 2 .int 0 0 0 E [.ref h0, .int x1] ([wX11 E h0 a0 u0, wX9 E (a0 2) a0_2 u0_2].flatten) (fun (U : Md × Md) => [wX11 E h0 a0 U.1, wX9 E (a0 2) a0_2 U.2].flatten) (fun (r : Int32) (U : Md × Md) => Q r U.1 U.2) := by
  refine MI.of (own := RX11) (by decide) rfl (Nat.le_of_ble_eq_true rfl) ?_
  intro X C hini hret
  show VV X 0 0 ([wX11 E h0 a0 u0, wX9 E (a0 2) a0_2 u0_2].flatten) [(0, .ref h0), (1, .int x1)] 0 []
  unfold qX11_fault at hw
  refine v_iload_n C dX11_fault_0 1 rfl ?_
  refine v_if_ne (tgt := 12) C dX11_fault_1 (by decide) (fun hc => ?_) (fun hc => ?_)
  · have hw := hw.1 hc
    refine v_iload_n C dX11_fault_12 1 rfl ?_
    refine v_iconst (v := 1) C dX11_fault_13 (by decide) ?_
    refine v_icmp_ne (tgt := 27) C dX11_fault_14 (by decide) (fun hc => ?_) (fun hc => ?_)
    · have hw := hw.1 hc
      refine v_iconst (v := (-1)) C dX11_fault_27 (by decide) ?_
      exact hret _ _ _ _ ((-1)) (u0, u0_2) dX11_fault_28 rfl hw (Nat.le_of_ble_eq_true rfl) (Nat.le_of_ble_eq_true rfl)
    · have hw := hw.2 hc
      refine v_aload_n C dX11_fault_17 0 rfl ?_
      refine v_get (ci := 11) C inT11 0 2 rfl rfl (by decide) mF_X11_23_X11_2 rfl dX11_fault_18 ?_
      refine v_get (ci := 9) C inT9 5 3 rfl rfl (by decide) mF_X11_176_X9_3 rfl dX11_fault_21 ?_
      refine v_goto (tgt := 28) C dX11_fault_24 (by decide) ?_
      exact hret _ _ _ _ (gF u0_2 3) (u0, u0_2) dX11_fault_28 rfl hw (Nat.le_of_ble_eq_true rfl) (Nat.le_of_ble_eq_true rfl)
  · have hw := hw.2 hc
    refine v_aload_n C dX11_fault_4 0 rfl ?_
    refine v_get (ci := 11) C inT11 0 2 rfl rfl (by decide) mF_X11_23_X11_2 rfl dX11_fault_5 ?_
    refine v_get (ci := 9) C inT9 5 2 rfl rfl (by decide) mF_X11_173_X9_2 rfl dX11_fault_8 ?_
    exact hret _ _ _ _ (gF u0_2 2) (u0, u0_2) dX11_fault_11 rfl hw (Nat.le_of_ble_eq_true rfl) (Nat.le_of_ble_eq_true rfl)
set_option maxHeartbeats 4000000 in
set_option maxRecDepth 100000 in
theorem kX11_spell {l : Launch} {E : VE} (h0 : Nat) (a0 : Nat → Nat) (a0_0 : Nat → Nat) (a0_0_3 : Nat → Nat) (a0_3 : Nat → Nat) (u0 : Md) (u0_0 : Md) (u0_0_3 : Md) (u0_3 : Md) (x1 : Int32) (x2 : Int32) {Q : Int32 → Md → Md → Md → Md → Prop} (hw : qX11_spell u0 u0_0 u0_0_3 u0_3 x1 x2 Q) : MI l yX11_spell cX11_spell 3 .int 3 0 0 E [.ref h0, .int x1, .int x2] ([wX11 E h0 a0 u0, wX8 E (a0 0) a0_0 u0_0, wX7 E (a0_0 3) a0_0_3 u0_0_3, wX5 E (a0 3) a0_3 u0_3].flatten) (fun (U : Md × Md × Md × Md) => [wX11 E h0 a0 U.1, wX8 E (a0 0) a0_0 U.2.1, wX7 E (a0_0 3) a0_0_3 U.2.2.1, wX5 E (a0 3) a0_3 U.2.2.2].flatten) (fun (r : Int32) (U : Md × Md × Md × Md) => Q r U.1 U.2.1 U.2.2.1 U.2.2.2) := by
  refine MI.of (own := RX11) (by decide) rfl (Nat.le_of_ble_eq_true rfl) ?_
  intro X C hini hret
  show VV X 0 0 ([wX11 E h0 a0 u0, wX8 E (a0 0) a0_0 u0_0, wX7 E (a0_0 3) a0_0_3 u0_0_3, wX5 E (a0 3) a0_3 u0_3].flatten) [(0, .ref h0), (1, .int x1), (2, .int x2)] 0 []
  unfold qX11_spell at hw
  refine v_aload_n C dX11_spell_0 0 rfl ?_
  refine v_get (ci := 11) C inT11 0 0 rfl rfl (by decide) mF_X11_10_X11_0 rfl dX11_spell_1 ?_
  refine v_get (ci := 8) C inT8 5 3 rfl rfl (by decide) mF_X11_142_X8_3 rfl dX11_spell_4 ?_
  refine v_iload_n C dX11_spell_7 1 rfl ?_
  refine v_callVMi (st := []) (ci := 7) (qb := 7) C (kX7_hasName ((a0_0 3)) a0_0_3 _ _ hw) mM_X11_179 mI_X7 mC_X7_hasName mN_X7_hasName mS_X7_hasName rfl rfl hd_X7_hasName ⟨Nat.le_of_ble_eq_true rfl, Nat.le_of_ble_eq_true rfl⟩ ⟨Nat.le_of_ble_eq_true rfl, Nat.le_of_ble_eq_true rfl⟩ [2] [0, 1, 3] (N0 := 4) rfl (by decide) (ms2 := (fun (U : Md) => [wX11 E h0 a0 u0, wX8 E (a0 0) a0_0 u0_0, wX7 E (a0_0 3) a0_0_3 U, wX5 E (a0 3) a0_3 u0_3])) rfl (fun _ => rfl) (fun _ => rfl) (fun _ => rfl) rfl (Nat.le_of_ble_eq_true rfl) dX11_spell_8 (fun r8 v8_0 hw => ?_)
  obtain ⟨h01_8, hw⟩ := hw
  have hw := hw h01_8
  refine v_if_eq (tgt := 21) C dX11_spell_11 (by decide) (fun hc => ?_) (fun hc => ?_)
  · have hw := hw.1 hc
    refine v_bipush (v := (-2)) C dX11_spell_21 (by decide) ?_
    exact hret _ _ _ _ ((-2)) (u0, u0_0, v8_0, u0_3) dX11_spell_23 rfl hw (Nat.le_of_ble_eq_true rfl) (Nat.le_of_ble_eq_true rfl)
  · have hw := hw.2 hc
    refine v_iload_n C dX11_spell_14 2 rfl ?_
    refine v_callSPi (st := []) C (kX11_isYear _ hw) mM_X11_80 mI_X11 mC_X11_isYear mT_X11_isYear hd_X11_isYear ⟨Nat.le_of_ble_eq_true rfl, Nat.le_of_ble_eq_true rfl⟩ ⟨Nat.le_of_ble_eq_true rfl, Nat.le_of_ble_eq_true rfl⟩ rfl (Nat.le_of_ble_eq_true rfl) dX11_spell_15 (fun r15 U15 hw => ?_)
    obtain ⟨h01_15, hw⟩ := hw
    have hw := hw h01_15
    refine v_if_ne (tgt := 24) C dX11_spell_18 (by decide) (fun hc => ?_) (fun hc => ?_)
    · have hw := hw.1 hc
      refine v_aload_n C dX11_spell_24 0 rfl ?_
      refine v_get (ci := 11) C inT11 0 3 rfl rfl (by decide) mF_X11_30_X11_3 rfl dX11_spell_25 ?_
      refine v_iconst (v := 0) C dX11_spell_28 (by decide) ?_
      obtain ⟨w29, e29⟩ : ∃ z : Md, z = sF u0_3 0 0 := ⟨_, rfl⟩
      have hw := hw w29 e29
      refine v_put (ci := 5) (ws' := [wX11 E h0 a0 u0, wX8 E (a0 0) a0_0 u0_0, wX7 E (a0_0 3) a0_0_3 v8_0, wX5 E (a0 3) a0_3 w29].flatten) C tyX5 tyX5_ok nmX5 inT5 22 0 rfl rfl (by decide) mF_X11_182_X5_0 rfl rfl rfl rfl (Nat.le_of_ble_eq_true rfl) (by rw [e29]; rfl) dX11_spell_29 ?_
      refine v_aload_n C dX11_spell_32 0 rfl ?_
      refine v_get (ci := 11) C inT11 0 0 rfl rfl (by decide) mF_X11_10_X11_0 rfl dX11_spell_33 ?_
      refine v_get (ci := 8) C inT8 5 3 rfl rfl (by decide) mF_X11_142_X8_3 rfl dX11_spell_36 ?_
      refine v_aload_n C dX11_spell_39 0 rfl ?_
      refine v_get (ci := 11) C inT11 0 3 rfl rfl (by decide) mF_X11_30_X11_3 rfl dX11_spell_40 ?_
      refine v_iload_n C dX11_spell_43 1 rfl ?_
      refine v_iload_n C dX11_spell_44 2 rfl ?_
      refine v_callVMv (st := []) (ci := 7) (qb := 7) C (kX7_spellInto ((a0_0 3)) ((a0 3)) a0_0_3 a0_3 _ _ _ _ hw) mM_X11_183 mI_X7 mC_X7_spellInto mN_X7_spellInto mS_X7_spellInto rfl rfl hd_X7_spellInto ⟨Nat.le_of_ble_eq_true rfl, Nat.le_of_ble_eq_true rfl⟩ ⟨Nat.le_of_ble_eq_true rfl, Nat.le_of_ble_eq_true rfl⟩ [2, 3] [0, 1] (N0 := 4) rfl (by decide) (ms2 := (fun (U : Md × Md) => [wX11 E h0 a0 u0, wX8 E (a0 0) a0_0 u0_0, wX7 E (a0_0 3) a0_0_3 U.1, wX5 E (a0 3) a0_3 U.2])) rfl (fun _ => rfl) (fun _ => rfl) (fun _ => rfl) rfl (Nat.le_of_ble_eq_true rfl) dX11_spell_45 (fun U45 hw => ?_)
      obtain ⟨v45_0, v45_1⟩ := U45
      refine v_aload_n C dX11_spell_48 0 rfl ?_
      refine v_get (ci := 11) C inT11 0 3 rfl rfl (by decide) mF_X11_30_X11_3 rfl dX11_spell_49 ?_
      refine v_get (ci := 5) C inT5 22 0 rfl rfl (by decide) mF_X11_182_X5_0 rfl dX11_spell_52 ?_
      exact hret _ _ _ _ (gF v45_1 0) (u0, u0_0, v45_0, v45_1) dX11_spell_55 rfl hw (Nat.le_of_ble_eq_true rfl) (Nat.le_of_ble_eq_true rfl)
    · have hw := hw.2 hc
      refine v_bipush (v := (-2)) C dX11_spell_21 (by decide) ?_
      exact hret _ _ _ _ ((-2)) (u0, u0_0, v8_0, u0_3) dX11_spell_23 rfl hw (Nat.le_of_ble_eq_true rfl) (Nat.le_of_ble_eq_true rfl)
set_option maxHeartbeats 4000000 in
set_option maxRecDepth 100000 in
theorem kX11_letter {l : Launch} {E : VE} (h0 : Nat) (a0 : Nat → Nat) (a0_3 : Nat → Nat) (u0 : Md) (u0_3 : Md) (x1 : Int32) {Q : Int32 → Md → Md → Prop} (hw : qX11_letter u0 u0_3 x1 Q) : MI l yX11_letter cX11_letter 2 .int 1 0 0 E [.ref h0, .int x1] ([wX11 E h0 a0 u0, wX5 E (a0 3) a0_3 u0_3].flatten) (fun (U : Md × Md) => [wX11 E h0 a0 U.1, wX5 E (a0 3) a0_3 U.2].flatten) (fun (r : Int32) (U : Md × Md) => Q r U.1 U.2) := by
  refine MI.of (own := RX11) (by decide) rfl (Nat.le_of_ble_eq_true rfl) ?_
  intro X C hini hret
  show VV X 0 0 ([wX11 E h0 a0 u0, wX5 E (a0 3) a0_3 u0_3].flatten) [(0, .ref h0), (1, .int x1)] 0 []
  unfold qX11_letter at hw
  refine v_aload_n C dX11_letter_0 0 rfl ?_
  refine v_get (ci := 11) C inT11 0 3 rfl rfl (by decide) mF_X11_30_X11_3 rfl dX11_letter_1 ?_
  refine v_iload_n C dX11_letter_4 1 rfl ?_
  refine v_callVMi (st := []) (ci := 5) (qb := 5) C (kX5_has ((a0 3)) a0_3 _ _ hw) mM_X11_187 mI_X5 mC_X5_has mN_X5_has mS_X5_has rfl rfl hd_X5_has ⟨Nat.le_of_ble_eq_true rfl, Nat.le_of_ble_eq_true rfl⟩ ⟨Nat.le_of_ble_eq_true rfl, Nat.le_of_ble_eq_true rfl⟩ [1] [0] (N0 := 2) rfl (by decide) (ms2 := (fun (U : Md) => [wX11 E h0 a0 u0, wX5 E (a0 3) a0_3 U])) rfl (fun _ => rfl) (fun _ => rfl) (fun _ => rfl) rfl (Nat.le_of_ble_eq_true rfl) dX11_letter_5 (fun r5 v5_0 hw => ?_)
  obtain ⟨h01_5, hw⟩ := hw
  have hw := hw h01_5
  refine v_if_eq (tgt := 23) C dX11_letter_8 (by decide) (fun hc => ?_) (fun hc => ?_)
  · have hw := hw.1 hc
    refine v_iconst (v := (-1)) C dX11_letter_23 (by decide) ?_
    exact hret _ _ _ _ ((-1)) (u0, v5_0) dX11_letter_24 rfl hw (Nat.le_of_ble_eq_true rfl) (Nat.le_of_ble_eq_true rfl)
  · have hw := hw.2 hc
    refine v_aload_n C dX11_letter_11 0 rfl ?_
    refine v_get (ci := 11) C inT11 0 3 rfl rfl (by decide) mF_X11_30_X11_3 rfl dX11_letter_12 ?_
    refine v_get (ci := 5) C inT5 5 1 rfl rfl (by decide) mF_X11_188_X5_1 rfl dX11_letter_15 ?_
    refine v_iload_n C dX11_letter_18 1 rfl ?_
    obtain ⟨hi19, hw⟩ := hw
    refine v_bald C 6 rfl hi19 dX11_letter_19 ?_
    refine v_goto (tgt := 24) C dX11_letter_20 (by decide) ?_
    exact hret _ _ _ _ ((gB v5_0 1 x1.toNatClampNeg).toInt32) (u0, v5_0) dX11_letter_24 rfl hw (Nat.le_of_ble_eq_true rfl) (Nat.le_of_ble_eq_true rfl)
set_option maxHeartbeats 4000000 in
set_option maxRecDepth 100000 in
theorem kX11_led {l : Launch} {E : VE} (h0 : Nat) (a0 : Nat → Nat) (a0_3 : Nat → Nat) (u0 : Md) (u0_3 : Md) (x1 : Int32) {Q : Int32 → Md → Md → Prop} (hw : qX11_led u0 u0_3 x1 Q) : MI l yX11_led cX11_led 2 .int 1 0 0 E [.ref h0, .int x1] ([wX11 E h0 a0 u0, wX5 E (a0 3) a0_3 u0_3].flatten) (fun (U : Md × Md) => [wX11 E h0 a0 U.1, wX5 E (a0 3) a0_3 U.2].flatten) (fun (r : Int32) (U : Md × Md) => Q r U.1 U.2) := by
  refine MI.of (own := RX11) (by decide) rfl (Nat.le_of_ble_eq_true rfl) ?_
  intro X C hini hret
  show VV X 0 0 ([wX11 E h0 a0 u0, wX5 E (a0 3) a0_3 u0_3].flatten) [(0, .ref h0), (1, .int x1)] 0 []
  unfold qX11_led at hw
  refine v_aload_n C dX11_led_0 0 rfl ?_
  refine v_get (ci := 11) C inT11 0 3 rfl rfl (by decide) mF_X11_30_X11_3 rfl dX11_led_1 ?_
  refine v_iload_n C dX11_led_4 1 rfl ?_
  refine v_callVMi (st := []) (ci := 5) (qb := 5) C (kX5_has ((a0 3)) a0_3 _ _ hw) mM_X11_187 mI_X5 mC_X5_has mN_X5_has mS_X5_has rfl rfl hd_X5_has ⟨Nat.le_of_ble_eq_true rfl, Nat.le_of_ble_eq_true rfl⟩ ⟨Nat.le_of_ble_eq_true rfl, Nat.le_of_ble_eq_true rfl⟩ [1] [0] (N0 := 2) rfl (by decide) (ms2 := (fun (U : Md) => [wX11 E h0 a0 u0, wX5 E (a0 3) a0_3 U])) rfl (fun _ => rfl) (fun _ => rfl) (fun _ => rfl) rfl (Nat.le_of_ble_eq_true rfl) dX11_led_5 (fun r5 v5_0 hw => ?_)
  obtain ⟨h01_5, hw⟩ := hw
  have hw := hw h01_5
  refine v_if_eq (tgt := 23) C dX11_led_8 (by decide) (fun hc => ?_) (fun hc => ?_)
  · have hw := hw.1 hc
    refine v_iconst (v := (-1)) C dX11_led_23 (by decide) ?_
    exact hret _ _ _ _ ((-1)) (u0, v5_0) dX11_led_24 rfl hw (Nat.le_of_ble_eq_true rfl) (Nat.le_of_ble_eq_true rfl)
  · have hw := hw.2 hc
    refine v_aload_n C dX11_led_11 0 rfl ?_
    refine v_get (ci := 11) C inT11 0 3 rfl rfl (by decide) mF_X11_30_X11_3 rfl dX11_led_12 ?_
    refine v_get (ci := 5) C inT5 5 2 rfl rfl (by decide) mF_X11_192_X5_2 rfl dX11_led_15 ?_
    refine v_iload_n C dX11_led_18 1 rfl ?_
    obtain ⟨hi19, hw⟩ := hw
    refine v_iald C 7 rfl hi19 dX11_led_19 ?_
    refine v_goto (tgt := 24) C dX11_led_20 (by decide) ?_
    exact hret _ _ _ _ (gA v5_0 2 x1.toNatClampNeg) (u0, v5_0) dX11_led_24 rfl hw (Nat.le_of_ble_eq_true rfl) (Nat.le_of_ble_eq_true rfl)
set_option maxHeartbeats 4000000 in
set_option maxRecDepth 100000 in
theorem kX11_alikes {l : Launch} {E : VE} (h0 : Nat) (a0 : Nat → Nat) (a0_0 : Nat → Nat) (a0_0_3 : Nat → Nat) (a0_4 : Nat → Nat) (a0_4_6 : Nat → Nat) (u0 : Md) (u0_0 : Md) (u0_0_3 : Md) (u0_4 : Md) (u0_4_6 : Md) (x1 : Int32) {Q : Int32 → Md → Md → Md → Md → Md → Prop} (hw : qX11_alikes u0 u0_0 u0_0_3 u0_4 u0_4_6 x1 Q) : MI l yX11_alikes cX11_alikes 2 .int 5 0 0 E [.ref h0, .int x1] ([wX11 E h0 a0 u0, wX8 E (a0 0) a0_0 u0_0, wX7 E (a0_0 3) a0_0_3 u0_0_3, wX10 E (a0 4) a0_4 u0_4, wX5 E (a0_4 6) a0_4_6 u0_4_6].flatten) (fun (U : Md × Md × Md × Md × Md) => [wX11 E h0 a0 U.1, wX8 E (a0 0) a0_0 U.2.1, wX7 E (a0_0 3) a0_0_3 U.2.2.1, wX10 E (a0 4) a0_4 U.2.2.2.1, wX5 E (a0_4 6) a0_4_6 U.2.2.2.2].flatten) (fun (r : Int32) (U : Md × Md × Md × Md × Md) => Q r U.1 U.2.1 U.2.2.1 U.2.2.2.1 U.2.2.2.2) := by
  refine MI.of (own := RX11) (by decide) rfl (Nat.le_of_ble_eq_true rfl) ?_
  intro X C hini hret
  show VV X 0 0 ([wX11 E h0 a0 u0, wX8 E (a0 0) a0_0 u0_0, wX7 E (a0_0 3) a0_0_3 u0_0_3, wX10 E (a0 4) a0_4 u0_4, wX5 E (a0_4 6) a0_4_6 u0_4_6].flatten) [(0, .ref h0), (1, .int x1)] 0 []
  unfold qX11_alikes at hw
  refine v_iload_n C dX11_alikes_0 1 rfl ?_
  refine v_callSPi (st := []) C (kX11_isYear _ hw) mM_X11_80 mI_X11 mC_X11_isYear mT_X11_isYear hd_X11_isYear ⟨Nat.le_of_ble_eq_true rfl, Nat.le_of_ble_eq_true rfl⟩ ⟨Nat.le_of_ble_eq_true rfl, Nat.le_of_ble_eq_true rfl⟩ rfl (Nat.le_of_ble_eq_true rfl) dX11_alikes_1 (fun r1 U1 hw => ?_)
  obtain ⟨h01_1, hw⟩ := hw
  have hw := hw h01_1
  refine v_if_eq (tgt := 25) C dX11_alikes_4 (by decide) (fun hc => ?_) (fun hc => ?_)
  · have hw := hw.1 hc
    refine v_bipush (v := (-2)) C dX11_alikes_25 (by decide) ?_
    exact hret _ _ _ _ ((-2)) (u0, u0_0, u0_0_3, u0_4, u0_4_6) dX11_alikes_27 rfl hw (Nat.le_of_ble_eq_true rfl) (Nat.le_of_ble_eq_true rfl)
  · have hw := hw.2 hc
    refine v_aload_n C dX11_alikes_7 0 rfl ?_
    refine v_get (ci := 11) C inT11 0 4 rfl rfl (by decide) mF_X11_37_X11_4 rfl dX11_alikes_8 ?_
    refine v_aload_n C dX11_alikes_11 0 rfl ?_
    refine v_get (ci := 11) C inT11 0 0 rfl rfl (by decide) mF_X11_10_X11_0 rfl dX11_alikes_12 ?_
    refine v_get (ci := 8) C inT8 5 3 rfl rfl (by decide) mF_X11_142_X8_3 rfl dX11_alikes_15 ?_
    refine v_iload_n C dX11_alikes_18 1 rfl ?_
    refine v_callVMi (st := []) (ci := 10) (qb := 22) C (kX10_alikePairs ((a0 4)) ((a0_0 3)) a0_4 a0_4_6 a0_0_3 _ _ _ _ hw) mM_X11_195 mI_X10 mC_X10_alikePairs mN_X10_alikePairs mS_X10_alikePairs rfl rfl hd_X10_alikePairs ⟨Nat.le_of_ble_eq_true rfl, Nat.le_of_ble_eq_true rfl⟩ ⟨Nat.le_of_ble_eq_true rfl, Nat.le_of_ble_eq_true rfl⟩ [3, 4, 2] [0, 1] (N0 := 5) rfl (by decide) (ms2 := (fun (U : Md × Md × Md) => [wX11 E h0 a0 u0, wX8 E (a0 0) a0_0 u0_0, wX7 E (a0_0 3) a0_0_3 U.2.2, wX10 E (a0 4) a0_4 U.1, wX5 E (a0_4 6) a0_4_6 U.2.1])) rfl (fun _ => rfl) (fun _ => rfl) (fun _ => rfl) rfl (Nat.le_of_ble_eq_true rfl) dX11_alikes_19 (fun r19 U19 hw => ?_)
    obtain ⟨v19_0, v19_1, v19_2⟩ := U19
    refine v_goto (tgt := 27) C dX11_alikes_22 (by decide) ?_
    exact hret _ _ _ _ r19 (u0, u0_0, v19_2, v19_0, v19_1) dX11_alikes_27 rfl hw (Nat.le_of_ble_eq_true rfl) (Nat.le_of_ble_eq_true rfl)
set_option maxHeartbeats 4000000 in
set_option maxRecDepth 100000 in
theorem kX11_edits {l : Launch} {E : VE} (h0 : Nat) (a0 : Nat → Nat) (a0_0 : Nat → Nat) (a0_0_3 : Nat → Nat) (a0_4 : Nat → Nat) (a0_4_6 : Nat → Nat) (a0_4_7 : Nat → Nat) (u0 : Md) (u0_0 : Md) (u0_0_3 : Md) (u0_4 : Md) (u0_4_6 : Md) (u0_4_7 : Md) (x1 : Int32) (x2 : Int32) (x3 : Int32) {Q : Int32 → Md → Md → Md → Md → Md → Md → Prop} (hw : qX11_edits u0 u0_0 u0_0_3 u0_4 u0_4_6 u0_4_7 x1 x2 x3 Q) : MI l yX11_edits cX11_edits 4 .int 4 0 0 E [.ref h0, .int x1, .int x2, .int x3] ([wX11 E h0 a0 u0, wX8 E (a0 0) a0_0 u0_0, wX7 E (a0_0 3) a0_0_3 u0_0_3, wX10 E (a0 4) a0_4 u0_4, wX5 E (a0_4 6) a0_4_6 u0_4_6, wX5 E (a0_4 7) a0_4_7 u0_4_7].flatten) (fun (U : Md × Md × Md × Md × Md × Md) => [wX11 E h0 a0 U.1, wX8 E (a0 0) a0_0 U.2.1, wX7 E (a0_0 3) a0_0_3 U.2.2.1, wX10 E (a0 4) a0_4 U.2.2.2.1, wX5 E (a0_4 6) a0_4_6 U.2.2.2.2.1, wX5 E (a0_4 7) a0_4_7 U.2.2.2.2.2].flatten) (fun (r : Int32) (U : Md × Md × Md × Md × Md × Md) => Q r U.1 U.2.1 U.2.2.1 U.2.2.2.1 U.2.2.2.2.1 U.2.2.2.2.2) := by
  refine MI.of (own := RX11) (by decide) rfl (Nat.le_of_ble_eq_true rfl) ?_
  intro X C hini hret
  show VV X 0 0 ([wX11 E h0 a0 u0, wX8 E (a0 0) a0_0 u0_0, wX7 E (a0_0 3) a0_0_3 u0_0_3, wX10 E (a0 4) a0_4 u0_4, wX5 E (a0_4 6) a0_4_6 u0_4_6, wX5 E (a0_4 7) a0_4_7 u0_4_7].flatten) [(0, .ref h0), (1, .int x1), (2, .int x2), (3, .int x3)] 0 []
  unfold qX11_edits at hw
  refine v_aload_n C dX11_edits_0 0 rfl ?_
  refine v_get (ci := 11) C inT11 0 0 rfl rfl (by decide) mF_X11_10_X11_0 rfl dX11_edits_1 ?_
  refine v_get (ci := 8) C inT8 5 3 rfl rfl (by decide) mF_X11_142_X8_3 rfl dX11_edits_4 ?_
  refine v_iload_n C dX11_edits_7 1 rfl ?_
  refine v_callVMi (st := []) (ci := 7) (qb := 7) C (kX7_hasName ((a0_0 3)) a0_0_3 _ _ hw) mM_X11_179 mI_X7 mC_X7_hasName mN_X7_hasName mS_X7_hasName rfl rfl hd_X7_hasName ⟨Nat.le_of_ble_eq_true rfl, Nat.le_of_ble_eq_true rfl⟩ ⟨Nat.le_of_ble_eq_true rfl, Nat.le_of_ble_eq_true rfl⟩ [2] [0, 1, 3, 4, 5] (N0 := 6) rfl (by decide) (ms2 := (fun (U : Md) => [wX11 E h0 a0 u0, wX8 E (a0 0) a0_0 u0_0, wX7 E (a0_0 3) a0_0_3 U, wX10 E (a0 4) a0_4 u0_4, wX5 E (a0_4 6) a0_4_6 u0_4_6, wX5 E (a0_4 7) a0_4_7 u0_4_7])) rfl (fun _ => rfl) (fun _ => rfl) (fun _ => rfl) rfl (Nat.le_of_ble_eq_true rfl) dX11_edits_8 (fun r8 v8_0 hw => ?_)
  obtain ⟨h01_8, hw⟩ := hw
  have hw := hw h01_8
  refine v_if_eq (tgt := 35) C dX11_edits_11 (by decide) (fun hc => ?_) (fun hc => ?_)
  · have hw := hw.1 hc
    refine v_bipush (v := (-2)) C dX11_edits_35 (by decide) ?_
    exact hret _ _ _ _ ((-2)) (u0, u0_0, v8_0, u0_4, u0_4_6, u0_4_7) dX11_edits_37 rfl hw (Nat.le_of_ble_eq_true rfl) (Nat.le_of_ble_eq_true rfl)
  · have hw := hw.2 hc
    refine v_aload_n C dX11_edits_14 0 rfl ?_
    refine v_get (ci := 11) C inT11 0 0 rfl rfl (by decide) mF_X11_10_X11_0 rfl dX11_edits_15 ?_
    refine v_get (ci := 8) C inT8 5 3 rfl rfl (by decide) mF_X11_142_X8_3 rfl dX11_edits_18 ?_
    refine v_iload_n C dX11_edits_21 2 rfl ?_
    refine v_callVMi (st := []) (ci := 7) (qb := 7) C (kX7_hasName ((a0_0 3)) a0_0_3 _ _ hw) mM_X11_179 mI_X7 mC_X7_hasName mN_X7_hasName mS_X7_hasName rfl rfl hd_X7_hasName ⟨Nat.le_of_ble_eq_true rfl, Nat.le_of_ble_eq_true rfl⟩ ⟨Nat.le_of_ble_eq_true rfl, Nat.le_of_ble_eq_true rfl⟩ [2] [0, 1, 3, 4, 5] (N0 := 6) rfl (by decide) (ms2 := (fun (U : Md) => [wX11 E h0 a0 u0, wX8 E (a0 0) a0_0 u0_0, wX7 E (a0_0 3) a0_0_3 U, wX10 E (a0 4) a0_4 u0_4, wX5 E (a0_4 6) a0_4_6 u0_4_6, wX5 E (a0_4 7) a0_4_7 u0_4_7])) rfl (fun _ => rfl) (fun _ => rfl) (fun _ => rfl) rfl (Nat.le_of_ble_eq_true rfl) dX11_edits_22 (fun r22 v22_0 hw => ?_)
    obtain ⟨h01_22, hw⟩ := hw
    have hw := hw h01_22
    refine v_if_eq (tgt := 35) C dX11_edits_25 (by decide) (fun hc => ?_) (fun hc => ?_)
    · have hw := hw.1 hc
      refine v_bipush (v := (-2)) C dX11_edits_35 (by decide) ?_
      exact hret _ _ _ _ ((-2)) (u0, u0_0, v22_0, u0_4, u0_4_6, u0_4_7) dX11_edits_37 rfl hw (Nat.le_of_ble_eq_true rfl) (Nat.le_of_ble_eq_true rfl)
    · have hw := hw.2 hc
      refine v_iload_n C dX11_edits_28 3 rfl ?_
      refine v_callSPi (st := []) C (kX11_isYear _ hw) mM_X11_80 mI_X11 mC_X11_isYear mT_X11_isYear hd_X11_isYear ⟨Nat.le_of_ble_eq_true rfl, Nat.le_of_ble_eq_true rfl⟩ ⟨Nat.le_of_ble_eq_true rfl, Nat.le_of_ble_eq_true rfl⟩ rfl (Nat.le_of_ble_eq_true rfl) dX11_edits_29 (fun r29 U29 hw => ?_)
      obtain ⟨h01_29, hw⟩ := hw
      have hw := hw h01_29
      refine v_if_ne (tgt := 38) C dX11_edits_32 (by decide) (fun hc => ?_) (fun hc => ?_)
      · have hw := hw.1 hc
        refine v_aload_n C dX11_edits_38 0 rfl ?_
        refine v_get (ci := 11) C inT11 0 4 rfl rfl (by decide) mF_X11_37_X11_4 rfl dX11_edits_39 ?_
        refine v_aload_n C dX11_edits_42 0 rfl ?_
        refine v_get (ci := 11) C inT11 0 0 rfl rfl (by decide) mF_X11_10_X11_0 rfl dX11_edits_43 ?_
        refine v_get (ci := 8) C inT8 5 3 rfl rfl (by decide) mF_X11_142_X8_3 rfl dX11_edits_46 ?_
        refine v_iload_n C dX11_edits_49 1 rfl ?_
        refine v_iload_n C dX11_edits_50 2 rfl ?_
        refine v_iload_n C dX11_edits_51 3 rfl ?_
        refine v_callVMi (st := []) (ci := 10) (qb := 22) C (kX10_editsOfNames ((a0 4)) ((a0_0 3)) a0_4 a0_4_6 a0_4_7 a0_0_3 _ _ _ _ _ _ _ hw) mM_X11_199 mI_X10 mC_X10_editsOfNames mN_X10_editsOfNames mS_X10_editsOfNames rfl rfl hd_X10_editsOfNames ⟨Nat.le_of_ble_eq_true rfl, Nat.le_of_ble_eq_true rfl⟩ ⟨Nat.le_of_ble_eq_true rfl, Nat.le_of_ble_eq_true rfl⟩ [3, 4, 5, 2] [0, 1] (N0 := 6) rfl (by decide) (ms2 := (fun (U : Md × Md × Md × Md) => [wX11 E h0 a0 u0, wX8 E (a0 0) a0_0 u0_0, wX7 E (a0_0 3) a0_0_3 U.2.2.2, wX10 E (a0 4) a0_4 U.1, wX5 E (a0_4 6) a0_4_6 U.2.1, wX5 E (a0_4 7) a0_4_7 U.2.2.1])) rfl (fun _ => rfl) (fun _ => rfl) (fun _ => rfl) rfl (Nat.le_of_ble_eq_true rfl) dX11_edits_52 (fun r52 U52 hw => ?_)
        obtain ⟨v52_0, v52_1, v52_2, v52_3⟩ := U52
        exact hret _ _ _ _ r52 (u0, u0_0, v52_3, v52_0, v52_1, v52_2) dX11_edits_55 rfl hw (Nat.le_of_ble_eq_true rfl) (Nat.le_of_ble_eq_true rfl)
      · have hw := hw.2 hc
        refine v_bipush (v := (-2)) C dX11_edits_35 (by decide) ?_
        exact hret _ _ _ _ ((-2)) (u0, u0_0, v22_0, u0_4, u0_4_6, u0_4_7) dX11_edits_37 rfl hw (Nat.le_of_ble_eq_true rfl) (Nat.le_of_ble_eq_true rfl)
set_option maxHeartbeats 4000000 in
set_option maxRecDepth 100000 in
theorem kX11_first {l : Launch} {E : VE} (h0 : Nat) (a0 : Nat → Nat) (a0_0 : Nat → Nat) (a0_0_2 : Nat → Nat) (a0_0_4 : Nat → Nat) (a0_4 : Nat → Nat) (u0 : Md) (u0_0 : Md) (u0_0_2 : Md) (u0_0_4 : Md) (u0_4 : Md) (x1 : Int32) (x2 : Int32) (x3 : Int32) {Q : Int32 → Md → Md → Md → Md → Md → Prop} (hw : qX11_first u0 u0_0 u0_0_2 u0_0_4 u0_4 x1 x2 x3 Q) : MI l yX11_first cX11_first 4 .int 4 0 0 E [.ref h0, .int x1, .int x2, .int x3] ([wX11 E h0 a0 u0, wX8 E (a0 0) a0_0 u0_0, wX2 E (a0_0 2) a0_0_2 u0_0_2, wX0 E (a0_0 4) a0_0_4 u0_0_4, wX10 E (a0 4) a0_4 u0_4].flatten) (fun (U : Md × Md × Md × Md × Md) => [wX11 E h0 a0 U.1, wX8 E (a0 0) a0_0 U.2.1, wX2 E (a0_0 2) a0_0_2 U.2.2.1, wX0 E (a0_0 4) a0_0_4 U.2.2.2.1, wX10 E (a0 4) a0_4 U.2.2.2.2].flatten) (fun (r : Int32) (U : Md × Md × Md × Md × Md) => Q r U.1 U.2.1 U.2.2.1 U.2.2.2.1 U.2.2.2.2) := by
  refine MI.of (own := RX11) (by decide) rfl (Nat.le_of_ble_eq_true rfl) ?_
  intro X C hini hret
  show VV X 0 0 ([wX11 E h0 a0 u0, wX8 E (a0 0) a0_0 u0_0, wX2 E (a0_0 2) a0_0_2 u0_0_2, wX0 E (a0_0 4) a0_0_4 u0_0_4, wX10 E (a0 4) a0_4 u0_4].flatten) [(0, .ref h0), (1, .int x1), (2, .int x2), (3, .int x3)] 0 []
  unfold qX11_first at hw
  refine v_aload_n C dX11_first_0 0 rfl ?_
  refine v_get (ci := 11) C inT11 0 0 rfl rfl (by decide) mF_X11_10_X11_0 rfl dX11_first_1 ?_
  refine v_get (ci := 8) C inT8 5 2 rfl rfl (by decide) mF_X11_87_X8_2 rfl dX11_first_4 ?_
  refine v_iload_n C dX11_first_7 1 rfl ?_
  refine v_callVMi (st := []) (ci := 2) (qb := 7) C (kX2_has ((a0_0 2)) a0_0_2 _ _ hw) mM_X11_97 mI_X2 mC_X2_has mN_X2_has mS_X2_has rfl rfl hd_X2_has ⟨Nat.le_of_ble_eq_true rfl, Nat.le_of_ble_eq_true rfl⟩ ⟨Nat.le_of_ble_eq_true rfl, Nat.le_of_ble_eq_true rfl⟩ [2] [0, 1, 3, 4] (N0 := 5) rfl (by decide) (ms2 := (fun (U : Md) => [wX11 E h0 a0 u0, wX8 E (a0 0) a0_0 u0_0, wX2 E (a0_0 2) a0_0_2 U, wX0 E (a0_0 4) a0_0_4 u0_0_4, wX10 E (a0 4) a0_4 u0_4])) rfl (fun _ => rfl) (fun _ => rfl) (fun _ => rfl) rfl (Nat.le_of_ble_eq_true rfl) dX11_first_8 (fun r8 v8_0 hw => ?_)
  obtain ⟨h01_8, hw⟩ := hw
  have hw := hw h01_8
  refine v_if_eq (tgt := 28) C dX11_first_11 (by decide) (fun hc => ?_) (fun hc => ?_)
  · have hw := hw.1 hc
    refine v_bipush (v := (-2)) C dX11_first_28 (by decide) ?_
    exact hret _ _ _ _ ((-2)) (u0, u0_0, v8_0, u0_0_4, u0_4) dX11_first_30 rfl hw (Nat.le_of_ble_eq_true rfl) (Nat.le_of_ble_eq_true rfl)
  · have hw := hw.2 hc
    refine v_iload_n C dX11_first_14 2 rfl ?_
    refine v_callSPi (st := []) C (kX11_isYear _ hw) mM_X11_80 mI_X11 mC_X11_isYear mT_X11_isYear hd_X11_isYear ⟨Nat.le_of_ble_eq_true rfl, Nat.le_of_ble_eq_true rfl⟩ ⟨Nat.le_of_ble_eq_true rfl, Nat.le_of_ble_eq_true rfl⟩ rfl (Nat.le_of_ble_eq_true rfl) dX11_first_15 (fun r15 U15 hw => ?_)
    obtain ⟨h01_15, hw⟩ := hw
    have hw := hw h01_15
    refine v_if_eq (tgt := 28) C dX11_first_18 (by decide) (fun hc => ?_) (fun hc => ?_)
    · have hw := hw.1 hc
      refine v_bipush (v := (-2)) C dX11_first_28 (by decide) ?_
      exact hret _ _ _ _ ((-2)) (u0, u0_0, v8_0, u0_0_4, u0_4) dX11_first_30 rfl hw (Nat.le_of_ble_eq_true rfl) (Nat.le_of_ble_eq_true rfl)
    · have hw := hw.2 hc
      refine v_iload_n C dX11_first_21 3 rfl ?_
      refine v_callSPi (st := []) C (kX11_isYear _ hw) mM_X11_80 mI_X11 mC_X11_isYear mT_X11_isYear hd_X11_isYear ⟨Nat.le_of_ble_eq_true rfl, Nat.le_of_ble_eq_true rfl⟩ ⟨Nat.le_of_ble_eq_true rfl, Nat.le_of_ble_eq_true rfl⟩ rfl (Nat.le_of_ble_eq_true rfl) dX11_first_22 (fun r22 U22 hw => ?_)
      obtain ⟨h01_22, hw⟩ := hw
      have hw := hw h01_22
      refine v_if_ne (tgt := 31) C dX11_first_25 (by decide) (fun hc => ?_) (fun hc => ?_)
      · have hw := hw.1 hc
        refine v_aload_n C dX11_first_31 0 rfl ?_
        refine v_get (ci := 11) C inT11 0 4 rfl rfl (by decide) mF_X11_37_X11_4 rfl dX11_first_32 ?_
        refine v_aload_n C dX11_first_35 0 rfl ?_
        refine v_get (ci := 11) C inT11 0 0 rfl rfl (by decide) mF_X11_10_X11_0 rfl dX11_first_36 ?_
        refine v_iload_n C dX11_first_39 1 rfl ?_
        refine v_iload_n C dX11_first_40 2 rfl ?_
        refine v_iload_n C dX11_first_41 3 rfl ?_
        refine v_callVMv (st := []) (ci := 10) (qb := 28) C (kX10_look ((a0 4)) ((a0 0)) a0_4 a0_0 a0_0_2 a0_0_4 _ _ _ _ _ _ _ hw) mM_X11_203 mI_X10 mC_X10_look mN_X10_look mS_X10_look rfl rfl hd_X10_look ⟨Nat.le_of_ble_eq_true rfl, Nat.le_of_ble_eq_true rfl⟩ ⟨Nat.le_of_ble_eq_true rfl, Nat.le_of_ble_eq_true rfl⟩ [4, 1, 2, 3] [0] (N0 := 5) rfl (by decide) (ms2 := (fun (U : Md × Md × Md × Md) => [wX11 E h0 a0 u0, wX8 E (a0 0) a0_0 U.2.1, wX2 E (a0_0 2) a0_0_2 U.2.2.1, wX0 E (a0_0 4) a0_0_4 U.2.2.2, wX10 E (a0 4) a0_4 U.1])) rfl (fun _ => rfl) (fun _ => rfl) (fun _ => rfl) rfl (Nat.le_of_ble_eq_true rfl) dX11_first_42 (fun U42 hw => ?_)
        obtain ⟨v42_0, v42_1, v42_2, v42_3⟩ := U42
        refine v_aload_n C dX11_first_45 0 rfl ?_
        refine v_get (ci := 11) C inT11 0 4 rfl rfl (by decide) mF_X11_37_X11_4 rfl dX11_first_46 ?_
        refine v_get (ci := 10) C inT10 28 4 rfl rfl (by decide) mF_X11_207_X10_4 rfl dX11_first_49 ?_
        exact hret _ _ _ _ (gF v42_0 4) (u0, v42_1, v42_2, v42_3, v42_0) dX11_first_52 rfl hw (Nat.le_of_ble_eq_true rfl) (Nat.le_of_ble_eq_true rfl)
      · have hw := hw.2 hc
        refine v_bipush (v := (-2)) C dX11_first_28 (by decide) ?_
        exact hret _ _ _ _ ((-2)) (u0, u0_0, v8_0, u0_0_4, u0_4) dX11_first_30 rfl hw (Nat.le_of_ble_eq_true rfl) (Nat.le_of_ble_eq_true rfl)
set_option maxHeartbeats 4000000 in
set_option maxRecDepth 100000 in
theorem kX11_beside {l : Launch} {E : VE} (h0 : Nat) (a0 : Nat → Nat) (a0_0 : Nat → Nat) (a0_0_2 : Nat → Nat) (a0_0_4 : Nat → Nat) (a0_4 : Nat → Nat) (u0 : Md) (u0_0 : Md) (u0_0_2 : Md) (u0_0_4 : Md) (u0_4 : Md) (x1 : Int32) (x2 : Int32) (x3 : Int32) {Q : Int32 → Md → Md → Md → Md → Md → Prop} (hw : qX11_beside u0 u0_0 u0_0_2 u0_0_4 u0_4 x1 x2 x3 Q) : MI l yX11_beside cX11_beside 4 .int 4 0 0 E [.ref h0, .int x1, .int x2, .int x3] ([wX11 E h0 a0 u0, wX8 E (a0 0) a0_0 u0_0, wX2 E (a0_0 2) a0_0_2 u0_0_2, wX0 E (a0_0 4) a0_0_4 u0_0_4, wX10 E (a0 4) a0_4 u0_4].flatten) (fun (U : Md × Md × Md × Md × Md) => [wX11 E h0 a0 U.1, wX8 E (a0 0) a0_0 U.2.1, wX2 E (a0_0 2) a0_0_2 U.2.2.1, wX0 E (a0_0 4) a0_0_4 U.2.2.2.1, wX10 E (a0 4) a0_4 U.2.2.2.2].flatten) (fun (r : Int32) (U : Md × Md × Md × Md × Md) => Q r U.1 U.2.1 U.2.2.1 U.2.2.2.1 U.2.2.2.2) := by
  refine MI.of (own := RX11) (by decide) rfl (Nat.le_of_ble_eq_true rfl) ?_
  intro X C hini hret
  show VV X 0 0 ([wX11 E h0 a0 u0, wX8 E (a0 0) a0_0 u0_0, wX2 E (a0_0 2) a0_0_2 u0_0_2, wX0 E (a0_0 4) a0_0_4 u0_0_4, wX10 E (a0 4) a0_4 u0_4].flatten) [(0, .ref h0), (1, .int x1), (2, .int x2), (3, .int x3)] 0 []
  unfold qX11_beside at hw
  refine v_aload_n C dX11_beside_0 0 rfl ?_
  refine v_get (ci := 11) C inT11 0 0 rfl rfl (by decide) mF_X11_10_X11_0 rfl dX11_beside_1 ?_
  refine v_get (ci := 8) C inT8 5 2 rfl rfl (by decide) mF_X11_87_X8_2 rfl dX11_beside_4 ?_
  refine v_iload_n C dX11_beside_7 1 rfl ?_
  refine v_callVMi (st := []) (ci := 2) (qb := 7) C (kX2_has ((a0_0 2)) a0_0_2 _ _ hw) mM_X11_97 mI_X2 mC_X2_has mN_X2_has mS_X2_has rfl rfl hd_X2_has ⟨Nat.le_of_ble_eq_true rfl, Nat.le_of_ble_eq_true rfl⟩ ⟨Nat.le_of_ble_eq_true rfl, Nat.le_of_ble_eq_true rfl⟩ [2] [0, 1, 3, 4] (N0 := 5) rfl (by decide) (ms2 := (fun (U : Md) => [wX11 E h0 a0 u0, wX8 E (a0 0) a0_0 u0_0, wX2 E (a0_0 2) a0_0_2 U, wX0 E (a0_0 4) a0_0_4 u0_0_4, wX10 E (a0 4) a0_4 u0_4])) rfl (fun _ => rfl) (fun _ => rfl) (fun _ => rfl) rfl (Nat.le_of_ble_eq_true rfl) dX11_beside_8 (fun r8 v8_0 hw => ?_)
  obtain ⟨h01_8, hw⟩ := hw
  have hw := hw h01_8
  refine v_if_eq (tgt := 28) C dX11_beside_11 (by decide) (fun hc => ?_) (fun hc => ?_)
  · have hw := hw.1 hc
    refine v_bipush (v := (-2)) C dX11_beside_28 (by decide) ?_
    exact hret _ _ _ _ ((-2)) (u0, u0_0, v8_0, u0_0_4, u0_4) dX11_beside_30 rfl hw (Nat.le_of_ble_eq_true rfl) (Nat.le_of_ble_eq_true rfl)
  · have hw := hw.2 hc
    refine v_iload_n C dX11_beside_14 2 rfl ?_
    refine v_callSPi (st := []) C (kX11_isYear _ hw) mM_X11_80 mI_X11 mC_X11_isYear mT_X11_isYear hd_X11_isYear ⟨Nat.le_of_ble_eq_true rfl, Nat.le_of_ble_eq_true rfl⟩ ⟨Nat.le_of_ble_eq_true rfl, Nat.le_of_ble_eq_true rfl⟩ rfl (Nat.le_of_ble_eq_true rfl) dX11_beside_15 (fun r15 U15 hw => ?_)
    obtain ⟨h01_15, hw⟩ := hw
    have hw := hw h01_15
    refine v_if_eq (tgt := 28) C dX11_beside_18 (by decide) (fun hc => ?_) (fun hc => ?_)
    · have hw := hw.1 hc
      refine v_bipush (v := (-2)) C dX11_beside_28 (by decide) ?_
      exact hret _ _ _ _ ((-2)) (u0, u0_0, v8_0, u0_0_4, u0_4) dX11_beside_30 rfl hw (Nat.le_of_ble_eq_true rfl) (Nat.le_of_ble_eq_true rfl)
    · have hw := hw.2 hc
      refine v_iload_n C dX11_beside_21 3 rfl ?_
      refine v_callSPi (st := []) C (kX11_isYear _ hw) mM_X11_80 mI_X11 mC_X11_isYear mT_X11_isYear hd_X11_isYear ⟨Nat.le_of_ble_eq_true rfl, Nat.le_of_ble_eq_true rfl⟩ ⟨Nat.le_of_ble_eq_true rfl, Nat.le_of_ble_eq_true rfl⟩ rfl (Nat.le_of_ble_eq_true rfl) dX11_beside_22 (fun r22 U22 hw => ?_)
      obtain ⟨h01_22, hw⟩ := hw
      have hw := hw h01_22
      refine v_if_ne (tgt := 31) C dX11_beside_25 (by decide) (fun hc => ?_) (fun hc => ?_)
      · have hw := hw.1 hc
        refine v_aload_n C dX11_beside_31 0 rfl ?_
        refine v_get (ci := 11) C inT11 0 4 rfl rfl (by decide) mF_X11_37_X11_4 rfl dX11_beside_32 ?_
        refine v_aload_n C dX11_beside_35 0 rfl ?_
        refine v_get (ci := 11) C inT11 0 0 rfl rfl (by decide) mF_X11_10_X11_0 rfl dX11_beside_36 ?_
        refine v_iload_n C dX11_beside_39 1 rfl ?_
        refine v_iload_n C dX11_beside_40 2 rfl ?_
        refine v_iload_n C dX11_beside_41 3 rfl ?_
        refine v_callVMv (st := []) (ci := 10) (qb := 28) C (kX10_look ((a0 4)) ((a0 0)) a0_4 a0_0 a0_0_2 a0_0_4 _ _ _ _ _ _ _ hw) mM_X11_203 mI_X10 mC_X10_look mN_X10_look mS_X10_look rfl rfl hd_X10_look ⟨Nat.le_of_ble_eq_true rfl, Nat.le_of_ble_eq_true rfl⟩ ⟨Nat.le_of_ble_eq_true rfl, Nat.le_of_ble_eq_true rfl⟩ [4, 1, 2, 3] [0] (N0 := 5) rfl (by decide) (ms2 := (fun (U : Md × Md × Md × Md) => [wX11 E h0 a0 u0, wX8 E (a0 0) a0_0 U.2.1, wX2 E (a0_0 2) a0_0_2 U.2.2.1, wX0 E (a0_0 4) a0_0_4 U.2.2.2, wX10 E (a0 4) a0_4 U.1])) rfl (fun _ => rfl) (fun _ => rfl) (fun _ => rfl) rfl (Nat.le_of_ble_eq_true rfl) dX11_beside_42 (fun U42 hw => ?_)
        obtain ⟨v42_0, v42_1, v42_2, v42_3⟩ := U42
        refine v_aload_n C dX11_beside_45 0 rfl ?_
        refine v_get (ci := 11) C inT11 0 4 rfl rfl (by decide) mF_X11_37_X11_4 rfl dX11_beside_46 ?_
        refine v_get (ci := 10) C inT10 28 5 rfl rfl (by decide) mF_X11_210_X10_5 rfl dX11_beside_49 ?_
        exact hret _ _ _ _ (gF v42_0 5) (u0, v42_1, v42_2, v42_3, v42_0) dX11_beside_52 rfl hw (Nat.le_of_ble_eq_true rfl) (Nat.le_of_ble_eq_true rfl)
      · have hw := hw.2 hc
        refine v_bipush (v := (-2)) C dX11_beside_28 (by decide) ?_
        exact hret _ _ _ _ ((-2)) (u0, u0_0, v8_0, u0_0_4, u0_4) dX11_beside_30 rfl hw (Nat.le_of_ble_eq_true rfl) (Nat.le_of_ble_eq_true rfl)
set_option maxHeartbeats 4000000 in
set_option maxRecDepth 100000 in
theorem kX11_swings {l : Launch} {E : VE} (h0 : Nat) (a0 : Nat → Nat) (a0_0 : Nat → Nat) (a0_0_2 : Nat → Nat) (a0_0_4 : Nat → Nat) (a0_4 : Nat → Nat) (u0 : Md) (u0_0 : Md) (u0_0_2 : Md) (u0_0_4 : Md) (u0_4 : Md) (x1 : Int32) {Q : Int32 → Md → Md → Md → Md → Md → Prop} (hw : qX11_swings u0 u0_0 u0_0_2 u0_0_4 u0_4 x1 Q) : MI l yX11_swings cX11_swings 2 .int 6 0 0 E [.ref h0, .int x1] ([wX11 E h0 a0 u0, wX8 E (a0 0) a0_0 u0_0, wX2 E (a0_0 2) a0_0_2 u0_0_2, wX0 E (a0_0 4) a0_0_4 u0_0_4, wX10 E (a0 4) a0_4 u0_4].flatten) (fun (U : Md × Md × Md × Md × Md) => [wX11 E h0 a0 U.1, wX8 E (a0 0) a0_0 U.2.1, wX2 E (a0_0 2) a0_0_2 U.2.2.1, wX0 E (a0_0 4) a0_0_4 U.2.2.2.1, wX10 E (a0 4) a0_4 U.2.2.2.2].flatten) (fun (r : Int32) (U : Md × Md × Md × Md × Md) => Q r U.1 U.2.1 U.2.2.1 U.2.2.2.1 U.2.2.2.2) := by
  refine MI.of (own := RX11) (by decide) rfl (Nat.le_of_ble_eq_true rfl) ?_
  intro X C hini hret
  show VV X 0 0 ([wX11 E h0 a0 u0, wX8 E (a0 0) a0_0 u0_0, wX2 E (a0_0 2) a0_0_2 u0_0_2, wX0 E (a0_0 4) a0_0_4 u0_0_4, wX10 E (a0 4) a0_4 u0_4].flatten) [(0, .ref h0), (1, .int x1)] 0 []
  unfold qX11_swings at hw
  refine v_aload_n C dX11_swings_0 0 rfl ?_
  refine v_get (ci := 11) C inT11 0 0 rfl rfl (by decide) mF_X11_10_X11_0 rfl dX11_swings_1 ?_
  refine v_get (ci := 8) C inT8 5 2 rfl rfl (by decide) mF_X11_87_X8_2 rfl dX11_swings_4 ?_
  refine v_iload_n C dX11_swings_7 1 rfl ?_
  refine v_callVMi (st := []) (ci := 2) (qb := 7) C (kX2_has ((a0_0 2)) a0_0_2 _ _ hw) mM_X11_97 mI_X2 mC_X2_has mN_X2_has mS_X2_has rfl rfl hd_X2_has ⟨Nat.le_of_ble_eq_true rfl, Nat.le_of_ble_eq_true rfl⟩ ⟨Nat.le_of_ble_eq_true rfl, Nat.le_of_ble_eq_true rfl⟩ [2] [0, 1, 3, 4] (N0 := 5) rfl (by decide) (ms2 := (fun (U : Md) => [wX11 E h0 a0 u0, wX8 E (a0 0) a0_0 u0_0, wX2 E (a0_0 2) a0_0_2 U, wX0 E (a0_0 4) a0_0_4 u0_0_4, wX10 E (a0 4) a0_4 u0_4])) rfl (fun _ => rfl) (fun _ => rfl) (fun _ => rfl) rfl (Nat.le_of_ble_eq_true rfl) dX11_swings_8 (fun r8 v8_0 hw => ?_)
  obtain ⟨h01_8, hw⟩ := hw
  have hw := hw h01_8
  refine v_if_eq (tgt := 29) C dX11_swings_11 (by decide) (fun hc => ?_) (fun hc => ?_)
  · have hw := hw.1 hc
    refine v_bipush (v := (-2)) C dX11_swings_29 (by decide) ?_
    exact hret _ _ _ _ ((-2)) (u0, u0_0, v8_0, u0_0_4, u0_4) dX11_swings_31 rfl hw (Nat.le_of_ble_eq_true rfl) (Nat.le_of_ble_eq_true rfl)
  · have hw := hw.2 hc
    refine v_aload_n C dX11_swings_14 0 rfl ?_
    refine v_get (ci := 11) C inT11 0 4 rfl rfl (by decide) mF_X11_37_X11_4 rfl dX11_swings_15 ?_
    refine v_aload_n C dX11_swings_18 0 rfl ?_
    refine v_get (ci := 11) C inT11 0 0 rfl rfl (by decide) mF_X11_10_X11_0 rfl dX11_swings_19 ?_
    refine v_iload_n C dX11_swings_22 1 rfl ?_
    refine v_callVMi (st := []) (ci := 10) (qb := 28) C (kX10_fewestToSwing ((a0 4)) ((a0 0)) a0_4 a0_0 a0_0_2 a0_0_4 _ _ _ _ _ hw) mM_X11_213 mI_X10 mC_X10_fewestToSwing mN_X10_fewestToSwing mS_X10_fewestToSwing rfl rfl hd_X10_fewestToSwing ⟨Nat.le_of_ble_eq_true rfl, Nat.le_of_ble_eq_true rfl⟩ ⟨Nat.le_of_ble_eq_true rfl, Nat.le_of_ble_eq_true rfl⟩ [4, 1, 2, 3] [0] (N0 := 5) rfl (by decide) (ms2 := (fun (U : Md × Md × Md × Md) => [wX11 E h0 a0 u0, wX8 E (a0 0) a0_0 U.2.1, wX2 E (a0_0 2) a0_0_2 U.2.2.1, wX0 E (a0_0 4) a0_0_4 U.2.2.2, wX10 E (a0 4) a0_4 U.1])) rfl (fun _ => rfl) (fun _ => rfl) (fun _ => rfl) rfl (Nat.le_of_ble_eq_true rfl) dX11_swings_23 (fun r23 U23 hw => ?_)
    obtain ⟨v23_0, v23_1, v23_2, v23_3⟩ := U23
    refine v_goto (tgt := 31) C dX11_swings_26 (by decide) ?_
    exact hret _ _ _ _ r23 (u0, v23_1, v23_2, v23_3, v23_0) dX11_swings_31 rfl hw (Nat.le_of_ble_eq_true rfl) (Nat.le_of_ble_eq_true rfl)
set_option maxHeartbeats 4000000 in
set_option maxRecDepth 100000 in
theorem kX11_ask {l : Launch} {E : VE} (h0 : Nat) (a0 : Nat → Nat) (a0_0 : Nat → Nat) (a0_0_3 : Nat → Nat) (a0_0_5 : Nat → Nat) (u0 : Md) (u0_0 : Md) (u0_0_3 : Md) (u0_0_5 : Md) (x1 : Int32) {Q : Int32 → Md → Md → Md → Md → Prop} (hw : qX11_ask u0 u0_0 u0_0_3 u0_0_5 x1 Q) : MI l yX11_ask cX11_ask 2 .int 1 0 0 E [.ref h0, .int x1] ([wX11 E h0 a0 u0, wX8 E (a0 0) a0_0 u0_0, wX7 E (a0_0 3) a0_0_3 u0_0_3, wX1 E (a0_0 5) a0_0_5 u0_0_5].flatten) (fun (U : Md × Md × Md × Md) => [wX11 E h0 a0 U.1, wX8 E (a0 0) a0_0 U.2.1, wX7 E (a0_0 3) a0_0_3 U.2.2.1, wX1 E (a0_0 5) a0_0_5 U.2.2.2].flatten) (fun (r : Int32) (U : Md × Md × Md × Md) => Q r U.1 U.2.1 U.2.2.1 U.2.2.2) := by
  refine MI.of (own := RX11) (by decide) rfl (Nat.le_of_ble_eq_true rfl) ?_
  intro X C hini hret
  show VV X 0 0 ([wX11 E h0 a0 u0, wX8 E (a0 0) a0_0 u0_0, wX7 E (a0_0 3) a0_0_3 u0_0_3, wX1 E (a0_0 5) a0_0_5 u0_0_5].flatten) [(0, .ref h0), (1, .int x1)] 0 []
  unfold qX11_ask at hw
  refine v_aload_n C dX11_ask_0 0 rfl ?_
  refine v_get (ci := 11) C inT11 0 0 rfl rfl (by decide) mF_X11_10_X11_0 rfl dX11_ask_1 ?_
  refine v_get (ci := 8) C inT8 5 3 rfl rfl (by decide) mF_X11_142_X8_3 rfl dX11_ask_4 ?_
  refine v_iload_n C dX11_ask_7 1 rfl ?_
  refine v_callVMi (st := []) (ci := 7) (qb := 7) C (kX7_hasName ((a0_0 3)) a0_0_3 _ _ hw) mM_X11_179 mI_X7 mC_X7_hasName mN_X7_hasName mS_X7_hasName rfl rfl hd_X7_hasName ⟨Nat.le_of_ble_eq_true rfl, Nat.le_of_ble_eq_true rfl⟩ ⟨Nat.le_of_ble_eq_true rfl, Nat.le_of_ble_eq_true rfl⟩ [2] [0, 1, 3] (N0 := 4) rfl (by decide) (ms2 := (fun (U : Md) => [wX11 E h0 a0 u0, wX8 E (a0 0) a0_0 u0_0, wX7 E (a0_0 3) a0_0_3 U, wX1 E (a0_0 5) a0_0_5 u0_0_5])) rfl (fun _ => rfl) (fun _ => rfl) (fun _ => rfl) rfl (Nat.le_of_ble_eq_true rfl) dX11_ask_8 (fun r8 v8_0 hw => ?_)
  obtain ⟨h01_8, hw⟩ := hw
  have hw := hw h01_8
  refine v_if_ne (tgt := 17) C dX11_ask_11 (by decide) (fun hc => ?_) (fun hc => ?_)
  · have hw := hw.1 hc
    refine v_aload_n C dX11_ask_17 0 rfl ?_
    refine v_get (ci := 11) C inT11 0 0 rfl rfl (by decide) mF_X11_10_X11_0 rfl dX11_ask_18 ?_
    refine v_get (ci := 8) C inT8 5 5 rfl rfl (by decide) mF_X11_217_X8_5 rfl dX11_ask_21 ?_
    refine v_iload_n C dX11_ask_24 1 rfl ?_
    refine v_aload_n C dX11_ask_25 0 rfl ?_
    refine v_get (ci := 11) C inT11 0 0 rfl rfl (by decide) mF_X11_10_X11_0 rfl dX11_ask_26 ?_
    refine v_get (ci := 8) C inT8 5 3 rfl rfl (by decide) mF_X11_142_X8_3 rfl dX11_ask_29 ?_
    refine v_get (ci := 7) C inT7 7 1 rfl rfl (by decide) mF_X11_221_X7_1 rfl dX11_ask_32 ?_
    refine v_iload_n C dX11_ask_35 1 rfl ?_
    obtain ⟨hi36, hw⟩ := hw
    refine v_iald C 8 rfl hi36 dX11_ask_36 ?_
    refine v_callVMi (st := []) (ci := 1) (qb := 22) C (kX1_open ((a0_0 5)) a0_0_5 _ _ _ hw) mM_X11_224 mI_X1 mC_X1_open mN_X1_open mS_X1_open rfl rfl hd_X1_open ⟨Nat.le_of_ble_eq_true rfl, Nat.le_of_ble_eq_true rfl⟩ ⟨Nat.le_of_ble_eq_true rfl, Nat.le_of_ble_eq_true rfl⟩ [3] [0, 1, 2] (N0 := 4) rfl (by decide) (ms2 := (fun (U : Md) => [wX11 E h0 a0 u0, wX8 E (a0 0) a0_0 u0_0, wX7 E (a0_0 3) a0_0_3 v8_0, wX1 E (a0_0 5) a0_0_5 U])) rfl (fun _ => rfl) (fun _ => rfl) (fun _ => rfl) rfl (Nat.le_of_ble_eq_true rfl) dX11_ask_37 (fun r37 v37_0 hw => ?_)
    exact hret _ _ _ _ r37 (u0, u0_0, v8_0, v37_0) dX11_ask_40 rfl hw (Nat.le_of_ble_eq_true rfl) (Nat.le_of_ble_eq_true rfl)
  · have hw := hw.2 hc
    refine v_bipush (v := (-2)) C dX11_ask_14 (by decide) ?_
    exact hret _ _ _ _ ((-2)) (u0, u0_0, v8_0, u0_0_5) dX11_ask_16 rfl hw (Nat.le_of_ble_eq_true rfl) (Nat.le_of_ble_eq_true rfl)
set_option maxHeartbeats 4000000 in
set_option maxRecDepth 100000 in
theorem kX11_vote {l : Launch} {E : VE} (h0 : Nat) (a0 : Nat → Nat) (a0_0 : Nat → Nat) (a0_0_5 : Nat → Nat) (u0 : Md) (u0_0 : Md) (u0_0_5 : Md) (x1 : Int32) (x2 : Int32) (x3 : Int32) {Q : Int32 → Md → Md → Md → Prop} (hw : qX11_vote u0 u0_0 u0_0_5 x1 x2 x3 Q) : MI l yX11_vote cX11_vote 5 .int 1 0 0 E [.ref h0, .int x1, .int x2, .int x3] ([wX11 E h0 a0 u0, wX8 E (a0 0) a0_0 u0_0, wX1 E (a0_0 5) a0_0_5 u0_0_5].flatten) (fun (U : Md × Md × Md) => [wX11 E h0 a0 U.1, wX8 E (a0 0) a0_0 U.2.1, wX1 E (a0_0 5) a0_0_5 U.2.2].flatten) (fun (r : Int32) (U : Md × Md × Md) => Q r U.1 U.2.1 U.2.2) := by
  refine MI.of (own := RX11) (by decide) rfl (Nat.le_of_ble_eq_true rfl) ?_
  intro X C hini hret
  show VV X 0 0 ([wX11 E h0 a0 u0, wX8 E (a0 0) a0_0 u0_0, wX1 E (a0_0 5) a0_0_5 u0_0_5].flatten) [(0, .ref h0), (1, .int x1), (2, .int x2), (3, .int x3)] 0 []
  unfold qX11_vote at hw
  refine v_aload_n C dX11_vote_0 0 rfl ?_
  refine v_get (ci := 11) C inT11 0 0 rfl rfl (by decide) mF_X11_10_X11_0 rfl dX11_vote_1 ?_
  refine v_get (ci := 8) C inT8 5 5 rfl rfl (by decide) mF_X11_217_X8_5 rfl dX11_vote_4 ?_
  refine v_astore (lv' := [(4, .ref ((a0_0 5))), (0, .ref h0), (1, .int x1), (2, .int x2), (3, .int x3)]) C dX11_vote_7 (by decide) rfl ?_
  refine v_aload C dX11_vote_9 0 rfl ?_
  refine v_iload_n C dX11_vote_11 2 rfl ?_
  refine v_callVMi (st := []) (ci := 1) (qb := 7) C (kX1_has ((a0_0 5)) a0_0_5 _ _ hw) mM_X11_229 mI_X1 mC_X1_has mN_X1_has mS_X1_has rfl rfl hd_X1_has ⟨Nat.le_of_ble_eq_true rfl, Nat.le_of_ble_eq_true rfl⟩ ⟨Nat.le_of_ble_eq_true rfl, Nat.le_of_ble_eq_true rfl⟩ [2] [0, 1] (N0 := 3) rfl (by decide) (ms2 := (fun (U : Md) => [wX11 E h0 a0 u0, wX8 E (a0 0) a0_0 u0_0, wX1 E (a0_0 5) a0_0_5 U])) rfl (fun _ => rfl) (fun _ => rfl) (fun _ => rfl) rfl (Nat.le_of_ble_eq_true rfl) dX11_vote_12 (fun r12 v12_0 hw => ?_)
  obtain ⟨h01_12, hw⟩ := hw
  have hw := hw h01_12
  refine v_if_eq (tgt := 28) C dX11_vote_15 (by decide) (fun hc => ?_) (fun hc => ?_)
  · have hw := hw.1 hc
    refine v_bipush (v := (-2)) C dX11_vote_28 (by decide) ?_
    exact hret _ _ _ _ ((-2)) (u0, u0_0, v12_0) dX11_vote_30 rfl hw (Nat.le_of_ble_eq_true rfl) (Nat.le_of_ble_eq_true rfl)
  · have hw := hw.2 hc
    refine v_iload_n C dX11_vote_18 3 rfl ?_
    refine v_if_lt (tgt := 28) C dX11_vote_19 (by decide) (fun hc => ?_) (fun hc => ?_)
    · have hw := hw.1 hc
      refine v_bipush (v := (-2)) C dX11_vote_28 (by decide) ?_
      exact hret _ _ _ _ ((-2)) (u0, u0_0, v12_0) dX11_vote_30 rfl hw (Nat.le_of_ble_eq_true rfl) (Nat.le_of_ble_eq_true rfl)
    · have hw := hw.2 hc
      refine v_iload_n C dX11_vote_22 3 rfl ?_
      refine v_bipush (v := 9) C dX11_vote_23 (by decide) ?_
      refine v_icmp_lt (tgt := 31) C dX11_vote_25 (by decide) (fun hc => ?_) (fun hc => ?_)
      · have hw := hw.1 hc
        refine v_aload C dX11_vote_31 0 rfl ?_
        refine v_get (ci := 1) C inT1 7 3 rfl rfl (by decide) mF_X11_230_X1_3 rfl dX11_vote_33 ?_
        refine v_iload_n C dX11_vote_36 2 rfl ?_
        obtain ⟨hi37, hw⟩ := hw
        refine v_zald C 10 rfl hi37 dX11_vote_37 ?_
        refine v_if_ne (tgt := 44) C dX11_vote_38 (by decide) (fun hc => ?_) (fun hc => ?_)
        · have hw := hw.1 hc
          refine v_aload C dX11_vote_44 0 rfl ?_
          refine v_iload_n C dX11_vote_46 2 rfl ?_
          refine v_iload_n C dX11_vote_47 3 rfl ?_
          refine v_iload_n C dX11_vote_48 4 rfl ?_
          refine v_callVMv (st := []) (ci := 1) (qb := 7) C (kX1_cast ((a0_0 5)) a0_0_5 _ _ _ _ hw) mM_X11_234 mI_X1 mC_X1_cast mN_X1_cast mS_X1_cast rfl rfl hd_X1_cast ⟨Nat.le_of_ble_eq_true rfl, Nat.le_of_ble_eq_true rfl⟩ ⟨Nat.le_of_ble_eq_true rfl, Nat.le_of_ble_eq_true rfl⟩ [2] [0, 1] (N0 := 3) rfl (by decide) (ms2 := (fun (U : Md) => [wX11 E h0 a0 u0, wX8 E (a0 0) a0_0 u0_0, wX1 E (a0_0 5) a0_0_5 U])) rfl (fun _ => rfl) (fun _ => rfl) (fun _ => rfl) rfl (Nat.le_of_ble_eq_true rfl) dX11_vote_49 (fun v49_0 hw => ?_)
          refine v_iconst (v := 0) C dX11_vote_52 (by decide) ?_
          exact hret _ _ _ _ 0 (u0, u0_0, v49_0) dX11_vote_53 rfl hw (Nat.le_of_ble_eq_true rfl) (Nat.le_of_ble_eq_true rfl)
        · have hw := hw.2 hc
          refine v_bipush (v := (-5)) C dX11_vote_41 (by decide) ?_
          exact hret _ _ _ _ ((-5)) (u0, u0_0, v12_0) dX11_vote_43 rfl hw (Nat.le_of_ble_eq_true rfl) (Nat.le_of_ble_eq_true rfl)
      · have hw := hw.2 hc
        refine v_bipush (v := (-2)) C dX11_vote_28 (by decide) ?_
        exact hret _ _ _ _ ((-2)) (u0, u0_0, v12_0) dX11_vote_30 rfl hw (Nat.le_of_ble_eq_true rfl) (Nat.le_of_ble_eq_true rfl)
set_option maxHeartbeats 4000000 in
set_option maxRecDepth 100000 in
theorem kX11_close {l : Launch} {E : VE} (h0 : Nat) (a0 : Nat → Nat) (a0_0 : Nat → Nat) (a0_0_2 : Nat → Nat) (a0_0_3 : Nat → Nat) (a0_0_4 : Nat → Nat) (a0_0_5 : Nat → Nat) (a0_4 : Nat → Nat) (a0_4_6 : Nat → Nat) (a0_4_7 : Nat → Nat) (u0 : Md) (u0_0 : Md) (u0_0_2 : Md) (u0_0_3 : Md) (u0_0_4 : Md) (u0_0_5 : Md) (u0_4 : Md) (u0_4_6 : Md) (u0_4_7 : Md) (x1 : Int32) {Q : Int32 → Md → Md → Md → Md → Md → Md → Md → Md → Md → Prop} (hw : qX11_close u0 u0_0 u0_0_2 u0_0_3 u0_0_4 u0_0_5 u0_4 u0_4_6 u0_4_7 x1 Q) : MI l yX11_close cX11_close 5 .int 6 0 0 E [.ref h0, .int x1] ([wX11 E h0 a0 u0, wX8 E (a0 0) a0_0 u0_0, wX2 E (a0_0 2) a0_0_2 u0_0_2, wX7 E (a0_0 3) a0_0_3 u0_0_3, wX0 E (a0_0 4) a0_0_4 u0_0_4, wX1 E (a0_0 5) a0_0_5 u0_0_5, wX10 E (a0 4) a0_4 u0_4, wX5 E (a0_4 6) a0_4_6 u0_4_6, wX5 E (a0_4 7) a0_4_7 u0_4_7].flatten) (fun (U : Md × Md × Md × Md × Md × Md × Md × Md × Md) => [wX11 E h0 a0 U.1, wX8 E (a0 0) a0_0 U.2.1, wX2 E (a0_0 2) a0_0_2 U.2.2.1, wX7 E (a0_0 3) a0_0_3 U.2.2.2.1, wX0 E (a0_0 4) a0_0_4 U.2.2.2.2.1, wX1 E (a0_0 5) a0_0_5 U.2.2.2.2.2.1, wX10 E (a0 4) a0_4 U.2.2.2.2.2.2.1, wX5 E (a0_4 6) a0_4_6 U.2.2.2.2.2.2.2.1, wX5 E (a0_4 7) a0_4_7 U.2.2.2.2.2.2.2.2].flatten) (fun (r : Int32) (U : Md × Md × Md × Md × Md × Md × Md × Md × Md) => Q r U.1 U.2.1 U.2.2.1 U.2.2.2.1 U.2.2.2.2.1 U.2.2.2.2.2.1 U.2.2.2.2.2.2.1 U.2.2.2.2.2.2.2.1 U.2.2.2.2.2.2.2.2) := by
  refine MI.of (own := RX11) (by decide) rfl (Nat.le_of_ble_eq_true rfl) ?_
  intro X C hini hret
  show VV X 0 0 ([wX11 E h0 a0 u0, wX8 E (a0 0) a0_0 u0_0, wX2 E (a0_0 2) a0_0_2 u0_0_2, wX7 E (a0_0 3) a0_0_3 u0_0_3, wX0 E (a0_0 4) a0_0_4 u0_0_4, wX1 E (a0_0 5) a0_0_5 u0_0_5, wX10 E (a0 4) a0_4 u0_4, wX5 E (a0_4 6) a0_4_6 u0_4_6, wX5 E (a0_4 7) a0_4_7 u0_4_7].flatten) [(0, .ref h0), (1, .int x1)] 0 []
  unfold qX11_close at hw
  refine v_aload_n C dX11_close_0 0 rfl ?_
  refine v_get (ci := 11) C inT11 0 0 rfl rfl (by decide) mF_X11_10_X11_0 rfl dX11_close_1 ?_
  refine v_get (ci := 8) C inT8 5 5 rfl rfl (by decide) mF_X11_217_X8_5 rfl dX11_close_4 ?_
  refine v_astore_n (lv' := [(2, .ref ((a0_0 5))), (0, .ref h0), (1, .int x1)]) C dX11_close_7 (by decide) rfl ?_
  refine v_aload_n C dX11_close_8 0 rfl ?_
  refine v_iload_n C dX11_close_9 2 rfl ?_
  refine v_callVMi (st := []) (ci := 1) (qb := 43) C (kX1_has ((a0_0 5)) a0_0_5 _ _ hw) mM_X11_229 mI_X1 mC_X1_has mN_X1_has mS_X1_has rfl rfl hd_X1_has ⟨Nat.le_of_ble_eq_true rfl, Nat.le_of_ble_eq_true rfl⟩ ⟨Nat.le_of_ble_eq_true rfl, Nat.le_of_ble_eq_true rfl⟩ [5] [0, 1, 2, 3, 4, 6, 7, 8] (N0 := 9) rfl (by decide) (ms2 := (fun (U : Md) => [wX11 E h0 a0 u0, wX8 E (a0 0) a0_0 u0_0, wX2 E (a0_0 2) a0_0_2 u0_0_2, wX7 E (a0_0 3) a0_0_3 u0_0_3, wX0 E (a0_0 4) a0_0_4 u0_0_4, wX1 E (a0_0 5) a0_0_5 U, wX10 E (a0 4) a0_4 u0_4, wX5 E (a0_4 6) a0_4_6 u0_4_6, wX5 E (a0_4 7) a0_4_7 u0_4_7])) rfl (fun _ => rfl) (fun _ => rfl) (fun _ => rfl) rfl (Nat.le_of_ble_eq_true rfl) dX11_close_10 (fun r10 v10_0 hw => ?_)
  obtain ⟨h01_10, hw⟩ := hw
  have hw := hw h01_10
  refine v_if_ne (tgt := 19) C dX11_close_13 (by decide) (fun hc => ?_) (fun hc => ?_)
  · have hw := hw.1 hc
    refine v_aload_n C dX11_close_19 0 rfl ?_
    refine v_get (ci := 1) C inT1 43 3 rfl rfl (by decide) mF_X11_230_X1_3 rfl dX11_close_20 ?_
    refine v_iload_n C dX11_close_23 2 rfl ?_
    obtain ⟨hi24, hw⟩ := hw
    refine v_zald C 46 rfl hi24 dX11_close_24 ?_
    refine v_if_ne (tgt := 31) C dX11_close_25 (by decide) (fun hc => ?_) (fun hc => ?_)
    · have hw := hw.1 hc
      refine v_aload_n C dX11_close_31 0 rfl ?_
      refine v_get (ci := 1) C inT1 43 3 rfl rfl (by decide) mF_X11_230_X1_3 rfl dX11_close_32 ?_
      refine v_iload_n C dX11_close_35 2 rfl ?_
      refine v_iconst (v := 0) C dX11_close_36 (by decide) ?_
      obtain ⟨hi37, hw⟩ := hw
      obtain ⟨w37, e37⟩ : ∃ z : Md, z = tZ v10_0 3 x1 0 := ⟨_, rfl⟩
      have hw := hw w37 e37
      refine v_zast (ws' := [wX11 E h0 a0 u0, wX8 E (a0 0) a0_0 u0_0, wX2 E (a0_0 2) a0_0_2 u0_0_2, wX7 E (a0_0 3) a0_0_3 u0_0_3, wX0 E (a0_0 4) a0_0_4 u0_0_4, wX1 E (a0_0 5) a0_0_5 w37, wX10 E (a0 4) a0_4 u0_4, wX5 E (a0_4 6) a0_4_6 u0_4_6, wX5 E (a0_4 7) a0_4_7 u0_4_7].flatten) C 46 rfl hi37 (by rw [e37]; rfl) dX11_close_37 ?_
      refine v_aload_n C dX11_close_38 0 rfl ?_
      refine v_get (ci := 1) C inT1 43 1 rfl rfl (by decide) mF_X11_238_X1_1 rfl dX11_close_39 ?_
      refine v_iload_n C dX11_close_42 2 rfl ?_
      obtain ⟨hi43, hw⟩ := hw
      refine v_iald C 44 rfl hi43 dX11_close_43 ?_
      refine v_istore_n (lv' := [(3, .int (gA w37 1 x1.toNatClampNeg)), (2, .ref ((a0_0 5))), (0, .ref h0), (1, .int x1)]) C dX11_close_44 (by decide) rfl ?_
      refine v_aload_n C dX11_close_45 2 rfl ?_
      refine v_get (ci := 11) C inT11 0 4 rfl rfl (by decide) mF_X11_37_X11_4 rfl dX11_close_46 ?_
      refine v_aload_n C dX11_close_49 2 rfl ?_
      refine v_get (ci := 11) C inT11 0 0 rfl rfl (by decide) mF_X11_10_X11_0 rfl dX11_close_50 ?_
      refine v_iload_n C dX11_close_53 3 rfl ?_
      refine v_iload_n C dX11_close_54 0 rfl ?_
      refine v_callVMi (st := []) (ci := 10) (qb := 54) C (kX10_whyRefused ((a0 4)) ((a0 0)) a0_4 a0_4_6 a0_4_7 a0_0 a0_0_2 a0_0_3 a0_0_4 a0_0_5 _ _ _ _ _ _ _ _ _ _ hw) mM_X11_241 mI_X10 mC_X10_whyRefused mN_X10_whyRefused mS_X10_whyRefused rfl rfl hd_X10_whyRefused ⟨Nat.le_of_ble_eq_true rfl, Nat.le_of_ble_eq_true rfl⟩ ⟨Nat.le_of_ble_eq_true rfl, Nat.le_of_ble_eq_true rfl⟩ [6, 7, 8, 1, 2, 3, 4, 5] [0] (N0 := 9) rfl (by decide) (ms2 := (fun (U : Md × Md × Md × Md × Md × Md × Md × Md) => [wX11 E h0 a0 u0, wX8 E (a0 0) a0_0 U.2.2.2.1, wX2 E (a0_0 2) a0_0_2 U.2.2.2.2.1, wX7 E (a0_0 3) a0_0_3 U.2.2.2.2.2.1, wX0 E (a0_0 4) a0_0_4 U.2.2.2.2.2.2.1, wX1 E (a0_0 5) a0_0_5 U.2.2.2.2.2.2.2, wX10 E (a0 4) a0_4 U.1, wX5 E (a0_4 6) a0_4_6 U.2.1, wX5 E (a0_4 7) a0_4_7 U.2.2.1])) rfl (fun _ => rfl) (fun _ => rfl) (fun _ => rfl) rfl (Nat.le_of_ble_eq_true rfl) dX11_close_55 (fun r55 U55 hw => ?_)
      obtain ⟨v55_0, v55_1, v55_2, v55_3, v55_4, v55_5, v55_6, v55_7⟩ := U55
      refine v_istore (lv' := [(4, .int r55), (3, .int (gA w37 1 x1.toNatClampNeg)), (2, .ref ((a0_0 5))), (0, .ref h0), (1, .int x1)]) C dX11_close_58 (by decide) rfl ?_
      refine v_iload C dX11_close_60 0 rfl ?_
      refine v_if_ne (tgt := 108) C dX11_close_62 (by decide) (fun hc => ?_) (fun hc => ?_)
      · have hw := hw.1 hc
        refine v_iload C dX11_close_108 0 rfl ?_
        exact hret _ _ _ _ r55 (u0, v55_3, v55_4, v55_5, v55_6, v55_7, v55_0, v55_1, v55_2) dX11_close_110 rfl hw (Nat.le_of_ble_eq_true rfl) (Nat.le_of_ble_eq_true rfl)
      · have hw := hw.2 hc
        refine v_aload_n C dX11_close_65 2 rfl ?_
        refine v_iload_n C dX11_close_66 1 rfl ?_
        refine v_aload_n C dX11_close_67 3 rfl ?_
        refine v_get (ci := 11) C inT11 0 0 rfl rfl (by decide) mF_X11_10_X11_0 rfl dX11_close_68 ?_
        refine v_get (ci := 8) C inT8 5 3 rfl rfl (by decide) mF_X11_142_X8_3 rfl dX11_close_71 ?_
        refine v_get (ci := 7) C inT7 16 1 rfl rfl (by decide) mF_X11_221_X7_1 rfl dX11_close_74 ?_
        refine v_iload_n C dX11_close_77 1 rfl ?_
        obtain ⟨hi78, hw⟩ := hw
        refine v_iald C 17 rfl hi78 dX11_close_78 ?_
        refine v_aload_n C dX11_close_79 3 rfl ?_
        refine v_get (ci := 11) C inT11 0 0 rfl rfl (by decide) mF_X11_10_X11_0 rfl dX11_close_80 ?_
        refine v_get (ci := 8) C inT8 5 3 rfl rfl (by decide) mF_X11_142_X8_3 rfl dX11_close_83 ?_
        refine v_get (ci := 7) C inT7 16 2 rfl rfl (by decide) mF_X11_245_X7_2 rfl dX11_close_86 ?_
        refine v_iload_n C dX11_close_89 1 rfl ?_
        obtain ⟨hi90, hw⟩ := hw
        refine v_iald C 18 rfl hi90 dX11_close_90 ?_
        refine v_aload_n C dX11_close_91 3 rfl ?_
        refine v_get (ci := 11) C inT11 0 0 rfl rfl (by decide) mF_X11_10_X11_0 rfl dX11_close_92 ?_
        refine v_get (ci := 8) C inT8 5 0 rfl rfl (by decide) mF_X11_84_X8_0 rfl dX11_close_95 ?_
        refine v_callVMv (st := []) (ci := 1) (qb := 43) C (kX1_settle ((a0_0 5)) a0_0_5 _ _ _ _ _ hw) mM_X11_248 mI_X1 mC_X1_settle mN_X1_settle mS_X1_settle rfl rfl hd_X1_settle ⟨Nat.le_of_ble_eq_true rfl, Nat.le_of_ble_eq_true rfl⟩ ⟨Nat.le_of_ble_eq_true rfl, Nat.le_of_ble_eq_true rfl⟩ [5] [0, 1, 2, 3, 4, 6, 7, 8] (N0 := 9) rfl (by decide) (ms2 := (fun (U : Md) => [wX11 E h0 a0 u0, wX8 E (a0 0) a0_0 v55_3, wX2 E (a0_0 2) a0_0_2 v55_4, wX7 E (a0_0 3) a0_0_3 v55_5, wX0 E (a0_0 4) a0_0_4 v55_6, wX1 E (a0_0 5) a0_0_5 U, wX10 E (a0 4) a0_4 v55_0, wX5 E (a0_4 6) a0_4_6 v55_1, wX5 E (a0_4 7) a0_4_7 v55_2])) rfl (fun _ => rfl) (fun _ => rfl) (fun _ => rfl) rfl (Nat.le_of_ble_eq_true rfl) dX11_close_98 (fun v98_0 hw => ?_)
        refine v_aload_n C dX11_close_101 3 rfl ?_
        refine v_get (ci := 11) C inT11 0 0 rfl rfl (by decide) mF_X11_10_X11_0 rfl dX11_close_102 ?_
        refine v_callVMv (st := []) (ci := 8) (qb := 5) C (kX8_mark ((a0 0)) a0_0 _ hw) mM_X11_108 mI_X8 mC_X8_mark mN_X8_mark mS_X8_mark rfl rfl hd_X8_mark ⟨Nat.le_of_ble_eq_true rfl, Nat.le_of_ble_eq_true rfl⟩ ⟨Nat.le_of_ble_eq_true rfl, Nat.le_of_ble_eq_true rfl⟩ [1] [0, 2, 3, 4, 5, 6, 7, 8] (N0 := 9) rfl (by decide) (ms2 := (fun (U : Md) => [wX11 E h0 a0 u0, wX8 E (a0 0) a0_0 U, wX2 E (a0_0 2) a0_0_2 v55_4, wX7 E (a0_0 3) a0_0_3 v55_5, wX0 E (a0_0 4) a0_0_4 v55_6, wX1 E (a0_0 5) a0_0_5 v98_0, wX10 E (a0 4) a0_4 v55_0, wX5 E (a0_4 6) a0_4_6 v55_1, wX5 E (a0_4 7) a0_4_7 v55_2])) rfl (fun _ => rfl) (fun _ => rfl) (fun _ => rfl) rfl (Nat.le_of_ble_eq_true rfl) dX11_close_105 (fun v105_0 hw => ?_)
        refine v_iload C dX11_close_108 0 rfl ?_
        exact hret _ _ _ _ r55 (u0, v105_0, v55_4, v55_5, v55_6, v98_0, v55_0, v55_1, v55_2) dX11_close_110 rfl hw (Nat.le_of_ble_eq_true rfl) (Nat.le_of_ble_eq_true rfl)
    · have hw := hw.2 hc
      refine v_bipush (v := (-5)) C dX11_close_28 (by decide) ?_
      exact hret _ _ _ _ ((-5)) (u0, u0_0, u0_0_2, u0_0_3, u0_0_4, v10_0, u0_4, u0_4_6, u0_4_7) dX11_close_30 rfl hw (Nat.le_of_ble_eq_true rfl) (Nat.le_of_ble_eq_true rfl)
  · have hw := hw.2 hc
    refine v_bipush (v := (-2)) C dX11_close_16 (by decide) ?_
    exact hret _ _ _ _ ((-2)) (u0, u0_0, u0_0_2, u0_0_3, u0_0_4, v10_0, u0_4, u0_4_6, u0_4_7) dX11_close_18 rfl hw (Nat.le_of_ble_eq_true rfl) (Nat.le_of_ble_eq_true rfl)
set_option maxHeartbeats 4000000 in
set_option maxRecDepth 100000 in
theorem kX11_settled {l : Launch} {E : VE} (h0 : Nat) (a0 : Nat → Nat) (a0_0 : Nat → Nat) (a0_0_2 : Nat → Nat) (a0_0_5 : Nat → Nat) (u0 : Md) (u0_0 : Md) (u0_0_2 : Md) (u0_0_5 : Md) (x1 : Int32) (x2 : Int32) (x3 : Int32) (x4 : Int32) {Q : Int32 → Md → Md → Md → Md → Prop} (hw : qX11_settled u0 u0_0 u0_0_2 u0_0_5 x1 x2 x3 x4 Q) : MI l yX11_settled cX11_settled 5 .int 2 0 0 E [.ref h0, .int x1, .int x2, .int x3, .int x4] ([wX11 E h0 a0 u0, wX8 E (a0 0) a0_0 u0_0, wX2 E (a0_0 2) a0_0_2 u0_0_2, wX1 E (a0_0 5) a0_0_5 u0_0_5].flatten) (fun (U : Md × Md × Md × Md) => [wX11 E h0 a0 U.1, wX8 E (a0 0) a0_0 U.2.1, wX2 E (a0_0 2) a0_0_2 U.2.2.1, wX1 E (a0_0 5) a0_0_5 U.2.2.2].flatten) (fun (r : Int32) (U : Md × Md × Md × Md) => Q r U.1 U.2.1 U.2.2.1 U.2.2.2) := by
  refine MI.of (own := RX11) (by decide) rfl (Nat.le_of_ble_eq_true rfl) ?_
  intro X C hini hret
  show VV X 0 0 ([wX11 E h0 a0 u0, wX8 E (a0 0) a0_0 u0_0, wX2 E (a0_0 2) a0_0_2 u0_0_2, wX1 E (a0_0 5) a0_0_5 u0_0_5].flatten) [(0, .ref h0), (1, .int x1), (2, .int x2), (3, .int x3), (4, .int x4)] 0 []
  unfold qX11_settled at hw
  refine v_aload_n C dX11_settled_0 0 rfl ?_
  refine v_get (ci := 11) C inT11 0 0 rfl rfl (by decide) mF_X11_10_X11_0 rfl dX11_settled_1 ?_
  refine v_get (ci := 8) C inT8 5 2 rfl rfl (by decide) mF_X11_87_X8_2 rfl dX11_settled_4 ?_
  refine v_iload_n C dX11_settled_7 1 rfl ?_
  refine v_callVMi (st := []) (ci := 2) (qb := 7) C (kX2_has ((a0_0 2)) a0_0_2 _ _ hw) mM_X11_97 mI_X2 mC_X2_has mN_X2_has mS_X2_has rfl rfl hd_X2_has ⟨Nat.le_of_ble_eq_true rfl, Nat.le_of_ble_eq_true rfl⟩ ⟨Nat.le_of_ble_eq_true rfl, Nat.le_of_ble_eq_true rfl⟩ [2] [0, 1, 3] (N0 := 4) rfl (by decide) (ms2 := (fun (U : Md) => [wX11 E h0 a0 u0, wX8 E (a0 0) a0_0 u0_0, wX2 E (a0_0 2) a0_0_2 U, wX1 E (a0_0 5) a0_0_5 u0_0_5])) rfl (fun _ => rfl) (fun _ => rfl) (fun _ => rfl) rfl (Nat.le_of_ble_eq_true rfl) dX11_settled_8 (fun r8 v8_0 hw => ?_)
  obtain ⟨h01_8, hw⟩ := hw
  have hw := hw h01_8
  refine v_if_eq (tgt := 36) C dX11_settled_11 (by decide) (fun hc => ?_) (fun hc => ?_)
  · have hw := hw.1 hc
    refine v_bipush (v := (-2)) C dX11_settled_36 (by decide) ?_
    exact hret _ _ _ _ ((-2)) (u0, u0_0, v8_0, u0_0_5) dX11_settled_38 rfl hw (Nat.le_of_ble_eq_true rfl) (Nat.le_of_ble_eq_true rfl)
  · have hw := hw.2 hc
    refine v_iload_n C dX11_settled_14 2 rfl ?_
    refine v_callSPi (st := []) C (kX11_isTongue _ hw) mM_X11_118 mI_X11 mC_X11_isTongue mT_X11_isTongue hd_X11_isTongue ⟨Nat.le_of_ble_eq_true rfl, Nat.le_of_ble_eq_true rfl⟩ ⟨Nat.le_of_ble_eq_true rfl, Nat.le_of_ble_eq_true rfl⟩ rfl (Nat.le_of_ble_eq_true rfl) dX11_settled_15 (fun r15 U15 hw => ?_)
    obtain ⟨h01_15, hw⟩ := hw
    have hw := hw h01_15
    refine v_if_eq (tgt := 36) C dX11_settled_18 (by decide) (fun hc => ?_) (fun hc => ?_)
    · have hw := hw.1 hc
      refine v_bipush (v := (-2)) C dX11_settled_36 (by decide) ?_
      exact hret _ _ _ _ ((-2)) (u0, u0_0, v8_0, u0_0_5) dX11_settled_38 rfl hw (Nat.le_of_ble_eq_true rfl) (Nat.le_of_ble_eq_true rfl)
    · have hw := hw.2 hc
      refine v_iload_n C dX11_settled_21 3 rfl ?_
      refine v_callSPi (st := []) C (kX11_isYear _ hw) mM_X11_80 mI_X11 mC_X11_isYear mT_X11_isYear hd_X11_isYear ⟨Nat.le_of_ble_eq_true rfl, Nat.le_of_ble_eq_true rfl⟩ ⟨Nat.le_of_ble_eq_true rfl, Nat.le_of_ble_eq_true rfl⟩ rfl (Nat.le_of_ble_eq_true rfl) dX11_settled_22 (fun r22 U22 hw => ?_)
      obtain ⟨h01_22, hw⟩ := hw
      have hw := hw h01_22
      refine v_if_eq (tgt := 36) C dX11_settled_25 (by decide) (fun hc => ?_) (fun hc => ?_)
      · have hw := hw.1 hc
        refine v_bipush (v := (-2)) C dX11_settled_36 (by decide) ?_
        exact hret _ _ _ _ ((-2)) (u0, u0_0, v8_0, u0_0_5) dX11_settled_38 rfl hw (Nat.le_of_ble_eq_true rfl) (Nat.le_of_ble_eq_true rfl)
      · have hw := hw.2 hc
        refine v_iload C dX11_settled_28 4 rfl ?_
        refine v_callSPi (st := []) C (kX11_isYear _ hw) mM_X11_80 mI_X11 mC_X11_isYear mT_X11_isYear hd_X11_isYear ⟨Nat.le_of_ble_eq_true rfl, Nat.le_of_ble_eq_true rfl⟩ ⟨Nat.le_of_ble_eq_true rfl, Nat.le_of_ble_eq_true rfl⟩ rfl (Nat.le_of_ble_eq_true rfl) dX11_settled_30 (fun r30 U30 hw => ?_)
        obtain ⟨h01_30, hw⟩ := hw
        have hw := hw h01_30
        refine v_if_ne (tgt := 39) C dX11_settled_33 (by decide) (fun hc => ?_) (fun hc => ?_)
        · have hw := hw.1 hc
          refine v_aload_n C dX11_settled_39 0 rfl ?_
          refine v_get (ci := 11) C inT11 0 0 rfl rfl (by decide) mF_X11_10_X11_0 rfl dX11_settled_40 ?_
          refine v_get (ci := 8) C inT8 5 5 rfl rfl (by decide) mF_X11_217_X8_5 rfl dX11_settled_43 ?_
          refine v_iload_n C dX11_settled_46 1 rfl ?_
          refine v_iload_n C dX11_settled_47 2 rfl ?_
          refine v_iload_n C dX11_settled_48 3 rfl ?_
          refine v_iload C dX11_settled_49 4 rfl ?_
          refine v_imin C mM_X11_121 ⟨Nat.le_of_ble_eq_true rfl, Nat.le_of_ble_eq_true rfl, Nat.le_of_ble_eq_true rfl, Nat.le_of_ble_eq_true rfl⟩ dX11_settled_51 ?_
          refine v_callVMi (st := []) (ci := 1) (qb := 16) C (kX1_nameAt ((a0_0 5)) a0_0_5 _ _ _ _ hw) mM_X11_252 mI_X1 mC_X1_nameAt mN_X1_nameAt mS_X1_nameAt rfl rfl hd_X1_nameAt ⟨Nat.le_of_ble_eq_true rfl, Nat.le_of_ble_eq_true rfl⟩ ⟨Nat.le_of_ble_eq_true rfl, Nat.le_of_ble_eq_true rfl⟩ [3] [0, 1, 2] (N0 := 4) rfl (by decide) (ms2 := (fun (U : Md) => [wX11 E h0 a0 u0, wX8 E (a0 0) a0_0 u0_0, wX2 E (a0_0 2) a0_0_2 v8_0, wX1 E (a0_0 5) a0_0_5 U])) rfl (fun _ => rfl) (fun _ => rfl) (fun _ => rfl) rfl (Nat.le_of_ble_eq_true rfl) dX11_settled_54 (fun r54 v54_0 hw => ?_)
          exact hret _ _ _ _ r54 (u0, u0_0, v8_0, v54_0) dX11_settled_57 rfl hw (Nat.le_of_ble_eq_true rfl) (Nat.le_of_ble_eq_true rfl)
        · have hw := hw.2 hc
          refine v_bipush (v := (-2)) C dX11_settled_36 (by decide) ?_
          exact hret _ _ _ _ ((-2)) (u0, u0_0, v8_0, u0_0_5) dX11_settled_38 rfl hw (Nat.le_of_ble_eq_true rfl) (Nat.le_of_ble_eq_true rfl)
set_option maxHeartbeats 4000000 in
set_option maxRecDepth 100000 in
theorem kX11_undo {l : Launch} {E : VE} (h0 : Nat) (a0 : Nat → Nat) (a0_0 : Nat → Nat) (a0_0_2 : Nat → Nat) (a0_0_5 : Nat → Nat) (u0 : Md) (u0_0 : Md) (u0_0_2 : Md) (u0_0_5 : Md) (x1 : Int32) (x2 : Int32) {Q : Int32 → Md → Md → Md → Md → Prop} (hw : qX11_undo u0 u0_0 u0_0_2 u0_0_5 x1 x2 Q) : MI l yX11_undo cX11_undo 3 .int 2 0 0 E [.ref h0, .int x1, .int x2] ([wX11 E h0 a0 u0, wX8 E (a0 0) a0_0 u0_0, wX2 E (a0_0 2) a0_0_2 u0_0_2, wX1 E (a0_0 5) a0_0_5 u0_0_5].flatten) (fun (U : Md × Md × Md × Md) => [wX11 E h0 a0 U.1, wX8 E (a0 0) a0_0 U.2.1, wX2 E (a0_0 2) a0_0_2 U.2.2.1, wX1 E (a0_0 5) a0_0_5 U.2.2.2].flatten) (fun (r : Int32) (U : Md × Md × Md × Md) => Q r U.1 U.2.1 U.2.2.1 U.2.2.2) := by
  refine MI.of (own := RX11) (by decide) rfl (Nat.le_of_ble_eq_true rfl) ?_
  intro X C hini hret
  show VV X 0 0 ([wX11 E h0 a0 u0, wX8 E (a0 0) a0_0 u0_0, wX2 E (a0_0 2) a0_0_2 u0_0_2, wX1 E (a0_0 5) a0_0_5 u0_0_5].flatten) [(0, .ref h0), (1, .int x1), (2, .int x2)] 0 []
  unfold qX11_undo at hw
  refine v_aload_n C dX11_undo_0 0 rfl ?_
  refine v_get (ci := 11) C inT11 0 0 rfl rfl (by decide) mF_X11_10_X11_0 rfl dX11_undo_1 ?_
  refine v_get (ci := 8) C inT8 5 2 rfl rfl (by decide) mF_X11_87_X8_2 rfl dX11_undo_4 ?_
  refine v_iload_n C dX11_undo_7 1 rfl ?_
  refine v_callVMi (st := []) (ci := 2) (qb := 7) C (kX2_has ((a0_0 2)) a0_0_2 _ _ hw) mM_X11_97 mI_X2 mC_X2_has mN_X2_has mS_X2_has rfl rfl hd_X2_has ⟨Nat.le_of_ble_eq_true rfl, Nat.le_of_ble_eq_true rfl⟩ ⟨Nat.le_of_ble_eq_true rfl, Nat.le_of_ble_eq_true rfl⟩ [2] [0, 1, 3] (N0 := 4) rfl (by decide) (ms2 := (fun (U : Md) => [wX11 E h0 a0 u0, wX8 E (a0 0) a0_0 u0_0, wX2 E (a0_0 2) a0_0_2 U, wX1 E (a0_0 5) a0_0_5 u0_0_5])) rfl (fun _ => rfl) (fun _ => rfl) (fun _ => rfl) rfl (Nat.le_of_ble_eq_true rfl) dX11_undo_8 (fun r8 v8_0 hw => ?_)
  obtain ⟨h01_8, hw⟩ := hw
  have hw := hw h01_8
  refine v_if_eq (tgt := 21) C dX11_undo_11 (by decide) (fun hc => ?_) (fun hc => ?_)
  · have hw := hw.1 hc
    refine v_bipush (v := (-2)) C dX11_undo_21 (by decide) ?_
    exact hret _ _ _ _ ((-2)) (u0, u0_0, v8_0, u0_0_5) dX11_undo_23 rfl hw (Nat.le_of_ble_eq_true rfl) (Nat.le_of_ble_eq_true rfl)
  · have hw := hw.2 hc
    refine v_iload_n C dX11_undo_14 2 rfl ?_
    refine v_callSPi (st := []) C (kX11_isTongue _ hw) mM_X11_118 mI_X11 mC_X11_isTongue mT_X11_isTongue hd_X11_isTongue ⟨Nat.le_of_ble_eq_true rfl, Nat.le_of_ble_eq_true rfl⟩ ⟨Nat.le_of_ble_eq_true rfl, Nat.le_of_ble_eq_true rfl⟩ rfl (Nat.le_of_ble_eq_true rfl) dX11_undo_15 (fun r15 U15 hw => ?_)
    obtain ⟨h01_15, hw⟩ := hw
    have hw := hw h01_15
    refine v_if_ne (tgt := 24) C dX11_undo_18 (by decide) (fun hc => ?_) (fun hc => ?_)
    · have hw := hw.1 hc
      refine v_aload_n C dX11_undo_24 0 rfl ?_
      refine v_get (ci := 11) C inT11 0 0 rfl rfl (by decide) mF_X11_10_X11_0 rfl dX11_undo_25 ?_
      refine v_get (ci := 8) C inT8 5 5 rfl rfl (by decide) mF_X11_217_X8_5 rfl dX11_undo_28 ?_
      refine v_iload_n C dX11_undo_31 1 rfl ?_
      refine v_iload_n C dX11_undo_32 2 rfl ?_
      refine v_aload_n C dX11_undo_33 0 rfl ?_
      refine v_get (ci := 11) C inT11 0 0 rfl rfl (by decide) mF_X11_10_X11_0 rfl dX11_undo_34 ?_
      refine v_get (ci := 8) C inT8 5 0 rfl rfl (by decide) mF_X11_84_X8_0 rfl dX11_undo_37 ?_
      refine v_callVMi (st := []) (ci := 1) (qb := 16) C (kX1_undoLast ((a0_0 5)) a0_0_5 _ _ _ _ hw) mM_X11_256 mI_X1 mC_X1_undoLast mN_X1_undoLast mS_X1_undoLast rfl rfl hd_X1_undoLast ⟨Nat.le_of_ble_eq_true rfl, Nat.le_of_ble_eq_true rfl⟩ ⟨Nat.le_of_ble_eq_true rfl, Nat.le_of_ble_eq_true rfl⟩ [3] [0, 1, 2] (N0 := 4) rfl (by decide) (ms2 := (fun (U : Md) => [wX11 E h0 a0 u0, wX8 E (a0 0) a0_0 u0_0, wX2 E (a0_0 2) a0_0_2 v8_0, wX1 E (a0_0 5) a0_0_5 U])) rfl (fun _ => rfl) (fun _ => rfl) (fun _ => rfl) rfl (Nat.le_of_ble_eq_true rfl) dX11_undo_40 (fun r40 v40_0 hw => ?_)
      obtain ⟨h01_40, hw⟩ := hw
      have hw := hw h01_40
      refine v_if_ne (tgt := 49) C dX11_undo_43 (by decide) (fun hc => ?_) (fun hc => ?_)
      · have hw := hw.1 hc
        refine v_aload_n C dX11_undo_49 0 rfl ?_
        refine v_get (ci := 11) C inT11 0 0 rfl rfl (by decide) mF_X11_10_X11_0 rfl dX11_undo_50 ?_
        refine v_callVMv (st := []) (ci := 8) (qb := 5) C (kX8_mark ((a0 0)) a0_0 _ hw) mM_X11_108 mI_X8 mC_X8_mark mN_X8_mark mS_X8_mark rfl rfl hd_X8_mark ⟨Nat.le_of_ble_eq_true rfl, Nat.le_of_ble_eq_true rfl⟩ ⟨Nat.le_of_ble_eq_true rfl, Nat.le_of_ble_eq_true rfl⟩ [1] [0, 2, 3] (N0 := 4) rfl (by decide) (ms2 := (fun (U : Md) => [wX11 E h0 a0 u0, wX8 E (a0 0) a0_0 U, wX2 E (a0_0 2) a0_0_2 v8_0, wX1 E (a0_0 5) a0_0_5 v40_0])) rfl (fun _ => rfl) (fun _ => rfl) (fun _ => rfl) rfl (Nat.le_of_ble_eq_true rfl) dX11_undo_53 (fun v53_0 hw => ?_)
        refine v_aload_n C dX11_undo_56 0 rfl ?_
        refine v_get (ci := 11) C inT11 0 0 rfl rfl (by decide) mF_X11_10_X11_0 rfl dX11_undo_57 ?_
        refine v_get (ci := 8) C inT8 5 5 rfl rfl (by decide) mF_X11_217_X8_5 rfl dX11_undo_60 ?_
        refine v_iload_n C dX11_undo_63 1 rfl ?_
        refine v_iload_n C dX11_undo_64 2 rfl ?_
        refine v_aload_n C dX11_undo_65 0 rfl ?_
        refine v_get (ci := 11) C inT11 0 0 rfl rfl (by decide) mF_X11_10_X11_0 rfl dX11_undo_66 ?_
        refine v_get (ci := 8) C inT8 5 0 rfl rfl (by decide) mF_X11_84_X8_0 rfl dX11_undo_69 ?_
        refine v_callVMi (st := []) (ci := 1) (qb := 16) C (kX1_nameAt ((a0_0 5)) a0_0_5 _ _ _ _ hw) mM_X11_252 mI_X1 mC_X1_nameAt mN_X1_nameAt mS_X1_nameAt rfl rfl hd_X1_nameAt ⟨Nat.le_of_ble_eq_true rfl, Nat.le_of_ble_eq_true rfl⟩ ⟨Nat.le_of_ble_eq_true rfl, Nat.le_of_ble_eq_true rfl⟩ [3] [0, 1, 2] (N0 := 4) rfl (by decide) (ms2 := (fun (U : Md) => [wX11 E h0 a0 u0, wX8 E (a0 0) a0_0 v53_0, wX2 E (a0_0 2) a0_0_2 v8_0, wX1 E (a0_0 5) a0_0_5 U])) rfl (fun _ => rfl) (fun _ => rfl) (fun _ => rfl) rfl (Nat.le_of_ble_eq_true rfl) dX11_undo_72 (fun r72 v72_0 hw => ?_)
        exact hret _ _ _ _ r72 (u0, v53_0, v8_0, v72_0) dX11_undo_75 rfl hw (Nat.le_of_ble_eq_true rfl) (Nat.le_of_ble_eq_true rfl)
      · have hw := hw.2 hc
        refine v_bipush (v := (-5)) C dX11_undo_46 (by decide) ?_
        exact hret _ _ _ _ ((-5)) (u0, u0_0, v8_0, v40_0) dX11_undo_48 rfl hw (Nat.le_of_ble_eq_true rfl) (Nat.le_of_ble_eq_true rfl)
    · have hw := hw.2 hc
      refine v_bipush (v := (-2)) C dX11_undo_21 (by decide) ?_
      exact hret _ _ _ _ ((-2)) (u0, u0_0, v8_0, u0_0_5) dX11_undo_23 rfl hw (Nat.le_of_ble_eq_true rfl) (Nat.le_of_ble_eq_true rfl)
set_option maxHeartbeats 4000000 in
set_option maxRecDepth 100000 in
theorem kX11_shown {l : Launch} {E : VE} (h0 : Nat) (a0 : Nat → Nat) (a0_0 : Nat → Nat) (a0_0_2 : Nat → Nat) (a0_0_3 : Nat → Nat) (a0_0_4 : Nat → Nat) (a0_0_5 : Nat → Nat) (a0_3 : Nat → Nat) (a0_4 : Nat → Nat) (u0 : Md) (u0_0 : Md) (u0_0_2 : Md) (u0_0_3 : Md) (u0_0_4 : Md) (u0_0_5 : Md) (u0_3 : Md) (u0_4 : Md) (x1 : Int32) (x2 : Int32) (x3 : Int32) {Q : Int32 → Md → Md → Md → Md → Md → Md → Md → Md → Prop} (hw : qX11_shown u0 u0_0 u0_0_2 u0_0_3 u0_0_4 u0_0_5 u0_3 u0_4 x1 x2 x3 Q) : MI l yX11_shown cX11_shown 4 .int 5 0 0 E [.ref h0, .int x1, .int x2, .int x3] ([wX11 E h0 a0 u0, wX8 E (a0 0) a0_0 u0_0, wX2 E (a0_0 2) a0_0_2 u0_0_2, wX7 E (a0_0 3) a0_0_3 u0_0_3, wX0 E (a0_0 4) a0_0_4 u0_0_4, wX1 E (a0_0 5) a0_0_5 u0_0_5, wX5 E (a0 3) a0_3 u0_3, wX10 E (a0 4) a0_4 u0_4].flatten) (fun (U : Md × Md × Md × Md × Md × Md × Md × Md) => [wX11 E h0 a0 U.1, wX8 E (a0 0) a0_0 U.2.1, wX2 E (a0_0 2) a0_0_2 U.2.2.1, wX7 E (a0_0 3) a0_0_3 U.2.2.2.1, wX0 E (a0_0 4) a0_0_4 U.2.2.2.2.1, wX1 E (a0_0 5) a0_0_5 U.2.2.2.2.2.1, wX5 E (a0 3) a0_3 U.2.2.2.2.2.2.1, wX10 E (a0 4) a0_4 U.2.2.2.2.2.2.2].flatten) (fun (r : Int32) (U : Md × Md × Md × Md × Md × Md × Md × Md) => Q r U.1 U.2.1 U.2.2.1 U.2.2.2.1 U.2.2.2.2.1 U.2.2.2.2.2.1 U.2.2.2.2.2.2.1 U.2.2.2.2.2.2.2) := by
  refine MI.of (own := RX11) (by decide) rfl (Nat.le_of_ble_eq_true rfl) ?_
  intro X C hini hret
  show VV X 0 0 ([wX11 E h0 a0 u0, wX8 E (a0 0) a0_0 u0_0, wX2 E (a0_0 2) a0_0_2 u0_0_2, wX7 E (a0_0 3) a0_0_3 u0_0_3, wX0 E (a0_0 4) a0_0_4 u0_0_4, wX1 E (a0_0 5) a0_0_5 u0_0_5, wX5 E (a0 3) a0_3 u0_3, wX10 E (a0 4) a0_4 u0_4].flatten) [(0, .ref h0), (1, .int x1), (2, .int x2), (3, .int x3)] 0 []
  unfold qX11_shown at hw
  refine v_aload_n C dX11_shown_0 0 rfl ?_
  refine v_get (ci := 11) C inT11 0 0 rfl rfl (by decide) mF_X11_10_X11_0 rfl dX11_shown_1 ?_
  refine v_get (ci := 8) C inT8 5 2 rfl rfl (by decide) mF_X11_87_X8_2 rfl dX11_shown_4 ?_
  refine v_iload_n C dX11_shown_7 1 rfl ?_
  refine v_callVMi (st := []) (ci := 2) (qb := 7) C (kX2_has ((a0_0 2)) a0_0_2 _ _ hw) mM_X11_97 mI_X2 mC_X2_has mN_X2_has mS_X2_has rfl rfl hd_X2_has ⟨Nat.le_of_ble_eq_true rfl, Nat.le_of_ble_eq_true rfl⟩ ⟨Nat.le_of_ble_eq_true rfl, Nat.le_of_ble_eq_true rfl⟩ [2] [0, 1, 3, 4, 5, 6, 7] (N0 := 8) rfl (by decide) (ms2 := (fun (U : Md) => [wX11 E h0 a0 u0, wX8 E (a0 0) a0_0 u0_0, wX2 E (a0_0 2) a0_0_2 U, wX7 E (a0_0 3) a0_0_3 u0_0_3, wX0 E (a0_0 4) a0_0_4 u0_0_4, wX1 E (a0_0 5) a0_0_5 u0_0_5, wX5 E (a0 3) a0_3 u0_3, wX10 E (a0 4) a0_4 u0_4])) rfl (fun _ => rfl) (fun _ => rfl) (fun _ => rfl) rfl (Nat.le_of_ble_eq_true rfl) dX11_shown_8 (fun r8 v8_0 hw => ?_)
  obtain ⟨h01_8, hw⟩ := hw
  have hw := hw h01_8
  refine v_if_eq (tgt := 28) C dX11_shown_11 (by decide) (fun hc => ?_) (fun hc => ?_)
  · have hw := hw.1 hc
    refine v_bipush (v := (-2)) C dX11_shown_28 (by decide) ?_
    exact hret _ _ _ _ ((-2)) (u0, u0_0, v8_0, u0_0_3, u0_0_4, u0_0_5, u0_3, u0_4) dX11_shown_30 rfl hw (Nat.le_of_ble_eq_true rfl) (Nat.le_of_ble_eq_true rfl)
  · have hw := hw.2 hc
    refine v_iload_n C dX11_shown_14 2 rfl ?_
    refine v_callSPi (st := []) C (kX11_isYear _ hw) mM_X11_80 mI_X11 mC_X11_isYear mT_X11_isYear hd_X11_isYear ⟨Nat.le_of_ble_eq_true rfl, Nat.le_of_ble_eq_true rfl⟩ ⟨Nat.le_of_ble_eq_true rfl, Nat.le_of_ble_eq_true rfl⟩ rfl (Nat.le_of_ble_eq_true rfl) dX11_shown_15 (fun r15 U15 hw => ?_)
    obtain ⟨h01_15, hw⟩ := hw
    have hw := hw h01_15
    refine v_if_eq (tgt := 28) C dX11_shown_18 (by decide) (fun hc => ?_) (fun hc => ?_)
    · have hw := hw.1 hc
      refine v_bipush (v := (-2)) C dX11_shown_28 (by decide) ?_
      exact hret _ _ _ _ ((-2)) (u0, u0_0, v8_0, u0_0_3, u0_0_4, u0_0_5, u0_3, u0_4) dX11_shown_30 rfl hw (Nat.le_of_ble_eq_true rfl) (Nat.le_of_ble_eq_true rfl)
    · have hw := hw.2 hc
      refine v_iload_n C dX11_shown_21 3 rfl ?_
      refine v_callSPi (st := []) C (kX11_isYear _ hw) mM_X11_80 mI_X11 mC_X11_isYear mT_X11_isYear hd_X11_isYear ⟨Nat.le_of_ble_eq_true rfl, Nat.le_of_ble_eq_true rfl⟩ ⟨Nat.le_of_ble_eq_true rfl, Nat.le_of_ble_eq_true rfl⟩ rfl (Nat.le_of_ble_eq_true rfl) dX11_shown_22 (fun r22 U22 hw => ?_)
      obtain ⟨h01_22, hw⟩ := hw
      have hw := hw h01_22
      refine v_if_ne (tgt := 31) C dX11_shown_25 (by decide) (fun hc => ?_) (fun hc => ?_)
      · have hw := hw.1 hc
        refine v_aload_n C dX11_shown_31 0 rfl ?_
        refine v_get (ci := 11) C inT11 0 4 rfl rfl (by decide) mF_X11_37_X11_4 rfl dX11_shown_32 ?_
        refine v_aload_n C dX11_shown_35 0 rfl ?_
        refine v_get (ci := 11) C inT11 0 0 rfl rfl (by decide) mF_X11_10_X11_0 rfl dX11_shown_36 ?_
        refine v_iload_n C dX11_shown_39 1 rfl ?_
        refine v_iload_n C dX11_shown_40 2 rfl ?_
        refine v_iload_n C dX11_shown_41 3 rfl ?_
        refine v_aload_n C dX11_shown_42 0 rfl ?_
        refine v_get (ci := 11) C inT11 0 3 rfl rfl (by decide) mF_X11_30_X11_3 rfl dX11_shown_43 ?_
        refine v_callVMv (st := []) (ci := 10) (qb := 57) C (kX10_show ((a0 4)) ((a0 0)) ((a0 3)) a0_4 a0_0 a0_0_2 a0_0_3 a0_0_4 a0_0_5 a0_3 _ _ _ _ _ _ _ _ _ _ hw) mM_X11_259 mI_X10 mC_X10_show mN_X10_show mS_X10_show rfl rfl hd_X10_show ⟨Nat.le_of_ble_eq_true rfl, Nat.le_of_ble_eq_true rfl⟩ ⟨Nat.le_of_ble_eq_true rfl, Nat.le_of_ble_eq_true rfl⟩ [7, 1, 2, 3, 4, 5, 6] [0] (N0 := 8) rfl (by decide) (ms2 := (fun (U : Md × Md × Md × Md × Md × Md × Md) => [wX11 E h0 a0 u0, wX8 E (a0 0) a0_0 U.2.1, wX2 E (a0_0 2) a0_0_2 U.2.2.1, wX7 E (a0_0 3) a0_0_3 U.2.2.2.1, wX0 E (a0_0 4) a0_0_4 U.2.2.2.2.1, wX1 E (a0_0 5) a0_0_5 U.2.2.2.2.2.1, wX5 E (a0 3) a0_3 U.2.2.2.2.2.2, wX10 E (a0 4) a0_4 U.1])) rfl (fun _ => rfl) (fun _ => rfl) (fun _ => rfl) rfl (Nat.le_of_ble_eq_true rfl) dX11_shown_46 (fun U46 hw => ?_)
        obtain ⟨v46_0, v46_1, v46_2, v46_3, v46_4, v46_5, v46_6⟩ := U46
        refine v_aload_n C dX11_shown_49 0 rfl ?_
        refine v_get (ci := 11) C inT11 0 3 rfl rfl (by decide) mF_X11_30_X11_3 rfl dX11_shown_50 ?_
        refine v_get (ci := 5) C inT5 54 0 rfl rfl (by decide) mF_X11_182_X5_0 rfl dX11_shown_53 ?_
        exact hret _ _ _ _ (gF v46_6 0) (u0, v46_1, v46_2, v46_3, v46_4, v46_5, v46_6, v46_0) dX11_shown_56 rfl hw (Nat.le_of_ble_eq_true rfl) (Nat.le_of_ble_eq_true rfl)
      · have hw := hw.2 hc
        refine v_bipush (v := (-2)) C dX11_shown_28 (by decide) ?_
        exact hret _ _ _ _ ((-2)) (u0, u0_0, v8_0, u0_0_3, u0_0_4, u0_0_5, u0_3, u0_4) dX11_shown_30 rfl hw (Nat.le_of_ble_eq_true rfl) (Nat.le_of_ble_eq_true rfl)
set_option maxHeartbeats 4000000 in
set_option maxRecDepth 100000 in
theorem kX11_isNumber {l : Launch} {E : VE} (x0 : Int32) {Q : Int32 → Prop} (hw : qX11_isNumber x0 Q) : MI l yX11_isNumber cX11_isNumber 1 .boolean 0 0 0 E [.int x0] ([]) (fun (_ : Unit) => ([] : va_W)) (fun (r : Int32) (_ : Unit) => (r = 0 ∨ r = 1) ∧ Q r) := by
  refine MI.of (own := RX11) (by decide) rfl (Nat.le_of_ble_eq_true rfl) ?_
  intro X C hini hret
  show VV X 0 0 ([]) [(0, .int x0)] 0 []
  unfold qX11_isNumber at hw
  refine v_iload_n C dX11_isNumber_0 0 rfl ?_
  refine v_if_lt (tgt := 15) C dX11_isNumber_1 (by decide) (fun hc => ?_) (fun hc => ?_)
  · have hw := hw.1 hc
    refine v_iconst (v := 0) C dX11_isNumber_15 (by decide) ?_
    exact hret _ _ _ _ 0 () dX11_isNumber_16 rfl ⟨Or.inl rfl, hw⟩ (Nat.le_of_ble_eq_true rfl) (Nat.le_of_ble_eq_true rfl)
  · have hw := hw.2 hc
    refine v_iload_n C dX11_isNumber_4 0 rfl ?_
    refine v_sipush (v := 9999) C dX11_isNumber_5 (by decide) ?_
    refine v_icmp_gt (tgt := 15) C dX11_isNumber_8 (by decide) (fun hc => ?_) (fun hc => ?_)
    · have hw := hw.1 hc
      refine v_iconst (v := 0) C dX11_isNumber_15 (by decide) ?_
      exact hret _ _ _ _ 0 () dX11_isNumber_16 rfl ⟨Or.inl rfl, hw⟩ (Nat.le_of_ble_eq_true rfl) (Nat.le_of_ble_eq_true rfl)
    · have hw := hw.2 hc
      refine v_iconst (v := 1) C dX11_isNumber_11 (by decide) ?_
      refine v_goto (tgt := 16) C dX11_isNumber_12 (by decide) ?_
      exact hret _ _ _ _ 1 () dX11_isNumber_16 rfl ⟨Or.inr rfl, hw⟩ (Nat.le_of_ble_eq_true rfl) (Nat.le_of_ble_eq_true rfl)
set_option maxHeartbeats 4000000 in
set_option maxRecDepth 100000 in
theorem kX11_sign {l : Launch} {E : VE} (h0 : Nat) (a0 : Nat → Nat) (a0_0 : Nat → Nat) (a0_0_2 : Nat → Nat) (a0_0_6 : Nat → Nat) (u0 : Md) (u0_0 : Md) (u0_0_2 : Md) (u0_0_6 : Md) (x1 : Int32) (x2 : Int32) {Q : Int32 → Md → Md → Md → Md → Prop} (hw : qX11_sign u0 u0_0 u0_0_2 u0_0_6 x1 x2 Q) : MI l yX11_sign cX11_sign 3 .int 1 0 0 E [.ref h0, .int x1, .int x2] ([wX11 E h0 a0 u0, wX8 E (a0 0) a0_0 u0_0, wX2 E (a0_0 2) a0_0_2 u0_0_2, wX6 E (a0_0 6) a0_0_6 u0_0_6].flatten) (fun (U : Md × Md × Md × Md) => [wX11 E h0 a0 U.1, wX8 E (a0 0) a0_0 U.2.1, wX2 E (a0_0 2) a0_0_2 U.2.2.1, wX6 E (a0_0 6) a0_0_6 U.2.2.2].flatten) (fun (r : Int32) (U : Md × Md × Md × Md) => Q r U.1 U.2.1 U.2.2.1 U.2.2.2) := by
  refine MI.of (own := RX11) (by decide) rfl (Nat.le_of_ble_eq_true rfl) ?_
  intro X C hini hret
  show VV X 0 0 ([wX11 E h0 a0 u0, wX8 E (a0 0) a0_0 u0_0, wX2 E (a0_0 2) a0_0_2 u0_0_2, wX6 E (a0_0 6) a0_0_6 u0_0_6].flatten) [(0, .ref h0), (1, .int x1), (2, .int x2)] 0 []
  unfold qX11_sign at hw
  refine v_aload_n C dX11_sign_0 0 rfl ?_
  refine v_get (ci := 11) C inT11 0 0 rfl rfl (by decide) mF_X11_10_X11_0 rfl dX11_sign_1 ?_
  refine v_get (ci := 8) C inT8 5 2 rfl rfl (by decide) mF_X11_87_X8_2 rfl dX11_sign_4 ?_
  refine v_iload_n C dX11_sign_7 1 rfl ?_
  refine v_callVMi (st := []) (ci := 2) (qb := 7) C (kX2_has ((a0_0 2)) a0_0_2 _ _ hw) mM_X11_97 mI_X2 mC_X2_has mN_X2_has mS_X2_has rfl rfl hd_X2_has ⟨Nat.le_of_ble_eq_true rfl, Nat.le_of_ble_eq_true rfl⟩ ⟨Nat.le_of_ble_eq_true rfl, Nat.le_of_ble_eq_true rfl⟩ [2] [0, 1, 3] (N0 := 4) rfl (by decide) (ms2 := (fun (U : Md) => [wX11 E h0 a0 u0, wX8 E (a0 0) a0_0 u0_0, wX2 E (a0_0 2) a0_0_2 U, wX6 E (a0_0 6) a0_0_6 u0_0_6])) rfl (fun _ => rfl) (fun _ => rfl) (fun _ => rfl) rfl (Nat.le_of_ble_eq_true rfl) dX11_sign_8 (fun r8 v8_0 hw => ?_)
  obtain ⟨h01_8, hw⟩ := hw
  have hw := hw h01_8
  refine v_if_eq (tgt := 21) C dX11_sign_11 (by decide) (fun hc => ?_) (fun hc => ?_)
  · have hw := hw.1 hc
    refine v_bipush (v := (-2)) C dX11_sign_21 (by decide) ?_
    exact hret _ _ _ _ ((-2)) (u0, u0_0, v8_0, u0_0_6) dX11_sign_23 rfl hw (Nat.le_of_ble_eq_true rfl) (Nat.le_of_ble_eq_true rfl)
  · have hw := hw.2 hc
    refine v_iload_n C dX11_sign_14 2 rfl ?_
    refine v_callSPi (st := []) C (kX11_isNumber _ hw) mM_X11_263 mI_X11 mC_X11_isNumber mT_X11_isNumber hd_X11_isNumber ⟨Nat.le_of_ble_eq_true rfl, Nat.le_of_ble_eq_true rfl⟩ ⟨Nat.le_of_ble_eq_true rfl, Nat.le_of_ble_eq_true rfl⟩ rfl (Nat.le_of_ble_eq_true rfl) dX11_sign_15 (fun r15 U15 hw => ?_)
    obtain ⟨h01_15, hw⟩ := hw
    have hw := hw h01_15
    refine v_if_ne (tgt := 24) C dX11_sign_18 (by decide) (fun hc => ?_) (fun hc => ?_)
    · have hw := hw.1 hc
      refine v_aload_n C dX11_sign_24 0 rfl ?_
      refine v_get (ci := 11) C inT11 0 0 rfl rfl (by decide) mF_X11_10_X11_0 rfl dX11_sign_25 ?_
      refine v_get (ci := 8) C inT8 5 6 rfl rfl (by decide) mF_X11_266_X8_6 rfl dX11_sign_28 ?_
      refine v_iload_n C dX11_sign_31 1 rfl ?_
      refine v_iload_n C dX11_sign_32 2 rfl ?_
      refine v_aload_n C dX11_sign_33 0 rfl ?_
      refine v_get (ci := 11) C inT11 0 0 rfl rfl (by decide) mF_X11_10_X11_0 rfl dX11_sign_34 ?_
      refine v_get (ci := 8) C inT8 5 0 rfl rfl (by decide) mF_X11_84_X8_0 rfl dX11_sign_37 ?_
      refine v_callVMi (st := []) (ci := 6) (qb := 16) C (kX6_make ((a0_0 6)) a0_0_6 _ _ _ _ hw) mM_X11_270 mI_X6 mC_X6_make mN_X6_make mS_X6_make rfl rfl hd_X6_make ⟨Nat.le_of_ble_eq_true rfl, Nat.le_of_ble_eq_true rfl⟩ ⟨Nat.le_of_ble_eq_true rfl, Nat.le_of_ble_eq_true rfl⟩ [3] [0, 1, 2] (N0 := 4) rfl (by decide) (ms2 := (fun (U : Md) => [wX11 E h0 a0 u0, wX8 E (a0 0) a0_0 u0_0, wX2 E (a0_0 2) a0_0_2 v8_0, wX6 E (a0_0 6) a0_0_6 U])) rfl (fun _ => rfl) (fun _ => rfl) (fun _ => rfl) rfl (Nat.le_of_ble_eq_true rfl) dX11_sign_40 (fun r40 v40_0 hw => ?_)
      exact hret _ _ _ _ r40 (u0, u0_0, v8_0, v40_0) dX11_sign_43 rfl hw (Nat.le_of_ble_eq_true rfl) (Nat.le_of_ble_eq_true rfl)
    · have hw := hw.2 hc
      refine v_bipush (v := (-2)) C dX11_sign_21 (by decide) ?_
      exact hret _ _ _ _ ((-2)) (u0, u0_0, v8_0, u0_0_6) dX11_sign_23 rfl hw (Nat.le_of_ble_eq_true rfl) (Nat.le_of_ble_eq_true rfl)
set_option maxHeartbeats 4000000 in
set_option maxRecDepth 100000 in
theorem kX11_anew {l : Launch} {E : VE} (h0 : Nat) (a0 : Nat → Nat) (a0_0 : Nat → Nat) (a0_0_6 : Nat → Nat) (u0 : Md) (u0_0 : Md) (u0_0_6 : Md) (x1 : Int32) {Q : Int32 → Md → Md → Md → Prop} (hw : qX11_anew u0 u0_0 u0_0_6 x1 Q) : MI l yX11_anew cX11_anew 2 .int 1 0 0 E [.ref h0, .int x1] ([wX11 E h0 a0 u0, wX8 E (a0 0) a0_0 u0_0, wX6 E (a0_0 6) a0_0_6 u0_0_6].flatten) (fun (U : Md × Md × Md) => [wX11 E h0 a0 U.1, wX8 E (a0 0) a0_0 U.2.1, wX6 E (a0_0 6) a0_0_6 U.2.2].flatten) (fun (r : Int32) (U : Md × Md × Md) => Q r U.1 U.2.1 U.2.2) := by
  refine MI.of (own := RX11) (by decide) rfl (Nat.le_of_ble_eq_true rfl) ?_
  intro X C hini hret
  show VV X 0 0 ([wX11 E h0 a0 u0, wX8 E (a0 0) a0_0 u0_0, wX6 E (a0_0 6) a0_0_6 u0_0_6].flatten) [(0, .ref h0), (1, .int x1)] 0 []
  unfold qX11_anew at hw
  refine v_aload_n C dX11_anew_0 0 rfl ?_
  refine v_get (ci := 11) C inT11 0 0 rfl rfl (by decide) mF_X11_10_X11_0 rfl dX11_anew_1 ?_
  refine v_get (ci := 8) C inT8 5 6 rfl rfl (by decide) mF_X11_266_X8_6 rfl dX11_anew_4 ?_
  refine v_iload_n C dX11_anew_7 1 rfl ?_
  refine v_callVMi (st := []) (ci := 6) (qb := 7) C (kX6_has ((a0_0 6)) a0_0_6 _ _ hw) mM_X11_275 mI_X6 mC_X6_has mN_X6_has mS_X6_has rfl rfl hd_X6_has ⟨Nat.le_of_ble_eq_true rfl, Nat.le_of_ble_eq_true rfl⟩ ⟨Nat.le_of_ble_eq_true rfl, Nat.le_of_ble_eq_true rfl⟩ [2] [0, 1] (N0 := 3) rfl (by decide) (ms2 := (fun (U : Md) => [wX11 E h0 a0 u0, wX8 E (a0 0) a0_0 u0_0, wX6 E (a0_0 6) a0_0_6 U])) rfl (fun _ => rfl) (fun _ => rfl) (fun _ => rfl) rfl (Nat.le_of_ble_eq_true rfl) dX11_anew_8 (fun r8 v8_0 hw => ?_)
  obtain ⟨h01_8, hw⟩ := hw
  have hw := hw h01_8
  refine v_if_ne (tgt := 17) C dX11_anew_11 (by decide) (fun hc => ?_) (fun hc => ?_)
  · have hw := hw.1 hc
    refine v_aload_n C dX11_anew_17 0 rfl ?_
    refine v_get (ci := 11) C inT11 0 0 rfl rfl (by decide) mF_X11_10_X11_0 rfl dX11_anew_18 ?_
    refine v_get (ci := 8) C inT8 5 6 rfl rfl (by decide) mF_X11_266_X8_6 rfl dX11_anew_21 ?_
    refine v_get (ci := 6) C inT6 7 3 rfl rfl (by decide) mF_X11_276_X6_3 rfl dX11_anew_24 ?_
    refine v_iload_n C dX11_anew_27 1 rfl ?_
    refine v_aload_n C dX11_anew_28 0 rfl ?_
    refine v_get (ci := 11) C inT11 0 0 rfl rfl (by decide) mF_X11_10_X11_0 rfl dX11_anew_29 ?_
    refine v_get (ci := 8) C inT8 5 0 rfl rfl (by decide) mF_X11_84_X8_0 rfl dX11_anew_32 ?_
    obtain ⟨hi35, hw⟩ := hw
    obtain ⟨w35, e35⟩ : ∃ z : Md, z = tA v8_0 3 x1 (gF u0_0 0) := ⟨_, rfl⟩
    have hw := hw w35 e35
    refine v_iast (ws' := [wX11 E h0 a0 u0, wX8 E (a0 0) a0_0 u0_0, wX6 E (a0_0 6) a0_0_6 w35].flatten) C 10 rfl hi35 (by rw [e35]; rfl) dX11_anew_35 ?_
    refine v_iconst (v := 0) C dX11_anew_36 (by decide) ?_
    exact hret _ _ _ _ 0 (u0, u0_0, w35) dX11_anew_37 rfl hw (Nat.le_of_ble_eq_true rfl) (Nat.le_of_ble_eq_true rfl)
  · have hw := hw.2 hc
    refine v_bipush (v := (-2)) C dX11_anew_14 (by decide) ?_
    exact hret _ _ _ _ ((-2)) (u0, u0_0, v8_0) dX11_anew_16 rfl hw (Nat.le_of_ble_eq_true rfl) (Nat.le_of_ble_eq_true rfl)
set_option maxHeartbeats 4000000 in
set_option maxRecDepth 100000 in
theorem kX11_signOf {l : Launch} {E : VE} (h0 : Nat) (a0 : Nat → Nat) (a0_0 : Nat → Nat) (a0_0_2 : Nat → Nat) (a0_0_3 : Nat → Nat) (a0_0_4 : Nat → Nat) (a0_0_5 : Nat → Nat) (a0_0_6 : Nat → Nat) (a0_4 : Nat → Nat) (a0_4_6 : Nat → Nat) (a0_4_7 : Nat → Nat) (u0 : Md) (u0_0 : Md) (u0_0_2 : Md) (u0_0_3 : Md) (u0_0_4 : Md) (u0_0_5 : Md) (u0_0_6 : Md) (u0_4 : Md) (u0_4_6 : Md) (u0_4_7 : Md) (x1 : Int32) (x2 : Int32) {Q : Int32 → Md → Md → Md → Md → Md → Md → Md → Md → Md → Md → Prop} (hw : qX11_signOf u0 u0_0 u0_0_2 u0_0_3 u0_0_4 u0_0_5 u0_0_6 u0_4 u0_4_6 u0_4_7 x1 x2 Q) : MI l yX11_signOf cX11_signOf 4 .int 6 0 0 E [.ref h0, .int x1, .int x2] ([wX11 E h0 a0 u0, wX8 E (a0 0) a0_0 u0_0, wX2 E (a0_0 2) a0_0_2 u0_0_2, wX7 E (a0_0 3) a0_0_3 u0_0_3, wX0 E (a0_0 4) a0_0_4 u0_0_4, wX1 E (a0_0 5) a0_0_5 u0_0_5, wX6 E (a0_0 6) a0_0_6 u0_0_6, wX10 E (a0 4) a0_4 u0_4, wX5 E (a0_4 6) a0_4_6 u0_4_6, wX5 E (a0_4 7) a0_4_7 u0_4_7].flatten) (fun (U : Md × Md × Md × Md × Md × Md × Md × Md × Md × Md) => [wX11 E h0 a0 U.1, wX8 E (a0 0) a0_0 U.2.1, wX2 E (a0_0 2) a0_0_2 U.2.2.1, wX7 E (a0_0 3) a0_0_3 U.2.2.2.1, wX0 E (a0_0 4) a0_0_4 U.2.2.2.2.1, wX1 E (a0_0 5) a0_0_5 U.2.2.2.2.2.1, wX6 E (a0_0 6) a0_0_6 U.2.2.2.2.2.2.1, wX10 E (a0 4) a0_4 U.2.2.2.2.2.2.2.1, wX5 E (a0_4 6) a0_4_6 U.2.2.2.2.2.2.2.2.1, wX5 E (a0_4 7) a0_4_7 U.2.2.2.2.2.2.2.2.2].flatten) (fun (r : Int32) (U : Md × Md × Md × Md × Md × Md × Md × Md × Md × Md) => Q r U.1 U.2.1 U.2.2.1 U.2.2.2.1 U.2.2.2.2.1 U.2.2.2.2.2.1 U.2.2.2.2.2.2.1 U.2.2.2.2.2.2.2.1 U.2.2.2.2.2.2.2.2.1 U.2.2.2.2.2.2.2.2.2) := by
  refine MI.of (own := RX11) (by decide) rfl (Nat.le_of_ble_eq_true rfl) ?_
  intro X C hini hret
  show VV X 0 0 ([wX11 E h0 a0 u0, wX8 E (a0 0) a0_0 u0_0, wX2 E (a0_0 2) a0_0_2 u0_0_2, wX7 E (a0_0 3) a0_0_3 u0_0_3, wX0 E (a0_0 4) a0_0_4 u0_0_4, wX1 E (a0_0 5) a0_0_5 u0_0_5, wX6 E (a0_0 6) a0_0_6 u0_0_6, wX10 E (a0 4) a0_4 u0_4, wX5 E (a0_4 6) a0_4_6 u0_4_6, wX5 E (a0_4 7) a0_4_7 u0_4_7].flatten) [(0, .ref h0), (1, .int x1), (2, .int x2)] 0 []
  unfold qX11_signOf at hw
  refine v_aload_n C dX11_signOf_0 0 rfl ?_
  refine v_get (ci := 11) C inT11 0 0 rfl rfl (by decide) mF_X11_10_X11_0 rfl dX11_signOf_1 ?_
  refine v_get (ci := 8) C inT8 5 6 rfl rfl (by decide) mF_X11_266_X8_6 rfl dX11_signOf_4 ?_
  refine v_astore_n (lv' := [(3, .ref ((a0_0 6))), (0, .ref h0), (1, .int x1), (2, .int x2)]) C dX11_signOf_7 (by decide) rfl ?_
  refine v_aload_n C dX11_signOf_8 0 rfl ?_
  refine v_iload_n C dX11_signOf_9 2 rfl ?_
  refine v_callVMi (st := []) (ci := 6) (qb := 54) C (kX6_has ((a0_0 6)) a0_0_6 _ _ hw) mM_X11_275 mI_X6 mC_X6_has mN_X6_has mS_X6_has rfl rfl hd_X6_has ⟨Nat.le_of_ble_eq_true rfl, Nat.le_of_ble_eq_true rfl⟩ ⟨Nat.le_of_ble_eq_true rfl, Nat.le_of_ble_eq_true rfl⟩ [6] [0, 1, 2, 3, 4, 5, 7, 8, 9] (N0 := 10) rfl (by decide) (ms2 := (fun (U : Md) => [wX11 E h0 a0 u0, wX8 E (a0 0) a0_0 u0_0, wX2 E (a0_0 2) a0_0_2 u0_0_2, wX7 E (a0_0 3) a0_0_3 u0_0_3, wX0 E (a0_0 4) a0_0_4 u0_0_4, wX1 E (a0_0 5) a0_0_5 u0_0_5, wX6 E (a0_0 6) a0_0_6 U, wX10 E (a0 4) a0_4 u0_4, wX5 E (a0_4 6) a0_4_6 u0_4_6, wX5 E (a0_4 7) a0_4_7 u0_4_7])) rfl (fun _ => rfl) (fun _ => rfl) (fun _ => rfl) rfl (Nat.le_of_ble_eq_true rfl) dX11_signOf_10 (fun r10 v10_0 hw => ?_)
  obtain ⟨h01_10, hw⟩ := hw
  have hw := hw h01_10
  refine v_if_ne (tgt := 19) C dX11_signOf_13 (by decide) (fun hc => ?_) (fun hc => ?_)
  · have hw := hw.1 hc
    refine v_iload_n C dX11_signOf_19 3 rfl ?_
    by_cases hc0 : x2 = 0
    · have hw := hw.1 hc0
      refine v_tsIn (tgt := 60) C hc0 dX11_signOf_20 (by decide) (by decide) rfl (by decide) ?_
      refine v_aload_n C dX11_signOf_60 1 rfl ?_
      refine v_get (ci := 11) C inT11 0 4 rfl rfl (by decide) mF_X11_37_X11_4 rfl dX11_signOf_61 ?_
      refine v_aload_n C dX11_signOf_64 1 rfl ?_
      refine v_get (ci := 11) C inT11 0 0 rfl rfl (by decide) mF_X11_10_X11_0 rfl dX11_signOf_65 ?_
      refine v_iload_n C dX11_signOf_68 2 rfl ?_
      refine v_callVMi (st := []) (ci := 10) (qb := 58) C (kX10_isLame ((a0 4)) ((a0 0)) a0_4 a0_4_6 a0_4_7 a0_0 a0_0_2 a0_0_3 a0_0_4 a0_0_5 a0_0_6 _ _ _ _ _ _ _ _ _ _ hw) mM_X11_279 mI_X10 mC_X10_isLame mN_X10_isLame mS_X10_isLame rfl rfl hd_X10_isLame ⟨Nat.le_of_ble_eq_true rfl, Nat.le_of_ble_eq_true rfl⟩ ⟨Nat.le_of_ble_eq_true rfl, Nat.le_of_ble_eq_true rfl⟩ [7, 8, 9, 1, 2, 3, 4, 5, 6] [0] (N0 := 10) rfl (by decide) (ms2 := (fun (U : Md × Md × Md × Md × Md × Md × Md × Md × Md) => [wX11 E h0 a0 u0, wX8 E (a0 0) a0_0 U.2.2.2.1, wX2 E (a0_0 2) a0_0_2 U.2.2.2.2.1, wX7 E (a0_0 3) a0_0_3 U.2.2.2.2.2.1, wX0 E (a0_0 4) a0_0_4 U.2.2.2.2.2.2.1, wX1 E (a0_0 5) a0_0_5 U.2.2.2.2.2.2.2.1, wX6 E (a0_0 6) a0_0_6 U.2.2.2.2.2.2.2.2, wX10 E (a0 4) a0_4 U.1, wX5 E (a0_4 6) a0_4_6 U.2.1, wX5 E (a0_4 7) a0_4_7 U.2.2.1])) rfl (fun _ => rfl) (fun _ => rfl) (fun _ => rfl) rfl (Nat.le_of_ble_eq_true rfl) dX11_signOf_69 (fun r69 U69 hw => ?_)
      obtain ⟨v69_0, v69_1, v69_2, v69_3, v69_4, v69_5, v69_6, v69_7, v69_8⟩ := U69
      obtain ⟨h01_69, hw⟩ := hw
      have hw := hw h01_69
      refine v_if_eq (tgt := 79) C dX11_signOf_72 (by decide) (fun hc => ?_) (fun hc => ?_)
      · have hw := hw.1 hc
        refine v_iconst (v := 0) C dX11_signOf_79 (by decide) ?_
        exact hret _ _ _ _ 0 (u0, v69_3, v69_4, v69_5, v69_6, v69_7, v69_8, v69_0, v69_1, v69_2) dX11_signOf_80 rfl hw (Nat.le_of_ble_eq_true rfl) (Nat.le_of_ble_eq_true rfl)
      · have hw := hw.2 hc
        refine v_iconst (v := 1) C dX11_signOf_75 (by decide) ?_
        refine v_goto (tgt := 80) C dX11_signOf_76 (by decide) ?_
        exact hret _ _ _ _ 1 (u0, v69_3, v69_4, v69_5, v69_6, v69_7, v69_8, v69_0, v69_1, v69_2) dX11_signOf_80 rfl hw (Nat.le_of_ble_eq_true rfl) (Nat.le_of_ble_eq_true rfl)
    have hw := hw.2 hc0
    have hn0 := ts_ne hc0
    by_cases hc1 : x2 = 1
    · have hw := hw.1 hc1
      refine v_tsIn (tgt := 81) C hc1 dX11_signOf_20 (by decide) (by decide) rfl (by decide) ?_
      refine v_aload_n C dX11_signOf_81 1 rfl ?_
      refine v_get (ci := 11) C inT11 0 4 rfl rfl (by decide) mF_X11_37_X11_4 rfl dX11_signOf_82 ?_
      refine v_aload_n C dX11_signOf_85 1 rfl ?_
      refine v_get (ci := 11) C inT11 0 0 rfl rfl (by decide) mF_X11_10_X11_0 rfl dX11_signOf_86 ?_
      refine v_iload_n C dX11_signOf_89 2 rfl ?_
      refine v_callVMi (st := []) (ci := 10) (qb := 58) C (kX10_isLame ((a0 4)) ((a0 0)) a0_4 a0_4_6 a0_4_7 a0_0 a0_0_2 a0_0_3 a0_0_4 a0_0_5 a0_0_6 _ _ _ _ _ _ _ _ _ _ hw) mM_X11_279 mI_X10 mC_X10_isLame mN_X10_isLame mS_X10_isLame rfl rfl hd_X10_isLame ⟨Nat.le_of_ble_eq_true rfl, Nat.le_of_ble_eq_true rfl⟩ ⟨Nat.le_of_ble_eq_true rfl, Nat.le_of_ble_eq_true rfl⟩ [7, 8, 9, 1, 2, 3, 4, 5, 6] [0] (N0 := 10) rfl (by decide) (ms2 := (fun (U : Md × Md × Md × Md × Md × Md × Md × Md × Md) => [wX11 E h0 a0 u0, wX8 E (a0 0) a0_0 U.2.2.2.1, wX2 E (a0_0 2) a0_0_2 U.2.2.2.2.1, wX7 E (a0_0 3) a0_0_3 U.2.2.2.2.2.1, wX0 E (a0_0 4) a0_0_4 U.2.2.2.2.2.2.1, wX1 E (a0_0 5) a0_0_5 U.2.2.2.2.2.2.2.1, wX6 E (a0_0 6) a0_0_6 U.2.2.2.2.2.2.2.2, wX10 E (a0 4) a0_4 U.1, wX5 E (a0_4 6) a0_4_6 U.2.1, wX5 E (a0_4 7) a0_4_7 U.2.2.1])) rfl (fun _ => rfl) (fun _ => rfl) (fun _ => rfl) rfl (Nat.le_of_ble_eq_true rfl) dX11_signOf_90 (fun r90 U90 hw => ?_)
      obtain ⟨v90_0, v90_1, v90_2, v90_3, v90_4, v90_5, v90_6, v90_7, v90_8⟩ := U90
      obtain ⟨h01_90, hw⟩ := hw
      have hw := hw h01_90
      refine v_if_eq (tgt := 111) C dX11_signOf_93 (by decide) (fun hc => ?_) (fun hc => ?_)
      · have hw := hw.1 hc
        refine v_iconst (v := (-1)) C dX11_signOf_111 (by decide) ?_
        exact hret _ _ _ _ ((-1)) (u0, v90_3, v90_4, v90_5, v90_6, v90_7, v90_8, v90_0, v90_1, v90_2) dX11_signOf_112 rfl hw (Nat.le_of_ble_eq_true rfl) (Nat.le_of_ble_eq_true rfl)
      · have hw := hw.2 hc
        refine v_aload_n C dX11_signOf_96 1 rfl ?_
        refine v_get (ci := 11) C inT11 0 4 rfl rfl (by decide) mF_X11_37_X11_4 rfl dX11_signOf_97 ?_
        refine v_aload_n C dX11_signOf_100 1 rfl ?_
        refine v_get (ci := 11) C inT11 0 0 rfl rfl (by decide) mF_X11_10_X11_0 rfl dX11_signOf_101 ?_
        refine v_iload_n C dX11_signOf_104 2 rfl ?_
        refine v_callVMi (st := []) (ci := 10) (qb := 58) C (kX10_dueYear ((a0 4)) ((a0 0)) a0_4 a0_4_6 a0_4_7 a0_0 a0_0_2 a0_0_3 a0_0_4 a0_0_5 a0_0_6 _ _ _ _ _ _ _ _ _ _ hw) mM_X11_283 mI_X10 mC_X10_dueYear mN_X10_dueYear mS_X10_dueYear rfl rfl hd_X10_dueYear ⟨Nat.le_of_ble_eq_true rfl, Nat.le_of_ble_eq_true rfl⟩ ⟨Nat.le_of_ble_eq_true rfl, Nat.le_of_ble_eq_true rfl⟩ [7, 8, 9, 1, 2, 3, 4, 5, 6] [0] (N0 := 10) rfl (by decide) (ms2 := (fun (U : Md × Md × Md × Md × Md × Md × Md × Md × Md) => [wX11 E h0 a0 u0, wX8 E (a0 0) a0_0 U.2.2.2.1, wX2 E (a0_0 2) a0_0_2 U.2.2.2.2.1, wX7 E (a0_0 3) a0_0_3 U.2.2.2.2.2.1, wX0 E (a0_0 4) a0_0_4 U.2.2.2.2.2.2.1, wX1 E (a0_0 5) a0_0_5 U.2.2.2.2.2.2.2.1, wX6 E (a0_0 6) a0_0_6 U.2.2.2.2.2.2.2.2, wX10 E (a0 4) a0_4 U.1, wX5 E (a0_4 6) a0_4_6 U.2.1, wX5 E (a0_4 7) a0_4_7 U.2.2.1])) rfl (fun _ => rfl) (fun _ => rfl) (fun _ => rfl) rfl (Nat.le_of_ble_eq_true rfl) dX11_signOf_105 (fun r105 U105 hw => ?_)
        obtain ⟨v105_0, v105_1, v105_2, v105_3, v105_4, v105_5, v105_6, v105_7, v105_8⟩ := U105
        refine v_goto (tgt := 112) C dX11_signOf_108 (by decide) ?_
        exact hret _ _ _ _ r105 (u0, v105_3, v105_4, v105_5, v105_6, v105_7, v105_8, v105_0, v105_1, v105_2) dX11_signOf_112 rfl hw (Nat.le_of_ble_eq_true rfl) (Nat.le_of_ble_eq_true rfl)
    have hw := hw.2 hc1
    have hn1 := ts_ne hc1
    by_cases hc2 : x2 = 2
    · have hw := hw.1 hc2
      refine v_tsIn (tgt := 113) C hc2 dX11_signOf_20 (by decide) (by decide) rfl (by decide) ?_
      refine v_aload_n C dX11_signOf_113 1 rfl ?_
      refine v_get (ci := 11) C inT11 0 4 rfl rfl (by decide) mF_X11_37_X11_4 rfl dX11_signOf_114 ?_
      refine v_aload_n C dX11_signOf_117 1 rfl ?_
      refine v_get (ci := 11) C inT11 0 0 rfl rfl (by decide) mF_X11_10_X11_0 rfl dX11_signOf_118 ?_
      refine v_iload_n C dX11_signOf_121 2 rfl ?_
      refine v_callVMi (st := []) (ci := 10) (qb := 58) C (kX10_isLame ((a0 4)) ((a0 0)) a0_4 a0_4_6 a0_4_7 a0_0 a0_0_2 a0_0_3 a0_0_4 a0_0_5 a0_0_6 _ _ _ _ _ _ _ _ _ _ hw) mM_X11_279 mI_X10 mC_X10_isLame mN_X10_isLame mS_X10_isLame rfl rfl hd_X10_isLame ⟨Nat.le_of_ble_eq_true rfl, Nat.le_of_ble_eq_true rfl⟩ ⟨Nat.le_of_ble_eq_true rfl, Nat.le_of_ble_eq_true rfl⟩ [7, 8, 9, 1, 2, 3, 4, 5, 6] [0] (N0 := 10) rfl (by decide) (ms2 := (fun (U : Md × Md × Md × Md × Md × Md × Md × Md × Md) => [wX11 E h0 a0 u0, wX8 E (a0 0) a0_0 U.2.2.2.1, wX2 E (a0_0 2) a0_0_2 U.2.2.2.2.1, wX7 E (a0_0 3) a0_0_3 U.2.2.2.2.2.1, wX0 E (a0_0 4) a0_0_4 U.2.2.2.2.2.2.1, wX1 E (a0_0 5) a0_0_5 U.2.2.2.2.2.2.2.1, wX6 E (a0_0 6) a0_0_6 U.2.2.2.2.2.2.2.2, wX10 E (a0 4) a0_4 U.1, wX5 E (a0_4 6) a0_4_6 U.2.1, wX5 E (a0_4 7) a0_4_7 U.2.2.1])) rfl (fun _ => rfl) (fun _ => rfl) (fun _ => rfl) rfl (Nat.le_of_ble_eq_true rfl) dX11_signOf_122 (fun r122 U122 hw => ?_)
      obtain ⟨v122_0, v122_1, v122_2, v122_3, v122_4, v122_5, v122_6, v122_7, v122_8⟩ := U122
      obtain ⟨h01_122, hw⟩ := hw
      have hw := hw h01_122
      refine v_if_eq (tgt := 155) C dX11_signOf_125 (by decide) (fun hc => ?_) (fun hc => ?_)
      · have hw := hw.1 hc
        refine v_iconst (v := 0) C dX11_signOf_155 (by decide) ?_
        exact hret _ _ _ _ 0 (u0, v122_3, v122_4, v122_5, v122_6, v122_7, v122_8, v122_0, v122_1, v122_2) dX11_signOf_156 rfl hw (Nat.le_of_ble_eq_true rfl) (Nat.le_of_ble_eq_true rfl)
      · have hw := hw.2 hc
        refine v_iconst (v := 0) C dX11_signOf_128 (by decide) ?_
        refine v_aload_n C dX11_signOf_129 1 rfl ?_
        refine v_get (ci := 11) C inT11 0 0 rfl rfl (by decide) mF_X11_10_X11_0 rfl dX11_signOf_130 ?_
        refine v_get (ci := 8) C inT8 5 0 rfl rfl (by decide) mF_X11_84_X8_0 rfl dX11_signOf_133 ?_
        refine v_aload_n C dX11_signOf_136 1 rfl ?_
        refine v_get (ci := 11) C inT11 0 4 rfl rfl (by decide) mF_X11_37_X11_4 rfl dX11_signOf_137 ?_
        refine v_aload_n C dX11_signOf_140 1 rfl ?_
        refine v_get (ci := 11) C inT11 0 0 rfl rfl (by decide) mF_X11_10_X11_0 rfl dX11_signOf_141 ?_
        refine v_iload_n C dX11_signOf_144 2 rfl ?_
        refine v_callVMi (st := [.int (gF v122_3 0), .int 0]) (ci := 10) (qb := 58) C (kX10_dueYear ((a0 4)) ((a0 0)) a0_4 a0_4_6 a0_4_7 a0_0 a0_0_2 a0_0_3 a0_0_4 a0_0_5 a0_0_6 _ _ _ _ _ _ _ _ _ _ hw) mM_X11_283 mI_X10 mC_X10_dueYear mN_X10_dueYear mS_X10_dueYear rfl rfl hd_X10_dueYear ⟨Nat.le_of_ble_eq_true rfl, Nat.le_of_ble_eq_true rfl⟩ ⟨Nat.le_of_ble_eq_true rfl, Nat.le_of_ble_eq_true rfl⟩ [7, 8, 9, 1, 2, 3, 4, 5, 6] [0] (N0 := 10) rfl (by decide) (ms2 := (fun (U : Md × Md × Md × Md × Md × Md × Md × Md × Md) => [wX11 E h0 a0 u0, wX8 E (a0 0) a0_0 U.2.2.2.1, wX2 E (a0_0 2) a0_0_2 U.2.2.2.2.1, wX7 E (a0_0 3) a0_0_3 U.2.2.2.2.2.1, wX0 E (a0_0 4) a0_0_4 U.2.2.2.2.2.2.1, wX1 E (a0_0 5) a0_0_5 U.2.2.2.2.2.2.2.1, wX6 E (a0_0 6) a0_0_6 U.2.2.2.2.2.2.2.2, wX10 E (a0 4) a0_4 U.1, wX5 E (a0_4 6) a0_4_6 U.2.1, wX5 E (a0_4 7) a0_4_7 U.2.2.1])) rfl (fun _ => rfl) (fun _ => rfl) (fun _ => rfl) rfl (Nat.le_of_ble_eq_true rfl) dX11_signOf_145 (fun r145 U145 hw => ?_)
        obtain ⟨v145_0, v145_1, v145_2, v145_3, v145_4, v145_5, v145_6, v145_7, v145_8⟩ := U145
        refine v_isub C dX11_signOf_148 ?_
        refine v_imax C mM_X11_286 ⟨Nat.le_of_ble_eq_true rfl, Nat.le_of_ble_eq_true rfl, Nat.le_of_ble_eq_true rfl, Nat.le_of_ble_eq_true rfl⟩ dX11_signOf_149 ?_
        refine v_goto (tgt := 156) C dX11_signOf_152 (by decide) ?_
        exact hret _ _ _ _ (imax 0 ((gF v122_3 0) - r145)) (u0, v145_3, v145_4, v145_5, v145_6, v145_7, v145_8, v145_0, v145_1, v145_2) dX11_signOf_156 rfl hw (Nat.le_of_ble_eq_true rfl) (Nat.le_of_ble_eq_true rfl)
    have hw := hw.2 hc2
    have hn2 := ts_ne hc2
    by_cases hc3 : x2 = 3
    · have hw := hw.1 hc3
      refine v_tsIn (tgt := 157) C hc3 dX11_signOf_20 (by decide) (by decide) rfl (by decide) ?_
      refine v_aload_n C dX11_signOf_157 0 rfl ?_
      refine v_get (ci := 6) C inT6 54 3 rfl rfl (by decide) mF_X11_276_X6_3 rfl dX11_signOf_158 ?_
      refine v_iload_n C dX11_signOf_161 2 rfl ?_
      obtain ⟨hi162, hw⟩ := hw
      refine v_iald C 57 rfl hi162 dX11_signOf_162 ?_
      exact hret _ _ _ _ (gA v10_0 3 x1.toNatClampNeg) (u0, u0_0, u0_0_2, u0_0_3, u0_0_4, u0_0_5, v10_0, u0_4, u0_4_6, u0_4_7) dX11_signOf_163 rfl hw (Nat.le_of_ble_eq_true rfl) (Nat.le_of_ble_eq_true rfl)
    have hw := hw.2 hc3
    have hn3 := ts_ne hc3
    by_cases hc4 : x2 = 4
    · have hw := hw.1 hc4
      refine v_tsIn (tgt := 164) C hc4 dX11_signOf_20 (by decide) (by decide) rfl (by decide) ?_
      refine v_aload_n C dX11_signOf_164 0 rfl ?_
      refine v_get (ci := 6) C inT6 54 1 rfl rfl (by decide) mF_X11_289_X6_1 rfl dX11_signOf_165 ?_
      refine v_iload_n C dX11_signOf_168 2 rfl ?_
      obtain ⟨hi169, hw⟩ := hw
      refine v_iald C 55 rfl hi169 dX11_signOf_169 ?_
      exact hret _ _ _ _ (gA v10_0 1 x1.toNatClampNeg) (u0, u0_0, u0_0_2, u0_0_3, u0_0_4, u0_0_5, v10_0, u0_4, u0_4_6, u0_4_7) dX11_signOf_170 rfl hw (Nat.le_of_ble_eq_true rfl) (Nat.le_of_ble_eq_true rfl)
    have hw := hw.2 hc4
    have hn4 := ts_ne hc4
    by_cases hc5 : x2 = 5
    · have hw := hw.1 hc5
      refine v_tsIn (tgt := 171) C hc5 dX11_signOf_20 (by decide) (by decide) rfl (by decide) ?_
      refine v_aload_n C dX11_signOf_171 0 rfl ?_
      refine v_get (ci := 6) C inT6 54 2 rfl rfl (by decide) mF_X11_290_X6_2 rfl dX11_signOf_172 ?_
      refine v_iload_n C dX11_signOf_175 2 rfl ?_
      obtain ⟨hi176, hw⟩ := hw
      refine v_iald C 56 rfl hi176 dX11_signOf_176 ?_
      exact hret _ _ _ _ (gA v10_0 2 x1.toNatClampNeg) (u0, u0_0, u0_0_2, u0_0_3, u0_0_4, u0_0_5, v10_0, u0_4, u0_4_6, u0_4_7) dX11_signOf_177 rfl hw (Nat.le_of_ble_eq_true rfl) (Nat.le_of_ble_eq_true rfl)
    have hw := hw.2 hc5
    have hn5 := ts_ne hc5
    refine v_tsOut (tgt := 178) C dX11_signOf_20 (by first | exact ts_out6 hn0 hn1 hn2 hn3 hn4 hn5 | (simp at *; omega)) (by decide) ?_
    refine v_bipush (v := (-2)) C dX11_signOf_178 (by decide) ?_
    exact hret _ _ _ _ ((-2)) (u0, u0_0, u0_0_2, u0_0_3, u0_0_4, u0_0_5, v10_0, u0_4, u0_4_6, u0_4_7) dX11_signOf_180 rfl hw (Nat.le_of_ble_eq_true rfl) (Nat.le_of_ble_eq_true rfl)
  · have hw := hw.2 hc
    refine v_bipush (v := (-2)) C dX11_signOf_16 (by decide) ?_
    exact hret _ _ _ _ ((-2)) (u0, u0_0, u0_0_2, u0_0_3, u0_0_4, u0_0_5, v10_0, u0_4, u0_4_6, u0_4_7) dX11_signOf_18 rfl hw (Nat.le_of_ble_eq_true rfl) (Nat.le_of_ble_eq_true rfl)
