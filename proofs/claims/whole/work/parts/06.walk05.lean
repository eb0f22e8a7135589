set_option maxHeartbeats 4000000 in
set_option maxRecDepth 100000 in
theorem jX10_whyRefused_89 {X : VX} {E : VE} {l : Launch} (h0 : Nat) (h1 : Nat) (a0 : Nat → Nat) (a0_6 : Nat → Nat) (a0_7 : Nat → Nat) (a1 : Nat → Nat) (a1_2 : Nat → Nat) (a1_3 : Nat → Nat) (a1_4 : Nat → Nat) (a1_5 : Nat → Nat)  (Q : Int32 → Md → Md → Md → Md → Md → Md → Md → Md → Prop) (C : VC X cX10_whyRefused 8 RX10 (rmL 5 0 0) E l) (hret : RetI X cX10_whyRefused .int 0 0 (fun (U : Md × Md × Md × Md × Md × Md × Md × Md) => [wX10 E h0 a0 U.1, wX5 E (a0 6) a0_6 U.2.1, wX5 E (a0 7) a0_7 U.2.2.1, wX8 E h1 a1 U.2.2.2.1, wX2 E (a1 2) a1_2 U.2.2.2.2.1, wX7 E (a1 3) a1_3 U.2.2.2.2.2.1, wX0 E (a1 4) a1_4 U.2.2.2.2.2.2.1, wX1 E (a1 5) a1_5 U.2.2.2.2.2.2.2].flatten) (fun (r : Int32) (U : Md × Md × Md × Md × Md × Md × Md × Md) => Q r U.1 U.2.1 U.2.2.1 U.2.2.2.1 U.2.2.2.2.1 U.2.2.2.2.2.1 U.2.2.2.2.2.2.1 U.2.2.2.2.2.2.2))  : ∀ (u0 : Md) (u0_6 : Md) (u0_7 : Md) (u1 : Md) (u1_2 : Md) (u1_3 : Md) (u1_4 : Md) (u1_5 : Md) (y3 : Int32) (y4 : Int32), qX10_whyRefused_89 Q u0 u0_6 u0_7 u1 u1_2 u1_3 u1_4 u1_5 y3 y4 → VV X 0 0 ([wX10 E h0 a0 u0, wX5 E (a0 6) a0_6 u0_6, wX5 E (a0 7) a0_7 u0_7, wX8 E h1 a1 u1, wX2 E (a1 2) a1_2 u1_2, wX7 E (a1 3) a1_3 u1_3, wX0 E (a1 4) a1_4 u1_4, wX1 E (a1 5) a1_5 u1_5].flatten) [(0, .ref h0), (1, .ref h1), (3, .int y3), (4, .int y4)] 89 [] := by
  intro u0 u0_6 u0_7 u1 u1_2 u1_3 u1_4 u1_5 y3 y4 hw
  unfold qX10_whyRefused_89 at hw
  refine v_aload_n C dX10_whyRefused_89 1 rfl ?_
  refine v_get (ci := 8) C inT8 14 4 rfl rfl (by decide) mF_X10_97_X8_4 rfl dX10_whyRefused_90 ?_
  refine v_iload C dX10_whyRefused_93 3 rfl ?_
  refine v_iconst (v := 2) C dX10_whyRefused_95 (by decide) ?_
  refine v_callVMi (st := []) (ci := 0) (qb := 40) C (kX0_lastLine ((a1 4)) a1_4 _ _ _ hw) mM_X10_194 mI_X0 mC_X0_lastLine mN_X0_lastLine mS_X0_lastLine rfl rfl hd_X0_lastLine ⟨Nat.le_of_ble_eq_true rfl, Nat.le_of_ble_eq_true rfl⟩ ⟨Nat.le_of_ble_eq_true rfl, Nat.le_of_ble_eq_true rfl⟩ [6] [0, 1, 2, 3, 4, 5, 7] (N0 := 8) rfl (by decide) (ms2 := (fun (U : Md) => [wX10 E h0 a0 u0, wX5 E (a0 6) a0_6 u0_6, wX5 E (a0 7) a0_7 u0_7, wX8 E h1 a1 u1, wX2 E (a1 2) a1_2 u1_2, wX7 E (a1 3) a1_3 u1_3, wX0 E (a1 4) a1_4 U, wX1 E (a1 5) a1_5 u1_5])) rfl (fun _ => rfl) (fun _ => rfl) (fun _ => rfl) rfl (Nat.le_of_ble_eq_true rfl) dX10_whyRefused_96 (fun r96 v96_0 hw => ?_)
  refine v_istore (lv' := [(7, .int r96), (0, .ref h0), (1, .ref h1), (3, .int y3), (4, .int y4)]) C dX10_whyRefused_99 (by decide) rfl ?_
  refine v_iload C dX10_whyRefused_101 0 rfl ?_
  refine v_iconst (v := (-1)) C dX10_whyRefused_103 (by decide) ?_
  refine v_icmp_eq (tgt := 140) C dX10_whyRefused_104 (by decide) (fun hc => ?_) (fun hc => ?_)
  · have hw := hw.1 hc
    refine v_iconst (v := 0) C dX10_whyRefused_140 (by decide) ?_
    exact hret _ _ _ _ 0 (u0, u0_6, u0_7, u1, u1_2, u1_3, v96_0, u1_5) dX10_whyRefused_141 rfl hw (Nat.le_of_ble_eq_true rfl) (Nat.le_of_ble_eq_true rfl)
  · have hw := hw.2 hc
    refine v_aload_n C dX10_whyRefused_107 1 rfl ?_
    refine v_aload_n C dX10_whyRefused_108 2 rfl ?_
    refine v_iload_n C dX10_whyRefused_109 3 rfl ?_
    refine v_aload_n C dX10_whyRefused_110 2 rfl ?_
    refine v_get (ci := 8) C inT8 14 4 rfl rfl (by decide) mF_X10_97_X8_4 rfl dX10_whyRefused_111 ?_
    refine v_get (ci := 0) C inT0 40 5 rfl rfl (by decide) mF_X10_122_X0_5 rfl dX10_whyRefused_114 ?_
    refine v_iload C dX10_whyRefused_117 0 rfl ?_
    obtain ⟨hi119, hw⟩ := hw
    refine v_iald C 45 rfl hi119 dX10_whyRefused_119 ?_
    refine v_aload_n C dX10_whyRefused_120 2 rfl ?_
    refine v_get (ci := 8) C inT8 14 4 rfl rfl (by decide) mF_X10_97_X8_4 rfl dX10_whyRefused_121 ?_
    refine v_get (ci := 0) C inT0 40 6 rfl rfl (by decide) mF_X10_197_X0_6 rfl dX10_whyRefused_124 ?_
    refine v_iload C dX10_whyRefused_127 0 rfl ?_
    obtain ⟨hi129, hw⟩ := hw
    refine v_iald C 46 rfl hi129 dX10_whyRefused_129 ?_
    refine v_callVMi (st := []) (ci := 10) (qb := 0) C (kX10_isAlike h0 h1 a0 a0_6 a0_7 a1 a1_2 a1_3 a1_5 _ _ _ _ _ _ _ _ _ _ hw) mM_X10_200 mI_X10 mC_X10_isAlike mN_X10_isAlike mS_X10_isAlike rfl rfl hd_X10_isAlike ⟨Nat.le_of_ble_eq_true rfl, Nat.le_of_ble_eq_true rfl⟩ ⟨Nat.le_of_ble_eq_true rfl, Nat.le_of_ble_eq_true rfl⟩ [0, 1, 2, 3, 4, 5, 7] [6] (N0 := 8) rfl (by decide) (ms2 := (fun (U : Md × Md × Md × Md × Md × Md × Md) => [wX10 E h0 a0 U.1, wX5 E (a0 6) a0_6 U.2.1, wX5 E (a0 7) a0_7 U.2.2.1, wX8 E h1 a1 U.2.2.2.1, wX2 E (a1 2) a1_2 U.2.2.2.2.1, wX7 E (a1 3) a1_3 U.2.2.2.2.2.1, wX0 E (a1 4) a1_4 v96_0, wX1 E (a1 5) a1_5 U.2.2.2.2.2.2])) rfl (fun _ => rfl) (fun _ => rfl) (fun _ => rfl) rfl (Nat.le_of_ble_eq_true rfl) dX10_whyRefused_130 (fun r130 U130 hw => ?_)
    obtain ⟨v130_0, v130_1, v130_2, v130_3, v130_4, v130_5, v130_6⟩ := U130
    obtain ⟨h01_130, hw⟩ := hw
    have hw := hw h01_130
    refine v_if_eq (tgt := 140) C dX10_whyRefused_133 (by decide) (fun hc => ?_) (fun hc => ?_)
    · have hw := hw.1 hc
      refine v_iconst (v := 0) C dX10_whyRefused_140 (by decide) ?_
      exact hret _ _ _ _ 0 (v130_0, v130_1, v130_2, v130_3, v130_4, v130_5, v96_0, v130_6) dX10_whyRefused_141 rfl hw (Nat.le_of_ble_eq_true rfl) (Nat.le_of_ble_eq_true rfl)
    · have hw := hw.2 hc
      refine v_iconst (v := 3) C dX10_whyRefused_136 (by decide) ?_
      refine v_goto (tgt := 141) C dX10_whyRefused_137 (by decide) ?_
      exact hret _ _ _ _ 3 (v130_0, v130_1, v130_2, v130_3, v130_4, v130_5, v96_0, v130_6) dX10_whyRefused_141 rfl hw (Nat.le_of_ble_eq_true rfl) (Nat.le_of_ble_eq_true rfl)
set_option maxHeartbeats 4000000 in
set_option maxRecDepth 100000 in
theorem kX10_whyRefused {l : Launch} {E : VE} (h0 : Nat) (h1 : Nat) (a0 : Nat → Nat) (a0_6 : Nat → Nat) (a0_7 : Nat → Nat) (a1 : Nat → Nat) (a1_2 : Nat → Nat) (a1_3 : Nat → Nat) (a1_4 : Nat → Nat) (a1_5 : Nat → Nat) (u0 : Md) (u0_6 : Md) (u0_7 : Md) (u1 : Md) (u1_2 : Md) (u1_3 : Md) (u1_4 : Md) (u1_5 : Md) (x2 : Int32) (x3 : Int32) {Q : Int32 → Md → Md → Md → Md → Md → Md → Md → Md → Prop} (hw : qX10_whyRefused u0 u0_6 u0_7 u1 u1_2 u1_3 u1_4 u1_5 x2 x3 Q) : MI l yX10_whyRefused cX10_whyRefused 8 .int 5 0 0 E [.ref h0, .ref h1, .int x2, .int x3] ([wX10 E h0 a0 u0, wX5 E (a0 6) a0_6 u0_6, wX5 E (a0 7) a0_7 u0_7, wX8 E h1 a1 u1, wX2 E (a1 2) a1_2 u1_2, wX7 E (a1 3) a1_3 u1_3, wX0 E (a1 4) a1_4 u1_4, wX1 E (a1 5) a1_5 u1_5].flatten) (fun (U : Md × Md × Md × Md × Md × Md × Md × Md) => [wX10 E h0 a0 U.1, wX5 E (a0 6) a0_6 U.2.1, wX5 E (a0 7) a0_7 U.2.2.1, wX8 E h1 a1 U.2.2.2.1, wX2 E (a1 2) a1_2 U.2.2.2.2.1, wX7 E (a1 3) a1_3 U.2.2.2.2.2.1, wX0 E (a1 4) a1_4 U.2.2.2.2.2.2.1, wX1 E (a1 5) a1_5 U.2.2.2.2.2.2.2].flatten) (fun (r : Int32) (U : Md × Md × Md × Md × Md × Md × Md × Md) => Q r U.1 U.2.1 U.2.2.1 U.2.2.2.1 U.2.2.2.2.1 U.2.2.2.2.2.1 U.2.2.2.2.2.2.1 U.2.2.2.2.2.2.2) := by
  refine MI.of (own := RX10) (by decide) rfl (Nat.le_of_ble_eq_true rfl) ?_
  intro X C hini hret
  show VV X 0 0 ([wX10 E h0 a0 u0, wX5 E (a0 6) a0_6 u0_6, wX5 E (a0 7) a0_7 u0_7, wX8 E h1 a1 u1, wX2 E (a1 2) a1_2 u1_2, wX7 E (a1 3) a1_3 u1_3, wX0 E (a1 4) a1_4 u1_4, wX1 E (a1 5) a1_5 u1_5].flatten) [(0, .ref h0), (1, .ref h1), (2, .int x2), (3, .int x3)] 0 []
  unfold qX10_whyRefused at hw
  refine v_aload_n C dX10_whyRefused_0 1 rfl ?_
  refine v_get (ci := 8) C inT8 14 4 rfl rfl (by decide) mF_X10_97_X8_4 rfl dX10_whyRefused_1 ?_
  refine v_aload_n C dX10_whyRefused_4 1 rfl ?_
  refine v_get (ci := 8) C inT8 14 0 rfl rfl (by decide) mF_X10_125_X8_0 rfl dX10_whyRefused_5 ?_
  refine v_callVMi (st := []) (ci := 0) (qb := 40) C (kX0_inForce ((a1 4)) a1_4 _ _ hw) mM_X10_101 mI_X0 mC_X0_inForce mN_X0_inForce mS_X0_inForce rfl rfl hd_X0_inForce ⟨Nat.le_of_ble_eq_true rfl, Nat.le_of_ble_eq_true rfl⟩ ⟨Nat.le_of_ble_eq_true rfl, Nat.le_of_ble_eq_true rfl⟩ [6] [0, 1, 2, 3, 4, 5, 7] (N0 := 8) rfl (by decide) (ms2 := (fun (U : Md) => [wX10 E h0 a0 u0, wX5 E (a0 6) a0_6 u0_6, wX5 E (a0 7) a0_7 u0_7, wX8 E h1 a1 u1, wX2 E (a1 2) a1_2 u1_2, wX7 E (a1 3) a1_3 u1_3, wX0 E (a1 4) a1_4 U, wX1 E (a1 5) a1_5 u1_5])) rfl (fun _ => rfl) (fun _ => rfl) (fun _ => rfl) rfl (Nat.le_of_ble_eq_true rfl) dX10_whyRefused_8 (fun r8 v8_0 hw => ?_)
  refine v_istore (lv' := [(4, .int r8), (0, .ref h0), (1, .ref h1), (2, .int x2), (3, .int x3)]) C dX10_whyRefused_11 (by decide) rfl ?_
  refine v_aload_n C dX10_whyRefused_13 2 rfl ?_
  refine v_get (ci := 8) C inT8 14 5 rfl rfl (by decide) mF_X10_174_X8_5 rfl dX10_whyRefused_14 ?_
  refine v_iload_n C dX10_whyRefused_17 3 rfl ?_
  refine v_aload_n C dX10_whyRefused_18 2 rfl ?_
  refine v_get (ci := 8) C inT8 14 4 rfl rfl (by decide) mF_X10_97_X8_4 rfl dX10_whyRefused_19 ?_
  refine v_iload C dX10_whyRefused_22 0 rfl ?_
  refine v_iconst (v := 5) C dX10_whyRefused_24 (by decide) ?_
  refine v_bipush (v := 50) C dX10_whyRefused_25 (by decide) ?_
  refine v_callVMi (st := [.int x2, .ref ((a1 5))]) (ci := 0) (qb := 40) C (kX0_numberOf ((a1 4)) a1_4 _ _ _ _ hw) mM_X10_178 mI_X0 mC_X0_numberOf mN_X0_numberOf mS_X0_numberOf rfl rfl hd_X0_numberOf ⟨Nat.le_of_ble_eq_true rfl, Nat.le_of_ble_eq_true rfl⟩ ⟨Nat.le_of_ble_eq_true rfl, Nat.le_of_ble_eq_true rfl⟩ [6] [0, 1, 2, 3, 4, 5, 7] (N0 := 8) rfl (by decide) (ms2 := (fun (U : Md) => [wX10 E h0 a0 u0, wX5 E (a0 6) a0_6 u0_6, wX5 E (a0 7) a0_7 u0_7, wX8 E h1 a1 u1, wX2 E (a1 2) a1_2 u1_2, wX7 E (a1 3) a1_3 u1_3, wX0 E (a1 4) a1_4 U, wX1 E (a1 5) a1_5 u1_5])) rfl (fun _ => rfl) (fun _ => rfl) (fun _ => rfl) rfl (Nat.le_of_ble_eq_true rfl) dX10_whyRefused_27 (fun r27 v27_0 hw => ?_)
  refine v_callVMi (st := []) (ci := 1) (qb := 52) C (kX1_tooFew ((a1 5)) a1_5 _ _ _ hw) mM_X10_182 mI_X1 mC_X1_tooFew mN_X1_tooFew mS_X1_tooFew rfl rfl hd_X1_tooFew ⟨Nat.le_of_ble_eq_true rfl, Nat.le_of_ble_eq_true rfl⟩ ⟨Nat.le_of_ble_eq_true rfl, Nat.le_of_ble_eq_true rfl⟩ [7] [0, 1, 2, 3, 4, 5, 6] (N0 := 8) rfl (by decide) (ms2 := (fun (U : Md) => [wX10 E h0 a0 u0, wX5 E (a0 6) a0_6 u0_6, wX5 E (a0 7) a0_7 u0_7, wX8 E h1 a1 u1, wX2 E (a1 2) a1_2 u1_2, wX7 E (a1 3) a1_3 u1_3, wX0 E (a1 4) a1_4 v27_0, wX1 E (a1 5) a1_5 U])) rfl (fun _ => rfl) (fun _ => rfl) (fun _ => rfl) rfl (Nat.le_of_ble_eq_true rfl) dX10_whyRefused_30 (fun r30 v30_0 hw => ?_)
  obtain ⟨h01_30, hw⟩ := hw
  have hw := hw h01_30
  refine v_if_eq (tgt := 38) C dX10_whyRefused_33 (by decide) (fun hc => ?_) (fun hc => ?_)
  · have hw := hw.1 hc
    refine v_aload_n C dX10_whyRefused_38 2 rfl ?_
    refine v_get (ci := 8) C inT8 14 3 rfl rfl (by decide) mF_X10_187_X8_3 rfl dX10_whyRefused_39 ?_
    refine v_get (ci := 7) C inT7 25 3 rfl rfl (by decide) mF_X10_191_X7_3 rfl dX10_whyRefused_42 ?_
    refine v_iload_n C dX10_whyRefused_45 4 rfl ?_
    obtain ⟨hi46, hw⟩ := hw
    refine v_iald C 28 rfl hi46 dX10_whyRefused_46 ?_
    refine v_istore (lv' := [(5, .int (gA u1_3 3 x3.toNatClampNeg)), (4, .int r8), (0, .ref h0), (1, .ref h1), (2, .int x2), (3, .int x3)]) C dX10_whyRefused_47 (by decide) rfl ?_
    refine v_aload_n C dX10_whyRefused_49 3 rfl ?_
    refine v_get (ci := 8) C inT8 14 4 rfl rfl (by decide) mF_X10_97_X8_4 rfl dX10_whyRefused_50 ?_
    refine v_iload C dX10_whyRefused_53 1 rfl ?_
    refine v_iconst (v := 3) C dX10_whyRefused_55 (by decide) ?_
    refine v_iconst (v := 0) C dX10_whyRefused_56 (by decide) ?_
    refine v_callVMi (st := []) (ci := 0) (qb := 40) C (kX0_numberOf ((a1 4)) a1_4 _ _ _ _ hw) mM_X10_178 mI_X0 mC_X0_numberOf mN_X0_numberOf mS_X0_numberOf rfl rfl hd_X0_numberOf ⟨Nat.le_of_ble_eq_true rfl, Nat.le_of_ble_eq_true rfl⟩ ⟨Nat.le_of_ble_eq_true rfl, Nat.le_of_ble_eq_true rfl⟩ [6] [0, 1, 2, 3, 4, 5, 7] (N0 := 8) rfl (by decide) (ms2 := (fun (U : Md) => [wX10 E h0 a0 u0, wX5 E (a0 6) a0_6 u0_6, wX5 E (a0 7) a0_7 u0_7, wX8 E h1 a1 u1, wX2 E (a1 2) a1_2 u1_2, wX7 E (a1 3) a1_3 u1_3, wX0 E (a1 4) a1_4 U, wX1 E (a1 5) a1_5 v30_0])) rfl (fun _ => rfl) (fun _ => rfl) (fun _ => rfl) rfl (Nat.le_of_ble_eq_true rfl) dX10_whyRefused_57 (fun r57 v57_0 hw => ?_)
    refine v_istore (lv' := [(6, .int r57), (5, .int (gA u1_3 3 x3.toNatClampNeg)), (4, .int r8), (0, .ref h0), (1, .ref h1), (2, .int x2), (3, .int x3)]) C dX10_whyRefused_60 (by decide) rfl ?_
    refine v_iload C dX10_whyRefused_62 1 rfl ?_
    refine v_bipush (v := (-9)) C dX10_whyRefused_64 (by decide) ?_
    refine v_icmp_eq (tgt := 87) C dX10_whyRefused_66 (by decide) (fun hc => ?_) (fun hc => ?_)
    · have hw := hw.1 hc
      refine v_iconst (v := 2) C dX10_whyRefused_87 (by decide) ?_
      exact hret _ _ _ _ 2 (u0, u0_6, u0_7, u1, u1_2, u1_3, v57_0, v30_0) dX10_whyRefused_88 rfl hw (Nat.le_of_ble_eq_true rfl) (Nat.le_of_ble_eq_true rfl)
    · have hw := hw.2 hc
      refine v_iload C dX10_whyRefused_69 1 rfl ?_
      refine v_iconst (v := (-1)) C dX10_whyRefused_71 (by decide) ?_
      refine v_icmp_eq (tgt := 89) C dX10_whyRefused_72 (by decide) (fun hc => ?_) (fun hc => ?_)
      · have hw := hw.1 hc
        refine v_lv C (lv' := [(0, .ref h0), (1, .ref h1), (3, .int x3), (4, .int r8)]) [3, 4, 6, 2] rfl ?_
        exact jX10_whyRefused_89 h0 h1 a0 a0_6 a0_7 a1 a1_2 a1_3 a1_4 a1_5 Q C hret u0 u0_6 u0_7 u1 u1_2 u1_3 v57_0 v30_0 x3 r8 hw
      · have hw := hw.2 hc
        refine v_aload_n C dX10_whyRefused_75 4 rfl ?_
        refine v_get (ci := 8) C inT8 14 0 rfl rfl (by decide) mF_X10_125_X8_0 rfl dX10_whyRefused_76 ?_
        refine v_iload C dX10_whyRefused_79 1 rfl ?_
        refine v_isub C dX10_whyRefused_81 ?_
        refine v_iload C dX10_whyRefused_82 0 rfl ?_
        refine v_icmp_ge (tgt := 89) C dX10_whyRefused_84 (by decide) (fun hc => ?_) (fun hc => ?_)
        · have hw := hw.1 hc
          refine v_lv C (lv' := [(0, .ref h0), (1, .ref h1), (3, .int x3), (4, .int r8)]) [3, 4, 6, 2] rfl ?_
          exact jX10_whyRefused_89 h0 h1 a0 a0_6 a0_7 a1 a1_2 a1_3 a1_4 a1_5 Q C hret u0 u0_6 u0_7 u1 u1_2 u1_3 v57_0 v30_0 x3 r8 hw
        · have hw := hw.2 hc
          refine v_iconst (v := 2) C dX10_whyRefused_87 (by decide) ?_
          exact hret _ _ _ _ 2 (u0, u0_6, u0_7, u1, u1_2, u1_3, v57_0, v30_0) dX10_whyRefused_88 rfl hw (Nat.le_of_ble_eq_true rfl) (Nat.le_of_ble_eq_true rfl)
  · have hw := hw.2 hc
    refine v_iconst (v := 1) C dX10_whyRefused_36 (by decide) ?_
    exact hret _ _ _ _ 1 (u0, u0_6, u0_7, u1, u1_2, u1_3, v27_0, v30_0) dX10_whyRefused_37 rfl hw (Nat.le_of_ble_eq_true rfl) (Nat.le_of_ble_eq_true rfl)
set_option maxHeartbeats 4000000 in
set_option maxRecDepth 100000 in
theorem jX10_show_107 {X : VX} {E : VE} {l : Launch} (h0 : Nat) (h1 : Nat) (h5 : Nat) (a0 : Nat → Nat) (a1 : Nat → Nat) (a1_2 : Nat → Nat) (a1_3 : Nat → Nat) (a1_4 : Nat → Nat) (a1_5 : Nat → Nat) (a5 : Nat → Nat)  (Q : Md → Md → Md → Md → Md → Md → Md → Prop) (C : VC X cX10_show 9 RX10 (rmL 4 0 0) E l) (hret : RetV X cX10_show 0 0 (fun (U : Md × Md × Md × Md × Md × Md × Md) => [wX10 E h0 a0 U.1, wX8 E h1 a1 U.2.1, wX2 E (a1 2) a1_2 U.2.2.1, wX7 E (a1 3) a1_3 U.2.2.2.1, wX0 E (a1 4) a1_4 U.2.2.2.2.1, wX1 E (a1 5) a1_5 U.2.2.2.2.2.1, wX5 E h5 a5 U.2.2.2.2.2.2].flatten) (fun (U : Md × Md × Md × Md × Md × Md × Md) => Q U.1 U.2.1 U.2.2.1 U.2.2.2.1 U.2.2.2.2.1 U.2.2.2.2.2.1 U.2.2.2.2.2.2))  : ∀ (u0 : Md) (u1 : Md) (u1_2 : Md) (u1_3 : Md) (u1_4 : Md) (u1_5 : Md) (u5 : Md) (y6 : Int32) (y8 : Int32), qX10_show_107 Q u0 u1 u1_2 u1_3 u1_4 u1_5 u5 y6 y8 → VV X 0 0 ([wX10 E h0 a0 u0, wX8 E h1 a1 u1, wX2 E (a1 2) a1_2 u1_2, wX7 E (a1 3) a1_3 u1_3, wX0 E (a1 4) a1_4 u1_4, wX1 E (a1 5) a1_5 u1_5, wX5 E h5 a5 u5].flatten) [(1, .ref h1), (5, .ref h5), (6, .int y6), (8, .int y8)] 107 [] := by
  intro u0 u1 u1_2 u1_3 u1_4 u1_5 u5 y6 y8 hw
  unfold qX10_show_107 at hw
  refine v_iload C dX10_show_107 3 rfl ?_
  refine v_iconst (v := (-1)) C dX10_show_109 (by decide) ?_
  refine v_icmp_eq (tgt := 126) C dX10_show_110 (by decide) (fun hc => ?_) (fun hc => ?_)
  · have hw := hw.1 hc
    exact hret _ _ _ _ (u0, u1, u1_2, u1_3, u1_4, u1_5, u5) dX10_show_126 hw (Nat.le_of_ble_eq_true rfl) (Nat.le_of_ble_eq_true rfl)
  · have hw := hw.2 hc
    refine v_aload_n C dX10_show_113 0 rfl ?_
    refine v_get (ci := 8) C inT8 8 3 rfl rfl (by decide) mF_X10_187_X8_3 rfl dX10_show_114 ?_
    refine v_aload C dX10_show_117 1 rfl ?_
    refine v_iload C dX10_show_119 3 rfl ?_
    refine v_iload C dX10_show_121 2 rfl ?_
    refine v_callVMv (st := []) (ci := 7) (qb := 19) C (kX7_spellInto ((a1 3)) h5 a1_3 a5 _ _ _ _ hw) mM_X10_157 mI_X7 mC_X7_spellInto mN_X7_spellInto mS_X7_spellInto rfl rfl hd_X7_spellInto ⟨Nat.le_of_ble_eq_true rfl, Nat.le_of_ble_eq_true rfl⟩ ⟨Nat.le_of_ble_eq_true rfl, Nat.le_of_ble_eq_true rfl⟩ [3, 6] [0, 1, 2, 4, 5] (N0 := 7) rfl (by decide) (ms2 := (fun (U : Md × Md) => [wX10 E h0 a0 u0, wX8 E h1 a1 u1, wX2 E (a1 2) a1_2 u1_2, wX7 E (a1 3) a1_3 U.1, wX0 E (a1 4) a1_4 u1_4, wX1 E (a1 5) a1_5 u1_5, wX5 E h5 a5 U.2])) rfl (fun _ => rfl) (fun _ => rfl) (fun _ => rfl) rfl (Nat.le_of_ble_eq_true rfl) dX10_show_123 (fun U123 hw => ?_)
    obtain ⟨v123_0, v123_1⟩ := U123
    exact hret _ _ _ _ (u0, u1, u1_2, v123_0, u1_4, u1_5, v123_1) dX10_show_126 hw (Nat.le_of_ble_eq_true rfl) (Nat.le_of_ble_eq_true rfl)
set_option maxHeartbeats 4000000 in
set_option maxRecDepth 100000 in
theorem jX10_show_86 {X : VX} {E : VE} {l : Launch} (h0 : Nat) (h1 : Nat) (h5 : Nat) (a0 : Nat → Nat) (a1 : Nat → Nat) (a1_2 : Nat → Nat) (a1_3 : Nat → Nat) (a1_4 : Nat → Nat) (a1_5 : Nat → Nat) (a5 : Nat → Nat)  (Q : Md → Md → Md → Md → Md → Md → Md → Prop) (C : VC X cX10_show 9 RX10 (rmL 4 0 0) E l) (hret : RetV X cX10_show 0 0 (fun (U : Md × Md × Md × Md × Md × Md × Md) => [wX10 E h0 a0 U.1, wX8 E h1 a1 U.2.1, wX2 E (a1 2) a1_2 U.2.2.1, wX7 E (a1 3) a1_3 U.2.2.2.1, wX0 E (a1 4) a1_4 U.2.2.2.2.1, wX1 E (a1 5) a1_5 U.2.2.2.2.2.1, wX5 E h5 a5 U.2.2.2.2.2.2].flatten) (fun (U : Md × Md × Md × Md × Md × Md × Md) => Q U.1 U.2.1 U.2.2.1 U.2.2.2.1 U.2.2.2.2.1 U.2.2.2.2.2.1 U.2.2.2.2.2.2))  : ∀ (u0 : Md) (u1 : Md) (u1_2 : Md) (u1_3 : Md) (u1_4 : Md) (u1_5 : Md) (u5 : Md) (y6 : Int32) (y7 : Int32) (y8 : Int32), qX10_show_86 Q u0 u1 u1_2 u1_3 u1_4 u1_5 u5 y6 y7 y8 → VV X 0 0 ([wX10 E h0 a0 u0, wX8 E h1 a1 u1, wX2 E (a1 2) a1_2 u1_2, wX7 E (a1 3) a1_3 u1_3, wX0 E (a1 4) a1_4 u1_4, wX1 E (a1 5) a1_5 u1_5, wX5 E h5 a5 u5].flatten) [(1, .ref h1), (5, .ref h5), (6, .int y6), (7, .int y7), (8, .int y8)] 86 [] := by
  intro u0 u1 u1_2 u1_3 u1_4 u1_5 u5 y6 y7 y8 hw
  unfold qX10_show_86 at hw
  refine v_iload C dX10_show_86 3 rfl ?_
  refine v_iconst (v := (-1)) C dX10_show_88 (by decide) ?_
  refine v_icmp_eq (tgt := 107) C dX10_show_89 (by decide) (fun hc => ?_) (fun hc => ?_)
  · have hw := hw.1 hc
    refine v_lv C (lv' := [(1, .ref h1), (5, .ref h5), (6, .int y6), (8, .int y8)]) [0, 1, 2, 4] rfl ?_
    exact jX10_show_107 h0 h1 h5 a0 a1 a1_2 a1_3 a1_4 a1_5 a5 Q C hret u0 u1 u1_2 u1_3 u1_4 u1_5 u5 y6 y8 hw
  · have hw := hw.2 hc
    refine v_iload C dX10_show_92 4 rfl ?_
    refine v_iconst (v := (-1)) C dX10_show_94 (by decide) ?_
    refine v_icmp_eq (tgt := 107) C dX10_show_95 (by decide) (fun hc => ?_) (fun hc => ?_)
    · have hw := hw.1 hc
      refine v_lv C (lv' := [(1, .ref h1), (5, .ref h5), (6, .int y6), (8, .int y8)]) [0, 1, 2, 4] rfl ?_
      exact jX10_show_107 h0 h1 h5 a0 a1 a1_2 a1_3 a1_4 a1_5 a5 Q C hret u0 u1 u1_2 u1_3 u1_4 u1_5 u5 y6 y8 hw
    · have hw := hw.2 hc
      refine v_aload C dX10_show_98 1 rfl ?_
      refine v_bipush (v := 32) C dX10_show_100 (by decide) ?_
      refine v_bipush (v := (-4)) C dX10_show_102 (by decide) ?_
      refine v_callVMv (st := []) (ci := 5) (qb := 57) C (kX5_add h5 a5 _ _ _ hw) mM_X10_215 mI_X5 mC_X5_add mN_X5_add mS_X5_add rfl rfl hd_X5_add ⟨Nat.le_of_ble_eq_true rfl, Nat.le_of_ble_eq_true rfl⟩ ⟨Nat.le_of_ble_eq_true rfl, Nat.le_of_ble_eq_true rfl⟩ [6] [0, 1, 2, 3, 4, 5] (N0 := 7) rfl (by decide) (ms2 := (fun (U : Md) => [wX10 E h0 a0 u0, wX8 E h1 a1 u1, wX2 E (a1 2) a1_2 u1_2, wX7 E (a1 3) a1_3 u1_3, wX0 E (a1 4) a1_4 u1_4, wX1 E (a1 5) a1_5 u1_5, wX5 E h5 a5 U])) rfl (fun _ => rfl) (fun _ => rfl) (fun _ => rfl) rfl (Nat.le_of_ble_eq_true rfl) dX10_show_104 (fun v104_0 hw => ?_)
      refine v_lv C (lv' := [(1, .ref h1), (5, .ref h5), (6, .int y6), (8, .int y8)]) [0, 1, 2, 4] rfl ?_
      exact jX10_show_107 h0 h1 h5 a0 a1 a1_2 a1_3 a1_4 a1_5 a5 Q C hret u0 u1 u1_2 u1_3 u1_4 u1_5 v104_0 y6 y8 hw
set_option maxHeartbeats 4000000 in
set_option maxRecDepth 100000 in
theorem jX10_show_59 {X : VX} {E : VE} {l : Launch} (h0 : Nat) (h1 : Nat) (h5 : Nat) (a0 : Nat → Nat) (a1 : Nat → Nat) (a1_2 : Nat → Nat) (a1_3 : Nat → Nat) (a1_4 : Nat → Nat) (a1_5 : Nat → Nat) (a5 : Nat → Nat)  (Q : Md → Md → Md → Md → Md → Md → Md → Prop) (C : VC X cX10_show 9 RX10 (rmL 4 0 0) E l) (hret : RetV X cX10_show 0 0 (fun (U : Md × Md × Md × Md × Md × Md × Md) => [wX10 E h0 a0 U.1, wX8 E h1 a1 U.2.1, wX2 E (a1 2) a1_2 U.2.2.1, wX7 E (a1 3) a1_3 U.2.2.2.1, wX0 E (a1 4) a1_4 U.2.2.2.2.1, wX1 E (a1 5) a1_5 U.2.2.2.2.2.1, wX5 E h5 a5 U.2.2.2.2.2.2].flatten) (fun (U : Md × Md × Md × Md × Md × Md × Md) => Q U.1 U.2.1 U.2.2.1 U.2.2.2.1 U.2.2.2.2.1 U.2.2.2.2.2.1 U.2.2.2.2.2.2))  : ∀ (u0 : Md) (u1 : Md) (u1_2 : Md) (u1_3 : Md) (u1_4 : Md) (u1_5 : Md) (u5 : Md) (y6 : Int32) (y7 : Int32) (z0 : Int32), qX10_show_59 Q u0 u1 u1_2 u1_3 u1_4 u1_5 u5 y6 y7 z0 → VV X 0 0 ([wX10 E h0 a0 u0, wX8 E h1 a1 u1, wX2 E (a1 2) a1_2 u1_2, wX7 E (a1 3) a1_3 u1_3, wX0 E (a1 4) a1_4 u1_4, wX1 E (a1 5) a1_5 u1_5, wX5 E h5 a5 u5].flatten) [(1, .ref h1), (5, .ref h5), (6, .int y6), (7, .int y7)] 59 [.int z0] := by
  intro u0 u1 u1_2 u1_3 u1_4 u1_5 u5 y6 y7 z0 hw
  unfold qX10_show_59 at hw
  refine v_istore (lv' := [(8, .int z0), (1, .ref h1), (5, .ref h5), (6, .int y6), (7, .int y7)]) C dX10_show_59 (by decide) rfl ?_
  refine v_aload C dX10_show_61 2 rfl ?_
  refine v_iconst (v := 0) C dX10_show_63 (by decide) ?_
  obtain ⟨w64, e64⟩ : ∃ z : Md, z = sF u5 0 0 := ⟨_, rfl⟩
  have hw := hw w64 e64
  refine v_put (ci := 5) (ws' := [wX10 E h0 a0 u0, wX8 E h1 a1 u1, wX2 E (a1 2) a1_2 u1_2, wX7 E (a1 3) a1_3 u1_3, wX0 E (a1 4) a1_4 u1_4, wX1 E (a1 5) a1_5 u1_5, wX5 E h5 a5 w64].flatten) C tyX5 tyX5_ok nmX5 inT5 57 0 rfl rfl (by decide) mF_X10_156_X5_0 rfl rfl rfl rfl (Nat.le_of_ble_eq_true rfl) (by rw [e64]; rfl) dX10_show_64 ?_
  refine v_iload C dX10_show_67 4 rfl ?_
  refine v_iconst (v := (-1)) C dX10_show_69 (by decide) ?_
  refine v_icmp_eq (tgt := 86) C dX10_show_70 (by decide) (fun hc => ?_) (fun hc => ?_)
  · have hw := hw.1 hc
    refine v_lv C (lv' := [(1, .ref h1), (5, .ref h5), (6, .int y6), (7, .int y7), (8, .int z0)]) [1, 2, 3, 4, 0] rfl ?_
    exact jX10_show_86 h0 h1 h5 a0 a1 a1_2 a1_3 a1_4 a1_5 a5 Q C hret u0 u1 u1_2 u1_3 u1_4 u1_5 w64 y6 y7 z0 hw
  · have hw := hw.2 hc
    refine v_aload_n C dX10_show_73 1 rfl ?_
    refine v_get (ci := 8) C inT8 8 3 rfl rfl (by decide) mF_X10_187_X8_3 rfl dX10_show_74 ?_
    refine v_aload C dX10_show_77 2 rfl ?_
    refine v_iload C dX10_show_79 4 rfl ?_
    refine v_iload C dX10_show_81 3 rfl ?_
    refine v_callVMv (st := []) (ci := 7) (qb := 19) C (kX7_spellInto ((a1 3)) h5 a1_3 a5 _ _ _ _ hw) mM_X10_157 mI_X7 mC_X7_spellInto mN_X7_spellInto mS_X7_spellInto rfl rfl hd_X7_spellInto ⟨Nat.le_of_ble_eq_true rfl, Nat.le_of_ble_eq_true rfl⟩ ⟨Nat.le_of_ble_eq_true rfl, Nat.le_of_ble_eq_true rfl⟩ [3, 6] [0, 1, 2, 4, 5] (N0 := 7) rfl (by decide) (ms2 := (fun (U : Md × Md) => [wX10 E h0 a0 u0, wX8 E h1 a1 u1, wX2 E (a1 2) a1_2 u1_2, wX7 E (a1 3) a1_3 U.1, wX0 E (a1 4) a1_4 u1_4, wX1 E (a1 5) a1_5 u1_5, wX5 E h5 a5 U.2])) rfl (fun _ => rfl) (fun _ => rfl) (fun _ => rfl) rfl (Nat.le_of_ble_eq_true rfl) dX10_show_83 (fun U83 hw => ?_)
    obtain ⟨v83_0, v83_1⟩ := U83
    refine v_lv C (lv' := [(1, .ref h1), (5, .ref h5), (6, .int y6), (7, .int y7), (8, .int z0)]) [1, 2, 3, 4, 0] rfl ?_
    exact jX10_show_86 h0 h1 h5 a0 a1 a1_2 a1_3 a1_4 a1_5 a5 Q C hret u0 u1 u1_2 v83_0 u1_4 u1_5 v83_1 y6 y7 z0 hw
set_option maxHeartbeats 4000000 in
set_option maxRecDepth 100000 in
theorem kX10_show {l : Launch} {E : VE} (h0 : Nat) (h1 : Nat) (h5 : Nat) (a0 : Nat → Nat) (a1 : Nat → Nat) (a1_2 : Nat → Nat) (a1_3 : Nat → Nat) (a1_4 : Nat → Nat) (a1_5 : Nat → Nat) (a5 : Nat → Nat) (u0 : Md) (u1 : Md) (u1_2 : Md) (u1_3 : Md) (u1_4 : Md) (u1_5 : Md) (u5 : Md) (x2 : Int32) (x3 : Int32) (x4 : Int32) {Q : Md → Md → Md → Md → Md → Md → Md → Prop} (hw : qX10_show u0 u1 u1_2 u1_3 u1_4 u1_5 u5 x2 x3 x4 Q) : MV l yX10_show cX10_show 9 4 0 0 E [.ref h0, .ref h1, .int x2, .int x3, .int x4, .ref h5] ([wX10 E h0 a0 u0, wX8 E h1 a1 u1, wX2 E (a1 2) a1_2 u1_2, wX7 E (a1 3) a1_3 u1_3, wX0 E (a1 4) a1_4 u1_4, wX1 E (a1 5) a1_5 u1_5, wX5 E h5 a5 u5].flatten) (fun (U : Md × Md × Md × Md × Md × Md × Md) => [wX10 E h0 a0 U.1, wX8 E h1 a1 U.2.1, wX2 E (a1 2) a1_2 U.2.2.1, wX7 E (a1 3) a1_3 U.2.2.2.1, wX0 E (a1 4) a1_4 U.2.2.2.2.1, wX1 E (a1 5) a1_5 U.2.2.2.2.2.1, wX5 E h5 a5 U.2.2.2.2.2.2].flatten) (fun (U : Md × Md × Md × Md × Md × Md × Md) => Q U.1 U.2.1 U.2.2.1 U.2.2.2.1 U.2.2.2.2.1 U.2.2.2.2.2.1 U.2.2.2.2.2.2) := by
  refine MV.of (own := RX10) (by decide) rfl (Nat.le_of_ble_eq_true rfl) ?_
  intro X C hini hret
  show VV X 0 0 ([wX10 E h0 a0 u0, wX8 E h1 a1 u1, wX2 E (a1 2) a1_2 u1_2, wX7 E (a1 3) a1_3 u1_3, wX0 E (a1 4) a1_4 u1_4, wX1 E (a1 5) a1_5 u1_5, wX5 E h5 a5 u5].flatten) [(0, .ref h0), (1, .ref h1), (2, .int x2), (3, .int x3), (4, .int x4), (5, .ref h5)] 0 []
  unfold qX10_show at hw
  refine v_aload_n C dX10_show_0 0 rfl ?_
  refine v_aload_n C dX10_show_1 1 rfl ?_
  refine v_iload_n C dX10_show_2 2 rfl ?_
  refine v_iload_n C dX10_show_3 3 rfl ?_
  refine v_iload C dX10_show_4 4 rfl ?_
  refine v_callVMv (st := []) (ci := 10) (qb := 0) C (kX10_look h0 h1 a0 a1 a1_2 a1_4 _ _ _ _ _ _ _ hw) mM_X10_128 mI_X10 mC_X10_look mN_X10_look mS_X10_look rfl rfl hd_X10_look ⟨Nat.le_of_ble_eq_true rfl, Nat.le_of_ble_eq_true rfl⟩ ⟨Nat.le_of_ble_eq_true rfl, Nat.le_of_ble_eq_true rfl⟩ [0, 1, 2, 4] [3, 5, 6] (N0 := 7) rfl (by decide) (ms2 := (fun (U : Md × Md × Md × Md) => [wX10 E h0 a0 U.1, wX8 E h1 a1 U.2.1, wX2 E (a1 2) a1_2 U.2.2.1, wX7 E (a1 3) a1_3 u1_3, wX0 E (a1 4) a1_4 U.2.2.2, wX1 E (a1 5) a1_5 u1_5, wX5 E h5 a5 u5])) rfl (fun _ => rfl) (fun _ => rfl) (fun _ => rfl) rfl (Nat.le_of_ble_eq_true rfl) dX10_show_6 (fun U6 hw => ?_)
  obtain ⟨v6_0, v6_1, v6_2, v6_3⟩ := U6
  refine v_iload_n C dX10_show_9 3 rfl ?_
  refine v_iload C dX10_show_10 4 rfl ?_
  refine v_imin C mM_X10_78 ⟨Nat.le_of_ble_eq_true rfl, Nat.le_of_ble_eq_true rfl, Nat.le_of_ble_eq_true rfl, Nat.le_of_ble_eq_true rfl⟩ dX10_show_12 ?_
  refine v_istore (lv' := [(6, .int (imin x3 x4)), (0, .ref h0), (1, .ref h1), (2, .int x2), (3, .int x3), (4, .int x4), (5, .ref h5)]) C dX10_show_15 (by decide) rfl ?_
  refine v_aload_n C dX10_show_17 2 rfl ?_
  refine v_get (ci := 8) C inT8 8 5 rfl rfl (by decide) mF_X10_174_X8_5 rfl dX10_show_18 ?_
  refine v_iload_n C dX10_show_21 3 rfl ?_
  refine v_aload_n C dX10_show_22 1 rfl ?_
  refine v_get (ci := 10) C inT10 0 4 rfl rfl (by decide) mF_X10_109_X10_4 rfl dX10_show_23 ?_
  refine v_iload C dX10_show_26 0 rfl ?_
  refine v_callVMi (st := []) (ci := 1) (qb := 46) C (kX1_nameAt ((a1 5)) a1_5 _ _ _ _ hw) mM_X10_208 mI_X1 mC_X1_nameAt mN_X1_nameAt mS_X1_nameAt rfl rfl hd_X1_nameAt ⟨Nat.le_of_ble_eq_true rfl, Nat.le_of_ble_eq_true rfl⟩ ⟨Nat.le_of_ble_eq_true rfl, Nat.le_of_ble_eq_true rfl⟩ [5] [0, 1, 2, 3, 4, 6] (N0 := 7) rfl (by decide) (ms2 := (fun (U : Md) => [wX10 E h0 a0 v6_0, wX8 E h1 a1 v6_1, wX2 E (a1 2) a1_2 v6_2, wX7 E (a1 3) a1_3 u1_3, wX0 E (a1 4) a1_4 v6_3, wX1 E (a1 5) a1_5 U, wX5 E h5 a5 u5])) rfl (fun _ => rfl) (fun _ => rfl) (fun _ => rfl) rfl (Nat.le_of_ble_eq_true rfl) dX10_show_28 (fun r28 v28_0 hw => ?_)
  refine v_istore (lv' := [(7, .int r28), (6, .int (imin x3 x4)), (0, .ref h0), (1, .ref h1), (2, .int x2), (3, .int x3), (4, .int x4), (5, .ref h5)]) C dX10_show_31 (by decide) rfl ?_
  refine v_aload_n C dX10_show_33 2 rfl ?_
  refine v_get (ci := 10) C inT10 0 5 rfl rfl (by decide) mF_X10_112_X10_5 rfl dX10_show_34 ?_
  refine v_iconst (v := (-1)) C dX10_show_37 (by decide) ?_
  refine v_icmp_ne (tgt := 45) C dX10_show_38 (by decide) (fun hc => ?_) (fun hc => ?_)
  · have hw := hw.1 hc
    refine v_aload_n C dX10_show_45 3 rfl ?_
    refine v_get (ci := 8) C inT8 8 5 rfl rfl (by decide) mF_X10_174_X8_5 rfl dX10_show_46 ?_
    refine v_iload_n C dX10_show_49 4 rfl ?_
    refine v_aload_n C dX10_show_50 2 rfl ?_
    refine v_get (ci := 10) C inT10 0 5 rfl rfl (by decide) mF_X10_112_X10_5 rfl dX10_show_51 ?_
    refine v_iload C dX10_show_54 1 rfl ?_
    refine v_callVMi (st := []) (ci := 1) (qb := 46) C (kX1_nameAt ((a1 5)) a1_5 _ _ _ _ hw) mM_X10_208 mI_X1 mC_X1_nameAt mN_X1_nameAt mS_X1_nameAt rfl rfl hd_X1_nameAt ⟨Nat.le_of_ble_eq_true rfl, Nat.le_of_ble_eq_true rfl⟩ ⟨Nat.le_of_ble_eq_true rfl, Nat.le_of_ble_eq_true rfl⟩ [5] [0, 1, 2, 3, 4, 6] (N0 := 7) rfl (by decide) (ms2 := (fun (U : Md) => [wX10 E h0 a0 v6_0, wX8 E h1 a1 v6_1, wX2 E (a1 2) a1_2 v6_2, wX7 E (a1 3) a1_3 u1_3, wX0 E (a1 4) a1_4 v6_3, wX1 E (a1 5) a1_5 U, wX5 E h5 a5 u5])) rfl (fun _ => rfl) (fun _ => rfl) (fun _ => rfl) rfl (Nat.le_of_ble_eq_true rfl) dX10_show_56 (fun r56 v56_0 hw => ?_)
    refine v_lv C (lv' := [(1, .ref h1), (5, .ref h5), (6, .int (imin x3 x4)), (7, .int r28)]) [3, 7, 1, 0] rfl ?_
    exact jX10_show_59 h0 h1 h5 a0 a1 a1_2 a1_3 a1_4 a1_5 a5 Q C hret v6_0 v6_1 v6_2 u1_3 v6_3 v56_0 u5 (imin x3 x4) r28 r56 hw
  · have hw := hw.2 hc
    refine v_iconst (v := (-1)) C dX10_show_41 (by decide) ?_
    refine v_goto (tgt := 59) C dX10_show_42 (by decide) ?_
    refine v_lv C (lv' := [(1, .ref h1), (5, .ref h5), (6, .int (imin x3 x4)), (7, .int r28)]) [3, 7, 1, 0] rfl ?_
    exact jX10_show_59 h0 h1 h5 a0 a1 a1_2 a1_3 a1_4 a1_5 a5 Q C hret v6_0 v6_1 v6_2 u1_3 v6_3 v28_0 u5 (imin x3 x4) r28 ((-1)) hw
set_option maxHeartbeats 4000000 in
set_option maxRecDepth 100000 in
theorem kX10_isLame {l : Launch} {E : VE} (h0 : Nat) (h1 : Nat) (a0 : Nat → Nat) (a0_6 : Nat → Nat) (a0_7 : Nat → Nat) (a1 : Nat → Nat) (a1_2 : Nat → Nat) (a1_3 : Nat → Nat) (a1_4 : Nat → Nat) (a1_5 : Nat → Nat) (a1_6 : Nat → Nat) (u0 : Md) (u0_6 : Md) (u0_7 : Md) (u1 : Md) (u1_2 : Md) (u1_3 : Md) (u1_4 : Md) (u1_5 : Md) (u1_6 : Md) (x2 : Int32) {Q : Int32 → Md → Md → Md → Md → Md → Md → Md → Md → Md → Prop} (hw : qX10_isLame u0 u0_6 u0_7 u1 u1_2 u1_3 u1_4 u1_5 u1_6 x2 Q) : MI l yX10_isLame cX10_isLame 5 .boolean 5 0 0 E [.ref h0, .ref h1, .int x2] ([wX10 E h0 a0 u0, wX5 E (a0 6) a0_6 u0_6, wX5 E (a0 7) a0_7 u0_7, wX8 E h1 a1 u1, wX2 E (a1 2) a1_2 u1_2, wX7 E (a1 3) a1_3 u1_3, wX0 E (a1 4) a1_4 u1_4, wX1 E (a1 5) a1_5 u1_5, wX6 E (a1 6) a1_6 u1_6].flatten) (fun (U : Md × Md × Md × Md × Md × Md × Md × Md × Md) => [wX10 E h0 a0 U.1, wX5 E (a0 6) a0_6 U.2.1, wX5 E (a0 7) a0_7 U.2.2.1, wX8 E h1 a1 U.2.2.2.1, wX2 E (a1 2) a1_2 U.2.2.2.2.1, wX7 E (a1 3) a1_3 U.2.2.2.2.2.1, wX0 E (a1 4) a1_4 U.2.2.2.2.2.2.1, wX1 E (a1 5) a1_5 U.2.2.2.2.2.2.2.1, wX6 E (a1 6) a1_6 U.2.2.2.2.2.2.2.2].flatten) (fun (r : Int32) (U : Md × Md × Md × Md × Md × Md × Md × Md × Md) => (r = 0 ∨ r = 1) ∧ Q r U.1 U.2.1 U.2.2.1 U.2.2.2.1 U.2.2.2.2.1 U.2.2.2.2.2.1 U.2.2.2.2.2.2.1 U.2.2.2.2.2.2.2.1 U.2.2.2.2.2.2.2.2) := by
  refine MI.of (own := RX10) (by decide) rfl (Nat.le_of_ble_eq_true rfl) ?_
  intro X C hini hret
  show VV X 0 0 ([wX10 E h0 a0 u0, wX5 E (a0 6) a0_6 u0_6, wX5 E (a0 7) a0_7 u0_7, wX8 E h1 a1 u1, wX2 E (a1 2) a1_2 u1_2, wX7 E (a1 3) a1_3 u1_3, wX0 E (a1 4) a1_4 u1_4, wX1 E (a1 5) a1_5 u1_5, wX6 E (a1 6) a1_6 u1_6].flatten) [(0, .ref h0), (1, .ref h1), (2, .int x2)] 0 []
  unfold qX10_isLame at hw
  refine v_aload_n C dX10_isLame_0 1 rfl ?_
  refine v_get (ci := 8) C inT8 14 6 rfl rfl (by decide) mF_X10_219_X8_6 rfl dX10_isLame_1 ?_
  refine v_get (ci := 6) C inT6 63 1 rfl rfl (by decide) mF_X10_223_X6_1 rfl dX10_isLame_4 ?_
  refine v_iload_n C dX10_isLame_7 2 rfl ?_
  obtain ⟨hi8, hw⟩ := hw
  refine v_iald C 64 rfl hi8 dX10_isLame_8 ?_
  refine v_istore_n (lv' := [(3, .int (gA u1_6 1 x2.toNatClampNeg)), (0, .ref h0), (1, .ref h1), (2, .int x2)]) C dX10_isLame_9 (by decide) rfl ?_
  refine v_aload_n C dX10_isLame_10 2 rfl ?_
  refine v_get (ci := 8) C inT8 14 6 rfl rfl (by decide) mF_X10_219_X8_6 rfl dX10_isLame_11 ?_
  refine v_get (ci := 6) C inT6 63 3 rfl rfl (by decide) mF_X10_226_X6_3 rfl dX10_isLame_14 ?_
  refine v_iload_n C dX10_isLame_17 3 rfl ?_
  obtain ⟨hi18, hw⟩ := hw
  refine v_iald C 66 rfl hi18 dX10_isLame_18 ?_
  refine v_istore (lv' := [(4, .int (gA u1_6 3 x2.toNatClampNeg)), (3, .int (gA u1_6 1 x2.toNatClampNeg)), (0, .ref h0), (1, .ref h1), (2, .int x2)]) C dX10_isLame_19 (by decide) rfl ?_
  refine v_aload_n C dX10_isLame_21 2 rfl ?_
  refine v_aload_n C dX10_isLame_22 3 rfl ?_
  refine v_iload_n C dX10_isLame_23 1 rfl ?_
  refine v_iload C dX10_isLame_24 0 rfl ?_
  refine v_iload C dX10_isLame_26 0 rfl ?_
  refine v_aload_n C dX10_isLame_28 2 rfl ?_
  refine v_get (ci := 10) C inT10 0 6 rfl rfl (by decide) mF_X10_29_X10_6 rfl dX10_isLame_29 ?_
  refine v_callVMv (st := []) (ci := 10) (qb := 0) C (kX10_show h0 h1 ((a0 6)) a0 a1 a1_2 a1_3 a1_4 a1_5 a0_6 _ _ _ _ _ _ _ _ _ _ hw) mM_X10_229 mI_X10 mC_X10_show mN_X10_show mS_X10_show rfl rfl hd_X10_show ⟨Nat.le_of_ble_eq_true rfl, Nat.le_of_ble_eq_true rfl⟩ ⟨Nat.le_of_ble_eq_true rfl, Nat.le_of_ble_eq_true rfl⟩ [0, 3, 4, 5, 6, 7, 1] [2, 8] (N0 := 9) rfl (by decide) (ms2 := (fun (U : Md × Md × Md × Md × Md × Md × Md) => [wX10 E h0 a0 U.1, wX5 E (a0 6) a0_6 U.2.2.2.2.2.2, wX5 E (a0 7) a0_7 u0_7, wX8 E h1 a1 U.2.1, wX2 E (a1 2) a1_2 U.2.2.1, wX7 E (a1 3) a1_3 U.2.2.2.1, wX0 E (a1 4) a1_4 U.2.2.2.2.1, wX1 E (a1 5) a1_5 U.2.2.2.2.2.1, wX6 E (a1 6) a1_6 u1_6])) rfl (fun _ => rfl) (fun _ => rfl) (fun _ => rfl) rfl (Nat.le_of_ble_eq_true rfl) dX10_isLame_32 (fun U32 hw => ?_)
  obtain ⟨v32_0, v32_1, v32_2, v32_3, v32_4, v32_5, v32_6⟩ := U32
  refine v_aload_n C dX10_isLame_35 2 rfl ?_
  refine v_aload_n C dX10_isLame_36 3 rfl ?_
  refine v_iload_n C dX10_isLame_37 1 rfl ?_
  refine v_aload_n C dX10_isLame_38 3 rfl ?_
  refine v_get (ci := 8) C inT8 14 0 rfl rfl (by decide) mF_X10_125_X8_0 rfl dX10_isLame_39 ?_
  refine v_aload_n C dX10_isLame_42 3 rfl ?_
  refine v_get (ci := 8) C inT8 14 0 rfl rfl (by decide) mF_X10_125_X8_0 rfl dX10_isLame_43 ?_
  refine v_aload_n C dX10_isLame_46 2 rfl ?_
  refine v_get (ci := 10) C inT10 0 7 rfl rfl (by decide) mF_X10_33_X10_7 rfl dX10_isLame_47 ?_
  refine v_callVMv (st := []) (ci := 10) (qb := 0) C (kX10_show h0 h1 ((a0 7)) a0 a1 a1_2 a1_3 a1_4 a1_5 a0_7 _ _ _ _ _ _ _ _ _ _ hw) mM_X10_229 mI_X10 mC_X10_show mN_X10_show mS_X10_show rfl rfl hd_X10_show ⟨Nat.le_of_ble_eq_true rfl, Nat.le_of_ble_eq_true rfl⟩ ⟨Nat.le_of_ble_eq_true rfl, Nat.le_of_ble_eq_true rfl⟩ [0, 3, 4, 5, 6, 7, 2] [1, 8] (N0 := 9) rfl (by decide) (ms2 := (fun (U : Md × Md × Md × Md × Md × Md × Md) => [wX10 E h0 a0 U.1, wX5 E (a0 6) a0_6 v32_6, wX5 E (a0 7) a0_7 U.2.2.2.2.2.2, wX8 E h1 a1 U.2.1, wX2 E (a1 2) a1_2 U.2.2.1, wX7 E (a1 3) a1_3 U.2.2.2.1, wX0 E (a1 4) a1_4 U.2.2.2.2.1, wX1 E (a1 5) a1_5 U.2.2.2.2.2.1, wX6 E (a1 6) a1_6 u1_6])) rfl (fun _ => rfl) (fun _ => rfl) (fun _ => rfl) rfl (Nat.le_of_ble_eq_true rfl) dX10_isLame_50 (fun U50 hw => ?_)
  obtain ⟨v50_0, v50_1, v50_2, v50_3, v50_4, v50_5, v50_6⟩ := U50
  refine v_aload_n C dX10_isLame_53 2 rfl ?_
  refine v_get (ci := 10) C inT10 0 6 rfl rfl (by decide) mF_X10_29_X10_6 rfl dX10_isLame_54 ?_
  refine v_aload_n C dX10_isLame_57 2 rfl ?_
  refine v_get (ci := 10) C inT10 0 7 rfl rfl (by decide) mF_X10_33_X10_7 rfl dX10_isLame_58 ?_
  refine v_callVMi (st := []) (ci := 5) (qb := 8) C (kX5_readsAs ((a0 6)) ((a0 7)) a0_6 a0_7 _ _ hw) mM_X10_233 mI_X5 mC_X5_readsAs mN_X5_readsAs mS_X5_readsAs rfl rfl hd_X5_readsAs ⟨Nat.le_of_ble_eq_true rfl, Nat.le_of_ble_eq_true rfl⟩ ⟨Nat.le_of_ble_eq_true rfl, Nat.le_of_ble_eq_true rfl⟩ [1, 2] [0, 3, 4, 5, 6, 7, 8] (N0 := 9) rfl (by decide) (ms2 := (fun (U : Md × Md) => [wX10 E h0 a0 v50_0, wX5 E (a0 6) a0_6 U.1, wX5 E (a0 7) a0_7 U.2, wX8 E h1 a1 v50_1, wX2 E (a1 2) a1_2 v50_2, wX7 E (a1 3) a1_3 v50_3, wX0 E (a1 4) a1_4 v50_4, wX1 E (a1 5) a1_5 v50_5, wX6 E (a1 6) a1_6 u1_6])) rfl (fun _ => rfl) (fun _ => rfl) (fun _ => rfl) rfl (Nat.le_of_ble_eq_true rfl) dX10_isLame_61 (fun r61 U61 hw => ?_)
  obtain ⟨v61_0, v61_1⟩ := U61
  obtain ⟨h01_61, hw⟩ := hw
  have hw := hw h01_61
  refine v_if_ne (tgt := 71) C dX10_isLame_64 (by decide) (fun hc => ?_) (fun hc => ?_)
  · have hw := hw.1 hc
    refine v_iconst (v := 0) C dX10_isLame_71 (by decide) ?_
    exact hret _ _ _ _ 0 (v50_0, v61_0, v61_1, v50_1, v50_2, v50_3, v50_4, v50_5, u1_6) dX10_isLame_72 rfl ⟨Or.inl rfl, hw⟩ (Nat.le_of_ble_eq_true rfl) (Nat.le_of_ble_eq_true rfl)
  · have hw := hw.2 hc
    refine v_iconst (v := 1) C dX10_isLame_67 (by decide) ?_
    refine v_goto (tgt := 72) C dX10_isLame_68 (by decide) ?_
    exact hret _ _ _ _ 1 (v50_0, v61_0, v61_1, v50_1, v50_2, v50_3, v50_4, v50_5, u1_6) dX10_isLame_72 rfl ⟨Or.inr rfl, hw⟩ (Nat.le_of_ble_eq_true rfl) (Nat.le_of_ble_eq_true rfl)
set_option maxHeartbeats 4000000 in
set_option maxRecDepth 100000 in
theorem jX10_lameSigns_30 {X : VX} {E : VE} {l : Launch} (h0 : Nat) (h1 : Nat) (a0 : Nat → Nat) (a0_6 : Nat → Nat) (a0_7 : Nat → Nat) (a1 : Nat → Nat) (a1_2 : Nat → Nat) (a1_3 : Nat → Nat) (a1_4 : Nat → Nat) (a1_5 : Nat → Nat) (a1_6 : Nat → Nat)  (Q : Int32 → Md → Md → Md → Md → Md → Md → Md → Md → Md → Prop) (C : VC X cX10_lameSigns 4 RX10 (rmL 6 0 0) E l) (hret : RetI X cX10_lameSigns .int 0 0 (fun (U : Md × Md × Md × Md × Md × Md × Md × Md × Md) => [wX10 E h0 a0 U.1, wX5 E (a0 6) a0_6 U.2.1, wX5 E (a0 7) a0_7 U.2.2.1, wX8 E h1 a1 U.2.2.2.1, wX2 E (a1 2) a1_2 U.2.2.2.2.1, wX7 E (a1 3) a1_3 U.2.2.2.2.2.1, wX0 E (a1 4) a1_4 U.2.2.2.2.2.2.1, wX1 E (a1 5) a1_5 U.2.2.2.2.2.2.2.1, wX6 E (a1 6) a1_6 U.2.2.2.2.2.2.2.2].flatten) (fun (r : Int32) (U : Md × Md × Md × Md × Md × Md × Md × Md × Md) => Q r U.1 U.2.1 U.2.2.1 U.2.2.2.1 U.2.2.2.2.1 U.2.2.2.2.2.1 U.2.2.2.2.2.2.1 U.2.2.2.2.2.2.2.1 U.2.2.2.2.2.2.2.2)) (K4 : Md → Md → Md → Md → Md → Md → Md → Md → Md → Int32 → Int32 → Prop) (hK4 : ∀ (u0 : Md) (u0_6 : Md) (u0_7 : Md) (u1 : Md) (u1_2 : Md) (u1_3 : Md) (u1_4 : Md) (u1_5 : Md) (u1_6 : Md) (y2 : Int32) (y3 : Int32), K4 u0 u0_6 u0_7 u1 u1_2 u1_3 u1_4 u1_5 u1_6 y2 y3 → VV X 0 0 ([wX10 E h0 a0 u0, wX5 E (a0 6) a0_6 u0_6, wX5 E (a0 7) a0_7 u0_7, wX8 E h1 a1 u1, wX2 E (a1 2) a1_2 u1_2, wX7 E (a1 3) a1_3 u1_3, wX0 E (a1 4) a1_4 u1_4, wX1 E (a1 5) a1_5 u1_5, wX6 E (a1 6) a1_6 u1_6].flatten) [(0, .ref h0), (1, .ref h1), (2, .int y2), (3, .int y3)] 4 []) : ∀ (u0 : Md) (u0_6 : Md) (u0_7 : Md) (u1 : Md) (u1_2 : Md) (u1_3 : Md) (u1_4 : Md) (u1_5 : Md) (u1_6 : Md) (y3 : Int32) (z0 : Int32) (z1 : Int32), qX10_lameSigns_30 Q K4 u0 u0_6 u0_7 u1 u1_2 u1_3 u1_4 u1_5 u1_6 y3 z0 z1 → VV X 0 0 ([wX10 E h0 a0 u0, wX5 E (a0 6) a0_6 u0_6, wX5 E (a0 7) a0_7 u0_7, wX8 E h1 a1 u1, wX2 E (a1 2) a1_2 u1_2, wX7 E (a1 3) a1_3 u1_3, wX0 E (a1 4) a1_4 u1_4, wX1 E (a1 5) a1_5 u1_5, wX6 E (a1 6) a1_6 u1_6].flatten) [(0, .ref h0), (1, .ref h1), (3, .int y3)] 30 [.int z0, .int z1] := by
  intro u0 u0_6 u0_7 u1 u1_2 u1_3 u1_4 u1_5 u1_6 y3 z0 z1 hw
  unfold qX10_lameSigns_30 at hw
  refine v_iadd C dX10_lameSigns_30 ?_
  refine v_istore_n (lv' := [(2, .int (z1 + z0)), (0, .ref h0), (1, .ref h1), (3, .int y3)]) C dX10_lameSigns_31 (by decide) rfl ?_
  refine v_iinc (lv' := [(3, .int (y3 + Int32.ofInt 1)), (2, .int (z1 + z0)), (0, .ref h0), (1, .ref h1)]) C dX10_lameSigns_32 3 rfl (by decide) rfl ?_
  refine v_goto (tgt := 4) C dX10_lameSigns_35 (by decide) ?_
  refine v_lv C (lv' := [(0, .ref h0), (1, .ref h1), (2, .int (z1 + z0)), (3, .int (y3 + Int32.ofInt 1))]) [2, 3, 1, 0] rfl ?_
  exact hK4 u0 u0_6 u0_7 u1 u1_2 u1_3 u1_4 u1_5 u1_6 (z1 + z0) (y3 + Int32.ofInt 1) hw
set_option maxHeartbeats 4000000 in
set_option maxRecDepth 100000 in
theorem jX10_lameSigns_4 {X : VX} {E : VE} {l : Launch} (h0 : Nat) (h1 : Nat) (a0 : Nat → Nat) (a0_6 : Nat → Nat) (a0_7 : Nat → Nat) (a1 : Nat → Nat) (a1_2 : Nat → Nat) (a1_3 : Nat → Nat) (a1_4 : Nat → Nat) (a1_5 : Nat → Nat) (a1_6 : Nat → Nat)  (Q : Int32 → Md → Md → Md → Md → Md → Md → Md → Md → Md → Prop) (C : VC X cX10_lameSigns 4 RX10 (rmL 6 0 0) E l) (hret : RetI X cX10_lameSigns .int 0 0 (fun (U : Md × Md × Md × Md × Md × Md × Md × Md × Md) => [wX10 E h0 a0 U.1, wX5 E (a0 6) a0_6 U.2.1, wX5 E (a0 7) a0_7 U.2.2.1, wX8 E h1 a1 U.2.2.2.1, wX2 E (a1 2) a1_2 U.2.2.2.2.1, wX7 E (a1 3) a1_3 U.2.2.2.2.2.1, wX0 E (a1 4) a1_4 U.2.2.2.2.2.2.1, wX1 E (a1 5) a1_5 U.2.2.2.2.2.2.2.1, wX6 E (a1 6) a1_6 U.2.2.2.2.2.2.2.2].flatten) (fun (r : Int32) (U : Md × Md × Md × Md × Md × Md × Md × Md × Md) => Q r U.1 U.2.1 U.2.2.1 U.2.2.2.1 U.2.2.2.2.1 U.2.2.2.2.2.1 U.2.2.2.2.2.2.1 U.2.2.2.2.2.2.2.1 U.2.2.2.2.2.2.2.2))  : ∀ (n : Nat), ∀ (u0 : Md) (u0_6 : Md) (u0_7 : Md) (u1 : Md) (u1_2 : Md) (u1_3 : Md) (u1_4 : Md) (u1_5 : Md) (u1_6 : Md) (y2 : Int32) (y3 : Int32), qX10_lameSigns_4 Q n u0 u0_6 u0_7 u1 u1_2 u1_3 u1_4 u1_5 u1_6 y2 y3 → VV X 0 0 ([wX10 E h0 a0 u0, wX5 E (a0 6) a0_6 u0_6, wX5 E (a0 7) a0_7 u0_7, wX8 E h1 a1 u1, wX2 E (a1 2) a1_2 u1_2, wX7 E (a1 3) a1_3 u1_3, wX0 E (a1 4) a1_4 u1_4, wX1 E (a1 5) a1_5 u1_5, wX6 E (a1 6) a1_6 u1_6].flatten) [(0, .ref h0), (1, .ref h1), (2, .int y2), (3, .int y3)] 4 [] := by
  intro n
  induction n with
  | zero =>
    intro u0 u0_6 u0_7 u1 u1_2 u1_3 u1_4 u1_5 u1_6 y2 y3 hw
    exact hw.elim
  | succ n ih =>
    intro u0 u0_6 u0_7 u1 u1_2 u1_3 u1_4 u1_5 u1_6 y2 y3 hw
    unfold qX10_lameSigns_4 at hw
    refine v_iload_n C dX10_lameSigns_4 3 rfl ?_
    refine v_aload_n C dX10_lameSigns_5 1 rfl ?_
    refine v_get (ci := 8) C inT8 14 6 rfl rfl (by decide) mF_X10_219_X8_6 rfl dX10_lameSigns_6 ?_
    refine v_get (ci := 6) C inT6 63 0 rfl rfl (by decide) mF_X10_237_X6_0 rfl dX10_lameSigns_9 ?_
    refine v_icmp_ge (tgt := 38) C dX10_lameSigns_12 (by decide) (fun hc => ?_) (fun hc => ?_)
    · have hw := hw.1 hc
      refine v_iload_n C dX10_lameSigns_38 2 rfl ?_
      exact hret _ _ _ _ y2 (u0, u0_6, u0_7, u1, u1_2, u1_3, u1_4, u1_5, u1_6) dX10_lameSigns_39 rfl hw (Nat.le_of_ble_eq_true rfl) (Nat.le_of_ble_eq_true rfl)
    · have hw := hw.2 hc
      refine v_iload_n C dX10_lameSigns_15 2 rfl ?_
      refine v_aload_n C dX10_lameSigns_16 0 rfl ?_
      refine v_aload_n C dX10_lameSigns_17 1 rfl ?_
      refine v_iload_n C dX10_lameSigns_18 3 rfl ?_
      refine v_callFi (st := [.int y2]) (ci := 10) (qb := 0) C (kX10_isLame h0 h1 a0 a0_6 a0_7 a1 a1_2 a1_3 a1_4 a1_5 a1_6 _ _ _ _ _ _ _ _ _ _ hw) mM_X10_238 mI_X10 mC_X10_isLame mN_X10_isLame mS_X10_isLame rfl rfl hd_X10_isLame ⟨Nat.le_of_ble_eq_true rfl, Nat.le_of_ble_eq_true rfl⟩ ⟨Nat.le_of_ble_eq_true rfl, Nat.le_of_ble_eq_true rfl⟩ rfl (Nat.le_of_ble_eq_true rfl) dX10_lameSigns_19 (fun r19 U19 hw => ?_)
      obtain ⟨v19_0, v19_1, v19_2, v19_3, v19_4, v19_5, v19_6, v19_7, v19_8⟩ := U19
      obtain ⟨h01_19, hw⟩ := hw
      have hw := hw h01_19
      refine v_if_eq (tgt := 29) C dX10_lameSigns_22 (by decide) (fun hc => ?_) (fun hc => ?_)
      · have hw := hw.1 hc
        refine v_iconst (v := 0) C dX10_lameSigns_29 (by decide) ?_
        refine v_lv C (lv' := [(0, .ref h0), (1, .ref h1), (3, .int y3)]) [0, 1, 3] rfl ?_
        exact jX10_lameSigns_30 h0 h1 a0 a0_6 a0_7 a1 a1_2 a1_3 a1_4 a1_5 a1_6 Q C hret (qX10_lameSigns_4 Q n) ih v19_0 v19_1 v19_2 v19_3 v19_4 v19_5 v19_6 v19_7 v19_8 y3 0 y2 hw
      · have hw := hw.2 hc
        refine v_iconst (v := 1) C dX10_lameSigns_25 (by decide) ?_
        refine v_goto (tgt := 30) C dX10_lameSigns_26 (by decide) ?_
        refine v_lv C (lv' := [(0, .ref h0), (1, .ref h1), (3, .int y3)]) [0, 1, 3] rfl ?_
        exact jX10_lameSigns_30 h0 h1 a0 a0_6 a0_7 a1 a1_2 a1_3 a1_4 a1_5 a1_6 Q C hret (qX10_lameSigns_4 Q n) ih v19_0 v19_1 v19_2 v19_3 v19_4 v19_5 v19_6 v19_7 v19_8 y3 1 y2 hw
set_option maxHeartbeats 4000000 in
set_option maxRecDepth 100000 in
theorem kX10_lameSigns {l : Launch} {E : VE} (h0 : Nat) (h1 : Nat) (a0 : Nat → Nat) (a0_6 : Nat → Nat) (a0_7 : Nat → Nat) (a1 : Nat → Nat) (a1_2 : Nat → Nat) (a1_3 : Nat → Nat) (a1_4 : Nat → Nat) (a1_5 : Nat → Nat) (a1_6 : Nat → Nat) (u0 : Md) (u0_6 : Md) (u0_7 : Md) (u1 : Md) (u1_2 : Md) (u1_3 : Md) (u1_4 : Md) (u1_5 : Md) (u1_6 : Md) {Q : Int32 → Md → Md → Md → Md → Md → Md → Md → Md → Md → Prop} (hw : qX10_lameSigns u0 u0_6 u0_7 u1 u1_2 u1_3 u1_4 u1_5 u1_6 Q) : MI l yX10_lameSigns cX10_lameSigns 4 .int 6 0 0 E [.ref h0, .ref h1] ([wX10 E h0 a0 u0, wX5 E (a0 6) a0_6 u0_6, wX5 E (a0 7) a0_7 u0_7, wX8 E h1 a1 u1, wX2 E (a1 2) a1_2 u1_2, wX7 E (a1 3) a1_3 u1_3, wX0 E (a1 4) a1_4 u1_4, wX1 E (a1 5) a1_5 u1_5, wX6 E (a1 6) a1_6 u1_6].flatten) (fun (U : Md × Md × Md × Md × Md × Md × Md × Md × Md) => [wX10 E h0 a0 U.1, wX5 E (a0 6) a0_6 U.2.1, wX5 E (a0 7) a0_7 U.2.2.1, wX8 E h1 a1 U.2.2.2.1, wX2 E (a1 2) a1_2 U.2.2.2.2.1, wX7 E (a1 3) a1_3 U.2.2.2.2.2.1, wX0 E (a1 4) a1_4 U.2.2.2.2.2.2.1, wX1 E (a1 5) a1_5 U.2.2.2.2.2.2.2.1, wX6 E (a1 6) a1_6 U.2.2.2.2.2.2.2.2].flatten) (fun (r : Int32) (U : Md × Md × Md × Md × Md × Md × Md × Md × Md) => Q r U.1 U.2.1 U.2.2.1 U.2.2.2.1 U.2.2.2.2.1 U.2.2.2.2.2.1 U.2.2.2.2.2.2.1 U.2.2.2.2.2.2.2.1 U.2.2.2.2.2.2.2.2) := by
  refine MI.of (own := RX10) (by decide) rfl (Nat.le_of_ble_eq_true rfl) ?_
  intro X C hini hret
  show VV X 0 0 ([wX10 E h0 a0 u0, wX5 E (a0 6) a0_6 u0_6, wX5 E (a0 7) a0_7 u0_7, wX8 E h1 a1 u1, wX2 E (a1 2) a1_2 u1_2, wX7 E (a1 3) a1_3 u1_3, wX0 E (a1 4) a1_4 u1_4, wX1 E (a1 5) a1_5 u1_5, wX6 E (a1 6) a1_6 u1_6].flatten) [(0, .ref h0), (1, .ref h1)] 0 []
  unfold qX10_lameSigns at hw
  refine v_iconst (v := 0) C dX10_lameSigns_0 (by decide) ?_
  refine v_istore_n (lv' := [(2, .int 0), (0, .ref h0), (1, .ref h1)]) C dX10_lameSigns_1 (by decide) rfl ?_
  refine v_iconst (v := 0) C dX10_lameSigns_2 (by decide) ?_
  refine v_istore_n (lv' := [(3, .int 0), (2, .int 0), (0, .ref h0), (1, .ref h1)]) C dX10_lameSigns_3 (by decide) rfl ?_
  refine v_lv C (lv' := [(0, .ref h0), (1, .ref h1), (2, .int 0), (3, .int 0)]) [2, 3, 1, 0] rfl ?_
  obtain ⟨n', hw⟩ := hw
  exact jX10_lameSigns_4 h0 h1 a0 a0_6 a0_7 a1 a1_2 a1_3 a1_4 a1_5 a1_6 Q C hret n' u0 u0_6 u0_7 u1 u1_2 u1_3 u1_4 u1_5 u1_6 0 0 hw
set_option maxHeartbeats 4000000 in
set_option maxRecDepth 100000 in
theorem jX10_dueYear_145 {X : VX} {E : VE} {l : Launch} (h0 : Nat) (h1 : Nat) (a0 : Nat → Nat) (a0_6 : Nat → Nat) (a0_7 : Nat → Nat) (a1 : Nat → Nat) (a1_2 : Nat → Nat) (a1_3 : Nat → Nat) (a1_4 : Nat → Nat) (a1_5 : Nat → Nat) (a1_6 : Nat → Nat)  (Q : Int32 → Md → Md → Md → Md → Md → Md → Md → Md → Md → Prop) (C : VC X cX10_dueYear 8 RX10 (rmL 5 0 0) E l) (hret : RetI X cX10_dueYear .int 0 0 (fun (U : Md × Md × Md × Md × Md × Md × Md × Md × Md) => [wX10 E h0 a0 U.1, wX5 E (a0 6) a0_6 U.2.1, wX5 E (a0 7) a0_7 U.2.2.1, wX8 E h1 a1 U.2.2.2.1, wX2 E (a1 2) a1_2 U.2.2.2.2.1, wX7 E (a1 3) a1_3 U.2.2.2.2.2.1, wX0 E (a1 4) a1_4 U.2.2.2.2.2.2.1, wX1 E (a1 5) a1_5 U.2.2.2.2.2.2.2.1, wX6 E (a1 6) a1_6 U.2.2.2.2.2.2.2.2].flatten) (fun (r : Int32) (U : Md × Md × Md × Md × Md × Md × Md × Md × Md) => Q r U.1 U.2.1 U.2.2.1 U.2.2.2.1 U.2.2.2.2.1 U.2.2.2.2.2.1 U.2.2.2.2.2.2.1 U.2.2.2.2.2.2.2.1 U.2.2.2.2.2.2.2.2))  : ∀ (u0 : Md) (u0_6 : Md) (u0_7 : Md) (u1 : Md) (u1_2 : Md) (u1_3 : Md) (u1_4 : Md) (u1_5 : Md) (u1_6 : Md) (y5 : Int32), qX10_dueYear_145 Q u0 u0_6 u0_7 u1 u1_2 u1_3 u1_4 u1_5 u1_6 y5 → VV X 0 0 ([wX10 E h0 a0 u0, wX5 E (a0 6) a0_6 u0_6, wX5 E (a0 7) a0_7 u0_7, wX8 E h1 a1 u1, wX2 E (a1 2) a1_2 u1_2, wX7 E (a1 3) a1_3 u1_3, wX0 E (a1 4) a1_4 u1_4, wX1 E (a1 5) a1_5 u1_5, wX6 E (a1 6) a1_6 u1_6].flatten) [(1, .ref h1), (5, .int y5)] 145 [] := by
  intro u0 u0_6 u0_7 u1 u1_2 u1_3 u1_4 u1_5 u1_6 y5 hw
  unfold qX10_dueYear_145 at hw
  refine v_iload C dX10_dueYear_145 1 rfl ?_
  refine v_aload_n C dX10_dueYear_147 0 rfl ?_
  refine v_get (ci := 8) C inT8 14 4 rfl rfl (by decide) mF_X10_97_X8_4 rfl dX10_dueYear_148 ?_
  refine v_aload_n C dX10_dueYear_151 0 rfl ?_
  refine v_get (ci := 8) C inT8 14 4 rfl rfl (by decide) mF_X10_97_X8_4 rfl dX10_dueYear_152 ?_
  refine v_aload_n C dX10_dueYear_155 0 rfl ?_
  refine v_get (ci := 8) C inT8 14 0 rfl rfl (by decide) mF_X10_125_X8_0 rfl dX10_dueYear_156 ?_
  refine v_callVMi (st := [.ref ((a1 4)), .int y5]) (ci := 0) (qb := 40) C (kX0_inForce ((a1 4)) a1_4 _ _ hw) mM_X10_101 mI_X0 mC_X0_inForce mN_X0_inForce mS_X0_inForce rfl rfl hd_X0_inForce ⟨Nat.le_of_ble_eq_true rfl, Nat.le_of_ble_eq_true rfl⟩ ⟨Nat.le_of_ble_eq_true rfl, Nat.le_of_ble_eq_true rfl⟩ [6] [0, 1, 2, 3, 4, 5, 7, 8] (N0 := 9) rfl (by decide) (ms2 := (fun (U : Md) => [wX10 E h0 a0 u0, wX5 E (a0 6) a0_6 u0_6, wX5 E (a0 7) a0_7 u0_7, wX8 E h1 a1 u1, wX2 E (a1 2) a1_2 u1_2, wX7 E (a1 3) a1_3 u1_3, wX0 E (a1 4) a1_4 U, wX1 E (a1 5) a1_5 u1_5, wX6 E (a1 6) a1_6 u1_6])) rfl (fun _ => rfl) (fun _ => rfl) (fun _ => rfl) rfl (Nat.le_of_ble_eq_true rfl) dX10_dueYear_159 (fun r159 v159_0 hw => ?_)
  refine v_iconst (v := 4) C dX10_dueYear_162 (by decide) ?_
  refine v_bipush (v := 10) C dX10_dueYear_163 (by decide) ?_
  refine v_callVMi (st := [.int y5]) (ci := 0) (qb := 40) C (kX0_numberOf ((a1 4)) a1_4 _ _ _ _ hw) mM_X10_178 mI_X0 mC_X0_numberOf mN_X0_numberOf mS_X0_numberOf rfl rfl hd_X0_numberOf ⟨Nat.le_of_ble_eq_true rfl, Nat.le_of_ble_eq_true rfl⟩ ⟨Nat.le_of_ble_eq_true rfl, Nat.le_of_ble_eq_true rfl⟩ [6] [0, 1, 2, 3, 4, 5, 7, 8] (N0 := 9) rfl (by decide) (ms2 := (fun (U : Md) => [wX10 E h0 a0 u0, wX5 E (a0 6) a0_6 u0_6, wX5 E (a0 7) a0_7 u0_7, wX8 E h1 a1 u1, wX2 E (a1 2) a1_2 u1_2, wX7 E (a1 3) a1_3 u1_3, wX0 E (a1 4) a1_4 U, wX1 E (a1 5) a1_5 u1_5, wX6 E (a1 6) a1_6 u1_6])) rfl (fun _ => rfl) (fun _ => rfl) (fun _ => rfl) rfl (Nat.le_of_ble_eq_true rfl) dX10_dueYear_165 (fun r165 v165_0 hw => ?_)
  refine v_iadd C dX10_dueYear_168 ?_
  exact hret _ _ _ _ (y5 + r165) (u0, u0_6, u0_7, u1, u1_2, u1_3, v165_0, u1_5, u1_6) dX10_dueYear_169 rfl hw (Nat.le_of_ble_eq_true rfl) (Nat.le_of_ble_eq_true rfl)
set_option maxHeartbeats 4000000 in
set_option maxRecDepth 100000 in
theorem jX10_dueYear_130 {X : VX} {E : VE} {l : Launch} (h0 : Nat) (h1 : Nat) (a0 : Nat → Nat) (a0_6 : Nat → Nat) (a0_7 : Nat → Nat) (a1 : Nat → Nat) (a1_2 : Nat → Nat) (a1_3 : Nat → Nat) (a1_4 : Nat → Nat) (a1_5 : Nat → Nat) (a1_6 : Nat → Nat)  (Q : Int32 → Md → Md → Md → Md → Md → Md → Md → Md → Md → Prop) (C : VC X cX10_dueYear 8 RX10 (rmL 5 0 0) E l) (hret : RetI X cX10_dueYear .int 0 0 (fun (U : Md × Md × Md × Md × Md × Md × Md × Md × Md) => [wX10 E h0 a0 U.1, wX5 E (a0 6) a0_6 U.2.1, wX5 E (a0 7) a0_7 U.2.2.1, wX8 E h1 a1 U.2.2.2.1, wX2 E (a1 2) a1_2 U.2.2.2.2.1, wX7 E (a1 3) a1_3 U.2.2.2.2.2.1, wX0 E (a1 4) a1_4 U.2.2.2.2.2.2.1, wX1 E (a1 5) a1_5 U.2.2.2.2.2.2.2.1, wX6 E (a1 6) a1_6 U.2.2.2.2.2.2.2.2].flatten) (fun (r : Int32) (U : Md × Md × Md × Md × Md × Md × Md × Md × Md) => Q r U.1 U.2.1 U.2.2.1 U.2.2.2.1 U.2.2.2.2.1 U.2.2.2.2.2.1 U.2.2.2.2.2.2.1 U.2.2.2.2.2.2.2.1 U.2.2.2.2.2.2.2.2)) (K52 : Md → Md → Md → Md → Md → Md → Md → Md → Md → Int32 → Int32 → Int32 → Int32 → Int32 → Prop) (hK52 : ∀ (u0 : Md) (u0_6 : Md) (u0_7 : Md) (u1 : Md) (u1_2 : Md) (u1_3 : Md) (u1_4 : Md) (u1_5 : Md) (u1_6 : Md) (y3 : Int32) (y4 : Int32) (y5 : Int32) (y6 : Int32) (y7 : Int32), K52 u0 u0_6 u0_7 u1 u1_2 u1_3 u1_4 u1_5 u1_6 y3 y4 y5 y6 y7 → VV X 0 0 ([wX10 E h0 a0 u0, wX5 E (a0 6) a0_6 u0_6, wX5 E (a0 7) a0_7 u0_7, wX8 E h1 a1 u1, wX2 E (a1 2) a1_2 u1_2, wX7 E (a1 3) a1_3 u1_3, wX0 E (a1 4) a1_4 u1_4, wX1 E (a1 5) a1_5 u1_5, wX6 E (a1 6) a1_6 u1_6].flatten) [(0, .ref h0), (1, .ref h1), (3, .int y3), (4, .int y4), (5, .int y5), (6, .int y6), (7, .int y7)] 52 []) : ∀ (u0 : Md) (u0_6 : Md) (u0_7 : Md) (u1 : Md) (u1_2 : Md) (u1_3 : Md) (u1_4 : Md) (u1_5 : Md) (u1_6 : Md) (y3 : Int32) (y4 : Int32) (y5 : Int32) (y6 : Int32) (y7 : Int32), qX10_dueYear_130 Q K52 u0 u0_6 u0_7 u1 u1_2 u1_3 u1_4 u1_5 u1_6 y3 y4 y5 y6 y7 → VV X 0 0 ([wX10 E h0 a0 u0, wX5 E (a0 6) a0_6 u0_6, wX5 E (a0 7) a0_7 u0_7, wX8 E h1 a1 u1, wX2 E (a1 2) a1_2 u1_2, wX7 E (a1 3) a1_3 u1_3, wX0 E (a1 4) a1_4 u1_4, wX1 E (a1 5) a1_5 u1_5, wX6 E (a1 6) a1_6 u1_6].flatten) [(0, .ref h0), (1, .ref h1), (3, .int y3), (4, .int y4), (5, .int y5), (6, .int y6), (7, .int y7)] 130 [] := by
  intro u0 u0_6 u0_7 u1 u1_2 u1_3 u1_4 u1_5 u1_6 y3 y4 y5 y6 y7 hw
  unfold qX10_dueYear_130 at hw
  refine v_iload C dX10_dueYear_130 5 rfl ?_
  refine v_if_eq (tgt := 139) C dX10_dueYear_132 (by decide) (fun hc => ?_) (fun hc => ?_)
  · have hw := hw.1 hc
    refine v_iinc (lv' := [(7, .int (y7 + Int32.ofInt (-1))), (0, .ref h0), (1, .ref h1), (3, .int y3), (4, .int y4), (5, .int y5), (6, .int y6)]) C dX10_dueYear_139 6 rfl (by decide) rfl ?_
    refine v_goto (tgt := 52) C dX10_dueYear_142 (by decide) ?_
    refine v_lv C (lv' := [(0, .ref h0), (1, .ref h1), (3, .int y3), (4, .int y4), (5, .int y5), (6, .int y6), (7, .int (y7 + Int32.ofInt (-1)))]) [1, 2, 3, 4, 5, 6, 0] rfl ?_
    exact hK52 u0 u0_6 u0_7 u1 u1_2 u1_3 u1_4 u1_5 u1_6 y3 y4 y5 y6 (y7 + Int32.ofInt (-1)) hw
  · have hw := hw.2 hc
    refine v_iload C dX10_dueYear_135 6 rfl ?_
    refine v_istore (lv' := [(5, .int y7), (0, .ref h0), (1, .ref h1), (3, .int y3), (4, .int y4), (6, .int y6), (7, .int y7)]) C dX10_dueYear_137 (by decide) rfl ?_
    refine v_iinc (lv' := [(7, .int (y7 + Int32.ofInt (-1))), (5, .int y7), (0, .ref h0), (1, .ref h1), (3, .int y3), (4, .int y4), (6, .int y6)]) C dX10_dueYear_139 6 rfl (by decide) rfl ?_
    refine v_goto (tgt := 52) C dX10_dueYear_142 (by decide) ?_
    refine v_lv C (lv' := [(0, .ref h0), (1, .ref h1), (3, .int y3), (4, .int y4), (5, .int y7), (6, .int y6), (7, .int (y7 + Int32.ofInt (-1)))]) [2, 3, 4, 5, 1, 6, 0] rfl ?_
    exact hK52 u0 u0_6 u0_7 u1 u1_2 u1_3 u1_4 u1_5 u1_6 y3 y4 y7 y6 (y7 + Int32.ofInt (-1)) hw
set_option maxHeartbeats 4000000 in
set_option maxRecDepth 100000 in
theorem jX10_dueYear_128 {X : VX} {E : VE} {l : Launch} (h0 : Nat) (h1 : Nat) (a0 : Nat → Nat) (a0_6 : Nat → Nat) (a0_7 : Nat → Nat) (a1 : Nat → Nat) (a1_2 : Nat → Nat) (a1_3 : Nat → Nat) (a1_4 : Nat → Nat) (a1_5 : Nat → Nat) (a1_6 : Nat → Nat)  (Q : Int32 → Md → Md → Md → Md → Md → Md → Md → Md → Md → Prop) (C : VC X cX10_dueYear 8 RX10 (rmL 5 0 0) E l) (hret : RetI X cX10_dueYear .int 0 0 (fun (U : Md × Md × Md × Md × Md × Md × Md × Md × Md) => [wX10 E h0 a0 U.1, wX5 E (a0 6) a0_6 U.2.1, wX5 E (a0 7) a0_7 U.2.2.1, wX8 E h1 a1 U.2.2.2.1, wX2 E (a1 2) a1_2 U.2.2.2.2.1, wX7 E (a1 3) a1_3 U.2.2.2.2.2.1, wX0 E (a1 4) a1_4 U.2.2.2.2.2.2.1, wX1 E (a1 5) a1_5 U.2.2.2.2.2.2.2.1, wX6 E (a1 6) a1_6 U.2.2.2.2.2.2.2.2].flatten) (fun (r : Int32) (U : Md × Md × Md × Md × Md × Md × Md × Md × Md) => Q r U.1 U.2.1 U.2.2.1 U.2.2.2.1 U.2.2.2.2.1 U.2.2.2.2.2.1 U.2.2.2.2.2.2.1 U.2.2.2.2.2.2.2.1 U.2.2.2.2.2.2.2.2)) (K52 : Md → Md → Md → Md → Md → Md → Md → Md → Md → Int32 → Int32 → Int32 → Int32 → Int32 → Prop) (hK52 : ∀ (u0 : Md) (u0_6 : Md) (u0_7 : Md) (u1 : Md) (u1_2 : Md) (u1_3 : Md) (u1_4 : Md) (u1_5 : Md) (u1_6 : Md) (y3 : Int32) (y4 : Int32) (y5 : Int32) (y6 : Int32) (y7 : Int32), K52 u0 u0_6 u0_7 u1 u1_2 u1_3 u1_4 u1_5 u1_6 y3 y4 y5 y6 y7 → VV X 0 0 ([wX10 E h0 a0 u0, wX5 E (a0 6) a0_6 u0_6, wX5 E (a0 7) a0_7 u0_7, wX8 E h1 a1 u1, wX2 E (a1 2) a1_2 u1_2, wX7 E (a1 3) a1_3 u1_3, wX0 E (a1 4) a1_4 u1_4, wX1 E (a1 5) a1_5 u1_5, wX6 E (a1 6) a1_6 u1_6].flatten) [(0, .ref h0), (1, .ref h1), (3, .int y3), (4, .int y4), (5, .int y5), (6, .int y6), (7, .int y7)] 52 []) : ∀ (u0 : Md) (u0_6 : Md) (u0_7 : Md) (u1 : Md) (u1_2 : Md) (u1_3 : Md) (u1_4 : Md) (u1_5 : Md) (u1_6 : Md) (y3 : Int32) (y4 : Int32) (y5 : Int32) (y7 : Int32) (z0 : Int32), qX10_dueYear_128 Q K52 u0 u0_6 u0_7 u1 u1_2 u1_3 u1_4 u1_5 u1_6 y3 y4 y5 y7 z0 → VV X 0 0 ([wX10 E h0 a0 u0, wX5 E (a0 6) a0_6 u0_6, wX5 E (a0 7) a0_7 u0_7, wX8 E h1 a1 u1, wX2 E (a1 2) a1_2 u1_2, wX7 E (a1 3) a1_3 u1_3, wX0 E (a1 4) a1_4 u1_4, wX1 E (a1 5) a1_5 u1_5, wX6 E (a1 6) a1_6 u1_6].flatten) [(0, .ref h0), (1, .ref h1), (3, .int y3), (4, .int y4), (5, .int y5), (7, .int y7)] 128 [.int z0] := by
  intro u0 u0_6 u0_7 u1 u1_2 u1_3 u1_4 u1_5 u1_6 y3 y4 y5 y7 z0 hw
  unfold qX10_dueYear_128 at hw
  refine v_istore (lv' := [(6, .int z0), (0, .ref h0), (1, .ref h1), (3, .int y3), (4, .int y4), (5, .int y5), (7, .int y7)]) C dX10_dueYear_128 (by decide) rfl ?_
  refine v_lv C (lv' := [(0, .ref h0), (1, .ref h1), (3, .int y3), (4, .int y4), (5, .int y5), (6, .int z0), (7, .int y7)]) [1, 2, 3, 4, 5, 0, 6] rfl ?_
  exact jX10_dueYear_130 h0 h1 a0 a0_6 a0_7 a1 a1_2 a1_3 a1_4 a1_5 a1_6 Q C hret K52 hK52 u0 u0_6 u0_7 u1 u1_2 u1_3 u1_4 u1_5 u1_6 y3 y4 y5 z0 y7 hw
set_option maxHeartbeats 4000000 in
set_option maxRecDepth 100000 in
theorem jX10_dueYear_95 {X : VX} {E : VE} {l : Launch} (h0 : Nat) (h1 : Nat) (a0 : Nat → Nat) (a0_6 : Nat → Nat) (a0_7 : Nat → Nat) (a1 : Nat → Nat) (a1_2 : Nat → Nat) (a1_3 : Nat → Nat) (a1_4 : Nat → Nat) (a1_5 : Nat → Nat) (a1_6 : Nat → Nat)  (Q : Int32 → Md → Md → Md → Md → Md → Md → Md → Md → Md → Prop) (C : VC X cX10_dueYear 8 RX10 (rmL 5 0 0) E l) (hret : RetI X cX10_dueYear .int 0 0 (fun (U : Md × Md × Md × Md × Md × Md × Md × Md × Md) => [wX10 E h0 a0 U.1, wX5 E (a0 6) a0_6 U.2.1, wX5 E (a0 7) a0_7 U.2.2.1, wX8 E h1 a1 U.2.2.2.1, wX2 E (a1 2) a1_2 U.2.2.2.2.1, wX7 E (a1 3) a1_3 U.2.2.2.2.2.1, wX0 E (a1 4) a1_4 U.2.2.2.2.2.2.1, wX1 E (a1 5) a1_5 U.2.2.2.2.2.2.2.1, wX6 E (a1 6) a1_6 U.2.2.2.2.2.2.2.2].flatten) (fun (r : Int32) (U : Md × Md × Md × Md × Md × Md × Md × Md × Md) => Q r U.1 U.2.1 U.2.2.1 U.2.2.2.1 U.2.2.2.2.1 U.2.2.2.2.2.1 U.2.2.2.2.2.2.1 U.2.2.2.2.2.2.2.1 U.2.2.2.2.2.2.2.2)) (K52 : Md → Md → Md → Md → Md → Md → Md → Md → Md → Int32 → Int32 → Int32 → Int32 → Int32 → Prop) (hK52 : ∀ (u0 : Md) (u0_6 : Md) (u0_7 : Md) (u1 : Md) (u1_2 : Md) (u1_3 : Md) (u1_4 : Md) (u1_5 : Md) (u1_6 : Md) (y3 : Int32) (y4 : Int32) (y5 : Int32) (y6 : Int32) (y7 : Int32), K52 u0 u0_6 u0_7 u1 u1_2 u1_3 u1_4 u1_5 u1_6 y3 y4 y5 y6 y7 → VV X 0 0 ([wX10 E h0 a0 u0, wX5 E (a0 6) a0_6 u0_6, wX5 E (a0 7) a0_7 u0_7, wX8 E h1 a1 u1, wX2 E (a1 2) a1_2 u1_2, wX7 E (a1 3) a1_3 u1_3, wX0 E (a1 4) a1_4 u1_4, wX1 E (a1 5) a1_5 u1_5, wX6 E (a1 6) a1_6 u1_6].flatten) [(0, .ref h0), (1, .ref h1), (3, .int y3), (4, .int y4), (5, .int y5), (6, .int y6), (7, .int y7)] 52 []) : ∀ (u0 : Md) (u0_6 : Md) (u0_7 : Md) (u1 : Md) (u1_2 : Md) (u1_3 : Md) (u1_4 : Md) (u1_5 : Md) (u1_6 : Md) (y3 : Int32) (y4 : Int32) (y5 : Int32) (y7 : Int32), qX10_dueYear_95 Q K52 u0 u0_6 u0_7 u1 u1_2 u1_3 u1_4 u1_5 u1_6 y3 y4 y5 y7 → VV X 0 0 ([wX10 E h0 a0 u0, wX5 E (a0 6) a0_6 u0_6, wX5 E (a0 7) a0_7 u0_7, wX8 E h1 a1 u1, wX2 E (a1 2) a1_2 u1_2, wX7 E (a1 3) a1_3 u1_3, wX0 E (a1 4) a1_4 u1_4, wX1 E (a1 5) a1_5 u1_5, wX6 E (a1 6) a1_6 u1_6].flatten) [(0, .ref h0), (1, .ref h1), (3, .int y3), (4, .int y4), (5, .int y5), (7, .int y7)] 95 [] := by
  intro u0 u0_6 u0_7 u1 u1_2 u1_3 u1_4 u1_5 u1_6 y3 y4 y5 y7 hw
  unfold qX10_dueYear_95 at hw
  refine v_aload_n C dX10_dueYear_95 0 rfl ?_
  refine v_aload_n C dX10_dueYear_96 1 rfl ?_
  refine v_iload_n C dX10_dueYear_97 2 rfl ?_
  refine v_iload C dX10_dueYear_98 5 rfl ?_
  refine v_iload C dX10_dueYear_100 5 rfl ?_
  refine v_aload_n C dX10_dueYear_102 0 rfl ?_
  refine v_get (ci := 10) C inT10 0 7 rfl rfl (by decide) mF_X10_33_X10_7 rfl dX10_dueYear_103 ?_
  refine v_callVMv (st := []) (ci := 10) (qb := 0) C (kX10_show h0 h1 ((a0 7)) a0 a1 a1_2 a1_3 a1_4 a1_5 a0_7 _ _ _ _ _ _ _ _ _ _ hw) mM_X10_229 mI_X10 mC_X10_show mN_X10_show mS_X10_show rfl rfl hd_X10_show ⟨Nat.le_of_ble_eq_true rfl, Nat.le_of_ble_eq_true rfl⟩ ⟨Nat.le_of_ble_eq_true rfl, Nat.le_of_ble_eq_true rfl⟩ [0, 3, 4, 5, 6, 7, 2] [1, 8] (N0 := 9) rfl (by decide) (ms2 := (fun (U : Md × Md × Md × Md × Md × Md × Md) => [wX10 E h0 a0 U.1, wX5 E (a0 6) a0_6 u0_6, wX5 E (a0 7) a0_7 U.2.2.2.2.2.2, wX8 E h1 a1 U.2.1, wX2 E (a1 2) a1_2 U.2.2.1, wX7 E (a1 3) a1_3 U.2.2.2.1, wX0 E (a1 4) a1_4 U.2.2.2.2.1, wX1 E (a1 5) a1_5 U.2.2.2.2.2.1, wX6 E (a1 6) a1_6 u1_6])) rfl (fun _ => rfl) (fun _ => rfl) (fun _ => rfl) rfl (Nat.le_of_ble_eq_true rfl) dX10_dueYear_106 (fun U106 hw => ?_)
  obtain ⟨v106_0, v106_1, v106_2, v106_3, v106_4, v106_5, v106_6⟩ := U106
  refine v_aload_n C dX10_dueYear_109 0 rfl ?_
  refine v_get (ci := 10) C inT10 0 6 rfl rfl (by decide) mF_X10_29_X10_6 rfl dX10_dueYear_110 ?_
  refine v_aload_n C dX10_dueYear_113 0 rfl ?_
  refine v_get (ci := 10) C inT10 0 7 rfl rfl (by decide) mF_X10_33_X10_7 rfl dX10_dueYear_114 ?_
  refine v_callVMi (st := []) (ci := 5) (qb := 8) C (kX5_readsAs ((a0 6)) ((a0 7)) a0_6 a0_7 _ _ hw) mM_X10_233 mI_X5 mC_X5_readsAs mN_X5_readsAs mS_X5_readsAs rfl rfl hd_X5_readsAs ⟨Nat.le_of_ble_eq_true rfl, Nat.le_of_ble_eq_true rfl⟩ ⟨Nat.le_of_ble_eq_true rfl, Nat.le_of_ble_eq_true rfl⟩ [1, 2] [0, 3, 4, 5, 6, 7, 8] (N0 := 9) rfl (by decide) (ms2 := (fun (U : Md × Md) => [wX10 E h0 a0 v106_0, wX5 E (a0 6) a0_6 U.1, wX5 E (a0 7) a0_7 U.2, wX8 E h1 a1 v106_1, wX2 E (a1 2) a1_2 v106_2, wX7 E (a1 3) a1_3 v106_3, wX0 E (a1 4) a1_4 v106_4, wX1 E (a1 5) a1_5 v106_5, wX6 E (a1 6) a1_6 u1_6])) rfl (fun _ => rfl) (fun _ => rfl) (fun _ => rfl) rfl (Nat.le_of_ble_eq_true rfl) dX10_dueYear_117 (fun r117 U117 hw => ?_)
  obtain ⟨v117_0, v117_1⟩ := U117
  obtain ⟨h01_117, hw⟩ := hw
  have hw := hw h01_117
  refine v_if_ne (tgt := 127) C dX10_dueYear_120 (by decide) (fun hc => ?_) (fun hc => ?_)
  · have hw := hw.1 hc
    refine v_iconst (v := 0) C dX10_dueYear_127 (by decide) ?_
    exact jX10_dueYear_128 h0 h1 a0 a0_6 a0_7 a1 a1_2 a1_3 a1_4 a1_5 a1_6 Q C hret K52 hK52 v106_0 v117_0 v117_1 v106_1 v106_2 v106_3 v106_4 v106_5 u1_6 y3 y4 y5 y7 0 hw
  · have hw := hw.2 hc
    refine v_iconst (v := 1) C dX10_dueYear_123 (by decide) ?_
    refine v_goto (tgt := 128) C dX10_dueYear_124 (by decide) ?_
    exact jX10_dueYear_128 h0 h1 a0 a0_6 a0_7 a1 a1_2 a1_3 a1_4 a1_5 a1_6 Q C hret K52 hK52 v106_0 v117_0 v117_1 v106_1 v106_2 v106_3 v106_4 v106_5 u1_6 y3 y4 y5 y7 1 hw
set_option maxHeartbeats 4000000 in
set_option maxRecDepth 100000 in
theorem jX10_dueYear_52 {X : VX} {E : VE} {l : Launch} (h0 : Nat) (h1 : Nat) (a0 : Nat → Nat) (a0_6 : Nat → Nat) (a0_7 : Nat → Nat) (a1 : Nat → Nat) (a1_2 : Nat → Nat) (a1_3 : Nat → Nat) (a1_4 : Nat → Nat) (a1_5 : Nat → Nat) (a1_6 : Nat → Nat)  (Q : Int32 → Md → Md → Md → Md → Md → Md → Md → Md → Md → Prop) (C : VC X cX10_dueYear 8 RX10 (rmL 5 0 0) E l) (hret : RetI X cX10_dueYear .int 0 0 (fun (U : Md × Md × Md × Md × Md × Md × Md × Md × Md) => [wX10 E h0 a0 U.1, wX5 E (a0 6) a0_6 U.2.1, wX5 E (a0 7) a0_7 U.2.2.1, wX8 E h1 a1 U.2.2.2.1, wX2 E (a1 2) a1_2 U.2.2.2.2.1, wX7 E (a1 3) a1_3 U.2.2.2.2.2.1, wX0 E (a1 4) a1_4 U.2.2.2.2.2.2.1, wX1 E (a1 5) a1_5 U.2.2.2.2.2.2.2.1, wX6 E (a1 6) a1_6 U.2.2.2.2.2.2.2.2].flatten) (fun (r : Int32) (U : Md × Md × Md × Md × Md × Md × Md × Md × Md) => Q r U.1 U.2.1 U.2.2.1 U.2.2.2.1 U.2.2.2.2.1 U.2.2.2.2.2.1 U.2.2.2.2.2.2.1 U.2.2.2.2.2.2.2.1 U.2.2.2.2.2.2.2.2))  : ∀ (n : Nat), ∀ (u0 : Md) (u0_6 : Md) (u0_7 : Md) (u1 : Md) (u1_2 : Md) (u1_3 : Md) (u1_4 : Md) (u1_5 : Md) (u1_6 : Md) (y3 : Int32) (y4 : Int32) (y5 : Int32) (y6 : Int32) (y7 : Int32), qX10_dueYear_52 Q n u0 u0_6 u0_7 u1 u1_2 u1_3 u1_4 u1_5 u1_6 y3 y4 y5 y6 y7 → VV X 0 0 ([wX10 E h0 a0 u0, wX5 E (a0 6) a0_6 u0_6, wX5 E (a0 7) a0_7 u0_7, wX8 E h1 a1 u1, wX2 E (a1 2) a1_2 u1_2, wX7 E (a1 3) a1_3 u1_3, wX0 E (a1 4) a1_4 u1_4, wX1 E (a1 5) a1_5 u1_5, wX6 E (a1 6) a1_6 u1_6].flatten) [(0, .ref h0), (1, .ref h1), (3, .int y3), (4, .int y4), (5, .int y5), (6, .int y6), (7, .int y7)] 52 [] := by
  intro n
  induction n with
  | zero =>
    intro u0 u0_6 u0_7 u1 u1_2 u1_3 u1_4 u1_5 u1_6 y3 y4 y5 y6 y7 hw
    exact hw.elim
  | succ n ih =>
    intro u0 u0_6 u0_7 u1 u1_2 u1_3 u1_4 u1_5 u1_6 y3 y4 y5 y6 y7 hw
    unfold qX10_dueYear_52 at hw
    refine v_iload C dX10_dueYear_52 6 rfl ?_
    refine v_iload C dX10_dueYear_54 3 rfl ?_
    refine v_icmp_lt (tgt := 145) C dX10_dueYear_56 (by decide) (fun hc => ?_) (fun hc => ?_)
    · have hw := hw.1 hc
      refine v_lv C (lv' := [(1, .ref h1), (5, .int y5)]) [1, 4] rfl ?_
      exact jX10_dueYear_145 h0 h1 a0 a0_6 a0_7 a1 a1_2 a1_3 a1_4 a1_5 a1_6 Q C hret u0 u0_6 u0_7 u1 u1_2 u1_3 u1_4 u1_5 u1_6 y5 hw
    · have hw := hw.2 hc
      refine v_iload C dX10_dueYear_59 5 rfl ?_
      refine v_if_eq (tgt := 145) C dX10_dueYear_61 (by decide) (fun hc => ?_) (fun hc => ?_)
      · have hw := hw.1 hc
        refine v_lv C (lv' := [(1, .ref h1), (5, .int y5)]) [1, 4] rfl ?_
        exact jX10_dueYear_145 h0 h1 a0 a0_6 a0_7 a1 a1_2 a1_3 a1_4 a1_5 a1_6 Q C hret u0 u0_6 u0_7 u1 u1_2 u1_3 u1_4 u1_5 u1_6 y5 hw
      · have hw := hw.2 hc
        refine v_aload_n C dX10_dueYear_64 1 rfl ?_
        refine v_get (ci := 8) C inT8 14 1 rfl rfl (by decide) mF_X10_242_X8_1 rfl dX10_dueYear_65 ?_
        refine v_iload C dX10_dueYear_68 6 rfl ?_
        refine v_iconst (v := 1) C dX10_dueYear_70 (by decide) ?_
        refine v_iadd C dX10_dueYear_71 ?_
        obtain ⟨hi72, hw⟩ := hw
        refine v_zald C 15 rfl hi72 dX10_dueYear_72 ?_
        refine v_if_ne (tgt := 95) C dX10_dueYear_73 (by decide) (fun hc => ?_) (fun hc => ?_)
        · have hw := hw.1 hc
          refine v_lv C (lv' := [(0, .ref h0), (1, .ref h1), (3, .int y3), (4, .int y4), (5, .int y5), (7, .int y7)]) [0, 1, 2, 3, 4, 6] rfl ?_
          exact jX10_dueYear_95 h0 h1 a0 a0_6 a0_7 a1 a1_2 a1_3 a1_4 a1_5 a1_6 Q C hret (qX10_dueYear_52 Q n) ih u0 u0_6 u0_7 u1 u1_2 u1_3 u1_4 u1_5 u1_6 y3 y4 y5 y7 hw
        · have hw := hw.2 hc
          refine v_aload_n C dX10_dueYear_76 1 rfl ?_
          refine v_get (ci := 8) C inT8 14 4 rfl rfl (by decide) mF_X10_97_X8_4 rfl dX10_dueYear_77 ?_
          refine v_aload_n C dX10_dueYear_80 1 rfl ?_
          refine v_get (ci := 8) C inT8 14 4 rfl rfl (by decide) mF_X10_97_X8_4 rfl dX10_dueYear_81 ?_
          refine v_iload C dX10_dueYear_84 6 rfl ?_
          refine v_callVMi (st := [.ref ((a1 4))]) (ci := 0) (qb := 40) C (kX0_inForce ((a1 4)) a1_4 _ _ hw) mM_X10_101 mI_X0 mC_X0_inForce mN_X0_inForce mS_X0_inForce rfl rfl hd_X0_inForce ⟨Nat.le_of_ble_eq_true rfl, Nat.le_of_ble_eq_true rfl⟩ ⟨Nat.le_of_ble_eq_true rfl, Nat.le_of_ble_eq_true rfl⟩ [6] [0, 1, 2, 3, 4, 5, 7, 8] (N0 := 9) rfl (by decide) (ms2 := (fun (U : Md) => [wX10 E h0 a0 u0, wX5 E (a0 6) a0_6 u0_6, wX5 E (a0 7) a0_7 u0_7, wX8 E h1 a1 u1, wX2 E (a1 2) a1_2 u1_2, wX7 E (a1 3) a1_3 u1_3, wX0 E (a1 4) a1_4 U, wX1 E (a1 5) a1_5 u1_5, wX6 E (a1 6) a1_6 u1_6])) rfl (fun _ => rfl) (fun _ => rfl) (fun _ => rfl) rfl (Nat.le_of_ble_eq_true rfl) dX10_dueYear_86 (fun r86 v86_0 hw => ?_)
          refine v_callVMi (st := []) (ci := 0) (qb := 40) C (kX0_dependsOnYear ((a1 4)) a1_4 _ _ hw) mM_X10_246 mI_X0 mC_X0_dependsOnYear mN_X0_dependsOnYear mS_X0_dependsOnYear rfl rfl hd_X0_dependsOnYear ⟨Nat.le_of_ble_eq_true rfl, Nat.le_of_ble_eq_true rfl⟩ ⟨Nat.le_of_ble_eq_true rfl, Nat.le_of_ble_eq_true rfl⟩ [6] [0, 1, 2, 3, 4, 5, 7, 8] (N0 := 9) rfl (by decide) (ms2 := (fun (U : Md) => [wX10 E h0 a0 u0, wX5 E (a0 6) a0_6 u0_6, wX5 E (a0 7) a0_7 u0_7, wX8 E h1 a1 u1, wX2 E (a1 2) a1_2 u1_2, wX7 E (a1 3) a1_3 u1_3, wX0 E (a1 4) a1_4 U, wX1 E (a1 5) a1_5 u1_5, wX6 E (a1 6) a1_6 u1_6])) rfl (fun _ => rfl) (fun _ => rfl) (fun _ => rfl) rfl (Nat.le_of_ble_eq_true rfl) dX10_dueYear_89 (fun r89 v89_0 hw => ?_)
          obtain ⟨h01_89, hw⟩ := hw
          have hw := hw h01_89
          refine v_if_eq (tgt := 130) C dX10_dueYear_92 (by decide) (fun hc => ?_) (fun hc => ?_)
          · have hw := hw.1 hc
            exact jX10_dueYear_130 h0 h1 a0 a0_6 a0_7 a1 a1_2 a1_3 a1_4 a1_5 a1_6 Q C hret (qX10_dueYear_52 Q n) ih u0 u0_6 u0_7 u1 u1_2 u1_3 v89_0 u1_5 u1_6 y3 y4 y5 y6 y7 hw
          · have hw := hw.2 hc
            refine v_lv C (lv' := [(0, .ref h0), (1, .ref h1), (3, .int y3), (4, .int y4), (5, .int y5), (7, .int y7)]) [0, 1, 2, 3, 4, 6] rfl ?_
            exact jX10_dueYear_95 h0 h1 a0 a0_6 a0_7 a1 a1_2 a1_3 a1_4 a1_5 a1_6 Q C hret (qX10_dueYear_52 Q n) ih u0 u0_6 u0_7 u1 u1_2 u1_3 v89_0 u1_5 u1_6 y3 y4 y5 y7 hw
set_option maxHeartbeats 4000000 in
set_option maxRecDepth 100000 in
theorem kX10_dueYear {l : Launch} {E : VE} (h0 : Nat) (h1 : Nat) (a0 : Nat → Nat) (a0_6 : Nat → Nat) (a0_7 : Nat → Nat) (a1 : Nat → Nat) (a1_2 : Nat → Nat) (a1_3 : Nat → Nat) (a1_4 : Nat → Nat) (a1_5 : Nat → Nat) (a1_6 : Nat → Nat) (u0 : Md) (u0_6 : Md) (u0_7 : Md) (u1 : Md) (u1_2 : Md) (u1_3 : Md) (u1_4 : Md) (u1_5 : Md) (u1_6 : Md) (x2 : Int32) {Q : Int32 → Md → Md → Md → Md → Md → Md → Md → Md → Md → Prop} (hw : qX10_dueYear u0 u0_6 u0_7 u1 u1_2 u1_3 u1_4 u1_5 u1_6 x2 Q) : MI l yX10_dueYear cX10_dueYear 8 .int 5 0 0 E [.ref h0, .ref h1, .int x2] ([wX10 E h0 a0 u0, wX5 E (a0 6) a0_6 u0_6, wX5 E (a0 7) a0_7 u0_7, wX8 E h1 a1 u1, wX2 E (a1 2) a1_2 u1_2, wX7 E (a1 3) a1_3 u1_3, wX0 E (a1 4) a1_4 u1_4, wX1 E (a1 5) a1_5 u1_5, wX6 E (a1 6) a1_6 u1_6].flatten) (fun (U : Md × Md × Md × Md × Md × Md × Md × Md × Md) => [wX10 E h0 a0 U.1, wX5 E (a0 6) a0_6 U.2.1, wX5 E (a0 7) a0_7 U.2.2.1, wX8 E h1 a1 U.2.2.2.1, wX2 E (a1 2) a1_2 U.2.2.2.2.1, wX7 E (a1 3) a1_3 U.2.2.2.2.2.1, wX0 E (a1 4) a1_4 U.2.2.2.2.2.2.1, wX1 E (a1 5) a1_5 U.2.2.2.2.2.2.2.1, wX6 E (a1 6) a1_6 U.2.2.2.2.2.2.2.2].flatten) (fun (r : Int32) (U : Md × Md × Md × Md × Md × Md × Md × Md × Md) => Q r U.1 U.2.1 U.2.2.1 U.2.2.2.1 U.2.2.2.2.1 U.2.2.2.2.2.1 U.2.2.2.2.2.2.1 U.2.2.2.2.2.2.2.1 U.2.2.2.2.2.2.2.2) := by
  refine MI.of (own := RX10) (by decide) rfl (Nat.le_of_ble_eq_true rfl) ?_
  intro X C hini hret
  show VV X 0 0 ([wX10 E h0 a0 u0, wX5 E (a0 6) a0_6 u0_6, wX5 E (a0 7) a0_7 u0_7, wX8 E h1 a1 u1, wX2 E (a1 2) a1_2 u1_2, wX7 E (a1 3) a1_3 u1_3, wX0 E (a1 4) a1_4 u1_4, wX1 E (a1 5) a1_5 u1_5, wX6 E (a1 6) a1_6 u1_6].flatten) [(0, .ref h0), (1, .ref h1), (2, .int x2)] 0 []
  unfold qX10_dueYear at hw
  refine v_aload_n C dX10_dueYear_0 1 rfl ?_
  refine v_get (ci := 8) C inT8 14 6 rfl rfl (by decide) mF_X10_219_X8_6 rfl dX10_dueYear_1 ?_
  refine v_get (ci := 6) C inT6 63 1 rfl rfl (by decide) mF_X10_223_X6_1 rfl dX10_dueYear_4 ?_
  refine v_iload_n C dX10_dueYear_7 2 rfl ?_
  obtain ⟨hi8, hw⟩ := hw
  refine v_iald C 64 rfl hi8 dX10_dueYear_8 ?_
  refine v_istore_n (lv' := [(3, .int (gA u1_6 1 x2.toNatClampNeg)), (0, .ref h0), (1, .ref h1), (2, .int x2)]) C dX10_dueYear_9 (by decide) rfl ?_
  refine v_aload_n C dX10_dueYear_10 2 rfl ?_
  refine v_get (ci := 8) C inT8 14 6 rfl rfl (by decide) mF_X10_219_X8_6 rfl dX10_dueYear_11 ?_
  refine v_get (ci := 6) C inT6 63 3 rfl rfl (by decide) mF_X10_226_X6_3 rfl dX10_dueYear_14 ?_
  refine v_iload_n C dX10_dueYear_17 3 rfl ?_
  obtain ⟨hi18, hw⟩ := hw
  refine v_iald C 66 rfl hi18 dX10_dueYear_18 ?_
  refine v_istore (lv' := [(4, .int (gA u1_6 3 x2.toNatClampNeg)), (3, .int (gA u1_6 1 x2.toNatClampNeg)), (0, .ref h0), (1, .ref h1), (2, .int x2)]) C dX10_dueYear_19 (by decide) rfl ?_
  refine v_aload_n C dX10_dueYear_21 2 rfl ?_
  refine v_aload_n C dX10_dueYear_22 3 rfl ?_
  refine v_iload_n C dX10_dueYear_23 1 rfl ?_
  refine v_iload C dX10_dueYear_24 0 rfl ?_
  refine v_iload C dX10_dueYear_26 0 rfl ?_
  refine v_aload_n C dX10_dueYear_28 2 rfl ?_
  refine v_get (ci := 10) C inT10 0 6 rfl rfl (by decide) mF_X10_29_X10_6 rfl dX10_dueYear_29 ?_
  refine v_callVMv (st := []) (ci := 10) (qb := 0) C (kX10_show h0 h1 ((a0 6)) a0 a1 a1_2 a1_3 a1_4 a1_5 a0_6 _ _ _ _ _ _ _ _ _ _ hw) mM_X10_229 mI_X10 mC_X10_show mN_X10_show mS_X10_show rfl rfl hd_X10_show ⟨Nat.le_of_ble_eq_true rfl, Nat.le_of_ble_eq_true rfl⟩ ⟨Nat.le_of_ble_eq_true rfl, Nat.le_of_ble_eq_true rfl⟩ [0, 3, 4, 5, 6, 7, 1] [2, 8] (N0 := 9) rfl (by decide) (ms2 := (fun (U : Md × Md × Md × Md × Md × Md × Md) => [wX10 E h0 a0 U.1, wX5 E (a0 6) a0_6 U.2.2.2.2.2.2, wX5 E (a0 7) a0_7 u0_7, wX8 E h1 a1 U.2.1, wX2 E (a1 2) a1_2 U.2.2.1, wX7 E (a1 3) a1_3 U.2.2.2.1, wX0 E (a1 4) a1_4 U.2.2.2.2.1, wX1 E (a1 5) a1_5 U.2.2.2.2.2.1, wX6 E (a1 6) a1_6 u1_6])) rfl (fun _ => rfl) (fun _ => rfl) (fun _ => rfl) rfl (Nat.le_of_ble_eq_true rfl) dX10_dueYear_32 (fun U32 hw => ?_)
  obtain ⟨v32_0, v32_1, v32_2, v32_3, v32_4, v32_5, v32_6⟩ := U32
  refine v_aload_n C dX10_dueYear_35 3 rfl ?_
  refine v_get (ci := 8) C inT8 14 0 rfl rfl (by decide) mF_X10_125_X8_0 rfl dX10_dueYear_36 ?_
  refine v_istore (lv' := [(5, .int (gF v32_1 0)), (4, .int (gA u1_6 3 x2.toNatClampNeg)), (3, .int (gA u1_6 1 x2.toNatClampNeg)), (0, .ref h0), (1, .ref h1), (2, .int x2)]) C dX10_dueYear_39 (by decide) rfl ?_
  refine v_iconst (v := 1) C dX10_dueYear_41 (by decide) ?_
  refine v_istore (lv' := [(6, .int 1), (5, .int (gF v32_1 0)), (4, .int (gA u1_6 3 x2.toNatClampNeg)), (3, .int (gA u1_6 1 x2.toNatClampNeg)), (0, .ref h0), (1, .ref h1), (2, .int x2)]) C dX10_dueYear_42 (by decide) rfl ?_
  refine v_aload_n C dX10_dueYear_44 5 rfl ?_
  refine v_get (ci := 8) C inT8 14 0 rfl rfl (by decide) mF_X10_125_X8_0 rfl dX10_dueYear_45 ?_
  refine v_iconst (v := 1) C dX10_dueYear_48 (by decide) ?_
  refine v_isub C dX10_dueYear_49 ?_
  refine v_istore (lv' := [(7, .int ((gF v32_1 0) - 1)), (6, .int 1), (5, .int (gF v32_1 0)), (4, .int (gA u1_6 3 x2.toNatClampNeg)), (3, .int (gA u1_6 1 x2.toNatClampNeg)), (0, .ref h0), (1, .ref h1), (2, .int x2)]) C dX10_dueYear_50 (by decide) rfl ?_
  refine v_lv C (lv' := [(0, .ref h0), (1, .ref h1), (3, .int (gA u1_6 1 x2.toNatClampNeg)), (4, .int (gA u1_6 3 x2.toNatClampNeg)), (5, .int (gF v32_1 0)), (6, .int 1), (7, .int ((gF v32_1 0) - 1))]) [5, 6, 4, 3, 2, 1, 0] rfl ?_
  obtain ⟨n', hw⟩ := hw
  exact jX10_dueYear_52 h0 h1 a0 a0_6 a0_7 a1 a1_2 a1_3 a1_4 a1_5 a1_6 Q C hret n' v32_0 v32_6 u0_7 v32_1 v32_2 v32_3 v32_4 v32_5 u1_6 (gA u1_6 1 x2.toNatClampNeg) (gA u1_6 3 x2.toNatClampNeg) (gF v32_1 0) 1 ((gF v32_1 0) - 1) hw
set_option maxHeartbeats 4000000 in
set_option maxRecDepth 100000 in
theorem kX11_feed {l : Launch} {E : VE} (h0 : Nat) (a0 : Nat → Nat) (a0_2 : Nat → Nat) (u0 : Md) (u0_2 : Md) (x1 : Int32) (x2 : Int32) (x3 : Int32) (x4 : Int32) (x5 : Int32) {Q : Int32 → Md → Md → Prop} (hw : qX11_feed u0 u0_2 x1 x2 x3 x4 x5 Q) : MI l yX11_feed cX11_feed 6 .int 1 0 0 E [.ref h0, .int x1, .int x2, .int x3, .int x4, .int x5] ([wX11 E h0 a0 u0, wX9 E (a0 2) a0_2 u0_2].flatten) (fun (U : Md × Md) => [wX11 E h0 a0 U.1, wX9 E (a0 2) a0_2 U.2].flatten) (fun (r : Int32) (U : Md × Md) => Q r U.1 U.2) := by
  refine MI.of (own := RX11) (by decide) rfl (Nat.le_of_ble_eq_true rfl) ?_
  intro X C hini hret
  show VV X 0 0 ([wX11 E h0 a0 u0, wX9 E (a0 2) a0_2 u0_2].flatten) [(0, .ref h0), (1, .int x1), (2, .int x2), (3, .int x3), (4, .int x4), (5, .int x5)] 0 []
  unfold qX11_feed at hw
  refine v_aload_n C dX11_feed_0 0 rfl ?_
  refine v_get (ci := 11) C inT11 0 2 rfl rfl (by decide) mF_X11_23_X11_2 rfl dX11_feed_1 ?_
  refine v_get (ci := 9) C inT9 5 1 rfl rfl (by decide) mF_X11_72_X9_1 rfl dX11_feed_4 ?_
  refine v_bipush (v := 20) C dX11_feed_7 (by decide) ?_
  refine v_iadd C dX11_feed_9 ?_
  refine v_sipush (v := 500) C dX11_feed_10 (by decide) ?_
  refine v_icmp_le (tgt := 18) C dX11_feed_13 (by decide) (fun hc => ?_) (fun hc => ?_)
  · have hw := hw.1 hc
    refine v_aload_n C dX11_feed_18 0 rfl ?_
    refine v_get (ci := 11) C inT11 0 2 rfl rfl (by decide) mF_X11_23_X11_2 rfl dX11_feed_19 ?_
    refine v_iload_n C dX11_feed_22 1 rfl ?_
    refine v_callVMv (st := []) (ci := 9) (qb := 5) C (kX9_push ((a0 2)) a0_2 _ _ hw) mM_X11_76 mI_X9 mC_X9_push mN_X9_push mS_X9_push rfl rfl hd_X9_push ⟨Nat.le_of_ble_eq_true rfl, Nat.le_of_ble_eq_true rfl⟩ ⟨Nat.le_of_ble_eq_true rfl, Nat.le_of_ble_eq_true rfl⟩ [1] [0] (N0 := 2) rfl (by decide) (ms2 := (fun (U : Md) => [wX11 E h0 a0 u0, wX9 E (a0 2) a0_2 U])) rfl (fun _ => rfl) (fun _ => rfl) (fun _ => rfl) rfl (Nat.le_of_ble_eq_true rfl) dX11_feed_23 (fun v23_0 hw => ?_)
    refine v_aload_n C dX11_feed_26 0 rfl ?_
    refine v_get (ci := 11) C inT11 0 2 rfl rfl (by decide) mF_X11_23_X11_2 rfl dX11_feed_27 ?_
    refine v_iload_n C dX11_feed_30 2 rfl ?_
    refine v_callVMv (st := []) (ci := 9) (qb := 5) C (kX9_push ((a0 2)) a0_2 _ _ hw) mM_X11_76 mI_X9 mC_X9_push mN_X9_push mS_X9_push rfl rfl hd_X9_push ⟨Nat.le_of_ble_eq_true rfl, Nat.le_of_ble_eq_true rfl⟩ ⟨Nat.le_of_ble_eq_true rfl, Nat.le_of_ble_eq_true rfl⟩ [1] [0] (N0 := 2) rfl (by decide) (ms2 := (fun (U : Md) => [wX11 E h0 a0 u0, wX9 E (a0 2) a0_2 U])) rfl (fun _ => rfl) (fun _ => rfl) (fun _ => rfl) rfl (Nat.le_of_ble_eq_true rfl) dX11_feed_31 (fun v31_0 hw => ?_)
    refine v_aload_n C dX11_feed_34 0 rfl ?_
    refine v_get (ci := 11) C inT11 0 2 rfl rfl (by decide) mF_X11_23_X11_2 rfl dX11_feed_35 ?_
    refine v_iload_n C dX11_feed_38 3 rfl ?_
    refine v_callVMv (st := []) (ci := 9) (qb := 5) C (kX9_push ((a0 2)) a0_2 _ _ hw) mM_X11_76 mI_X9 mC_X9_push mN_X9_push mS_X9_push rfl rfl hd_X9_push ⟨Nat.le_of_ble_eq_true rfl, Nat.le_of_ble_eq_true rfl⟩ ⟨Nat.le_of_ble_eq_true rfl, Nat.le_of_ble_eq_true rfl⟩ [1] [0] (N0 := 2) rfl (by decide) (ms2 := (fun (U : Md) => [wX11 E h0 a0 u0, wX9 E (a0 2) a0_2 U])) rfl (fun _ => rfl) (fun _ => rfl) (fun _ => rfl) rfl (Nat.le_of_ble_eq_true rfl) dX11_feed_39 (fun v39_0 hw => ?_)
    refine v_aload_n C dX11_feed_42 0 rfl ?_
    refine v_get (ci := 11) C inT11 0 2 rfl rfl (by decide) mF_X11_23_X11_2 rfl dX11_feed_43 ?_
    refine v_iload C dX11_feed_46 4 rfl ?_
    refine v_callVMv (st := []) (ci := 9) (qb := 5) C (kX9_push ((a0 2)) a0_2 _ _ hw) mM_X11_76 mI_X9 mC_X9_push mN_X9_push mS_X9_push rfl rfl hd_X9_push ⟨Nat.le_of_ble_eq_true rfl, Nat.le_of_ble_eq_true rfl⟩ ⟨Nat.le_of_ble_eq_true rfl, Nat.le_of_ble_eq_true rfl⟩ [1] [0] (N0 := 2) rfl (by decide) (ms2 := (fun (U : Md) => [wX11 E h0 a0 u0, wX9 E (a0 2) a0_2 U])) rfl (fun _ => rfl) (fun _ => rfl) (fun _ => rfl) rfl (Nat.le_of_ble_eq_true rfl) dX11_feed_48 (fun v48_0 hw => ?_)
    refine v_aload_n C dX11_feed_51 0 rfl ?_
    refine v_get (ci := 11) C inT11 0 2 rfl rfl (by decide) mF_X11_23_X11_2 rfl dX11_feed_52 ?_
    refine v_iload C dX11_feed_55 5 rfl ?_
    refine v_callVMv (st := []) (ci := 9) (qb := 5) C (kX9_push ((a0 2)) a0_2 _ _ hw) mM_X11_76 mI_X9 mC_X9_push mN_X9_push mS_X9_push rfl rfl hd_X9_push ⟨Nat.le_of_ble_eq_true rfl, Nat.le_of_ble_eq_true rfl⟩ ⟨Nat.le_of_ble_eq_true rfl, Nat.le_of_ble_eq_true rfl⟩ [1] [0] (N0 := 2) rfl (by decide) (ms2 := (fun (U : Md) => [wX11 E h0 a0 u0, wX9 E (a0 2) a0_2 U])) rfl (fun _ => rfl) (fun _ => rfl) (fun _ => rfl) rfl (Nat.le_of_ble_eq_true rfl) dX11_feed_57 (fun v57_0 hw => ?_)
    refine v_aload_n C dX11_feed_60 0 rfl ?_
    refine v_get (ci := 11) C inT11 0 2 rfl rfl (by decide) mF_X11_23_X11_2 rfl dX11_feed_61 ?_
    refine v_get (ci := 9) C inT9 5 1 rfl rfl (by decide) mF_X11_72_X9_1 rfl dX11_feed_64 ?_
    exact hret _ _ _ _ (gF v57_0 1) (u0, v57_0) dX11_feed_67 rfl hw (Nat.le_of_ble_eq_true rfl) (Nat.le_of_ble_eq_true rfl)
  · have hw := hw.2 hc
    refine v_iconst (v := (-1)) C dX11_feed_16 (by decide) ?_
    exact hret _ _ _ _ ((-1)) (u0, u0_2) dX11_feed_17 rfl hw (Nat.le_of_ble_eq_true rfl) (Nat.le_of_ble_eq_true rfl)
set_option maxHeartbeats 4000000 in
set_option maxRecDepth 100000 in
theorem kX11_end {l : Launch} {E : VE} (h0 : Nat) (a0 : Nat → Nat) (a0_2 : Nat → Nat) (u0 : Md) (u0_2 : Md) (x1 : Int32) {Q : Int32 → Md → Md → Prop} (hw : qX11_end u0 u0_2 x1 Q) : MI l yX11_end cX11_end 2 .int 0 0 0 E [.ref h0, .int x1] ([wX11 E h0 a0 u0, wX9 E (a0 2) a0_2 u0_2].flatten) (fun (U : Md × Md) => [wX11 E h0 a0 U.1, wX9 E (a0 2) a0_2 U.2].flatten) (fun (r : Int32) (U : Md × Md) => Q r U.1 U.2) := by
  refine MI.of (own := RX11) (by decide) rfl (Nat.le_of_ble_eq_true rfl) ?_
  intro X C hini hret
  show VV X 0 0 ([wX11 E h0 a0 u0, wX9 E (a0 2) a0_2 u0_2].flatten) [(0, .ref h0), (1, .int x1)] 0 []
  unfold qX11_end at hw
  refine v_iload_n C dX11_end_0 1 rfl ?_
  refine v_if_lt (tgt := 15) C dX11_end_1 (by decide) (fun hc => ?_) (fun hc => ?_)
  · have hw := hw.1 hc
    refine v_iconst (v := (-1)) C dX11_end_15 (by decide) ?_
    exact hret _ _ _ _ ((-1)) (u0, u0_2) dX11_end_16 rfl hw (Nat.le_of_ble_eq_true rfl) (Nat.le_of_ble_eq_true rfl)
  · have hw := hw.2 hc
    refine v_iload_n C dX11_end_4 1 rfl ?_
    refine v_aload_n C dX11_end_5 0 rfl ?_
    refine v_get (ci := 11) C inT11 0 2 rfl rfl (by decide) mF_X11_23_X11_2 rfl dX11_end_6 ?_
    refine v_get (ci := 9) C inT9 5 1 rfl rfl (by decide) mF_X11_72_X9_1 rfl dX11_end_9 ?_
    refine v_icmp_le (tgt := 17) C dX11_end_12 (by decide) (fun hc => ?_) (fun hc => ?_)
    · have hw := hw.1 hc
      refine v_aload_n C dX11_end_17 0 rfl ?_
      refine v_get (ci := 11) C inT11 0 2 rfl rfl (by decide) mF_X11_23_X11_2 rfl dX11_end_18 ?_
      refine v_iload_n C dX11_end_21 1 rfl ?_
      obtain ⟨w22, e22⟩ : ∃ z : Md, z = sF u0_2 1 x1 := ⟨_, rfl⟩
      have hw := hw w22 e22
      refine v_put (ci := 9) (ws' := [wX11 E h0 a0 u0, wX9 E (a0 2) a0_2 w22].flatten) C tyX9 tyX9_ok nmX9 inT9 5 1 rfl rfl (by decide) mF_X11_72_X9_1 rfl rfl rfl rfl (Nat.le_of_ble_eq_true rfl) (by rw [e22]; rfl) dX11_end_22 ?_
      refine v_iload_n C dX11_end_25 1 rfl ?_
      exact hret _ _ _ _ x1 (u0, w22) dX11_end_26 rfl hw (Nat.le_of_ble_eq_true rfl) (Nat.le_of_ble_eq_true rfl)
    · have hw := hw.2 hc
      refine v_iconst (v := (-1)) C dX11_end_15 (by decide) ?_
      exact hret _ _ _ _ ((-1)) (u0, u0_2) dX11_end_16 rfl hw (Nat.le_of_ble_eq_true rfl) (Nat.le_of_ble_eq_true rfl)
set_option maxHeartbeats 4000000 in
set_option maxRecDepth 100000 in
theorem kX11_isYear {l : Launch} {E : VE} (x0 : Int32) {Q : Int32 → Prop} (hw : qX11_isYear x0 Q) : MI l yX11_isYear cX11_isYear 1 .boolean 0 0 0 E [.int x0] ([]) (fun (_ : Unit) => ([] : va_W)) (fun (r : Int32) (_ : Unit) => (r = 0 ∨ r = 1) ∧ Q r) := by
  refine MI.of (own := RX11) (by decide) rfl (Nat.le_of_ble_eq_true rfl) ?_
  intro X C hini hret
  show VV X 0 0 ([]) [(0, .int x0)] 0 []
  unfold qX11_isYear at hw
  refine v_iload_n C dX11_isYear_0 0 rfl ?_
  refine v_if_lt (tgt := 15) C dX11_isYear_1 (by decide) (fun hc => ?_) (fun hc => ?_)
  · have hw := hw.1 hc
    refine v_iconst (v := 0) C dX11_isYear_15 (by decide) ?_
    exact hret _ _ _ _ 0 () dX11_isYear_16 rfl ⟨Or.inl rfl, hw⟩ (Nat.le_of_ble_eq_true rfl) (Nat.le_of_ble_eq_true rfl)
  · have hw := hw.2 hc
    refine v_iload_n C dX11_isYear_4 0 rfl ?_
    refine v_sipush (v := 400) C dX11_isYear_5 (by decide) ?_
    refine v_icmp_ge (tgt := 15) C dX11_isYear_8 (by decide) (fun hc => ?_) (fun hc => ?_)
    · have hw := hw.1 hc
      refine v_iconst (v := 0) C dX11_isYear_15 (by decide) ?_
      exact hret _ _ _ _ 0 () dX11_isYear_16 rfl ⟨Or.inl rfl, hw⟩ (Nat.le_of_ble_eq_true rfl) (Nat.le_of_ble_eq_true rfl)
    · have hw := hw.2 hc
      refine v_iconst (v := 1) C dX11_isYear_11 (by decide) ?_
      refine v_goto (tgt := 16) C dX11_isYear_12 (by decide) ?_
      exact hret _ _ _ _ 1 () dX11_isYear_16 rfl ⟨Or.inr rfl, hw⟩ (Nat.le_of_ble_eq_true rfl) (Nat.le_of_ble_eq_true rfl)
set_option maxHeartbeats 4000000 in
set_option maxRecDepth 100000 in
theorem kX11_next {l : Launch} {E : VE} (h0 : Nat) (a0 : Nat → Nat) (a0_0 : Nat → Nat) (u0 : Md) (u0_0 : Md) (x1 : Int32) {Q : Int32 → Md → Md → Prop} (hw : qX11_next u0 u0_0 x1 Q) : MI l yX11_next cX11_next 2 .int 1 0 0 E [.ref h0, .int x1] ([wX11 E h0 a0 u0, wX8 E (a0 0) a0_0 u0_0].flatten) (fun (U : Md × Md) => [wX11 E h0 a0 U.1, wX8 E (a0 0) a0_0 U.2].flatten) (fun (r : Int32) (U : Md × Md) => Q r U.1 U.2) := by
  refine MI.of (own := RX11) (by decide) rfl (Nat.le_of_ble_eq_true rfl) ?_
  intro X C hini hret
  show VV X 0 0 ([wX11 E h0 a0 u0, wX8 E (a0 0) a0_0 u0_0].flatten) [(0, .ref h0), (1, .int x1)] 0 []
  unfold qX11_next at hw
  refine v_iload_n C dX11_next_0 1 rfl ?_
  refine v_callSPi (st := []) C (kX11_isYear _ hw) mM_X11_80 mI_X11 mC_X11_isYear mT_X11_isYear hd_X11_isYear ⟨Nat.le_of_ble_eq_true rfl, Nat.le_of_ble_eq_true rfl⟩ ⟨Nat.le_of_ble_eq_true rfl, Nat.le_of_ble_eq_true rfl⟩ rfl (Nat.le_of_ble_eq_true rfl) dX11_next_1 (fun r1 U1 hw => ?_)
  obtain ⟨h01_1, hw⟩ := hw
  have hw := hw h01_1
  refine v_if_eq (tgt := 22) C dX11_next_4 (by decide) (fun hc => ?_) (fun hc => ?_)
  · have hw := hw.1 hc
    refine v_iconst (v := (-1)) C dX11_next_22 (by decide) ?_
    exact hret _ _ _ _ ((-1)) (u0, u0_0) dX11_next_23 rfl hw (Nat.le_of_ble_eq_true rfl) (Nat.le_of_ble_eq_true rfl)
  · have hw := hw.2 hc
    refine v_aload_n C dX11_next_7 0 rfl ?_
    refine v_get (ci := 11) C inT11 0 0 rfl rfl (by decide) mF_X11_10_X11_0 rfl dX11_next_8 ?_
    refine v_get (ci := 8) C inT8 5 0 rfl rfl (by decide) mF_X11_84_X8_0 rfl dX11_next_11 ?_
    refine v_iload_n C dX11_next_14 1 rfl ?_
    refine v_iadd C dX11_next_15 ?_
    refine v_callSPi (st := []) C (kX11_isYear _ hw) mM_X11_80 mI_X11 mC_X11_isYear mT_X11_isYear hd_X11_isYear ⟨Nat.le_of_ble_eq_true rfl, Nat.le_of_ble_eq_true rfl⟩ ⟨Nat.le_of_ble_eq_true rfl, Nat.le_of_ble_eq_true rfl⟩ rfl (Nat.le_of_ble_eq_true rfl) dX11_next_16 (fun r16 U16 hw => ?_)
    obtain ⟨h01_16, hw⟩ := hw
    have hw := hw h01_16
    refine v_if_ne (tgt := 24) C dX11_next_19 (by decide) (fun hc => ?_) (fun hc => ?_)
    · have hw := hw.1 hc
      refine v_aload_n C dX11_next_24 0 rfl ?_
      refine v_get (ci := 11) C inT11 0 0 rfl rfl (by decide) mF_X11_10_X11_0 rfl dX11_next_25 ?_
      refine v_dup C dX11_next_28 rfl ?_
      refine v_get (ci := 8) C inT8 5 0 rfl rfl (by decide) mF_X11_84_X8_0 rfl dX11_next_29 ?_
      refine v_iload_n C dX11_next_32 1 rfl ?_
      refine v_iadd C dX11_next_33 ?_
      obtain ⟨w34, e34⟩ : ∃ z : Md, z = sF u0_0 0 ((gF u0_0 0) + x1) := ⟨_, rfl⟩
      have hw := hw w34 e34
      refine v_put (ci := 8) (ws' := [wX11 E h0 a0 u0, wX8 E (a0 0) a0_0 w34].flatten) C tyX8 tyX8_ok nmX8 inT8 5 0 rfl rfl (by decide) mF_X11_84_X8_0 rfl rfl rfl rfl (Nat.le_of_ble_eq_true rfl) (by rw [e34]; rfl) dX11_next_34 ?_
      refine v_aload_n C dX11_next_37 0 rfl ?_
      refine v_get (ci := 11) C inT11 0 0 rfl rfl (by decide) mF_X11_10_X11_0 rfl dX11_next_38 ?_
      refine v_get (ci := 8) C inT8 5 0 rfl rfl (by decide) mF_X11_84_X8_0 rfl dX11_next_41 ?_
      exact hret _ _ _ _ (gF w34 0) (u0, w34) dX11_next_44 rfl hw (Nat.le_of_ble_eq_true rfl) (Nat.le_of_ble_eq_true rfl)
    · have hw := hw.2 hc
      refine v_iconst (v := (-1)) C dX11_next_22 (by decide) ?_
      exact hret _ _ _ _ ((-1)) (u0, u0_0) dX11_next_23 rfl hw (Nat.le_of_ble_eq_true rfl) (Nat.le_of_ble_eq_true rfl)
set_option maxHeartbeats 4000000 in
set_option maxRecDepth 100000 in
theorem kX11_place {l : Launch} {E : VE} (h0 : Nat) (a0 : Nat → Nat) (a0_0 : Nat → Nat) (a0_0_2 : Nat → Nat) (u0 : Md) (u0_0 : Md) (u0_0_2 : Md) (x1 : Int32) (x2 : Int32) {Q : Int32 → Md → Md → Md → Prop} (hw : qX11_place u0 u0_0 u0_0_2 x1 x2 Q) : MI l yX11_place cX11_place 3 .int 1 0 0 E [.ref h0, .int x1, .int x2] ([wX11 E h0 a0 u0, wX8 E (a0 0) a0_0 u0_0, wX2 E (a0_0 2) a0_0_2 u0_0_2].flatten) (fun (U : Md × Md × Md) => [wX11 E h0 a0 U.1, wX8 E (a0 0) a0_0 U.2.1, wX2 E (a0_0 2) a0_0_2 U.2.2].flatten) (fun (r : Int32) (U : Md × Md × Md) => Q r U.1 U.2.1 U.2.2) := by
  refine MI.of (own := RX11) (by decide) rfl (Nat.le_of_ble_eq_true rfl) ?_
  intro X C hini hret
  show VV X 0 0 ([wX11 E h0 a0 u0, wX8 E (a0 0) a0_0 u0_0, wX2 E (a0_0 2) a0_0_2 u0_0_2].flatten) [(0, .ref h0), (1, .int x1), (2, .int x2)] 0 []
  unfold qX11_place at hw
  refine v_iload_n C dX11_place_0 1 rfl ?_
  refine v_if_lt (tgt := 22) C dX11_place_1 (by decide) (fun hc => ?_) (fun hc => ?_)
  · have hw := hw.1 hc
    refine v_bipush (v := (-2)) C dX11_place_22 (by decide) ?_
    exact hret _ _ _ _ ((-2)) (u0, u0_0, u0_0_2) dX11_place_24 rfl hw (Nat.le_of_ble_eq_true rfl) (Nat.le_of_ble_eq_true rfl)
  · have hw := hw.2 hc
    refine v_iload_n C dX11_place_4 1 rfl ?_
    refine v_sipush (v := 999) C dX11_place_5 (by decide) ?_
    refine v_icmp_gt (tgt := 22) C dX11_place_8 (by decide) (fun hc => ?_) (fun hc => ?_)
    · have hw := hw.1 hc
      refine v_bipush (v := (-2)) C dX11_place_22 (by decide) ?_
      exact hret _ _ _ _ ((-2)) (u0, u0_0, u0_0_2) dX11_place_24 rfl hw (Nat.le_of_ble_eq_true rfl) (Nat.le_of_ble_eq_true rfl)
    · have hw := hw.2 hc
      refine v_iload_n C dX11_place_11 2 rfl ?_
      refine v_if_lt (tgt := 22) C dX11_place_12 (by decide) (fun hc => ?_) (fun hc => ?_)
      · have hw := hw.1 hc
        refine v_bipush (v := (-2)) C dX11_place_22 (by decide) ?_
        exact hret _ _ _ _ ((-2)) (u0, u0_0, u0_0_2) dX11_place_24 rfl hw (Nat.le_of_ble_eq_true rfl) (Nat.le_of_ble_eq_true rfl)
      · have hw := hw.2 hc
        refine v_iload_n C dX11_place_15 2 rfl ?_
        refine v_sipush (v := 999) C dX11_place_16 (by decide) ?_
        refine v_icmp_le (tgt := 25) C dX11_place_19 (by decide) (fun hc => ?_) (fun hc => ?_)
        · have hw := hw.1 hc
          refine v_aload_n C dX11_place_25 0 rfl ?_
          refine v_get (ci := 11) C inT11 0 0 rfl rfl (by decide) mF_X11_10_X11_0 rfl dX11_place_26 ?_
          refine v_get (ci := 8) C inT8 5 2 rfl rfl (by decide) mF_X11_87_X8_2 rfl dX11_place_29 ?_
          refine v_iload_n C dX11_place_32 1 rfl ?_
          refine v_iload_n C dX11_place_33 2 rfl ?_
          refine v_callVMi (st := []) (ci := 2) (qb := 7) C (kX2_addPlace ((a0_0 2)) a0_0_2 _ _ _ hw) mM_X11_91 mI_X2 mC_X2_addPlace mN_X2_addPlace mS_X2_addPlace rfl rfl hd_X2_addPlace ⟨Nat.le_of_ble_eq_true rfl, Nat.le_of_ble_eq_true rfl⟩ ⟨Nat.le_of_ble_eq_true rfl, Nat.le_of_ble_eq_true rfl⟩ [2] [0, 1] (N0 := 3) rfl (by decide) (ms2 := (fun (U : Md) => [wX11 E h0 a0 u0, wX8 E (a0 0) a0_0 u0_0, wX2 E (a0_0 2) a0_0_2 U])) rfl (fun _ => rfl) (fun _ => rfl) (fun _ => rfl) rfl (Nat.le_of_ble_eq_true rfl) dX11_place_34 (fun r34 v34_0 hw => ?_)
          exact hret _ _ _ _ r34 (u0, u0_0, v34_0) dX11_place_37 rfl hw (Nat.le_of_ble_eq_true rfl) (Nat.le_of_ble_eq_true rfl)
        · have hw := hw.2 hc
          refine v_bipush (v := (-2)) C dX11_place_22 (by decide) ?_
          exact hret _ _ _ _ ((-2)) (u0, u0_0, u0_0_2) dX11_place_24 rfl hw (Nat.le_of_ble_eq_true rfl) (Nat.le_of_ble_eq_true rfl)
set_option maxHeartbeats 4000000 in
set_option maxRecDepth 100000 in
theorem jX11_part_37 {X : VX} {E : VE} {l : Launch} (h0 : Nat) (a0 : Nat → Nat) (a0_0 : Nat → Nat) (a0_0_2 : Nat → Nat) (a0_4 : Nat → Nat)  (Q : Int32 → Md → Md → Md → Md → Prop) (C : VC X cX11_part 4 RX11 (rmL 3 0 0) E l) (hret : RetI X cX11_part .int 0 0 (fun (U : Md × Md × Md × Md) => [wX11 E h0 a0 U.1, wX8 E (a0 0) a0_0 U.2.1, wX2 E (a0_0 2) a0_0_2 U.2.2.1, wX10 E (a0 4) a0_4 U.2.2.2].flatten) (fun (r : Int32) (U : Md × Md × Md × Md) => Q r U.1 U.2.1 U.2.2.1 U.2.2.2))  : ∀ (u0 : Md) (u0_0 : Md) (u0_0_2 : Md) (u0_4 : Md) (y1 : Int32) (y2 : Int32), qX11_part_37 Q u0 u0_0 u0_0_2 u0_4 y1 y2 → VV X 0 0 ([wX11 E h0 a0 u0, wX8 E (a0 0) a0_0 u0_0, wX2 E (a0_0 2) a0_0_2 u0_0_2, wX10 E (a0 4) a0_4 u0_4].flatten) [(0, .ref h0), (1, .int y1), (2, .int y2), (3, .ref ((a0_0 2)))] 37 [] := by
  intro u0 u0_0 u0_0_2 u0_4 y1 y2 hw
  unfold qX11_part_37 at hw
  refine v_aload_n C dX11_part_37 0 rfl ?_
  refine v_get (ci := 11) C inT11 0 4 rfl rfl (by decide) mF_X11_37_X11_4 rfl dX11_part_38 ?_
  refine v_aload_n C dX11_part_41 3 rfl ?_
  refine v_iload_n C dX11_part_42 2 rfl ?_
  refine v_iload_n C dX11_part_43 1 rfl ?_
  refine v_aload_n C dX11_part_44 0 rfl ?_
  refine v_get (ci := 11) C inT11 0 0 rfl rfl (by decide) mF_X11_10_X11_0 rfl dX11_part_45 ?_
  refine v_get (ci := 8) C inT8 5 0 rfl rfl (by decide) mF_X11_84_X8_0 rfl dX11_part_48 ?_
  refine v_callVMi (st := []) (ci := 10) (qb := 16) C (kX10_liesWithin ((a0 4)) ((a0_0 2)) a0_4 a0_0_2 _ _ _ _ _ hw) mM_X11_100 mI_X10 mC_X10_liesWithin mN_X10_liesWithin mS_X10_liesWithin rfl rfl hd_X10_liesWithin ⟨Nat.le_of_ble_eq_true rfl, Nat.le_of_ble_eq_true rfl⟩ ⟨Nat.le_of_ble_eq_true rfl, Nat.le_of_ble_eq_true rfl⟩ [3, 2] [0, 1] (N0 := 4) rfl (by decide) (ms2 := (fun (U : Md × Md) => [wX11 E h0 a0 u0, wX8 E (a0 0) a0_0 u0_0, wX2 E (a0_0 2) a0_0_2 U.2, wX10 E (a0 4) a0_4 U.1])) rfl (fun _ => rfl) (fun _ => rfl) (fun _ => rfl) rfl (Nat.le_of_ble_eq_true rfl) dX11_part_51 (fun r51 U51 hw => ?_)
  obtain ⟨v51_0, v51_1⟩ := U51
  obtain ⟨h01_51, hw⟩ := hw
  have hw := hw h01_51
  refine v_if_eq (tgt := 60) C dX11_part_54 (by decide) (fun hc => ?_) (fun hc => ?_)
  · have hw := hw.1 hc
    refine v_aload_n C dX11_part_60 3 rfl ?_
    refine v_iload_n C dX11_part_61 1 rfl ?_
    refine v_iload_n C dX11_part_62 2 rfl ?_
    refine v_aload_n C dX11_part_63 0 rfl ?_
    refine v_get (ci := 11) C inT11 0 0 rfl rfl (by decide) mF_X11_10_X11_0 rfl dX11_part_64 ?_
    refine v_get (ci := 8) C inT8 5 0 rfl rfl (by decide) mF_X11_84_X8_0 rfl dX11_part_67 ?_
    refine v_callVMi (st := []) (ci := 2) (qb := 7) C (kX2_tellPart ((a0_0 2)) a0_0_2 _ _ _ _ hw) mM_X11_104 mI_X2 mC_X2_tellPart mN_X2_tellPart mS_X2_tellPart rfl rfl hd_X2_tellPart ⟨Nat.le_of_ble_eq_true rfl, Nat.le_of_ble_eq_true rfl⟩ ⟨Nat.le_of_ble_eq_true rfl, Nat.le_of_ble_eq_true rfl⟩ [2] [0, 1, 3] (N0 := 4) rfl (by decide) (ms2 := (fun (U : Md) => [wX11 E h0 a0 u0, wX8 E (a0 0) a0_0 u0_0, wX2 E (a0_0 2) a0_0_2 U, wX10 E (a0 4) a0_4 v51_0])) rfl (fun _ => rfl) (fun _ => rfl) (fun _ => rfl) rfl (Nat.le_of_ble_eq_true rfl) dX11_part_70 (fun r70 v70_0 hw => ?_)
    obtain ⟨h01_70, hw⟩ := hw
    have hw := hw h01_70
    refine v_if_ne (tgt := 79) C dX11_part_73 (by decide) (fun hc => ?_) (fun hc => ?_)
    · have hw := hw.1 hc
      refine v_aload_n C dX11_part_79 0 rfl ?_
      refine v_get (ci := 11) C inT11 0 0 rfl rfl (by decide) mF_X11_10_X11_0 rfl dX11_part_80 ?_
      refine v_callVMv (st := []) (ci := 8) (qb := 5) C (kX8_mark ((a0 0)) a0_0 _ hw) mM_X11_108 mI_X8 mC_X8_mark mN_X8_mark mS_X8_mark rfl rfl hd_X8_mark ⟨Nat.le_of_ble_eq_true rfl, Nat.le_of_ble_eq_true rfl⟩ ⟨Nat.le_of_ble_eq_true rfl, Nat.le_of_ble_eq_true rfl⟩ [1] [0, 2, 3] (N0 := 4) rfl (by decide) (ms2 := (fun (U : Md) => [wX11 E h0 a0 u0, wX8 E (a0 0) a0_0 U, wX2 E (a0_0 2) a0_0_2 v70_0, wX10 E (a0 4) a0_4 v51_0])) rfl (fun _ => rfl) (fun _ => rfl) (fun _ => rfl) rfl (Nat.le_of_ble_eq_true rfl) dX11_part_83 (fun v83_0 hw => ?_)
      refine v_iconst (v := 0) C dX11_part_86 (by decide) ?_
      exact hret _ _ _ _ 0 (u0, v83_0, v70_0, v51_0) dX11_part_87 rfl hw (Nat.le_of_ble_eq_true rfl) (Nat.le_of_ble_eq_true rfl)
    · have hw := hw.2 hc
      refine v_bipush (v := (-3)) C dX11_part_76 (by decide) ?_
      exact hret _ _ _ _ ((-3)) (u0, u0_0, v70_0, v51_0) dX11_part_78 rfl hw (Nat.le_of_ble_eq_true rfl) (Nat.le_of_ble_eq_true rfl)
  · have hw := hw.2 hc
    refine v_bipush (v := (-5)) C dX11_part_57 (by decide) ?_
    exact hret _ _ _ _ ((-5)) (u0, u0_0, v51_1, v51_0) dX11_part_59 rfl hw (Nat.le_of_ble_eq_true rfl) (Nat.le_of_ble_eq_true rfl)
set_option maxHeartbeats 4000000 in
set_option maxRecDepth 100000 in
theorem kX11_part {l : Launch} {E : VE} (h0 : Nat) (a0 : Nat → Nat) (a0_0 : Nat → Nat) (a0_0_2 : Nat → Nat) (a0_4 : Nat → Nat) (u0 : Md) (u0_0 : Md) (u0_0_2 : Md) (u0_4 : Md) (x1 : Int32) (x2 : Int32) {Q : Int32 → Md → Md → Md → Md → Prop} (hw : qX11_part u0 u0_0 u0_0_2 u0_4 x1 x2 Q) : MI l yX11_part cX11_part 4 .int 3 0 0 E [.ref h0, .int x1, .int x2] ([wX11 E h0 a0 u0, wX8 E (a0 0) a0_0 u0_0, wX2 E (a0_0 2) a0_0_2 u0_0_2, wX10 E (a0 4) a0_4 u0_4].flatten) (fun (U : Md × Md × Md × Md) => [wX11 E h0 a0 U.1, wX8 E (a0 0) a0_0 U.2.1, wX2 E (a0_0 2) a0_0_2 U.2.2.1, wX10 E (a0 4) a0_4 U.2.2.2].flatten) (fun (r : Int32) (U : Md × Md × Md × Md) => Q r U.1 U.2.1 U.2.2.1 U.2.2.2) := by
  refine MI.of (own := RX11) (by decide) rfl (Nat.le_of_ble_eq_true rfl) ?_
  intro X C hini hret
  show VV X 0 0 ([wX11 E h0 a0 u0, wX8 E (a0 0) a0_0 u0_0, wX2 E (a0_0 2) a0_0_2 u0_0_2, wX10 E (a0 4) a0_4 u0_4].flatten) [(0, .ref h0), (1, .int x1), (2, .int x2)] 0 []
  unfold qX11_part at hw
  refine v_aload_n C dX11_part_0 0 rfl ?_
  refine v_get (ci := 11) C inT11 0 0 rfl rfl (by decide) mF_X11_10_X11_0 rfl dX11_part_1 ?_
  refine v_get (ci := 8) C inT8 5 2 rfl rfl (by decide) mF_X11_87_X8_2 rfl dX11_part_4 ?_
  refine v_astore_n (lv' := [(3, .ref ((a0_0 2))), (0, .ref h0), (1, .int x1), (2, .int x2)]) C dX11_part_7 (by decide) rfl ?_
  refine v_aload_n C dX11_part_8 0 rfl ?_
  refine v_iload_n C dX11_part_9 2 rfl ?_
  refine v_callVMi (st := []) (ci := 2) (qb := 7) C (kX2_has ((a0_0 2)) a0_0_2 _ _ hw) mM_X11_97 mI_X2 mC_X2_has mN_X2_has mS_X2_has rfl rfl hd_X2_has ⟨Nat.le_of_ble_eq_true rfl, Nat.le_of_ble_eq_true rfl⟩ ⟨Nat.le_of_ble_eq_true rfl, Nat.le_of_ble_eq_true rfl⟩ [2] [0, 1, 3] (N0 := 4) rfl (by decide) (ms2 := (fun (U : Md) => [wX11 E h0 a0 u0, wX8 E (a0 0) a0_0 u0_0, wX2 E (a0_0 2) a0_0_2 U, wX10 E (a0 4) a0_4 u0_4])) rfl (fun _ => rfl) (fun _ => rfl) (fun _ => rfl) rfl (Nat.le_of_ble_eq_true rfl) dX11_part_10 (fun r10 v10_0 hw => ?_)
  obtain ⟨h01_10, hw⟩ := hw
  have hw := hw h01_10
  refine v_if_eq (tgt := 34) C dX11_part_13 (by decide) (fun hc => ?_) (fun hc => ?_)
  · have hw := hw.1 hc
    refine v_bipush (v := (-2)) C dX11_part_34 (by decide) ?_
    exact hret _ _ _ _ ((-2)) (u0, u0_0, v10_0, u0_4) dX11_part_36 rfl hw (Nat.le_of_ble_eq_true rfl) (Nat.le_of_ble_eq_true rfl)
  · have hw := hw.2 hc
    refine v_iload_n C dX11_part_16 3 rfl ?_
    refine v_iload_n C dX11_part_17 2 rfl ?_
    refine v_icmp_eq (tgt := 34) C dX11_part_18 (by decide) (fun hc => ?_) (fun hc => ?_)
    · have hw := hw.1 hc
      refine v_bipush (v := (-2)) C dX11_part_34 (by decide) ?_
      exact hret _ _ _ _ ((-2)) (u0, u0_0, v10_0, u0_4) dX11_part_36 rfl hw (Nat.le_of_ble_eq_true rfl) (Nat.le_of_ble_eq_true rfl)
    · have hw := hw.2 hc
      refine v_iload_n C dX11_part_21 3 rfl ?_
      refine v_iconst (v := (-1)) C dX11_part_22 (by decide) ?_
      refine v_icmp_eq (tgt := 37) C dX11_part_23 (by decide) (fun hc => ?_) (fun hc => ?_)
      · have hw := hw.1 hc
        refine v_lv C (lv' := [(0, .ref h0), (1, .int x1), (2, .int x2), (3, .ref ((a0_0 2)))]) [1, 2, 3, 0] rfl ?_
        exact jX11_part_37 h0 a0 a0_0 a0_0_2 a0_4 Q C hret u0 u0_0 v10_0 u0_4 x1 x2 hw
      · have hw := hw.2 hc
        refine v_aload_n C dX11_part_26 0 rfl ?_
        refine v_iload_n C dX11_part_27 3 rfl ?_
        refine v_callVMi (st := []) (ci := 2) (qb := 7) C (kX2_has ((a0_0 2)) a0_0_2 _ _ hw) mM_X11_97 mI_X2 mC_X2_has mN_X2_has mS_X2_has rfl rfl hd_X2_has ⟨Nat.le_of_ble_eq_true rfl, Nat.le_of_ble_eq_true rfl⟩ ⟨Nat.le_of_ble_eq_true rfl, Nat.le_of_ble_eq_true rfl⟩ [2] [0, 1, 3] (N0 := 4) rfl (by decide) (ms2 := (fun (U : Md) => [wX11 E h0 a0 u0, wX8 E (a0 0) a0_0 u0_0, wX2 E (a0_0 2) a0_0_2 U, wX10 E (a0 4) a0_4 u0_4])) rfl (fun _ => rfl) (fun _ => rfl) (fun _ => rfl) rfl (Nat.le_of_ble_eq_true rfl) dX11_part_28 (fun r28 v28_0 hw => ?_)
        obtain ⟨h01_28, hw⟩ := hw
        have hw := hw h01_28
        refine v_if_ne (tgt := 37) C dX11_part_31 (by decide) (fun hc => ?_) (fun hc => ?_)
        · have hw := hw.1 hc
          refine v_lv C (lv' := [(0, .ref h0), (1, .int x1), (2, .int x2), (3, .ref ((a0_0 2)))]) [1, 2, 3, 0] rfl ?_
          exact jX11_part_37 h0 a0 a0_0 a0_0_2 a0_4 Q C hret u0 u0_0 v28_0 u0_4 x1 x2 hw
        · have hw := hw.2 hc
          refine v_bipush (v := (-2)) C dX11_part_34 (by decide) ?_
          exact hret _ _ _ _ ((-2)) (u0, u0_0, v28_0, u0_4) dX11_part_36 rfl hw (Nat.le_of_ble_eq_true rfl) (Nat.le_of_ble_eq_true rfl)
set_option maxHeartbeats 4000000 in
set_option maxRecDepth 100000 in
theorem kX11_countPeople {l : Launch} {E : VE} (h0 : Nat) (a0 : Nat → Nat) (a0_0 : Nat → Nat) (a0_0_2 : Nat → Nat) (u0 : Md) (u0_0 : Md) (u0_0_2 : Md) (x1 : Int64) (x2 : Int64) (x3 : Int64) {Q : Int32 → Md → Md → Md → Prop} (hw : qX11_countPeople u0 u0_0 u0_0_2 x1 x2 x3 Q) : MI l yX11_countPeople cX11_countPeople 7 .int 2 0 0 E [.ref h0, .long x1, .long x2, .long x3] ([wX11 E h0 a0 u0, wX8 E (a0 0) a0_0 u0_0, wX2 E (a0_0 2) a0_0_2 u0_0_2].flatten) (fun (U : Md × Md × Md) => [wX11 E h0 a0 U.1, wX8 E (a0 0) a0_0 U.2.1, wX2 E (a0_0 2) a0_0_2 U.2.2].flatten) (fun (r : Int32) (U : Md × Md × Md) => Q r U.1 U.2.1 U.2.2) := by
  refine MI.of (own := RX11) (by decide) rfl (Nat.le_of_ble_eq_true rfl) ?_
  intro X C hini hret
  show VV X 0 0 ([wX11 E h0 a0 u0, wX8 E (a0 0) a0_0 u0_0, wX2 E (a0_0 2) a0_0_2 u0_0_2].flatten) [(0, .ref h0), (1, .long x1), (3, .long x2), (5, .long x3)] 0 []
  unfold qX11_countPeople at hw
  refine v_lload_n C dX11_countPeople_0 1 rfl ?_
  refine v_lconst (v := 0) C dX11_countPeople_1 (by decide) ?_
  refine v_lcmp C dX11_countPeople_2 ?_
  refine v_if_lt (tgt := 36) C dX11_countPeople_3 (by decide) (fun hc => ?_) (fun hc => ?_)
  · have hw := hw.1 hc
    refine v_bipush (v := (-2)) C dX11_countPeople_36 (by decide) ?_
    exact hret _ _ _ _ ((-2)) (u0, u0_0, u0_0_2) dX11_countPeople_38 rfl hw (Nat.le_of_ble_eq_true rfl) (Nat.le_of_ble_eq_true rfl)
  · have hw := hw.2 hc
    refine v_lload_n C dX11_countPeople_6 1 rfl ?_
    refine v_aload_n C dX11_countPeople_7 0 rfl ?_
    refine v_get (ci := 11) C inT11 0 0 rfl rfl (by decide) mF_X11_10_X11_0 rfl dX11_countPeople_8 ?_
    refine v_get (ci := 8) C inT8 5 2 rfl rfl (by decide) mF_X11_87_X8_2 rfl dX11_countPeople_11 ?_
    refine v_get (ci := 2) C inT2 7 0 rfl rfl (by decide) mF_X11_324_X2_0 rfl dX11_countPeople_14 ?_
    refine v_i2l C dX11_countPeople_17 ?_
    refine v_lcmp C dX11_countPeople_18 ?_
    refine v_if_ge (tgt := 36) C dX11_countPeople_19 (by decide) (fun hc => ?_) (fun hc => ?_)
    · have hw := hw.1 hc
      refine v_bipush (v := (-2)) C dX11_countPeople_36 (by decide) ?_
      exact hret _ _ _ _ ((-2)) (u0, u0_0, u0_0_2) dX11_countPeople_38 rfl hw (Nat.le_of_ble_eq_true rfl) (Nat.le_of_ble_eq_true rfl)
    · have hw := hw.2 hc
      refine v_lload_n C dX11_countPeople_22 2 rfl ?_
      refine v_lconst (v := 0) C dX11_countPeople_23 (by decide) ?_
      refine v_lcmp C dX11_countPeople_24 ?_
      refine v_if_lt (tgt := 36) C dX11_countPeople_25 (by decide) (fun hc => ?_) (fun hc => ?_)
      · have hw := hw.1 hc
        refine v_bipush (v := (-2)) C dX11_countPeople_36 (by decide) ?_
        exact hret _ _ _ _ ((-2)) (u0, u0_0, u0_0_2) dX11_countPeople_38 rfl hw (Nat.le_of_ble_eq_true rfl) (Nat.le_of_ble_eq_true rfl)
      · have hw := hw.2 hc
        refine v_lload_n C dX11_countPeople_28 2 rfl ?_
        refine v_ldc2 C mJ_X11_360 dX11_countPeople_29 ?_
        refine v_lcmp C dX11_countPeople_32 ?_
        refine v_if_lt (tgt := 39) C dX11_countPeople_33 (by decide) (fun hc => ?_) (fun hc => ?_)
        · have hw := hw.1 hc
          refine v_lload C dX11_countPeople_39 3 rfl ?_
          refine v_lconst (v := 0) C dX11_countPeople_41 (by decide) ?_
          refine v_lcmp C dX11_countPeople_42 ?_
          refine v_if_lt (tgt := 55) C dX11_countPeople_43 (by decide) (fun hc => ?_) (fun hc => ?_)
          · have hw := hw.1 hc
            refine v_bipush (v := (-2)) C dX11_countPeople_55 (by decide) ?_
            exact hret _ _ _ _ ((-2)) (u0, u0_0, u0_0_2) dX11_countPeople_57 rfl hw (Nat.le_of_ble_eq_true rfl) (Nat.le_of_ble_eq_true rfl)
          · have hw := hw.2 hc
            refine v_lload C dX11_countPeople_46 3 rfl ?_
            refine v_ldc2 C mJ_X11_362 dX11_countPeople_48 ?_
            refine v_lcmp C dX11_countPeople_51 ?_
            refine v_if_le (tgt := 58) C dX11_countPeople_52 (by decide) (fun hc => ?_) (fun hc => ?_)
            · have hw := hw.1 hc
              refine v_aload_n C dX11_countPeople_58 0 rfl ?_
              refine v_get (ci := 11) C inT11 0 0 rfl rfl (by decide) mF_X11_10_X11_0 rfl dX11_countPeople_59 ?_
              refine v_get (ci := 8) C inT8 5 2 rfl rfl (by decide) mF_X11_87_X8_2 rfl dX11_countPeople_62 ?_
              refine v_lload_n C dX11_countPeople_65 1 rfl ?_
              refine v_l2i C dX11_countPeople_66 ?_
              refine v_lload_n C dX11_countPeople_67 2 rfl ?_
              refine v_l2i C dX11_countPeople_68 ?_
              refine v_lload C dX11_countPeople_69 3 rfl ?_
              refine v_l2i C dX11_countPeople_71 ?_
              refine v_aload_n C dX11_countPeople_72 0 rfl ?_
              refine v_get (ci := 11) C inT11 0 0 rfl rfl (by decide) mF_X11_10_X11_0 rfl dX11_countPeople_73 ?_
              refine v_get (ci := 8) C inT8 5 0 rfl rfl (by decide) mF_X11_84_X8_0 rfl dX11_countPeople_76 ?_
              refine v_callVMi (st := []) (ci := 2) (qb := 7) C (kX2_tellCount ((a0_0 2)) a0_0_2 _ _ _ _ _ hw) mM_X11_364 mI_X2 mC_X2_tellCount mN_X2_tellCount mS_X2_tellCount rfl rfl hd_X2_tellCount ⟨Nat.le_of_ble_eq_true rfl, Nat.le_of_ble_eq_true rfl⟩ ⟨Nat.le_of_ble_eq_true rfl, Nat.le_of_ble_eq_true rfl⟩ [2] [0, 1] (N0 := 3) rfl (by decide) (ms2 := (fun (U : Md) => [wX11 E h0 a0 u0, wX8 E (a0 0) a0_0 u0_0, wX2 E (a0_0 2) a0_0_2 U])) rfl (fun _ => rfl) (fun _ => rfl) (fun _ => rfl) rfl (Nat.le_of_ble_eq_true rfl) dX11_countPeople_79 (fun r79 v79_0 hw => ?_)
              obtain ⟨h01_79, hw⟩ := hw
              have hw := hw h01_79
              refine v_if_ne (tgt := 88) C dX11_countPeople_82 (by decide) (fun hc => ?_) (fun hc => ?_)
              · have hw := hw.1 hc
                refine v_aload_n C dX11_countPeople_88 0 rfl ?_
                refine v_get (ci := 11) C inT11 0 0 rfl rfl (by decide) mF_X11_10_X11_0 rfl dX11_countPeople_89 ?_
                refine v_callVMv (st := []) (ci := 8) (qb := 5) C (kX8_mark ((a0 0)) a0_0 _ hw) mM_X11_108 mI_X8 mC_X8_mark mN_X8_mark mS_X8_mark rfl rfl hd_X8_mark ⟨Nat.le_of_ble_eq_true rfl, Nat.le_of_ble_eq_true rfl⟩ ⟨Nat.le_of_ble_eq_true rfl, Nat.le_of_ble_eq_true rfl⟩ [1] [0, 2] (N0 := 3) rfl (by decide) (ms2 := (fun (U : Md) => [wX11 E h0 a0 u0, wX8 E (a0 0) a0_0 U, wX2 E (a0_0 2) a0_0_2 v79_0])) rfl (fun _ => rfl) (fun _ => rfl) (fun _ => rfl) rfl (Nat.le_of_ble_eq_true rfl) dX11_countPeople_92 (fun v92_0 hw => ?_)
                refine v_iconst (v := 0) C dX11_countPeople_95 (by decide) ?_
                exact hret _ _ _ _ 0 (u0, v92_0, v79_0) dX11_countPeople_96 rfl hw (Nat.le_of_ble_eq_true rfl) (Nat.le_of_ble_eq_true rfl)
              · have hw := hw.2 hc
                refine v_bipush (v := (-3)) C dX11_countPeople_85 (by decide) ?_
                exact hret _ _ _ _ ((-3)) (u0, u0_0, v79_0) dX11_countPeople_87 rfl hw (Nat.le_of_ble_eq_true rfl) (Nat.le_of_ble_eq_true rfl)
            · have hw := hw.2 hc
              refine v_bipush (v := (-2)) C dX11_countPeople_55 (by decide) ?_
              exact hret _ _ _ _ ((-2)) (u0, u0_0, u0_0_2) dX11_countPeople_57 rfl hw (Nat.le_of_ble_eq_true rfl) (Nat.le_of_ble_eq_true rfl)
        · have hw := hw.2 hc
          refine v_bipush (v := (-2)) C dX11_countPeople_36 (by decide) ?_
          exact hret _ _ _ _ ((-2)) (u0, u0_0, u0_0_2) dX11_countPeople_38 rfl hw (Nat.le_of_ble_eq_true rfl) (Nat.le_of_ble_eq_true rfl)
set_option maxHeartbeats 4000000 in
set_option maxRecDepth 100000 in
theorem kX11_people {l : Launch} {E : VE} (h0 : Nat) (a0 : Nat → Nat) (a0_0 : Nat → Nat) (a0_0_2 : Nat → Nat) (u0 : Md) (u0_0 : Md) (u0_0_2 : Md) (x1 : Int32) (x2 : Int32) (x3 : Int32) {Q : Int32 → Md → Md → Md → Prop} (hw : qX11_people u0 u0_0 u0_0_2 x1 x2 x3 Q) : MI l yX11_people cX11_people 4 .int 3 0 0 E [.ref h0, .int x1, .int x2, .int x3] ([wX11 E h0 a0 u0, wX8 E (a0 0) a0_0 u0_0, wX2 E (a0_0 2) a0_0_2 u0_0_2].flatten) (fun (U : Md × Md × Md) => [wX11 E h0 a0 U.1, wX8 E (a0 0) a0_0 U.2.1, wX2 E (a0_0 2) a0_0_2 U.2.2].flatten) (fun (r : Int32) (U : Md × Md × Md) => Q r U.1 U.2.1 U.2.2) := by
  refine MI.of (own := RX11) (by decide) rfl (Nat.le_of_ble_eq_true rfl) ?_
  intro X C hini hret
  show VV X 0 0 ([wX11 E h0 a0 u0, wX8 E (a0 0) a0_0 u0_0, wX2 E (a0_0 2) a0_0_2 u0_0_2].flatten) [(0, .ref h0), (1, .int x1), (2, .int x2), (3, .int x3)] 0 []
  unfold qX11_people at hw
  refine v_aload_n C dX11_people_0 0 rfl ?_
  refine v_iload_n C dX11_people_1 1 rfl ?_
  refine v_i2l C dX11_people_2 ?_
  refine v_iload_n C dX11_people_3 2 rfl ?_
  refine v_i2l C dX11_people_4 ?_
  refine v_iload_n C dX11_people_5 3 rfl ?_
  refine v_i2l C dX11_people_6 ?_
  refine v_callFi (st := []) (ci := 11) (qb := 0) C (kX11_countPeople h0 a0 a0_0 a0_0_2 _ _ _ _ _ _ hw) mM_X11_111 mI_X11 mC_X11_countPeople mN_X11_countPeople mS_X11_countPeople rfl rfl hd_X11_countPeople ⟨Nat.le_of_ble_eq_true rfl, Nat.le_of_ble_eq_true rfl⟩ ⟨Nat.le_of_ble_eq_true rfl, Nat.le_of_ble_eq_true rfl⟩ rfl (Nat.le_of_ble_eq_true rfl) dX11_people_7 (fun r7 U7 hw => ?_)
  obtain ⟨v7_0, v7_1, v7_2⟩ := U7
  exact hret _ _ _ _ r7 (v7_0, v7_1, v7_2) dX11_people_10 rfl hw (Nat.le_of_ble_eq_true rfl) (Nat.le_of_ble_eq_true rfl)
set_option maxHeartbeats 4000000 in
set_option maxRecDepth 100000 in
theorem kX11_isSlot {l : Launch} {E : VE} (x0 : Int32) {Q : Int32 → Prop} (hw : qX11_isSlot x0 Q) : MI l yX11_isSlot cX11_isSlot 1 .boolean 0 0 0 E [.int x0] ([]) (fun (_ : Unit) => ([] : va_W)) (fun (r : Int32) (_ : Unit) => (r = 0 ∨ r = 1) ∧ Q r) := by
  refine MI.of (own := RX11) (by decide) rfl (Nat.le_of_ble_eq_true rfl) ?_
  intro X C hini hret
  show VV X 0 0 ([]) [(0, .int x0)] 0 []
  unfold qX11_isSlot at hw
  refine v_iload_n C dX11_isSlot_0 0 rfl ?_
  refine v_if_lt (tgt := 13) C dX11_isSlot_1 (by decide) (fun hc => ?_) (fun hc => ?_)
  · have hw := hw.1 hc
    refine v_iconst (v := 0) C dX11_isSlot_13 (by decide) ?_
    exact hret _ _ _ _ 0 () dX11_isSlot_14 rfl ⟨Or.inl rfl, hw⟩ (Nat.le_of_ble_eq_true rfl) (Nat.le_of_ble_eq_true rfl)
  · have hw := hw.2 hc
    refine v_iload_n C dX11_isSlot_4 0 rfl ?_
    refine v_iconst (v := 4) C dX11_isSlot_5 (by decide) ?_
    refine v_icmp_ge (tgt := 13) C dX11_isSlot_6 (by decide) (fun hc => ?_) (fun hc => ?_)
    · have hw := hw.1 hc
      refine v_iconst (v := 0) C dX11_isSlot_13 (by decide) ?_
      exact hret _ _ _ _ 0 () dX11_isSlot_14 rfl ⟨Or.inl rfl, hw⟩ (Nat.le_of_ble_eq_true rfl) (Nat.le_of_ble_eq_true rfl)
    · have hw := hw.2 hc
      refine v_iconst (v := 1) C dX11_isSlot_9 (by decide) ?_
      refine v_goto (tgt := 14) C dX11_isSlot_10 (by decide) ?_
      exact hret _ _ _ _ 1 () dX11_isSlot_14 rfl ⟨Or.inr rfl, hw⟩ (Nat.le_of_ble_eq_true rfl) (Nat.le_of_ble_eq_true rfl)
set_option maxHeartbeats 4000000 in
set_option maxRecDepth 100000 in
theorem jX11_counted_40 {X : VX} {E : VE} {l : Launch} (h0 : Nat) (a0 : Nat → Nat) (a0_0 : Nat → Nat) (a0_0_2 : Nat → Nat)  (Q : Int32 → Md → Md → Md → Prop) (C : VC X cX11_counted 5 RX11 (rmL 3 0 0) E l) (hret : RetI X cX11_counted .int 0 0 (fun (U : Md × Md × Md) => [wX11 E h0 a0 U.1, wX8 E (a0 0) a0_0 U.2.1, wX2 E (a0_0 2) a0_0_2 U.2.2].flatten) (fun (r : Int32) (U : Md × Md × Md) => Q r U.1 U.2.1 U.2.2))  : ∀ (n : Nat), ∀ (u0 : Md) (u0_0 : Md) (u0_0_2 : Md) (y2 : Int32) (y3 : Int32) (y4 : Int32), qX11_counted_40 Q n u0 u0_0 u0_0_2 y2 y3 y4 → VV X 0 0 ([wX11 E h0 a0 u0, wX8 E (a0 0) a0_0 u0_0, wX2 E (a0_0 2) a0_0_2 u0_0_2].flatten) [(0, .ref h0), (2, .int y2), (3, .int y3), (4, .int y4)] 40 [] := by
  intro n
  induction n with
  | zero =>
    intro u0 u0_0 u0_0_2 y2 y3 y4 hw
    exact hw.elim
  | succ n ih =>
    intro u0 u0_0 u0_0_2 y2 y3 y4 hw
    unfold qX11_counted_40 at hw
    refine v_iload_n C dX11_counted_40 2 rfl ?_
    refine v_iload_n C dX11_counted_41 1 rfl ?_
    refine v_icmp_ge (tgt := 86) C dX11_counted_42 (by decide) (fun hc => ?_) (fun hc => ?_)
    · have hw := hw.1 hc
      refine v_iload_n C dX11_counted_86 2 rfl ?_
      exact hret _ _ _ _ y3 (u0, u0_0, u0_0_2) dX11_counted_87 rfl hw (Nat.le_of_ble_eq_true rfl) (Nat.le_of_ble_eq_true rfl)
    · have hw := hw.2 hc
      refine v_aload_n C dX11_counted_45 0 rfl ?_
      refine v_aload_n C dX11_counted_46 0 rfl ?_
      refine v_get (ci := 11) C inT11 0 7 rfl rfl (by decide) mF_X11_55_X11_7 rfl dX11_counted_47 ?_
      refine v_iload C dX11_counted_50 3 rfl ?_
      obtain ⟨hi52, hw⟩ := hw
      refine v_lald C 2 rfl hi52 dX11_counted_52 ?_
      refine v_aload_n C dX11_counted_53 0 rfl ?_
      refine v_get (ci := 11) C inT11 0 7 rfl rfl (by decide) mF_X11_55_X11_7 rfl dX11_counted_54 ?_
      refine v_iload C dX11_counted_57 3 rfl ?_
      refine v_iconst (v := 1) C dX11_counted_59 (by decide) ?_
      refine v_iadd C dX11_counted_60 ?_
      obtain ⟨hi61, hw⟩ := hw
      refine v_lald C 2 rfl hi61 dX11_counted_61 ?_
      refine v_aload_n C dX11_counted_62 0 rfl ?_
      refine v_get (ci := 11) C inT11 0 7 rfl rfl (by decide) mF_X11_55_X11_7 rfl dX11_counted_63 ?_
      refine v_iload C dX11_counted_66 3 rfl ?_
      refine v_iconst (v := 2) C dX11_counted_68 (by decide) ?_
      refine v_iadd C dX11_counted_69 ?_
      obtain ⟨hi70, hw⟩ := hw
      refine v_lald C 2 rfl hi70 dX11_counted_70 ?_
      refine v_callFi (st := []) (ci := 11) (qb := 0) C (kX11_countPeople h0 a0 a0_0 a0_0_2 _ _ _ _ _ _ hw) mM_X11_111 mI_X11 mC_X11_countPeople mN_X11_countPeople mS_X11_countPeople rfl rfl hd_X11_countPeople ⟨Nat.le_of_ble_eq_true rfl, Nat.le_of_ble_eq_true rfl⟩ ⟨Nat.le_of_ble_eq_true rfl, Nat.le_of_ble_eq_true rfl⟩ rfl (Nat.le_of_ble_eq_true rfl) dX11_counted_71 (fun r71 U71 hw => ?_)
      obtain ⟨v71_0, v71_1, v71_2⟩ := U71
      refine v_if_ne (tgt := 86) C dX11_counted_74 (by decide) (fun hc => ?_) (fun hc => ?_)
      · have hw := hw.1 hc
        refine v_iload_n C dX11_counted_86 2 rfl ?_
        exact hret _ _ _ _ y3 (v71_0, v71_1, v71_2) dX11_counted_87 rfl hw (Nat.le_of_ble_eq_true rfl) (Nat.le_of_ble_eq_true rfl)
      · have hw := hw.2 hc
        refine v_iinc (lv' := [(3, .int (y3 + Int32.ofInt 1)), (0, .ref h0), (2, .int y2), (4, .int y4)]) C dX11_counted_77 2 rfl (by decide) rfl ?_
        refine v_iinc (lv' := [(4, .int (y4 + Int32.ofInt 3)), (3, .int (y3 + Int32.ofInt 1)), (0, .ref h0), (2, .int y2)]) C dX11_counted_80 3 rfl (by decide) rfl ?_
        refine v_goto (tgt := 40) C dX11_counted_83 (by decide) ?_
        refine v_lv C (lv' := [(0, .ref h0), (2, .int y2), (3, .int (y3 + Int32.ofInt 1)), (4, .int (y4 + Int32.ofInt 3))]) [2, 3, 1, 0] rfl ?_
        exact ih v71_0 v71_1 v71_2 y2 (y3 + Int32.ofInt 1) (y4 + Int32.ofInt 3) hw
set_option maxHeartbeats 4000000 in
set_option maxRecDepth 100000 in
theorem kX11_counted {l : Launch} {E : VE} (h0 : Nat) (a0 : Nat → Nat) (a0_0 : Nat → Nat) (a0_0_2 : Nat → Nat) (u0 : Md) (u0_0 : Md) (u0_0_2 : Md) (x1 : Int32) {Q : Int32 → Md → Md → Md → Prop} (hw : qX11_counted u0 u0_0 u0_0_2 x1 Q) : MI l yX11_counted cX11_counted 5 .int 3 0 0 E [.ref h0, .int x1] ([wX11 E h0 a0 u0, wX8 E (a0 0) a0_0 u0_0, wX2 E (a0_0 2) a0_0_2 u0_0_2].flatten) (fun (U : Md × Md × Md) => [wX11 E h0 a0 U.1, wX8 E (a0 0) a0_0 U.2.1, wX2 E (a0_0 2) a0_0_2 U.2.2].flatten) (fun (r : Int32) (U : Md × Md × Md) => Q r U.1 U.2.1 U.2.2) := by
  refine MI.of (own := RX11) (by decide) rfl (Nat.le_of_ble_eq_true rfl) ?_
  intro X C hini hret
  show VV X 0 0 ([wX11 E h0 a0 u0, wX8 E (a0 0) a0_0 u0_0, wX2 E (a0_0 2) a0_0_2 u0_0_2].flatten) [(0, .ref h0), (1, .int x1)] 0 []
  unfold qX11_counted at hw
  refine v_iload_n C dX11_counted_0 1 rfl ?_
  refine v_callSPi (st := []) C (kX11_isSlot _ hw) mM_X11_115 mI_X11 mC_X11_isSlot mT_X11_isSlot hd_X11_isSlot ⟨Nat.le_of_ble_eq_true rfl, Nat.le_of_ble_eq_true rfl⟩ ⟨Nat.le_of_ble_eq_true rfl, Nat.le_of_ble_eq_true rfl⟩ rfl (Nat.le_of_ble_eq_true rfl) dX11_counted_1 (fun r1 U1 hw => ?_)
  obtain ⟨h01_1, hw⟩ := hw
  have hw := hw h01_1
  refine v_if_ne (tgt := 10) C dX11_counted_4 (by decide) (fun hc => ?_) (fun hc => ?_)
  · have hw := hw.1 hc
    refine v_aload_n C dX11_counted_10 0 rfl ?_
    refine v_get (ci := 11) C inT11 0 9 rfl rfl (by decide) mF_X11_63_X11_9 rfl dX11_counted_11 ?_
    refine v_iload_n C dX11_counted_14 1 rfl ?_
    obtain ⟨hi15, hw⟩ := hw
    refine v_iald C 4 rfl hi15 dX11_counted_15 ?_
    refine v_iconst (v := (-1)) C dX11_counted_16 (by decide) ?_
    refine v_icmp_ne (tgt := 23) C dX11_counted_17 (by decide) (fun hc => ?_) (fun hc => ?_)
    · have hw := hw.1 hc
      refine v_aload_n C dX11_counted_23 0 rfl ?_
      refine v_get (ci := 11) C inT11 0 9 rfl rfl (by decide) mF_X11_63_X11_9 rfl dX11_counted_24 ?_
      refine v_iload_n C dX11_counted_27 1 rfl ?_
      obtain ⟨hi28, hw⟩ := hw
      refine v_iald C 4 rfl hi28 dX11_counted_28 ?_
      refine v_iconst (v := 3) C dX11_counted_29 (by decide) ?_
      refine v_idiv C dX11_counted_30 (by decide) ?_
      refine v_istore_n (lv' := [(2, .int ((gA u0 9 x1.toNatClampNeg) / 3)), (0, .ref h0), (1, .int x1)]) C dX11_counted_31 (by decide) rfl ?_
      refine v_iconst (v := 0) C dX11_counted_32 (by decide) ?_
      refine v_istore_n (lv' := [(3, .int 0), (2, .int ((gA u0 9 x1.toNatClampNeg) / 3)), (0, .ref h0), (1, .int x1)]) C dX11_counted_33 (by decide) rfl ?_
      refine v_iload_n C dX11_counted_34 3 rfl ?_
      refine v_bipush (v := 60) C dX11_counted_35 (by decide) ?_
      refine v_imul C dX11_counted_37 ?_
      refine v_istore (lv' := [(4, .int (x1 * 60)), (3, .int 0), (2, .int ((gA u0 9 x1.toNatClampNeg) / 3)), (0, .ref h0), (1, .int x1)]) C dX11_counted_38 (by decide) rfl ?_
      refine v_lv C (lv' := [(0, .ref h0), (2, .int ((gA u0 9 x1.toNatClampNeg) / 3)), (3, .int 0), (4, .int (x1 * 60))]) [3, 2, 1, 0] rfl ?_
      obtain ⟨n', hw⟩ := hw
      exact jX11_counted_40 h0 a0 a0_0 a0_0_2 Q C hret n' u0 u0_0 u0_0_2 ((gA u0 9 x1.toNatClampNeg) / 3) 0 (x1 * 60) hw
    · have hw := hw.2 hc
      refine v_bipush (v := (-6)) C dX11_counted_20 (by decide) ?_
      exact hret _ _ _ _ ((-6)) (u0, u0_0, u0_0_2) dX11_counted_22 rfl hw (Nat.le_of_ble_eq_true rfl) (Nat.le_of_ble_eq_true rfl)
  · have hw := hw.2 hc
    refine v_bipush (v := (-2)) C dX11_counted_7 (by decide) ?_
    exact hret _ _ _ _ ((-2)) (u0, u0_0, u0_0_2) dX11_counted_9 rfl hw (Nat.le_of_ble_eq_true rfl) (Nat.le_of_ble_eq_true rfl)
set_option maxHeartbeats 4000000 in
set_option maxRecDepth 100000 in
theorem kX11_isTongue {l : Launch} {E : VE} (x0 : Int32) {Q : Int32 → Prop} (hw : qX11_isTongue x0 Q) : MI l yX11_isTongue cX11_isTongue 1 .boolean 0 0 0 E [.int x0] ([]) (fun (_ : Unit) => ([] : va_W)) (fun (r : Int32) (_ : Unit) => (r = 0 ∨ r = 1) ∧ Q r) := by
  refine MI.of (own := RX11) (by decide) rfl (Nat.le_of_ble_eq_true rfl) ?_
  intro X C hini hret
  show VV X 0 0 ([]) [(0, .int x0)] 0 []
  unfold qX11_isTongue at hw
  refine v_iload_n C dX11_isTongue_0 0 rfl ?_
  refine v_if_lt (tgt := 13) C dX11_isTongue_1 (by decide) (fun hc => ?_) (fun hc => ?_)
  · have hw := hw.1 hc
    refine v_iconst (v := 0) C dX11_isTongue_13 (by decide) ?_
    exact hret _ _ _ _ 0 () dX11_isTongue_14 rfl ⟨Or.inl rfl, hw⟩ (Nat.le_of_ble_eq_true rfl) (Nat.le_of_ble_eq_true rfl)
  · have hw := hw.2 hc
    refine v_iload_n C dX11_isTongue_4 0 rfl ?_
    refine v_iconst (v := 3) C dX11_isTongue_5 (by decide) ?_
    refine v_icmp_ge (tgt := 13) C dX11_isTongue_6 (by decide) (fun hc => ?_) (fun hc => ?_)
    · have hw := hw.1 hc
      refine v_iconst (v := 0) C dX11_isTongue_13 (by decide) ?_
      exact hret _ _ _ _ 0 () dX11_isTongue_14 rfl ⟨Or.inl rfl, hw⟩ (Nat.le_of_ble_eq_true rfl) (Nat.le_of_ble_eq_true rfl)
    · have hw := hw.2 hc
      refine v_iconst (v := 1) C dX11_isTongue_9 (by decide) ?_
      refine v_goto (tgt := 14) C dX11_isTongue_10 (by decide) ?_
      exact hret _ _ _ _ 1 () dX11_isTongue_14 rfl ⟨Or.inr rfl, hw⟩ (Nat.le_of_ble_eq_true rfl) (Nat.le_of_ble_eq_true rfl)
set_option maxHeartbeats 4000000 in
set_option maxRecDepth 100000 in
theorem jX11_live_47 {X : VX} {E : VE} {l : Launch} (h0 : Nat) (a0 : Nat → Nat) (a0_0 : Nat → Nat) (a0_0_2 : Nat → Nat) (a0_4 : Nat → Nat)  (Q : Int32 → Md → Md → Md → Md → Prop) (C : VC X cX11_live 5 RX11 (rmL 3 0 0) E l) (hret : RetI X cX11_live .int 0 0 (fun (U : Md × Md × Md × Md) => [wX11 E h0 a0 U.1, wX8 E (a0 0) a0_0 U.2.1, wX2 E (a0_0 2) a0_0_2 U.2.2.1, wX10 E (a0 4) a0_4 U.2.2.2].flatten) (fun (r : Int32) (U : Md × Md × Md × Md) => Q r U.1 U.2.1 U.2.2.1 U.2.2.2))  : ∀ (u0 : Md) (u0_0 : Md) (u0_0_2 : Md) (u0_4 : Md) (y1 : Int32) (y2 : Int32) (y3 : Int32) (y4 : Int32), qX11_live_47 Q u0 u0_0 u0_0_2 u0_4 y1 y2 y3 y4 → VV X 0 0 ([wX11 E h0 a0 u0, wX8 E (a0 0) a0_0 u0_0, wX2 E (a0_0 2) a0_0_2 u0_0_2, wX10 E (a0 4) a0_4 u0_4].flatten) [(0, .ref h0), (1, .int y1), (2, .int y2), (3, .int y3), (4, .int y4)] 47 [] := by
  intro u0 u0_0 u0_0_2 u0_4 y1 y2 y3 y4 hw
  unfold qX11_live_47 at hw
  refine v_aload_n C dX11_live_47 0 rfl ?_
  refine v_get (ci := 11) C inT11 0 4 rfl rfl (by decide) mF_X11_37_X11_4 rfl dX11_live_48 ?_
  refine v_aload_n C dX11_live_51 0 rfl ?_
  refine v_get (ci := 11) C inT11 0 0 rfl rfl (by decide) mF_X11_10_X11_0 rfl dX11_live_52 ?_
  refine v_get (ci := 8) C inT8 5 2 rfl rfl (by decide) mF_X11_87_X8_2 rfl dX11_live_55 ?_
  refine v_iload_n C dX11_live_58 1 rfl ?_
  refine v_iload_n C dX11_live_59 3 rfl ?_
  refine v_iload C dX11_live_60 4 rfl ?_
  refine v_imin C mM_X11_121 ⟨Nat.le_of_ble_eq_true rfl, Nat.le_of_ble_eq_true rfl, Nat.le_of_ble_eq_true rfl, Nat.le_of_ble_eq_true rfl⟩ dX11_live_62 ?_
  refine v_callVMv (st := []) (ci := 10) (qb := 16) C (kX10_gather ((a0 4)) ((a0_0 2)) a0_4 a0_0_2 _ _ _ _ hw) mM_X11_126 mI_X10 mC_X10_gather mN_X10_gather mS_X10_gather rfl rfl hd_X10_gather ⟨Nat.le_of_ble_eq_true rfl, Nat.le_of_ble_eq_true rfl⟩ ⟨Nat.le_of_ble_eq_true rfl, Nat.le_of_ble_eq_true rfl⟩ [3, 2] [0, 1] (N0 := 4) rfl (by decide) (ms2 := (fun (U : Md × Md) => [wX11 E h0 a0 u0, wX8 E (a0 0) a0_0 u0_0, wX2 E (a0_0 2) a0_0_2 U.2, wX10 E (a0 4) a0_4 U.1])) rfl (fun _ => rfl) (fun _ => rfl) (fun _ => rfl) rfl (Nat.le_of_ble_eq_true rfl) dX11_live_65 (fun U65 hw => ?_)
  obtain ⟨v65_0, v65_1⟩ := U65
  refine v_iload_n C dX11_live_68 2 rfl ?_
  refine v_iconst (v := (-1)) C dX11_live_69 (by decide) ?_
  refine v_icmp_ne (tgt := 83) C dX11_live_70 (by decide) (fun hc => ?_) (fun hc => ?_)
  · have hw := hw.1 hc
    refine v_aload_n C dX11_live_83 0 rfl ?_
    refine v_get (ci := 11) C inT11 0 4 rfl rfl (by decide) mF_X11_37_X11_4 rfl dX11_live_84 ?_
    refine v_get (ci := 10) C inT10 16 2 rfl rfl (by decide) mF_X11_134_X10_2 rfl dX11_live_87 ?_
    refine v_iload_n C dX11_live_90 2 rfl ?_
    obtain ⟨hi91, hw⟩ := hw
    refine v_iald C 19 rfl hi91 dX11_live_91 ?_
    exact hret _ _ _ _ (gA v65_0 2 y2.toNatClampNeg) (u0, u0_0, v65_1, v65_0) dX11_live_92 rfl hw (Nat.le_of_ble_eq_true rfl) (Nat.le_of_ble_eq_true rfl)
  · have hw := hw.2 hc
    refine v_aload_n C dX11_live_73 0 rfl ?_
    refine v_get (ci := 11) C inT11 0 4 rfl rfl (by decide) mF_X11_37_X11_4 rfl dX11_live_74 ?_
    refine v_callVMi (st := []) (ci := 10) (qb := 16) C (kX10_everyone ((a0 4)) a0_4 _ hw) mM_X11_130 mI_X10 mC_X10_everyone mN_X10_everyone mS_X10_everyone rfl rfl hd_X10_everyone ⟨Nat.le_of_ble_eq_true rfl, Nat.le_of_ble_eq_true rfl⟩ ⟨Nat.le_of_ble_eq_true rfl, Nat.le_of_ble_eq_true rfl⟩ [3] [0, 1, 2] (N0 := 4) rfl (by decide) (ms2 := (fun (U : Md) => [wX11 E h0 a0 u0, wX8 E (a0 0) a0_0 u0_0, wX2 E (a0_0 2) a0_0_2 v65_1, wX10 E (a0 4) a0_4 U])) rfl (fun _ => rfl) (fun _ => rfl) (fun _ => rfl) rfl (Nat.le_of_ble_eq_true rfl) dX11_live_77 (fun r77 v77_0 hw => ?_)
    refine v_goto (tgt := 92) C dX11_live_80 (by decide) ?_
    exact hret _ _ _ _ r77 (u0, u0_0, v65_1, v77_0) dX11_live_92 rfl hw (Nat.le_of_ble_eq_true rfl) (Nat.le_of_ble_eq_true rfl)
set_option maxHeartbeats 4000000 in
set_option maxRecDepth 100000 in
theorem kX11_live {l : Launch} {E : VE} (h0 : Nat) (a0 : Nat → Nat) (a0_0 : Nat → Nat) (a0_0_2 : Nat → Nat) (a0_4 : Nat → Nat) (u0 : Md) (u0_0 : Md) (u0_0_2 : Md) (u0_4 : Md) (x1 : Int32) (x2 : Int32) (x3 : Int32) (x4 : Int32) {Q : Int32 → Md → Md → Md → Md → Prop} (hw : qX11_live u0 u0_0 u0_0_2 u0_4 x1 x2 x3 x4 Q) : MI l yX11_live cX11_live 5 .int 3 0 0 E [.ref h0, .int x1, .int x2, .int x3, .int x4] ([wX11 E h0 a0 u0, wX8 E (a0 0) a0_0 u0_0, wX2 E (a0_0 2) a0_0_2 u0_0_2, wX10 E (a0 4) a0_4 u0_4].flatten) (fun (U : Md × Md × Md × Md) => [wX11 E h0 a0 U.1, wX8 E (a0 0) a0_0 U.2.1, wX2 E (a0_0 2) a0_0_2 U.2.2.1, wX10 E (a0 4) a0_4 U.2.2.2].flatten) (fun (r : Int32) (U : Md × Md × Md × Md) => Q r U.1 U.2.1 U.2.2.1 U.2.2.2) := by
  refine MI.of (own := RX11) (by decide) rfl (Nat.le_of_ble_eq_true rfl) ?_
  intro X C hini hret
  show VV X 0 0 ([wX11 E h0 a0 u0, wX8 E (a0 0) a0_0 u0_0, wX2 E (a0_0 2) a0_0_2 u0_0_2, wX10 E (a0 4) a0_4 u0_4].flatten) [(0, .ref h0), (1, .int x1), (2, .int x2), (3, .int x3), (4, .int x4)] 0 []
  unfold qX11_live at hw
  refine v_aload_n C dX11_live_0 0 rfl ?_
  refine v_get (ci := 11) C inT11 0 0 rfl rfl (by decide) mF_X11_10_X11_0 rfl dX11_live_1 ?_
  refine v_get (ci := 8) C inT8 5 2 rfl rfl (by decide) mF_X11_87_X8_2 rfl dX11_live_4 ?_
  refine v_iload_n C dX11_live_7 1 rfl ?_
  refine v_callVMi (st := []) (ci := 2) (qb := 7) C (kX2_has ((a0_0 2)) a0_0_2 _ _ hw) mM_X11_97 mI_X2 mC_X2_has mN_X2_has mS_X2_has rfl rfl hd_X2_has ⟨Nat.le_of_ble_eq_true rfl, Nat.le_of_ble_eq_true rfl⟩ ⟨Nat.le_of_ble_eq_true rfl, Nat.le_of_ble_eq_true rfl⟩ [2] [0, 1, 3] (N0 := 4) rfl (by decide) (ms2 := (fun (U : Md) => [wX11 E h0 a0 u0, wX8 E (a0 0) a0_0 u0_0, wX2 E (a0_0 2) a0_0_2 U, wX10 E (a0 4) a0_4 u0_4])) rfl (fun _ => rfl) (fun _ => rfl) (fun _ => rfl) rfl (Nat.le_of_ble_eq_true rfl) dX11_live_8 (fun r8 v8_0 hw => ?_)
  obtain ⟨h01_8, hw⟩ := hw
  have hw := hw h01_8
  refine v_if_eq (tgt := 29) C dX11_live_11 (by decide) (fun hc => ?_) (fun hc => ?_)
  · have hw := hw.1 hc
    refine v_bipush (v := (-2)) C dX11_live_29 (by decide) ?_
    exact hret _ _ _ _ ((-2)) (u0, u0_0, v8_0, u0_4) dX11_live_31 rfl hw (Nat.le_of_ble_eq_true rfl) (Nat.le_of_ble_eq_true rfl)
  · have hw := hw.2 hc
    refine v_iload_n C dX11_live_14 3 rfl ?_
    refine v_callSPi (st := []) C (kX11_isYear _ hw) mM_X11_80 mI_X11 mC_X11_isYear mT_X11_isYear hd_X11_isYear ⟨Nat.le_of_ble_eq_true rfl, Nat.le_of_ble_eq_true rfl⟩ ⟨Nat.le_of_ble_eq_true rfl, Nat.le_of_ble_eq_true rfl⟩ rfl (Nat.le_of_ble_eq_true rfl) dX11_live_15 (fun r15 U15 hw => ?_)
    obtain ⟨h01_15, hw⟩ := hw
    have hw := hw h01_15
    refine v_if_eq (tgt := 29) C dX11_live_18 (by decide) (fun hc => ?_) (fun hc => ?_)
    · have hw := hw.1 hc
      refine v_bipush (v := (-2)) C dX11_live_29 (by decide) ?_
      exact hret _ _ _ _ ((-2)) (u0, u0_0, v8_0, u0_4) dX11_live_31 rfl hw (Nat.le_of_ble_eq_true rfl) (Nat.le_of_ble_eq_true rfl)
    · have hw := hw.2 hc
      refine v_iload C dX11_live_21 4 rfl ?_
      refine v_callSPi (st := []) C (kX11_isYear _ hw) mM_X11_80 mI_X11 mC_X11_isYear mT_X11_isYear hd_X11_isYear ⟨Nat.le_of_ble_eq_true rfl, Nat.le_of_ble_eq_true rfl⟩ ⟨Nat.le_of_ble_eq_true rfl, Nat.le_of_ble_eq_true rfl⟩ rfl (Nat.le_of_ble_eq_true rfl) dX11_live_23 (fun r23 U23 hw => ?_)
      obtain ⟨h01_23, hw⟩ := hw
      have hw := hw h01_23
      refine v_if_ne (tgt := 32) C dX11_live_26 (by decide) (fun hc => ?_) (fun hc => ?_)
      · have hw := hw.1 hc
        refine v_iload_n C dX11_live_32 2 rfl ?_
        refine v_iconst (v := (-1)) C dX11_live_33 (by decide) ?_
        refine v_icmp_eq (tgt := 47) C dX11_live_34 (by decide) (fun hc => ?_) (fun hc => ?_)
        · have hw := hw.1 hc
          exact jX11_live_47 h0 a0 a0_0 a0_0_2 a0_4 Q C hret u0 u0_0 v8_0 u0_4 x1 x2 x3 x4 hw
        · have hw := hw.2 hc
          refine v_iload_n C dX11_live_37 2 rfl ?_
          refine v_callSPi (st := []) C (kX11_isTongue _ hw) mM_X11_118 mI_X11 mC_X11_isTongue mT_X11_isTongue hd_X11_isTongue ⟨Nat.le_of_ble_eq_true rfl, Nat.le_of_ble_eq_true rfl⟩ ⟨Nat.le_of_ble_eq_true rfl, Nat.le_of_ble_eq_true rfl⟩ rfl (Nat.le_of_ble_eq_true rfl) dX11_live_38 (fun r38 U38 hw => ?_)
          obtain ⟨h01_38, hw⟩ := hw
          have hw := hw h01_38
          refine v_if_ne (tgt := 47) C dX11_live_41 (by decide) (fun hc => ?_) (fun hc => ?_)
          · have hw := hw.1 hc
            exact jX11_live_47 h0 a0 a0_0 a0_0_2 a0_4 Q C hret u0 u0_0 v8_0 u0_4 x1 x2 x3 x4 hw
          · have hw := hw.2 hc
            refine v_bipush (v := (-2)) C dX11_live_44 (by decide) ?_
            exact hret _ _ _ _ ((-2)) (u0, u0_0, v8_0, u0_4) dX11_live_46 rfl hw (Nat.le_of_ble_eq_true rfl) (Nat.le_of_ble_eq_true rfl)
      · have hw := hw.2 hc
        refine v_bipush (v := (-2)) C dX11_live_29 (by decide) ?_
        exact hret _ _ _ _ ((-2)) (u0, u0_0, v8_0, u0_4) dX11_live_31 rfl hw (Nat.le_of_ble_eq_true rfl) (Nat.le_of_ble_eq_true rfl)
