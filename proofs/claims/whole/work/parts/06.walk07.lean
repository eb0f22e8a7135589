set_option maxHeartbeats 4000000 in
set_option maxRecDepth 100000 in
theorem jX11_plan_19 {X : VX} {E : VE} {l : Launch} (h0 : Nat) (a0 : Nat → Nat) (a0_0 : Nat → Nat) (a0_0_2 : Nat → Nat) (a0_0_3 : Nat → Nat) (a0_0_4 : Nat → Nat) (a0_0_5 : Nat → Nat) (a0_0_6 : Nat → Nat) (a0_4 : Nat → Nat) (a0_4_6 : Nat → Nat) (a0_4_7 : Nat → Nat) (a0_5 : Nat → Nat)  (Q : Int32 → Md → Md → Md → Md → Md → Md → Md → Md → Md → Md → Md → Prop) (C : VC X cX11_plan 3 RX11 (rmL 6 0 0) E l) (hret : RetI X cX11_plan .int 0 0 (fun (U : Md × Md × Md × Md × Md × Md × Md × Md × Md × Md × Md) => [wX11 E h0 a0 U.1, wX8 E (a0 0) a0_0 U.2.1, wX2 E (a0_0 2) a0_0_2 U.2.2.1, wX7 E (a0_0 3) a0_0_3 U.2.2.2.1, wX0 E (a0_0 4) a0_0_4 U.2.2.2.2.1, wX1 E (a0_0 5) a0_0_5 U.2.2.2.2.2.1, wX6 E (a0_0 6) a0_0_6 U.2.2.2.2.2.2.1, wX10 E (a0 4) a0_4 U.2.2.2.2.2.2.2.1, wX5 E (a0_4 6) a0_4_6 U.2.2.2.2.2.2.2.2.1, wX5 E (a0_4 7) a0_4_7 U.2.2.2.2.2.2.2.2.2.1, wX4 E (a0 5) a0_5 U.2.2.2.2.2.2.2.2.2.2].flatten) (fun (r : Int32) (U : Md × Md × Md × Md × Md × Md × Md × Md × Md × Md × Md) => Q r U.1 U.2.1 U.2.2.1 U.2.2.2.1 U.2.2.2.2.1 U.2.2.2.2.2.1 U.2.2.2.2.2.2.1 U.2.2.2.2.2.2.2.1 U.2.2.2.2.2.2.2.2.1 U.2.2.2.2.2.2.2.2.2.1 U.2.2.2.2.2.2.2.2.2.2))  : ∀ (n : Nat), ∀ (u0 : Md) (u0_0 : Md) (u0_0_2 : Md) (u0_0_3 : Md) (u0_0_4 : Md) (u0_0_5 : Md) (u0_0_6 : Md) (u0_4 : Md) (u0_4_6 : Md) (u0_4_7 : Md) (u0_5 : Md) (y1 : Int32) (y2 : Int32), qX11_plan_19 Q n u0 u0_0 u0_0_2 u0_0_3 u0_0_4 u0_0_5 u0_0_6 u0_4 u0_4_6 u0_4_7 u0_5 y1 y2 → VV X 0 0 ([wX11 E h0 a0 u0, wX8 E (a0 0) a0_0 u0_0, wX2 E (a0_0 2) a0_0_2 u0_0_2, wX7 E (a0_0 3) a0_0_3 u0_0_3, wX0 E (a0_0 4) a0_0_4 u0_0_4, wX1 E (a0_0 5) a0_0_5 u0_0_5, wX6 E (a0_0 6) a0_0_6 u0_0_6, wX10 E (a0 4) a0_4 u0_4, wX5 E (a0_4 6) a0_4_6 u0_4_6, wX5 E (a0_4 7) a0_4_7 u0_4_7, wX4 E (a0 5) a0_5 u0_5].flatten) [(0, .ref h0), (1, .int y1), (2, .int y2)] 19 [] := by
  intro n
  induction n with
  | zero =>
    intro u0 u0_0 u0_0_2 u0_0_3 u0_0_4 u0_0_5 u0_0_6 u0_4 u0_4_6 u0_4_7 u0_5 y1 y2 hw
    exact hw.elim
  | succ n ih =>
    intro u0 u0_0 u0_0_2 u0_0_3 u0_0_4 u0_0_5 u0_0_6 u0_4 u0_4_6 u0_4_7 u0_5 y1 y2 hw
    unfold qX11_plan_19 at hw
    refine v_iload_n C dX11_plan_19 2 rfl ?_
    refine v_aload_n C dX11_plan_20 0 rfl ?_
    refine v_get (ci := 11) C inT11 0 0 rfl rfl (by decide) mF_X11_10_X11_0 rfl dX11_plan_21 ?_
    refine v_get (ci := 8) C inT8 5 6 rfl rfl (by decide) mF_X11_266_X8_6 rfl dX11_plan_24 ?_
    refine v_get (ci := 6) C inT6 54 0 rfl rfl (by decide) mF_X11_296_X6_0 rfl dX11_plan_27 ?_
    refine v_icmp_ge (tgt := 80) C dX11_plan_30 (by decide) (fun hc => ?_) (fun hc => ?_)
    · have hw := hw.1 hc
      refine v_aload_n C dX11_plan_80 0 rfl ?_
      refine v_get (ci := 11) C inT11 0 5 rfl rfl (by decide) mF_X11_44_X11_5 rfl dX11_plan_81 ?_
      refine v_iload_n C dX11_plan_84 1 rfl ?_
      refine v_callVMi (st := []) (ci := 4) (qb := 72) C (kX4_leastSum ((a0 5)) a0_5 _ _ hw) mM_X11_300 mI_X4 mC_X4_leastSum mN_X4_leastSum mS_X4_leastSum rfl rfl hd_X4_leastSum ⟨Nat.le_of_ble_eq_true rfl, Nat.le_of_ble_eq_true rfl⟩ ⟨Nat.le_of_ble_eq_true rfl, Nat.le_of_ble_eq_true rfl⟩ [10] [0, 1, 2, 3, 4, 5, 6, 7, 8, 9] (N0 := 11) rfl (by decide) (ms2 := (fun (U : Md) => [wX11 E h0 a0 u0, wX8 E (a0 0) a0_0 u0_0, wX2 E (a0_0 2) a0_0_2 u0_0_2, wX7 E (a0_0 3) a0_0_3 u0_0_3, wX0 E (a0_0 4) a0_0_4 u0_0_4, wX1 E (a0_0 5) a0_0_5 u0_0_5, wX6 E (a0_0 6) a0_0_6 u0_0_6, wX10 E (a0 4) a0_4 u0_4, wX5 E (a0_4 6) a0_4_6 u0_4_6, wX5 E (a0_4 7) a0_4_7 u0_4_7, wX4 E (a0 5) a0_5 U])) rfl (fun _ => rfl) (fun _ => rfl) (fun _ => rfl) rfl (Nat.le_of_ble_eq_true rfl) dX11_plan_85 (fun r85 v85_0 hw => ?_)
      exact hret _ _ _ _ r85 (u0, u0_0, u0_0_2, u0_0_3, u0_0_4, u0_0_5, u0_0_6, u0_4, u0_4_6, u0_4_7, v85_0) dX11_plan_88 rfl hw (Nat.le_of_ble_eq_true rfl) (Nat.le_of_ble_eq_true rfl)
    · have hw := hw.2 hc
      refine v_aload_n C dX11_plan_33 0 rfl ?_
      refine v_get (ci := 11) C inT11 0 4 rfl rfl (by decide) mF_X11_37_X11_4 rfl dX11_plan_34 ?_
      refine v_aload_n C dX11_plan_37 0 rfl ?_
      refine v_get (ci := 11) C inT11 0 0 rfl rfl (by decide) mF_X11_10_X11_0 rfl dX11_plan_38 ?_
      refine v_iload_n C dX11_plan_41 2 rfl ?_
      refine v_callVMi (st := []) (ci := 10) (qb := 58) C (kX10_isLame ((a0 4)) ((a0 0)) a0_4 a0_4_6 a0_4_7 a0_0 a0_0_2 a0_0_3 a0_0_4 a0_0_5 a0_0_6 _ _ _ _ _ _ _ _ _ _ hw) mM_X11_279 mI_X10 mC_X10_isLame mN_X10_isLame mS_X10_isLame rfl rfl hd_X10_isLame ⟨Nat.le_of_ble_eq_true rfl, Nat.le_of_ble_eq_true rfl⟩ ⟨Nat.le_of_ble_eq_true rfl, Nat.le_of_ble_eq_true rfl⟩ [7, 8, 9, 1, 2, 3, 4, 5, 6] [0, 10] (N0 := 11) rfl (by decide) (ms2 := (fun (U : Md × Md × Md × Md × Md × Md × Md × Md × Md) => [wX11 E h0 a0 u0, wX8 E (a0 0) a0_0 U.2.2.2.1, wX2 E (a0_0 2) a0_0_2 U.2.2.2.2.1, wX7 E (a0_0 3) a0_0_3 U.2.2.2.2.2.1, wX0 E (a0_0 4) a0_0_4 U.2.2.2.2.2.2.1, wX1 E (a0_0 5) a0_0_5 U.2.2.2.2.2.2.2.1, wX6 E (a0_0 6) a0_0_6 U.2.2.2.2.2.2.2.2, wX10 E (a0 4) a0_4 U.1, wX5 E (a0_4 6) a0_4_6 U.2.1, wX5 E (a0_4 7) a0_4_7 U.2.2.1, wX4 E (a0 5) a0_5 u0_5])) rfl (fun _ => rfl) (fun _ => rfl) (fun _ => rfl) rfl (Nat.le_of_ble_eq_true rfl) dX11_plan_42 (fun r42 U42 hw => ?_)
      obtain ⟨v42_0, v42_1, v42_2, v42_3, v42_4, v42_5, v42_6, v42_7, v42_8⟩ := U42
      obtain ⟨h01_42, hw⟩ := hw
      have hw := hw h01_42
      refine v_if_eq (tgt := 74) C dX11_plan_45 (by decide) (fun hc => ?_) (fun hc => ?_)
      · have hw := hw.1 hc
        refine v_iinc (lv' := [(2, .int (y2 + Int32.ofInt 1)), (0, .ref h0), (1, .int y1)]) C dX11_plan_74 2 rfl (by decide) rfl ?_
        refine v_goto (tgt := 19) C dX11_plan_77 (by decide) ?_
        refine v_lv C (lv' := [(0, .ref h0), (1, .int y1), (2, .int (y2 + Int32.ofInt 1))]) [1, 2, 0] rfl ?_
        exact ih u0 v42_3 v42_4 v42_5 v42_6 v42_7 v42_8 v42_0 v42_1 v42_2 u0_5 y1 (y2 + Int32.ofInt 1) hw
      · have hw := hw.2 hc
        refine v_aload_n C dX11_plan_48 0 rfl ?_
        refine v_get (ci := 11) C inT11 0 5 rfl rfl (by decide) mF_X11_44_X11_5 rfl dX11_plan_49 ?_
        refine v_iload_n C dX11_plan_52 2 rfl ?_
        refine v_aload_n C dX11_plan_53 0 rfl ?_
        refine v_get (ci := 11) C inT11 0 0 rfl rfl (by decide) mF_X11_10_X11_0 rfl dX11_plan_54 ?_
        refine v_get (ci := 8) C inT8 5 6 rfl rfl (by decide) mF_X11_266_X8_6 rfl dX11_plan_57 ?_
        refine v_get (ci := 6) C inT6 54 2 rfl rfl (by decide) mF_X11_290_X6_2 rfl dX11_plan_60 ?_
        refine v_iload_n C dX11_plan_63 2 rfl ?_
        obtain ⟨hi64, hw⟩ := hw
        refine v_iald C 56 rfl hi64 dX11_plan_64 ?_
        refine v_iload_n C dX11_plan_65 1 rfl ?_
        refine v_callVMi (st := []) (ci := 4) (qb := 72) C (kX4_take ((a0 5)) a0_5 _ _ _ _ hw) mM_X11_297 mI_X4 mC_X4_take mN_X4_take mS_X4_take rfl rfl hd_X4_take ⟨Nat.le_of_ble_eq_true rfl, Nat.le_of_ble_eq_true rfl⟩ ⟨Nat.le_of_ble_eq_true rfl, Nat.le_of_ble_eq_true rfl⟩ [10] [0, 1, 2, 3, 4, 5, 6, 7, 8, 9] (N0 := 11) rfl (by decide) (ms2 := (fun (U : Md) => [wX11 E h0 a0 u0, wX8 E (a0 0) a0_0 v42_3, wX2 E (a0_0 2) a0_0_2 v42_4, wX7 E (a0_0 3) a0_0_3 v42_5, wX0 E (a0_0 4) a0_0_4 v42_6, wX1 E (a0_0 5) a0_0_5 v42_7, wX6 E (a0_0 6) a0_0_6 v42_8, wX10 E (a0 4) a0_4 v42_0, wX5 E (a0_4 6) a0_4_6 v42_1, wX5 E (a0_4 7) a0_4_7 v42_2, wX4 E (a0 5) a0_5 U])) rfl (fun _ => rfl) (fun _ => rfl) (fun _ => rfl) rfl (Nat.le_of_ble_eq_true rfl) dX11_plan_66 (fun r66 v66_0 hw => ?_)
        obtain ⟨h01_66, hw⟩ := hw
        have hw := hw h01_66
        refine v_if_ne (tgt := 74) C dX11_plan_69 (by decide) (fun hc => ?_) (fun hc => ?_)
        · have hw := hw.1 hc
          refine v_iinc (lv' := [(2, .int (y2 + Int32.ofInt 1)), (0, .ref h0), (1, .int y1)]) C dX11_plan_74 2 rfl (by decide) rfl ?_
          refine v_goto (tgt := 19) C dX11_plan_77 (by decide) ?_
          refine v_lv C (lv' := [(0, .ref h0), (1, .int y1), (2, .int (y2 + Int32.ofInt 1))]) [1, 2, 0] rfl ?_
          exact ih u0 v42_3 v42_4 v42_5 v42_6 v42_7 v42_8 v42_0 v42_1 v42_2 v66_0 y1 (y2 + Int32.ofInt 1) hw
        · have hw := hw.2 hc
          refine v_iconst (v := (-1)) C dX11_plan_72 (by decide) ?_
          exact hret _ _ _ _ ((-1)) (u0, v42_3, v42_4, v42_5, v42_6, v42_7, v42_8, v42_0, v42_1, v42_2, v66_0) dX11_plan_73 rfl hw (Nat.le_of_ble_eq_true rfl) (Nat.le_of_ble_eq_true rfl)
set_option maxHeartbeats 4000000 in
set_option maxRecDepth 100000 in
theorem kX11_plan {l : Launch} {E : VE} (h0 : Nat) (a0 : Nat → Nat) (a0_0 : Nat → Nat) (a0_0_2 : Nat → Nat) (a0_0_3 : Nat → Nat) (a0_0_4 : Nat → Nat) (a0_0_5 : Nat → Nat) (a0_0_6 : Nat → Nat) (a0_4 : Nat → Nat) (a0_4_6 : Nat → Nat) (a0_4_7 : Nat → Nat) (a0_5 : Nat → Nat) (u0 : Md) (u0_0 : Md) (u0_0_2 : Md) (u0_0_3 : Md) (u0_0_4 : Md) (u0_0_5 : Md) (u0_0_6 : Md) (u0_4 : Md) (u0_4_6 : Md) (u0_4_7 : Md) (u0_5 : Md) (x1 : Int32) {Q : Int32 → Md → Md → Md → Md → Md → Md → Md → Md → Md → Md → Md → Prop} (hw : qX11_plan u0 u0_0 u0_0_2 u0_0_3 u0_0_4 u0_0_5 u0_0_6 u0_4 u0_4_6 u0_4_7 u0_5 x1 Q) : MI l yX11_plan cX11_plan 3 .int 6 0 0 E [.ref h0, .int x1] ([wX11 E h0 a0 u0, wX8 E (a0 0) a0_0 u0_0, wX2 E (a0_0 2) a0_0_2 u0_0_2, wX7 E (a0_0 3) a0_0_3 u0_0_3, wX0 E (a0_0 4) a0_0_4 u0_0_4, wX1 E (a0_0 5) a0_0_5 u0_0_5, wX6 E (a0_0 6) a0_0_6 u0_0_6, wX10 E (a0 4) a0_4 u0_4, wX5 E (a0_4 6) a0_4_6 u0_4_6, wX5 E (a0_4 7) a0_4_7 u0_4_7, wX4 E (a0 5) a0_5 u0_5].flatten) (fun (U : Md × Md × Md × Md × Md × Md × Md × Md × Md × Md × Md) => [wX11 E h0 a0 U.1, wX8 E (a0 0) a0_0 U.2.1, wX2 E (a0_0 2) a0_0_2 U.2.2.1, wX7 E (a0_0 3) a0_0_3 U.2.2.2.1, wX0 E (a0_0 4) a0_0_4 U.2.2.2.2.1, wX1 E (a0_0 5) a0_0_5 U.2.2.2.2.2.1, wX6 E (a0_0 6) a0_0_6 U.2.2.2.2.2.2.1, wX10 E (a0 4) a0_4 U.2.2.2.2.2.2.2.1, wX5 E (a0_4 6) a0_4_6 U.2.2.2.2.2.2.2.2.1, wX5 E (a0_4 7) a0_4_7 U.2.2.2.2.2.2.2.2.2.1, wX4 E (a0 5) a0_5 U.2.2.2.2.2.2.2.2.2.2].flatten) (fun (r : Int32) (U : Md × Md × Md × Md × Md × Md × Md × Md × Md × Md × Md) => Q r U.1 U.2.1 U.2.2.1 U.2.2.2.1 U.2.2.2.2.1 U.2.2.2.2.2.1 U.2.2.2.2.2.2.1 U.2.2.2.2.2.2.2.1 U.2.2.2.2.2.2.2.2.1 U.2.2.2.2.2.2.2.2.2.1 U.2.2.2.2.2.2.2.2.2.2) := by
  refine MI.of (own := RX11) (by decide) rfl (Nat.le_of_ble_eq_true rfl) ?_
  intro X C hini hret
  show VV X 0 0 ([wX11 E h0 a0 u0, wX8 E (a0 0) a0_0 u0_0, wX2 E (a0_0 2) a0_0_2 u0_0_2, wX7 E (a0_0 3) a0_0_3 u0_0_3, wX0 E (a0_0 4) a0_0_4 u0_0_4, wX1 E (a0_0 5) a0_0_5 u0_0_5, wX6 E (a0_0 6) a0_0_6 u0_0_6, wX10 E (a0 4) a0_4 u0_4, wX5 E (a0_4 6) a0_4_6 u0_4_6, wX5 E (a0_4 7) a0_4_7 u0_4_7, wX4 E (a0 5) a0_5 u0_5].flatten) [(0, .ref h0), (1, .int x1)] 0 []
  unfold qX11_plan at hw
  refine v_iload_n C dX11_plan_0 1 rfl ?_
  refine v_callSPi (st := []) C (kX11_isNumber _ hw) mM_X11_263 mI_X11 mC_X11_isNumber mT_X11_isNumber hd_X11_isNumber ⟨Nat.le_of_ble_eq_true rfl, Nat.le_of_ble_eq_true rfl⟩ ⟨Nat.le_of_ble_eq_true rfl, Nat.le_of_ble_eq_true rfl⟩ rfl (Nat.le_of_ble_eq_true rfl) dX11_plan_1 (fun r1 U1 hw => ?_)
  obtain ⟨h01_1, hw⟩ := hw
  have hw := hw h01_1
  refine v_if_ne (tgt := 10) C dX11_plan_4 (by decide) (fun hc => ?_) (fun hc => ?_)
  · have hw := hw.1 hc
    refine v_aload_n C dX11_plan_10 0 rfl ?_
    refine v_get (ci := 11) C inT11 0 5 rfl rfl (by decide) mF_X11_44_X11_5 rfl dX11_plan_11 ?_
    refine v_callVMv (st := []) (ci := 4) (qb := 72) C (kX4_begin ((a0 5)) a0_5 _ hw) mM_X11_293 mI_X4 mC_X4_begin mN_X4_begin mS_X4_begin rfl rfl hd_X4_begin ⟨Nat.le_of_ble_eq_true rfl, Nat.le_of_ble_eq_true rfl⟩ ⟨Nat.le_of_ble_eq_true rfl, Nat.le_of_ble_eq_true rfl⟩ [10] [0, 1, 2, 3, 4, 5, 6, 7, 8, 9] (N0 := 11) rfl (by decide) (ms2 := (fun (U : Md) => [wX11 E h0 a0 u0, wX8 E (a0 0) a0_0 u0_0, wX2 E (a0_0 2) a0_0_2 u0_0_2, wX7 E (a0_0 3) a0_0_3 u0_0_3, wX0 E (a0_0 4) a0_0_4 u0_0_4, wX1 E (a0_0 5) a0_0_5 u0_0_5, wX6 E (a0_0 6) a0_0_6 u0_0_6, wX10 E (a0 4) a0_4 u0_4, wX5 E (a0_4 6) a0_4_6 u0_4_6, wX5 E (a0_4 7) a0_4_7 u0_4_7, wX4 E (a0 5) a0_5 U])) rfl (fun _ => rfl) (fun _ => rfl) (fun _ => rfl) rfl (Nat.le_of_ble_eq_true rfl) dX11_plan_14 (fun v14_0 hw => ?_)
    refine v_iconst (v := 0) C dX11_plan_17 (by decide) ?_
    refine v_istore_n (lv' := [(2, .int 0), (0, .ref h0), (1, .int x1)]) C dX11_plan_18 (by decide) rfl ?_
    refine v_lv C (lv' := [(0, .ref h0), (1, .int x1), (2, .int 0)]) [1, 2, 0] rfl ?_
    obtain ⟨n', hw⟩ := hw
    exact jX11_plan_19 h0 a0 a0_0 a0_0_2 a0_0_3 a0_0_4 a0_0_5 a0_0_6 a0_4 a0_4_6 a0_4_7 a0_5 Q C hret n' u0 u0_0 u0_0_2 u0_0_3 u0_0_4 u0_0_5 u0_0_6 u0_4 u0_4_6 u0_4_7 v14_0 x1 0 hw
  · have hw := hw.2 hc
    refine v_bipush (v := (-2)) C dX11_plan_7 (by decide) ?_
    exact hret _ _ _ _ ((-2)) (u0, u0_0, u0_0_2, u0_0_3, u0_0_4, u0_0_5, u0_0_6, u0_4, u0_4_6, u0_4_7, u0_5) dX11_plan_9 rfl hw (Nat.le_of_ble_eq_true rfl) (Nat.le_of_ble_eq_true rfl)
set_option maxHeartbeats 4000000 in
set_option maxRecDepth 100000 in
theorem kX11_planned {l : Launch} {E : VE} (h0 : Nat) (a0 : Nat → Nat) (a0_5 : Nat → Nat) (u0 : Md) (u0_5 : Md) (x1 : Int32) {Q : Int32 → Md → Md → Prop} (hw : qX11_planned u0 u0_5 x1 Q) : MI l yX11_planned cX11_planned 2 .int 0 0 0 E [.ref h0, .int x1] ([wX11 E h0 a0 u0, wX4 E (a0 5) a0_5 u0_5].flatten) (fun (U : Md × Md) => [wX11 E h0 a0 U.1, wX4 E (a0 5) a0_5 U.2].flatten) (fun (r : Int32) (U : Md × Md) => Q r U.1 U.2) := by
  refine MI.of (own := RX11) (by decide) rfl (Nat.le_of_ble_eq_true rfl) ?_
  intro X C hini hret
  show VV X 0 0 ([wX11 E h0 a0 u0, wX4 E (a0 5) a0_5 u0_5].flatten) [(0, .ref h0), (1, .int x1)] 0 []
  unfold qX11_planned at hw
  refine v_iload_n C dX11_planned_0 1 rfl ?_
  refine v_if_lt (tgt := 22) C dX11_planned_1 (by decide) (fun hc => ?_) (fun hc => ?_)
  · have hw := hw.1 hc
    refine v_iconst (v := (-1)) C dX11_planned_22 (by decide) ?_
    exact hret _ _ _ _ ((-1)) (u0, u0_5) dX11_planned_23 rfl hw (Nat.le_of_ble_eq_true rfl) (Nat.le_of_ble_eq_true rfl)
  · have hw := hw.2 hc
    refine v_iload_n C dX11_planned_4 1 rfl ?_
    refine v_bipush (v := 40) C dX11_planned_5 (by decide) ?_
    refine v_icmp_ge (tgt := 22) C dX11_planned_7 (by decide) (fun hc => ?_) (fun hc => ?_)
    · have hw := hw.1 hc
      refine v_iconst (v := (-1)) C dX11_planned_22 (by decide) ?_
      exact hret _ _ _ _ ((-1)) (u0, u0_5) dX11_planned_23 rfl hw (Nat.le_of_ble_eq_true rfl) (Nat.le_of_ble_eq_true rfl)
    · have hw := hw.2 hc
      refine v_aload_n C dX11_planned_10 0 rfl ?_
      refine v_get (ci := 11) C inT11 0 5 rfl rfl (by decide) mF_X11_44_X11_5 rfl dX11_planned_11 ?_
      refine v_get (ci := 4) C inT4 5 0 rfl rfl (by decide) mF_X11_303_X4_0 rfl dX11_planned_14 ?_
      refine v_iload_n C dX11_planned_17 1 rfl ?_
      obtain ⟨hi18, hw⟩ := hw
      refine v_iald C 6 rfl hi18 dX11_planned_18 ?_
      refine v_goto (tgt := 23) C dX11_planned_19 (by decide) ?_
      exact hret _ _ _ _ (gA u0_5 0 x1.toNatClampNeg) (u0, u0_5) dX11_planned_23 rfl hw (Nat.le_of_ble_eq_true rfl) (Nat.le_of_ble_eq_true rfl)
set_option maxHeartbeats 4000000 in
set_option maxRecDepth 100000 in
theorem kX11_paper {l : Launch} {E : VE} (h0 : Nat) (a0 : Nat → Nat) (a0_0 : Nat → Nat) (a0_6 : Nat → Nat) (u0 : Md) (u0_0 : Md) (u0_6 : Md) (x1 : Int32) {Q : Int32 → Md → Md → Md → Prop} (hw : qX11_paper u0 u0_0 u0_6 x1 Q) : MI l yX11_paper cX11_paper 2 .int 0 0 0 E [.ref h0, .int x1] ([wX11 E h0 a0 u0, wX8 E (a0 0) a0_0 u0_0, wX3 E (a0 6) a0_6 u0_6].flatten) (fun (U : Md × Md × Md) => [wX11 E h0 a0 U.1, wX8 E (a0 0) a0_0 U.2.1, wX3 E (a0 6) a0_6 U.2.2].flatten) (fun (r : Int32) (U : Md × Md × Md) => Q r U.1 U.2.1 U.2.2) := by
  refine MI.of (own := RX11) (by decide) rfl (Nat.le_of_ble_eq_true rfl) ?_
  intro X C hini hret
  show VV X 0 0 ([wX11 E h0 a0 u0, wX8 E (a0 0) a0_0 u0_0, wX3 E (a0 6) a0_6 u0_6].flatten) [(0, .ref h0), (1, .int x1)] 0 []
  unfold qX11_paper at hw
  refine v_iload_n C dX11_paper_0 1 rfl ?_
  refine v_if_lt (tgt := 15) C dX11_paper_1 (by decide) (fun hc => ?_) (fun hc => ?_)
  · have hw := hw.1 hc
    refine v_bipush (v := (-2)) C dX11_paper_15 (by decide) ?_
    exact hret _ _ _ _ ((-2)) (u0, u0_0, u0_6) dX11_paper_17 rfl hw (Nat.le_of_ble_eq_true rfl) (Nat.le_of_ble_eq_true rfl)
  · have hw := hw.2 hc
    refine v_iload_n C dX11_paper_4 1 rfl ?_
    refine v_aload_n C dX11_paper_5 0 rfl ?_
    refine v_get (ci := 11) C inT11 0 0 rfl rfl (by decide) mF_X11_10_X11_0 rfl dX11_paper_6 ?_
    refine v_get (ci := 8) C inT8 5 0 rfl rfl (by decide) mF_X11_84_X8_0 rfl dX11_paper_9 ?_
    refine v_icmp_le (tgt := 18) C dX11_paper_12 (by decide) (fun hc => ?_) (fun hc => ?_)
    · have hw := hw.1 hc
      refine v_aload_n C dX11_paper_18 0 rfl ?_
      refine v_get (ci := 11) C inT11 0 6 rfl rfl (by decide) mF_X11_51_X11_6 rfl dX11_paper_19 ?_
      refine v_iload_n C dX11_paper_22 1 rfl ?_
      obtain ⟨w23, e23⟩ : ∃ z : Md, z = sF u0_6 0 x1 := ⟨_, rfl⟩
      have hw := hw w23 e23
      refine v_put (ci := 3) (ws' := [wX11 E h0 a0 u0, wX8 E (a0 0) a0_0 u0_0, wX3 E (a0 6) a0_6 w23].flatten) C tyX3 tyX3_ok nmX3 inT3 7 0 rfl rfl (by decide) mF_X11_306_X3_0 rfl rfl rfl rfl (Nat.le_of_ble_eq_true rfl) (by rw [e23]; rfl) dX11_paper_23 ?_
      refine v_aload_n C dX11_paper_26 0 rfl ?_
      refine v_get (ci := 11) C inT11 0 6 rfl rfl (by decide) mF_X11_51_X11_6 rfl dX11_paper_27 ?_
      refine v_iconst (v := 0) C dX11_paper_30 (by decide) ?_
      obtain ⟨w31, e31⟩ : ∃ z : Md, z = sF w23 1 0 := ⟨_, rfl⟩
      have hw := hw w31 e31
      refine v_put (ci := 3) (ws' := [wX11 E h0 a0 u0, wX8 E (a0 0) a0_0 u0_0, wX3 E (a0 6) a0_6 w31].flatten) C tyX3 tyX3_ok nmX3 inT3 7 1 rfl rfl (by decide) mF_X11_309_X3_1 rfl rfl rfl rfl (Nat.le_of_ble_eq_true rfl) (by rw [e31]; rfl) dX11_paper_31 ?_
      refine v_iconst (v := 0) C dX11_paper_34 (by decide) ?_
      exact hret _ _ _ _ 0 (u0, u0_0, w31) dX11_paper_35 rfl hw (Nat.le_of_ble_eq_true rfl) (Nat.le_of_ble_eq_true rfl)
    · have hw := hw.2 hc
      refine v_bipush (v := (-2)) C dX11_paper_15 (by decide) ?_
      exact hret _ _ _ _ ((-2)) (u0, u0_0, u0_6) dX11_paper_17 rfl hw (Nat.le_of_ble_eq_true rfl) (Nat.le_of_ble_eq_true rfl)
set_option maxHeartbeats 4000000 in
set_option maxRecDepth 100000 in
theorem kX11_written {l : Launch} {E : VE} (h0 : Nat) (a0 : Nat → Nat) (a0_2 : Nat → Nat) (a0_6 : Nat → Nat) (u0 : Md) (u0_2 : Md) (u0_6 : Md) {Q : Int32 → Md → Md → Md → Prop} (hw : qX11_written u0 u0_2 u0_6 Q) : MI l yX11_written cX11_written 1 .int 2 0 0 E [.ref h0] ([wX11 E h0 a0 u0, wX9 E (a0 2) a0_2 u0_2, wX3 E (a0 6) a0_6 u0_6].flatten) (fun (U : Md × Md × Md) => [wX11 E h0 a0 U.1, wX9 E (a0 2) a0_2 U.2.1, wX3 E (a0 6) a0_6 U.2.2].flatten) (fun (r : Int32) (U : Md × Md × Md) => Q r U.1 U.2.1 U.2.2) := by
  refine MI.of (own := RX11) (by decide) rfl (Nat.le_of_ble_eq_true rfl) ?_
  intro X C hini hret
  show VV X 0 0 ([wX11 E h0 a0 u0, wX9 E (a0 2) a0_2 u0_2, wX3 E (a0 6) a0_6 u0_6].flatten) [(0, .ref h0)] 0 []
  unfold qX11_written at hw
  refine v_aload_n C dX11_written_0 0 rfl ?_
  refine v_get (ci := 11) C inT11 0 6 rfl rfl (by decide) mF_X11_51_X11_6 rfl dX11_written_1 ?_
  refine v_get (ci := 3) C inT3 7 0 rfl rfl (by decide) mF_X11_306_X3_0 rfl dX11_written_4 ?_
  refine v_iconst (v := (-1)) C dX11_written_7 (by decide) ?_
  refine v_icmp_eq (tgt := 23) C dX11_written_8 (by decide) (fun hc => ?_) (fun hc => ?_)
  · have hw := hw.1 hc
    refine v_bipush (v := (-2)) C dX11_written_23 (by decide) ?_
    exact hret _ _ _ _ ((-2)) (u0, u0_2, u0_6) dX11_written_25 rfl hw (Nat.le_of_ble_eq_true rfl) (Nat.le_of_ble_eq_true rfl)
  · have hw := hw.2 hc
    refine v_aload_n C dX11_written_11 0 rfl ?_
    refine v_get (ci := 11) C inT11 0 2 rfl rfl (by decide) mF_X11_23_X11_2 rfl dX11_written_12 ?_
    refine v_bipush (v := 24) C dX11_written_15 (by decide) ?_
    refine v_callVMi (st := []) (ci := 9) (qb := 5) C (kX9_isLetters ((a0 2)) a0_2 _ _ hw) mM_X11_139 mI_X9 mC_X9_isLetters mN_X9_isLetters mS_X9_isLetters rfl rfl hd_X9_isLetters ⟨Nat.le_of_ble_eq_true rfl, Nat.le_of_ble_eq_true rfl⟩ ⟨Nat.le_of_ble_eq_true rfl, Nat.le_of_ble_eq_true rfl⟩ [1] [0, 2] (N0 := 3) rfl (by decide) (ms2 := (fun (U : Md) => [wX11 E h0 a0 u0, wX9 E (a0 2) a0_2 U, wX3 E (a0 6) a0_6 u0_6])) rfl (fun _ => rfl) (fun _ => rfl) (fun _ => rfl) rfl (Nat.le_of_ble_eq_true rfl) dX11_written_17 (fun r17 v17_0 hw => ?_)
    obtain ⟨h01_17, hw⟩ := hw
    have hw := hw h01_17
    refine v_if_ne (tgt := 26) C dX11_written_20 (by decide) (fun hc => ?_) (fun hc => ?_)
    · have hw := hw.1 hc
      refine v_aload_n C dX11_written_26 0 rfl ?_
      refine v_get (ci := 11) C inT11 0 6 rfl rfl (by decide) mF_X11_51_X11_6 rfl dX11_written_27 ?_
      refine v_aload_n C dX11_written_30 0 rfl ?_
      refine v_get (ci := 11) C inT11 0 2 rfl rfl (by decide) mF_X11_23_X11_2 rfl dX11_written_31 ?_
      refine v_callVMi (st := []) (ci := 3) (qb := 7) C (kX3_add ((a0 6)) ((a0 2)) a0_6 a0_2 _ _ hw) mM_X11_310 mI_X3 mC_X3_add mN_X3_add mS_X3_add rfl rfl hd_X3_add ⟨Nat.le_of_ble_eq_true rfl, Nat.le_of_ble_eq_true rfl⟩ ⟨Nat.le_of_ble_eq_true rfl, Nat.le_of_ble_eq_true rfl⟩ [2, 1] [0] (N0 := 3) rfl (by decide) (ms2 := (fun (U : Md × Md) => [wX11 E h0 a0 u0, wX9 E (a0 2) a0_2 U.2, wX3 E (a0 6) a0_6 U.1])) rfl (fun _ => rfl) (fun _ => rfl) (fun _ => rfl) rfl (Nat.le_of_ble_eq_true rfl) dX11_written_34 (fun r34 U34 hw => ?_)
      obtain ⟨v34_0, v34_1⟩ := U34
      obtain ⟨h01_34, hw⟩ := hw
      have hw := hw h01_34
      refine v_if_ne (tgt := 43) C dX11_written_37 (by decide) (fun hc => ?_) (fun hc => ?_)
      · have hw := hw.1 hc
        refine v_aload_n C dX11_written_43 0 rfl ?_
        refine v_get (ci := 11) C inT11 0 2 rfl rfl (by decide) mF_X11_23_X11_2 rfl dX11_written_44 ?_
        refine v_iconst (v := 0) C dX11_written_47 (by decide) ?_
        obtain ⟨w48, e48⟩ : ∃ z : Md, z = sF v34_1 1 0 := ⟨_, rfl⟩
        have hw := hw w48 e48
        refine v_put (ci := 9) (ws' := [wX11 E h0 a0 u0, wX9 E (a0 2) a0_2 w48, wX3 E (a0 6) a0_6 v34_0].flatten) C tyX9 tyX9_ok nmX9 inT9 5 1 rfl rfl (by decide) mF_X11_72_X9_1 rfl rfl rfl rfl (Nat.le_of_ble_eq_true rfl) (by rw [e48]; rfl) dX11_written_48 ?_
        refine v_aload_n C dX11_written_51 0 rfl ?_
        refine v_get (ci := 11) C inT11 0 6 rfl rfl (by decide) mF_X11_51_X11_6 rfl dX11_written_52 ?_
        refine v_get (ci := 3) C inT3 7 1 rfl rfl (by decide) mF_X11_309_X3_1 rfl dX11_written_55 ?_
        exact hret _ _ _ _ (gF v34_0 1) (u0, w48, v34_0) dX11_written_58 rfl hw (Nat.le_of_ble_eq_true rfl) (Nat.le_of_ble_eq_true rfl)
      · have hw := hw.2 hc
        refine v_bipush (v := (-3)) C dX11_written_40 (by decide) ?_
        exact hret _ _ _ _ ((-3)) (u0, v34_1, v34_0) dX11_written_42 rfl hw (Nat.le_of_ble_eq_true rfl) (Nat.le_of_ble_eq_true rfl)
    · have hw := hw.2 hc
      refine v_bipush (v := (-2)) C dX11_written_23 (by decide) ?_
      exact hret _ _ _ _ ((-2)) (u0, v17_0, u0_6) dX11_written_25 rfl hw (Nat.le_of_ble_eq_true rfl) (Nat.le_of_ble_eq_true rfl)
set_option maxHeartbeats 4000000 in
set_option maxRecDepth 100000 in
theorem kX11_join {l : Launch} {E : VE} (h0 : Nat) (a0 : Nat → Nat) (a0_0 : Nat → Nat) (a0_0_2 : Nat → Nat) (a0_0_3 : Nat → Nat) (a0_4 : Nat → Nat) (a0_4_6 : Nat → Nat) (a0_4_7 : Nat → Nat) (a0_6 : Nat → Nat) (u0 : Md) (u0_0 : Md) (u0_0_2 : Md) (u0_0_3 : Md) (u0_4 : Md) (u0_4_6 : Md) (u0_4_7 : Md) (u0_6 : Md) {Q : Int32 → Md → Md → Md → Md → Md → Md → Md → Md → Prop} (hw : qX11_join u0 u0_0 u0_0_2 u0_0_3 u0_4 u0_4_6 u0_4_7 u0_6 Q) : MI l yX11_join cX11_join 1 .int 6 1 10240 E [.ref h0] ([wX11 E h0 a0 u0, wX8 E (a0 0) a0_0 u0_0, wX2 E (a0_0 2) a0_0_2 u0_0_2, wX7 E (a0_0 3) a0_0_3 u0_0_3, wX10 E (a0 4) a0_4 u0_4, wX5 E (a0_4 6) a0_4_6 u0_4_6, wX5 E (a0_4 7) a0_4_7 u0_4_7, wX3 E (a0 6) a0_6 u0_6].flatten) (fun (U : Md × Md × Md × Md × Md × Md × Md × Md) => [wX11 E h0 a0 U.1, wX8 E (a0 0) a0_0 U.2.1, wX2 E (a0_0 2) a0_0_2 U.2.2.1, wX7 E (a0_0 3) a0_0_3 U.2.2.2.1, wX10 E (a0 4) a0_4 U.2.2.2.2.1, wX5 E (a0_4 6) a0_4_6 U.2.2.2.2.2.1, wX5 E (a0_4 7) a0_4_7 U.2.2.2.2.2.2.1, wX3 E (a0 6) a0_6 U.2.2.2.2.2.2.2].flatten) (fun (r : Int32) (U : Md × Md × Md × Md × Md × Md × Md × Md) => Q r U.1 U.2.1 U.2.2.1 U.2.2.2.1 U.2.2.2.2.1 U.2.2.2.2.2.1 U.2.2.2.2.2.2.1 U.2.2.2.2.2.2.2) := by
  refine MI.of (own := RX11) (by decide) rfl (Nat.le_of_ble_eq_true rfl) ?_
  intro X C hini hret
  show VV X 0 0 ([wX11 E h0 a0 u0, wX8 E (a0 0) a0_0 u0_0, wX2 E (a0_0 2) a0_0_2 u0_0_2, wX7 E (a0_0 3) a0_0_3 u0_0_3, wX10 E (a0 4) a0_4 u0_4, wX5 E (a0_4 6) a0_4_6 u0_4_6, wX5 E (a0_4 7) a0_4_7 u0_4_7, wX3 E (a0 6) a0_6 u0_6].flatten) [(0, .ref h0)] 0 []
  unfold qX11_join at hw
  refine v_aload_n C dX11_join_0 0 rfl ?_
  refine v_get (ci := 11) C inT11 0 6 rfl rfl (by decide) mF_X11_51_X11_6 rfl dX11_join_1 ?_
  refine v_get (ci := 3) C inT3 45 0 rfl rfl (by decide) mF_X11_306_X3_0 rfl dX11_join_4 ?_
  refine v_iconst (v := (-1)) C dX11_join_7 (by decide) ?_
  refine v_icmp_ne (tgt := 15) C dX11_join_8 (by decide) (fun hc => ?_) (fun hc => ?_)
  · have hw := hw.1 hc
    refine v_aload_n C dX11_join_15 0 rfl ?_
    refine v_get (ci := 11) C inT11 0 6 rfl rfl (by decide) mF_X11_51_X11_6 rfl dX11_join_16 ?_
    refine v_aload_n C dX11_join_19 0 rfl ?_
    refine v_get (ci := 11) C inT11 0 0 rfl rfl (by decide) mF_X11_10_X11_0 rfl dX11_join_20 ?_
    refine v_aload_n C dX11_join_23 0 rfl ?_
    refine v_get (ci := 11) C inT11 0 4 rfl rfl (by decide) mF_X11_37_X11_4 rfl dX11_join_24 ?_
    refine v_callVMi (st := []) (ci := 3) (qb := 45) C (kX3_greatestSum ((a0 6)) ((a0 0)) ((a0 4)) a0_6 a0_0 a0_0_2 a0_0_3 a0_4 a0_4_6 a0_4_7 _ _ _ _ _ _ _ hw) mM_X11_314 mI_X3 mC_X3_greatestSum mN_X3_greatestSum mS_X3_greatestSum rfl rfl hd_X3_greatestSum ⟨Nat.le_of_ble_eq_true rfl, Nat.le_of_ble_eq_true rfl⟩ ⟨Nat.le_of_ble_eq_true rfl, Nat.le_of_ble_eq_true rfl⟩ [7, 1, 2, 3, 4, 5, 6] [0] (N0 := 8) rfl (by decide) (ms2 := (fun (U : Md × Md × Md × Md × Md × Md × Md) => [wX11 E h0 a0 u0, wX8 E (a0 0) a0_0 U.2.1, wX2 E (a0_0 2) a0_0_2 U.2.2.1, wX7 E (a0_0 3) a0_0_3 U.2.2.2.1, wX10 E (a0 4) a0_4 U.2.2.2.2.1, wX5 E (a0_4 6) a0_4_6 U.2.2.2.2.2.1, wX5 E (a0_4 7) a0_4_7 U.2.2.2.2.2.2, wX3 E (a0 6) a0_6 U.1])) rfl (fun _ => rfl) (fun _ => rfl) (fun _ => rfl) rfl (Nat.le_of_ble_eq_true rfl) dX11_join_27 (fun r27 U27 hw => ?_)
    obtain ⟨v27_0, v27_1, v27_2, v27_3, v27_4, v27_5, v27_6⟩ := U27
    exact hret _ _ _ _ r27 (u0, v27_1, v27_2, v27_3, v27_4, v27_5, v27_6, v27_0) dX11_join_30 rfl hw (Nat.le_of_ble_eq_true rfl) (Nat.le_of_ble_eq_true rfl)
  · have hw := hw.2 hc
    refine v_iconst (v := (-1)) C dX11_join_11 (by decide) ?_
    refine v_goto (tgt := 30) C dX11_join_12 (by decide) ?_
    exact hret _ _ _ _ ((-1)) (u0, u0_0, u0_0_2, u0_0_3, u0_4, u0_4_6, u0_4_7, u0_6) dX11_join_30 rfl hw (Nat.le_of_ble_eq_true rfl) (Nat.le_of_ble_eq_true rfl)
set_option maxHeartbeats 4000000 in
set_option maxRecDepth 100000 in
theorem kX11_joined {l : Launch} {E : VE} (h0 : Nat) (a0 : Nat → Nat) (a0_6 : Nat → Nat) (u0 : Md) (u0_6 : Md) (x1 : Int32) {Q : Int32 → Md → Md → Prop} (hw : qX11_joined u0 u0_6 x1 Q) : MI l yX11_joined cX11_joined 2 .int 0 0 0 E [.ref h0, .int x1] ([wX11 E h0 a0 u0, wX3 E (a0 6) a0_6 u0_6].flatten) (fun (U : Md × Md) => [wX11 E h0 a0 U.1, wX3 E (a0 6) a0_6 U.2].flatten) (fun (r : Int32) (U : Md × Md) => Q r U.1 U.2) := by
  refine MI.of (own := RX11) (by decide) rfl (Nat.le_of_ble_eq_true rfl) ?_
  intro X C hini hret
  show VV X 0 0 ([wX11 E h0 a0 u0, wX3 E (a0 6) a0_6 u0_6].flatten) [(0, .ref h0), (1, .int x1)] 0 []
  unfold qX11_joined at hw
  refine v_iload_n C dX11_joined_0 1 rfl ?_
  refine v_if_lt (tgt := 27) C dX11_joined_1 (by decide) (fun hc => ?_) (fun hc => ?_)
  · have hw := hw.1 hc
    refine v_iconst (v := (-1)) C dX11_joined_27 (by decide) ?_
    exact hret _ _ _ _ ((-1)) (u0, u0_6) dX11_joined_28 rfl hw (Nat.le_of_ble_eq_true rfl) (Nat.le_of_ble_eq_true rfl)
  · have hw := hw.2 hc
    refine v_iload_n C dX11_joined_4 1 rfl ?_
    refine v_aload_n C dX11_joined_5 0 rfl ?_
    refine v_get (ci := 11) C inT11 0 6 rfl rfl (by decide) mF_X11_51_X11_6 rfl dX11_joined_6 ?_
    refine v_get (ci := 3) C inT3 5 4 rfl rfl (by decide) mF_X11_318_X3_4 rfl dX11_joined_9 ?_
    refine v_icmp_ge (tgt := 27) C dX11_joined_12 (by decide) (fun hc => ?_) (fun hc => ?_)
    · have hw := hw.1 hc
      refine v_iconst (v := (-1)) C dX11_joined_27 (by decide) ?_
      exact hret _ _ _ _ ((-1)) (u0, u0_6) dX11_joined_28 rfl hw (Nat.le_of_ble_eq_true rfl) (Nat.le_of_ble_eq_true rfl)
    · have hw := hw.2 hc
      refine v_aload_n C dX11_joined_15 0 rfl ?_
      refine v_get (ci := 11) C inT11 0 6 rfl rfl (by decide) mF_X11_51_X11_6 rfl dX11_joined_16 ?_
      refine v_get (ci := 3) C inT3 5 5 rfl rfl (by decide) mF_X11_321_X3_5 rfl dX11_joined_19 ?_
      refine v_iload_n C dX11_joined_22 1 rfl ?_
      obtain ⟨hi23, hw⟩ := hw
      refine v_iald C 8 rfl hi23 dX11_joined_23 ?_
      refine v_goto (tgt := 28) C dX11_joined_24 (by decide) ?_
      exact hret _ _ _ _ (gA u0_6 5 x1.toNatClampNeg) (u0, u0_6) dX11_joined_28 rfl hw (Nat.le_of_ble_eq_true rfl) (Nat.le_of_ble_eq_true rfl)
set_option maxHeartbeats 4000000 in
set_option maxRecDepth 100000 in
theorem jX11_rowsHad_4 {X : VX} {E : VE} {l : Launch} (h0 : Nat) (a0 : Nat → Nat)  (Q : Int32 → Md → Prop) (C : VC X cX11_rowsHad 3 RX11 (rmL 0 0 0) E l) (hret : RetI X cX11_rowsHad .int 0 0 (fun (U : Md) => [wX11 E h0 a0 U].flatten) (fun (r : Int32) (U : Md) => Q r U))  : ∀ (n : Nat), ∀ (u0 : Md) (y1 : Int32) (y2 : Int32), qX11_rowsHad_4 Q n u0 y1 y2 → VV X 0 0 ([wX11 E h0 a0 u0].flatten) [(0, .ref h0), (1, .int y1), (2, .int y2)] 4 [] := by
  intro n
  induction n with
  | zero =>
    intro u0 y1 y2 hw
    exact hw.elim
  | succ n ih =>
    intro u0 y1 y2 hw
    unfold qX11_rowsHad_4 at hw
    refine v_iload_n C dX11_rowsHad_4 2 rfl ?_
    refine v_iconst (v := 4) C dX11_rowsHad_5 (by decide) ?_
    refine v_icmp_ge (tgt := 28) C dX11_rowsHad_6 (by decide) (fun hc => ?_) (fun hc => ?_)
    · have hw := hw.1 hc
      refine v_iload_n C dX11_rowsHad_28 1 rfl ?_
      exact hret _ _ _ _ y1 u0 dX11_rowsHad_29 rfl hw (Nat.le_of_ble_eq_true rfl) (Nat.le_of_ble_eq_true rfl)
    · have hw := hw.2 hc
      refine v_aload_n C dX11_rowsHad_9 0 rfl ?_
      refine v_get (ci := 11) C inT11 0 9 rfl rfl (by decide) mF_X11_63_X11_9 rfl dX11_rowsHad_10 ?_
      refine v_iload_n C dX11_rowsHad_13 2 rfl ?_
      obtain ⟨hi14, hw⟩ := hw
      refine v_iald C 4 rfl hi14 dX11_rowsHad_14 ?_
      refine v_iconst (v := (-1)) C dX11_rowsHad_15 (by decide) ?_
      refine v_icmp_eq (tgt := 22) C dX11_rowsHad_16 (by decide) (fun hc => ?_) (fun hc => ?_)
      · have hw := hw.1 hc
        refine v_iinc (lv' := [(2, .int (y2 + Int32.ofInt 1)), (0, .ref h0), (1, .int y1)]) C dX11_rowsHad_22 2 rfl (by decide) rfl ?_
        refine v_goto (tgt := 4) C dX11_rowsHad_25 (by decide) ?_
        refine v_lv C (lv' := [(0, .ref h0), (1, .int y1), (2, .int (y2 + Int32.ofInt 1))]) [1, 2, 0] rfl ?_
        exact ih u0 y1 (y2 + Int32.ofInt 1) hw
      · have hw := hw.2 hc
        refine v_iinc (lv' := [(1, .int (y1 + Int32.ofInt 1)), (0, .ref h0), (2, .int y2)]) C dX11_rowsHad_19 1 rfl (by decide) rfl ?_
        refine v_iinc (lv' := [(2, .int (y2 + Int32.ofInt 1)), (1, .int (y1 + Int32.ofInt 1)), (0, .ref h0)]) C dX11_rowsHad_22 2 rfl (by decide) rfl ?_
        refine v_goto (tgt := 4) C dX11_rowsHad_25 (by decide) ?_
        refine v_lv C (lv' := [(0, .ref h0), (1, .int (y1 + Int32.ofInt 1)), (2, .int (y2 + Int32.ofInt 1))]) [2, 1, 0] rfl ?_
        exact ih u0 (y1 + Int32.ofInt 1) (y2 + Int32.ofInt 1) hw
set_option maxHeartbeats 4000000 in
set_option maxRecDepth 100000 in
theorem kX11_rowsHad {l : Launch} {E : VE} (h0 : Nat) (a0 : Nat → Nat) (u0 : Md) {Q : Int32 → Md → Prop} (hw : qX11_rowsHad u0 Q) : MI l yX11_rowsHad cX11_rowsHad 3 .int 0 0 0 E [.ref h0] ([wX11 E h0 a0 u0].flatten) (fun (U : Md) => [wX11 E h0 a0 U].flatten) (fun (r : Int32) (U : Md) => Q r U) := by
  refine MI.of (own := RX11) (by decide) rfl (Nat.le_of_ble_eq_true rfl) ?_
  intro X C hini hret
  show VV X 0 0 ([wX11 E h0 a0 u0].flatten) [(0, .ref h0)] 0 []
  unfold qX11_rowsHad at hw
  refine v_iconst (v := 0) C dX11_rowsHad_0 (by decide) ?_
  refine v_istore_n (lv' := [(1, .int 0), (0, .ref h0)]) C dX11_rowsHad_1 (by decide) rfl ?_
  refine v_iconst (v := 0) C dX11_rowsHad_2 (by decide) ?_
  refine v_istore_n (lv' := [(2, .int 0), (1, .int 0), (0, .ref h0)]) C dX11_rowsHad_3 (by decide) rfl ?_
  refine v_lv C (lv' := [(0, .ref h0), (1, .int 0), (2, .int 0)]) [2, 1, 0] rfl ?_
  obtain ⟨n', hw⟩ := hw
  exact jX11_rowsHad_4 h0 a0 Q C hret n' u0 0 0 hw
set_option maxHeartbeats 4000000 in
set_option maxRecDepth 100000 in
theorem kX11_count {l : Launch} {E : VE} (h0 : Nat) (a0 : Nat → Nat) (a0_0 : Nat → Nat) (a0_0_2 : Nat → Nat) (a0_0_3 : Nat → Nat) (a0_0_4 : Nat → Nat) (a0_0_5 : Nat → Nat) (a0_0_6 : Nat → Nat) (a0_2 : Nat → Nat) (a0_4 : Nat → Nat) (a0_4_6 : Nat → Nat) (a0_4_7 : Nat → Nat) (a0_6 : Nat → Nat) (u0 : Md) (u0_0 : Md) (u0_0_2 : Md) (u0_0_3 : Md) (u0_0_4 : Md) (u0_0_5 : Md) (u0_0_6 : Md) (u0_2 : Md) (u0_4 : Md) (u0_4_6 : Md) (u0_4_7 : Md) (u0_6 : Md) (x1 : Int32) {Q : Int32 → Md → Md → Md → Md → Md → Md → Md → Md → Md → Md → Md → Md → Prop} (hw : qX11_count u0 u0_0 u0_0_2 u0_0_3 u0_0_4 u0_0_5 u0_0_6 u0_2 u0_4 u0_4_6 u0_4_7 u0_6 x1 Q) : MI l yX11_count cX11_count 2 .int 7 0 0 E [.ref h0, .int x1] ([wX11 E h0 a0 u0, wX8 E (a0 0) a0_0 u0_0, wX2 E (a0_0 2) a0_0_2 u0_0_2, wX7 E (a0_0 3) a0_0_3 u0_0_3, wX0 E (a0_0 4) a0_0_4 u0_0_4, wX1 E (a0_0 5) a0_0_5 u0_0_5, wX6 E (a0_0 6) a0_0_6 u0_0_6, wX9 E (a0 2) a0_2 u0_2, wX10 E (a0 4) a0_4 u0_4, wX5 E (a0_4 6) a0_4_6 u0_4_6, wX5 E (a0_4 7) a0_4_7 u0_4_7, wX3 E (a0 6) a0_6 u0_6].flatten) (fun (U : Md × Md × Md × Md × Md × Md × Md × Md × Md × Md × Md × Md) => [wX11 E h0 a0 U.1, wX8 E (a0 0) a0_0 U.2.1, wX2 E (a0_0 2) a0_0_2 U.2.2.1, wX7 E (a0_0 3) a0_0_3 U.2.2.2.1, wX0 E (a0_0 4) a0_0_4 U.2.2.2.2.1, wX1 E (a0_0 5) a0_0_5 U.2.2.2.2.2.1, wX6 E (a0_0 6) a0_0_6 U.2.2.2.2.2.2.1, wX9 E (a0 2) a0_2 U.2.2.2.2.2.2.2.1, wX10 E (a0 4) a0_4 U.2.2.2.2.2.2.2.2.1, wX5 E (a0_4 6) a0_4_6 U.2.2.2.2.2.2.2.2.2.1, wX5 E (a0_4 7) a0_4_7 U.2.2.2.2.2.2.2.2.2.2.1, wX3 E (a0 6) a0_6 U.2.2.2.2.2.2.2.2.2.2.2].flatten) (fun (r : Int32) (U : Md × Md × Md × Md × Md × Md × Md × Md × Md × Md × Md × Md) => Q r U.1 U.2.1 U.2.2.1 U.2.2.2.1 U.2.2.2.2.1 U.2.2.2.2.2.1 U.2.2.2.2.2.2.1 U.2.2.2.2.2.2.2.1 U.2.2.2.2.2.2.2.2.1 U.2.2.2.2.2.2.2.2.2.1 U.2.2.2.2.2.2.2.2.2.2.1 U.2.2.2.2.2.2.2.2.2.2.2) := by
  refine MI.of (own := RX11) (by decide) rfl (Nat.le_of_ble_eq_true rfl) ?_
  intro X C hini hret
  show VV X 0 0 ([wX11 E h0 a0 u0, wX8 E (a0 0) a0_0 u0_0, wX2 E (a0_0 2) a0_0_2 u0_0_2, wX7 E (a0_0 3) a0_0_3 u0_0_3, wX0 E (a0_0 4) a0_0_4 u0_0_4, wX1 E (a0_0 5) a0_0_5 u0_0_5, wX6 E (a0_0 6) a0_0_6 u0_0_6, wX9 E (a0 2) a0_2 u0_2, wX10 E (a0 4) a0_4 u0_4, wX5 E (a0_4 6) a0_4_6 u0_4_6, wX5 E (a0_4 7) a0_4_7 u0_4_7, wX3 E (a0 6) a0_6 u0_6].flatten) [(0, .ref h0), (1, .int x1)] 0 []
  unfold qX11_count at hw
  refine v_iload_n C dX11_count_0 1 rfl ?_
  by_cases hc0 : x1 = 0
  · have hw := hw.1 hc0
    refine v_tsIn (tgt := 68) C hc0 dX11_count_1 (by decide) (by decide) rfl (by decide) ?_
    refine v_aload_n C dX11_count_68 0 rfl ?_
    refine v_get (ci := 11) C inT11 0 0 rfl rfl (by decide) mF_X11_10_X11_0 rfl dX11_count_69 ?_
    refine v_get (ci := 8) C inT8 5 0 rfl rfl (by decide) mF_X11_84_X8_0 rfl dX11_count_72 ?_
    exact hret _ _ _ _ (gF u0_0 0) (u0, u0_0, u0_0_2, u0_0_3, u0_0_4, u0_0_5, u0_0_6, u0_2, u0_4, u0_4_6, u0_4_7, u0_6) dX11_count_75 rfl hw (Nat.le_of_ble_eq_true rfl) (Nat.le_of_ble_eq_true rfl)
  have hw := hw.2 hc0
  have hn0 := ts_ne hc0
  by_cases hc1 : x1 = 1
  · have hw := hw.1 hc1
    refine v_tsIn (tgt := 76) C hc1 dX11_count_1 (by decide) (by decide) rfl (by decide) ?_
    refine v_aload_n C dX11_count_76 0 rfl ?_
    refine v_get (ci := 11) C inT11 0 0 rfl rfl (by decide) mF_X11_10_X11_0 rfl dX11_count_77 ?_
    refine v_get (ci := 8) C inT8 5 2 rfl rfl (by decide) mF_X11_87_X8_2 rfl dX11_count_80 ?_
    refine v_get (ci := 2) C inT2 7 0 rfl rfl (by decide) mF_X11_324_X2_0 rfl dX11_count_83 ?_
    exact hret _ _ _ _ (gF u0_0_2 0) (u0, u0_0, u0_0_2, u0_0_3, u0_0_4, u0_0_5, u0_0_6, u0_2, u0_4, u0_4_6, u0_4_7, u0_6) dX11_count_86 rfl hw (Nat.le_of_ble_eq_true rfl) (Nat.le_of_ble_eq_true rfl)
  have hw := hw.2 hc1
  have hn1 := ts_ne hc1
  by_cases hc2 : x1 = 2
  · have hw := hw.1 hc2
    refine v_tsIn (tgt := 87) C hc2 dX11_count_1 (by decide) (by decide) rfl (by decide) ?_
    refine v_aload_n C dX11_count_87 0 rfl ?_
    refine v_get (ci := 11) C inT11 0 0 rfl rfl (by decide) mF_X11_10_X11_0 rfl dX11_count_88 ?_
    refine v_get (ci := 8) C inT8 5 3 rfl rfl (by decide) mF_X11_142_X8_3 rfl dX11_count_91 ?_
    refine v_get (ci := 7) C inT7 16 0 rfl rfl (by decide) mF_X11_325_X7_0 rfl dX11_count_94 ?_
    exact hret _ _ _ _ (gF u0_0_3 0) (u0, u0_0, u0_0_2, u0_0_3, u0_0_4, u0_0_5, u0_0_6, u0_2, u0_4, u0_4_6, u0_4_7, u0_6) dX11_count_97 rfl hw (Nat.le_of_ble_eq_true rfl) (Nat.le_of_ble_eq_true rfl)
  have hw := hw.2 hc2
  have hn2 := ts_ne hc2
  by_cases hc3 : x1 = 3
  · have hw := hw.1 hc3
    refine v_tsIn (tgt := 98) C hc3 dX11_count_1 (by decide) (by decide) rfl (by decide) ?_
    refine v_aload_n C dX11_count_98 0 rfl ?_
    refine v_get (ci := 11) C inT11 0 0 rfl rfl (by decide) mF_X11_10_X11_0 rfl dX11_count_99 ?_
    refine v_get (ci := 8) C inT8 5 3 rfl rfl (by decide) mF_X11_142_X8_3 rfl dX11_count_102 ?_
    refine v_get (ci := 7) C inT7 16 6 rfl rfl (by decide) mF_X11_150_X7_6 rfl dX11_count_105 ?_
    exact hret _ _ _ _ (gF u0_0_3 6) (u0, u0_0, u0_0_2, u0_0_3, u0_0_4, u0_0_5, u0_0_6, u0_2, u0_4, u0_4_6, u0_4_7, u0_6) dX11_count_108 rfl hw (Nat.le_of_ble_eq_true rfl) (Nat.le_of_ble_eq_true rfl)
  have hw := hw.2 hc3
  have hn3 := ts_ne hc3
  by_cases hc4 : x1 = 4
  · have hw := hw.1 hc4
    refine v_tsIn (tgt := 109) C hc4 dX11_count_1 (by decide) (by decide) rfl (by decide) ?_
    refine v_aload_n C dX11_count_109 0 rfl ?_
    refine v_get (ci := 11) C inT11 0 0 rfl rfl (by decide) mF_X11_10_X11_0 rfl dX11_count_110 ?_
    refine v_get (ci := 8) C inT8 5 4 rfl rfl (by decide) mF_X11_161_X8_4 rfl dX11_count_113 ?_
    refine v_get (ci := 0) C inT0 31 0 rfl rfl (by decide) mF_X11_165_X0_0 rfl dX11_count_116 ?_
    exact hret _ _ _ _ (gF u0_0_4 0) (u0, u0_0, u0_0_2, u0_0_3, u0_0_4, u0_0_5, u0_0_6, u0_2, u0_4, u0_4_6, u0_4_7, u0_6) dX11_count_119 rfl hw (Nat.le_of_ble_eq_true rfl) (Nat.le_of_ble_eq_true rfl)
  have hw := hw.2 hc4
  have hn4 := ts_ne hc4
  by_cases hc5 : x1 = 5
  · have hw := hw.1 hc5
    refine v_tsIn (tgt := 120) C hc5 dX11_count_1 (by decide) (by decide) rfl (by decide) ?_
    refine v_aload_n C dX11_count_120 0 rfl ?_
    refine v_get (ci := 11) C inT11 0 0 rfl rfl (by decide) mF_X11_10_X11_0 rfl dX11_count_121 ?_
    refine v_get (ci := 8) C inT8 5 5 rfl rfl (by decide) mF_X11_217_X8_5 rfl dX11_count_124 ?_
    refine v_get (ci := 1) C inT1 43 0 rfl rfl (by decide) mF_X11_327_X1_0 rfl dX11_count_127 ?_
    exact hret _ _ _ _ (gF u0_0_5 0) (u0, u0_0, u0_0_2, u0_0_3, u0_0_4, u0_0_5, u0_0_6, u0_2, u0_4, u0_4_6, u0_4_7, u0_6) dX11_count_130 rfl hw (Nat.le_of_ble_eq_true rfl) (Nat.le_of_ble_eq_true rfl)
  have hw := hw.2 hc5
  have hn5 := ts_ne hc5
  by_cases hc6 : x1 = 6
  · have hw := hw.1 hc6
    refine v_tsIn (tgt := 131) C hc6 dX11_count_1 (by decide) (by decide) rfl (by decide) ?_
    refine v_aload_n C dX11_count_131 0 rfl ?_
    refine v_get (ci := 11) C inT11 0 0 rfl rfl (by decide) mF_X11_10_X11_0 rfl dX11_count_132 ?_
    refine v_get (ci := 8) C inT8 5 2 rfl rfl (by decide) mF_X11_87_X8_2 rfl dX11_count_135 ?_
    refine v_get (ci := 2) C inT2 7 7 rfl rfl (by decide) mF_X11_330_X2_7 rfl dX11_count_138 ?_
    exact hret _ _ _ _ (gF u0_0_2 7) (u0, u0_0, u0_0_2, u0_0_3, u0_0_4, u0_0_5, u0_0_6, u0_2, u0_4, u0_4_6, u0_4_7, u0_6) dX11_count_141 rfl hw (Nat.le_of_ble_eq_true rfl) (Nat.le_of_ble_eq_true rfl)
  have hw := hw.2 hc6
  have hn6 := ts_ne hc6
  by_cases hc7 : x1 = 7
  · have hw := hw.1 hc7
    refine v_tsIn (tgt := 142) C hc7 dX11_count_1 (by decide) (by decide) rfl (by decide) ?_
    refine v_aload_n C dX11_count_142 0 rfl ?_
    refine v_get (ci := 11) C inT11 0 0 rfl rfl (by decide) mF_X11_10_X11_0 rfl dX11_count_143 ?_
    refine v_get (ci := 8) C inT8 5 6 rfl rfl (by decide) mF_X11_266_X8_6 rfl dX11_count_146 ?_
    refine v_get (ci := 6) C inT6 54 0 rfl rfl (by decide) mF_X11_296_X6_0 rfl dX11_count_149 ?_
    exact hret _ _ _ _ (gF u0_0_6 0) (u0, u0_0, u0_0_2, u0_0_3, u0_0_4, u0_0_5, u0_0_6, u0_2, u0_4, u0_4_6, u0_4_7, u0_6) dX11_count_152 rfl hw (Nat.le_of_ble_eq_true rfl) (Nat.le_of_ble_eq_true rfl)
  have hw := hw.2 hc7
  have hn7 := ts_ne hc7
  by_cases hc8 : x1 = 8
  · have hw := hw.1 hc8
    refine v_tsIn (tgt := 153) C hc8 dX11_count_1 (by decide) (by decide) rfl (by decide) ?_
    refine v_aload_n C dX11_count_153 0 rfl ?_
    refine v_get (ci := 11) C inT11 0 4 rfl rfl (by decide) mF_X11_37_X11_4 rfl dX11_count_154 ?_
    refine v_aload_n C dX11_count_157 0 rfl ?_
    refine v_get (ci := 11) C inT11 0 0 rfl rfl (by decide) mF_X11_10_X11_0 rfl dX11_count_158 ?_
    refine v_callVMi (st := []) (ci := 10) (qb := 60) C (kX10_lameSigns ((a0 4)) ((a0 0)) a0_4 a0_4_6 a0_4_7 a0_0 a0_0_2 a0_0_3 a0_0_4 a0_0_5 a0_0_6 _ _ _ _ _ _ _ _ _ hw) mM_X11_333 mI_X10 mC_X10_lameSigns mN_X10_lameSigns mS_X10_lameSigns rfl rfl hd_X10_lameSigns ⟨Nat.le_of_ble_eq_true rfl, Nat.le_of_ble_eq_true rfl⟩ ⟨Nat.le_of_ble_eq_true rfl, Nat.le_of_ble_eq_true rfl⟩ [8, 9, 10, 1, 2, 3, 4, 5, 6] [0, 7, 11] (N0 := 12) rfl (by decide) (ms2 := (fun (U : Md × Md × Md × Md × Md × Md × Md × Md × Md) => [wX11 E h0 a0 u0, wX8 E (a0 0) a0_0 U.2.2.2.1, wX2 E (a0_0 2) a0_0_2 U.2.2.2.2.1, wX7 E (a0_0 3) a0_0_3 U.2.2.2.2.2.1, wX0 E (a0_0 4) a0_0_4 U.2.2.2.2.2.2.1, wX1 E (a0_0 5) a0_0_5 U.2.2.2.2.2.2.2.1, wX6 E (a0_0 6) a0_0_6 U.2.2.2.2.2.2.2.2, wX9 E (a0 2) a0_2 u0_2, wX10 E (a0 4) a0_4 U.1, wX5 E (a0_4 6) a0_4_6 U.2.1, wX5 E (a0_4 7) a0_4_7 U.2.2.1, wX3 E (a0 6) a0_6 u0_6])) rfl (fun _ => rfl) (fun _ => rfl) (fun _ => rfl) rfl (Nat.le_of_ble_eq_true rfl) dX11_count_161 (fun r161 U161 hw => ?_)
    obtain ⟨v161_0, v161_1, v161_2, v161_3, v161_4, v161_5, v161_6, v161_7, v161_8⟩ := U161
    exact hret _ _ _ _ r161 (u0, v161_3, v161_4, v161_5, v161_6, v161_7, v161_8, u0_2, v161_0, v161_1, v161_2, u0_6) dX11_count_164 rfl hw (Nat.le_of_ble_eq_true rfl) (Nat.le_of_ble_eq_true rfl)
  have hw := hw.2 hc8
  have hn8 := ts_ne hc8
  by_cases hc9 : x1 = 9
  · have hw := hw.1 hc9
    refine v_tsIn (tgt := 165) C hc9 dX11_count_1 (by decide) (by decide) rfl (by decide) ?_
    refine v_aload_n C dX11_count_165 0 rfl ?_
    refine v_get (ci := 11) C inT11 0 2 rfl rfl (by decide) mF_X11_23_X11_2 rfl dX11_count_166 ?_
    refine v_get (ci := 9) C inT9 58 1 rfl rfl (by decide) mF_X11_72_X9_1 rfl dX11_count_169 ?_
    exact hret _ _ _ _ (gF u0_2 1) (u0, u0_0, u0_0_2, u0_0_3, u0_0_4, u0_0_5, u0_0_6, u0_2, u0_4, u0_4_6, u0_4_7, u0_6) dX11_count_172 rfl hw (Nat.le_of_ble_eq_true rfl) (Nat.le_of_ble_eq_true rfl)
  have hw := hw.2 hc9
  have hn9 := ts_ne hc9
  by_cases hc10 : x1 = 10
  · have hw := hw.1 hc10
    refine v_tsIn (tgt := 173) C hc10 dX11_count_1 (by decide) (by decide) rfl (by decide) ?_
    refine v_aload_n C dX11_count_173 0 rfl ?_
    refine v_get (ci := 11) C inT11 0 6 rfl rfl (by decide) mF_X11_51_X11_6 rfl dX11_count_174 ?_
    refine v_get (ci := 3) C inT3 74 1 rfl rfl (by decide) mF_X11_309_X3_1 rfl dX11_count_177 ?_
    exact hret _ _ _ _ (gF u0_6 1) (u0, u0_0, u0_0_2, u0_0_3, u0_0_4, u0_0_5, u0_0_6, u0_2, u0_4, u0_4_6, u0_4_7, u0_6) dX11_count_180 rfl hw (Nat.le_of_ble_eq_true rfl) (Nat.le_of_ble_eq_true rfl)
  have hw := hw.2 hc10
  have hn10 := ts_ne hc10
  by_cases hc11 : x1 = 11
  · have hw := hw.1 hc11
    refine v_tsIn (tgt := 181) C hc11 dX11_count_1 (by decide) (by decide) rfl (by decide) ?_
    refine v_aload_n C dX11_count_181 0 rfl ?_
    refine v_get (ci := 11) C inT11 0 0 rfl rfl (by decide) mF_X11_10_X11_0 rfl dX11_count_182 ?_
    refine v_get (ci := 8) C inT8 5 5 rfl rfl (by decide) mF_X11_217_X8_5 rfl dX11_count_185 ?_
    refine v_aload_n C dX11_count_188 0 rfl ?_
    refine v_get (ci := 11) C inT11 0 0 rfl rfl (by decide) mF_X11_10_X11_0 rfl dX11_count_189 ?_
    refine v_get (ci := 8) C inT8 5 2 rfl rfl (by decide) mF_X11_87_X8_2 rfl dX11_count_192 ?_
    refine v_get (ci := 2) C inT2 7 0 rfl rfl (by decide) mF_X11_324_X2_0 rfl dX11_count_195 ?_
    refine v_aload_n C dX11_count_198 0 rfl ?_
    refine v_get (ci := 11) C inT11 0 0 rfl rfl (by decide) mF_X11_10_X11_0 rfl dX11_count_199 ?_
    refine v_get (ci := 8) C inT8 5 0 rfl rfl (by decide) mF_X11_84_X8_0 rfl dX11_count_202 ?_
    refine v_callVMi (st := []) (ci := 1) (qb := 43) C (kX1_namesAt ((a0_0 5)) a0_0_5 _ _ _ hw) mM_X11_337 mI_X1 mC_X1_namesAt mN_X1_namesAt mS_X1_namesAt rfl rfl hd_X1_namesAt ⟨Nat.le_of_ble_eq_true rfl, Nat.le_of_ble_eq_true rfl⟩ ⟨Nat.le_of_ble_eq_true rfl, Nat.le_of_ble_eq_true rfl⟩ [5] [0, 1, 2, 3, 4, 6, 7, 8, 9, 10, 11] (N0 := 12) rfl (by decide) (ms2 := (fun (U : Md) => [wX11 E h0 a0 u0, wX8 E (a0 0) a0_0 u0_0, wX2 E (a0_0 2) a0_0_2 u0_0_2, wX7 E (a0_0 3) a0_0_3 u0_0_3, wX0 E (a0_0 4) a0_0_4 u0_0_4, wX1 E (a0_0 5) a0_0_5 U, wX6 E (a0_0 6) a0_0_6 u0_0_6, wX9 E (a0 2) a0_2 u0_2, wX10 E (a0 4) a0_4 u0_4, wX5 E (a0_4 6) a0_4_6 u0_4_6, wX5 E (a0_4 7) a0_4_7 u0_4_7, wX3 E (a0 6) a0_6 u0_6])) rfl (fun _ => rfl) (fun _ => rfl) (fun _ => rfl) rfl (Nat.le_of_ble_eq_true rfl) dX11_count_205 (fun r205 v205_0 hw => ?_)
    exact hret _ _ _ _ r205 (u0, u0_0, u0_0_2, u0_0_3, u0_0_4, v205_0, u0_0_6, u0_2, u0_4, u0_4_6, u0_4_7, u0_6) dX11_count_208 rfl hw (Nat.le_of_ble_eq_true rfl) (Nat.le_of_ble_eq_true rfl)
  have hw := hw.2 hc11
  have hn11 := ts_ne hc11
  by_cases hc12 : x1 = 12
  · have hw := hw.1 hc12
    refine v_tsIn (tgt := 209) C hc12 dX11_count_1 (by decide) (by decide) rfl (by decide) ?_
    refine v_aload_n C dX11_count_209 0 rfl ?_
    refine v_callVMi (st := []) (ci := 11) (qb := 0) C (kX11_rowsHad h0 a0 _ hw) mM_X11_340 mI_X11 mC_X11_rowsHad mN_X11_rowsHad mS_X11_rowsHad rfl rfl hd_X11_rowsHad ⟨Nat.le_of_ble_eq_true rfl, Nat.le_of_ble_eq_true rfl⟩ ⟨Nat.le_of_ble_eq_true rfl, Nat.le_of_ble_eq_true rfl⟩ [0] [1, 2, 3, 4, 5, 6, 7, 8, 9, 10, 11] (N0 := 12) rfl (by decide) (ms2 := (fun (U : Md) => [wX11 E h0 a0 U, wX8 E (a0 0) a0_0 u0_0, wX2 E (a0_0 2) a0_0_2 u0_0_2, wX7 E (a0_0 3) a0_0_3 u0_0_3, wX0 E (a0_0 4) a0_0_4 u0_0_4, wX1 E (a0_0 5) a0_0_5 u0_0_5, wX6 E (a0_0 6) a0_0_6 u0_0_6, wX9 E (a0 2) a0_2 u0_2, wX10 E (a0 4) a0_4 u0_4, wX5 E (a0_4 6) a0_4_6 u0_4_6, wX5 E (a0_4 7) a0_4_7 u0_4_7, wX3 E (a0 6) a0_6 u0_6])) rfl (fun _ => rfl) (fun _ => rfl) (fun _ => rfl) rfl (Nat.le_of_ble_eq_true rfl) dX11_count_210 (fun r210 v210_0 hw => ?_)
    exact hret _ _ _ _ r210 (v210_0, u0_0, u0_0_2, u0_0_3, u0_0_4, u0_0_5, u0_0_6, u0_2, u0_4, u0_4_6, u0_4_7, u0_6) dX11_count_213 rfl hw (Nat.le_of_ble_eq_true rfl) (Nat.le_of_ble_eq_true rfl)
  have hw := hw.2 hc12
  have hn12 := ts_ne hc12
  refine v_tsOut (tgt := 214) C dX11_count_1 (by first | exact ts_out13 hn0 hn1 hn2 hn3 hn4 hn5 hn6 hn7 hn8 hn9 hn10 hn11 hn12 | (simp at *; omega)) (by decide) ?_
  refine v_iconst (v := (-1)) C dX11_count_214 (by decide) ?_
  exact hret _ _ _ _ ((-1)) (u0, u0_0, u0_0_2, u0_0_3, u0_0_4, u0_0_5, u0_0_6, u0_2, u0_4, u0_4_6, u0_4_7, u0_6) dX11_count_215 rfl hw (Nat.le_of_ble_eq_true rfl) (Nat.le_of_ble_eq_true rfl)
set_option maxHeartbeats 4000000 in
set_option maxRecDepth 100000 in
theorem jX11_row_49 {X : VX} {E : VE} {l : Launch} (h0 : Nat) (a0 : Nat → Nat)  (Q : Int32 → Md → Prop) (C : VC X cX11_row 5 RX11 (rmL 1 0 0) E l) (hret : RetI X cX11_row .int 0 0 (fun (U : Md) => [wX11 E h0 a0 U].flatten) (fun (r : Int32) (U : Md) => Q r U))  : ∀ (n : Nat), ∀ (u0 : Md) (y1 : Int32) (y3 : Int32) (y4 : Int32), qX11_row_49 Q n u0 y1 y3 y4 → VV X 0 0 ([wX11 E h0 a0 u0].flatten) [(0, .ref h0), (1, .int y1), (3, .int y3), (4, .int y4)] 49 [] := by
  intro n
  induction n with
  | zero =>
    intro u0 y1 y3 y4 hw
    exact hw.elim
  | succ n ih =>
    intro u0 y1 y3 y4 hw
    unfold qX11_row_49 at hw
    refine v_iload C dX11_row_49 3 rfl ?_
    refine v_iload_n C dX11_row_51 2 rfl ?_
    refine v_icmp_ge (tgt := 74) C dX11_row_52 (by decide) (fun hc => ?_) (fun hc => ?_)
    · have hw := hw.1 hc
      refine v_iconst (v := 0) C dX11_row_74 (by decide) ?_
      exact hret _ _ _ _ 0 u0 dX11_row_75 rfl hw (Nat.le_of_ble_eq_true rfl) (Nat.le_of_ble_eq_true rfl)
    · have hw := hw.2 hc
      refine v_aload_n C dX11_row_55 0 rfl ?_
      refine v_get (ci := 11) C inT11 0 7 rfl rfl (by decide) mF_X11_55_X11_7 rfl dX11_row_56 ?_
      refine v_iload_n C dX11_row_59 1 rfl ?_
      refine v_bipush (v := 60) C dX11_row_60 (by decide) ?_
      refine v_imul C dX11_row_62 ?_
      refine v_iload C dX11_row_63 3 rfl ?_
      refine v_iadd C dX11_row_65 ?_
      refine v_lconst (v := 0) C dX11_row_66 (by decide) ?_
      obtain ⟨hi67, hw⟩ := hw
      obtain ⟨w67, e67⟩ : ∃ z : Md, z = tL u0 7 ((y1 * 60) + y4) 0 := ⟨_, rfl⟩
      have hw := hw w67 e67
      refine v_last (ws' := [wX11 E h0 a0 w67].flatten) C 2 rfl hi67 (by rw [e67]; rfl) dX11_row_67 ?_
      refine v_iinc (lv' := [(4, .int (y4 + Int32.ofInt 1)), (0, .ref h0), (1, .int y1), (3, .int y3)]) C dX11_row_68 3 rfl (by decide) rfl ?_
      refine v_goto (tgt := 49) C dX11_row_71 (by decide) ?_
      refine v_lv C (lv' := [(0, .ref h0), (1, .int y1), (3, .int y3), (4, .int (y4 + Int32.ofInt 1))]) [1, 2, 3, 0] rfl ?_
      exact ih w67 y1 y3 (y4 + Int32.ofInt 1) hw
set_option maxHeartbeats 4000000 in
set_option maxRecDepth 100000 in
theorem kX11_row {l : Launch} {E : VE} (h0 : Nat) (a0 : Nat → Nat) (u0 : Md) (x1 : Int32) (x2 : Int32) (x3 : Int32) {Q : Int32 → Md → Prop} (hw : qX11_row u0 x1 x2 x3 Q) : MI l yX11_row cX11_row 5 .int 1 0 0 E [.ref h0, .int x1, .int x2, .int x3] ([wX11 E h0 a0 u0].flatten) (fun (U : Md) => [wX11 E h0 a0 U].flatten) (fun (r : Int32) (U : Md) => Q r U) := by
  refine MI.of (own := RX11) (by decide) rfl (Nat.le_of_ble_eq_true rfl) ?_
  intro X C hini hret
  show VV X 0 0 ([wX11 E h0 a0 u0].flatten) [(0, .ref h0), (1, .int x1), (2, .int x2), (3, .int x3)] 0 []
  unfold qX11_row at hw
  refine v_iload_n C dX11_row_0 1 rfl ?_
  refine v_callSPi (st := []) C (kX11_isSlot _ hw) mM_X11_115 mI_X11 mC_X11_isSlot mT_X11_isSlot hd_X11_isSlot ⟨Nat.le_of_ble_eq_true rfl, Nat.le_of_ble_eq_true rfl⟩ ⟨Nat.le_of_ble_eq_true rfl, Nat.le_of_ble_eq_true rfl⟩ rfl (Nat.le_of_ble_eq_true rfl) dX11_row_1 (fun r1 U1 hw => ?_)
  obtain ⟨h01_1, hw⟩ := hw
  have hw := hw h01_1
  refine v_if_eq (tgt := 22) C dX11_row_4 (by decide) (fun hc => ?_) (fun hc => ?_)
  · have hw := hw.1 hc
    refine v_bipush (v := (-2)) C dX11_row_22 (by decide) ?_
    exact hret _ _ _ _ ((-2)) u0 dX11_row_24 rfl hw (Nat.le_of_ble_eq_true rfl) (Nat.le_of_ble_eq_true rfl)
  · have hw := hw.2 hc
    refine v_iload_n C dX11_row_7 2 rfl ?_
    refine v_if_lt (tgt := 22) C dX11_row_8 (by decide) (fun hc => ?_) (fun hc => ?_)
    · have hw := hw.1 hc
      refine v_bipush (v := (-2)) C dX11_row_22 (by decide) ?_
      exact hret _ _ _ _ ((-2)) u0 dX11_row_24 rfl hw (Nat.le_of_ble_eq_true rfl) (Nat.le_of_ble_eq_true rfl)
    · have hw := hw.2 hc
      refine v_iload_n C dX11_row_11 2 rfl ?_
      refine v_iconst (v := 4) C dX11_row_12 (by decide) ?_
      refine v_icmp_ge (tgt := 22) C dX11_row_13 (by decide) (fun hc => ?_) (fun hc => ?_)
      · have hw := hw.1 hc
        refine v_bipush (v := (-2)) C dX11_row_22 (by decide) ?_
        exact hret _ _ _ _ ((-2)) u0 dX11_row_24 rfl hw (Nat.le_of_ble_eq_true rfl) (Nat.le_of_ble_eq_true rfl)
      · have hw := hw.2 hc
        refine v_iload_n C dX11_row_16 3 rfl ?_
        refine v_bipush (v := 60) C dX11_row_17 (by decide) ?_
        refine v_icmp_le (tgt := 25) C dX11_row_19 (by decide) (fun hc => ?_) (fun hc => ?_)
        · have hw := hw.1 hc
          refine v_iload_n C dX11_row_25 3 rfl ?_
          refine v_if_ge (tgt := 32) C dX11_row_26 (by decide) (fun hc => ?_) (fun hc => ?_)
          · have hw := hw.1 hc
            refine v_aload_n C dX11_row_32 0 rfl ?_
            refine v_get (ci := 11) C inT11 0 8 rfl rfl (by decide) mF_X11_59_X11_8 rfl dX11_row_33 ?_
            refine v_iload_n C dX11_row_36 1 rfl ?_
            refine v_iload_n C dX11_row_37 2 rfl ?_
            obtain ⟨hi38, hw⟩ := hw
            obtain ⟨w38, e38⟩ : ∃ z : Md, z = tA u0 8 x1 x2 := ⟨_, rfl⟩
            have hw := hw w38 e38
            refine v_iast (ws' := [wX11 E h0 a0 w38].flatten) C 3 rfl hi38 (by rw [e38]; rfl) dX11_row_38 ?_
            refine v_aload_n C dX11_row_39 0 rfl ?_
            refine v_get (ci := 11) C inT11 0 9 rfl rfl (by decide) mF_X11_63_X11_9 rfl dX11_row_40 ?_
            refine v_iload_n C dX11_row_43 1 rfl ?_
            refine v_iload_n C dX11_row_44 3 rfl ?_
            obtain ⟨hi45, hw⟩ := hw
            obtain ⟨w45, e45⟩ : ∃ z : Md, z = tA w38 9 x1 x3 := ⟨_, rfl⟩
            have hw := hw w45 e45
            refine v_iast (ws' := [wX11 E h0 a0 w45].flatten) C 4 rfl hi45 (by rw [e45]; rfl) dX11_row_45 ?_
            refine v_iconst (v := 0) C dX11_row_46 (by decide) ?_
            refine v_istore (lv' := [(4, .int 0), (0, .ref h0), (1, .int x1), (2, .int x2), (3, .int x3)]) C dX11_row_47 (by decide) rfl ?_
            refine v_lv C (lv' := [(0, .ref h0), (1, .int x1), (3, .int x3), (4, .int 0)]) [1, 2, 4, 0] rfl ?_
            obtain ⟨n', hw⟩ := hw
            exact jX11_row_49 h0 a0 Q C hret n' w45 x1 x3 0 hw
          · have hw := hw.2 hc
            refine v_bipush (v := (-3)) C dX11_row_29 (by decide) ?_
            exact hret _ _ _ _ ((-3)) u0 dX11_row_31 rfl hw (Nat.le_of_ble_eq_true rfl) (Nat.le_of_ble_eq_true rfl)
        · have hw := hw.2 hc
          refine v_bipush (v := (-2)) C dX11_row_22 (by decide) ?_
          exact hret _ _ _ _ ((-2)) u0 dX11_row_24 rfl hw (Nat.le_of_ble_eq_true rfl) (Nat.le_of_ble_eq_true rfl)
set_option maxHeartbeats 4000000 in
set_option maxRecDepth 100000 in
theorem kX11_tear {l : Launch} {E : VE} (h0 : Nat) (a0 : Nat → Nat) (u0 : Md) (x1 : Int32) {Q : Int32 → Md → Prop} (hw : qX11_tear u0 x1 Q) : MI l yX11_tear cX11_tear 2 .boolean 1 0 0 E [.ref h0, .int x1] ([wX11 E h0 a0 u0].flatten) (fun (U : Md) => [wX11 E h0 a0 U].flatten) (fun (r : Int32) (U : Md) => (r = 0 ∨ r = 1) ∧ Q r U) := by
  refine MI.of (own := RX11) (by decide) rfl (Nat.le_of_ble_eq_true rfl) ?_
  intro X C hini hret
  show VV X 0 0 ([wX11 E h0 a0 u0].flatten) [(0, .ref h0), (1, .int x1)] 0 []
  unfold qX11_tear at hw
  refine v_iload_n C dX11_tear_0 1 rfl ?_
  refine v_callSPi (st := []) C (kX11_isSlot _ hw) mM_X11_115 mI_X11 mC_X11_isSlot mT_X11_isSlot hd_X11_isSlot ⟨Nat.le_of_ble_eq_true rfl, Nat.le_of_ble_eq_true rfl⟩ ⟨Nat.le_of_ble_eq_true rfl, Nat.le_of_ble_eq_true rfl⟩ rfl (Nat.le_of_ble_eq_true rfl) dX11_tear_1 (fun r1 U1 hw => ?_)
  obtain ⟨h01_1, hw⟩ := hw
  have hw := hw h01_1
  refine v_if_eq (tgt := 17) C dX11_tear_4 (by decide) (fun hc => ?_) (fun hc => ?_)
  · have hw := hw.1 hc
    refine v_iconst (v := 0) C dX11_tear_17 (by decide) ?_
    exact hret _ _ _ _ 0 u0 dX11_tear_18 rfl ⟨Or.inl rfl, hw⟩ (Nat.le_of_ble_eq_true rfl) (Nat.le_of_ble_eq_true rfl)
  · have hw := hw.2 hc
    refine v_aload_n C dX11_tear_7 0 rfl ?_
    refine v_get (ci := 11) C inT11 0 9 rfl rfl (by decide) mF_X11_63_X11_9 rfl dX11_tear_8 ?_
    refine v_iload_n C dX11_tear_11 1 rfl ?_
    obtain ⟨hi12, hw⟩ := hw
    refine v_iald C 4 rfl hi12 dX11_tear_12 ?_
    refine v_iconst (v := (-1)) C dX11_tear_13 (by decide) ?_
    refine v_icmp_ne (tgt := 19) C dX11_tear_14 (by decide) (fun hc => ?_) (fun hc => ?_)
    · have hw := hw.1 hc
      refine v_aload_n C dX11_tear_19 0 rfl ?_
      refine v_get (ci := 11) C inT11 0 9 rfl rfl (by decide) mF_X11_63_X11_9 rfl dX11_tear_20 ?_
      refine v_iload_n C dX11_tear_23 1 rfl ?_
      refine v_iconst (v := (-1)) C dX11_tear_24 (by decide) ?_
      obtain ⟨hi25, hw⟩ := hw
      obtain ⟨w25, e25⟩ : ∃ z : Md, z = tA u0 9 x1 ((-1)) := ⟨_, rfl⟩
      have hw := hw w25 e25
      refine v_iast (ws' := [wX11 E h0 a0 w25].flatten) C 4 rfl hi25 (by rw [e25]; rfl) dX11_tear_25 ?_
      refine v_iconst (v := 1) C dX11_tear_26 (by decide) ?_
      exact hret _ _ _ _ 1 w25 dX11_tear_27 rfl ⟨Or.inr rfl, hw⟩ (Nat.le_of_ble_eq_true rfl) (Nat.le_of_ble_eq_true rfl)
    · have hw := hw.2 hc
      refine v_iconst (v := 0) C dX11_tear_17 (by decide) ?_
      exact hret _ _ _ _ 0 u0 dX11_tear_18 rfl ⟨Or.inl rfl, hw⟩ (Nat.le_of_ble_eq_true rfl) (Nat.le_of_ble_eq_true rfl)
set_option maxHeartbeats 4000000 in
set_option maxRecDepth 100000 in
theorem kX11_cut {l : Launch} {E : VE} (x0 : Int64) (x1 : Int32) {Q : Int64 → Prop} (hw : qX11_cut x0 x1 Q) : ML l yX11_cut cX11_cut 3 0 0 0 E [.long x0, .int x1] ([]) (fun (_ : Unit) => ([] : va_W)) (fun (r : Int64) (_ : Unit) => Q r) := by
  refine ML.of (own := RX11) (by decide) rfl (Nat.le_of_ble_eq_true rfl) ?_
  intro X C hini hret
  show VV X 0 0 ([]) [(0, .long x0), (2, .int x1)] 0 []
  unfold qX11_cut at hw
  refine v_iload_n C dX11_cut_0 1 rfl ?_
  by_cases hc0 : x1 = 0
  · have hw := hw.1 hc0
    refine v_tsIn (tgt := 28) C hc0 dX11_cut_1 (by decide) (by decide) rfl (by decide) ?_
    refine v_lload_n C dX11_cut_28 0 rfl ?_
    refine v_l2i C dX11_cut_29 ?_
    refine v_i2b C dX11_cut_30 ?_
    refine v_i2l C dX11_cut_31 ?_
    exact hret _ _ _ _ x0.toInt32.toInt8.toInt32.toInt64 () dX11_cut_32 hw (Nat.le_of_ble_eq_true rfl) (Nat.le_of_ble_eq_true rfl)
  have hw := hw.2 hc0
  have hn0 := ts_ne hc0
  by_cases hc1 : x1 = 1
  · have hw := hw.1 hc1
    refine v_tsIn (tgt := 33) C hc1 dX11_cut_1 (by decide) (by decide) rfl (by decide) ?_
    refine v_lload_n C dX11_cut_33 0 rfl ?_
    refine v_l2i C dX11_cut_34 ?_
    refine v_i2s C dX11_cut_35 ?_
    refine v_i2l C dX11_cut_36 ?_
    exact hret _ _ _ _ x0.toInt32.toInt16.toInt32.toInt64 () dX11_cut_37 hw (Nat.le_of_ble_eq_true rfl) (Nat.le_of_ble_eq_true rfl)
  have hw := hw.2 hc1
  have hn1 := ts_ne hc1
  by_cases hc2 : x1 = 2
  · have hw := hw.1 hc2
    refine v_tsIn (tgt := 38) C hc2 dX11_cut_1 (by decide) (by decide) rfl (by decide) ?_
    refine v_lload_n C dX11_cut_38 0 rfl ?_
    refine v_l2i C dX11_cut_39 ?_
    refine v_i2l C dX11_cut_40 ?_
    exact hret _ _ _ _ x0.toInt32.toInt64 () dX11_cut_41 hw (Nat.le_of_ble_eq_true rfl) (Nat.le_of_ble_eq_true rfl)
  have hw := hw.2 hc2
  have hn2 := ts_ne hc2
  refine v_tsOut (tgt := 42) C dX11_cut_1 (by first | exact ts_out3 hn0 hn1 hn2 | (simp at *; omega)) (by decide) ?_
  refine v_lload_n C dX11_cut_42 0 rfl ?_
  exact hret _ _ _ _ x0 () dX11_cut_43 hw (Nat.le_of_ble_eq_true rfl) (Nat.le_of_ble_eq_true rfl)
set_option maxHeartbeats 4000000 in
set_option maxRecDepth 100000 in
theorem kX11_write {l : Launch} {E : VE} (h0 : Nat) (a0 : Nat → Nat) (u0 : Md) (x1 : Int32) (x2 : Int32) (x3 : Int64) {Q : Int32 → Md → Prop} (hw : qX11_write u0 x1 x2 x3 Q) : MI l yX11_write cX11_write 5 .int 1 0 0 E [.ref h0, .int x1, .int x2, .long x3] ([wX11 E h0 a0 u0].flatten) (fun (U : Md) => [wX11 E h0 a0 U].flatten) (fun (r : Int32) (U : Md) => Q r U) := by
  refine MI.of (own := RX11) (by decide) rfl (Nat.le_of_ble_eq_true rfl) ?_
  intro X C hini hret
  show VV X 0 0 ([wX11 E h0 a0 u0].flatten) [(0, .ref h0), (1, .int x1), (2, .int x2), (3, .long x3)] 0 []
  unfold qX11_write at hw
  refine v_iload_n C dX11_write_0 1 rfl ?_
  refine v_callSPi (st := []) C (kX11_isSlot _ hw) mM_X11_115 mI_X11 mC_X11_isSlot mT_X11_isSlot hd_X11_isSlot ⟨Nat.le_of_ble_eq_true rfl, Nat.le_of_ble_eq_true rfl⟩ ⟨Nat.le_of_ble_eq_true rfl, Nat.le_of_ble_eq_true rfl⟩ rfl (Nat.le_of_ble_eq_true rfl) dX11_write_1 (fun r1 U1 hw => ?_)
  obtain ⟨h01_1, hw⟩ := hw
  have hw := hw h01_1
  refine v_if_ne (tgt := 10) C dX11_write_4 (by decide) (fun hc => ?_) (fun hc => ?_)
  · have hw := hw.1 hc
    refine v_aload_n C dX11_write_10 0 rfl ?_
    refine v_get (ci := 11) C inT11 0 9 rfl rfl (by decide) mF_X11_63_X11_9 rfl dX11_write_11 ?_
    refine v_iload_n C dX11_write_14 1 rfl ?_
    obtain ⟨hi15, hw⟩ := hw
    refine v_iald C 4 rfl hi15 dX11_write_15 ?_
    refine v_iconst (v := (-1)) C dX11_write_16 (by decide) ?_
    refine v_icmp_ne (tgt := 23) C dX11_write_17 (by decide) (fun hc => ?_) (fun hc => ?_)
    · have hw := hw.1 hc
      refine v_iload_n C dX11_write_23 2 rfl ?_
      refine v_if_lt (tgt := 37) C dX11_write_24 (by decide) (fun hc => ?_) (fun hc => ?_)
      · have hw := hw.1 hc
        refine v_bipush (v := (-7)) C dX11_write_37 (by decide) ?_
        exact hret _ _ _ _ ((-7)) u0 dX11_write_39 rfl hw (Nat.le_of_ble_eq_true rfl) (Nat.le_of_ble_eq_true rfl)
      · have hw := hw.2 hc
        refine v_iload_n C dX11_write_27 2 rfl ?_
        refine v_aload_n C dX11_write_28 0 rfl ?_
        refine v_get (ci := 11) C inT11 0 9 rfl rfl (by decide) mF_X11_63_X11_9 rfl dX11_write_29 ?_
        refine v_iload_n C dX11_write_32 1 rfl ?_
        obtain ⟨hi33, hw⟩ := hw
        refine v_iald C 4 rfl hi33 dX11_write_33 ?_
        refine v_icmp_lt (tgt := 40) C dX11_write_34 (by decide) (fun hc => ?_) (fun hc => ?_)
        · have hw := hw.1 hc
          refine v_aload_n C dX11_write_40 0 rfl ?_
          refine v_get (ci := 11) C inT11 0 7 rfl rfl (by decide) mF_X11_55_X11_7 rfl dX11_write_41 ?_
          refine v_iload_n C dX11_write_44 1 rfl ?_
          refine v_bipush (v := 60) C dX11_write_45 (by decide) ?_
          refine v_imul C dX11_write_47 ?_
          refine v_iload_n C dX11_write_48 2 rfl ?_
          refine v_iadd C dX11_write_49 ?_
          refine v_lload_n C dX11_write_50 3 rfl ?_
          refine v_aload_n C dX11_write_51 0 rfl ?_
          refine v_get (ci := 11) C inT11 0 8 rfl rfl (by decide) mF_X11_59_X11_8 rfl dX11_write_52 ?_
          refine v_iload_n C dX11_write_55 1 rfl ?_
          obtain ⟨hi56, hw⟩ := hw
          refine v_iald C 3 rfl hi56 dX11_write_56 ?_
          refine v_callSPl (st := [.int ((x1 * 60) + x2), .ref ((a0 7))]) C (kX11_cut _ _ hw) mM_X11_347 mI_X11 mC_X11_cut mT_X11_cut hd_X11_cut ⟨Nat.le_of_ble_eq_true rfl, Nat.le_of_ble_eq_true rfl⟩ ⟨Nat.le_of_ble_eq_true rfl, Nat.le_of_ble_eq_true rfl⟩ rfl (Nat.le_of_ble_eq_true rfl) dX11_write_57 (fun r57 U57 hw => ?_)
          obtain ⟨hi60, hw⟩ := hw
          obtain ⟨w60, e60⟩ : ∃ z : Md, z = tL u0 7 ((x1 * 60) + x2) r57 := ⟨_, rfl⟩
          have hw := hw w60 e60
          refine v_last (ws' := [wX11 E h0 a0 w60].flatten) C 2 rfl hi60 (by rw [e60]; rfl) dX11_write_60 ?_
          refine v_iconst (v := 0) C dX11_write_61 (by decide) ?_
          exact hret _ _ _ _ 0 w60 dX11_write_62 rfl hw (Nat.le_of_ble_eq_true rfl) (Nat.le_of_ble_eq_true rfl)
        · have hw := hw.2 hc
          refine v_bipush (v := (-7)) C dX11_write_37 (by decide) ?_
          exact hret _ _ _ _ ((-7)) u0 dX11_write_39 rfl hw (Nat.le_of_ble_eq_true rfl) (Nat.le_of_ble_eq_true rfl)
    · have hw := hw.2 hc
      refine v_bipush (v := (-6)) C dX11_write_20 (by decide) ?_
      exact hret _ _ _ _ ((-6)) u0 dX11_write_22 rfl hw (Nat.le_of_ble_eq_true rfl) (Nat.le_of_ble_eq_true rfl)
  · have hw := hw.2 hc
    refine v_bipush (v := (-2)) C dX11_write_7 (by decide) ?_
    exact hret _ _ _ _ ((-2)) u0 dX11_write_9 rfl hw (Nat.le_of_ble_eq_true rfl) (Nat.le_of_ble_eq_true rfl)
set_option maxHeartbeats 4000000 in
set_option maxRecDepth 100000 in
theorem kX11_liesInRow {l : Launch} {E : VE} (h0 : Nat) (a0 : Nat → Nat) (u0 : Md) (x1 : Int32) (x2 : Int32) (x3 : Int32) {Q : Int32 → Md → Prop} (hw : qX11_liesInRow u0 x1 x2 x3 Q) : MI l yX11_liesInRow cX11_liesInRow 4 .boolean 0 0 0 E [.ref h0, .int x1, .int x2, .int x3] ([wX11 E h0 a0 u0].flatten) (fun (U : Md) => [wX11 E h0 a0 U].flatten) (fun (r : Int32) (U : Md) => (r = 0 ∨ r = 1) ∧ Q r U) := by
  refine MI.of (own := RX11) (by decide) rfl (Nat.le_of_ble_eq_true rfl) ?_
  intro X C hini hret
  show VV X 0 0 ([wX11 E h0 a0 u0].flatten) [(0, .ref h0), (1, .int x1), (2, .int x2), (3, .int x3)] 0 []
  unfold qX11_liesInRow at hw
  refine v_iload_n C dX11_liesInRow_0 2 rfl ?_
  refine v_if_lt (tgt := 34) C dX11_liesInRow_1 (by decide) (fun hc => ?_) (fun hc => ?_)
  · have hw := hw.1 hc
    refine v_iconst (v := 0) C dX11_liesInRow_34 (by decide) ?_
    exact hret _ _ _ _ 0 u0 dX11_liesInRow_35 rfl ⟨Or.inl rfl, hw⟩ (Nat.le_of_ble_eq_true rfl) (Nat.le_of_ble_eq_true rfl)
  · have hw := hw.2 hc
    refine v_iload_n C dX11_liesInRow_4 3 rfl ?_
    refine v_if_lt (tgt := 34) C dX11_liesInRow_5 (by decide) (fun hc => ?_) (fun hc => ?_)
    · have hw := hw.1 hc
      refine v_iconst (v := 0) C dX11_liesInRow_34 (by decide) ?_
      exact hret _ _ _ _ 0 u0 dX11_liesInRow_35 rfl ⟨Or.inl rfl, hw⟩ (Nat.le_of_ble_eq_true rfl) (Nat.le_of_ble_eq_true rfl)
    · have hw := hw.2 hc
      refine v_iload_n C dX11_liesInRow_8 3 rfl ?_
      refine v_aload_n C dX11_liesInRow_9 0 rfl ?_
      refine v_get (ci := 11) C inT11 0 9 rfl rfl (by decide) mF_X11_63_X11_9 rfl dX11_liesInRow_10 ?_
      refine v_iload_n C dX11_liesInRow_13 1 rfl ?_
      obtain ⟨hi14, hw⟩ := hw
      refine v_iald C 4 rfl hi14 dX11_liesInRow_14 ?_
      refine v_icmp_gt (tgt := 34) C dX11_liesInRow_15 (by decide) (fun hc => ?_) (fun hc => ?_)
      · have hw := hw.1 hc
        refine v_iconst (v := 0) C dX11_liesInRow_34 (by decide) ?_
        exact hret _ _ _ _ 0 u0 dX11_liesInRow_35 rfl ⟨Or.inl rfl, hw⟩ (Nat.le_of_ble_eq_true rfl) (Nat.le_of_ble_eq_true rfl)
      · have hw := hw.2 hc
        refine v_iload_n C dX11_liesInRow_18 2 rfl ?_
        refine v_aload_n C dX11_liesInRow_19 0 rfl ?_
        refine v_get (ci := 11) C inT11 0 9 rfl rfl (by decide) mF_X11_63_X11_9 rfl dX11_liesInRow_20 ?_
        refine v_iload_n C dX11_liesInRow_23 1 rfl ?_
        obtain ⟨hi24, hw⟩ := hw
        refine v_iald C 4 rfl hi24 dX11_liesInRow_24 ?_
        refine v_iload_n C dX11_liesInRow_25 3 rfl ?_
        refine v_isub C dX11_liesInRow_26 ?_
        refine v_icmp_gt (tgt := 34) C dX11_liesInRow_27 (by decide) (fun hc => ?_) (fun hc => ?_)
        · have hw := hw.1 hc
          refine v_iconst (v := 0) C dX11_liesInRow_34 (by decide) ?_
          exact hret _ _ _ _ 0 u0 dX11_liesInRow_35 rfl ⟨Or.inl rfl, hw⟩ (Nat.le_of_ble_eq_true rfl) (Nat.le_of_ble_eq_true rfl)
        · have hw := hw.2 hc
          refine v_iconst (v := 1) C dX11_liesInRow_30 (by decide) ?_
          refine v_goto (tgt := 35) C dX11_liesInRow_31 (by decide) ?_
          exact hret _ _ _ _ 1 u0 dX11_liesInRow_35 rfl ⟨Or.inr rfl, hw⟩ (Nat.le_of_ble_eq_true rfl) (Nat.le_of_ble_eq_true rfl)
set_option maxHeartbeats 4000000 in
set_option maxRecDepth 100000 in
theorem kX11_paste {l : Launch} {E : VE} (h0 : Nat) (a0 : Nat → Nat) (u0 : Md) (x1 : Int32) (x2 : Int32) (x3 : Int32) (x4 : Int32) (x5 : Int32) {Q : Int32 → Md → Prop} (hw : qX11_paste u0 x1 x2 x3 x4 x5 Q) : MI l yX11_paste cX11_paste 6 .int 1 0 0 E [.ref h0, .int x1, .int x2, .int x3, .int x4, .int x5] ([wX11 E h0 a0 u0].flatten) (fun (U : Md) => [wX11 E h0 a0 U].flatten) (fun (r : Int32) (U : Md) => Q r U) := by
  refine MI.of (own := RX11) (by decide) rfl (Nat.le_of_ble_eq_true rfl) ?_
  intro X C hini hret
  show VV X 0 0 ([wX11 E h0 a0 u0].flatten) [(0, .ref h0), (1, .int x1), (2, .int x2), (3, .int x3), (4, .int x4), (5, .int x5)] 0 []
  unfold qX11_paste at hw
  refine v_iload_n C dX11_paste_0 1 rfl ?_
  refine v_callSPi (st := []) C (kX11_isSlot _ hw) mM_X11_115 mI_X11 mC_X11_isSlot mT_X11_isSlot hd_X11_isSlot ⟨Nat.le_of_ble_eq_true rfl, Nat.le_of_ble_eq_true rfl⟩ ⟨Nat.le_of_ble_eq_true rfl, Nat.le_of_ble_eq_true rfl⟩ rfl (Nat.le_of_ble_eq_true rfl) dX11_paste_1 (fun r1 U1 hw => ?_)
  obtain ⟨h01_1, hw⟩ := hw
  have hw := hw h01_1
  refine v_if_eq (tgt := 14) C dX11_paste_4 (by decide) (fun hc => ?_) (fun hc => ?_)
  · have hw := hw.1 hc
    refine v_bipush (v := (-2)) C dX11_paste_14 (by decide) ?_
    exact hret _ _ _ _ ((-2)) u0 dX11_paste_16 rfl hw (Nat.le_of_ble_eq_true rfl) (Nat.le_of_ble_eq_true rfl)
  · have hw := hw.2 hc
    refine v_iload_n C dX11_paste_7 3 rfl ?_
    refine v_callSPi (st := []) C (kX11_isSlot _ hw) mM_X11_115 mI_X11 mC_X11_isSlot mT_X11_isSlot hd_X11_isSlot ⟨Nat.le_of_ble_eq_true rfl, Nat.le_of_ble_eq_true rfl⟩ ⟨Nat.le_of_ble_eq_true rfl, Nat.le_of_ble_eq_true rfl⟩ rfl (Nat.le_of_ble_eq_true rfl) dX11_paste_8 (fun r8 U8 hw => ?_)
    obtain ⟨h01_8, hw⟩ := hw
    have hw := hw h01_8
    refine v_if_ne (tgt := 17) C dX11_paste_11 (by decide) (fun hc => ?_) (fun hc => ?_)
    · have hw := hw.1 hc
      refine v_aload_n C dX11_paste_17 0 rfl ?_
      refine v_get (ci := 11) C inT11 0 9 rfl rfl (by decide) mF_X11_63_X11_9 rfl dX11_paste_18 ?_
      refine v_iload_n C dX11_paste_21 1 rfl ?_
      obtain ⟨hi22, hw⟩ := hw
      refine v_iald C 4 rfl hi22 dX11_paste_22 ?_
      refine v_iconst (v := (-1)) C dX11_paste_23 (by decide) ?_
      refine v_icmp_eq (tgt := 37) C dX11_paste_24 (by decide) (fun hc => ?_) (fun hc => ?_)
      · have hw := hw.1 hc
        refine v_bipush (v := (-6)) C dX11_paste_37 (by decide) ?_
        exact hret _ _ _ _ ((-6)) u0 dX11_paste_39 rfl hw (Nat.le_of_ble_eq_true rfl) (Nat.le_of_ble_eq_true rfl)
      · have hw := hw.2 hc
        refine v_aload_n C dX11_paste_27 0 rfl ?_
        refine v_get (ci := 11) C inT11 0 9 rfl rfl (by decide) mF_X11_63_X11_9 rfl dX11_paste_28 ?_
        refine v_iload_n C dX11_paste_31 3 rfl ?_
        obtain ⟨hi32, hw⟩ := hw
        refine v_iald C 4 rfl hi32 dX11_paste_32 ?_
        refine v_iconst (v := (-1)) C dX11_paste_33 (by decide) ?_
        refine v_icmp_ne (tgt := 40) C dX11_paste_34 (by decide) (fun hc => ?_) (fun hc => ?_)
        · have hw := hw.1 hc
          refine v_aload_n C dX11_paste_40 0 rfl ?_
          refine v_get (ci := 11) C inT11 0 8 rfl rfl (by decide) mF_X11_59_X11_8 rfl dX11_paste_41 ?_
          refine v_iload_n C dX11_paste_44 1 rfl ?_
          obtain ⟨hi45, hw⟩ := hw
          refine v_iald C 3 rfl hi45 dX11_paste_45 ?_
          refine v_aload_n C dX11_paste_46 0 rfl ?_
          refine v_get (ci := 11) C inT11 0 8 rfl rfl (by decide) mF_X11_59_X11_8 rfl dX11_paste_47 ?_
          refine v_iload_n C dX11_paste_50 3 rfl ?_
          obtain ⟨hi51, hw⟩ := hw
          refine v_iald C 3 rfl hi51 dX11_paste_51 ?_
          refine v_icmp_eq (tgt := 58) C dX11_paste_52 (by decide) (fun hc => ?_) (fun hc => ?_)
          · have hw := hw.1 hc
            refine v_aload_n C dX11_paste_58 0 rfl ?_
            refine v_iload_n C dX11_paste_59 1 rfl ?_
            refine v_iload_n C dX11_paste_60 2 rfl ?_
            refine v_iload C dX11_paste_61 5 rfl ?_
            refine v_callFi (st := []) (ci := 11) (qb := 0) C (kX11_liesInRow h0 a0 _ _ _ _ hw) mM_X11_351 mI_X11 mC_X11_liesInRow mN_X11_liesInRow mS_X11_liesInRow rfl rfl hd_X11_liesInRow ⟨Nat.le_of_ble_eq_true rfl, Nat.le_of_ble_eq_true rfl⟩ ⟨Nat.le_of_ble_eq_true rfl, Nat.le_of_ble_eq_true rfl⟩ rfl (Nat.le_of_ble_eq_true rfl) dX11_paste_63 (fun r63 v63_0 hw => ?_)
            obtain ⟨h01_63, hw⟩ := hw
            have hw := hw h01_63
            refine v_if_eq (tgt := 81) C dX11_paste_66 (by decide) (fun hc => ?_) (fun hc => ?_)
            · have hw := hw.1 hc
              refine v_bipush (v := (-7)) C dX11_paste_81 (by decide) ?_
              exact hret _ _ _ _ ((-7)) v63_0 dX11_paste_83 rfl hw (Nat.le_of_ble_eq_true rfl) (Nat.le_of_ble_eq_true rfl)
            · have hw := hw.2 hc
              refine v_aload_n C dX11_paste_69 0 rfl ?_
              refine v_iload_n C dX11_paste_70 3 rfl ?_
              refine v_iload C dX11_paste_71 4 rfl ?_
              refine v_iload C dX11_paste_73 5 rfl ?_
              refine v_callFi (st := []) (ci := 11) (qb := 0) C (kX11_liesInRow h0 a0 _ _ _ _ hw) mM_X11_351 mI_X11 mC_X11_liesInRow mN_X11_liesInRow mS_X11_liesInRow rfl rfl hd_X11_liesInRow ⟨Nat.le_of_ble_eq_true rfl, Nat.le_of_ble_eq_true rfl⟩ ⟨Nat.le_of_ble_eq_true rfl, Nat.le_of_ble_eq_true rfl⟩ rfl (Nat.le_of_ble_eq_true rfl) dX11_paste_75 (fun r75 v75_0 hw => ?_)
              obtain ⟨h01_75, hw⟩ := hw
              have hw := hw h01_75
              refine v_if_ne (tgt := 84) C dX11_paste_78 (by decide) (fun hc => ?_) (fun hc => ?_)
              · have hw := hw.1 hc
                refine v_aload_n C dX11_paste_84 0 rfl ?_
                refine v_get (ci := 11) C inT11 0 7 rfl rfl (by decide) mF_X11_55_X11_7 rfl dX11_paste_85 ?_
                refine v_iload_n C dX11_paste_88 1 rfl ?_
                refine v_bipush (v := 60) C dX11_paste_89 (by decide) ?_
                refine v_imul C dX11_paste_91 ?_
                refine v_iload_n C dX11_paste_92 2 rfl ?_
                refine v_iadd C dX11_paste_93 ?_
                refine v_aload_n C dX11_paste_94 0 rfl ?_
                refine v_get (ci := 11) C inT11 0 7 rfl rfl (by decide) mF_X11_55_X11_7 rfl dX11_paste_95 ?_
                refine v_iload_n C dX11_paste_98 3 rfl ?_
                refine v_bipush (v := 60) C dX11_paste_99 (by decide) ?_
                refine v_imul C dX11_paste_101 ?_
                refine v_iload C dX11_paste_102 4 rfl ?_
                refine v_iadd C dX11_paste_104 ?_
                refine v_iload C dX11_paste_105 5 rfl ?_
                obtain ⟨hi107, hw⟩ := hw
                obtain ⟨w107, e107⟩ : ∃ z : Md, z = sL v75_0 7 (va_cpy (gL v75_0 7) (gL v75_0 7) ((x1 * 60) + x2).toNatClampNeg ((x3 * 60) + x4).toNatClampNeg x5.toNatClampNeg) := ⟨_, rfl⟩
                have hw := hw w107 e107
                refine v_copyl (ws' := [wX11 E h0 a0 w107].flatten) C 2 2 rfl rfl mM_X11_354 hi107 ⟨Nat.le_of_ble_eq_true rfl, Nat.le_of_ble_eq_true rfl⟩ (by rw [e107]; rfl) dX11_paste_107 ?_
                refine v_iconst (v := 0) C dX11_paste_110 (by decide) ?_
                exact hret _ _ _ _ 0 w107 dX11_paste_111 rfl hw (Nat.le_of_ble_eq_true rfl) (Nat.le_of_ble_eq_true rfl)
              · have hw := hw.2 hc
                refine v_bipush (v := (-7)) C dX11_paste_81 (by decide) ?_
                exact hret _ _ _ _ ((-7)) v75_0 dX11_paste_83 rfl hw (Nat.le_of_ble_eq_true rfl) (Nat.le_of_ble_eq_true rfl)
          · have hw := hw.2 hc
            refine v_bipush (v := (-8)) C dX11_paste_55 (by decide) ?_
            exact hret _ _ _ _ ((-8)) u0 dX11_paste_57 rfl hw (Nat.le_of_ble_eq_true rfl) (Nat.le_of_ble_eq_true rfl)
        · have hw := hw.2 hc
          refine v_bipush (v := (-6)) C dX11_paste_37 (by decide) ?_
          exact hret _ _ _ _ ((-6)) u0 dX11_paste_39 rfl hw (Nat.le_of_ble_eq_true rfl) (Nat.le_of_ble_eq_true rfl)
    · have hw := hw.2 hc
      refine v_bipush (v := (-2)) C dX11_paste_14 (by decide) ?_
      exact hret _ _ _ _ ((-2)) u0 dX11_paste_16 rfl hw (Nat.le_of_ble_eq_true rfl) (Nat.le_of_ble_eq_true rfl)
set_option maxHeartbeats 4000000 in
set_option maxRecDepth 100000 in
theorem kX12_in {l : Launch} {E : VE} (x0 : Int64) (x1 : Int64) (x2 : Int64) {Q : Int32 → Prop} (hw : qX12_in x0 x1 x2 Q) : MI l yX12_in cX12_in 6 .boolean 0 0 0 E [.long x0, .long x1, .long x2] ([]) (fun (_ : Unit) => ([] : va_W)) (fun (r : Int32) (_ : Unit) => (r = 0 ∨ r = 1) ∧ Q r) := by
  refine MI.of (own := RX12) (by decide) rfl (Nat.le_of_ble_eq_true rfl) ?_
  intro X C hini hret
  show VV X 0 0 ([]) [(0, .long x0), (2, .long x1), (4, .long x2)] 0 []
  unfold qX12_in at hw
  refine v_lload_n C dX12_in_0 0 rfl ?_
  refine v_lload_n C dX12_in_1 1 rfl ?_
  refine v_lcmp C dX12_in_2 ?_
  refine v_if_lt (tgt := 17) C dX12_in_3 (by decide) (fun hc => ?_) (fun hc => ?_)
  · have hw := hw.1 hc
    refine v_iconst (v := 0) C dX12_in_17 (by decide) ?_
    exact hret _ _ _ _ 0 () dX12_in_18 rfl ⟨Or.inl rfl, hw⟩ (Nat.le_of_ble_eq_true rfl) (Nat.le_of_ble_eq_true rfl)
  · have hw := hw.2 hc
    refine v_lload_n C dX12_in_6 0 rfl ?_
    refine v_lload C dX12_in_7 2 rfl ?_
    refine v_lcmp C dX12_in_9 ?_
    refine v_if_gt (tgt := 17) C dX12_in_10 (by decide) (fun hc => ?_) (fun hc => ?_)
    · have hw := hw.1 hc
      refine v_iconst (v := 0) C dX12_in_17 (by decide) ?_
      exact hret _ _ _ _ 0 () dX12_in_18 rfl ⟨Or.inl rfl, hw⟩ (Nat.le_of_ble_eq_true rfl) (Nat.le_of_ble_eq_true rfl)
    · have hw := hw.2 hc
      refine v_iconst (v := 1) C dX12_in_13 (by decide) ?_
      refine v_goto (tgt := 18) C dX12_in_14 (by decide) ?_
      exact hret _ _ _ _ 1 () dX12_in_18 rfl ⟨Or.inr rfl, hw⟩ (Nat.le_of_ble_eq_true rfl) (Nat.le_of_ble_eq_true rfl)
set_option maxHeartbeats 4000000 in
set_option maxRecDepth 100000 in
theorem jX12_keep_17 {X : VX} {E : VE} {l : Launch} (h0 : Nat) (a0 : Nat → Nat)  (Q : Int32 → Md → Prop) (C : VC X cX12_keep 3 RX12 (rmL 1 0 0) E l) (hret : RetI X cX12_keep .int 0 0 (fun (U : Md) => [wX12 E h0 a0 U].flatten) (fun (r : Int32) (U : Md) => Q r U))  : ∀ (n : Nat), ∀ (u0 : Md) (y1 : Int32) (y2 : Int32), qX12_keep_17 Q n u0 y1 y2 → VV X 0 0 ([wX12 E h0 a0 u0].flatten) [(0, .ref h0), (1, .int y1), (2, .int y2)] 17 [] := by
  intro n
  induction n with
  | zero =>
    intro u0 y1 y2 hw
    exact hw.elim
  | succ n ih =>
    intro u0 y1 y2 hw
    unfold qX12_keep_17 at hw
    refine v_iload_n C dX12_keep_17 2 rfl ?_
    refine v_sipush (v := 11570) C dX12_keep_18 (by decide) ?_
    refine v_icmp_ge (tgt := 48) C dX12_keep_21 (by decide) (fun hc => ?_) (fun hc => ?_)
    · have hw := hw.1 hc
      refine v_aload_n C dX12_keep_48 0 rfl ?_
      refine v_get (ci := 12) C inT12 0 3 rfl rfl (by decide) mF_X12_17_X12_3 rfl dX12_keep_49 ?_
      refine v_iload_n C dX12_keep_52 1 rfl ?_
      refine v_iconst (v := 1) C dX12_keep_53 (by decide) ?_
      obtain ⟨hi54, hw⟩ := hw
      obtain ⟨w54, e54⟩ : ∃ z : Md, z = tZ u0 3 y1 1 := ⟨_, rfl⟩
      have hw := hw w54 e54
      refine v_zast (ws' := [wX12 E h0 a0 w54].flatten) C 3 rfl hi54 (by rw [e54]; rfl) dX12_keep_54 ?_
      refine v_iconst (v := 0) C dX12_keep_55 (by decide) ?_
      exact hret _ _ _ _ 0 w54 dX12_keep_56 rfl hw (Nat.le_of_ble_eq_true rfl) (Nat.le_of_ble_eq_true rfl)
    · have hw := hw.2 hc
      refine v_aload_n C dX12_keep_24 0 rfl ?_
      refine v_get (ci := 12) C inT12 0 2 rfl rfl (by decide) mF_X12_14_X12_2 rfl dX12_keep_25 ?_
      refine v_sipush (v := 11570) C dX12_keep_28 (by decide) ?_
      refine v_iload_n C dX12_keep_31 1 rfl ?_
      refine v_imul C dX12_keep_32 ?_
      refine v_iload_n C dX12_keep_33 2 rfl ?_
      refine v_iadd C dX12_keep_34 ?_
      refine v_aload_n C dX12_keep_35 0 rfl ?_
      refine v_get (ci := 12) C inT12 0 1 rfl rfl (by decide) mF_X12_9_X12_1 rfl dX12_keep_36 ?_
      refine v_iload_n C dX12_keep_39 2 rfl ?_
      obtain ⟨hi40, hw⟩ := hw
      refine v_iald C 1 rfl hi40 dX12_keep_40 ?_
      obtain ⟨hi41, hw⟩ := hw
      obtain ⟨w41, e41⟩ : ∃ z : Md, z = tA u0 2 ((11570 * y1) + y2) (gA u0 1 y2.toNatClampNeg) := ⟨_, rfl⟩
      have hw := hw w41 e41
      refine v_iast (ws' := [wX12 E h0 a0 w41].flatten) C 2 rfl hi41 (by rw [e41]; rfl) dX12_keep_41 ?_
      refine v_iinc (lv' := [(2, .int (y2 + Int32.ofInt 1)), (0, .ref h0), (1, .int y1)]) C dX12_keep_42 2 rfl (by decide) rfl ?_
      refine v_goto (tgt := 17) C dX12_keep_45 (by decide) ?_
      refine v_lv C (lv' := [(0, .ref h0), (1, .int y1), (2, .int (y2 + Int32.ofInt 1))]) [1, 2, 0] rfl ?_
      exact ih w41 y1 (y2 + Int32.ofInt 1) hw
set_option maxHeartbeats 4000000 in
set_option maxRecDepth 100000 in
theorem kX12_keep {l : Launch} {E : VE} (h0 : Nat) (a0 : Nat → Nat) (u0 : Md) (x1 : Int32) {Q : Int32 → Md → Prop} (hw : qX12_keep u0 x1 Q) : MI l yX12_keep cX12_keep 3 .int 1 0 0 E [.ref h0, .int x1] ([wX12 E h0 a0 u0].flatten) (fun (U : Md) => [wX12 E h0 a0 U].flatten) (fun (r : Int32) (U : Md) => Q r U) := by
  refine MI.of (own := RX12) (by decide) rfl (Nat.le_of_ble_eq_true rfl) ?_
  intro X C hini hret
  show VV X 0 0 ([wX12 E h0 a0 u0].flatten) [(0, .ref h0), (1, .int x1)] 0 []
  unfold qX12_keep at hw
  refine v_iload_n C dX12_keep_0 1 rfl ?_
  refine v_i2l C dX12_keep_1 ?_
  refine v_lconst (v := 0) C dX12_keep_2 (by decide) ?_
  refine v_ldc2 C mJ_X12_123 dX12_keep_3 ?_
  refine v_callSPi (st := []) C (kX12_in _ _ _ hw) mM_X12_125 mI_X12 mC_X12_in mT_X12_in hd_X12_in ⟨Nat.le_of_ble_eq_true rfl, Nat.le_of_ble_eq_true rfl⟩ ⟨Nat.le_of_ble_eq_true rfl, Nat.le_of_ble_eq_true rfl⟩ rfl (Nat.le_of_ble_eq_true rfl) dX12_keep_6 (fun r6 U6 hw => ?_)
  obtain ⟨h01_6, hw⟩ := hw
  have hw := hw h01_6
  refine v_if_ne (tgt := 15) C dX12_keep_9 (by decide) (fun hc => ?_) (fun hc => ?_)
  · have hw := hw.1 hc
    refine v_iconst (v := 0) C dX12_keep_15 (by decide) ?_
    refine v_istore_n (lv' := [(2, .int 0), (0, .ref h0), (1, .int x1)]) C dX12_keep_16 (by decide) rfl ?_
    refine v_lv C (lv' := [(0, .ref h0), (1, .int x1), (2, .int 0)]) [1, 2, 0] rfl ?_
    obtain ⟨n', hw⟩ := hw
    exact jX12_keep_17 h0 a0 Q C hret n' u0 x1 0 hw
  · have hw := hw.2 hc
    refine v_bipush (v := (-2)) C dX12_keep_12 (by decide) ?_
    exact hret _ _ _ _ ((-2)) u0 dX12_keep_14 rfl hw (Nat.le_of_ble_eq_true rfl) (Nat.le_of_ble_eq_true rfl)
set_option maxHeartbeats 4000000 in
set_option maxRecDepth 100000 in
theorem jX12_back_29 {X : VX} {E : VE} {l : Launch} (h0 : Nat) (a0 : Nat → Nat)  (Q : Int32 → Md → Prop) (C : VC X cX12_back 3 RX12 (rmL 1 0 0) E l) (hret : RetI X cX12_back .int 0 0 (fun (U : Md) => [wX12 E h0 a0 U].flatten) (fun (r : Int32) (U : Md) => Q r U))  : ∀ (n : Nat), ∀ (u0 : Md) (y1 : Int32) (y2 : Int32), qX12_back_29 Q n u0 y1 y2 → VV X 0 0 ([wX12 E h0 a0 u0].flatten) [(0, .ref h0), (1, .int y1), (2, .int y2)] 29 [] := by
  intro n
  induction n with
  | zero =>
    intro u0 y1 y2 hw
    exact hw.elim
  | succ n ih =>
    intro u0 y1 y2 hw
    unfold qX12_back_29 at hw
    refine v_iload_n C dX12_back_29 2 rfl ?_
    refine v_sipush (v := 11570) C dX12_back_30 (by decide) ?_
    refine v_icmp_ge (tgt := 60) C dX12_back_33 (by decide) (fun hc => ?_) (fun hc => ?_)
    · have hw := hw.1 hc
      refine v_iconst (v := 0) C dX12_back_60 (by decide) ?_
      exact hret _ _ _ _ 0 u0 dX12_back_61 rfl hw (Nat.le_of_ble_eq_true rfl) (Nat.le_of_ble_eq_true rfl)
    · have hw := hw.2 hc
      refine v_aload_n C dX12_back_36 0 rfl ?_
      refine v_get (ci := 12) C inT12 0 1 rfl rfl (by decide) mF_X12_9_X12_1 rfl dX12_back_37 ?_
      refine v_iload_n C dX12_back_40 2 rfl ?_
      refine v_aload_n C dX12_back_41 0 rfl ?_
      refine v_get (ci := 12) C inT12 0 2 rfl rfl (by decide) mF_X12_14_X12_2 rfl dX12_back_42 ?_
      refine v_sipush (v := 11570) C dX12_back_45 (by decide) ?_
      refine v_iload_n C dX12_back_48 1 rfl ?_
      refine v_imul C dX12_back_49 ?_
      refine v_iload_n C dX12_back_50 2 rfl ?_
      refine v_iadd C dX12_back_51 ?_
      obtain ⟨hi52, hw⟩ := hw
      refine v_iald C 2 rfl hi52 dX12_back_52 ?_
      obtain ⟨hi53, hw⟩ := hw
      obtain ⟨w53, e53⟩ : ∃ z : Md, z = tA u0 1 y2 (gA u0 2 ((11570 * y1) + y2).toNatClampNeg) := ⟨_, rfl⟩
      have hw := hw w53 e53
      refine v_iast (ws' := [wX12 E h0 a0 w53].flatten) C 1 rfl hi53 (by rw [e53]; rfl) dX12_back_53 ?_
      refine v_iinc (lv' := [(2, .int (y2 + Int32.ofInt 1)), (0, .ref h0), (1, .int y1)]) C dX12_back_54 2 rfl (by decide) rfl ?_
      refine v_goto (tgt := 29) C dX12_back_57 (by decide) ?_
      refine v_lv C (lv' := [(0, .ref h0), (1, .int y1), (2, .int (y2 + Int32.ofInt 1))]) [1, 2, 0] rfl ?_
      exact ih w53 y1 (y2 + Int32.ofInt 1) hw
set_option maxHeartbeats 4000000 in
set_option maxRecDepth 100000 in
theorem kX12_back {l : Launch} {E : VE} (h0 : Nat) (a0 : Nat → Nat) (u0 : Md) (x1 : Int32) {Q : Int32 → Md → Prop} (hw : qX12_back u0 x1 Q) : MI l yX12_back cX12_back 3 .int 1 0 0 E [.ref h0, .int x1] ([wX12 E h0 a0 u0].flatten) (fun (U : Md) => [wX12 E h0 a0 U].flatten) (fun (r : Int32) (U : Md) => Q r U) := by
  refine MI.of (own := RX12) (by decide) rfl (Nat.le_of_ble_eq_true rfl) ?_
  intro X C hini hret
  show VV X 0 0 ([wX12 E h0 a0 u0].flatten) [(0, .ref h0), (1, .int x1)] 0 []
  unfold qX12_back at hw
  refine v_iload_n C dX12_back_0 1 rfl ?_
  refine v_i2l C dX12_back_1 ?_
  refine v_lconst (v := 0) C dX12_back_2 (by decide) ?_
  refine v_ldc2 C mJ_X12_123 dX12_back_3 ?_
  refine v_callSPi (st := []) C (kX12_in _ _ _ hw) mM_X12_125 mI_X12 mC_X12_in mT_X12_in hd_X12_in ⟨Nat.le_of_ble_eq_true rfl, Nat.le_of_ble_eq_true rfl⟩ ⟨Nat.le_of_ble_eq_true rfl, Nat.le_of_ble_eq_true rfl⟩ rfl (Nat.le_of_ble_eq_true rfl) dX12_back_6 (fun r6 U6 hw => ?_)
  obtain ⟨h01_6, hw⟩ := hw
  have hw := hw h01_6
  refine v_if_ne (tgt := 15) C dX12_back_9 (by decide) (fun hc => ?_) (fun hc => ?_)
  · have hw := hw.1 hc
    refine v_aload_n C dX12_back_15 0 rfl ?_
    refine v_get (ci := 12) C inT12 0 3 rfl rfl (by decide) mF_X12_17_X12_3 rfl dX12_back_16 ?_
    refine v_iload_n C dX12_back_19 1 rfl ?_
    obtain ⟨hi20, hw⟩ := hw
    refine v_zald C 3 rfl hi20 dX12_back_20 ?_
    refine v_if_ne (tgt := 27) C dX12_back_21 (by decide) (fun hc => ?_) (fun hc => ?_)
    · have hw := hw.1 hc
      refine v_iconst (v := 0) C dX12_back_27 (by decide) ?_
      refine v_istore_n (lv' := [(2, .int 0), (0, .ref h0), (1, .int x1)]) C dX12_back_28 (by decide) rfl ?_
      refine v_lv C (lv' := [(0, .ref h0), (1, .int x1), (2, .int 0)]) [1, 2, 0] rfl ?_
      obtain ⟨n', hw⟩ := hw
      exact jX12_back_29 h0 a0 Q C hret n' u0 x1 0 hw
    · have hw := hw.2 hc
      refine v_bipush (v := (-6)) C dX12_back_24 (by decide) ?_
      exact hret _ _ _ _ ((-6)) u0 dX12_back_26 rfl hw (Nat.le_of_ble_eq_true rfl) (Nat.le_of_ble_eq_true rfl)
  · have hw := hw.2 hc
    refine v_bipush (v := (-2)) C dX12_back_12 (by decide) ?_
    exact hret _ _ _ _ ((-2)) u0 dX12_back_14 rfl hw (Nat.le_of_ble_eq_true rfl) (Nat.le_of_ble_eq_true rfl)
set_option maxHeartbeats 4000000 in
set_option maxRecDepth 100000 in
theorem kX12_now {l : Launch} {E : VE} (h0 : Nat) (a0 : Nat → Nat) (u0 : Md) {Q : Int32 → Md → Prop} (hw : qX12_now u0 Q) : MI l yX12_now cX12_now 1 .int 0 0 0 E [.ref h0] ([wX12 E h0 a0 u0].flatten) (fun (U : Md) => [wX12 E h0 a0 U].flatten) (fun (r : Int32) (U : Md) => Q r U) := by
  refine MI.of (own := RX12) (by decide) rfl (Nat.le_of_ble_eq_true rfl) ?_
  intro X C hini hret
  show VV X 0 0 ([wX12 E h0 a0 u0].flatten) [(0, .ref h0)] 0 []
  unfold qX12_now at hw
  refine v_aload_n C dX12_now_0 0 rfl ?_
  refine v_get (ci := 12) C inT12 0 1 rfl rfl (by decide) mF_X12_9_X12_1 rfl dX12_now_1 ?_
  refine v_iconst (v := 0) C dX12_now_4 (by decide) ?_
  obtain ⟨hi5, hw⟩ := hw
  refine v_iald C 1 rfl hi5 dX12_now_5 ?_
  exact hret _ _ _ _ (gA u0 1 (0 : Int32).toNatClampNeg) u0 dX12_now_6 rfl hw (Nat.le_of_ble_eq_true rfl) (Nat.le_of_ble_eq_true rfl)
set_option maxHeartbeats 4000000 in
set_option maxRecDepth 100000 in
theorem kX12_isPlace {l : Launch} {E : VE} (h0 : Nat) (a0 : Nat → Nat) (u0 : Md) (x1 : Int32) {Q : Int32 → Md → Prop} (hw : qX12_isPlace u0 x1 Q) : MI l yX12_isPlace cX12_isPlace 2 .boolean 1 0 0 E [.ref h0, .int x1] ([wX12 E h0 a0 u0].flatten) (fun (U : Md) => [wX12 E h0 a0 U].flatten) (fun (r : Int32) (U : Md) => (r = 0 ∨ r = 1) ∧ Q r U) := by
  refine MI.of (own := RX12) (by decide) rfl (Nat.le_of_ble_eq_true rfl) ?_
  intro X C hini hret
  show VV X 0 0 ([wX12 E h0 a0 u0].flatten) [(0, .ref h0), (1, .int x1)] 0 []
  unfold qX12_isPlace at hw
  refine v_iload_n C dX12_isPlace_0 1 rfl ?_
  refine v_i2l C dX12_isPlace_1 ?_
  refine v_lconst (v := 0) C dX12_isPlace_2 (by decide) ?_
  refine v_aload_n C dX12_isPlace_3 0 rfl ?_
  refine v_get (ci := 12) C inT12 0 1 rfl rfl (by decide) mF_X12_9_X12_1 rfl dX12_isPlace_4 ?_
  refine v_iconst (v := 1) C dX12_isPlace_7 (by decide) ?_
  obtain ⟨hi8, hw⟩ := hw
  refine v_iald C 1 rfl hi8 dX12_isPlace_8 ?_
  refine v_iconst (v := 1) C dX12_isPlace_9 (by decide) ?_
  refine v_isub C dX12_isPlace_10 ?_
  refine v_i2l C dX12_isPlace_11 ?_
  refine v_callSPi (st := []) C (kX12_in _ _ _ hw) mM_X12_125 mI_X12 mC_X12_in mT_X12_in hd_X12_in ⟨Nat.le_of_ble_eq_true rfl, Nat.le_of_ble_eq_true rfl⟩ ⟨Nat.le_of_ble_eq_true rfl, Nat.le_of_ble_eq_true rfl⟩ rfl (Nat.le_of_ble_eq_true rfl) dX12_isPlace_12 (fun r12 U12 hw => ?_)
  obtain ⟨h01_12, hw⟩ := hw
  have hw := hw h01_12
  exact hret _ _ _ _ r12 u0 dX12_isPlace_15 (nz01 h01_12) ⟨h01_12, hw⟩ (Nat.le_of_ble_eq_true rfl) (Nat.le_of_ble_eq_true rfl)
set_option maxHeartbeats 4000000 in
set_option maxRecDepth 100000 in
theorem kX12_isName {l : Launch} {E : VE} (h0 : Nat) (a0 : Nat → Nat) (u0 : Md) (x1 : Int32) {Q : Int32 → Md → Prop} (hw : qX12_isName u0 x1 Q) : MI l yX12_isName cX12_isName 2 .boolean 1 0 0 E [.ref h0, .int x1] ([wX12 E h0 a0 u0].flatten) (fun (U : Md) => [wX12 E h0 a0 U].flatten) (fun (r : Int32) (U : Md) => (r = 0 ∨ r = 1) ∧ Q r U) := by
  refine MI.of (own := RX12) (by decide) rfl (Nat.le_of_ble_eq_true rfl) ?_
  intro X C hini hret
  show VV X 0 0 ([wX12 E h0 a0 u0].flatten) [(0, .ref h0), (1, .int x1)] 0 []
  unfold qX12_isName at hw
  refine v_iload_n C dX12_isName_0 1 rfl ?_
  refine v_i2l C dX12_isName_1 ?_
  refine v_lconst (v := 0) C dX12_isName_2 (by decide) ?_
  refine v_aload_n C dX12_isName_3 0 rfl ?_
  refine v_get (ci := 12) C inT12 0 1 rfl rfl (by decide) mF_X12_9_X12_1 rfl dX12_isName_4 ?_
  refine v_iconst (v := 2) C dX12_isName_7 (by decide) ?_
  obtain ⟨hi8, hw⟩ := hw
  refine v_iald C 1 rfl hi8 dX12_isName_8 ?_
  refine v_iconst (v := 1) C dX12_isName_9 (by decide) ?_
  refine v_isub C dX12_isName_10 ?_
  refine v_i2l C dX12_isName_11 ?_
  refine v_callSPi (st := []) C (kX12_in _ _ _ hw) mM_X12_125 mI_X12 mC_X12_in mT_X12_in hd_X12_in ⟨Nat.le_of_ble_eq_true rfl, Nat.le_of_ble_eq_true rfl⟩ ⟨Nat.le_of_ble_eq_true rfl, Nat.le_of_ble_eq_true rfl⟩ rfl (Nat.le_of_ble_eq_true rfl) dX12_isName_12 (fun r12 U12 hw => ?_)
  obtain ⟨h01_12, hw⟩ := hw
  have hw := hw h01_12
  exact hret _ _ _ _ r12 u0 dX12_isName_15 (nz01 h01_12) ⟨h01_12, hw⟩ (Nat.le_of_ble_eq_true rfl) (Nat.le_of_ble_eq_true rfl)
set_option maxHeartbeats 4000000 in
set_option maxRecDepth 100000 in
theorem kX12_isTongue {l : Launch} {E : VE} (x0 : Int32) {Q : Int32 → Prop} (hw : qX12_isTongue x0 Q) : MI l yX12_isTongue cX12_isTongue 1 .boolean 1 0 0 E [.int x0] ([]) (fun (_ : Unit) => ([] : va_W)) (fun (r : Int32) (_ : Unit) => (r = 0 ∨ r = 1) ∧ Q r) := by
  refine MI.of (own := RX12) (by decide) rfl (Nat.le_of_ble_eq_true rfl) ?_
  intro X C hini hret
  show VV X 0 0 ([]) [(0, .int x0)] 0 []
  unfold qX12_isTongue at hw
  refine v_iload_n C dX12_isTongue_0 0 rfl ?_
  refine v_i2l C dX12_isTongue_1 ?_
  refine v_lconst (v := 0) C dX12_isTongue_2 (by decide) ?_
  refine v_ldc2 C mJ_X12_123 dX12_isTongue_3 ?_
  refine v_callSPi (st := []) C (kX12_in _ _ _ hw) mM_X12_125 mI_X12 mC_X12_in mT_X12_in hd_X12_in ⟨Nat.le_of_ble_eq_true rfl, Nat.le_of_ble_eq_true rfl⟩ ⟨Nat.le_of_ble_eq_true rfl, Nat.le_of_ble_eq_true rfl⟩ rfl (Nat.le_of_ble_eq_true rfl) dX12_isTongue_6 (fun r6 U6 hw => ?_)
  obtain ⟨h01_6, hw⟩ := hw
  have hw := hw h01_6
  exact hret _ _ _ _ r6 () dX12_isTongue_9 (nz01 h01_6) ⟨h01_6, hw⟩ (Nat.le_of_ble_eq_true rfl) (Nat.le_of_ble_eq_true rfl)
set_option maxHeartbeats 4000000 in
set_option maxRecDepth 100000 in
theorem kX12_isYear {l : Launch} {E : VE} (x0 : Int32) {Q : Int32 → Prop} (hw : qX12_isYear x0 Q) : MI l yX12_isYear cX12_isYear 1 .boolean 1 0 0 E [.int x0] ([]) (fun (_ : Unit) => ([] : va_W)) (fun (r : Int32) (_ : Unit) => (r = 0 ∨ r = 1) ∧ Q r) := by
  refine MI.of (own := RX12) (by decide) rfl (Nat.le_of_ble_eq_true rfl) ?_
  intro X C hini hret
  show VV X 0 0 ([]) [(0, .int x0)] 0 []
  unfold qX12_isYear at hw
  refine v_iload_n C dX12_isYear_0 0 rfl ?_
  refine v_i2l C dX12_isYear_1 ?_
  refine v_lconst (v := 0) C dX12_isYear_2 (by decide) ?_
  refine v_ldc2 C mJ_X12_129 dX12_isYear_3 ?_
  refine v_callSPi (st := []) C (kX12_in _ _ _ hw) mM_X12_125 mI_X12 mC_X12_in mT_X12_in hd_X12_in ⟨Nat.le_of_ble_eq_true rfl, Nat.le_of_ble_eq_true rfl⟩ ⟨Nat.le_of_ble_eq_true rfl, Nat.le_of_ble_eq_true rfl⟩ rfl (Nat.le_of_ble_eq_true rfl) dX12_isYear_6 (fun r6 U6 hw => ?_)
  obtain ⟨h01_6, hw⟩ := hw
  have hw := hw h01_6
  exact hret _ _ _ _ r6 () dX12_isYear_9 (nz01 h01_6) ⟨h01_6, hw⟩ (Nat.le_of_ble_eq_true rfl) (Nat.le_of_ble_eq_true rfl)
set_option maxHeartbeats 4000000 in
set_option maxRecDepth 100000 in
theorem kX12_nameIs {l : Launch} {E : VE} (h0 : Nat) (a0 : Nat → Nat) (u0 : Md) (x1 : Int32) (x2 : Int32) {Q : Int32 → Md → Prop} (hw : qX12_nameIs u0 x1 x2 Q) : MI l yX12_nameIs cX12_nameIs 3 .int 0 0 0 E [.ref h0, .int x1, .int x2] ([wX12 E h0 a0 u0].flatten) (fun (U : Md) => [wX12 E h0 a0 U].flatten) (fun (r : Int32) (U : Md) => Q r U) := by
  refine MI.of (own := RX12) (by decide) rfl (Nat.le_of_ble_eq_true rfl) ?_
  intro X C hini hret
  show VV X 0 0 ([wX12 E h0 a0 u0].flatten) [(0, .ref h0), (1, .int x1), (2, .int x2)] 0 []
  unfold qX12_nameIs at hw
  refine v_aload_n C dX12_nameIs_0 0 rfl ?_
  refine v_get (ci := 12) C inT12 0 1 rfl rfl (by decide) mF_X12_9_X12_1 rfl dX12_nameIs_1 ?_
  refine v_bipush (v := 90) C dX12_nameIs_4 (by decide) ?_
  refine v_bipush (v := 16) C dX12_nameIs_6 (by decide) ?_
  refine v_iload_n C dX12_nameIs_8 1 rfl ?_
  refine v_imul C dX12_nameIs_9 ?_
  refine v_iadd C dX12_nameIs_10 ?_
  refine v_iload_n C dX12_nameIs_11 2 rfl ?_
  refine v_iadd C dX12_nameIs_12 ?_
  obtain ⟨hi13, hw⟩ := hw
  refine v_iald C 1 rfl hi13 dX12_nameIs_13 ?_
  exact hret _ _ _ _ (gA u0 1 ((90 + (16 * x1)) + x2).toNatClampNeg) u0 dX12_nameIs_14 rfl hw (Nat.le_of_ble_eq_true rfl) (Nat.le_of_ble_eq_true rfl)
set_option maxHeartbeats 4000000 in
set_option maxRecDepth 100000 in
theorem jX12_feed_55 {X : VX} {E : VE} {l : Launch} (h0 : Nat) (a0 : Nat → Nat)  (Q : Int32 → Md → Prop) (C : VC X cX12_feed 7 RX12 (rmL 0 0 0) E l) (hret : RetI X cX12_feed .int 0 0 (fun (U : Md) => [wX12 E h0 a0 U].flatten) (fun (r : Int32) (U : Md) => Q r U))  : ∀ (n : Nat), ∀ (u0 : Md) (y6 : Int32), qX12_feed_55 Q n u0 y6 → VV X 0 0 ([wX12 E h0 a0 u0].flatten) [(0, .ref h0), (6, .int y6)] 55 [] := by
  intro n
  induction n with
  | zero =>
    intro u0 y6 hw
    exact hw.elim
  | succ n ih =>
    intro u0 y6 hw
    unfold qX12_feed_55 at hw
    refine v_iload C dX12_feed_55 1 rfl ?_
    refine v_bipush (v := 20) C dX12_feed_57 (by decide) ?_
    refine v_icmp_ge (tgt := 101) C dX12_feed_59 (by decide) (fun hc => ?_) (fun hc => ?_)
    · have hw := hw.1 hc
      refine v_aload_n C dX12_feed_101 0 rfl ?_
      refine v_dup C dX12_feed_102 rfl ?_
      refine v_get (ci := 12) C inT12 0 5 rfl rfl (by decide) mF_X12_131_X12_5 rfl dX12_feed_103 ?_
      refine v_bipush (v := 20) C dX12_feed_106 (by decide) ?_
      refine v_iadd C dX12_feed_108 ?_
      obtain ⟨w109, e109⟩ : ∃ z : Md, z = sF u0 5 ((gF u0 5) + 20) := ⟨_, rfl⟩
      have hw := hw w109 e109
      refine v_put (ci := 12) (ws' := [wX12 E h0 a0 w109].flatten) C tyX12 tyX12_ok nmX12 inT12 0 5 rfl rfl (by decide) mF_X12_131_X12_5 rfl rfl rfl rfl (Nat.le_of_ble_eq_true rfl) (by rw [e109]; rfl) dX12_feed_109 ?_
      refine v_aload_n C dX12_feed_112 0 rfl ?_
      refine v_get (ci := 12) C inT12 0 5 rfl rfl (by decide) mF_X12_131_X12_5 rfl dX12_feed_113 ?_
      exact hret _ _ _ _ (gF w109 5) w109 dX12_feed_116 rfl hw (Nat.le_of_ble_eq_true rfl) (Nat.le_of_ble_eq_true rfl)
    · have hw := hw.2 hc
      refine v_aload_n C dX12_feed_62 0 rfl ?_
      refine v_get (ci := 12) C inT12 0 4 rfl rfl (by decide) mF_X12_21_X12_4 rfl dX12_feed_63 ?_
      refine v_aload_n C dX12_feed_66 0 rfl ?_
      refine v_get (ci := 12) C inT12 0 5 rfl rfl (by decide) mF_X12_131_X12_5 rfl dX12_feed_67 ?_
      refine v_iload C dX12_feed_70 1 rfl ?_
      refine v_iadd C dX12_feed_72 ?_
      refine v_aload_n C dX12_feed_73 0 rfl ?_
      refine v_get (ci := 12) C inT12 0 6 rfl rfl (by decide) mF_X12_25_X12_6 rfl dX12_feed_74 ?_
      refine v_iload C dX12_feed_77 1 rfl ?_
      refine v_iconst (v := 4) C dX12_feed_79 (by decide) ?_
      refine v_idiv C dX12_feed_80 (by decide) ?_
      obtain ⟨hi81, hw⟩ := hw
      refine v_iald C 5 rfl hi81 dX12_feed_81 ?_
      refine v_bipush (v := 24) C dX12_feed_82 (by decide) ?_
      refine v_bipush (v := 8) C dX12_feed_84 (by decide) ?_
      refine v_iload C dX12_feed_86 1 rfl ?_
      refine v_iconst (v := 4) C dX12_feed_88 (by decide) ?_
      refine v_irem C dX12_feed_89 (by decide) ?_
      refine v_imul C dX12_feed_90 ?_
      refine v_isub C dX12_feed_91 ?_
      refine v_ishr C dX12_feed_92 ?_
      refine v_i2b C dX12_feed_93 ?_
      obtain ⟨hi94, hw⟩ := hw
      obtain ⟨w94, e94⟩ : ∃ z : Md, z = tB u0 4 ((gF u0 5) + y6) (((gA u0 6 (y6 / 4).toNatClampNeg) >>> ((24 - (8 * (y6 - y6 / 4 * 4))) &&& 31)).toInt8.toInt32) := ⟨_, rfl⟩
      have hw := hw w94 e94
      refine v_bast (ws' := [wX12 E h0 a0 w94].flatten) C 4 rfl hi94 (by rw [e94]; rfl) dX12_feed_94 ?_
      refine v_iinc (lv' := [(6, .int (y6 + Int32.ofInt 1)), (0, .ref h0)]) C dX12_feed_95 1 rfl (by decide) rfl ?_
      refine v_goto (tgt := 55) C dX12_feed_98 (by decide) ?_
      refine v_lv C (lv' := [(0, .ref h0), (6, .int (y6 + Int32.ofInt 1))]) [1, 0] rfl ?_
      exact ih w94 (y6 + Int32.ofInt 1) hw
set_option maxHeartbeats 4000000 in
set_option maxRecDepth 100000 in
theorem kX12_feed {l : Launch} {E : VE} (h0 : Nat) (a0 : Nat → Nat) (u0 : Md) (x1 : Int32) (x2 : Int32) (x3 : Int32) (x4 : Int32) (x5 : Int32) {Q : Int32 → Md → Prop} (hw : qX12_feed u0 x1 x2 x3 x4 x5 Q) : MI l yX12_feed cX12_feed 7 .int 0 0 0 E [.ref h0, .int x1, .int x2, .int x3, .int x4, .int x5] ([wX12 E h0 a0 u0].flatten) (fun (U : Md) => [wX12 E h0 a0 U].flatten) (fun (r : Int32) (U : Md) => Q r U) := by
  refine MI.of (own := RX12) (by decide) rfl (Nat.le_of_ble_eq_true rfl) ?_
  intro X C hini hret
  show VV X 0 0 ([wX12 E h0 a0 u0].flatten) [(0, .ref h0), (1, .int x1), (2, .int x2), (3, .int x3), (4, .int x4), (5, .int x5)] 0 []
  unfold qX12_feed at hw
  refine v_aload_n C dX12_feed_0 0 rfl ?_
  refine v_get (ci := 12) C inT12 0 5 rfl rfl (by decide) mF_X12_131_X12_5 rfl dX12_feed_1 ?_
  refine v_bipush (v := 20) C dX12_feed_4 (by decide) ?_
  refine v_iadd C dX12_feed_6 ?_
  refine v_sipush (v := 500) C dX12_feed_7 (by decide) ?_
  refine v_icmp_le (tgt := 15) C dX12_feed_10 (by decide) (fun hc => ?_) (fun hc => ?_)
  · have hw := hw.1 hc
    refine v_aload_n C dX12_feed_15 0 rfl ?_
    refine v_get (ci := 12) C inT12 0 6 rfl rfl (by decide) mF_X12_25_X12_6 rfl dX12_feed_16 ?_
    refine v_iconst (v := 0) C dX12_feed_19 (by decide) ?_
    refine v_iload_n C dX12_feed_20 1 rfl ?_
    obtain ⟨hi21, hw⟩ := hw
    obtain ⟨w21, e21⟩ : ∃ z : Md, z = tA u0 6 0 x1 := ⟨_, rfl⟩
    have hw := hw w21 e21
    refine v_iast (ws' := [wX12 E h0 a0 w21].flatten) C 5 rfl hi21 (by rw [e21]; rfl) dX12_feed_21 ?_
    refine v_aload_n C dX12_feed_22 0 rfl ?_
    refine v_get (ci := 12) C inT12 0 6 rfl rfl (by decide) mF_X12_25_X12_6 rfl dX12_feed_23 ?_
    refine v_iconst (v := 1) C dX12_feed_26 (by decide) ?_
    refine v_iload_n C dX12_feed_27 2 rfl ?_
    obtain ⟨hi28, hw⟩ := hw
    obtain ⟨w28, e28⟩ : ∃ z : Md, z = tA w21 6 1 x2 := ⟨_, rfl⟩
    have hw := hw w28 e28
    refine v_iast (ws' := [wX12 E h0 a0 w28].flatten) C 5 rfl hi28 (by rw [e28]; rfl) dX12_feed_28 ?_
    refine v_aload_n C dX12_feed_29 0 rfl ?_
    refine v_get (ci := 12) C inT12 0 6 rfl rfl (by decide) mF_X12_25_X12_6 rfl dX12_feed_30 ?_
    refine v_iconst (v := 2) C dX12_feed_33 (by decide) ?_
    refine v_iload_n C dX12_feed_34 3 rfl ?_
    obtain ⟨hi35, hw⟩ := hw
    obtain ⟨w35, e35⟩ : ∃ z : Md, z = tA w28 6 2 x3 := ⟨_, rfl⟩
    have hw := hw w35 e35
    refine v_iast (ws' := [wX12 E h0 a0 w35].flatten) C 5 rfl hi35 (by rw [e35]; rfl) dX12_feed_35 ?_
    refine v_aload_n C dX12_feed_36 0 rfl ?_
    refine v_get (ci := 12) C inT12 0 6 rfl rfl (by decide) mF_X12_25_X12_6 rfl dX12_feed_37 ?_
    refine v_iconst (v := 3) C dX12_feed_40 (by decide) ?_
    refine v_iload C dX12_feed_41 4 rfl ?_
    obtain ⟨hi43, hw⟩ := hw
    obtain ⟨w43, e43⟩ : ∃ z : Md, z = tA w35 6 3 x4 := ⟨_, rfl⟩
    have hw := hw w43 e43
    refine v_iast (ws' := [wX12 E h0 a0 w43].flatten) C 5 rfl hi43 (by rw [e43]; rfl) dX12_feed_43 ?_
    refine v_aload_n C dX12_feed_44 0 rfl ?_
    refine v_get (ci := 12) C inT12 0 6 rfl rfl (by decide) mF_X12_25_X12_6 rfl dX12_feed_45 ?_
    refine v_iconst (v := 4) C dX12_feed_48 (by decide) ?_
    refine v_iload C dX12_feed_49 5 rfl ?_
    obtain ⟨hi51, hw⟩ := hw
    obtain ⟨w51, e51⟩ : ∃ z : Md, z = tA w43 6 4 x5 := ⟨_, rfl⟩
    have hw := hw w51 e51
    refine v_iast (ws' := [wX12 E h0 a0 w51].flatten) C 5 rfl hi51 (by rw [e51]; rfl) dX12_feed_51 ?_
    refine v_iconst (v := 0) C dX12_feed_52 (by decide) ?_
    refine v_istore (lv' := [(6, .int 0), (0, .ref h0), (1, .int x1), (2, .int x2), (3, .int x3), (4, .int x4), (5, .int x5)]) C dX12_feed_53 (by decide) rfl ?_
    refine v_lv C (lv' := [(0, .ref h0), (6, .int 0)]) [1, 0] rfl ?_
    obtain ⟨n', hw⟩ := hw
    exact jX12_feed_55 h0 a0 Q C hret n' w51 0 hw
  · have hw := hw.2 hc
    refine v_iconst (v := (-1)) C dX12_feed_13 (by decide) ?_
    exact hret _ _ _ _ ((-1)) u0 dX12_feed_14 rfl hw (Nat.le_of_ble_eq_true rfl) (Nat.le_of_ble_eq_true rfl)
set_option maxHeartbeats 4000000 in
set_option maxRecDepth 100000 in
theorem kX12_end {l : Launch} {E : VE} (h0 : Nat) (a0 : Nat → Nat) (u0 : Md) (x1 : Int32) {Q : Int32 → Md → Prop} (hw : qX12_end u0 x1 Q) : MI l yX12_end cX12_end 2 .int 1 0 0 E [.ref h0, .int x1] ([wX12 E h0 a0 u0].flatten) (fun (U : Md) => [wX12 E h0 a0 U].flatten) (fun (r : Int32) (U : Md) => Q r U) := by
  refine MI.of (own := RX12) (by decide) rfl (Nat.le_of_ble_eq_true rfl) ?_
  intro X C hini hret
  show VV X 0 0 ([wX12 E h0 a0 u0].flatten) [(0, .ref h0), (1, .int x1)] 0 []
  unfold qX12_end at hw
  refine v_iload_n C dX12_end_0 1 rfl ?_
  refine v_i2l C dX12_end_1 ?_
  refine v_lconst (v := 0) C dX12_end_2 (by decide) ?_
  refine v_aload_n C dX12_end_3 0 rfl ?_
  refine v_get (ci := 12) C inT12 0 5 rfl rfl (by decide) mF_X12_131_X12_5 rfl dX12_end_4 ?_
  refine v_i2l C dX12_end_7 ?_
  refine v_callSPi (st := []) C (kX12_in _ _ _ hw) mM_X12_125 mI_X12 mC_X12_in mT_X12_in hd_X12_in ⟨Nat.le_of_ble_eq_true rfl, Nat.le_of_ble_eq_true rfl⟩ ⟨Nat.le_of_ble_eq_true rfl, Nat.le_of_ble_eq_true rfl⟩ rfl (Nat.le_of_ble_eq_true rfl) dX12_end_8 (fun r8 U8 hw => ?_)
  obtain ⟨h01_8, hw⟩ := hw
  have hw := hw h01_8
  refine v_if_ne (tgt := 16) C dX12_end_11 (by decide) (fun hc => ?_) (fun hc => ?_)
  · have hw := hw.1 hc
    refine v_aload_n C dX12_end_16 0 rfl ?_
    refine v_iload_n C dX12_end_17 1 rfl ?_
    obtain ⟨w18, e18⟩ : ∃ z : Md, z = sF u0 5 x1 := ⟨_, rfl⟩
    have hw := hw w18 e18
    refine v_put (ci := 12) (ws' := [wX12 E h0 a0 w18].flatten) C tyX12 tyX12_ok nmX12 inT12 0 5 rfl rfl (by decide) mF_X12_131_X12_5 rfl rfl rfl rfl (Nat.le_of_ble_eq_true rfl) (by rw [e18]; rfl) dX12_end_18 ?_
    refine v_iload_n C dX12_end_21 1 rfl ?_
    exact hret _ _ _ _ x1 w18 dX12_end_22 rfl hw (Nat.le_of_ble_eq_true rfl) (Nat.le_of_ble_eq_true rfl)
  · have hw := hw.2 hc
    refine v_iconst (v := (-1)) C dX12_end_14 (by decide) ?_
    exact hret _ _ _ _ ((-1)) u0 dX12_end_15 rfl hw (Nat.le_of_ble_eq_true rfl) (Nat.le_of_ble_eq_true rfl)
set_option maxHeartbeats 4000000 in
set_option maxRecDepth 100000 in
theorem jX12_isLetters_18 {X : VX} {E : VE} {l : Launch} (h0 : Nat) (a0 : Nat → Nat)  (Q : Int32 → Md → Prop) (C : VC X cX12_isLetters 3 RX12 (rmL 1 0 0) E l) (hret : RetI X cX12_isLetters .boolean 0 0 (fun (U : Md) => [wX12 E h0 a0 U].flatten) (fun (r : Int32) (U : Md) => (r = 0 ∨ r = 1) ∧ Q r U))  : ∀ (n : Nat), ∀ (u0 : Md) (y2 : Int32), qX12_isLetters_18 Q n u0 y2 → VV X 0 0 ([wX12 E h0 a0 u0].flatten) [(0, .ref h0), (2, .int y2)] 18 [] := by
  intro n
  induction n with
  | zero =>
    intro u0 y2 hw
    exact hw.elim
  | succ n ih =>
    intro u0 y2 hw
    unfold qX12_isLetters_18 at hw
    refine v_iload_n C dX12_isLetters_18 1 rfl ?_
    refine v_aload_n C dX12_isLetters_19 0 rfl ?_
    refine v_get (ci := 12) C inT12 0 5 rfl rfl (by decide) mF_X12_131_X12_5 rfl dX12_isLetters_20 ?_
    refine v_icmp_ge (tgt := 53) C dX12_isLetters_23 (by decide) (fun hc => ?_) (fun hc => ?_)
    · have hw := hw.1 hc
      refine v_iconst (v := 1) C dX12_isLetters_53 (by decide) ?_
      exact hret _ _ _ _ 1 u0 dX12_isLetters_54 rfl ⟨Or.inr rfl, hw⟩ (Nat.le_of_ble_eq_true rfl) (Nat.le_of_ble_eq_true rfl)
    · have hw := hw.2 hc
      refine v_aload_n C dX12_isLetters_26 0 rfl ?_
      refine v_get (ci := 12) C inT12 0 4 rfl rfl (by decide) mF_X12_21_X12_4 rfl dX12_isLetters_27 ?_
      refine v_iload_n C dX12_isLetters_30 1 rfl ?_
      obtain ⟨hi31, hw⟩ := hw
      refine v_bald C 4 rfl hi31 dX12_isLetters_31 ?_
      refine v_i2l C dX12_isLetters_32 ?_
      refine v_ldc2 C mJ_X12_134 dX12_isLetters_33 ?_
      refine v_ldc2 C mJ_X12_136 dX12_isLetters_36 ?_
      refine v_callSPi (st := []) C (kX12_in _ _ _ hw) mM_X12_125 mI_X12 mC_X12_in mT_X12_in hd_X12_in ⟨Nat.le_of_ble_eq_true rfl, Nat.le_of_ble_eq_true rfl⟩ ⟨Nat.le_of_ble_eq_true rfl, Nat.le_of_ble_eq_true rfl⟩ rfl (Nat.le_of_ble_eq_true rfl) dX12_isLetters_39 (fun r39 U39 hw => ?_)
      obtain ⟨h01_39, hw⟩ := hw
      have hw := hw h01_39
      refine v_if_ne (tgt := 47) C dX12_isLetters_42 (by decide) (fun hc => ?_) (fun hc => ?_)
      · have hw := hw.1 hc
        refine v_iinc (lv' := [(2, .int (y2 + Int32.ofInt 1)), (0, .ref h0)]) C dX12_isLetters_47 1 rfl (by decide) rfl ?_
        refine v_goto (tgt := 18) C dX12_isLetters_50 (by decide) ?_
        refine v_lv C (lv' := [(0, .ref h0), (2, .int (y2 + Int32.ofInt 1))]) [1, 0] rfl ?_
        exact ih u0 (y2 + Int32.ofInt 1) hw
      · have hw := hw.2 hc
        refine v_iconst (v := 0) C dX12_isLetters_45 (by decide) ?_
        exact hret _ _ _ _ 0 u0 dX12_isLetters_46 rfl ⟨Or.inl rfl, hw⟩ (Nat.le_of_ble_eq_true rfl) (Nat.le_of_ble_eq_true rfl)
set_option maxHeartbeats 4000000 in
set_option maxRecDepth 100000 in
theorem kX12_isLetters {l : Launch} {E : VE} (h0 : Nat) (a0 : Nat → Nat) (u0 : Md) (x1 : Int32) {Q : Int32 → Md → Prop} (hw : qX12_isLetters u0 x1 Q) : MI l yX12_isLetters cX12_isLetters 3 .boolean 1 0 0 E [.ref h0, .int x1] ([wX12 E h0 a0 u0].flatten) (fun (U : Md) => [wX12 E h0 a0 U].flatten) (fun (r : Int32) (U : Md) => (r = 0 ∨ r = 1) ∧ Q r U) := by
  refine MI.of (own := RX12) (by decide) rfl (Nat.le_of_ble_eq_true rfl) ?_
  intro X C hini hret
  show VV X 0 0 ([wX12 E h0 a0 u0].flatten) [(0, .ref h0), (1, .int x1)] 0 []
  unfold qX12_isLetters at hw
  refine v_aload_n C dX12_isLetters_0 0 rfl ?_
  refine v_get (ci := 12) C inT12 0 5 rfl rfl (by decide) mF_X12_131_X12_5 rfl dX12_isLetters_1 ?_
  refine v_i2l C dX12_isLetters_4 ?_
  refine v_lconst (v := 1) C dX12_isLetters_5 (by decide) ?_
  refine v_iload_n C dX12_isLetters_6 1 rfl ?_
  refine v_i2l C dX12_isLetters_7 ?_
  refine v_callSPi (st := []) C (kX12_in _ _ _ hw) mM_X12_125 mI_X12 mC_X12_in mT_X12_in hd_X12_in ⟨Nat.le_of_ble_eq_true rfl, Nat.le_of_ble_eq_true rfl⟩ ⟨Nat.le_of_ble_eq_true rfl, Nat.le_of_ble_eq_true rfl⟩ rfl (Nat.le_of_ble_eq_true rfl) dX12_isLetters_8 (fun r8 U8 hw => ?_)
  obtain ⟨h01_8, hw⟩ := hw
  have hw := hw h01_8
  refine v_if_ne (tgt := 16) C dX12_isLetters_11 (by decide) (fun hc => ?_) (fun hc => ?_)
  · have hw := hw.1 hc
    refine v_iconst (v := 0) C dX12_isLetters_16 (by decide) ?_
    refine v_istore_n (lv' := [(2, .int 0), (0, .ref h0), (1, .int x1)]) C dX12_isLetters_17 (by decide) rfl ?_
    refine v_lv C (lv' := [(0, .ref h0), (2, .int 0)]) [1, 0] rfl ?_
    obtain ⟨n', hw⟩ := hw
    exact jX12_isLetters_18 h0 a0 Q C hret n' u0 0 hw
  · have hw := hw.2 hc
    refine v_iconst (v := 0) C dX12_isLetters_14 (by decide) ?_
    exact hret _ _ _ _ 0 u0 dX12_isLetters_15 rfl ⟨Or.inl rfl, hw⟩ (Nat.le_of_ble_eq_true rfl) (Nat.le_of_ble_eq_true rfl)
set_option maxHeartbeats 4000000 in
set_option maxRecDepth 100000 in
theorem kX12_next {l : Launch} {E : VE} (h0 : Nat) (a0 : Nat → Nat) (u0 : Md) (x1 : Int32) {Q : Int32 → Md → Prop} (hw : qX12_next u0 x1 Q) : MI l yX12_next cX12_next 2 .int 1 0 0 E [.ref h0, .int x1] ([wX12 E h0 a0 u0].flatten) (fun (U : Md) => [wX12 E h0 a0 U].flatten) (fun (r : Int32) (U : Md) => Q r U) := by
  refine MI.of (own := RX12) (by decide) rfl (Nat.le_of_ble_eq_true rfl) ?_
  intro X C hini hret
  show VV X 0 0 ([wX12 E h0 a0 u0].flatten) [(0, .ref h0), (1, .int x1)] 0 []
  unfold qX12_next at hw
  refine v_iload_n C dX12_next_0 1 rfl ?_
  refine v_i2l C dX12_next_1 ?_
  refine v_lconst (v := 0) C dX12_next_2 (by decide) ?_
  refine v_ldc2 C mJ_X12_129 dX12_next_3 ?_
  refine v_callSPi (st := []) C (kX12_in _ _ _ hw) mM_X12_125 mI_X12 mC_X12_in mT_X12_in hd_X12_in ⟨Nat.le_of_ble_eq_true rfl, Nat.le_of_ble_eq_true rfl⟩ ⟨Nat.le_of_ble_eq_true rfl, Nat.le_of_ble_eq_true rfl⟩ rfl (Nat.le_of_ble_eq_true rfl) dX12_next_6 (fun r6 U6 hw => ?_)
  obtain ⟨h01_6, hw⟩ := hw
  have hw := hw h01_6
  refine v_if_eq (tgt := 24) C dX12_next_9 (by decide) (fun hc => ?_) (fun hc => ?_)
  · have hw := hw.1 hc
    refine v_iconst (v := (-1)) C dX12_next_24 (by decide) ?_
    exact hret _ _ _ _ ((-1)) u0 dX12_next_25 rfl hw (Nat.le_of_ble_eq_true rfl) (Nat.le_of_ble_eq_true rfl)
  · have hw := hw.2 hc
    refine v_aload_n C dX12_next_12 0 rfl ?_
    refine v_callFi (st := []) (ci := 12) (qb := 0) C (kX12_now h0 a0 _ hw) mM_X12_138 mI_X12 mC_X12_now mN_X12_now mS_X12_now rfl rfl hd_X12_now ⟨Nat.le_of_ble_eq_true rfl, Nat.le_of_ble_eq_true rfl⟩ ⟨Nat.le_of_ble_eq_true rfl, Nat.le_of_ble_eq_true rfl⟩ rfl (Nat.le_of_ble_eq_true rfl) dX12_next_13 (fun r13 v13_0 hw => ?_)
    refine v_iload_n C dX12_next_16 1 rfl ?_
    refine v_iadd C dX12_next_17 ?_
    refine v_sipush (v := 399) C dX12_next_18 (by decide) ?_
    refine v_icmp_le (tgt := 26) C dX12_next_21 (by decide) (fun hc => ?_) (fun hc => ?_)
    · have hw := hw.1 hc
      refine v_aload_n C dX12_next_26 0 rfl ?_
      refine v_get (ci := 12) C inT12 0 1 rfl rfl (by decide) mF_X12_9_X12_1 rfl dX12_next_27 ?_
      refine v_iconst (v := 0) C dX12_next_30 (by decide) ?_
      refine v_dup2 C dX12_next_31 rfl rfl ?_
      obtain ⟨hi32, hw⟩ := hw
      refine v_iald C 1 rfl hi32 dX12_next_32 ?_
      refine v_iload_n C dX12_next_33 1 rfl ?_
      refine v_iadd C dX12_next_34 ?_
      obtain ⟨hi35, hw⟩ := hw
      obtain ⟨w35, e35⟩ : ∃ z : Md, z = tA v13_0 1 0 ((gA v13_0 1 (0 : Int32).toNatClampNeg) + x1) := ⟨_, rfl⟩
      have hw := hw w35 e35
      refine v_iast (ws' := [wX12 E h0 a0 w35].flatten) C 1 rfl hi35 (by rw [e35]; rfl) dX12_next_35 ?_
      refine v_aload_n C dX12_next_36 0 rfl ?_
      refine v_callFi (st := []) (ci := 12) (qb := 0) C (kX12_now h0 a0 _ hw) mM_X12_138 mI_X12 mC_X12_now mN_X12_now mS_X12_now rfl rfl hd_X12_now ⟨Nat.le_of_ble_eq_true rfl, Nat.le_of_ble_eq_true rfl⟩ ⟨Nat.le_of_ble_eq_true rfl, Nat.le_of_ble_eq_true rfl⟩ rfl (Nat.le_of_ble_eq_true rfl) dX12_next_37 (fun r37 v37_0 hw => ?_)
      exact hret _ _ _ _ r37 v37_0 dX12_next_40 rfl hw (Nat.le_of_ble_eq_true rfl) (Nat.le_of_ble_eq_true rfl)
    · have hw := hw.2 hc
      refine v_iconst (v := (-1)) C dX12_next_24 (by decide) ?_
      exact hret _ _ _ _ ((-1)) v13_0 dX12_next_25 rfl hw (Nat.le_of_ble_eq_true rfl) (Nat.le_of_ble_eq_true rfl)
set_option maxHeartbeats 4000000 in
set_option maxRecDepth 100000 in
theorem kX12_place {l : Launch} {E : VE} (h0 : Nat) (a0 : Nat → Nat) (u0 : Md) (x1 : Int32) (x2 : Int32) {Q : Int32 → Md → Prop} (hw : qX12_place u0 x1 x2 Q) : MI l yX12_place cX12_place 4 .int 1 0 0 E [.ref h0, .int x1, .int x2] ([wX12 E h0 a0 u0].flatten) (fun (U : Md) => [wX12 E h0 a0 U].flatten) (fun (r : Int32) (U : Md) => Q r U) := by
  refine MI.of (own := RX12) (by decide) rfl (Nat.le_of_ble_eq_true rfl) ?_
  intro X C hini hret
  show VV X 0 0 ([wX12 E h0 a0 u0].flatten) [(0, .ref h0), (1, .int x1), (2, .int x2)] 0 []
  unfold qX12_place at hw
  refine v_iload_n C dX12_place_0 1 rfl ?_
  refine v_i2l C dX12_place_1 ?_
  refine v_lconst (v := 0) C dX12_place_2 (by decide) ?_
  refine v_ldc2 C mJ_X12_142 dX12_place_3 ?_
  refine v_callSPi (st := []) C (kX12_in _ _ _ hw) mM_X12_125 mI_X12 mC_X12_in mT_X12_in hd_X12_in ⟨Nat.le_of_ble_eq_true rfl, Nat.le_of_ble_eq_true rfl⟩ ⟨Nat.le_of_ble_eq_true rfl, Nat.le_of_ble_eq_true rfl⟩ rfl (Nat.le_of_ble_eq_true rfl) dX12_place_6 (fun r6 U6 hw => ?_)
  obtain ⟨h01_6, hw⟩ := hw
  have hw := hw h01_6
  refine v_if_eq (tgt := 24) C dX12_place_9 (by decide) (fun hc => ?_) (fun hc => ?_)
  · have hw := hw.1 hc
    refine v_bipush (v := (-2)) C dX12_place_24 (by decide) ?_
    exact hret _ _ _ _ ((-2)) u0 dX12_place_26 rfl hw (Nat.le_of_ble_eq_true rfl) (Nat.le_of_ble_eq_true rfl)
  · have hw := hw.2 hc
    refine v_iload_n C dX12_place_12 2 rfl ?_
    refine v_i2l C dX12_place_13 ?_
    refine v_lconst (v := 0) C dX12_place_14 (by decide) ?_
    refine v_ldc2 C mJ_X12_142 dX12_place_15 ?_
    refine v_callSPi (st := []) C (kX12_in _ _ _ hw) mM_X12_125 mI_X12 mC_X12_in mT_X12_in hd_X12_in ⟨Nat.le_of_ble_eq_true rfl, Nat.le_of_ble_eq_true rfl⟩ ⟨Nat.le_of_ble_eq_true rfl, Nat.le_of_ble_eq_true rfl⟩ rfl (Nat.le_of_ble_eq_true rfl) dX12_place_18 (fun r18 U18 hw => ?_)
    obtain ⟨h01_18, hw⟩ := hw
    have hw := hw h01_18
    refine v_if_ne (tgt := 27) C dX12_place_21 (by decide) (fun hc => ?_) (fun hc => ?_)
    · have hw := hw.1 hc
      refine v_aload_n C dX12_place_27 0 rfl ?_
      refine v_get (ci := 12) C inT12 0 1 rfl rfl (by decide) mF_X12_9_X12_1 rfl dX12_place_28 ?_
      refine v_iconst (v := 1) C dX12_place_31 (by decide) ?_
      obtain ⟨hi32, hw⟩ := hw
      refine v_iald C 1 rfl hi32 dX12_place_32 ?_
      refine v_istore_n (lv' := [(3, .int (gA u0 1 (1 : Int32).toNatClampNeg)), (0, .ref h0), (1, .int x1), (2, .int x2)]) C dX12_place_33 (by decide) rfl ?_
      refine v_iload_n C dX12_place_34 0 rfl ?_
      refine v_bipush (v := 40) C dX12_place_35 (by decide) ?_
      refine v_icmp_ne (tgt := 43) C dX12_place_37 (by decide) (fun hc => ?_) (fun hc => ?_)
      · have hw := hw.1 hc
        refine v_aload_n C dX12_place_43 1 rfl ?_
        refine v_get (ci := 12) C inT12 0 1 rfl rfl (by decide) mF_X12_9_X12_1 rfl dX12_place_44 ?_
        refine v_bipush (v := 10) C dX12_place_47 (by decide) ?_
        refine v_iconst (v := 2) C dX12_place_49 (by decide) ?_
        refine v_iload_n C dX12_place_50 0 rfl ?_
        refine v_imul C dX12_place_51 ?_
        refine v_iadd C dX12_place_52 ?_
        refine v_iload_n C dX12_place_53 2 rfl ?_
        obtain ⟨hi54, hw⟩ := hw
        obtain ⟨w54, e54⟩ : ∃ z : Md, z = tA u0 1 (10 + (2 * (gA u0 1 (1 : Int32).toNatClampNeg))) x1 := ⟨_, rfl⟩
        have hw := hw w54 e54
        refine v_iast (ws' := [wX12 E h0 a0 w54].flatten) C 1 rfl hi54 (by rw [e54]; rfl) dX12_place_54 ?_
        refine v_aload_n C dX12_place_55 1 rfl ?_
        refine v_get (ci := 12) C inT12 0 1 rfl rfl (by decide) mF_X12_9_X12_1 rfl dX12_place_56 ?_
        refine v_bipush (v := 10) C dX12_place_59 (by decide) ?_
        refine v_iconst (v := 2) C dX12_place_61 (by decide) ?_
        refine v_iload_n C dX12_place_62 0 rfl ?_
        refine v_imul C dX12_place_63 ?_
        refine v_iadd C dX12_place_64 ?_
        refine v_iconst (v := 1) C dX12_place_65 (by decide) ?_
        refine v_iadd C dX12_place_66 ?_
        refine v_iload_n C dX12_place_67 3 rfl ?_
        obtain ⟨hi68, hw⟩ := hw
        obtain ⟨w68, e68⟩ : ∃ z : Md, z = tA w54 1 ((10 + (2 * (gA u0 1 (1 : Int32).toNatClampNeg))) + 1) x2 := ⟨_, rfl⟩
        have hw := hw w68 e68
        refine v_iast (ws' := [wX12 E h0 a0 w68].flatten) C 1 rfl hi68 (by rw [e68]; rfl) dX12_place_68 ?_
        refine v_aload_n C dX12_place_69 1 rfl ?_
        refine v_get (ci := 12) C inT12 0 1 rfl rfl (by decide) mF_X12_9_X12_1 rfl dX12_place_70 ?_
        refine v_iconst (v := 1) C dX12_place_73 (by decide) ?_
        refine v_dup2 C dX12_place_74 rfl rfl ?_
        obtain ⟨hi75, hw⟩ := hw
        refine v_iald C 1 rfl hi75 dX12_place_75 ?_
        refine v_iconst (v := 1) C dX12_place_76 (by decide) ?_
        refine v_iadd C dX12_place_77 ?_
        obtain ⟨hi78, hw⟩ := hw
        obtain ⟨w78, e78⟩ : ∃ z : Md, z = tA w68 1 1 ((gA w68 1 (1 : Int32).toNatClampNeg) + 1) := ⟨_, rfl⟩
        have hw := hw w78 e78
        refine v_iast (ws' := [wX12 E h0 a0 w78].flatten) C 1 rfl hi78 (by rw [e78]; rfl) dX12_place_78 ?_
        refine v_iload_n C dX12_place_79 0 rfl ?_
        exact hret _ _ _ _ (gA u0 1 (1 : Int32).toNatClampNeg) w78 dX12_place_80 rfl hw (Nat.le_of_ble_eq_true rfl) (Nat.le_of_ble_eq_true rfl)
      · have hw := hw.2 hc
        refine v_bipush (v := (-3)) C dX12_place_40 (by decide) ?_
        exact hret _ _ _ _ ((-3)) u0 dX12_place_42 rfl hw (Nat.le_of_ble_eq_true rfl) (Nat.le_of_ble_eq_true rfl)
    · have hw := hw.2 hc
      refine v_bipush (v := (-2)) C dX12_place_24 (by decide) ?_
      exact hret _ _ _ _ ((-2)) u0 dX12_place_26 rfl hw (Nat.le_of_ble_eq_true rfl) (Nat.le_of_ble_eq_true rfl)
set_option maxHeartbeats 4000000 in
set_option maxRecDepth 100000 in
theorem jX12_addsUp_42 {X : VX} {E : VE} {l : Launch} (h0 : Nat) (a0 : Nat → Nat)  (Q : Md → Prop) (C : VC X cX12_addsUp 4 RX12 (rmL 0 0 0) E l) (hret : RetV X cX12_addsUp 0 0 (fun (U : Md) => [wX12 E h0 a0 U].flatten) (fun (U : Md) => Q U)) (K23 : Md → Int32 → Prop) (K35 : Md → Int32 → Int32 → Prop) (hK23 : ∀ (u0 : Md) (y1 : Int32), K23 u0 y1 → VV X 0 0 ([wX12 E h0 a0 u0].flatten) [(0, .ref h0), (1, .int y1)] 23 []) (hK35 : ∀ (u0 : Md) (y1 : Int32) (y2 : Int32), K35 u0 y1 y2 → VV X 0 0 ([wX12 E h0 a0 u0].flatten) [(0, .ref h0), (1, .int y1), (2, .int y2)] 35 []) : ∀ (n : Nat), ∀ (u0 : Md) (y1 : Int32) (y2 : Int32) (y3 : Int32), qX12_addsUp_42 Q K23 K35 n u0 y1 y2 y3 → VV X 0 0 ([wX12 E h0 a0 u0].flatten) [(0, .ref h0), (1, .int y1), (2, .int y2), (3, .int y3)] 42 [] := by
  intro n
  induction n with
  | zero =>
    intro u0 y1 y2 y3 hw
    exact hw.elim
  | succ n ih =>
    intro u0 y1 y2 y3 hw
    unfold qX12_addsUp_42 at hw
    refine v_iload_n C dX12_addsUp_42 3 rfl ?_
    refine v_iconst (v := 3) C dX12_addsUp_43 (by decide) ?_
    refine v_icmp_ge (tgt := 76) C dX12_addsUp_44 (by decide) (fun hc => ?_) (fun hc => ?_)
    · have hw := hw.1 hc
      refine v_aload_n C dX12_addsUp_76 0 rfl ?_
      refine v_get (ci := 12) C inT12 0 7 rfl rfl (by decide) mF_X12_28_X12_7 rfl dX12_addsUp_77 ?_
      refine v_iload_n C dX12_addsUp_80 2 rfl ?_
      obtain ⟨hi81, hw⟩ := hw
      refine v_iald C 6 rfl hi81 dX12_addsUp_81 ?_
      refine v_istore_n (lv' := [(2, .int (gA u0 7 y2.toNatClampNeg)), (0, .ref h0), (1, .int y1), (3, .int y3)]) C dX12_addsUp_82 (by decide) rfl ?_
      refine v_goto (tgt := 35) C dX12_addsUp_83 (by decide) ?_
      refine v_lv C (lv' := [(0, .ref h0), (1, .int y1), (2, .int (gA u0 7 y2.toNatClampNeg))]) [1, 2, 0] rfl ?_
      exact hK35 u0 y1 (gA u0 7 y2.toNatClampNeg) hw
    · have hw := hw.2 hc
      refine v_aload_n C dX12_addsUp_47 0 rfl ?_
      refine v_get (ci := 12) C inT12 0 9 rfl rfl (by decide) mF_X12_34_X12_9 rfl dX12_addsUp_48 ?_
      refine v_iconst (v := 3) C dX12_addsUp_51 (by decide) ?_
      refine v_iload_n C dX12_addsUp_52 2 rfl ?_
      refine v_imul C dX12_addsUp_53 ?_
      refine v_iload_n C dX12_addsUp_54 3 rfl ?_
      refine v_iadd C dX12_addsUp_55 ?_
      refine v_dup2 C dX12_addsUp_56 rfl rfl ?_
      obtain ⟨hi57, hw⟩ := hw
      refine v_iald C 8 rfl hi57 dX12_addsUp_57 ?_
      refine v_aload_n C dX12_addsUp_58 0 rfl ?_
      refine v_get (ci := 12) C inT12 0 8 rfl rfl (by decide) mF_X12_31_X12_8 rfl dX12_addsUp_59 ?_
      refine v_iconst (v := 3) C dX12_addsUp_62 (by decide) ?_
      refine v_iload_n C dX12_addsUp_63 1 rfl ?_
      refine v_imul C dX12_addsUp_64 ?_
      refine v_iload_n C dX12_addsUp_65 3 rfl ?_
      refine v_iadd C dX12_addsUp_66 ?_
      obtain ⟨hi67, hw⟩ := hw
      refine v_iald C 7 rfl hi67 dX12_addsUp_67 ?_
      refine v_iadd C dX12_addsUp_68 ?_
      obtain ⟨hi69, hw⟩ := hw
      obtain ⟨w69, e69⟩ : ∃ z : Md, z = tA u0 9 ((3 * y2) + y3) ((gA u0 9 ((3 * y2) + y3).toNatClampNeg) + (gA u0 8 ((3 * y1) + y3).toNatClampNeg)) := ⟨_, rfl⟩
      have hw := hw w69 e69
      refine v_iast (ws' := [wX12 E h0 a0 w69].flatten) C 8 rfl hi69 (by rw [e69]; rfl) dX12_addsUp_69 ?_
      refine v_iinc (lv' := [(3, .int (y3 + Int32.ofInt 1)), (0, .ref h0), (1, .int y1), (2, .int y2)]) C dX12_addsUp_70 3 rfl (by decide) rfl ?_
      refine v_goto (tgt := 42) C dX12_addsUp_73 (by decide) ?_
      refine v_lv C (lv' := [(0, .ref h0), (1, .int y1), (2, .int y2), (3, .int (y3 + Int32.ofInt 1))]) [1, 2, 3, 0] rfl ?_
      exact ih w69 y1 y2 (y3 + Int32.ofInt 1) hw
set_option maxHeartbeats 4000000 in
set_option maxRecDepth 100000 in
theorem jX12_addsUp_35 {X : VX} {E : VE} {l : Launch} (h0 : Nat) (a0 : Nat → Nat)  (Q : Md → Prop) (C : VC X cX12_addsUp 4 RX12 (rmL 0 0 0) E l) (hret : RetV X cX12_addsUp 0 0 (fun (U : Md) => [wX12 E h0 a0 U].flatten) (fun (U : Md) => Q U)) (K23 : Md → Int32 → Prop) (hK23 : ∀ (u0 : Md) (y1 : Int32), K23 u0 y1 → VV X 0 0 ([wX12 E h0 a0 u0].flatten) [(0, .ref h0), (1, .int y1)] 23 []) : ∀ (n : Nat), ∀ (u0 : Md) (y1 : Int32) (y2 : Int32), qX12_addsUp_35 Q K23 n u0 y1 y2 → VV X 0 0 ([wX12 E h0 a0 u0].flatten) [(0, .ref h0), (1, .int y1), (2, .int y2)] 35 [] := by
  intro n
  induction n with
  | zero =>
    intro u0 y1 y2 hw
    exact hw.elim
  | succ n ih =>
    intro u0 y1 y2 hw
    unfold qX12_addsUp_35 at hw
    refine v_iload_n C dX12_addsUp_35 2 rfl ?_
    refine v_iconst (v := (-1)) C dX12_addsUp_36 (by decide) ?_
    refine v_icmp_eq (tgt := 86) C dX12_addsUp_37 (by decide) (fun hc => ?_) (fun hc => ?_)
    · have hw := hw.1 hc
      refine v_iinc (lv' := [(1, .int (y1 + Int32.ofInt 1)), (0, .ref h0), (2, .int y2)]) C dX12_addsUp_86 1 rfl (by decide) rfl ?_
      refine v_goto (tgt := 23) C dX12_addsUp_89 (by decide) ?_
      refine v_lv C (lv' := [(0, .ref h0), (1, .int (y1 + Int32.ofInt 1))]) [1, 0] rfl ?_
      exact hK23 u0 (y1 + Int32.ofInt 1) hw
    · have hw := hw.2 hc
      refine v_iconst (v := 0) C dX12_addsUp_40 (by decide) ?_
      refine v_istore_n (lv' := [(3, .int 0), (0, .ref h0), (1, .int y1), (2, .int y2)]) C dX12_addsUp_41 (by decide) rfl ?_
      refine v_lv C (lv' := [(0, .ref h0), (1, .int y1), (2, .int y2), (3, .int 0)]) [1, 2, 3, 0] rfl ?_
      obtain ⟨n', hw⟩ := hw
      exact jX12_addsUp_42 h0 a0 Q C hret K23 (qX12_addsUp_35 Q K23 n) hK23 ih n' u0 y1 y2 0 hw
set_option maxHeartbeats 4000000 in
set_option maxRecDepth 100000 in
theorem jX12_addsUp_23 {X : VX} {E : VE} {l : Launch} (h0 : Nat) (a0 : Nat → Nat)  (Q : Md → Prop) (C : VC X cX12_addsUp 4 RX12 (rmL 0 0 0) E l) (hret : RetV X cX12_addsUp 0 0 (fun (U : Md) => [wX12 E h0 a0 U].flatten) (fun (U : Md) => Q U))  : ∀ (n : Nat), ∀ (u0 : Md) (y1 : Int32), qX12_addsUp_23 Q n u0 y1 → VV X 0 0 ([wX12 E h0 a0 u0].flatten) [(0, .ref h0), (1, .int y1)] 23 [] := by
  intro n
  induction n with
  | zero =>
    intro u0 y1 hw
    exact hw.elim
  | succ n ih =>
    intro u0 y1 hw
    unfold qX12_addsUp_23 at hw
    refine v_iload_n C dX12_addsUp_23 1 rfl ?_
    refine v_aload_n C dX12_addsUp_24 0 rfl ?_
    refine v_get (ci := 12) C inT12 0 1 rfl rfl (by decide) mF_X12_9_X12_1 rfl dX12_addsUp_25 ?_
    refine v_iconst (v := 1) C dX12_addsUp_28 (by decide) ?_
    obtain ⟨hi29, hw⟩ := hw
    refine v_iald C 1 rfl hi29 dX12_addsUp_29 ?_
    refine v_icmp_ge (tgt := 92) C dX12_addsUp_30 (by decide) (fun hc => ?_) (fun hc => ?_)
    · have hw := hw.1 hc
      exact hret _ _ _ _ u0 dX12_addsUp_92 hw (Nat.le_of_ble_eq_true rfl) (Nat.le_of_ble_eq_true rfl)
    · have hw := hw.2 hc
      refine v_iload_n C dX12_addsUp_33 1 rfl ?_
      refine v_istore_n (lv' := [(2, .int y1), (0, .ref h0), (1, .int y1)]) C dX12_addsUp_34 (by decide) rfl ?_
      refine v_lv C (lv' := [(0, .ref h0), (1, .int y1), (2, .int y1)]) [1, 2, 0] rfl ?_
      obtain ⟨n', hw⟩ := hw
      exact jX12_addsUp_35 h0 a0 Q C hret (qX12_addsUp_23 Q n) ih n' u0 y1 y1 hw
set_option maxHeartbeats 4000000 in
set_option maxRecDepth 100000 in
theorem jX12_addsUp_2 {X : VX} {E : VE} {l : Launch} (h0 : Nat) (a0 : Nat → Nat)  (Q : Md → Prop) (C : VC X cX12_addsUp 4 RX12 (rmL 0 0 0) E l) (hret : RetV X cX12_addsUp 0 0 (fun (U : Md) => [wX12 E h0 a0 U].flatten) (fun (U : Md) => Q U))  : ∀ (n : Nat), ∀ (u0 : Md) (y1 : Int32), qX12_addsUp_2 Q n u0 y1 → VV X 0 0 ([wX12 E h0 a0 u0].flatten) [(0, .ref h0), (1, .int y1)] 2 [] := by
  intro n
  induction n with
  | zero =>
    intro u0 y1 hw
    exact hw.elim
  | succ n ih =>
    intro u0 y1 hw
    unfold qX12_addsUp_2 at hw
    refine v_iload_n C dX12_addsUp_2 1 rfl ?_
    refine v_bipush (v := 120) C dX12_addsUp_3 (by decide) ?_
    refine v_icmp_ge (tgt := 21) C dX12_addsUp_5 (by decide) (fun hc => ?_) (fun hc => ?_)
    · have hw := hw.1 hc
      refine v_iconst (v := 0) C dX12_addsUp_21 (by decide) ?_
      refine v_istore_n (lv' := [(1, .int 0), (0, .ref h0)]) C dX12_addsUp_22 (by decide) rfl ?_
      refine v_lv C (lv' := [(0, .ref h0), (1, .int 0)]) [1, 0] rfl ?_
      obtain ⟨n', hw⟩ := hw
      exact jX12_addsUp_23 h0 a0 Q C hret n' u0 0 hw
    · have hw := hw.2 hc
      refine v_aload_n C dX12_addsUp_8 0 rfl ?_
      refine v_get (ci := 12) C inT12 0 9 rfl rfl (by decide) mF_X12_34_X12_9 rfl dX12_addsUp_9 ?_
      refine v_iload_n C dX12_addsUp_12 1 rfl ?_
      refine v_iconst (v := 0) C dX12_addsUp_13 (by decide) ?_
      obtain ⟨hi14, hw⟩ := hw
      obtain ⟨w14, e14⟩ : ∃ z : Md, z = tA u0 9 y1 0 := ⟨_, rfl⟩
      have hw := hw w14 e14
      refine v_iast (ws' := [wX12 E h0 a0 w14].flatten) C 8 rfl hi14 (by rw [e14]; rfl) dX12_addsUp_14 ?_
      refine v_iinc (lv' := [(1, .int (y1 + Int32.ofInt 1)), (0, .ref h0)]) C dX12_addsUp_15 1 rfl (by decide) rfl ?_
      refine v_goto (tgt := 2) C dX12_addsUp_18 (by decide) ?_
      refine v_lv C (lv' := [(0, .ref h0), (1, .int (y1 + Int32.ofInt 1))]) [1, 0] rfl ?_
      exact ih w14 (y1 + Int32.ofInt 1) hw
set_option maxHeartbeats 4000000 in
set_option maxRecDepth 100000 in
theorem kX12_addsUp {l : Launch} {E : VE} (h0 : Nat) (a0 : Nat → Nat) (u0 : Md) {Q : Md → Prop} (hw : qX12_addsUp u0 Q) : MV l yX12_addsUp cX12_addsUp 4 0 0 0 E [.ref h0] ([wX12 E h0 a0 u0].flatten) (fun (U : Md) => [wX12 E h0 a0 U].flatten) (fun (U : Md) => Q U) := by
  refine MV.of (own := RX12) (by decide) rfl (Nat.le_of_ble_eq_true rfl) ?_
  intro X C hini hret
  show VV X 0 0 ([wX12 E h0 a0 u0].flatten) [(0, .ref h0)] 0 []
  unfold qX12_addsUp at hw
  refine v_iconst (v := 0) C dX12_addsUp_0 (by decide) ?_
  refine v_istore_n (lv' := [(1, .int 0), (0, .ref h0)]) C dX12_addsUp_1 (by decide) rfl ?_
  refine v_lv C (lv' := [(0, .ref h0), (1, .int 0)]) [1, 0] rfl ?_
  obtain ⟨n', hw⟩ := hw
  exact jX12_addsUp_2 h0 a0 Q C hret n' u0 0 hw
