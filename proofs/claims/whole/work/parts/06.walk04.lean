set_option maxHeartbeats 4000000 in
set_option maxRecDepth 100000 in
theorem kX8_mark {l : Launch} {E : VE} (h0 : Nat) (a0 : Nat → Nat) (u0 : Md) {Q : Md → Prop} (hw : qX8_mark u0 Q) : MV l yX8_mark cX8_mark 1 0 0 0 E [.ref h0] ([wX8 E h0 a0 u0].flatten) (fun (U : Md) => [wX8 E h0 a0 U].flatten) (fun (U : Md) => Q U) := by
  refine MV.of (own := RX8) (by decide) rfl (Nat.le_of_ble_eq_true rfl) ?_
  intro X C hini hret
  show VV X 0 0 ([wX8 E h0 a0 u0].flatten) [(0, .ref h0)] 0 []
  unfold qX8_mark at hw
  refine v_aload_n C dX8_mark_0 0 rfl ?_
  refine v_get (ci := 8) C inT8 0 1 rfl rfl (by decide) mF_X8_9_X8_1 rfl dX8_mark_1 ?_
  refine v_aload_n C dX8_mark_4 0 rfl ?_
  refine v_get (ci := 8) C inT8 0 0 rfl rfl (by decide) mF_X8_50_X8_0 rfl dX8_mark_5 ?_
  refine v_iconst (v := 1) C dX8_mark_8 (by decide) ?_
  obtain ⟨hi9, hw⟩ := hw
  obtain ⟨w9, e9⟩ : ∃ z : Md, z = tZ u0 1 (gF u0 0) 1 := ⟨_, rfl⟩
  have hw := hw w9 e9
  refine v_zast (ws' := [wX8 E h0 a0 w9].flatten) C 1 rfl hi9 (by rw [e9]; rfl) dX8_mark_9 ?_
  exact hret _ _ _ _ w9 dX8_mark_10 hw (Nat.le_of_ble_eq_true rfl) (Nat.le_of_ble_eq_true rfl)
set_option maxHeartbeats 4000000 in
set_option maxRecDepth 100000 in
theorem kX8_copyFrom {l : Launch} {E : VE} (h0 : Nat) (h1 : Nat) (a0 : Nat → Nat) (a0_2 : Nat → Nat) (a0_3 : Nat → Nat) (a0_4 : Nat → Nat) (a0_5 : Nat → Nat) (a0_6 : Nat → Nat) (a1 : Nat → Nat) (a1_2 : Nat → Nat) (a1_3 : Nat → Nat) (a1_4 : Nat → Nat) (a1_5 : Nat → Nat) (a1_6 : Nat → Nat) (u0 : Md) (u0_2 : Md) (u0_3 : Md) (u0_4 : Md) (u0_5 : Md) (u0_6 : Md) (u1 : Md) (u1_2 : Md) (u1_3 : Md) (u1_4 : Md) (u1_5 : Md) (u1_6 : Md) {Q : Md → Md → Md → Md → Md → Md → Md → Md → Md → Md → Md → Md → Prop} (hw : qX8_copyFrom u0 u0_2 u0_3 u0_4 u0_5 u0_6 u1 u1_2 u1_3 u1_4 u1_5 u1_6 Q) : MV l yX8_copyFrom cX8_copyFrom 2 2 0 0 E [.ref h0, .ref h1] ([wX8 E h0 a0 u0, wX2 E (a0 2) a0_2 u0_2, wX7 E (a0 3) a0_3 u0_3, wX0 E (a0 4) a0_4 u0_4, wX1 E (a0 5) a0_5 u0_5, wX6 E (a0 6) a0_6 u0_6, wX8 E h1 a1 u1, wX2 E (a1 2) a1_2 u1_2, wX7 E (a1 3) a1_3 u1_3, wX0 E (a1 4) a1_4 u1_4, wX1 E (a1 5) a1_5 u1_5, wX6 E (a1 6) a1_6 u1_6].flatten) (fun (U : Md × Md × Md × Md × Md × Md × Md × Md × Md × Md × Md × Md) => [wX8 E h0 a0 U.1, wX2 E (a0 2) a0_2 U.2.1, wX7 E (a0 3) a0_3 U.2.2.1, wX0 E (a0 4) a0_4 U.2.2.2.1, wX1 E (a0 5) a0_5 U.2.2.2.2.1, wX6 E (a0 6) a0_6 U.2.2.2.2.2.1, wX8 E h1 a1 U.2.2.2.2.2.2.1, wX2 E (a1 2) a1_2 U.2.2.2.2.2.2.2.1, wX7 E (a1 3) a1_3 U.2.2.2.2.2.2.2.2.1, wX0 E (a1 4) a1_4 U.2.2.2.2.2.2.2.2.2.1, wX1 E (a1 5) a1_5 U.2.2.2.2.2.2.2.2.2.2.1, wX6 E (a1 6) a1_6 U.2.2.2.2.2.2.2.2.2.2.2].flatten) (fun (U : Md × Md × Md × Md × Md × Md × Md × Md × Md × Md × Md × Md) => Q U.1 U.2.1 U.2.2.1 U.2.2.2.1 U.2.2.2.2.1 U.2.2.2.2.2.1 U.2.2.2.2.2.2.1 U.2.2.2.2.2.2.2.1 U.2.2.2.2.2.2.2.2.1 U.2.2.2.2.2.2.2.2.2.1 U.2.2.2.2.2.2.2.2.2.2.1 U.2.2.2.2.2.2.2.2.2.2.2) := by
  refine MV.of (own := RX8) (by decide) rfl (Nat.le_of_ble_eq_true rfl) ?_
  intro X C hini hret
  show VV X 0 0 ([wX8 E h0 a0 u0, wX2 E (a0 2) a0_2 u0_2, wX7 E (a0 3) a0_3 u0_3, wX0 E (a0 4) a0_4 u0_4, wX1 E (a0 5) a0_5 u0_5, wX6 E (a0 6) a0_6 u0_6, wX8 E h1 a1 u1, wX2 E (a1 2) a1_2 u1_2, wX7 E (a1 3) a1_3 u1_3, wX0 E (a1 4) a1_4 u1_4, wX1 E (a1 5) a1_5 u1_5, wX6 E (a1 6) a1_6 u1_6].flatten) [(0, .ref h0), (1, .ref h1)] 0 []
  unfold qX8_copyFrom at hw
  refine v_aload_n C dX8_copyFrom_0 0 rfl ?_
  refine v_aload_n C dX8_copyFrom_1 1 rfl ?_
  refine v_get (ci := 8) C inT8 53 0 rfl rfl (by decide) mF_X8_50_X8_0 rfl dX8_copyFrom_2 ?_
  obtain ⟨w5, e5⟩ : ∃ z : Md, z = sF u0 0 (gF u1 0) := ⟨_, rfl⟩
  have hw := hw w5 e5
  refine v_put (ci := 8) (ws' := [wX8 E h0 a0 w5, wX2 E (a0 2) a0_2 u0_2, wX7 E (a0 3) a0_3 u0_3, wX0 E (a0 4) a0_4 u0_4, wX1 E (a0 5) a0_5 u0_5, wX6 E (a0 6) a0_6 u0_6, wX8 E h1 a1 u1, wX2 E (a1 2) a1_2 u1_2, wX7 E (a1 3) a1_3 u1_3, wX0 E (a1 4) a1_4 u1_4, wX1 E (a1 5) a1_5 u1_5, wX6 E (a1 6) a1_6 u1_6].flatten) C tyX8 tyX8_ok nmX8 inT8 0 0 rfl rfl (by decide) mF_X8_50_X8_0 rfl rfl rfl rfl (Nat.le_of_ble_eq_true rfl) (by rw [e5]; rfl) dX8_copyFrom_5 ?_
  refine v_aload_n C dX8_copyFrom_8 1 rfl ?_
  refine v_get (ci := 8) C inT8 53 1 rfl rfl (by decide) mF_X8_9_X8_1 rfl dX8_copyFrom_9 ?_
  refine v_aload_n C dX8_copyFrom_12 0 rfl ?_
  refine v_get (ci := 8) C inT8 0 1 rfl rfl (by decide) mF_X8_9_X8_1 rfl dX8_copyFrom_13 ?_
  refine v_sipush (v := 400) C dX8_copyFrom_16 (by decide) ?_
  refine v_callSNv (st := []) (wr := ([0, 2, 3, 4, 5, 6, 7, 8, 9, 10, 11, 12, 13, 14, 15, 16, 17, 18, 19, 20, 21, 22, 23, 24, 25, 26, 27, 28, 29, 30, 31, 32, 33, 34, 35, 36, 37, 38, 39, 40, 41, 42, 43, 44, 45, 46, 47, 48, 49, 50, 51, 52, 53, 55, 56, 57, 58, 59, 60, 61, 62, 63, 64, 65, 66, 67, 68, 69, 70, 71, 72, 73, 74, 75, 76, 77, 78, 79, 80, 81, 82, 83, 84, 85, 86, 87, 88, 89, 90, 91, 92, 93, 94, 95, 96, 97, 98, 99, 100, 101, 102, 103, 104, 105] : List Nat).filterMap (fun i => ([wX8 E h0 a0 w5, wX2 E (a0 2) a0_2 u0_2, wX7 E (a0 3) a0_3 u0_3, wX0 E (a0 4) a0_4 u0_4, wX1 E (a0 5) a0_5 u0_5, wX6 E (a0 6) a0_6 u0_6, wX8 E h1 a1 u1, wX2 E (a1 2) a1_2 u1_2, wX7 E (a1 3) a1_3 u1_3, wX0 E (a1 4) a1_4 u1_4, wX1 E (a1 5) a1_5 u1_5, wX6 E (a1 6) a1_6 u1_6].flatten)[i]?)) C (kX11_copyFlags ((a1 1)) ((a0 1)) _ _ _ _ _ hw) (by decide +kernel) mI_X11 mC_X11_copyFlags mT_X11_copyFlags hd_X11_copyFlags ⟨Nat.le_of_ble_eq_true rfl, Nat.le_of_ble_eq_true rfl⟩ ⟨Nat.le_of_ble_eq_true rfl, Nat.le_of_ble_eq_true rfl⟩ [54, 1] [0, 2, 3, 4, 5, 6, 7, 8, 9, 10, 11, 12, 13, 14, 15, 16, 17, 18, 19, 20, 21, 22, 23, 24, 25, 26, 27, 28, 29, 30, 31, 32, 33, 34, 35, 36, 37, 38, 39, 40, 41, 42, 43, 44, 45, 46, 47, 48, 49, 50, 51, 52, 53, 55, 56, 57, 58, 59, 60, 61, 62, 63, 64, 65, 66, 67, 68, 69, 70, 71, 72, 73, 74, 75, 76, 77, 78, 79, 80, 81, 82, 83, 84, 85, 86, 87, 88, 89, 90, 91, 92, 93, 94, 95, 96, 97, 98, 99, 100, 101, 102, 103, 104, 105] rfl (by decide) rfl (by decide) (by decide) rfl (Nat.le_of_ble_eq_true rfl) dX8_copyFrom_19 (fun U19 hw => ?_)
  obtain ⟨v19_0, v19_1⟩ := U19
  refine v_ws (ws' := [wX8 E h0 a0 (sZ w5 1 v19_1), wX2 E (a0 2) a0_2 u0_2, wX7 E (a0 3) a0_3 u0_3, wX0 E (a0 4) a0_4 u0_4, wX1 E (a0 5) a0_5 u0_5, wX6 E (a0 6) a0_6 u0_6, wX8 E h1 a1 (sZ u1 1 v19_0), wX2 E (a1 2) a1_2 u1_2, wX7 E (a1 3) a1_3 u1_3, wX0 E (a1 4) a1_4 u1_4, wX1 E (a1 5) a1_5 u1_5, wX6 E (a1 6) a1_6 u1_6].flatten) C [0, 105, 1, 2, 3, 4, 5, 6, 7, 8, 9, 10, 11, 12, 13, 14, 15, 16, 17, 18, 19, 20, 21, 22, 23, 24, 25, 26, 27, 28, 29, 30, 31, 32, 33, 34, 35, 36, 37, 38, 39, 40, 41, 42, 43, 44, 45, 46, 47, 48, 49, 50, 51, 52, 104, 53, 54, 55, 56, 57, 58, 59, 60, 61, 62, 63, 64, 65, 66, 67, 68, 69, 70, 71, 72, 73, 74, 75, 76, 77, 78, 79, 80, 81, 82, 83, 84, 85, 86, 87, 88, 89, 90, 91, 92, 93, 94, 95, 96, 97, 98, 99, 100, 101, 102, 103] (by decide) rfl ?_
  refine v_aload_n C dX8_copyFrom_22 0 rfl ?_
  refine v_get (ci := 8) C inT8 0 2 rfl rfl (by decide) mF_X8_18_X8_2 rfl dX8_copyFrom_23 ?_
  refine v_aload_n C dX8_copyFrom_26 1 rfl ?_
  refine v_get (ci := 8) C inT8 53 2 rfl rfl (by decide) mF_X8_18_X8_2 rfl dX8_copyFrom_27 ?_
  refine v_callVMv (st := []) (ci := 2) (qb := 2) C (kX2_copyFrom ((a0 2)) ((a1 2)) a0_2 a1_2 _ _ hw) mM_X8_58 mI_X2 mC_X2_copyFrom mN_X2_copyFrom mS_X2_copyFrom rfl rfl hd_X2_copyFrom ⟨Nat.le_of_ble_eq_true rfl, Nat.le_of_ble_eq_true rfl⟩ ⟨Nat.le_of_ble_eq_true rfl, Nat.le_of_ble_eq_true rfl⟩ [1, 7] [0, 2, 3, 4, 5, 6, 8, 9, 10, 11] (N0 := 12) rfl (by decide) (ms2 := (fun (U : Md × Md) => [wX8 E h0 a0 (sZ w5 1 v19_1), wX2 E (a0 2) a0_2 U.1, wX7 E (a0 3) a0_3 u0_3, wX0 E (a0 4) a0_4 u0_4, wX1 E (a0 5) a0_5 u0_5, wX6 E (a0 6) a0_6 u0_6, wX8 E h1 a1 (sZ u1 1 v19_0), wX2 E (a1 2) a1_2 U.2, wX7 E (a1 3) a1_3 u1_3, wX0 E (a1 4) a1_4 u1_4, wX1 E (a1 5) a1_5 u1_5, wX6 E (a1 6) a1_6 u1_6])) rfl (fun _ => rfl) (fun _ => rfl) (fun _ => rfl) rfl (Nat.le_of_ble_eq_true rfl) dX8_copyFrom_30 (fun U30 hw => ?_)
  obtain ⟨v30_0, v30_1⟩ := U30
  refine v_aload_n C dX8_copyFrom_33 0 rfl ?_
  refine v_get (ci := 8) C inT8 0 3 rfl rfl (by decide) mF_X8_25_X8_3 rfl dX8_copyFrom_34 ?_
  refine v_aload_n C dX8_copyFrom_37 1 rfl ?_
  refine v_get (ci := 8) C inT8 53 3 rfl rfl (by decide) mF_X8_25_X8_3 rfl dX8_copyFrom_38 ?_
  refine v_callVMv (st := []) (ci := 7) (qb := 11) C (kX7_copyFrom ((a0 3)) ((a1 3)) a0_3 a1_3 _ _ hw) mM_X8_62 mI_X7 mC_X7_copyFrom mN_X7_copyFrom mS_X7_copyFrom rfl rfl hd_X7_copyFrom ⟨Nat.le_of_ble_eq_true rfl, Nat.le_of_ble_eq_true rfl⟩ ⟨Nat.le_of_ble_eq_true rfl, Nat.le_of_ble_eq_true rfl⟩ [2, 8] [0, 1, 3, 4, 5, 6, 7, 9, 10, 11] (N0 := 12) rfl (by decide) (ms2 := (fun (U : Md × Md) => [wX8 E h0 a0 (sZ w5 1 v19_1), wX2 E (a0 2) a0_2 v30_0, wX7 E (a0 3) a0_3 U.1, wX0 E (a0 4) a0_4 u0_4, wX1 E (a0 5) a0_5 u0_5, wX6 E (a0 6) a0_6 u0_6, wX8 E h1 a1 (sZ u1 1 v19_0), wX2 E (a1 2) a1_2 v30_1, wX7 E (a1 3) a1_3 U.2, wX0 E (a1 4) a1_4 u1_4, wX1 E (a1 5) a1_5 u1_5, wX6 E (a1 6) a1_6 u1_6])) rfl (fun _ => rfl) (fun _ => rfl) (fun _ => rfl) rfl (Nat.le_of_ble_eq_true rfl) dX8_copyFrom_41 (fun U41 hw => ?_)
  obtain ⟨v41_0, v41_1⟩ := U41
  refine v_aload_n C dX8_copyFrom_44 0 rfl ?_
  refine v_get (ci := 8) C inT8 0 4 rfl rfl (by decide) mF_X8_32_X8_4 rfl dX8_copyFrom_45 ?_
  refine v_aload_n C dX8_copyFrom_48 1 rfl ?_
  refine v_get (ci := 8) C inT8 53 4 rfl rfl (by decide) mF_X8_32_X8_4 rfl dX8_copyFrom_49 ?_
  refine v_callVMv (st := []) (ci := 0) (qb := 26) C (kX0_copyFrom ((a0 4)) ((a1 4)) a0_4 a1_4 _ _ hw) mM_X8_65 mI_X0 mC_X0_copyFrom mN_X0_copyFrom mS_X0_copyFrom rfl rfl hd_X0_copyFrom ⟨Nat.le_of_ble_eq_true rfl, Nat.le_of_ble_eq_true rfl⟩ ⟨Nat.le_of_ble_eq_true rfl, Nat.le_of_ble_eq_true rfl⟩ [3, 9] [0, 1, 2, 4, 5, 6, 7, 8, 10, 11] (N0 := 12) rfl (by decide) (ms2 := (fun (U : Md × Md) => [wX8 E h0 a0 (sZ w5 1 v19_1), wX2 E (a0 2) a0_2 v30_0, wX7 E (a0 3) a0_3 v41_0, wX0 E (a0 4) a0_4 U.1, wX1 E (a0 5) a0_5 u0_5, wX6 E (a0 6) a0_6 u0_6, wX8 E h1 a1 (sZ u1 1 v19_0), wX2 E (a1 2) a1_2 v30_1, wX7 E (a1 3) a1_3 v41_1, wX0 E (a1 4) a1_4 U.2, wX1 E (a1 5) a1_5 u1_5, wX6 E (a1 6) a1_6 u1_6])) rfl (fun _ => rfl) (fun _ => rfl) (fun _ => rfl) rfl (Nat.le_of_ble_eq_true rfl) dX8_copyFrom_52 (fun U52 hw => ?_)
  obtain ⟨v52_0, v52_1⟩ := U52
  refine v_aload_n C dX8_copyFrom_55 0 rfl ?_
  refine v_get (ci := 8) C inT8 0 5 rfl rfl (by decide) mF_X8_39_X8_5 rfl dX8_copyFrom_56 ?_
  refine v_aload_n C dX8_copyFrom_59 1 rfl ?_
  refine v_get (ci := 8) C inT8 53 5 rfl rfl (by decide) mF_X8_39_X8_5 rfl dX8_copyFrom_60 ?_
  refine v_callVMv (st := []) (ci := 1) (qb := 38) C (kX1_copyFrom ((a0 5)) ((a1 5)) a0_5 a1_5 _ _ hw) mM_X8_68 mI_X1 mC_X1_copyFrom mN_X1_copyFrom mS_X1_copyFrom rfl rfl hd_X1_copyFrom ⟨Nat.le_of_ble_eq_true rfl, Nat.le_of_ble_eq_true rfl⟩ ⟨Nat.le_of_ble_eq_true rfl, Nat.le_of_ble_eq_true rfl⟩ [4, 10] [0, 1, 2, 3, 5, 6, 7, 8, 9, 11] (N0 := 12) rfl (by decide) (ms2 := (fun (U : Md × Md) => [wX8 E h0 a0 (sZ w5 1 v19_1), wX2 E (a0 2) a0_2 v30_0, wX7 E (a0 3) a0_3 v41_0, wX0 E (a0 4) a0_4 v52_0, wX1 E (a0 5) a0_5 U.1, wX6 E (a0 6) a0_6 u0_6, wX8 E h1 a1 (sZ u1 1 v19_0), wX2 E (a1 2) a1_2 v30_1, wX7 E (a1 3) a1_3 v41_1, wX0 E (a1 4) a1_4 v52_1, wX1 E (a1 5) a1_5 U.2, wX6 E (a1 6) a1_6 u1_6])) rfl (fun _ => rfl) (fun _ => rfl) (fun _ => rfl) rfl (Nat.le_of_ble_eq_true rfl) dX8_copyFrom_63 (fun U63 hw => ?_)
  obtain ⟨v63_0, v63_1⟩ := U63
  refine v_aload_n C dX8_copyFrom_66 0 rfl ?_
  refine v_get (ci := 8) C inT8 0 6 rfl rfl (by decide) mF_X8_46_X8_6 rfl dX8_copyFrom_67 ?_
  refine v_aload_n C dX8_copyFrom_70 1 rfl ?_
  refine v_get (ci := 8) C inT8 53 6 rfl rfl (by decide) mF_X8_46_X8_6 rfl dX8_copyFrom_71 ?_
  refine v_callVMv (st := []) (ci := 6) (qb := 49) C (kX6_copyFrom ((a0 6)) ((a1 6)) a0_6 a1_6 _ _ hw) mM_X8_71 mI_X6 mC_X6_copyFrom mN_X6_copyFrom mS_X6_copyFrom rfl rfl hd_X6_copyFrom ⟨Nat.le_of_ble_eq_true rfl, Nat.le_of_ble_eq_true rfl⟩ ⟨Nat.le_of_ble_eq_true rfl, Nat.le_of_ble_eq_true rfl⟩ [5, 11] [0, 1, 2, 3, 4, 6, 7, 8, 9, 10] (N0 := 12) rfl (by decide) (ms2 := (fun (U : Md × Md) => [wX8 E h0 a0 (sZ w5 1 v19_1), wX2 E (a0 2) a0_2 v30_0, wX7 E (a0 3) a0_3 v41_0, wX0 E (a0 4) a0_4 v52_0, wX1 E (a0 5) a0_5 v63_0, wX6 E (a0 6) a0_6 U.1, wX8 E h1 a1 (sZ u1 1 v19_0), wX2 E (a1 2) a1_2 v30_1, wX7 E (a1 3) a1_3 v41_1, wX0 E (a1 4) a1_4 v52_1, wX1 E (a1 5) a1_5 v63_1, wX6 E (a1 6) a1_6 U.2])) rfl (fun _ => rfl) (fun _ => rfl) (fun _ => rfl) rfl (Nat.le_of_ble_eq_true rfl) dX8_copyFrom_74 (fun U74 hw => ?_)
  obtain ⟨v74_0, v74_1⟩ := U74
  exact hret _ _ _ _ (sZ w5 1 v19_1, v30_0, v41_0, v52_0, v63_0, v74_0, sZ u1 1 v19_0, v30_1, v41_1, v52_1, v63_1, v74_1) dX8_copyFrom_77 hw (Nat.le_of_ble_eq_true rfl) (Nat.le_of_ble_eq_true rfl)
set_option maxHeartbeats 4000000 in
set_option maxRecDepth 100000 in
theorem jX9_push_3 {X : VX} {E : VE} {l : Launch} (h0 : Nat) (a0 : Nat → Nat)  (Q : Md → Prop) (C : VC X cX9_push 3 RX9 (rmL 0 0 0) E l) (hret : RetV X cX9_push 0 0 (fun (U : Md) => [wX9 E h0 a0 U].flatten) (fun (U : Md) => Q U))  : ∀ (n : Nat), ∀ (u0 : Md) (y1 : Int32) (y2 : Int32), qX9_push_3 Q n u0 y1 y2 → VV X 0 0 ([wX9 E h0 a0 u0].flatten) [(0, .ref h0), (1, .int y1), (2, .int y2)] 3 [] := by
  intro n
  induction n with
  | zero =>
    intro u0 y1 y2 hw
    exact hw.elim
  | succ n ih =>
    intro u0 y1 y2 hw
    unfold qX9_push_3 at hw
    refine v_iload_n C dX9_push_3 2 rfl ?_
    refine v_if_lt (tgt := 46) C dX9_push_4 (by decide) (fun hc => ?_) (fun hc => ?_)
    · have hw := hw.1 hc
      exact hret _ _ _ _ u0 dX9_push_46 hw (Nat.le_of_ble_eq_true rfl) (Nat.le_of_ble_eq_true rfl)
    · have hw := hw.2 hc
      refine v_aload_n C dX9_push_7 0 rfl ?_
      refine v_get (ci := 9) C inT9 0 1 rfl rfl (by decide) mF_X9_19_X9_1 rfl dX9_push_8 ?_
      refine v_sipush (v := 500) C dX9_push_11 (by decide) ?_
      refine v_icmp_ge (tgt := 46) C dX9_push_14 (by decide) (fun hc => ?_) (fun hc => ?_)
      · have hw := hw.1 hc
        exact hret _ _ _ _ u0 dX9_push_46 hw (Nat.le_of_ble_eq_true rfl) (Nat.le_of_ble_eq_true rfl)
      · have hw := hw.2 hc
        refine v_aload_n C dX9_push_17 0 rfl ?_
        refine v_get (ci := 9) C inT9 0 0 rfl rfl (by decide) mF_X9_11_X9_0 rfl dX9_push_18 ?_
        refine v_aload_n C dX9_push_21 0 rfl ?_
        refine v_get (ci := 9) C inT9 0 1 rfl rfl (by decide) mF_X9_19_X9_1 rfl dX9_push_22 ?_
        refine v_iload_n C dX9_push_25 1 rfl ?_
        refine v_iload_n C dX9_push_26 2 rfl ?_
        refine v_ishr C dX9_push_27 ?_
        refine v_i2b C dX9_push_28 ?_
        obtain ⟨hi29, hw⟩ := hw
        obtain ⟨w29, e29⟩ : ∃ z : Md, z = tB u0 0 (gF u0 1) ((y1 >>> (y2 &&& 31)).toInt8.toInt32) := ⟨_, rfl⟩
        have hw := hw w29 e29
        refine v_bast (ws' := [wX9 E h0 a0 w29].flatten) C 1 rfl hi29 (by rw [e29]; rfl) dX9_push_29 ?_
        refine v_aload_n C dX9_push_30 0 rfl ?_
        refine v_dup C dX9_push_31 rfl ?_
        refine v_get (ci := 9) C inT9 0 1 rfl rfl (by decide) mF_X9_19_X9_1 rfl dX9_push_32 ?_
        refine v_iconst (v := 1) C dX9_push_35 (by decide) ?_
        refine v_iadd C dX9_push_36 ?_
        obtain ⟨w37, e37⟩ : ∃ z : Md, z = sF w29 1 ((gF w29 1) + 1) := ⟨_, rfl⟩
        have hw := hw w37 e37
        refine v_put (ci := 9) (ws' := [wX9 E h0 a0 w37].flatten) C tyX9 tyX9_ok nmX9 inT9 0 1 rfl rfl (by decide) mF_X9_19_X9_1 rfl rfl rfl rfl (Nat.le_of_ble_eq_true rfl) (by rw [e37]; rfl) dX9_push_37 ?_
        refine v_iinc (lv' := [(2, .int (y2 + Int32.ofInt (-8))), (0, .ref h0), (1, .int y1)]) C dX9_push_40 2 rfl (by decide) rfl ?_
        refine v_goto (tgt := 3) C dX9_push_43 (by decide) ?_
        refine v_lv C (lv' := [(0, .ref h0), (1, .int y1), (2, .int (y2 + Int32.ofInt (-8)))]) [1, 2, 0] rfl ?_
        exact ih w37 y1 (y2 + Int32.ofInt (-8)) hw
set_option maxHeartbeats 4000000 in
set_option maxRecDepth 100000 in
theorem kX9_push {l : Launch} {E : VE} (h0 : Nat) (a0 : Nat → Nat) (u0 : Md) (x1 : Int32) {Q : Md → Prop} (hw : qX9_push u0 x1 Q) : MV l yX9_push cX9_push 3 0 0 0 E [.ref h0, .int x1] ([wX9 E h0 a0 u0].flatten) (fun (U : Md) => [wX9 E h0 a0 U].flatten) (fun (U : Md) => Q U) := by
  refine MV.of (own := RX9) (by decide) rfl (Nat.le_of_ble_eq_true rfl) ?_
  intro X C hini hret
  show VV X 0 0 ([wX9 E h0 a0 u0].flatten) [(0, .ref h0), (1, .int x1)] 0 []
  unfold qX9_push at hw
  refine v_bipush (v := 24) C dX9_push_0 (by decide) ?_
  refine v_istore_n (lv' := [(2, .int 24), (0, .ref h0), (1, .int x1)]) C dX9_push_2 (by decide) rfl ?_
  refine v_lv C (lv' := [(0, .ref h0), (1, .int x1), (2, .int 24)]) [1, 2, 0] rfl ?_
  obtain ⟨n', hw⟩ := hw
  exact jX9_push_3 h0 a0 Q C hret n' u0 x1 24 hw
set_option maxHeartbeats 4000000 in
set_option maxRecDepth 100000 in
theorem jX9_isLetters_20 {X : VX} {E : VE} {l : Launch} (h0 : Nat) (a0 : Nat → Nat)  (Q : Int32 → Md → Prop) (C : VC X cX9_isLetters 3 RX9 (rmL 1 0 0) E l) (hret : RetI X cX9_isLetters .boolean 0 0 (fun (U : Md) => [wX9 E h0 a0 U].flatten) (fun (r : Int32) (U : Md) => (r = 0 ∨ r = 1) ∧ Q r U))  : ∀ (n : Nat), ∀ (u0 : Md) (y2 : Int32), qX9_isLetters_20 Q n u0 y2 → VV X 0 0 ([wX9 E h0 a0 u0].flatten) [(0, .ref h0), (2, .int y2)] 20 [] := by
  intro n
  induction n with
  | zero =>
    intro u0 y2 hw
    exact hw.elim
  | succ n ih =>
    intro u0 y2 hw
    unfold qX9_isLetters_20 at hw
    refine v_iload_n C dX9_isLetters_20 1 rfl ?_
    refine v_aload_n C dX9_isLetters_21 0 rfl ?_
    refine v_get (ci := 9) C inT9 0 1 rfl rfl (by decide) mF_X9_19_X9_1 rfl dX9_isLetters_22 ?_
    refine v_icmp_ge (tgt := 49) C dX9_isLetters_25 (by decide) (fun hc => ?_) (fun hc => ?_)
    · have hw := hw.1 hc
      refine v_iconst (v := 1) C dX9_isLetters_49 (by decide) ?_
      exact hret _ _ _ _ 1 u0 dX9_isLetters_50 rfl ⟨Or.inr rfl, hw⟩ (Nat.le_of_ble_eq_true rfl) (Nat.le_of_ble_eq_true rfl)
    · have hw := hw.2 hc
      refine v_aload_n C dX9_isLetters_28 0 rfl ?_
      refine v_get (ci := 9) C inT9 0 0 rfl rfl (by decide) mF_X9_11_X9_0 rfl dX9_isLetters_29 ?_
      refine v_iload_n C dX9_isLetters_32 1 rfl ?_
      obtain ⟨hi33, hw⟩ := hw
      refine v_bald C 1 rfl hi33 dX9_isLetters_33 ?_
      refine v_callSPi (st := []) C (kX9_kindOf _ hw) mM_X9_22 mI_X9 mC_X9_kindOf mT_X9_kindOf hd_X9_kindOf ⟨Nat.le_of_ble_eq_true rfl, Nat.le_of_ble_eq_true rfl⟩ ⟨Nat.le_of_ble_eq_true rfl, Nat.le_of_ble_eq_true rfl⟩ rfl (Nat.le_of_ble_eq_true rfl) dX9_isLetters_34 (fun r34 U34 hw => ?_)
      refine v_iconst (v := 1) C dX9_isLetters_37 (by decide) ?_
      refine v_icmp_eq (tgt := 43) C dX9_isLetters_38 (by decide) (fun hc => ?_) (fun hc => ?_)
      · have hw := hw.1 hc
        refine v_iinc (lv' := [(2, .int (y2 + Int32.ofInt 1)), (0, .ref h0)]) C dX9_isLetters_43 1 rfl (by decide) rfl ?_
        refine v_goto (tgt := 20) C dX9_isLetters_46 (by decide) ?_
        refine v_lv C (lv' := [(0, .ref h0), (2, .int (y2 + Int32.ofInt 1))]) [1, 0] rfl ?_
        exact ih u0 (y2 + Int32.ofInt 1) hw
      · have hw := hw.2 hc
        refine v_iconst (v := 0) C dX9_isLetters_41 (by decide) ?_
        exact hret _ _ _ _ 0 u0 dX9_isLetters_42 rfl ⟨Or.inl rfl, hw⟩ (Nat.le_of_ble_eq_true rfl) (Nat.le_of_ble_eq_true rfl)
set_option maxHeartbeats 4000000 in
set_option maxRecDepth 100000 in
theorem kX9_isLetters {l : Launch} {E : VE} (h0 : Nat) (a0 : Nat → Nat) (u0 : Md) (x1 : Int32) {Q : Int32 → Md → Prop} (hw : qX9_isLetters u0 x1 Q) : MI l yX9_isLetters cX9_isLetters 3 .boolean 1 0 0 E [.ref h0, .int x1] ([wX9 E h0 a0 u0].flatten) (fun (U : Md) => [wX9 E h0 a0 U].flatten) (fun (r : Int32) (U : Md) => (r = 0 ∨ r = 1) ∧ Q r U) := by
  refine MI.of (own := RX9) (by decide) rfl (Nat.le_of_ble_eq_true rfl) ?_
  intro X C hini hret
  show VV X 0 0 ([wX9 E h0 a0 u0].flatten) [(0, .ref h0), (1, .int x1)] 0 []
  unfold qX9_isLetters at hw
  refine v_aload_n C dX9_isLetters_0 0 rfl ?_
  refine v_get (ci := 9) C inT9 0 1 rfl rfl (by decide) mF_X9_19_X9_1 rfl dX9_isLetters_1 ?_
  refine v_iconst (v := 1) C dX9_isLetters_4 (by decide) ?_
  refine v_icmp_lt (tgt := 16) C dX9_isLetters_5 (by decide) (fun hc => ?_) (fun hc => ?_)
  · have hw := hw.1 hc
    refine v_iconst (v := 0) C dX9_isLetters_16 (by decide) ?_
    exact hret _ _ _ _ 0 u0 dX9_isLetters_17 rfl ⟨Or.inl rfl, hw⟩ (Nat.le_of_ble_eq_true rfl) (Nat.le_of_ble_eq_true rfl)
  · have hw := hw.2 hc
    refine v_aload_n C dX9_isLetters_8 0 rfl ?_
    refine v_get (ci := 9) C inT9 0 1 rfl rfl (by decide) mF_X9_19_X9_1 rfl dX9_isLetters_9 ?_
    refine v_iload_n C dX9_isLetters_12 1 rfl ?_
    refine v_icmp_le (tgt := 18) C dX9_isLetters_13 (by decide) (fun hc => ?_) (fun hc => ?_)
    · have hw := hw.1 hc
      refine v_iconst (v := 0) C dX9_isLetters_18 (by decide) ?_
      refine v_istore_n (lv' := [(2, .int 0), (0, .ref h0), (1, .int x1)]) C dX9_isLetters_19 (by decide) rfl ?_
      refine v_lv C (lv' := [(0, .ref h0), (2, .int 0)]) [1, 0] rfl ?_
      obtain ⟨n', hw⟩ := hw
      exact jX9_isLetters_20 h0 a0 Q C hret n' u0 0 hw
    · have hw := hw.2 hc
      refine v_iconst (v := 0) C dX9_isLetters_16 (by decide) ?_
      exact hret _ _ _ _ 0 u0 dX9_isLetters_17 rfl ⟨Or.inl rfl, hw⟩ (Nat.le_of_ble_eq_true rfl) (Nat.le_of_ble_eq_true rfl)
set_option maxHeartbeats 4000000 in
set_option maxRecDepth 100000 in
theorem jX10_isUnder_5 {X : VX} {E : VE} {l : Launch} (h0 : Nat) (a0 : Nat → Nat)  (Q : Int32 → Md → Prop) (C : VC X cX10_isUnder 5 RX10 (rmL 0 0 0) E l) (hret : RetI X cX10_isUnder .boolean 0 0 (fun (U : Md) => [wX10 E h0 a0 U].flatten) (fun (r : Int32) (U : Md) => (r = 0 ∨ r = 1) ∧ Q r U))  : ∀ (n : Nat), ∀ (u0 : Md) (y2 : Int32) (y3 : Int32) (y4 : Int32), qX10_isUnder_5 Q n u0 y2 y3 y4 → VV X 0 0 ([wX10 E h0 a0 u0].flatten) [(0, .ref h0), (2, .int y2), (3, .int y3), (4, .int y4)] 5 [] := by
  intro n
  induction n with
  | zero =>
    intro u0 y2 y3 y4 hw
    exact hw.elim
  | succ n ih =>
    intro u0 y2 y3 y4 hw
    unfold qX10_isUnder_5 at hw
    refine v_iload C dX10_isUnder_5 3 rfl ?_
    refine v_bipush (v := 40) C dX10_isUnder_7 (by decide) ?_
    refine v_icmp_gt (tgt := 42) C dX10_isUnder_9 (by decide) (fun hc => ?_) (fun hc => ?_)
    · have hw := hw.1 hc
      refine v_iconst (v := 0) C dX10_isUnder_42 (by decide) ?_
      exact hret _ _ _ _ 0 u0 dX10_isUnder_43 rfl ⟨Or.inl rfl, hw⟩ (Nat.le_of_ble_eq_true rfl) (Nat.le_of_ble_eq_true rfl)
    · have hw := hw.2 hc
      refine v_iload_n C dX10_isUnder_12 2 rfl ?_
      refine v_if_lt (tgt := 42) C dX10_isUnder_13 (by decide) (fun hc => ?_) (fun hc => ?_)
      · have hw := hw.1 hc
        refine v_iconst (v := 0) C dX10_isUnder_42 (by decide) ?_
        exact hret _ _ _ _ 0 u0 dX10_isUnder_43 rfl ⟨Or.inl rfl, hw⟩ (Nat.le_of_ble_eq_true rfl) (Nat.le_of_ble_eq_true rfl)
      · have hw := hw.2 hc
        refine v_iload_n C dX10_isUnder_16 2 rfl ?_
        refine v_bipush (v := 40) C dX10_isUnder_17 (by decide) ?_
        refine v_icmp_ge (tgt := 42) C dX10_isUnder_19 (by decide) (fun hc => ?_) (fun hc => ?_)
        · have hw := hw.1 hc
          refine v_iconst (v := 0) C dX10_isUnder_42 (by decide) ?_
          exact hret _ _ _ _ 0 u0 dX10_isUnder_43 rfl ⟨Or.inl rfl, hw⟩ (Nat.le_of_ble_eq_true rfl) (Nat.le_of_ble_eq_true rfl)
        · have hw := hw.2 hc
          refine v_iload_n C dX10_isUnder_22 2 rfl ?_
          refine v_iload_n C dX10_isUnder_23 1 rfl ?_
          refine v_icmp_ne (tgt := 29) C dX10_isUnder_24 (by decide) (fun hc => ?_) (fun hc => ?_)
          · have hw := hw.1 hc
            refine v_aload_n C dX10_isUnder_29 0 rfl ?_
            refine v_get (ci := 10) C inT10 0 0 rfl rfl (by decide) mF_X10_9_X10_0 rfl dX10_isUnder_30 ?_
            refine v_iload_n C dX10_isUnder_33 2 rfl ?_
            obtain ⟨hi34, hw⟩ := hw
            refine v_iald C 1 rfl hi34 dX10_isUnder_34 ?_
            refine v_istore_n (lv' := [(3, .int (gA u0 0 y3.toNatClampNeg)), (0, .ref h0), (2, .int y2), (4, .int y4)]) C dX10_isUnder_35 (by decide) rfl ?_
            refine v_iinc (lv' := [(4, .int (y4 + Int32.ofInt 1)), (3, .int (gA u0 0 y3.toNatClampNeg)), (0, .ref h0), (2, .int y2)]) C dX10_isUnder_36 3 rfl (by decide) rfl ?_
            refine v_goto (tgt := 5) C dX10_isUnder_39 (by decide) ?_
            refine v_lv C (lv' := [(0, .ref h0), (2, .int y2), (3, .int (gA u0 0 y3.toNatClampNeg)), (4, .int (y4 + Int32.ofInt 1))]) [2, 3, 1, 0] rfl ?_
            exact ih u0 y2 (gA u0 0 y3.toNatClampNeg) (y4 + Int32.ofInt 1) hw
          · have hw := hw.2 hc
            refine v_iconst (v := 1) C dX10_isUnder_27 (by decide) ?_
            exact hret _ _ _ _ 1 u0 dX10_isUnder_28 rfl ⟨Or.inr rfl, hw⟩ (Nat.le_of_ble_eq_true rfl) (Nat.le_of_ble_eq_true rfl)
set_option maxHeartbeats 4000000 in
set_option maxRecDepth 100000 in
theorem kX10_isUnder {l : Launch} {E : VE} (h0 : Nat) (a0 : Nat → Nat) (u0 : Md) (x1 : Int32) (x2 : Int32) {Q : Int32 → Md → Prop} (hw : qX10_isUnder u0 x1 x2 Q) : MI l yX10_isUnder cX10_isUnder 5 .boolean 0 0 0 E [.ref h0, .int x1, .int x2] ([wX10 E h0 a0 u0].flatten) (fun (U : Md) => [wX10 E h0 a0 U].flatten) (fun (r : Int32) (U : Md) => (r = 0 ∨ r = 1) ∧ Q r U) := by
  refine MI.of (own := RX10) (by decide) rfl (Nat.le_of_ble_eq_true rfl) ?_
  intro X C hini hret
  show VV X 0 0 ([wX10 E h0 a0 u0].flatten) [(0, .ref h0), (1, .int x1), (2, .int x2)] 0 []
  unfold qX10_isUnder at hw
  refine v_iload_n C dX10_isUnder_0 1 rfl ?_
  refine v_istore_n (lv' := [(3, .int x1), (0, .ref h0), (1, .int x1), (2, .int x2)]) C dX10_isUnder_1 (by decide) rfl ?_
  refine v_iconst (v := 0) C dX10_isUnder_2 (by decide) ?_
  refine v_istore (lv' := [(4, .int 0), (3, .int x1), (0, .ref h0), (1, .int x1), (2, .int x2)]) C dX10_isUnder_3 (by decide) rfl ?_
  refine v_lv C (lv' := [(0, .ref h0), (2, .int x2), (3, .int x1), (4, .int 0)]) [2, 4, 1, 0] rfl ?_
  obtain ⟨n', hw⟩ := hw
  exact jX10_isUnder_5 h0 a0 Q C hret n' u0 x2 x1 0 hw
set_option maxHeartbeats 4000000 in
set_option maxRecDepth 100000 in
theorem kX10_liesWithin {l : Launch} {E : VE} (h0 : Nat) (h1 : Nat) (a0 : Nat → Nat) (a1 : Nat → Nat) (u0 : Md) (u1 : Md) (x2 : Int32) (x3 : Int32) (x4 : Int32) {Q : Int32 → Md → Md → Prop} (hw : qX10_liesWithin u0 u1 x2 x3 x4 Q) : MI l yX10_liesWithin cX10_liesWithin 5 .boolean 2 0 0 E [.ref h0, .ref h1, .int x2, .int x3, .int x4] ([wX10 E h0 a0 u0, wX2 E h1 a1 u1].flatten) (fun (U : Md × Md) => [wX10 E h0 a0 U.1, wX2 E h1 a1 U.2].flatten) (fun (r : Int32) (U : Md × Md) => (r = 0 ∨ r = 1) ∧ Q r U.1 U.2) := by
  refine MI.of (own := RX10) (by decide) rfl (Nat.le_of_ble_eq_true rfl) ?_
  intro X C hini hret
  show VV X 0 0 ([wX10 E h0 a0 u0, wX2 E h1 a1 u1].flatten) [(0, .ref h0), (1, .ref h1), (2, .int x2), (3, .int x3), (4, .int x4)] 0 []
  unfold qX10_liesWithin at hw
  refine v_aload_n C dX10_liesWithin_0 1 rfl ?_
  refine v_aload_n C dX10_liesWithin_1 0 rfl ?_
  refine v_get (ci := 10) C inT10 0 0 rfl rfl (by decide) mF_X10_9_X10_0 rfl dX10_liesWithin_2 ?_
  refine v_iload C dX10_liesWithin_5 4 rfl ?_
  refine v_callVv (st := []) (ci := 2) (qb := 8) (wr := ([0, 2, 3, 4, 5, 6, 7] : List Nat).filterMap (fun i => ([wX10 E h0 a0 u0, wX2 E h1 a1 u1].flatten)[i]?)) C (kX2_fillParents h1 ((a0 0)) a1 _ _ _ _ hw) mM_X10_48 mI_X2 mC_X2_fillParents mN_X2_fillParents mS_X2_fillParents rfl rfl hd_X2_fillParents ⟨Nat.le_of_ble_eq_true rfl, Nat.le_of_ble_eq_true rfl⟩ ⟨Nat.le_of_ble_eq_true rfl, Nat.le_of_ble_eq_true rfl⟩ [8, 9, 10, 11, 12, 13, 14, 15, 16, 1] [0, 2, 3, 4, 5, 6, 7] rfl (by decide) rfl (by decide) (by decide) rfl (Nat.le_of_ble_eq_true rfl) dX10_liesWithin_7 (fun U7 hw => ?_)
  obtain ⟨v7_0, v7_1⟩ := U7
  refine v_ws (ws' := [wX10 E h0 a0 (sA u0 0 v7_1), wX2 E h1 a1 v7_0].flatten) C [0, 16, 1, 2, 3, 4, 5, 6, 7, 8, 9, 10, 11, 12, 13, 14, 15] (by decide) rfl ?_
  refine v_aload_n C dX10_liesWithin_10 0 rfl ?_
  refine v_iload_n C dX10_liesWithin_11 2 rfl ?_
  refine v_iload_n C dX10_liesWithin_12 3 rfl ?_
  refine v_callVMi (st := []) (ci := 10) (qb := 0) C (kX10_isUnder h0 a0 _ _ _ hw) mM_X10_54 mI_X10 mC_X10_isUnder mN_X10_isUnder mS_X10_isUnder rfl rfl hd_X10_isUnder ⟨Nat.le_of_ble_eq_true rfl, Nat.le_of_ble_eq_true rfl⟩ ⟨Nat.le_of_ble_eq_true rfl, Nat.le_of_ble_eq_true rfl⟩ [0] [1] (N0 := 2) rfl (by decide) (ms2 := (fun (U : Md) => [wX10 E h0 a0 U, wX2 E h1 a1 v7_0])) rfl (fun _ => rfl) (fun _ => rfl) (fun _ => rfl) rfl (Nat.le_of_ble_eq_true rfl) dX10_liesWithin_13 (fun r13 v13_0 hw => ?_)
  obtain ⟨h01_13, hw⟩ := hw
  have hw := hw h01_13
  exact hret _ _ _ _ r13 (v13_0, v7_0) dX10_liesWithin_16 (nz01 h01_13) ⟨h01_13, hw⟩ (Nat.le_of_ble_eq_true rfl) (Nat.le_of_ble_eq_true rfl)
set_option maxHeartbeats 4000000 in
set_option maxRecDepth 100000 in
theorem jX10_addOwn_2 {X : VX} {E : VE} {l : Launch} (h0 : Nat) (a0 : Nat → Nat)  (Q : Md → Prop) (C : VC X cX10_addOwn 3 RX10 (rmL 0 0 0) E l) (hret : RetV X cX10_addOwn 0 0 (fun (U : Md) => [wX10 E h0 a0 U].flatten) (fun (U : Md) => Q U))  : ∀ (n : Nat), ∀ (u0 : Md) (y1 : Int32) (y2 : Int32), qX10_addOwn_2 Q n u0 y1 y2 → VV X 0 0 ([wX10 E h0 a0 u0].flatten) [(0, .ref h0), (1, .int y1), (2, .int y2)] 2 [] := by
  intro n
  induction n with
  | zero =>
    intro u0 y1 y2 hw
    exact hw.elim
  | succ n ih =>
    intro u0 y1 y2 hw
    unfold qX10_addOwn_2 at hw
    refine v_iload_n C dX10_addOwn_2 2 rfl ?_
    refine v_iconst (v := 3) C dX10_addOwn_3 (by decide) ?_
    refine v_icmp_ge (tgt := 32) C dX10_addOwn_4 (by decide) (fun hc => ?_) (fun hc => ?_)
    · have hw := hw.1 hc
      exact hret _ _ _ _ u0 dX10_addOwn_32 hw (Nat.le_of_ble_eq_true rfl) (Nat.le_of_ble_eq_true rfl)
    · have hw := hw.2 hc
      refine v_aload_n C dX10_addOwn_7 0 rfl ?_
      refine v_get (ci := 10) C inT10 0 2 rfl rfl (by decide) mF_X10_18_X10_2 rfl dX10_addOwn_8 ?_
      refine v_iload_n C dX10_addOwn_11 2 rfl ?_
      refine v_dup2 C dX10_addOwn_12 rfl rfl ?_
      obtain ⟨hi13, hw⟩ := hw
      refine v_iald C 3 rfl hi13 dX10_addOwn_13 ?_
      refine v_aload_n C dX10_addOwn_14 0 rfl ?_
      refine v_get (ci := 10) C inT10 0 1 rfl rfl (by decide) mF_X10_15_X10_1 rfl dX10_addOwn_15 ?_
      refine v_iload_n C dX10_addOwn_18 1 rfl ?_
      refine v_iconst (v := 3) C dX10_addOwn_19 (by decide) ?_
      refine v_imul C dX10_addOwn_20 ?_
      refine v_iload_n C dX10_addOwn_21 2 rfl ?_
      refine v_iadd C dX10_addOwn_22 ?_
      obtain ⟨hi23, hw⟩ := hw
      refine v_iald C 2 rfl hi23 dX10_addOwn_23 ?_
      refine v_iadd C dX10_addOwn_24 ?_
      obtain ⟨hi25, hw⟩ := hw
      obtain ⟨w25, e25⟩ : ∃ z : Md, z = tA u0 2 y2 ((gA u0 2 y2.toNatClampNeg) + (gA u0 1 ((y1 * 3) + y2).toNatClampNeg)) := ⟨_, rfl⟩
      have hw := hw w25 e25
      refine v_iast (ws' := [wX10 E h0 a0 w25].flatten) C 3 rfl hi25 (by rw [e25]; rfl) dX10_addOwn_25 ?_
      refine v_iinc (lv' := [(2, .int (y2 + Int32.ofInt 1)), (0, .ref h0), (1, .int y1)]) C dX10_addOwn_26 2 rfl (by decide) rfl ?_
      refine v_goto (tgt := 2) C dX10_addOwn_29 (by decide) ?_
      refine v_lv C (lv' := [(0, .ref h0), (1, .int y1), (2, .int (y2 + Int32.ofInt 1))]) [1, 2, 0] rfl ?_
      exact ih w25 y1 (y2 + Int32.ofInt 1) hw
set_option maxHeartbeats 4000000 in
set_option maxRecDepth 100000 in
theorem kX10_addOwn {l : Launch} {E : VE} (h0 : Nat) (a0 : Nat → Nat) (u0 : Md) (x1 : Int32) {Q : Md → Prop} (hw : qX10_addOwn u0 x1 Q) : MV l yX10_addOwn cX10_addOwn 3 0 0 0 E [.ref h0, .int x1] ([wX10 E h0 a0 u0].flatten) (fun (U : Md) => [wX10 E h0 a0 U].flatten) (fun (U : Md) => Q U) := by
  refine MV.of (own := RX10) (by decide) rfl (Nat.le_of_ble_eq_true rfl) ?_
  intro X C hini hret
  show VV X 0 0 ([wX10 E h0 a0 u0].flatten) [(0, .ref h0), (1, .int x1)] 0 []
  unfold qX10_addOwn at hw
  refine v_iconst (v := 0) C dX10_addOwn_0 (by decide) ?_
  refine v_istore_n (lv' := [(2, .int 0), (0, .ref h0), (1, .int x1)]) C dX10_addOwn_1 (by decide) rfl ?_
  refine v_lv C (lv' := [(0, .ref h0), (1, .int x1), (2, .int 0)]) [1, 2, 0] rfl ?_
  obtain ⟨n', hw⟩ := hw
  exact jX10_addOwn_2 h0 a0 Q C hret n' u0 x1 0 hw
set_option maxHeartbeats 4000000 in
set_option maxRecDepth 100000 in
theorem jX10_gather_55 {X : VX} {E : VE} {l : Launch} (h0 : Nat) (h1 : Nat) (a0 : Nat → Nat) (a1 : Nat → Nat)  (Q : Md → Md → Prop) (C : VC X cX10_gather 6 RX10 (rmL 2 0 0) E l) (hret : RetV X cX10_gather 0 0 (fun (U : Md × Md) => [wX10 E h0 a0 U.1, wX2 E h1 a1 U.2].flatten) (fun (U : Md × Md) => Q U.1 U.2)) (K32 : Md → Md → Int32 → Int32 → Int32 → Prop) (hK32 : ∀ (u0 : Md) (u1 : Md) (y2 : Int32) (y4 : Int32) (y5 : Int32), K32 u0 u1 y2 y4 y5 → VV X 0 0 ([wX10 E h0 a0 u0, wX2 E h1 a1 u1].flatten) [(0, .ref h0), (1, .ref h1), (2, .int y2), (4, .int y4), (5, .int y5)] 32 []) : ∀ (u0 : Md) (u1 : Md) (y2 : Int32) (y4 : Int32) (y5 : Int32), qX10_gather_55 Q K32 u0 u1 y2 y4 y5 → VV X 0 0 ([wX10 E h0 a0 u0, wX2 E h1 a1 u1].flatten) [(0, .ref h0), (1, .ref h1), (2, .int y2), (4, .int y4), (5, .int y5)] 55 [] := by
  intro u0 u1 y2 y4 y5 hw
  unfold qX10_gather_55 at hw
  refine v_aload_n C dX10_gather_55 0 rfl ?_
  refine v_iload C dX10_gather_56 4 rfl ?_
  refine v_iload_n C dX10_gather_58 2 rfl ?_
  refine v_callVMi (st := []) (ci := 10) (qb := 0) C (kX10_isUnder h0 a0 _ _ _ hw) mM_X10_54 mI_X10 mC_X10_isUnder mN_X10_isUnder mS_X10_isUnder rfl rfl hd_X10_isUnder ⟨Nat.le_of_ble_eq_true rfl, Nat.le_of_ble_eq_true rfl⟩ ⟨Nat.le_of_ble_eq_true rfl, Nat.le_of_ble_eq_true rfl⟩ [0] [1] (N0 := 2) rfl (by decide) (ms2 := (fun (U : Md) => [wX10 E h0 a0 U, wX2 E h1 a1 u1])) rfl (fun _ => rfl) (fun _ => rfl) (fun _ => rfl) rfl (Nat.le_of_ble_eq_true rfl) dX10_gather_59 (fun r59 v59_0 hw => ?_)
  obtain ⟨h01_59, hw⟩ := hw
  have hw := hw h01_59
  refine v_if_eq (tgt := 71) C dX10_gather_62 (by decide) (fun hc => ?_) (fun hc => ?_)
  · have hw := hw.1 hc
    refine v_iinc (lv' := [(5, .int (y5 + Int32.ofInt 1)), (0, .ref h0), (1, .ref h1), (2, .int y2), (4, .int y4)]) C dX10_gather_71 4 rfl (by decide) rfl ?_
    refine v_goto (tgt := 32) C dX10_gather_74 (by decide) ?_
    refine v_lv C (lv' := [(0, .ref h0), (1, .ref h1), (2, .int y2), (4, .int y4), (5, .int (y5 + Int32.ofInt 1))]) [1, 2, 3, 4, 0] rfl ?_
    exact hK32 v59_0 u1 y2 y4 (y5 + Int32.ofInt 1) hw
  · have hw := hw.2 hc
    refine v_aload_n C dX10_gather_65 0 rfl ?_
    refine v_iload C dX10_gather_66 4 rfl ?_
    refine v_callVMv (st := []) (ci := 10) (qb := 0) C (kX10_addOwn h0 a0 _ _ hw) mM_X10_70 mI_X10 mC_X10_addOwn mN_X10_addOwn mS_X10_addOwn rfl rfl hd_X10_addOwn ⟨Nat.le_of_ble_eq_true rfl, Nat.le_of_ble_eq_true rfl⟩ ⟨Nat.le_of_ble_eq_true rfl, Nat.le_of_ble_eq_true rfl⟩ [0] [1] (N0 := 2) rfl (by decide) (ms2 := (fun (U : Md) => [wX10 E h0 a0 U, wX2 E h1 a1 u1])) rfl (fun _ => rfl) (fun _ => rfl) (fun _ => rfl) rfl (Nat.le_of_ble_eq_true rfl) dX10_gather_68 (fun v68_0 hw => ?_)
    refine v_iinc (lv' := [(5, .int (y5 + Int32.ofInt 1)), (0, .ref h0), (1, .ref h1), (2, .int y2), (4, .int y4)]) C dX10_gather_71 4 rfl (by decide) rfl ?_
    refine v_goto (tgt := 32) C dX10_gather_74 (by decide) ?_
    refine v_lv C (lv' := [(0, .ref h0), (1, .ref h1), (2, .int y2), (4, .int y4), (5, .int (y5 + Int32.ofInt 1))]) [1, 2, 3, 4, 0] rfl ?_
    exact hK32 v68_0 u1 y2 y4 (y5 + Int32.ofInt 1) hw
set_option maxHeartbeats 4000000 in
set_option maxRecDepth 100000 in
theorem jX10_gather_32 {X : VX} {E : VE} {l : Launch} (h0 : Nat) (h1 : Nat) (a0 : Nat → Nat) (a1 : Nat → Nat)  (Q : Md → Md → Prop) (C : VC X cX10_gather 6 RX10 (rmL 2 0 0) E l) (hret : RetV X cX10_gather 0 0 (fun (U : Md × Md) => [wX10 E h0 a0 U.1, wX2 E h1 a1 U.2].flatten) (fun (U : Md × Md) => Q U.1 U.2))  : ∀ (n : Nat), ∀ (u0 : Md) (u1 : Md) (y2 : Int32) (y4 : Int32) (y5 : Int32), qX10_gather_32 Q n u0 u1 y2 y4 y5 → VV X 0 0 ([wX10 E h0 a0 u0, wX2 E h1 a1 u1].flatten) [(0, .ref h0), (1, .ref h1), (2, .int y2), (4, .int y4), (5, .int y5)] 32 [] := by
  intro n
  induction n with
  | zero =>
    intro u0 u1 y2 y4 y5 hw
    exact hw.elim
  | succ n ih =>
    intro u0 u1 y2 y4 y5 hw
    unfold qX10_gather_32 at hw
    refine v_iload C dX10_gather_32 4 rfl ?_
    refine v_aload_n C dX10_gather_34 1 rfl ?_
    refine v_get (ci := 2) C inT2 8 0 rfl rfl (by decide) mF_X10_66_X2_0 rfl dX10_gather_35 ?_
    refine v_icmp_ge (tgt := 77) C dX10_gather_38 (by decide) (fun hc => ?_) (fun hc => ?_)
    · have hw := hw.1 hc
      refine v_aload_n C dX10_gather_77 0 rfl ?_
      refine v_get (ci := 10) C inT10 0 3 rfl rfl (by decide) mF_X10_23_X10_3 rfl dX10_gather_78 ?_
      refine v_iconst (v := 4) C dX10_gather_81 (by decide) ?_
      refine v_iload C dX10_gather_82 3 rfl ?_
      obtain ⟨hi84, hw⟩ := hw
      obtain ⟨w84, e84⟩ : ∃ z : Md, z = tA u0 3 4 y4 := ⟨_, rfl⟩
      have hw := hw w84 e84
      refine v_iast (ws' := [wX10 E h0 a0 w84, wX2 E h1 a1 u1].flatten) C 4 rfl hi84 (by rw [e84]; rfl) dX10_gather_84 ?_
      exact hret _ _ _ _ (w84, u1) dX10_gather_85 hw (Nat.le_of_ble_eq_true rfl) (Nat.le_of_ble_eq_true rfl)
    · have hw := hw.2 hc
      refine v_aload_n C dX10_gather_41 0 rfl ?_
      refine v_get (ci := 10) C inT10 0 0 rfl rfl (by decide) mF_X10_9_X10_0 rfl dX10_gather_42 ?_
      refine v_iload C dX10_gather_45 4 rfl ?_
      obtain ⟨hi47, hw⟩ := hw
      refine v_iald C 1 rfl hi47 dX10_gather_47 ?_
      refine v_iload_n C dX10_gather_48 2 rfl ?_
      refine v_icmp_ne (tgt := 55) C dX10_gather_49 (by decide) (fun hc => ?_) (fun hc => ?_)
      · have hw := hw.1 hc
        exact jX10_gather_55 h0 h1 a0 a1 Q C hret (qX10_gather_32 Q n) ih u0 u1 y2 y4 y5 hw
      · have hw := hw.2 hc
        refine v_iinc (lv' := [(4, .int (y4 + Int32.ofInt 1)), (0, .ref h0), (1, .ref h1), (2, .int y2), (5, .int y5)]) C dX10_gather_52 3 rfl (by decide) rfl ?_
        refine v_lv C (lv' := [(0, .ref h0), (1, .ref h1), (2, .int y2), (4, .int (y4 + Int32.ofInt 1)), (5, .int y5)]) [1, 2, 3, 0, 4] rfl ?_
        exact jX10_gather_55 h0 h1 a0 a1 Q C hret (qX10_gather_32 Q n) ih u0 u1 y2 (y4 + Int32.ofInt 1) y5 hw
set_option maxHeartbeats 4000000 in
set_option maxRecDepth 100000 in
theorem kX10_gather {l : Launch} {E : VE} (h0 : Nat) (h1 : Nat) (a0 : Nat → Nat) (a1 : Nat → Nat) (u0 : Md) (u1 : Md) (x2 : Int32) (x3 : Int32) {Q : Md → Md → Prop} (hw : qX10_gather u0 u1 x2 x3 Q) : MV l yX10_gather cX10_gather 6 2 0 0 E [.ref h0, .ref h1, .int x2, .int x3] ([wX10 E h0 a0 u0, wX2 E h1 a1 u1].flatten) (fun (U : Md × Md) => [wX10 E h0 a0 U.1, wX2 E h1 a1 U.2].flatten) (fun (U : Md × Md) => Q U.1 U.2) := by
  refine MV.of (own := RX10) (by decide) rfl (Nat.le_of_ble_eq_true rfl) ?_
  intro X C hini hret
  show VV X 0 0 ([wX10 E h0 a0 u0, wX2 E h1 a1 u1].flatten) [(0, .ref h0), (1, .ref h1), (2, .int x2), (3, .int x3)] 0 []
  unfold qX10_gather at hw
  refine v_aload_n C dX10_gather_0 1 rfl ?_
  refine v_aload_n C dX10_gather_1 0 rfl ?_
  refine v_get (ci := 10) C inT10 0 0 rfl rfl (by decide) mF_X10_9_X10_0 rfl dX10_gather_2 ?_
  refine v_iload_n C dX10_gather_5 3 rfl ?_
  refine v_callVv (st := []) (ci := 2) (qb := 8) (wr := ([0, 2, 3, 4, 5, 6, 7] : List Nat).filterMap (fun i => ([wX10 E h0 a0 u0, wX2 E h1 a1 u1].flatten)[i]?)) C (kX2_fillParents h1 ((a0 0)) a1 _ _ _ _ hw) mM_X10_48 mI_X2 mC_X2_fillParents mN_X2_fillParents mS_X2_fillParents rfl rfl hd_X2_fillParents ⟨Nat.le_of_ble_eq_true rfl, Nat.le_of_ble_eq_true rfl⟩ ⟨Nat.le_of_ble_eq_true rfl, Nat.le_of_ble_eq_true rfl⟩ [8, 9, 10, 11, 12, 13, 14, 15, 16, 1] [0, 2, 3, 4, 5, 6, 7] rfl (by decide) rfl (by decide) (by decide) rfl (Nat.le_of_ble_eq_true rfl) dX10_gather_6 (fun U6 hw => ?_)
  obtain ⟨v6_0, v6_1⟩ := U6
  refine v_ws (ws' := [wX10 E h0 a0 (sA u0 0 v6_1), wX2 E h1 a1 v6_0].flatten) C [0, 16, 1, 2, 3, 4, 5, 6, 7, 8, 9, 10, 11, 12, 13, 14, 15] (by decide) rfl ?_
  refine v_aload_n C dX10_gather_9 1 rfl ?_
  refine v_aload_n C dX10_gather_10 0 rfl ?_
  refine v_get (ci := 10) C inT10 0 1 rfl rfl (by decide) mF_X10_15_X10_1 rfl dX10_gather_11 ?_
  refine v_iload_n C dX10_gather_14 3 rfl ?_
  refine v_callVv (st := []) (ci := 2) (qb := 8) (wr := ([0, 1, 3, 4, 5, 6, 7] : List Nat).filterMap (fun i => ([wX10 E h0 a0 (sA u0 0 v6_1), wX2 E h1 a1 v6_0].flatten)[i]?)) C (kX2_fillOwn h1 ((a0 1)) a1 _ _ _ _ hw) mM_X10_58 mI_X2 mC_X2_fillOwn mN_X2_fillOwn mS_X2_fillOwn rfl rfl hd_X2_fillOwn ⟨Nat.le_of_ble_eq_true rfl, Nat.le_of_ble_eq_true rfl⟩ ⟨Nat.le_of_ble_eq_true rfl, Nat.le_of_ble_eq_true rfl⟩ [8, 9, 10, 11, 12, 13, 14, 15, 16, 2] [0, 1, 3, 4, 5, 6, 7] rfl (by decide) rfl (by decide) (by decide) rfl (Nat.le_of_ble_eq_true rfl) dX10_gather_15 (fun U15 hw => ?_)
  obtain ⟨v15_0, v15_1⟩ := U15
  refine v_ws (ws' := [wX10 E h0 a0 (sA (sA u0 0 v6_1) 1 v15_1), wX2 E h1 a1 v15_0].flatten) C [0, 1, 16, 2, 3, 4, 5, 6, 7, 8, 9, 10, 11, 12, 13, 14, 15] (by decide) rfl ?_
  refine v_aload_n C dX10_gather_18 0 rfl ?_
  refine v_get (ci := 10) C inT10 0 2 rfl rfl (by decide) mF_X10_18_X10_2 rfl dX10_gather_19 ?_
  refine v_iconst (v := 0) C dX10_gather_22 (by decide) ?_
  refine v_callSv (st := []) (wr := ([0, 1, 2, 4, 5, 6, 7, 8, 9, 10, 11, 12, 13, 14, 15, 16] : List Nat).filterMap (fun i => ([wX10 E h0 a0 (sA (sA u0 0 v6_1) 1 v15_1), wX2 E h1 a1 v15_0].flatten)[i]?)) C (kJ7_fill_53178 ((a0 2)) _ _ _ hw) mM_X10_61 mI_J7 mC_J7_fill_53178 mT_J7_fill_53178 hd_J7_fill_53178 ⟨Nat.le_of_ble_eq_true rfl, Nat.le_of_ble_eq_true rfl⟩ ⟨Nat.le_of_ble_eq_true rfl, Nat.le_of_ble_eq_true rfl⟩ [3] [0, 1, 2, 4, 5, 6, 7, 8, 9, 10, 11, 12, 13, 14, 15, 16] rfl (by decide) rfl (by decide) (by decide) rfl (Nat.le_of_ble_eq_true rfl) dX10_gather_23 (fun v23_0 hw => ?_)
  refine v_ws (ws' := [wX10 E h0 a0 (sA (sA (sA u0 0 v6_1) 1 v15_1) 2 v23_0), wX2 E h1 a1 v15_0].flatten) C [0, 1, 2, 16, 3, 4, 5, 6, 7, 8, 9, 10, 11, 12, 13, 14, 15] (by decide) rfl ?_
  refine v_iconst (v := 0) C dX10_gather_26 (by decide) ?_
  refine v_istore (lv' := [(4, .int 0), (0, .ref h0), (1, .ref h1), (2, .int x2), (3, .int x3)]) C dX10_gather_27 (by decide) rfl ?_
  refine v_iconst (v := 0) C dX10_gather_29 (by decide) ?_
  refine v_istore (lv' := [(5, .int 0), (4, .int 0), (0, .ref h0), (1, .ref h1), (2, .int x2), (3, .int x3)]) C dX10_gather_30 (by decide) rfl ?_
  refine v_lv C (lv' := [(0, .ref h0), (1, .ref h1), (2, .int x2), (4, .int 0), (5, .int 0)]) [2, 3, 4, 1, 0] rfl ?_
  obtain ⟨n', hw⟩ := hw
  exact jX10_gather_32 h0 h1 a0 a1 Q C hret n' (sA (sA (sA u0 0 v6_1) 1 v15_1) 2 v23_0) v15_0 x2 0 0 hw
set_option maxHeartbeats 4000000 in
set_option maxRecDepth 100000 in
theorem jX10_everyone_4 {X : VX} {E : VE} {l : Launch} (h0 : Nat) (a0 : Nat → Nat)  (Q : Int32 → Md → Prop) (C : VC X cX10_everyone 3 RX10 (rmL 0 0 0) E l) (hret : RetI X cX10_everyone .int 0 0 (fun (U : Md) => [wX10 E h0 a0 U].flatten) (fun (r : Int32) (U : Md) => Q r U))  : ∀ (n : Nat), ∀ (u0 : Md) (y1 : Int32) (y2 : Int32), qX10_everyone_4 Q n u0 y1 y2 → VV X 0 0 ([wX10 E h0 a0 u0].flatten) [(0, .ref h0), (1, .int y1), (2, .int y2)] 4 [] := by
  intro n
  induction n with
  | zero =>
    intro u0 y1 y2 hw
    exact hw.elim
  | succ n ih =>
    intro u0 y1 y2 hw
    unfold qX10_everyone_4 at hw
    refine v_iload_n C dX10_everyone_4 2 rfl ?_
    refine v_iconst (v := 3) C dX10_everyone_5 (by decide) ?_
    refine v_icmp_ge (tgt := 24) C dX10_everyone_6 (by decide) (fun hc => ?_) (fun hc => ?_)
    · have hw := hw.1 hc
      refine v_iload_n C dX10_everyone_24 1 rfl ?_
      exact hret _ _ _ _ y1 u0 dX10_everyone_25 rfl hw (Nat.le_of_ble_eq_true rfl) (Nat.le_of_ble_eq_true rfl)
    · have hw := hw.2 hc
      refine v_iload_n C dX10_everyone_9 1 rfl ?_
      refine v_aload_n C dX10_everyone_10 0 rfl ?_
      refine v_get (ci := 10) C inT10 0 2 rfl rfl (by decide) mF_X10_18_X10_2 rfl dX10_everyone_11 ?_
      refine v_iload_n C dX10_everyone_14 2 rfl ?_
      obtain ⟨hi15, hw⟩ := hw
      refine v_iald C 3 rfl hi15 dX10_everyone_15 ?_
      refine v_iadd C dX10_everyone_16 ?_
      refine v_istore_n (lv' := [(1, .int (y1 + (gA u0 2 y2.toNatClampNeg))), (0, .ref h0), (2, .int y2)]) C dX10_everyone_17 (by decide) rfl ?_
      refine v_iinc (lv' := [(2, .int (y2 + Int32.ofInt 1)), (1, .int (y1 + (gA u0 2 y2.toNatClampNeg))), (0, .ref h0)]) C dX10_everyone_18 2 rfl (by decide) rfl ?_
      refine v_goto (tgt := 4) C dX10_everyone_21 (by decide) ?_
      refine v_lv C (lv' := [(0, .ref h0), (1, .int (y1 + (gA u0 2 y2.toNatClampNeg))), (2, .int (y2 + Int32.ofInt 1))]) [2, 1, 0] rfl ?_
      exact ih u0 (y1 + (gA u0 2 y2.toNatClampNeg)) (y2 + Int32.ofInt 1) hw
set_option maxHeartbeats 4000000 in
set_option maxRecDepth 100000 in
theorem kX10_everyone {l : Launch} {E : VE} (h0 : Nat) (a0 : Nat → Nat) (u0 : Md) {Q : Int32 → Md → Prop} (hw : qX10_everyone u0 Q) : MI l yX10_everyone cX10_everyone 3 .int 0 0 0 E [.ref h0] ([wX10 E h0 a0 u0].flatten) (fun (U : Md) => [wX10 E h0 a0 U].flatten) (fun (r : Int32) (U : Md) => Q r U) := by
  refine MI.of (own := RX10) (by decide) rfl (Nat.le_of_ble_eq_true rfl) ?_
  intro X C hini hret
  show VV X 0 0 ([wX10 E h0 a0 u0].flatten) [(0, .ref h0)] 0 []
  unfold qX10_everyone at hw
  refine v_iconst (v := 0) C dX10_everyone_0 (by decide) ?_
  refine v_istore_n (lv' := [(1, .int 0), (0, .ref h0)]) C dX10_everyone_1 (by decide) rfl ?_
  refine v_iconst (v := 0) C dX10_everyone_2 (by decide) ?_
  refine v_istore_n (lv' := [(2, .int 0), (1, .int 0), (0, .ref h0)]) C dX10_everyone_3 (by decide) rfl ?_
  refine v_lv C (lv' := [(0, .ref h0), (1, .int 0), (2, .int 0)]) [2, 1, 0] rfl ?_
  obtain ⟨n', hw⟩ := hw
  exact jX10_everyone_4 h0 a0 Q C hret n' u0 0 0 hw
set_option maxHeartbeats 4000000 in
set_option maxRecDepth 100000 in
theorem jX10_setShares_14 {X : VX} {E : VE} {l : Launch} (h0 : Nat) (a0 : Nat → Nat)  (Q : Md → Prop) (C : VC X cX10_setShares 3 RX10 (rmL 1 0 0) E l) (hret : RetV X cX10_setShares 0 0 (fun (U : Md) => [wX10 E h0 a0 U].flatten) (fun (U : Md) => Q U))  : ∀ (n : Nat), ∀ (u0 : Md) (y1 : Int32) (y2 : Int32), qX10_setShares_14 Q n u0 y1 y2 → VV X 0 0 ([wX10 E h0 a0 u0].flatten) [(0, .ref h0), (1, .int y1), (2, .int y2)] 14 [] := by
  intro n
  induction n with
  | zero =>
    intro u0 y1 y2 hw
    exact hw.elim
  | succ n ih =>
    intro u0 y1 y2 hw
    unfold qX10_setShares_14 at hw
    refine v_iload_n C dX10_setShares_14 2 rfl ?_
    refine v_iconst (v := 3) C dX10_setShares_15 (by decide) ?_
    refine v_icmp_ge (tgt := 52) C dX10_setShares_16 (by decide) (fun hc => ?_) (fun hc => ?_)
    · have hw := hw.1 hc
      exact hret _ _ _ _ u0 dX10_setShares_52 hw (Nat.le_of_ble_eq_true rfl) (Nat.le_of_ble_eq_true rfl)
    · have hw := hw.2 hc
      refine v_aload_n C dX10_setShares_19 0 rfl ?_
      refine v_get (ci := 10) C inT10 0 3 rfl rfl (by decide) mF_X10_23_X10_3 rfl dX10_setShares_20 ?_
      refine v_iconst (v := 0) C dX10_setShares_23 (by decide) ?_
      refine v_iload_n C dX10_setShares_24 2 rfl ?_
      refine v_iadd C dX10_setShares_25 ?_
      refine v_iload_n C dX10_setShares_26 1 rfl ?_
      refine v_if_le (tgt := 44) C dX10_setShares_27 (by decide) (fun hc => ?_) (fun hc => ?_)
      · have hw := hw.1 hc
        refine v_iconst (v := 0) C dX10_setShares_44 (by decide) ?_
        obtain ⟨hi45, hw⟩ := hw
        obtain ⟨w45, e45⟩ : ∃ z : Md, z = tA u0 3 (0 + y2) 0 := ⟨_, rfl⟩
        have hw := hw w45 e45
        refine v_iast (ws' := [wX10 E h0 a0 w45].flatten) C 4 rfl hi45 (by rw [e45]; rfl) dX10_setShares_45 ?_
        refine v_iinc (lv' := [(2, .int (y2 + Int32.ofInt 1)), (0, .ref h0), (1, .int y1)]) C dX10_setShares_46 2 rfl (by decide) rfl ?_
        refine v_goto (tgt := 14) C dX10_setShares_49 (by decide) ?_
        refine v_lv C (lv' := [(0, .ref h0), (1, .int y1), (2, .int (y2 + Int32.ofInt 1))]) [1, 2, 0] rfl ?_
        exact ih w45 y1 (y2 + Int32.ofInt 1) hw
      · have hw := hw.2 hc
        refine v_aload_n C dX10_setShares_30 0 rfl ?_
        refine v_get (ci := 10) C inT10 0 2 rfl rfl (by decide) mF_X10_18_X10_2 rfl dX10_setShares_31 ?_
        refine v_iload_n C dX10_setShares_34 2 rfl ?_
        obtain ⟨hi35, hw⟩ := hw
        refine v_iald C 3 rfl hi35 dX10_setShares_35 ?_
        refine v_bipush (v := 100) C dX10_setShares_36 (by decide) ?_
        refine v_imul C dX10_setShares_38 ?_
        refine v_iload_n C dX10_setShares_39 1 rfl ?_
        obtain ⟨hz, hw⟩ := hw
        refine v_idiv C dX10_setShares_40 hz ?_
        refine v_goto (tgt := 45) C dX10_setShares_41 (by decide) ?_
        obtain ⟨hi45, hw⟩ := hw
        obtain ⟨w45, e45⟩ : ∃ z : Md, z = tA u0 3 (0 + y2) (((gA u0 2 y2.toNatClampNeg) * 100) / y1) := ⟨_, rfl⟩
        have hw := hw w45 e45
        refine v_iast (ws' := [wX10 E h0 a0 w45].flatten) C 4 rfl hi45 (by rw [e45]; rfl) dX10_setShares_45 ?_
        refine v_iinc (lv' := [(2, .int (y2 + Int32.ofInt 1)), (0, .ref h0), (1, .int y1)]) C dX10_setShares_46 2 rfl (by decide) rfl ?_
        refine v_goto (tgt := 14) C dX10_setShares_49 (by decide) ?_
        refine v_lv C (lv' := [(0, .ref h0), (1, .int y1), (2, .int (y2 + Int32.ofInt 1))]) [1, 2, 0] rfl ?_
        exact ih w45 y1 (y2 + Int32.ofInt 1) hw
set_option maxHeartbeats 4000000 in
set_option maxRecDepth 100000 in
theorem kX10_setShares {l : Launch} {E : VE} (h0 : Nat) (a0 : Nat → Nat) (u0 : Md) {Q : Md → Prop} (hw : qX10_setShares u0 Q) : MV l yX10_setShares cX10_setShares 3 1 0 0 E [.ref h0] ([wX10 E h0 a0 u0].flatten) (fun (U : Md) => [wX10 E h0 a0 U].flatten) (fun (U : Md) => Q U) := by
  refine MV.of (own := RX10) (by decide) rfl (Nat.le_of_ble_eq_true rfl) ?_
  intro X C hini hret
  show VV X 0 0 ([wX10 E h0 a0 u0].flatten) [(0, .ref h0)] 0 []
  unfold qX10_setShares at hw
  refine v_aload_n C dX10_setShares_0 0 rfl ?_
  refine v_callFi (st := []) (ci := 10) (qb := 0) C (kX10_everyone h0 a0 _ hw) mM_X10_74 mI_X10 mC_X10_everyone mN_X10_everyone mS_X10_everyone rfl rfl hd_X10_everyone ⟨Nat.le_of_ble_eq_true rfl, Nat.le_of_ble_eq_true rfl⟩ ⟨Nat.le_of_ble_eq_true rfl, Nat.le_of_ble_eq_true rfl⟩ rfl (Nat.le_of_ble_eq_true rfl) dX10_setShares_1 (fun r1 v1_0 hw => ?_)
  refine v_istore_n (lv' := [(1, .int r1), (0, .ref h0)]) C dX10_setShares_4 (by decide) rfl ?_
  refine v_aload_n C dX10_setShares_5 1 rfl ?_
  refine v_get (ci := 10) C inT10 0 3 rfl rfl (by decide) mF_X10_23_X10_3 rfl dX10_setShares_6 ?_
  refine v_iconst (v := 3) C dX10_setShares_9 (by decide) ?_
  refine v_iload_n C dX10_setShares_10 0 rfl ?_
  obtain ⟨hi11, hw⟩ := hw
  obtain ⟨w11, e11⟩ : ∃ z : Md, z = tA v1_0 3 3 r1 := ⟨_, rfl⟩
  have hw := hw w11 e11
  refine v_iast (ws' := [wX10 E h0 a0 w11].flatten) C 4 rfl hi11 (by rw [e11]; rfl) dX10_setShares_11 ?_
  refine v_iconst (v := 0) C dX10_setShares_12 (by decide) ?_
  refine v_istore_n (lv' := [(2, .int 0), (1, .int r1), (0, .ref h0)]) C dX10_setShares_13 (by decide) rfl ?_
  refine v_lv C (lv' := [(0, .ref h0), (1, .int r1), (2, .int 0)]) [2, 1, 0] rfl ?_
  obtain ⟨n', hw⟩ := hw
  exact jX10_setShares_14 h0 a0 Q C hret n' w11 r1 0 hw
set_option maxHeartbeats 4000000 in
set_option maxRecDepth 100000 in
theorem jX10_mostPeople_14 {X : VX} {E : VE} {l : Launch} (h0 : Nat) (a0 : Nat → Nat)  (Q : Int32 → Md → Prop) (C : VC X cX10_mostPeople 4 RX10 (rmL 0 0 0) E l) (hret : RetI X cX10_mostPeople .int 0 0 (fun (U : Md) => [wX10 E h0 a0 U].flatten) (fun (r : Int32) (U : Md) => Q r U))  : ∀ (n : Nat), ∀ (u0 : Md) (y1 : Int32) (y2 : Int32) (y3 : Int32), qX10_mostPeople_14 Q n u0 y1 y2 y3 → VV X 0 0 ([wX10 E h0 a0 u0].flatten) [(0, .ref h0), (1, .int y1), (2, .int y2), (3, .int y3)] 14 [] := by
  intro n
  induction n with
  | zero =>
    intro u0 y1 y2 y3 hw
    exact hw.elim
  | succ n ih =>
    intro u0 y1 y2 y3 hw
    unfold qX10_mostPeople_14 at hw
    refine v_iload_n C dX10_mostPeople_14 3 rfl ?_
    refine v_iconst (v := 3) C dX10_mostPeople_15 (by decide) ?_
    refine v_icmp_ge (tgt := 47) C dX10_mostPeople_16 (by decide) (fun hc => ?_) (fun hc => ?_)
    · have hw := hw.1 hc
      refine v_iload_n C dX10_mostPeople_47 2 rfl ?_
      exact hret _ _ _ _ y2 u0 dX10_mostPeople_48 rfl hw (Nat.le_of_ble_eq_true rfl) (Nat.le_of_ble_eq_true rfl)
    · have hw := hw.2 hc
      refine v_iload_n C dX10_mostPeople_19 3 rfl ?_
      refine v_iload_n C dX10_mostPeople_20 1 rfl ?_
      refine v_icmp_eq (tgt := 41) C dX10_mostPeople_21 (by decide) (fun hc => ?_) (fun hc => ?_)
      · have hw := hw.1 hc
        refine v_iinc (lv' := [(3, .int (y3 + Int32.ofInt 1)), (0, .ref h0), (1, .int y1), (2, .int y2)]) C dX10_mostPeople_41 3 rfl (by decide) rfl ?_
        refine v_goto (tgt := 14) C dX10_mostPeople_44 (by decide) ?_
        refine v_lv C (lv' := [(0, .ref h0), (1, .int y1), (2, .int y2), (3, .int (y3 + Int32.ofInt 1))]) [1, 2, 3, 0] rfl ?_
        exact ih u0 y1 y2 (y3 + Int32.ofInt 1) hw
      · have hw := hw.2 hc
        refine v_aload_n C dX10_mostPeople_24 0 rfl ?_
        refine v_get (ci := 10) C inT10 0 2 rfl rfl (by decide) mF_X10_18_X10_2 rfl dX10_mostPeople_25 ?_
        refine v_iload_n C dX10_mostPeople_28 3 rfl ?_
        obtain ⟨hi29, hw⟩ := hw
        refine v_iald C 3 rfl hi29 dX10_mostPeople_29 ?_
        refine v_aload_n C dX10_mostPeople_30 0 rfl ?_
        refine v_get (ci := 10) C inT10 0 2 rfl rfl (by decide) mF_X10_18_X10_2 rfl dX10_mostPeople_31 ?_
        refine v_iload_n C dX10_mostPeople_34 2 rfl ?_
        obtain ⟨hi35, hw⟩ := hw
        refine v_iald C 3 rfl hi35 dX10_mostPeople_35 ?_
        refine v_icmp_le (tgt := 41) C dX10_mostPeople_36 (by decide) (fun hc => ?_) (fun hc => ?_)
        · have hw := hw.1 hc
          refine v_iinc (lv' := [(3, .int (y3 + Int32.ofInt 1)), (0, .ref h0), (1, .int y1), (2, .int y2)]) C dX10_mostPeople_41 3 rfl (by decide) rfl ?_
          refine v_goto (tgt := 14) C dX10_mostPeople_44 (by decide) ?_
          refine v_lv C (lv' := [(0, .ref h0), (1, .int y1), (2, .int y2), (3, .int (y3 + Int32.ofInt 1))]) [1, 2, 3, 0] rfl ?_
          exact ih u0 y1 y2 (y3 + Int32.ofInt 1) hw
        · have hw := hw.2 hc
          refine v_iload_n C dX10_mostPeople_39 3 rfl ?_
          refine v_istore_n (lv' := [(2, .int y3), (0, .ref h0), (1, .int y1), (3, .int y3)]) C dX10_mostPeople_40 (by decide) rfl ?_
          refine v_iinc (lv' := [(3, .int (y3 + Int32.ofInt 1)), (2, .int y3), (0, .ref h0), (1, .int y1)]) C dX10_mostPeople_41 3 rfl (by decide) rfl ?_
          refine v_goto (tgt := 14) C dX10_mostPeople_44 (by decide) ?_
          refine v_lv C (lv' := [(0, .ref h0), (1, .int y1), (2, .int y3), (3, .int (y3 + Int32.ofInt 1))]) [2, 3, 1, 0] rfl ?_
          exact ih u0 y1 y3 (y3 + Int32.ofInt 1) hw
set_option maxHeartbeats 4000000 in
set_option maxRecDepth 100000 in
theorem jX10_mostPeople_9 {X : VX} {E : VE} {l : Launch} (h0 : Nat) (a0 : Nat → Nat)  (Q : Int32 → Md → Prop) (C : VC X cX10_mostPeople 4 RX10 (rmL 0 0 0) E l) (hret : RetI X cX10_mostPeople .int 0 0 (fun (U : Md) => [wX10 E h0 a0 U].flatten) (fun (r : Int32) (U : Md) => Q r U))  : ∀ (u0 : Md) (y1 : Int32) (z0 : Int32), qX10_mostPeople_9 Q u0 y1 z0 → VV X 0 0 ([wX10 E h0 a0 u0].flatten) [(0, .ref h0), (1, .int y1)] 9 [.int z0] := by
  intro u0 y1 z0 hw
  unfold qX10_mostPeople_9 at hw
  refine v_istore_n (lv' := [(2, .int z0), (0, .ref h0), (1, .int y1)]) C dX10_mostPeople_9 (by decide) rfl ?_
  refine v_iload_n C dX10_mostPeople_10 0 rfl ?_
  refine v_iconst (v := 1) C dX10_mostPeople_11 (by decide) ?_
  refine v_iadd C dX10_mostPeople_12 ?_
  refine v_istore_n (lv' := [(3, .int (z0 + 1)), (2, .int z0), (0, .ref h0), (1, .int y1)]) C dX10_mostPeople_13 (by decide) rfl ?_
  refine v_lv C (lv' := [(0, .ref h0), (1, .int y1), (2, .int z0), (3, .int (z0 + 1))]) [2, 3, 1, 0] rfl ?_
  obtain ⟨n', hw⟩ := hw
  exact jX10_mostPeople_14 h0 a0 Q C hret n' u0 y1 z0 (z0 + 1) hw
set_option maxHeartbeats 4000000 in
set_option maxRecDepth 100000 in
theorem kX10_mostPeople {l : Launch} {E : VE} (h0 : Nat) (a0 : Nat → Nat) (u0 : Md) (x1 : Int32) {Q : Int32 → Md → Prop} (hw : qX10_mostPeople u0 x1 Q) : MI l yX10_mostPeople cX10_mostPeople 4 .int 0 0 0 E [.ref h0, .int x1] ([wX10 E h0 a0 u0].flatten) (fun (U : Md) => [wX10 E h0 a0 U].flatten) (fun (r : Int32) (U : Md) => Q r U) := by
  refine MI.of (own := RX10) (by decide) rfl (Nat.le_of_ble_eq_true rfl) ?_
  intro X C hini hret
  show VV X 0 0 ([wX10 E h0 a0 u0].flatten) [(0, .ref h0), (1, .int x1)] 0 []
  unfold qX10_mostPeople at hw
  refine v_iload_n C dX10_mostPeople_0 1 rfl ?_
  refine v_if_ne (tgt := 8) C dX10_mostPeople_1 (by decide) (fun hc => ?_) (fun hc => ?_)
  · have hw := hw.1 hc
    refine v_iconst (v := 0) C dX10_mostPeople_8 (by decide) ?_
    exact jX10_mostPeople_9 h0 a0 Q C hret u0 x1 0 hw
  · have hw := hw.2 hc
    refine v_iconst (v := 1) C dX10_mostPeople_4 (by decide) ?_
    refine v_goto (tgt := 9) C dX10_mostPeople_5 (by decide) ?_
    exact jX10_mostPeople_9 h0 a0 Q C hret u0 x1 1 hw
set_option maxHeartbeats 4000000 in
set_option maxRecDepth 100000 in
theorem kX10_firstBy {l : Launch} {E : VE} (h0 : Nat) (h1 : Nat) (a0 : Nat → Nat) (a1 : Nat → Nat) (u0 : Md) (u1 : Md) (x2 : Int32) {Q : Int32 → Md → Md → Prop} (hw : qX10_firstBy u0 u1 x2 Q) : MI l yX10_firstBy cX10_firstBy 4 .int 2 0 0 E [.ref h0, .ref h1, .int x2] ([wX10 E h0 a0 u0, wX0 E h1 a1 u1].flatten) (fun (U : Md × Md) => [wX10 E h0 a0 U.1, wX0 E h1 a1 U.2].flatten) (fun (r : Int32) (U : Md × Md) => Q r U.1 U.2) := by
  refine MI.of (own := RX10) (by decide) rfl (Nat.le_of_ble_eq_true rfl) ?_
  intro X C hini hret
  show VV X 0 0 ([wX10 E h0 a0 u0, wX0 E h1 a1 u1].flatten) [(0, .ref h0), (1, .ref h1), (2, .int x2)] 0 []
  unfold qX10_firstBy at hw
  refine v_aload_n C dX10_firstBy_0 1 rfl ?_
  refine v_iload_n C dX10_firstBy_1 2 rfl ?_
  refine v_iconst (v := 0) C dX10_firstBy_2 (by decide) ?_
  refine v_aload_n C dX10_firstBy_3 0 rfl ?_
  refine v_get (ci := 10) C inT10 0 3 rfl rfl (by decide) mF_X10_23_X10_3 rfl dX10_firstBy_4 ?_
  refine v_callVi (st := []) (ci := 0) (qb := 8) (wr := ([0, 1, 2, 3, 5, 6, 7] : List Nat).filterMap (fun i => ([wX10 E h0 a0 u0, wX0 E h1 a1 u1].flatten)[i]?)) C (kX0_firstHolding h1 ((a0 3)) a1 _ _ _ _ _ hw) mM_X10_115 mI_X0 mC_X0_firstHolding mN_X0_firstHolding mS_X0_firstHolding rfl rfl hd_X0_firstHolding ⟨Nat.le_of_ble_eq_true rfl, Nat.le_of_ble_eq_true rfl⟩ ⟨Nat.le_of_ble_eq_true rfl, Nat.le_of_ble_eq_true rfl⟩ [8, 9, 10, 11, 12, 13, 14, 15, 16, 17, 18, 19, 4] [0, 1, 2, 3, 5, 6, 7] rfl (by decide) rfl (by decide) (by decide) rfl (Nat.le_of_ble_eq_true rfl) dX10_firstBy_7 (fun r7 U7 hw => ?_)
  obtain ⟨v7_0, v7_1⟩ := U7
  refine v_ws (ws' := [wX10 E h0 a0 (sA u0 3 v7_1), wX0 E h1 a1 v7_0].flatten) C [0, 1, 2, 3, 19, 4, 5, 6, 7, 8, 9, 10, 11, 12, 13, 14, 15, 16, 17, 18] (by decide) rfl ?_
  refine v_istore_n (lv' := [(3, .int r7), (0, .ref h0), (1, .ref h1), (2, .int x2)]) C dX10_firstBy_10 (by decide) rfl ?_
  refine v_iload_n C dX10_firstBy_11 0 rfl ?_
  refine v_iconst (v := (-1)) C dX10_firstBy_12 (by decide) ?_
  refine v_icmp_ne (tgt := 24) C dX10_firstBy_13 (by decide) (fun hc => ?_) (fun hc => ?_)
  · have hw := hw.1 hc
    refine v_aload_n C dX10_firstBy_24 2 rfl ?_
    refine v_get (ci := 0) C inT0 8 5 rfl rfl (by decide) mF_X10_122_X0_5 rfl dX10_firstBy_25 ?_
    refine v_iload_n C dX10_firstBy_28 0 rfl ?_
    obtain ⟨hi29, hw⟩ := hw
    refine v_iald C 13 rfl hi29 dX10_firstBy_29 ?_
    exact hret _ _ _ _ (gA v7_0 5 r7.toNatClampNeg) (sA u0 3 v7_1, v7_0) dX10_firstBy_30 rfl hw (Nat.le_of_ble_eq_true rfl) (Nat.le_of_ble_eq_true rfl)
  · have hw := hw.2 hc
    refine v_aload_n C dX10_firstBy_16 1 rfl ?_
    refine v_iconst (v := (-1)) C dX10_firstBy_17 (by decide) ?_
    refine v_callVMi (st := []) (ci := 10) (qb := 0) C (kX10_mostPeople h0 a0 _ _ hw) mM_X10_119 mI_X10 mC_X10_mostPeople mN_X10_mostPeople mS_X10_mostPeople rfl rfl hd_X10_mostPeople ⟨Nat.le_of_ble_eq_true rfl, Nat.le_of_ble_eq_true rfl⟩ ⟨Nat.le_of_ble_eq_true rfl, Nat.le_of_ble_eq_true rfl⟩ [0] [1] (N0 := 2) rfl (by decide) (ms2 := (fun (U : Md) => [wX10 E h0 a0 U, wX0 E h1 a1 v7_0])) rfl (fun _ => rfl) (fun _ => rfl) (fun _ => rfl) rfl (Nat.le_of_ble_eq_true rfl) dX10_firstBy_18 (fun r18 v18_0 hw => ?_)
    refine v_goto (tgt := 30) C dX10_firstBy_21 (by decide) ?_
    exact hret _ _ _ _ r18 (v18_0, v7_0) dX10_firstBy_30 rfl hw (Nat.le_of_ble_eq_true rfl) (Nat.le_of_ble_eq_true rfl)
set_option maxHeartbeats 4000000 in
set_option maxRecDepth 100000 in
theorem kX10_look {l : Launch} {E : VE} (h0 : Nat) (h1 : Nat) (a0 : Nat → Nat) (a1 : Nat → Nat) (a1_2 : Nat → Nat) (a1_4 : Nat → Nat) (u0 : Md) (u1 : Md) (u1_2 : Md) (u1_4 : Md) (x2 : Int32) (x3 : Int32) (x4 : Int32) {Q : Md → Md → Md → Md → Prop} (hw : qX10_look u0 u1 u1_2 u1_4 x2 x3 x4 Q) : MV l yX10_look cX10_look 8 3 0 0 E [.ref h0, .ref h1, .int x2, .int x3, .int x4] ([wX10 E h0 a0 u0, wX8 E h1 a1 u1, wX2 E (a1 2) a1_2 u1_2, wX0 E (a1 4) a1_4 u1_4].flatten) (fun (U : Md × Md × Md × Md) => [wX10 E h0 a0 U.1, wX8 E h1 a1 U.2.1, wX2 E (a1 2) a1_2 U.2.2.1, wX0 E (a1 4) a1_4 U.2.2.2].flatten) (fun (U : Md × Md × Md × Md) => Q U.1 U.2.1 U.2.2.1 U.2.2.2) := by
  refine MV.of (own := RX10) (by decide) rfl (Nat.le_of_ble_eq_true rfl) ?_
  intro X C hini hret
  show VV X 0 0 ([wX10 E h0 a0 u0, wX8 E h1 a1 u1, wX2 E (a1 2) a1_2 u1_2, wX0 E (a1 4) a1_4 u1_4].flatten) [(0, .ref h0), (1, .ref h1), (2, .int x2), (3, .int x3), (4, .int x4)] 0 []
  unfold qX10_look at hw
  refine v_iload_n C dX10_look_0 3 rfl ?_
  refine v_iload C dX10_look_1 4 rfl ?_
  refine v_imin C mM_X10_78 ⟨Nat.le_of_ble_eq_true rfl, Nat.le_of_ble_eq_true rfl, Nat.le_of_ble_eq_true rfl, Nat.le_of_ble_eq_true rfl⟩ dX10_look_3 ?_
  refine v_istore (lv' := [(5, .int (imin x3 x4)), (0, .ref h0), (1, .ref h1), (2, .int x2), (3, .int x3), (4, .int x4)]) C dX10_look_6 (by decide) rfl ?_
  refine v_aload_n C dX10_look_8 1 rfl ?_
  refine v_aload_n C dX10_look_9 2 rfl ?_
  refine v_get (ci := 8) C inT8 8 2 rfl rfl (by decide) mF_X10_84_X8_2 rfl dX10_look_10 ?_
  refine v_iload_n C dX10_look_13 3 rfl ?_
  refine v_iload C dX10_look_14 0 rfl ?_
  refine v_callVMv (st := []) (ci := 10) (qb := 0) C (kX10_gather h0 ((a1 2)) a0 a1_2 _ _ _ _ hw) mM_X10_90 mI_X10 mC_X10_gather mN_X10_gather mS_X10_gather rfl rfl hd_X10_gather ⟨Nat.le_of_ble_eq_true rfl, Nat.le_of_ble_eq_true rfl⟩ ⟨Nat.le_of_ble_eq_true rfl, Nat.le_of_ble_eq_true rfl⟩ [0, 2] [1, 3] (N0 := 4) rfl (by decide) (ms2 := (fun (U : Md × Md) => [wX10 E h0 a0 U.1, wX8 E h1 a1 u1, wX2 E (a1 2) a1_2 U.2, wX0 E (a1 4) a1_4 u1_4])) rfl (fun _ => rfl) (fun _ => rfl) (fun _ => rfl) rfl (Nat.le_of_ble_eq_true rfl) dX10_look_16 (fun U16 hw => ?_)
  obtain ⟨v16_0, v16_1⟩ := U16
  refine v_aload_n C dX10_look_19 1 rfl ?_
  refine v_callVMv (st := []) (ci := 10) (qb := 0) C (kX10_setShares h0 a0 _ hw) mM_X10_94 mI_X10 mC_X10_setShares mN_X10_setShares mS_X10_setShares rfl rfl hd_X10_setShares ⟨Nat.le_of_ble_eq_true rfl, Nat.le_of_ble_eq_true rfl⟩ ⟨Nat.le_of_ble_eq_true rfl, Nat.le_of_ble_eq_true rfl⟩ [0] [1, 2, 3] (N0 := 4) rfl (by decide) (ms2 := (fun (U : Md) => [wX10 E h0 a0 U, wX8 E h1 a1 u1, wX2 E (a1 2) a1_2 v16_1, wX0 E (a1 4) a1_4 u1_4])) rfl (fun _ => rfl) (fun _ => rfl) (fun _ => rfl) rfl (Nat.le_of_ble_eq_true rfl) dX10_look_20 (fun v20_0 hw => ?_)
  refine v_aload_n C dX10_look_23 1 rfl ?_
  refine v_get (ci := 10) C inT10 0 3 rfl rfl (by decide) mF_X10_23_X10_3 rfl dX10_look_24 ?_
  refine v_iconst (v := 5) C dX10_look_27 (by decide) ?_
  refine v_iload_n C dX10_look_28 4 rfl ?_
  obtain ⟨hi29, hw⟩ := hw
  obtain ⟨w29, e29⟩ : ∃ z : Md, z = tA v20_0 3 5 x3 := ⟨_, rfl⟩
  have hw := hw w29 e29
  refine v_iast (ws' := [wX10 E h0 a0 w29, wX8 E h1 a1 u1, wX2 E (a1 2) a1_2 v16_1, wX0 E (a1 4) a1_4 u1_4].flatten) C 4 rfl hi29 (by rw [e29]; rfl) dX10_look_29 ?_
  refine v_aload_n C dX10_look_30 2 rfl ?_
  refine v_get (ci := 8) C inT8 8 4 rfl rfl (by decide) mF_X10_97_X8_4 rfl dX10_look_31 ?_
  refine v_iload C dX10_look_34 0 rfl ?_
  refine v_callVMi (st := []) (ci := 0) (qb := 19) C (kX0_inForce ((a1 4)) a1_4 _ _ hw) mM_X10_101 mI_X0 mC_X0_inForce mN_X0_inForce mS_X0_inForce rfl rfl hd_X0_inForce ⟨Nat.le_of_ble_eq_true rfl, Nat.le_of_ble_eq_true rfl⟩ ⟨Nat.le_of_ble_eq_true rfl, Nat.le_of_ble_eq_true rfl⟩ [3] [0, 1, 2] (N0 := 4) rfl (by decide) (ms2 := (fun (U : Md) => [wX10 E h0 a0 w29, wX8 E h1 a1 u1, wX2 E (a1 2) a1_2 v16_1, wX0 E (a1 4) a1_4 U])) rfl (fun _ => rfl) (fun _ => rfl) (fun _ => rfl) rfl (Nat.le_of_ble_eq_true rfl) dX10_look_36 (fun r36 v36_0 hw => ?_)
  refine v_istore (lv' := [(6, .int r36), (5, .int (imin x3 x4)), (0, .ref h0), (1, .ref h1), (2, .int x2), (3, .int x3), (4, .int x4)]) C dX10_look_39 (by decide) rfl ?_
  refine v_aload_n C dX10_look_41 2 rfl ?_
  refine v_aload_n C dX10_look_42 2 rfl ?_
  refine v_aload_n C dX10_look_43 3 rfl ?_
  refine v_get (ci := 8) C inT8 8 4 rfl rfl (by decide) mF_X10_97_X8_4 rfl dX10_look_44 ?_
  refine v_iload C dX10_look_47 0 rfl ?_
  refine v_callVMi (st := [.ref h0]) (ci := 10) (qb := 0) C (kX10_firstBy h0 ((a1 4)) a0 a1_4 _ _ _ hw) mM_X10_105 mI_X10 mC_X10_firstBy mN_X10_firstBy mS_X10_firstBy rfl rfl hd_X10_firstBy ⟨Nat.le_of_ble_eq_true rfl, Nat.le_of_ble_eq_true rfl⟩ ⟨Nat.le_of_ble_eq_true rfl, Nat.le_of_ble_eq_true rfl⟩ [0, 3] [1, 2] (N0 := 4) rfl (by decide) (ms2 := (fun (U : Md × Md) => [wX10 E h0 a0 U.1, wX8 E h1 a1 u1, wX2 E (a1 2) a1_2 v16_1, wX0 E (a1 4) a1_4 U.2])) rfl (fun _ => rfl) (fun _ => rfl) (fun _ => rfl) rfl (Nat.le_of_ble_eq_true rfl) dX10_look_49 (fun r49 U49 hw => ?_)
  obtain ⟨v49_0, v49_1⟩ := U49
  obtain ⟨w52, e52⟩ : ∃ z : Md, z = sF v49_0 4 r49 := ⟨_, rfl⟩
  have hw := hw w52 e52
  refine v_put (ci := 10) (ws' := [wX10 E h0 a0 w52, wX8 E h1 a1 u1, wX2 E (a1 2) a1_2 v16_1, wX0 E (a1 4) a1_4 v49_1].flatten) C tyX10 tyX10_ok nmX10 inT10 0 4 rfl rfl (by decide) mF_X10_109_X10_4 rfl rfl rfl rfl (Nat.le_of_ble_eq_true rfl) (by rw [e52]; rfl) dX10_look_52 ?_
  refine v_aload_n C dX10_look_55 2 rfl ?_
  refine v_iconst (v := (-1)) C dX10_look_56 (by decide) ?_
  obtain ⟨w57, e57⟩ : ∃ z : Md, z = sF w52 5 ((-1)) := ⟨_, rfl⟩
  have hw := hw w57 e57
  refine v_put (ci := 10) (ws' := [wX10 E h0 a0 w57, wX8 E h1 a1 u1, wX2 E (a1 2) a1_2 v16_1, wX0 E (a1 4) a1_4 v49_1].flatten) C tyX10 tyX10_ok nmX10 inT10 0 5 rfl rfl (by decide) mF_X10_112_X10_5 rfl rfl rfl rfl (Nat.le_of_ble_eq_true rfl) (by rw [e57]; rfl) dX10_look_57 ?_
  refine v_aload_n C dX10_look_60 3 rfl ?_
  refine v_get (ci := 8) C inT8 8 4 rfl rfl (by decide) mF_X10_97_X8_4 rfl dX10_look_61 ?_
  refine v_iload C dX10_look_64 0 rfl ?_
  refine v_iconst (v := 1) C dX10_look_66 (by decide) ?_
  refine v_aload_n C dX10_look_67 2 rfl ?_
  refine v_get (ci := 10) C inT10 0 3 rfl rfl (by decide) mF_X10_23_X10_3 rfl dX10_look_68 ?_
  refine v_callVi (st := []) (ci := 0) (qb := 19) (wr := ([0, 1, 2, 3, 5, 6, 7, 8, 9, 10, 11, 12, 13, 14, 15, 16, 17, 18] : List Nat).filterMap (fun i => ([wX10 E h0 a0 w57, wX8 E h1 a1 u1, wX2 E (a1 2) a1_2 v16_1, wX0 E (a1 4) a1_4 v49_1].flatten)[i]?)) C (kX0_firstHolding ((a1 4)) ((a0 3)) a1_4 _ _ _ _ _ hw) mM_X10_115 mI_X0 mC_X0_firstHolding mN_X0_firstHolding mS_X0_firstHolding rfl rfl hd_X0_firstHolding ⟨Nat.le_of_ble_eq_true rfl, Nat.le_of_ble_eq_true rfl⟩ ⟨Nat.le_of_ble_eq_true rfl, Nat.le_of_ble_eq_true rfl⟩ [19, 20, 21, 22, 23, 24, 25, 26, 27, 28, 29, 30, 4] [0, 1, 2, 3, 5, 6, 7, 8, 9, 10, 11, 12, 13, 14, 15, 16, 17, 18] rfl (by decide) rfl (by decide) (by decide) rfl (Nat.le_of_ble_eq_true rfl) dX10_look_71 (fun r71 U71 hw => ?_)
  obtain ⟨v71_0, v71_1⟩ := U71
  refine v_ws (ws' := [wX10 E h0 a0 (sA w57 3 v71_1), wX8 E h1 a1 u1, wX2 E (a1 2) a1_2 v16_1, wX0 E (a1 4) a1_4 v71_0].flatten) C [0, 1, 2, 3, 30, 4, 5, 6, 7, 8, 9, 10, 11, 12, 13, 14, 15, 16, 17, 18, 19, 20, 21, 22, 23, 24, 25, 26, 27, 28, 29] (by decide) rfl ?_
  refine v_iconst (v := (-1)) C dX10_look_74 (by decide) ?_
  refine v_icmp_eq (tgt := 108) C dX10_look_75 (by decide) (fun hc => ?_) (fun hc => ?_)
  · have hw := hw.1 hc
    exact hret _ _ _ _ (sA w57 3 v71_1, u1, v16_1, v71_0) dX10_look_108 hw (Nat.le_of_ble_eq_true rfl) (Nat.le_of_ble_eq_true rfl)
  · have hw := hw.2 hc
    refine v_aload_n C dX10_look_78 2 rfl ?_
    refine v_aload_n C dX10_look_79 2 rfl ?_
    refine v_get (v := .int (gF w57 4)) (ci := 10) C inT10 0 4 rfl rfl (by decide) mF_X10_109_X10_4 rfl dX10_look_80 ?_
    refine v_callVMi (st := []) (ci := 10) (qb := 0) C (kX10_mostPeople h0 a0 _ _ hw) mM_X10_119 mI_X10 mC_X10_mostPeople mN_X10_mostPeople mS_X10_mostPeople rfl rfl hd_X10_mostPeople ⟨Nat.le_of_ble_eq_true rfl, Nat.le_of_ble_eq_true rfl⟩ ⟨Nat.le_of_ble_eq_true rfl, Nat.le_of_ble_eq_true rfl⟩ [0] [1, 2, 3] (N0 := 4) rfl (by decide) (ms2 := (fun (U : Md) => [wX10 E h0 a0 U, wX8 E h1 a1 u1, wX2 E (a1 2) a1_2 v16_1, wX0 E (a1 4) a1_4 v71_0])) rfl (fun _ => rfl) (fun _ => rfl) (fun _ => rfl) rfl (Nat.le_of_ble_eq_true rfl) dX10_look_83 (fun r83 v83_0 hw => ?_)
    refine v_istore (lv' := [(7, .int r83), (6, .int r36), (5, .int (imin x3 x4)), (0, .ref h0), (1, .ref h1), (2, .int x2), (3, .int x3), (4, .int x4)]) C dX10_look_86 (by decide) rfl ?_
    refine v_aload_n C dX10_look_88 3 rfl ?_
    refine v_aload_n C dX10_look_89 3 rfl ?_
    refine v_get (ci := 10) C inT10 0 2 rfl rfl (by decide) mF_X10_18_X10_2 rfl dX10_look_90 ?_
    refine v_iload C dX10_look_93 0 rfl ?_
    obtain ⟨hi95, hw⟩ := hw
    refine v_iald C 3 rfl hi95 dX10_look_95 ?_
    refine v_if_le (tgt := 104) C dX10_look_96 (by decide) (fun hc => ?_) (fun hc => ?_)
    · have hw := hw.1 hc
      refine v_iconst (v := (-1)) C dX10_look_104 (by decide) ?_
      obtain ⟨w105, e105⟩ : ∃ z : Md, z = sF v83_0 5 ((-1)) := ⟨_, rfl⟩
      have hw := hw w105 e105
      refine v_put (ci := 10) (ws' := [wX10 E h0 a0 w105, wX8 E h1 a1 u1, wX2 E (a1 2) a1_2 v16_1, wX0 E (a1 4) a1_4 v71_0].flatten) C tyX10 tyX10_ok nmX10 inT10 0 5 rfl rfl (by decide) mF_X10_112_X10_5 rfl rfl rfl rfl (Nat.le_of_ble_eq_true rfl) (by rw [e105]; rfl) dX10_look_105 ?_
      exact hret _ _ _ _ (w105, u1, v16_1, v71_0) dX10_look_108 hw (Nat.le_of_ble_eq_true rfl) (Nat.le_of_ble_eq_true rfl)
    · have hw := hw.2 hc
      refine v_iload C dX10_look_99 0 rfl ?_
      refine v_goto (tgt := 105) C dX10_look_101 (by decide) ?_
      obtain ⟨w105, e105⟩ : ∃ z : Md, z = sF v83_0 5 r83 := ⟨_, rfl⟩
      have hw := hw w105 e105
      refine v_put (ci := 10) (ws' := [wX10 E h0 a0 w105, wX8 E h1 a1 u1, wX2 E (a1 2) a1_2 v16_1, wX0 E (a1 4) a1_4 v71_0].flatten) C tyX10 tyX10_ok nmX10 inT10 0 5 rfl rfl (by decide) mF_X10_112_X10_5 rfl rfl rfl rfl (Nat.le_of_ble_eq_true rfl) (by rw [e105]; rfl) dX10_look_105 ?_
      exact hret _ _ _ _ (w105, u1, v16_1, v71_0) dX10_look_108 hw (Nat.le_of_ble_eq_true rfl) (Nat.le_of_ble_eq_true rfl)
set_option maxHeartbeats 4000000 in
set_option maxRecDepth 100000 in
theorem jX10_swungBy_45 {X : VX} {E : VE} {l : Launch} (h0 : Nat) (h1 : Nat) (a0 : Nat → Nat) (a1 : Nat → Nat)  (Q : Int32 → Md → Md → Prop) (C : VC X cX10_swungBy 7 RX10 (rmL 3 0 0) E l) (hret : RetI X cX10_swungBy .boolean 0 0 (fun (U : Md × Md) => [wX10 E h0 a0 U.1, wX0 E h1 a1 U.2].flatten) (fun (r : Int32) (U : Md × Md) => (r = 0 ∨ r = 1) ∧ Q r U.1 U.2))  : ∀ (u0 : Md) (u1 : Md) (y3 : Int32) (y4 : Int32) (y5 : Int32) (z0 : Int32), qX10_swungBy_45 Q u0 u1 y3 y4 y5 z0 → VV X 0 0 ([wX10 E h0 a0 u0, wX0 E h1 a1 u1].flatten) [(0, .ref h0), (3, .int y3), (4, .int y4), (5, .int y5)] 45 [.int z0] := by
  intro u0 u1 y3 y4 y5 z0 hw
  unfold qX10_swungBy_45 at hw
  refine v_istore (lv' := [(6, .int z0), (0, .ref h0), (3, .int y3), (4, .int y4), (5, .int y5)]) C dX10_swungBy_45 (by decide) rfl ?_
  refine v_aload_n C dX10_swungBy_47 1 rfl ?_
  refine v_get (ci := 10) C inT10 0 2 rfl rfl (by decide) mF_X10_18_X10_2 rfl dX10_swungBy_48 ?_
  refine v_iload_n C dX10_swungBy_51 2 rfl ?_
  refine v_dup2 C dX10_swungBy_52 rfl rfl ?_
  obtain ⟨hi53, hw⟩ := hw
  refine v_iald C 3 rfl hi53 dX10_swungBy_53 ?_
  refine v_iload C dX10_swungBy_54 4 rfl ?_
  refine v_iadd C dX10_swungBy_56 ?_
  obtain ⟨hi57, hw⟩ := hw
  obtain ⟨w57, e57⟩ : ∃ z : Md, z = tA u0 2 y3 ((gA u0 2 y3.toNatClampNeg) + y5) := ⟨_, rfl⟩
  have hw := hw w57 e57
  refine v_iast (ws' := [wX10 E h0 a0 w57, wX0 E h1 a1 u1].flatten) C 3 rfl hi57 (by rw [e57]; rfl) dX10_swungBy_57 ?_
  refine v_aload_n C dX10_swungBy_58 1 rfl ?_
  refine v_get (ci := 10) C inT10 0 2 rfl rfl (by decide) mF_X10_18_X10_2 rfl dX10_swungBy_59 ?_
  refine v_iload C dX10_swungBy_62 3 rfl ?_
  refine v_dup2 C dX10_swungBy_64 rfl rfl ?_
  obtain ⟨hi65, hw⟩ := hw
  refine v_iald C 3 rfl hi65 dX10_swungBy_65 ?_
  refine v_iload C dX10_swungBy_66 4 rfl ?_
  refine v_isub C dX10_swungBy_68 ?_
  obtain ⟨hi69, hw⟩ := hw
  obtain ⟨w69, e69⟩ : ∃ z : Md, z = tA w57 2 y4 ((gA w57 2 y4.toNatClampNeg) - y5) := ⟨_, rfl⟩
  have hw := hw w69 e69
  refine v_iast (ws' := [wX10 E h0 a0 w69, wX0 E h1 a1 u1].flatten) C 3 rfl hi69 (by rw [e69]; rfl) dX10_swungBy_69 ?_
  refine v_iload C dX10_swungBy_70 0 rfl ?_
  obtain ⟨h01, hw⟩ := hw
  exact hret _ _ _ _ z0 (w69, u1) dX10_swungBy_72 (nz01 h01) ⟨h01, hw⟩ (Nat.le_of_ble_eq_true rfl) (Nat.le_of_ble_eq_true rfl)
set_option maxHeartbeats 4000000 in
set_option maxRecDepth 100000 in
theorem kX10_swungBy {l : Launch} {E : VE} (h0 : Nat) (h1 : Nat) (a0 : Nat → Nat) (a1 : Nat → Nat) (u0 : Md) (u1 : Md) (x2 : Int32) (x3 : Int32) (x4 : Int32) (x5 : Int32) {Q : Int32 → Md → Md → Prop} (hw : qX10_swungBy u0 u1 x2 x3 x4 x5 Q) : MI l yX10_swungBy cX10_swungBy 7 .boolean 3 0 0 E [.ref h0, .ref h1, .int x2, .int x3, .int x4, .int x5] ([wX10 E h0 a0 u0, wX0 E h1 a1 u1].flatten) (fun (U : Md × Md) => [wX10 E h0 a0 U.1, wX0 E h1 a1 U.2].flatten) (fun (r : Int32) (U : Md × Md) => (r = 0 ∨ r = 1) ∧ Q r U.1 U.2) := by
  refine MI.of (own := RX10) (by decide) rfl (Nat.le_of_ble_eq_true rfl) ?_
  intro X C hini hret
  show VV X 0 0 ([wX10 E h0 a0 u0, wX0 E h1 a1 u1].flatten) [(0, .ref h0), (1, .ref h1), (2, .int x2), (3, .int x3), (4, .int x4), (5, .int x5)] 0 []
  unfold qX10_swungBy at hw
  refine v_aload_n C dX10_swungBy_0 0 rfl ?_
  refine v_get (ci := 10) C inT10 0 2 rfl rfl (by decide) mF_X10_18_X10_2 rfl dX10_swungBy_1 ?_
  refine v_iload_n C dX10_swungBy_4 3 rfl ?_
  refine v_dup2 C dX10_swungBy_5 rfl rfl ?_
  obtain ⟨hi6, hw⟩ := hw
  refine v_iald C 3 rfl hi6 dX10_swungBy_6 ?_
  refine v_iload C dX10_swungBy_7 5 rfl ?_
  refine v_isub C dX10_swungBy_9 ?_
  obtain ⟨hi10, hw⟩ := hw
  obtain ⟨w10, e10⟩ : ∃ z : Md, z = tA u0 2 x3 ((gA u0 2 x3.toNatClampNeg) - x5) := ⟨_, rfl⟩
  have hw := hw w10 e10
  refine v_iast (ws' := [wX10 E h0 a0 w10, wX0 E h1 a1 u1].flatten) C 3 rfl hi10 (by rw [e10]; rfl) dX10_swungBy_10 ?_
  refine v_aload_n C dX10_swungBy_11 0 rfl ?_
  refine v_get (ci := 10) C inT10 0 2 rfl rfl (by decide) mF_X10_18_X10_2 rfl dX10_swungBy_12 ?_
  refine v_iload C dX10_swungBy_15 4 rfl ?_
  refine v_dup2 C dX10_swungBy_17 rfl rfl ?_
  obtain ⟨hi18, hw⟩ := hw
  refine v_iald C 3 rfl hi18 dX10_swungBy_18 ?_
  refine v_iload C dX10_swungBy_19 5 rfl ?_
  refine v_iadd C dX10_swungBy_21 ?_
  obtain ⟨hi22, hw⟩ := hw
  obtain ⟨w22, e22⟩ : ∃ z : Md, z = tA w10 2 x4 ((gA w10 2 x4.toNatClampNeg) + x5) := ⟨_, rfl⟩
  have hw := hw w22 e22
  refine v_iast (ws' := [wX10 E h0 a0 w22, wX0 E h1 a1 u1].flatten) C 3 rfl hi22 (by rw [e22]; rfl) dX10_swungBy_22 ?_
  refine v_aload_n C dX10_swungBy_23 0 rfl ?_
  refine v_callVMv (st := []) (ci := 10) (qb := 0) C (kX10_setShares h0 a0 _ hw) mM_X10_94 mI_X10 mC_X10_setShares mN_X10_setShares mS_X10_setShares rfl rfl hd_X10_setShares ⟨Nat.le_of_ble_eq_true rfl, Nat.le_of_ble_eq_true rfl⟩ ⟨Nat.le_of_ble_eq_true rfl, Nat.le_of_ble_eq_true rfl⟩ [0] [1] (N0 := 2) rfl (by decide) (ms2 := (fun (U : Md) => [wX10 E h0 a0 U, wX0 E h1 a1 u1])) rfl (fun _ => rfl) (fun _ => rfl) (fun _ => rfl) rfl (Nat.le_of_ble_eq_true rfl) dX10_swungBy_24 (fun v24_0 hw => ?_)
  refine v_aload_n C dX10_swungBy_27 0 rfl ?_
  refine v_aload_n C dX10_swungBy_28 1 rfl ?_
  refine v_iload_n C dX10_swungBy_29 2 rfl ?_
  refine v_callFi (st := []) (ci := 10) (qb := 0) C (kX10_firstBy h0 h1 a0 a1 _ _ _ hw) mM_X10_105 mI_X10 mC_X10_firstBy mN_X10_firstBy mS_X10_firstBy rfl rfl hd_X10_firstBy ⟨Nat.le_of_ble_eq_true rfl, Nat.le_of_ble_eq_true rfl⟩ ⟨Nat.le_of_ble_eq_true rfl, Nat.le_of_ble_eq_true rfl⟩ rfl (Nat.le_of_ble_eq_true rfl) dX10_swungBy_30 (fun r30 U30 hw => ?_)
  obtain ⟨v30_0, v30_1⟩ := U30
  refine v_aload_n C dX10_swungBy_33 0 rfl ?_
  refine v_get (ci := 10) C inT10 0 4 rfl rfl (by decide) mF_X10_109_X10_4 rfl dX10_swungBy_34 ?_
  refine v_icmp_eq (tgt := 44) C dX10_swungBy_37 (by decide) (fun hc => ?_) (fun hc => ?_)
  · have hw := hw.1 hc
    refine v_iconst (v := 0) C dX10_swungBy_44 (by decide) ?_
    refine v_lv C (lv' := [(0, .ref h0), (3, .int x3), (4, .int x4), (5, .int x5)]) [0, 3, 4, 5] rfl ?_
    exact jX10_swungBy_45 h0 h1 a0 a1 Q C hret v30_0 v30_1 x3 x4 x5 0 hw
  · have hw := hw.2 hc
    refine v_iconst (v := 1) C dX10_swungBy_40 (by decide) ?_
    refine v_goto (tgt := 45) C dX10_swungBy_41 (by decide) ?_
    refine v_lv C (lv' := [(0, .ref h0), (3, .int x3), (4, .int x4), (5, .int x5)]) [0, 3, 4, 5] rfl ?_
    exact jX10_swungBy_45 h0 h1 a0 a1 Q C hret v30_0 v30_1 x3 x4 x5 1 hw
set_option maxHeartbeats 4000000 in
set_option maxRecDepth 100000 in
theorem jX10_swingsBy_12 {X : VX} {E : VE} {l : Launch} (h0 : Nat) (h1 : Nat) (a0 : Nat → Nat) (a1 : Nat → Nat)  (Q : Int32 → Md → Md → Prop) (C : VC X cX10_swingsBy 7 RX10 (rmL 4 0 0) E l) (hret : RetI X cX10_swingsBy .boolean 0 0 (fun (U : Md × Md) => [wX10 E h0 a0 U.1, wX0 E h1 a1 U.2].flatten) (fun (r : Int32) (U : Md × Md) => (r = 0 ∨ r = 1) ∧ Q r U.1 U.2)) (K3 : Md → Md → Int32 → Int32 → Int32 → Int32 → Prop) (hK3 : ∀ (u0 : Md) (u1 : Md) (y2 : Int32) (y3 : Int32) (y4 : Int32) (y5 : Int32), K3 u0 u1 y2 y3 y4 y5 → VV X 0 0 ([wX10 E h0 a0 u0, wX0 E h1 a1 u1].flatten) [(0, .ref h0), (1, .ref h1), (2, .int y2), (3, .int y3), (4, .int y4), (5, .int y5)] 3 []) : ∀ (n : Nat), ∀ (u0 : Md) (u1 : Md) (y2 : Int32) (y3 : Int32) (y4 : Int32) (y5 : Int32) (y6 : Int32), qX10_swingsBy_12 Q K3 n u0 u1 y2 y3 y4 y5 y6 → VV X 0 0 ([wX10 E h0 a0 u0, wX0 E h1 a1 u1].flatten) [(0, .ref h0), (1, .ref h1), (2, .int y2), (3, .int y3), (4, .int y4), (5, .int y5), (6, .int y6)] 12 [] := by
  intro n
  induction n with
  | zero =>
    intro u0 u1 y2 y3 y4 y5 y6 hw
    exact hw.elim
  | succ n ih =>
    intro u0 u1 y2 y3 y4 y5 y6 hw
    unfold qX10_swingsBy_12 at hw
    refine v_iload C dX10_swingsBy_12 6 rfl ?_
    refine v_iconst (v := 3) C dX10_swingsBy_14 (by decide) ?_
    refine v_icmp_ge (tgt := 62) C dX10_swingsBy_15 (by decide) (fun hc => ?_) (fun hc => ?_)
    · have hw := hw.1 hc
      refine v_iinc (lv' := [(5, .int (y5 + Int32.ofInt 1)), (0, .ref h0), (1, .ref h1), (2, .int y2), (3, .int y3), (4, .int y4), (6, .int y6)]) C dX10_swingsBy_62 5 rfl (by decide) rfl ?_
      refine v_goto (tgt := 3) C dX10_swingsBy_65 (by decide) ?_
      refine v_lv C (lv' := [(0, .ref h0), (1, .ref h1), (2, .int y2), (3, .int y3), (4, .int y4), (5, .int (y5 + Int32.ofInt 1))]) [1, 2, 3, 4, 5, 0] rfl ?_
      exact hK3 u0 u1 y2 y3 y4 (y5 + Int32.ofInt 1) hw
    · have hw := hw.2 hc
      refine v_aload_n C dX10_swingsBy_18 0 rfl ?_
      refine v_get (ci := 10) C inT10 0 1 rfl rfl (by decide) mF_X10_15_X10_1 rfl dX10_swingsBy_19 ?_
      refine v_iload_n C dX10_swingsBy_22 3 rfl ?_
      refine v_iload C dX10_swingsBy_23 5 rfl ?_
      refine v_iadd C dX10_swingsBy_25 ?_
      obtain ⟨hi26, hw⟩ := hw
      refine v_iald C 2 rfl hi26 dX10_swingsBy_26 ?_
      refine v_iload C dX10_swingsBy_27 4 rfl ?_
      refine v_icmp_lt (tgt := 62) C dX10_swingsBy_29 (by decide) (fun hc => ?_) (fun hc => ?_)
      · have hw := hw.1 hc
        refine v_iinc (lv' := [(5, .int (y5 + Int32.ofInt 1)), (0, .ref h0), (1, .ref h1), (2, .int y2), (3, .int y3), (4, .int y4), (6, .int y6)]) C dX10_swingsBy_62 5 rfl (by decide) rfl ?_
        refine v_goto (tgt := 3) C dX10_swingsBy_65 (by decide) ?_
        refine v_lv C (lv' := [(0, .ref h0), (1, .ref h1), (2, .int y2), (3, .int y3), (4, .int y4), (5, .int (y5 + Int32.ofInt 1))]) [1, 2, 3, 4, 5, 0] rfl ?_
        exact hK3 u0 u1 y2 y3 y4 (y5 + Int32.ofInt 1) hw
      · have hw := hw.2 hc
        refine v_iload C dX10_swingsBy_32 5 rfl ?_
        refine v_iload C dX10_swingsBy_34 6 rfl ?_
        refine v_icmp_eq (tgt := 56) C dX10_swingsBy_36 (by decide) (fun hc => ?_) (fun hc => ?_)
        · have hw := hw.1 hc
          refine v_iinc (lv' := [(6, .int (y6 + Int32.ofInt 1)), (0, .ref h0), (1, .ref h1), (2, .int y2), (3, .int y3), (4, .int y4), (5, .int y5)]) C dX10_swingsBy_56 6 rfl (by decide) rfl ?_
          refine v_goto (tgt := 12) C dX10_swingsBy_59 (by decide) ?_
          refine v_lv C (lv' := [(0, .ref h0), (1, .ref h1), (2, .int y2), (3, .int y3), (4, .int y4), (5, .int y5), (6, .int (y6 + Int32.ofInt 1))]) [1, 2, 3, 4, 5, 6, 0] rfl ?_
          exact ih u0 u1 y2 y3 y4 y5 (y6 + Int32.ofInt 1) hw
        · have hw := hw.2 hc
          refine v_aload_n C dX10_swingsBy_39 0 rfl ?_
          refine v_aload_n C dX10_swingsBy_40 1 rfl ?_
          refine v_iload_n C dX10_swingsBy_41 2 rfl ?_
          refine v_iload C dX10_swingsBy_42 5 rfl ?_
          refine v_iload C dX10_swingsBy_44 6 rfl ?_
          refine v_iload C dX10_swingsBy_46 4 rfl ?_
          refine v_callFi (st := []) (ci := 10) (qb := 0) C (kX10_swungBy h0 h1 a0 a1 _ _ _ _ _ _ hw) mM_X10_139 mI_X10 mC_X10_swungBy mN_X10_swungBy mS_X10_swungBy rfl rfl hd_X10_swungBy ⟨Nat.le_of_ble_eq_true rfl, Nat.le_of_ble_eq_true rfl⟩ ⟨Nat.le_of_ble_eq_true rfl, Nat.le_of_ble_eq_true rfl⟩ rfl (Nat.le_of_ble_eq_true rfl) dX10_swingsBy_48 (fun r48 U48 hw => ?_)
          obtain ⟨v48_0, v48_1⟩ := U48
          obtain ⟨h01_48, hw⟩ := hw
          have hw := hw h01_48
          refine v_if_eq (tgt := 56) C dX10_swingsBy_51 (by decide) (fun hc => ?_) (fun hc => ?_)
          · have hw := hw.1 hc
            refine v_iinc (lv' := [(6, .int (y6 + Int32.ofInt 1)), (0, .ref h0), (1, .ref h1), (2, .int y2), (3, .int y3), (4, .int y4), (5, .int y5)]) C dX10_swingsBy_56 6 rfl (by decide) rfl ?_
            refine v_goto (tgt := 12) C dX10_swingsBy_59 (by decide) ?_
            refine v_lv C (lv' := [(0, .ref h0), (1, .ref h1), (2, .int y2), (3, .int y3), (4, .int y4), (5, .int y5), (6, .int (y6 + Int32.ofInt 1))]) [1, 2, 3, 4, 5, 6, 0] rfl ?_
            exact ih v48_0 v48_1 y2 y3 y4 y5 (y6 + Int32.ofInt 1) hw
          · have hw := hw.2 hc
            refine v_iconst (v := 1) C dX10_swingsBy_54 (by decide) ?_
            exact hret _ _ _ _ 1 (v48_0, v48_1) dX10_swingsBy_55 rfl ⟨Or.inr rfl, hw⟩ (Nat.le_of_ble_eq_true rfl) (Nat.le_of_ble_eq_true rfl)
set_option maxHeartbeats 4000000 in
set_option maxRecDepth 100000 in
theorem jX10_swingsBy_3 {X : VX} {E : VE} {l : Launch} (h0 : Nat) (h1 : Nat) (a0 : Nat → Nat) (a1 : Nat → Nat)  (Q : Int32 → Md → Md → Prop) (C : VC X cX10_swingsBy 7 RX10 (rmL 4 0 0) E l) (hret : RetI X cX10_swingsBy .boolean 0 0 (fun (U : Md × Md) => [wX10 E h0 a0 U.1, wX0 E h1 a1 U.2].flatten) (fun (r : Int32) (U : Md × Md) => (r = 0 ∨ r = 1) ∧ Q r U.1 U.2))  : ∀ (n : Nat), ∀ (u0 : Md) (u1 : Md) (y2 : Int32) (y3 : Int32) (y4 : Int32) (y5 : Int32), qX10_swingsBy_3 Q n u0 u1 y2 y3 y4 y5 → VV X 0 0 ([wX10 E h0 a0 u0, wX0 E h1 a1 u1].flatten) [(0, .ref h0), (1, .ref h1), (2, .int y2), (3, .int y3), (4, .int y4), (5, .int y5)] 3 [] := by
  intro n
  induction n with
  | zero =>
    intro u0 u1 y2 y3 y4 y5 hw
    exact hw.elim
  | succ n ih =>
    intro u0 u1 y2 y3 y4 y5 hw
    unfold qX10_swingsBy_3 at hw
    refine v_iload C dX10_swingsBy_3 5 rfl ?_
    refine v_iconst (v := 3) C dX10_swingsBy_5 (by decide) ?_
    refine v_icmp_ge (tgt := 68) C dX10_swingsBy_6 (by decide) (fun hc => ?_) (fun hc => ?_)
    · have hw := hw.1 hc
      refine v_iconst (v := 0) C dX10_swingsBy_68 (by decide) ?_
      exact hret _ _ _ _ 0 (u0, u1) dX10_swingsBy_69 rfl ⟨Or.inl rfl, hw⟩ (Nat.le_of_ble_eq_true rfl) (Nat.le_of_ble_eq_true rfl)
    · have hw := hw.2 hc
      refine v_iconst (v := 0) C dX10_swingsBy_9 (by decide) ?_
      refine v_istore (lv' := [(6, .int 0), (0, .ref h0), (1, .ref h1), (2, .int y2), (3, .int y3), (4, .int y4), (5, .int y5)]) C dX10_swingsBy_10 (by decide) rfl ?_
      refine v_lv C (lv' := [(0, .ref h0), (1, .ref h1), (2, .int y2), (3, .int y3), (4, .int y4), (5, .int y5), (6, .int 0)]) [1, 2, 3, 4, 5, 6, 0] rfl ?_
      obtain ⟨n', hw⟩ := hw
      exact jX10_swingsBy_12 h0 h1 a0 a1 Q C hret (qX10_swingsBy_3 Q n) ih n' u0 u1 y2 y3 y4 y5 0 hw
set_option maxHeartbeats 4000000 in
set_option maxRecDepth 100000 in
theorem kX10_swingsBy {l : Launch} {E : VE} (h0 : Nat) (h1 : Nat) (a0 : Nat → Nat) (a1 : Nat → Nat) (u0 : Md) (u1 : Md) (x2 : Int32) (x3 : Int32) (x4 : Int32) {Q : Int32 → Md → Md → Prop} (hw : qX10_swingsBy u0 u1 x2 x3 x4 Q) : MI l yX10_swingsBy cX10_swingsBy 7 .boolean 4 0 0 E [.ref h0, .ref h1, .int x2, .int x3, .int x4] ([wX10 E h0 a0 u0, wX0 E h1 a1 u1].flatten) (fun (U : Md × Md) => [wX10 E h0 a0 U.1, wX0 E h1 a1 U.2].flatten) (fun (r : Int32) (U : Md × Md) => (r = 0 ∨ r = 1) ∧ Q r U.1 U.2) := by
  refine MI.of (own := RX10) (by decide) rfl (Nat.le_of_ble_eq_true rfl) ?_
  intro X C hini hret
  show VV X 0 0 ([wX10 E h0 a0 u0, wX0 E h1 a1 u1].flatten) [(0, .ref h0), (1, .ref h1), (2, .int x2), (3, .int x3), (4, .int x4)] 0 []
  unfold qX10_swingsBy at hw
  refine v_iconst (v := 0) C dX10_swingsBy_0 (by decide) ?_
  refine v_istore (lv' := [(5, .int 0), (0, .ref h0), (1, .ref h1), (2, .int x2), (3, .int x3), (4, .int x4)]) C dX10_swingsBy_1 (by decide) rfl ?_
  refine v_lv C (lv' := [(0, .ref h0), (1, .ref h1), (2, .int x2), (3, .int x3), (4, .int x4), (5, .int 0)]) [1, 2, 3, 4, 5, 0] rfl ?_
  obtain ⟨n', hw⟩ := hw
  exact jX10_swingsBy_3 h0 h1 a0 a1 Q C hret n' u0 u1 x2 x3 x4 0 hw
set_option maxHeartbeats 4000000 in
set_option maxRecDepth 100000 in
theorem jX10_fewestToSwing_67 {X : VX} {E : VE} {l : Launch} (h0 : Nat) (h1 : Nat) (a0 : Nat → Nat) (a1 : Nat → Nat) (a1_2 : Nat → Nat) (a1_4 : Nat → Nat)  (Q : Int32 → Md → Md → Md → Md → Prop) (C : VC X cX10_fewestToSwing 7 RX10 (rmL 5 0 0) E l) (hret : RetI X cX10_fewestToSwing .int 0 0 (fun (U : Md × Md × Md × Md) => [wX10 E h0 a0 U.1, wX8 E h1 a1 U.2.1, wX2 E (a1 2) a1_2 U.2.2.1, wX0 E (a1 4) a1_4 U.2.2.2].flatten) (fun (r : Int32) (U : Md × Md × Md × Md) => Q r U.1 U.2.1 U.2.2.1 U.2.2.2))  : ∀ (n : Nat), ∀ (u0 : Md) (u1 : Md) (u1_2 : Md) (u1_4 : Md) (y3 : Int32) (y4 : Int32) (y5 : Int32) (y6 : Int32), qX10_fewestToSwing_67 Q n u0 u1 u1_2 u1_4 y3 y4 y5 y6 → VV X 0 0 ([wX10 E h0 a0 u0, wX8 E h1 a1 u1, wX2 E (a1 2) a1_2 u1_2, wX0 E (a1 4) a1_4 u1_4].flatten) [(0, .ref h0), (1, .ref h1), (3, .int y3), (4, .int y4), (5, .int y5), (6, .int y6)] 67 [] := by
  intro n
  induction n with
  | zero =>
    intro u0 u1 u1_2 u1_4 y3 y4 y5 y6 hw
    exact hw.elim
  | succ n ih =>
    intro u0 u1 u1_2 u1_4 y3 y4 y5 y6 hw
    unfold qX10_fewestToSwing_67 at hw
    refine v_iload C dX10_fewestToSwing_67 5 rfl ?_
    refine v_iload C dX10_fewestToSwing_69 4 rfl ?_
    refine v_icmp_gt (tgt := 99) C dX10_fewestToSwing_71 (by decide) (fun hc => ?_) (fun hc => ?_)
    · have hw := hw.1 hc
      refine v_iconst (v := (-1)) C dX10_fewestToSwing_99 (by decide) ?_
      exact hret _ _ _ _ ((-1)) (u0, u1, u1_2, u1_4) dX10_fewestToSwing_100 rfl hw (Nat.le_of_ble_eq_true rfl) (Nat.le_of_ble_eq_true rfl)
    · have hw := hw.2 hc
      refine v_aload_n C dX10_fewestToSwing_74 0 rfl ?_
      refine v_aload_n C dX10_fewestToSwing_75 1 rfl ?_
      refine v_get (ci := 8) C inT8 8 4 rfl rfl (by decide) mF_X10_97_X8_4 rfl dX10_fewestToSwing_76 ?_
      refine v_iload_n C dX10_fewestToSwing_79 2 rfl ?_
      refine v_iload C dX10_fewestToSwing_80 3 rfl ?_
      refine v_iload C dX10_fewestToSwing_82 5 rfl ?_
      refine v_callVMi (st := []) (ci := 10) (qb := 0) C (kX10_swingsBy h0 ((a1 4)) a0 a1_4 _ _ _ _ _ hw) mM_X10_135 mI_X10 mC_X10_swingsBy mN_X10_swingsBy mS_X10_swingsBy rfl rfl hd_X10_swingsBy ⟨Nat.le_of_ble_eq_true rfl, Nat.le_of_ble_eq_true rfl⟩ ⟨Nat.le_of_ble_eq_true rfl, Nat.le_of_ble_eq_true rfl⟩ [0, 3] [1, 2] (N0 := 4) rfl (by decide) (ms2 := (fun (U : Md × Md) => [wX10 E h0 a0 U.1, wX8 E h1 a1 u1, wX2 E (a1 2) a1_2 u1_2, wX0 E (a1 4) a1_4 U.2])) rfl (fun _ => rfl) (fun _ => rfl) (fun _ => rfl) rfl (Nat.le_of_ble_eq_true rfl) dX10_fewestToSwing_84 (fun r84 U84 hw => ?_)
      obtain ⟨v84_0, v84_1⟩ := U84
      obtain ⟨h01_84, hw⟩ := hw
      have hw := hw h01_84
      refine v_if_eq (tgt := 93) C dX10_fewestToSwing_87 (by decide) (fun hc => ?_) (fun hc => ?_)
      · have hw := hw.1 hc
        refine v_iinc (lv' := [(6, .int (y6 + Int32.ofInt 1)), (0, .ref h0), (1, .ref h1), (3, .int y3), (4, .int y4), (5, .int y5)]) C dX10_fewestToSwing_93 5 rfl (by decide) rfl ?_
        refine v_goto (tgt := 67) C dX10_fewestToSwing_96 (by decide) ?_
        refine v_lv C (lv' := [(0, .ref h0), (1, .ref h1), (3, .int y3), (4, .int y4), (5, .int y5), (6, .int (y6 + Int32.ofInt 1))]) [1, 2, 3, 4, 5, 0] rfl ?_
        exact ih v84_0 u1 u1_2 v84_1 y3 y4 y5 (y6 + Int32.ofInt 1) hw
      · have hw := hw.2 hc
        refine v_iload C dX10_fewestToSwing_90 5 rfl ?_
        exact hret _ _ _ _ y6 (v84_0, u1, u1_2, v84_1) dX10_fewestToSwing_92 rfl hw (Nat.le_of_ble_eq_true rfl) (Nat.le_of_ble_eq_true rfl)
set_option maxHeartbeats 4000000 in
set_option maxRecDepth 100000 in
theorem kX10_fewestToSwing {l : Launch} {E : VE} (h0 : Nat) (h1 : Nat) (a0 : Nat → Nat) (a1 : Nat → Nat) (a1_2 : Nat → Nat) (a1_4 : Nat → Nat) (u0 : Md) (u1 : Md) (u1_2 : Md) (u1_4 : Md) (x2 : Int32) {Q : Int32 → Md → Md → Md → Md → Prop} (hw : qX10_fewestToSwing u0 u1 u1_2 u1_4 x2 Q) : MI l yX10_fewestToSwing cX10_fewestToSwing 7 .int 5 0 0 E [.ref h0, .ref h1, .int x2] ([wX10 E h0 a0 u0, wX8 E h1 a1 u1, wX2 E (a1 2) a1_2 u1_2, wX0 E (a1 4) a1_4 u1_4].flatten) (fun (U : Md × Md × Md × Md) => [wX10 E h0 a0 U.1, wX8 E h1 a1 U.2.1, wX2 E (a1 2) a1_2 U.2.2.1, wX0 E (a1 4) a1_4 U.2.2.2].flatten) (fun (r : Int32) (U : Md × Md × Md × Md) => Q r U.1 U.2.1 U.2.2.1 U.2.2.2) := by
  refine MI.of (own := RX10) (by decide) rfl (Nat.le_of_ble_eq_true rfl) ?_
  intro X C hini hret
  show VV X 0 0 ([wX10 E h0 a0 u0, wX8 E h1 a1 u1, wX2 E (a1 2) a1_2 u1_2, wX0 E (a1 4) a1_4 u1_4].flatten) [(0, .ref h0), (1, .ref h1), (2, .int x2)] 0 []
  unfold qX10_fewestToSwing at hw
  refine v_aload_n C dX10_fewestToSwing_0 0 rfl ?_
  refine v_aload_n C dX10_fewestToSwing_1 1 rfl ?_
  refine v_iload_n C dX10_fewestToSwing_2 2 rfl ?_
  refine v_aload_n C dX10_fewestToSwing_3 1 rfl ?_
  refine v_get (ci := 8) C inT8 8 0 rfl rfl (by decide) mF_X10_125_X8_0 rfl dX10_fewestToSwing_4 ?_
  refine v_aload_n C dX10_fewestToSwing_7 1 rfl ?_
  refine v_get (ci := 8) C inT8 8 0 rfl rfl (by decide) mF_X10_125_X8_0 rfl dX10_fewestToSwing_8 ?_
  refine v_callFv (st := []) (ci := 10) (qb := 0) C (kX10_look h0 h1 a0 a1 a1_2 a1_4 _ _ _ _ _ _ _ hw) mM_X10_128 mI_X10 mC_X10_look mN_X10_look mS_X10_look rfl rfl hd_X10_look ⟨Nat.le_of_ble_eq_true rfl, Nat.le_of_ble_eq_true rfl⟩ ⟨Nat.le_of_ble_eq_true rfl, Nat.le_of_ble_eq_true rfl⟩ rfl (Nat.le_of_ble_eq_true rfl) dX10_fewestToSwing_11 (fun U11 hw => ?_)
  obtain ⟨v11_0, v11_1, v11_2, v11_3⟩ := U11
  refine v_aload_n C dX10_fewestToSwing_14 1 rfl ?_
  refine v_get (ci := 8) C inT8 8 4 rfl rfl (by decide) mF_X10_97_X8_4 rfl dX10_fewestToSwing_15 ?_
  refine v_aload_n C dX10_fewestToSwing_18 1 rfl ?_
  refine v_get (ci := 8) C inT8 8 0 rfl rfl (by decide) mF_X10_125_X8_0 rfl dX10_fewestToSwing_19 ?_
  refine v_callVMi (st := []) (ci := 0) (qb := 19) C (kX0_inForce ((a1 4)) a1_4 _ _ hw) mM_X10_101 mI_X0 mC_X0_inForce mN_X0_inForce mS_X0_inForce rfl rfl hd_X0_inForce ⟨Nat.le_of_ble_eq_true rfl, Nat.le_of_ble_eq_true rfl⟩ ⟨Nat.le_of_ble_eq_true rfl, Nat.le_of_ble_eq_true rfl⟩ [3] [0, 1, 2] (N0 := 4) rfl (by decide) (ms2 := (fun (U : Md) => [wX10 E h0 a0 v11_0, wX8 E h1 a1 v11_1, wX2 E (a1 2) a1_2 v11_2, wX0 E (a1 4) a1_4 U])) rfl (fun _ => rfl) (fun _ => rfl) (fun _ => rfl) rfl (Nat.le_of_ble_eq_true rfl) dX10_fewestToSwing_22 (fun r22 v22_0 hw => ?_)
  refine v_istore_n (lv' := [(3, .int r22), (0, .ref h0), (1, .ref h1), (2, .int x2)]) C dX10_fewestToSwing_25 (by decide) rfl ?_
  refine v_iload_n C dX10_fewestToSwing_26 3 rfl ?_
  refine v_iconst (v := 3) C dX10_fewestToSwing_27 (by decide) ?_
  refine v_imul C dX10_fewestToSwing_28 ?_
  refine v_istore (lv' := [(4, .int (x2 * 3)), (3, .int r22), (0, .ref h0), (1, .ref h1), (2, .int x2)]) C dX10_fewestToSwing_29 (by decide) rfl ?_
  refine v_aload_n C dX10_fewestToSwing_31 2 rfl ?_
  refine v_get (ci := 10) C inT10 0 1 rfl rfl (by decide) mF_X10_15_X10_1 rfl dX10_fewestToSwing_32 ?_
  refine v_iload C dX10_fewestToSwing_35 0 rfl ?_
  obtain ⟨hi37, hw⟩ := hw
  refine v_iald C 2 rfl hi37 dX10_fewestToSwing_37 ?_
  refine v_aload_n C dX10_fewestToSwing_38 2 rfl ?_
  refine v_get (ci := 10) C inT10 0 1 rfl rfl (by decide) mF_X10_15_X10_1 rfl dX10_fewestToSwing_39 ?_
  refine v_iload C dX10_fewestToSwing_42 0 rfl ?_
  refine v_iconst (v := 1) C dX10_fewestToSwing_44 (by decide) ?_
  refine v_iadd C dX10_fewestToSwing_45 ?_
  obtain ⟨hi46, hw⟩ := hw
  refine v_iald C 2 rfl hi46 dX10_fewestToSwing_46 ?_
  refine v_aload_n C dX10_fewestToSwing_47 2 rfl ?_
  refine v_get (ci := 10) C inT10 0 1 rfl rfl (by decide) mF_X10_15_X10_1 rfl dX10_fewestToSwing_48 ?_
  refine v_iload C dX10_fewestToSwing_51 0 rfl ?_
  refine v_iconst (v := 2) C dX10_fewestToSwing_53 (by decide) ?_
  refine v_iadd C dX10_fewestToSwing_54 ?_
  obtain ⟨hi55, hw⟩ := hw
  refine v_iald C 2 rfl hi55 dX10_fewestToSwing_55 ?_
  refine v_imax C mM_X10_132 ⟨Nat.le_of_ble_eq_true rfl, Nat.le_of_ble_eq_true rfl, Nat.le_of_ble_eq_true rfl, Nat.le_of_ble_eq_true rfl⟩ dX10_fewestToSwing_56 ?_
  refine v_imax C mM_X10_132 ⟨Nat.le_of_ble_eq_true rfl, Nat.le_of_ble_eq_true rfl, Nat.le_of_ble_eq_true rfl, Nat.le_of_ble_eq_true rfl⟩ dX10_fewestToSwing_59 ?_
  refine v_istore (lv' := [(5, .int (imax (gA v11_0 1 (x2 * 3).toNatClampNeg) (imax (gA v11_0 1 ((x2 * 3) + 1).toNatClampNeg) (gA v11_0 1 ((x2 * 3) + 2).toNatClampNeg)))), (4, .int (x2 * 3)), (3, .int r22), (0, .ref h0), (1, .ref h1), (2, .int x2)]) C dX10_fewestToSwing_62 (by decide) rfl ?_
  refine v_iconst (v := 1) C dX10_fewestToSwing_64 (by decide) ?_
  refine v_istore (lv' := [(6, .int 1), (5, .int (imax (gA v11_0 1 (x2 * 3).toNatClampNeg) (imax (gA v11_0 1 ((x2 * 3) + 1).toNatClampNeg) (gA v11_0 1 ((x2 * 3) + 2).toNatClampNeg)))), (4, .int (x2 * 3)), (3, .int r22), (0, .ref h0), (1, .ref h1), (2, .int x2)]) C dX10_fewestToSwing_65 (by decide) rfl ?_
  refine v_lv C (lv' := [(0, .ref h0), (1, .ref h1), (3, .int r22), (4, .int (x2 * 3)), (5, .int (imax (gA v11_0 1 (x2 * 3).toNatClampNeg) (imax (gA v11_0 1 ((x2 * 3) + 1).toNatClampNeg) (gA v11_0 1 ((x2 * 3) + 2).toNatClampNeg)))), (6, .int 1)]) [4, 5, 3, 2, 1, 0] rfl ?_
  obtain ⟨n', hw⟩ := hw
  exact jX10_fewestToSwing_67 h0 h1 a0 a1 a1_2 a1_4 Q C hret n' v11_0 v11_1 v11_2 v22_0 r22 (x2 * 3) (imax (gA v11_0 1 (x2 * 3).toNatClampNeg) (imax (gA v11_0 1 ((x2 * 3) + 1).toNatClampNeg) (gA v11_0 1 ((x2 * 3) + 2).toNatClampNeg))) 1 hw
set_option maxHeartbeats 4000000 in
set_option maxRecDepth 100000 in
theorem kX10_spellAside {l : Launch} {E : VE} (h0 : Nat) (h1 : Nat) (a0 : Nat → Nat) (a0_6 : Nat → Nat) (a1 : Nat → Nat) (u0 : Md) (u0_6 : Md) (u1 : Md) (x2 : Int32) (x3 : Int32) {Q : Md → Md → Md → Prop} (hw : qX10_spellAside u0 u0_6 u1 x2 x3 Q) : MV l yX10_spellAside cX10_spellAside 4 3 0 0 E [.ref h0, .ref h1, .int x2, .int x3] ([wX10 E h0 a0 u0, wX5 E (a0 6) a0_6 u0_6, wX7 E h1 a1 u1].flatten) (fun (U : Md × Md × Md) => [wX10 E h0 a0 U.1, wX5 E (a0 6) a0_6 U.2.1, wX7 E h1 a1 U.2.2].flatten) (fun (U : Md × Md × Md) => Q U.1 U.2.1 U.2.2) := by
  refine MV.of (own := RX10) (by decide) rfl (Nat.le_of_ble_eq_true rfl) ?_
  intro X C hini hret
  show VV X 0 0 ([wX10 E h0 a0 u0, wX5 E (a0 6) a0_6 u0_6, wX7 E h1 a1 u1].flatten) [(0, .ref h0), (1, .ref h1), (2, .int x2), (3, .int x3)] 0 []
  unfold qX10_spellAside at hw
  refine v_aload_n C dX10_spellAside_0 0 rfl ?_
  refine v_get (ci := 10) C inT10 0 6 rfl rfl (by decide) mF_X10_29_X10_6 rfl dX10_spellAside_1 ?_
  refine v_iconst (v := 0) C dX10_spellAside_4 (by decide) ?_
  obtain ⟨w5, e5⟩ : ∃ z : Md, z = sF u0_6 0 0 := ⟨_, rfl⟩
  have hw := hw w5 e5
  refine v_put (ci := 5) (ws' := [wX10 E h0 a0 u0, wX5 E (a0 6) a0_6 w5, wX7 E h1 a1 u1].flatten) C tyX5 tyX5_ok nmX5 inT5 8 0 rfl rfl (by decide) mF_X10_156_X5_0 rfl rfl rfl rfl (Nat.le_of_ble_eq_true rfl) (by rw [e5]; rfl) dX10_spellAside_5 ?_
  refine v_aload_n C dX10_spellAside_8 1 rfl ?_
  refine v_aload_n C dX10_spellAside_9 0 rfl ?_
  refine v_get (ci := 10) C inT10 0 6 rfl rfl (by decide) mF_X10_29_X10_6 rfl dX10_spellAside_10 ?_
  refine v_iload_n C dX10_spellAside_13 2 rfl ?_
  refine v_iload_n C dX10_spellAside_14 3 rfl ?_
  refine v_callVMv (st := []) (ci := 7) (qb := 11) C (kX7_spellInto h1 ((a0 6)) a1 a0_6 _ _ _ _ hw) mM_X10_157 mI_X7 mC_X7_spellInto mN_X7_spellInto mS_X7_spellInto rfl rfl hd_X7_spellInto ⟨Nat.le_of_ble_eq_true rfl, Nat.le_of_ble_eq_true rfl⟩ ⟨Nat.le_of_ble_eq_true rfl, Nat.le_of_ble_eq_true rfl⟩ [2, 1] [0] (N0 := 3) rfl (by decide) (ms2 := (fun (U : Md × Md) => [wX10 E h0 a0 u0, wX5 E (a0 6) a0_6 U.2, wX7 E h1 a1 U.1])) rfl (fun _ => rfl) (fun _ => rfl) (fun _ => rfl) rfl (Nat.le_of_ble_eq_true rfl) dX10_spellAside_15 (fun U15 hw => ?_)
  obtain ⟨v15_0, v15_1⟩ := U15
  refine v_aload_n C dX10_spellAside_18 0 rfl ?_
  refine v_get (ci := 10) C inT10 0 9 rfl rfl (by decide) mF_X10_41_X10_9 rfl dX10_spellAside_19 ?_
  refine v_iload_n C dX10_spellAside_22 2 rfl ?_
  refine v_aload_n C dX10_spellAside_23 0 rfl ?_
  refine v_get (ci := 10) C inT10 0 6 rfl rfl (by decide) mF_X10_29_X10_6 rfl dX10_spellAside_24 ?_
  refine v_get (ci := 5) C inT5 8 0 rfl rfl (by decide) mF_X10_156_X5_0 rfl dX10_spellAside_27 ?_
  refine v_bipush (v := 36) C dX10_spellAside_30 (by decide) ?_
  refine v_imin C mM_X10_78 ⟨Nat.le_of_ble_eq_true rfl, Nat.le_of_ble_eq_true rfl, Nat.le_of_ble_eq_true rfl, Nat.le_of_ble_eq_true rfl⟩ dX10_spellAside_32 ?_
  obtain ⟨hi35, hw⟩ := hw
  obtain ⟨w35, e35⟩ : ∃ z : Md, z = tA u0 9 x2 (imin (gF v15_1 0) 36) := ⟨_, rfl⟩
  have hw := hw w35 e35
  refine v_iast (ws' := [wX10 E h0 a0 w35, wX5 E (a0 6) a0_6 v15_1, wX7 E h1 a1 v15_0].flatten) C 6 rfl hi35 (by rw [e35]; rfl) dX10_spellAside_35 ?_
  refine v_aload_n C dX10_spellAside_36 0 rfl ?_
  refine v_get (ci := 10) C inT10 0 6 rfl rfl (by decide) mF_X10_29_X10_6 rfl dX10_spellAside_37 ?_
  refine v_get (ci := 5) C inT5 8 1 rfl rfl (by decide) mF_X10_161_X5_1 rfl dX10_spellAside_40 ?_
  refine v_iconst (v := 0) C dX10_spellAside_43 (by decide) ?_
  refine v_aload_n C dX10_spellAside_44 0 rfl ?_
  refine v_get (ci := 10) C inT10 0 10 rfl rfl (by decide) mF_X10_44_X10_10 rfl dX10_spellAside_45 ?_
  refine v_iload_n C dX10_spellAside_48 2 rfl ?_
  refine v_bipush (v := 36) C dX10_spellAside_49 (by decide) ?_
  refine v_imul C dX10_spellAside_51 ?_
  refine v_aload_n C dX10_spellAside_52 0 rfl ?_
  refine v_get (ci := 10) C inT10 0 9 rfl rfl (by decide) mF_X10_41_X10_9 rfl dX10_spellAside_53 ?_
  refine v_iload_n C dX10_spellAside_56 2 rfl ?_
  obtain ⟨hi57, hw⟩ := hw
  refine v_iald C 6 rfl hi57 dX10_spellAside_57 ?_
  obtain ⟨hi58, hw⟩ := hw
  obtain ⟨w58, e58⟩ : ∃ z : Md, z = sB w35 10 (va_cpy (gB v15_1 1) (gB w35 10) (0 : Int32).toNatClampNeg (x2 * 36).toNatClampNeg (gA w35 9 x2.toNatClampNeg).toNatClampNeg) := ⟨_, rfl⟩
  have hw := hw w58 e58
  refine v_copyb (ws' := [wX10 E h0 a0 w58, wX5 E (a0 6) a0_6 v15_1, wX7 E h1 a1 v15_0].flatten) C 9 7 rfl rfl mM_X10_164 hi58 ⟨Nat.le_of_ble_eq_true rfl, Nat.le_of_ble_eq_true rfl⟩ (by rw [e58]; rfl) dX10_spellAside_58 ?_
  exact hret _ _ _ _ (w58, v15_1, v15_0) dX10_spellAside_61 hw (Nat.le_of_ble_eq_true rfl) (Nat.le_of_ble_eq_true rfl)
set_option maxHeartbeats 4000000 in
set_option maxRecDepth 100000 in
theorem jX10_areSpelledAlike_22 {X : VX} {E : VE} {l : Launch} (h0 : Nat) (a0 : Nat → Nat)  (Q : Int32 → Md → Prop) (C : VC X cX10_areSpelledAlike 5 RX10 (rmL 0 0 0) E l) (hret : RetI X cX10_areSpelledAlike .boolean 0 0 (fun (U : Md) => [wX10 E h0 a0 U].flatten) (fun (r : Int32) (U : Md) => (r = 0 ∨ r = 1) ∧ Q r U))  : ∀ (n : Nat), ∀ (u0 : Md) (y1 : Int32) (y2 : Int32) (y3 : Int32) (y4 : Int32), qX10_areSpelledAlike_22 Q n u0 y1 y2 y3 y4 → VV X 0 0 ([wX10 E h0 a0 u0].flatten) [(0, .ref h0), (1, .int y1), (2, .int y2), (3, .int y3), (4, .int y4)] 22 [] := by
  intro n
  induction n with
  | zero =>
    intro u0 y1 y2 y3 y4 hw
    exact hw.elim
  | succ n ih =>
    intro u0 y1 y2 y3 y4 hw
    unfold qX10_areSpelledAlike_22 at hw
    refine v_iload C dX10_areSpelledAlike_22 4 rfl ?_
    refine v_iload_n C dX10_areSpelledAlike_24 3 rfl ?_
    refine v_icmp_ge (tgt := 63) C dX10_areSpelledAlike_25 (by decide) (fun hc => ?_) (fun hc => ?_)
    · have hw := hw.1 hc
      refine v_iconst (v := 1) C dX10_areSpelledAlike_63 (by decide) ?_
      exact hret _ _ _ _ 1 u0 dX10_areSpelledAlike_64 rfl ⟨Or.inr rfl, hw⟩ (Nat.le_of_ble_eq_true rfl) (Nat.le_of_ble_eq_true rfl)
    · have hw := hw.2 hc
      refine v_aload_n C dX10_areSpelledAlike_28 0 rfl ?_
      refine v_get (ci := 10) C inT10 0 10 rfl rfl (by decide) mF_X10_44_X10_10 rfl dX10_areSpelledAlike_29 ?_
      refine v_iload_n C dX10_areSpelledAlike_32 1 rfl ?_
      refine v_bipush (v := 36) C dX10_areSpelledAlike_33 (by decide) ?_
      refine v_imul C dX10_areSpelledAlike_35 ?_
      refine v_iload C dX10_areSpelledAlike_36 4 rfl ?_
      refine v_iadd C dX10_areSpelledAlike_38 ?_
      obtain ⟨hi39, hw⟩ := hw
      refine v_bald C 7 rfl hi39 dX10_areSpelledAlike_39 ?_
      refine v_aload_n C dX10_areSpelledAlike_40 0 rfl ?_
      refine v_get (ci := 10) C inT10 0 10 rfl rfl (by decide) mF_X10_44_X10_10 rfl dX10_areSpelledAlike_41 ?_
      refine v_iload_n C dX10_areSpelledAlike_44 2 rfl ?_
      refine v_bipush (v := 36) C dX10_areSpelledAlike_45 (by decide) ?_
      refine v_imul C dX10_areSpelledAlike_47 ?_
      refine v_iload C dX10_areSpelledAlike_48 4 rfl ?_
      refine v_iadd C dX10_areSpelledAlike_50 ?_
      obtain ⟨hi51, hw⟩ := hw
      refine v_bald C 7 rfl hi51 dX10_areSpelledAlike_51 ?_
      refine v_icmp_eq (tgt := 57) C dX10_areSpelledAlike_52 (by decide) (fun hc => ?_) (fun hc => ?_)
      · have hw := hw.1 hc
        refine v_iinc (lv' := [(4, .int (y4 + Int32.ofInt 1)), (0, .ref h0), (1, .int y1), (2, .int y2), (3, .int y3)]) C dX10_areSpelledAlike_57 4 rfl (by decide) rfl ?_
        refine v_goto (tgt := 22) C dX10_areSpelledAlike_60 (by decide) ?_
        refine v_lv C (lv' := [(0, .ref h0), (1, .int y1), (2, .int y2), (3, .int y3), (4, .int (y4 + Int32.ofInt 1))]) [1, 2, 3, 4, 0] rfl ?_
        exact ih u0 y1 y2 y3 (y4 + Int32.ofInt 1) hw
      · have hw := hw.2 hc
        refine v_iconst (v := 0) C dX10_areSpelledAlike_55 (by decide) ?_
        exact hret _ _ _ _ 0 u0 dX10_areSpelledAlike_56 rfl ⟨Or.inl rfl, hw⟩ (Nat.le_of_ble_eq_true rfl) (Nat.le_of_ble_eq_true rfl)
set_option maxHeartbeats 4000000 in
set_option maxRecDepth 100000 in
theorem kX10_areSpelledAlike {l : Launch} {E : VE} (h0 : Nat) (a0 : Nat → Nat) (u0 : Md) (x1 : Int32) (x2 : Int32) {Q : Int32 → Md → Prop} (hw : qX10_areSpelledAlike u0 x1 x2 Q) : MI l yX10_areSpelledAlike cX10_areSpelledAlike 5 .boolean 0 0 0 E [.ref h0, .int x1, .int x2] ([wX10 E h0 a0 u0].flatten) (fun (U : Md) => [wX10 E h0 a0 U].flatten) (fun (r : Int32) (U : Md) => (r = 0 ∨ r = 1) ∧ Q r U) := by
  refine MI.of (own := RX10) (by decide) rfl (Nat.le_of_ble_eq_true rfl) ?_
  intro X C hini hret
  show VV X 0 0 ([wX10 E h0 a0 u0].flatten) [(0, .ref h0), (1, .int x1), (2, .int x2)] 0 []
  unfold qX10_areSpelledAlike at hw
  refine v_aload_n C dX10_areSpelledAlike_0 0 rfl ?_
  refine v_get (ci := 10) C inT10 0 9 rfl rfl (by decide) mF_X10_41_X10_9 rfl dX10_areSpelledAlike_1 ?_
  refine v_iload_n C dX10_areSpelledAlike_4 1 rfl ?_
  obtain ⟨hi5, hw⟩ := hw
  refine v_iald C 6 rfl hi5 dX10_areSpelledAlike_5 ?_
  refine v_istore_n (lv' := [(3, .int (gA u0 9 x1.toNatClampNeg)), (0, .ref h0), (1, .int x1), (2, .int x2)]) C dX10_areSpelledAlike_6 (by decide) rfl ?_
  refine v_iload_n C dX10_areSpelledAlike_7 0 rfl ?_
  refine v_aload_n C dX10_areSpelledAlike_8 1 rfl ?_
  refine v_get (ci := 10) C inT10 0 9 rfl rfl (by decide) mF_X10_41_X10_9 rfl dX10_areSpelledAlike_9 ?_
  refine v_iload_n C dX10_areSpelledAlike_12 3 rfl ?_
  obtain ⟨hi13, hw⟩ := hw
  refine v_iald C 6 rfl hi13 dX10_areSpelledAlike_13 ?_
  refine v_icmp_eq (tgt := 19) C dX10_areSpelledAlike_14 (by decide) (fun hc => ?_) (fun hc => ?_)
  · have hw := hw.1 hc
    refine v_iconst (v := 0) C dX10_areSpelledAlike_19 (by decide) ?_
    refine v_istore (lv' := [(4, .int 0), (3, .int (gA u0 9 x1.toNatClampNeg)), (0, .ref h0), (1, .int x1), (2, .int x2)]) C dX10_areSpelledAlike_20 (by decide) rfl ?_
    refine v_lv C (lv' := [(0, .ref h0), (1, .int x1), (2, .int x2), (3, .int (gA u0 9 x1.toNatClampNeg)), (4, .int 0)]) [2, 3, 4, 1, 0] rfl ?_
    obtain ⟨n', hw⟩ := hw
    exact jX10_areSpelledAlike_22 h0 a0 Q C hret n' u0 x1 x2 (gA u0 9 x1.toNatClampNeg) 0 hw
  · have hw := hw.2 hc
    refine v_iconst (v := 0) C dX10_areSpelledAlike_17 (by decide) ?_
    exact hret _ _ _ _ 0 u0 dX10_areSpelledAlike_18 rfl ⟨Or.inl rfl, hw⟩ (Nat.le_of_ble_eq_true rfl) (Nat.le_of_ble_eq_true rfl)
set_option maxHeartbeats 4000000 in
set_option maxRecDepth 100000 in
theorem jX10_alikePairs_25 {X : VX} {E : VE} {l : Launch} (h0 : Nat) (h1 : Nat) (a0 : Nat → Nat) (a0_6 : Nat → Nat) (a1 : Nat → Nat)  (Q : Int32 → Md → Md → Md → Prop) (C : VC X cX10_alikePairs 6 RX10 (rmL 4 0 0) E l) (hret : RetI X cX10_alikePairs .int 0 0 (fun (U : Md × Md × Md) => [wX10 E h0 a0 U.1, wX5 E (a0 6) a0_6 U.2.1, wX7 E h1 a1 U.2.2].flatten) (fun (r : Int32) (U : Md × Md × Md) => Q r U.1 U.2.1 U.2.2)) (K5 : Md → Md → Md → Int32 → Int32 → Int32 → Prop) (hK5 : ∀ (u0 : Md) (u0_6 : Md) (u1 : Md) (y2 : Int32) (y3 : Int32) (y4 : Int32), K5 u0 u0_6 u1 y2 y3 y4 → VV X 0 0 ([wX10 E h0 a0 u0, wX5 E (a0 6) a0_6 u0_6, wX7 E h1 a1 u1].flatten) [(0, .ref h0), (1, .ref h1), (2, .int y2), (3, .int y3), (4, .int y4)] 5 []) : ∀ (n : Nat), ∀ (u0 : Md) (u0_6 : Md) (u1 : Md) (y2 : Int32) (y3 : Int32) (y4 : Int32) (y5 : Int32), qX10_alikePairs_25 Q K5 n u0 u0_6 u1 y2 y3 y4 y5 → VV X 0 0 ([wX10 E h0 a0 u0, wX5 E (a0 6) a0_6 u0_6, wX7 E h1 a1 u1].flatten) [(0, .ref h0), (1, .ref h1), (2, .int y2), (3, .int y3), (4, .int y4), (5, .int y5)] 25 [] := by
  intro n
  induction n with
  | zero =>
    intro u0 u0_6 u1 y2 y3 y4 y5 hw
    exact hw.elim
  | succ n ih =>
    intro u0 u0_6 u1 y2 y3 y4 y5 hw
    unfold qX10_alikePairs_25 at hw
    refine v_iload C dX10_alikePairs_25 5 rfl ?_
    refine v_iload C dX10_alikePairs_27 4 rfl ?_
    refine v_icmp_ge (tgt := 69) C dX10_alikePairs_29 (by decide) (fun hc => ?_) (fun hc => ?_)
    · have hw := hw.1 hc
      refine v_iinc (lv' := [(4, .int (y4 + Int32.ofInt 1)), (0, .ref h0), (1, .ref h1), (2, .int y2), (3, .int y3), (5, .int y5)]) C dX10_alikePairs_69 4 rfl (by decide) rfl ?_
      refine v_goto (tgt := 5) C dX10_alikePairs_72 (by decide) ?_
      refine v_lv C (lv' := [(0, .ref h0), (1, .ref h1), (2, .int y2), (3, .int y3), (4, .int (y4 + Int32.ofInt 1))]) [1, 2, 3, 4, 0] rfl ?_
      exact hK5 u0 u0_6 u1 y2 y3 (y4 + Int32.ofInt 1) hw
    · have hw := hw.2 hc
      refine v_aload_n C dX10_alikePairs_32 1 rfl ?_
      refine v_get (ci := 7) C inT7 11 1 rfl rfl (by decide) mF_X10_150_X7_1 rfl dX10_alikePairs_33 ?_
      refine v_iload C dX10_alikePairs_36 4 rfl ?_
      obtain ⟨hi38, hw⟩ := hw
      refine v_iald C 12 rfl hi38 dX10_alikePairs_38 ?_
      refine v_aload_n C dX10_alikePairs_39 1 rfl ?_
      refine v_get (ci := 7) C inT7 11 1 rfl rfl (by decide) mF_X10_150_X7_1 rfl dX10_alikePairs_40 ?_
      refine v_iload C dX10_alikePairs_43 5 rfl ?_
      obtain ⟨hi45, hw⟩ := hw
      refine v_iald C 12 rfl hi45 dX10_alikePairs_45 ?_
      refine v_icmp_eq (tgt := 63) C dX10_alikePairs_46 (by decide) (fun hc => ?_) (fun hc => ?_)
      · have hw := hw.1 hc
        refine v_iinc (lv' := [(5, .int (y5 + Int32.ofInt 1)), (0, .ref h0), (1, .ref h1), (2, .int y2), (3, .int y3), (4, .int y4)]) C dX10_alikePairs_63 5 rfl (by decide) rfl ?_
        refine v_goto (tgt := 25) C dX10_alikePairs_66 (by decide) ?_
        refine v_lv C (lv' := [(0, .ref h0), (1, .ref h1), (2, .int y2), (3, .int y3), (4, .int y4), (5, .int (y5 + Int32.ofInt 1))]) [1, 2, 3, 4, 5, 0] rfl ?_
        exact ih u0 u0_6 u1 y2 y3 y4 (y5 + Int32.ofInt 1) hw
      · have hw := hw.2 hc
        refine v_aload_n C dX10_alikePairs_49 0 rfl ?_
        refine v_iload C dX10_alikePairs_50 4 rfl ?_
        refine v_iload C dX10_alikePairs_52 5 rfl ?_
        refine v_callVMi (st := []) (ci := 10) (qb := 0) C (kX10_areSpelledAlike h0 a0 _ _ _ hw) mM_X10_153 mI_X10 mC_X10_areSpelledAlike mN_X10_areSpelledAlike mS_X10_areSpelledAlike rfl rfl hd_X10_areSpelledAlike ⟨Nat.le_of_ble_eq_true rfl, Nat.le_of_ble_eq_true rfl⟩ ⟨Nat.le_of_ble_eq_true rfl, Nat.le_of_ble_eq_true rfl⟩ [0] [1, 2] (N0 := 3) rfl (by decide) (ms2 := (fun (U : Md) => [wX10 E h0 a0 U, wX5 E (a0 6) a0_6 u0_6, wX7 E h1 a1 u1])) rfl (fun _ => rfl) (fun _ => rfl) (fun _ => rfl) rfl (Nat.le_of_ble_eq_true rfl) dX10_alikePairs_54 (fun r54 v54_0 hw => ?_)
        obtain ⟨h01_54, hw⟩ := hw
        have hw := hw h01_54
        refine v_if_eq (tgt := 63) C dX10_alikePairs_57 (by decide) (fun hc => ?_) (fun hc => ?_)
        · have hw := hw.1 hc
          refine v_iinc (lv' := [(5, .int (y5 + Int32.ofInt 1)), (0, .ref h0), (1, .ref h1), (2, .int y2), (3, .int y3), (4, .int y4)]) C dX10_alikePairs_63 5 rfl (by decide) rfl ?_
          refine v_goto (tgt := 25) C dX10_alikePairs_66 (by decide) ?_
          refine v_lv C (lv' := [(0, .ref h0), (1, .ref h1), (2, .int y2), (3, .int y3), (4, .int y4), (5, .int (y5 + Int32.ofInt 1))]) [1, 2, 3, 4, 5, 0] rfl ?_
          exact ih v54_0 u0_6 u1 y2 y3 y4 (y5 + Int32.ofInt 1) hw
        · have hw := hw.2 hc
          refine v_iinc (lv' := [(3, .int (y3 + Int32.ofInt 1)), (0, .ref h0), (1, .ref h1), (2, .int y2), (4, .int y4), (5, .int y5)]) C dX10_alikePairs_60 3 rfl (by decide) rfl ?_
          refine v_iinc (lv' := [(5, .int (y5 + Int32.ofInt 1)), (3, .int (y3 + Int32.ofInt 1)), (0, .ref h0), (1, .ref h1), (2, .int y2), (4, .int y4)]) C dX10_alikePairs_63 5 rfl (by decide) rfl ?_
          refine v_goto (tgt := 25) C dX10_alikePairs_66 (by decide) ?_
          refine v_lv C (lv' := [(0, .ref h0), (1, .ref h1), (2, .int y2), (3, .int (y3 + Int32.ofInt 1)), (4, .int y4), (5, .int (y5 + Int32.ofInt 1))]) [2, 3, 4, 1, 5, 0] rfl ?_
          exact ih v54_0 u0_6 u1 y2 (y3 + Int32.ofInt 1) y4 (y5 + Int32.ofInt 1) hw
set_option maxHeartbeats 4000000 in
set_option maxRecDepth 100000 in
theorem jX10_alikePairs_5 {X : VX} {E : VE} {l : Launch} (h0 : Nat) (h1 : Nat) (a0 : Nat → Nat) (a0_6 : Nat → Nat) (a1 : Nat → Nat)  (Q : Int32 → Md → Md → Md → Prop) (C : VC X cX10_alikePairs 6 RX10 (rmL 4 0 0) E l) (hret : RetI X cX10_alikePairs .int 0 0 (fun (U : Md × Md × Md) => [wX10 E h0 a0 U.1, wX5 E (a0 6) a0_6 U.2.1, wX7 E h1 a1 U.2.2].flatten) (fun (r : Int32) (U : Md × Md × Md) => Q r U.1 U.2.1 U.2.2))  : ∀ (n : Nat), ∀ (u0 : Md) (u0_6 : Md) (u1 : Md) (y2 : Int32) (y3 : Int32) (y4 : Int32), qX10_alikePairs_5 Q n u0 u0_6 u1 y2 y3 y4 → VV X 0 0 ([wX10 E h0 a0 u0, wX5 E (a0 6) a0_6 u0_6, wX7 E h1 a1 u1].flatten) [(0, .ref h0), (1, .ref h1), (2, .int y2), (3, .int y3), (4, .int y4)] 5 [] := by
  intro n
  induction n with
  | zero =>
    intro u0 u0_6 u1 y2 y3 y4 hw
    exact hw.elim
  | succ n ih =>
    intro u0 u0_6 u1 y2 y3 y4 hw
    unfold qX10_alikePairs_5 at hw
    refine v_iload C dX10_alikePairs_5 4 rfl ?_
    refine v_aload_n C dX10_alikePairs_7 1 rfl ?_
    refine v_get (ci := 7) C inT7 11 0 rfl rfl (by decide) mF_X10_143_X7_0 rfl dX10_alikePairs_8 ?_
    refine v_icmp_ge (tgt := 75) C dX10_alikePairs_11 (by decide) (fun hc => ?_) (fun hc => ?_)
    · have hw := hw.1 hc
      refine v_iload_n C dX10_alikePairs_75 3 rfl ?_
      exact hret _ _ _ _ y3 (u0, u0_6, u1) dX10_alikePairs_76 rfl hw (Nat.le_of_ble_eq_true rfl) (Nat.le_of_ble_eq_true rfl)
    · have hw := hw.2 hc
      refine v_aload_n C dX10_alikePairs_14 0 rfl ?_
      refine v_aload_n C dX10_alikePairs_15 1 rfl ?_
      refine v_iload C dX10_alikePairs_16 4 rfl ?_
      refine v_iload_n C dX10_alikePairs_18 2 rfl ?_
      refine v_callFv (st := []) (ci := 10) (qb := 0) C (kX10_spellAside h0 h1 a0 a0_6 a1 _ _ _ _ _ hw) mM_X10_146 mI_X10 mC_X10_spellAside mN_X10_spellAside mS_X10_spellAside rfl rfl hd_X10_spellAside ⟨Nat.le_of_ble_eq_true rfl, Nat.le_of_ble_eq_true rfl⟩ ⟨Nat.le_of_ble_eq_true rfl, Nat.le_of_ble_eq_true rfl⟩ rfl (Nat.le_of_ble_eq_true rfl) dX10_alikePairs_19 (fun U19 hw => ?_)
      obtain ⟨v19_0, v19_1, v19_2⟩ := U19
      refine v_iconst (v := 0) C dX10_alikePairs_22 (by decide) ?_
      refine v_istore (lv' := [(5, .int 0), (0, .ref h0), (1, .ref h1), (2, .int y2), (3, .int y3), (4, .int y4)]) C dX10_alikePairs_23 (by decide) rfl ?_
      refine v_lv C (lv' := [(0, .ref h0), (1, .ref h1), (2, .int y2), (3, .int y3), (4, .int y4), (5, .int 0)]) [1, 2, 3, 4, 5, 0] rfl ?_
      obtain ⟨n', hw⟩ := hw
      exact jX10_alikePairs_25 h0 h1 a0 a0_6 a1 Q C hret (qX10_alikePairs_5 Q n) ih n' v19_0 v19_1 v19_2 y2 y3 y4 0 hw
set_option maxHeartbeats 4000000 in
set_option maxRecDepth 100000 in
theorem kX10_alikePairs {l : Launch} {E : VE} (h0 : Nat) (h1 : Nat) (a0 : Nat → Nat) (a0_6 : Nat → Nat) (a1 : Nat → Nat) (u0 : Md) (u0_6 : Md) (u1 : Md) (x2 : Int32) {Q : Int32 → Md → Md → Md → Prop} (hw : qX10_alikePairs u0 u0_6 u1 x2 Q) : MI l yX10_alikePairs cX10_alikePairs 6 .int 4 0 0 E [.ref h0, .ref h1, .int x2] ([wX10 E h0 a0 u0, wX5 E (a0 6) a0_6 u0_6, wX7 E h1 a1 u1].flatten) (fun (U : Md × Md × Md) => [wX10 E h0 a0 U.1, wX5 E (a0 6) a0_6 U.2.1, wX7 E h1 a1 U.2.2].flatten) (fun (r : Int32) (U : Md × Md × Md) => Q r U.1 U.2.1 U.2.2) := by
  refine MI.of (own := RX10) (by decide) rfl (Nat.le_of_ble_eq_true rfl) ?_
  intro X C hini hret
  show VV X 0 0 ([wX10 E h0 a0 u0, wX5 E (a0 6) a0_6 u0_6, wX7 E h1 a1 u1].flatten) [(0, .ref h0), (1, .ref h1), (2, .int x2)] 0 []
  unfold qX10_alikePairs at hw
  refine v_iconst (v := 0) C dX10_alikePairs_0 (by decide) ?_
  refine v_istore_n (lv' := [(3, .int 0), (0, .ref h0), (1, .ref h1), (2, .int x2)]) C dX10_alikePairs_1 (by decide) rfl ?_
  refine v_iconst (v := 0) C dX10_alikePairs_2 (by decide) ?_
  refine v_istore (lv' := [(4, .int 0), (3, .int 0), (0, .ref h0), (1, .ref h1), (2, .int x2)]) C dX10_alikePairs_3 (by decide) rfl ?_
  refine v_lv C (lv' := [(0, .ref h0), (1, .ref h1), (2, .int x2), (3, .int 0), (4, .int 0)]) [2, 3, 4, 1, 0] rfl ?_
  obtain ⟨n', hw⟩ := hw
  exact jX10_alikePairs_5 h0 h1 a0 a0_6 a1 Q C hret n' u0 u0_6 u1 x2 0 0 hw
set_option maxHeartbeats 4000000 in
set_option maxRecDepth 100000 in
theorem kX10_editsOfNames {l : Launch} {E : VE} (h0 : Nat) (h1 : Nat) (a0 : Nat → Nat) (a0_6 : Nat → Nat) (a0_7 : Nat → Nat) (a1 : Nat → Nat) (u0 : Md) (u0_6 : Md) (u0_7 : Md) (u1 : Md) (x2 : Int32) (x3 : Int32) (x4 : Int32) {Q : Int32 → Md → Md → Md → Md → Prop} (hw : qX10_editsOfNames u0 u0_6 u0_7 u1 x2 x3 x4 Q) : MI l yX10_editsOfNames cX10_editsOfNames 5 .int 3 0 0 E [.ref h0, .ref h1, .int x2, .int x3, .int x4] ([wX10 E h0 a0 u0, wX5 E (a0 6) a0_6 u0_6, wX5 E (a0 7) a0_7 u0_7, wX7 E h1 a1 u1].flatten) (fun (U : Md × Md × Md × Md) => [wX10 E h0 a0 U.1, wX5 E (a0 6) a0_6 U.2.1, wX5 E (a0 7) a0_7 U.2.2.1, wX7 E h1 a1 U.2.2.2].flatten) (fun (r : Int32) (U : Md × Md × Md × Md) => Q r U.1 U.2.1 U.2.2.1 U.2.2.2) := by
  refine MI.of (own := RX10) (by decide) rfl (Nat.le_of_ble_eq_true rfl) ?_
  intro X C hini hret
  show VV X 0 0 ([wX10 E h0 a0 u0, wX5 E (a0 6) a0_6 u0_6, wX5 E (a0 7) a0_7 u0_7, wX7 E h1 a1 u1].flatten) [(0, .ref h0), (1, .ref h1), (2, .int x2), (3, .int x3), (4, .int x4)] 0 []
  unfold qX10_editsOfNames at hw
  refine v_aload_n C dX10_editsOfNames_0 0 rfl ?_
  refine v_get (ci := 10) C inT10 0 6 rfl rfl (by decide) mF_X10_29_X10_6 rfl dX10_editsOfNames_1 ?_
  refine v_iconst (v := 0) C dX10_editsOfNames_4 (by decide) ?_
  obtain ⟨w5, e5⟩ : ∃ z : Md, z = sF u0_6 0 0 := ⟨_, rfl⟩
  have hw := hw w5 e5
  refine v_put (ci := 5) (ws' := [wX10 E h0 a0 u0, wX5 E (a0 6) a0_6 w5, wX5 E (a0 7) a0_7 u0_7, wX7 E h1 a1 u1].flatten) C tyX5 tyX5_ok nmX5 inT5 8 0 rfl rfl (by decide) mF_X10_156_X5_0 rfl rfl rfl rfl (Nat.le_of_ble_eq_true rfl) (by rw [e5]; rfl) dX10_editsOfNames_5 ?_
  refine v_aload_n C dX10_editsOfNames_8 0 rfl ?_
  refine v_get (ci := 10) C inT10 0 7 rfl rfl (by decide) mF_X10_33_X10_7 rfl dX10_editsOfNames_9 ?_
  refine v_iconst (v := 0) C dX10_editsOfNames_12 (by decide) ?_
  obtain ⟨w13, e13⟩ : ∃ z : Md, z = sF u0_7 0 0 := ⟨_, rfl⟩
  have hw := hw w13 e13
  refine v_put (ci := 5) (ws' := [wX10 E h0 a0 u0, wX5 E (a0 6) a0_6 w5, wX5 E (a0 7) a0_7 w13, wX7 E h1 a1 u1].flatten) C tyX5 tyX5_ok nmX5 inT5 11 0 rfl rfl (by decide) mF_X10_156_X5_0 rfl rfl rfl rfl (Nat.le_of_ble_eq_true rfl) (by rw [e13]; rfl) dX10_editsOfNames_13 ?_
  refine v_aload_n C dX10_editsOfNames_16 1 rfl ?_
  refine v_aload_n C dX10_editsOfNames_17 0 rfl ?_
  refine v_get (ci := 10) C inT10 0 6 rfl rfl (by decide) mF_X10_29_X10_6 rfl dX10_editsOfNames_18 ?_
  refine v_iload_n C dX10_editsOfNames_21 2 rfl ?_
  refine v_iload C dX10_editsOfNames_22 4 rfl ?_
  refine v_callVMv (st := []) (ci := 7) (qb := 14) C (kX7_spellInto h1 ((a0 6)) a1 a0_6 _ _ _ _ hw) mM_X10_157 mI_X7 mC_X7_spellInto mN_X7_spellInto mS_X7_spellInto rfl rfl hd_X7_spellInto ⟨Nat.le_of_ble_eq_true rfl, Nat.le_of_ble_eq_true rfl⟩ ⟨Nat.le_of_ble_eq_true rfl, Nat.le_of_ble_eq_true rfl⟩ [3, 1] [0, 2] (N0 := 4) rfl (by decide) (ms2 := (fun (U : Md × Md) => [wX10 E h0 a0 u0, wX5 E (a0 6) a0_6 U.2, wX5 E (a0 7) a0_7 w13, wX7 E h1 a1 U.1])) rfl (fun _ => rfl) (fun _ => rfl) (fun _ => rfl) rfl (Nat.le_of_ble_eq_true rfl) dX10_editsOfNames_24 (fun U24 hw => ?_)
  obtain ⟨v24_0, v24_1⟩ := U24
  refine v_aload_n C dX10_editsOfNames_27 1 rfl ?_
  refine v_aload_n C dX10_editsOfNames_28 0 rfl ?_
  refine v_get (ci := 10) C inT10 0 7 rfl rfl (by decide) mF_X10_33_X10_7 rfl dX10_editsOfNames_29 ?_
  refine v_iload_n C dX10_editsOfNames_32 3 rfl ?_
  refine v_iload C dX10_editsOfNames_33 4 rfl ?_
  refine v_callVMv (st := []) (ci := 7) (qb := 14) C (kX7_spellInto h1 ((a0 7)) a1 a0_7 _ _ _ _ hw) mM_X10_157 mI_X7 mC_X7_spellInto mN_X7_spellInto mS_X7_spellInto rfl rfl hd_X7_spellInto ⟨Nat.le_of_ble_eq_true rfl, Nat.le_of_ble_eq_true rfl⟩ ⟨Nat.le_of_ble_eq_true rfl, Nat.le_of_ble_eq_true rfl⟩ [3, 2] [0, 1] (N0 := 4) rfl (by decide) (ms2 := (fun (U : Md × Md) => [wX10 E h0 a0 u0, wX5 E (a0 6) a0_6 v24_1, wX5 E (a0 7) a0_7 U.2, wX7 E h1 a1 U.1])) rfl (fun _ => rfl) (fun _ => rfl) (fun _ => rfl) rfl (Nat.le_of_ble_eq_true rfl) dX10_editsOfNames_35 (fun U35 hw => ?_)
  obtain ⟨v35_0, v35_1⟩ := U35
  refine v_aload_n C dX10_editsOfNames_38 0 rfl ?_
  refine v_aload_n C dX10_editsOfNames_39 0 rfl ?_
  refine v_get (ci := 10) C inT10 0 6 rfl rfl (by decide) mF_X10_29_X10_6 rfl dX10_editsOfNames_40 ?_
  refine v_aload_n C dX10_editsOfNames_43 0 rfl ?_
  refine v_get (ci := 10) C inT10 0 7 rfl rfl (by decide) mF_X10_33_X10_7 rfl dX10_editsOfNames_44 ?_
  refine v_callVMi (st := []) (ci := 10) (qb := 0) C (kX10_editsOfRows h0 ((a0 6)) ((a0 7)) a0 a0_6 a0_7 _ _ _ hw) mM_X10_170 mI_X10 mC_X10_editsOfRows mN_X10_editsOfRows mS_X10_editsOfRows rfl rfl hd_X10_editsOfRows ⟨Nat.le_of_ble_eq_true rfl, Nat.le_of_ble_eq_true rfl⟩ ⟨Nat.le_of_ble_eq_true rfl, Nat.le_of_ble_eq_true rfl⟩ [0, 1, 2] [3] (N0 := 4) rfl (by decide) (ms2 := (fun (U : Md × Md × Md) => [wX10 E h0 a0 U.1, wX5 E (a0 6) a0_6 U.2.1, wX5 E (a0 7) a0_7 U.2.2, wX7 E h1 a1 v35_0])) rfl (fun _ => rfl) (fun _ => rfl) (fun _ => rfl) rfl (Nat.le_of_ble_eq_true rfl) dX10_editsOfNames_47 (fun r47 U47 hw => ?_)
  obtain ⟨v47_0, v47_1, v47_2⟩ := U47
  exact hret _ _ _ _ r47 (v47_0, v47_1, v47_2, v35_0) dX10_editsOfNames_50 rfl hw (Nat.le_of_ble_eq_true rfl) (Nat.le_of_ble_eq_true rfl)
set_option maxHeartbeats 4000000 in
set_option maxRecDepth 100000 in
theorem jX10_isAlike_58 {X : VX} {E : VE} {l : Launch} (h0 : Nat) (h1 : Nat) (a0 : Nat → Nat) (a0_6 : Nat → Nat) (a0_7 : Nat → Nat) (a1 : Nat → Nat) (a1_2 : Nat → Nat) (a1_3 : Nat → Nat) (a1_5 : Nat → Nat)  (Q : Int32 → Md → Md → Md → Md → Md → Md → Md → Prop) (C : VC X cX10_isAlike 10 RX10 (rmL 4 0 0) E l) (hret : RetI X cX10_isAlike .boolean 0 0 (fun (U : Md × Md × Md × Md × Md × Md × Md) => [wX10 E h0 a0 U.1, wX5 E (a0 6) a0_6 U.2.1, wX5 E (a0 7) a0_7 U.2.2.1, wX8 E h1 a1 U.2.2.2.1, wX2 E (a1 2) a1_2 U.2.2.2.2.1, wX7 E (a1 3) a1_3 U.2.2.2.2.2.1, wX1 E (a1 5) a1_5 U.2.2.2.2.2.2].flatten) (fun (r : Int32) (U : Md × Md × Md × Md × Md × Md × Md) => (r = 0 ∨ r = 1) ∧ Q r U.1 U.2.1 U.2.2.1 U.2.2.2.1 U.2.2.2.2.1 U.2.2.2.2.2.1 U.2.2.2.2.2.2)) (K14 : Md → Md → Md → Md → Md → Md → Md → Int32 → Int32 → Int32 → Int32 → Int32 → Prop) (hK14 : ∀ (u0 : Md) (u0_6 : Md) (u0_7 : Md) (u1 : Md) (u1_2 : Md) (u1_3 : Md) (u1_5 : Md) (y2 : Int32) (y3 : Int32) (y4 : Int32) (y5 : Int32) (y6 : Int32), K14 u0 u0_6 u0_7 u1 u1_2 u1_3 u1_5 y2 y3 y4 y5 y6 → VV X 0 0 ([wX10 E h0 a0 u0, wX5 E (a0 6) a0_6 u0_6, wX5 E (a0 7) a0_7 u0_7, wX8 E h1 a1 u1, wX2 E (a1 2) a1_2 u1_2, wX7 E (a1 3) a1_3 u1_3, wX1 E (a1 5) a1_5 u1_5].flatten) [(0, .ref h0), (1, .ref h1), (2, .int y2), (3, .int y3), (4, .int y4), (5, .int y5), (6, .int y6)] 14 []) : ∀ (n : Nat), ∀ (u0 : Md) (u0_6 : Md) (u0_7 : Md) (u1 : Md) (u1_2 : Md) (u1_3 : Md) (u1_5 : Md) (y2 : Int32) (y3 : Int32) (y4 : Int32) (y5 : Int32) (y6 : Int32) (y7 : Int32) (y8 : Int32), qX10_isAlike_58 Q K14 n u0 u0_6 u0_7 u1 u1_2 u1_3 u1_5 y2 y3 y4 y5 y6 y7 y8 → VV X 0 0 ([wX10 E h0 a0 u0, wX5 E (a0 6) a0_6 u0_6, wX5 E (a0 7) a0_7 u0_7, wX8 E h1 a1 u1, wX2 E (a1 2) a1_2 u1_2, wX7 E (a1 3) a1_3 u1_3, wX1 E (a1 5) a1_5 u1_5].flatten) [(0, .ref h0), (1, .ref h1), (2, .int y2), (3, .int y3), (4, .int y4), (5, .int y5), (6, .int y6), (7, .int y7), (8, .int y8)] 58 [] := by
  intro n
  induction n with
  | zero =>
    intro u0 u0_6 u0_7 u1 u1_2 u1_3 u1_5 y2 y3 y4 y5 y6 y7 y8 hw
    exact hw.elim
  | succ n ih =>
    intro u0 u0_6 u0_7 u1 u1_2 u1_3 u1_5 y2 y3 y4 y5 y6 y7 y8 hw
    unfold qX10_isAlike_58 at hw
    refine v_iload C dX10_isAlike_58 7 rfl ?_
    refine v_if_eq (tgt := 120) C dX10_isAlike_60 (by decide) (fun hc => ?_) (fun hc => ?_)
    · have hw := hw.1 hc
      refine v_iinc (lv' := [(6, .int (y6 + Int32.ofInt 1)), (0, .ref h0), (1, .ref h1), (2, .int y2), (3, .int y3), (4, .int y4), (5, .int y5), (7, .int y7), (8, .int y8)]) C dX10_isAlike_120 6 rfl (by decide) rfl ?_
      refine v_goto (tgt := 14) C dX10_isAlike_123 (by decide) ?_
      refine v_lv C (lv' := [(0, .ref h0), (1, .ref h1), (2, .int y2), (3, .int y3), (4, .int y4), (5, .int y5), (6, .int (y6 + Int32.ofInt 1))]) [1, 2, 3, 4, 5, 6, 0] rfl ?_
      exact hK14 u0 u0_6 u0_7 u1 u1_2 u1_3 u1_5 y2 y3 y4 y5 (y6 + Int32.ofInt 1) hw
    · have hw := hw.2 hc
      refine v_iload C dX10_isAlike_63 8 rfl ?_
      refine v_iconst (v := 3) C dX10_isAlike_65 (by decide) ?_
      refine v_icmp_ge (tgt := 120) C dX10_isAlike_66 (by decide) (fun hc => ?_) (fun hc => ?_)
      · have hw := hw.1 hc
        refine v_iinc (lv' := [(6, .int (y6 + Int32.ofInt 1)), (0, .ref h0), (1, .ref h1), (2, .int y2), (3, .int y3), (4, .int y4), (5, .int y5), (7, .int y7), (8, .int y8)]) C dX10_isAlike_120 6 rfl (by decide) rfl ?_
        refine v_goto (tgt := 14) C dX10_isAlike_123 (by decide) ?_
        refine v_lv C (lv' := [(0, .ref h0), (1, .ref h1), (2, .int y2), (3, .int y3), (4, .int y4), (5, .int y5), (6, .int (y6 + Int32.ofInt 1))]) [1, 2, 3, 4, 5, 6, 0] rfl ?_
        exact hK14 u0 u0_6 u0_7 u1 u1_2 u1_3 u1_5 y2 y3 y4 y5 (y6 + Int32.ofInt 1) hw
      · have hw := hw.2 hc
        refine v_aload_n C dX10_isAlike_69 1 rfl ?_
        refine v_get (ci := 8) C inT8 14 5 rfl rfl (by decide) mF_X10_174_X8_5 rfl dX10_isAlike_70 ?_
        refine v_iload C dX10_isAlike_73 6 rfl ?_
        refine v_iload C dX10_isAlike_75 8 rfl ?_
        refine v_aload_n C dX10_isAlike_77 1 rfl ?_
        refine v_get (ci := 8) C inT8 14 0 rfl rfl (by decide) mF_X10_125_X8_0 rfl dX10_isAlike_78 ?_
        refine v_callVMi (st := []) (ci := 1) (qb := 40) C (kX1_nameAt ((a1 5)) a1_5 _ _ _ _ hw) mM_X10_208 mI_X1 mC_X1_nameAt mN_X1_nameAt mS_X1_nameAt rfl rfl hd_X1_nameAt ⟨Nat.le_of_ble_eq_true rfl, Nat.le_of_ble_eq_true rfl⟩ ⟨Nat.le_of_ble_eq_true rfl, Nat.le_of_ble_eq_true rfl⟩ [6] [0, 1, 2, 3, 4, 5] (N0 := 7) rfl (by decide) (ms2 := (fun (U : Md) => [wX10 E h0 a0 u0, wX5 E (a0 6) a0_6 u0_6, wX5 E (a0 7) a0_7 u0_7, wX8 E h1 a1 u1, wX2 E (a1 2) a1_2 u1_2, wX7 E (a1 3) a1_3 u1_3, wX1 E (a1 5) a1_5 U])) rfl (fun _ => rfl) (fun _ => rfl) (fun _ => rfl) rfl (Nat.le_of_ble_eq_true rfl) dX10_isAlike_81 (fun r81 v81_0 hw => ?_)
        refine v_istore (lv' := [(9, .int r81), (0, .ref h0), (1, .ref h1), (2, .int y2), (3, .int y3), (4, .int y4), (5, .int y5), (6, .int y6), (7, .int y7), (8, .int y8)]) C dX10_isAlike_84 (by decide) rfl ?_
        refine v_iload C dX10_isAlike_86 0 rfl ?_
        refine v_iconst (v := (-1)) C dX10_isAlike_88 (by decide) ?_
        refine v_icmp_eq (tgt := 114) C dX10_isAlike_89 (by decide) (fun hc => ?_) (fun hc => ?_)
        · have hw := hw.1 hc
          refine v_iinc (lv' := [(8, .int (y8 + Int32.ofInt 1)), (9, .int r81), (0, .ref h0), (1, .ref h1), (2, .int y2), (3, .int y3), (4, .int y4), (5, .int y5), (6, .int y6), (7, .int y7)]) C dX10_isAlike_114 9 rfl (by decide) rfl ?_
          refine v_goto (tgt := 58) C dX10_isAlike_117 (by decide) ?_
          refine v_lv C (lv' := [(0, .ref h0), (1, .ref h1), (2, .int y2), (3, .int y3), (4, .int y4), (5, .int y5), (6, .int y6), (7, .int y7), (8, .int (y8 + Int32.ofInt 1))]) [2, 3, 4, 5, 6, 7, 8, 9, 0] rfl ?_
          exact ih u0 u0_6 u0_7 u1 u1_2 u1_3 v81_0 y2 y3 y4 y5 y6 y7 (y8 + Int32.ofInt 1) hw
        · have hw := hw.2 hc
          refine v_aload_n C dX10_isAlike_92 1 rfl ?_
          refine v_aload_n C dX10_isAlike_93 2 rfl ?_
          refine v_get (ci := 8) C inT8 14 3 rfl rfl (by decide) mF_X10_187_X8_3 rfl dX10_isAlike_94 ?_
          refine v_iload_n C dX10_isAlike_97 3 rfl ?_
          refine v_iload C dX10_isAlike_98 0 rfl ?_
          refine v_aload_n C dX10_isAlike_100 2 rfl ?_
          refine v_get (ci := 8) C inT8 14 0 rfl rfl (by decide) mF_X10_125_X8_0 rfl dX10_isAlike_101 ?_
          refine v_callVMi (st := []) (ci := 10) (qb := 0) C (kX10_editsOfNames h0 ((a1 3)) a0 a0_6 a0_7 a1_3 _ _ _ _ _ _ _ hw) mM_X10_211 mI_X10 mC_X10_editsOfNames mN_X10_editsOfNames mS_X10_editsOfNames rfl rfl hd_X10_editsOfNames ⟨Nat.le_of_ble_eq_true rfl, Nat.le_of_ble_eq_true rfl⟩ ⟨Nat.le_of_ble_eq_true rfl, Nat.le_of_ble_eq_true rfl⟩ [0, 1, 2, 5] [3, 4, 6] (N0 := 7) rfl (by decide) (ms2 := (fun (U : Md × Md × Md × Md) => [wX10 E h0 a0 U.1, wX5 E (a0 6) a0_6 U.2.1, wX5 E (a0 7) a0_7 U.2.2.1, wX8 E h1 a1 u1, wX2 E (a1 2) a1_2 u1_2, wX7 E (a1 3) a1_3 U.2.2.2, wX1 E (a1 5) a1_5 v81_0])) rfl (fun _ => rfl) (fun _ => rfl) (fun _ => rfl) rfl (Nat.le_of_ble_eq_true rfl) dX10_isAlike_104 (fun r104 U104 hw => ?_)
          obtain ⟨v104_0, v104_1, v104_2, v104_3⟩ := U104
          refine v_iload C dX10_isAlike_107 5 rfl ?_
          refine v_icmp_gt (tgt := 114) C dX10_isAlike_109 (by decide) (fun hc => ?_) (fun hc => ?_)
          · have hw := hw.1 hc
            refine v_iinc (lv' := [(8, .int (y8 + Int32.ofInt 1)), (9, .int r81), (0, .ref h0), (1, .ref h1), (2, .int y2), (3, .int y3), (4, .int y4), (5, .int y5), (6, .int y6), (7, .int y7)]) C dX10_isAlike_114 9 rfl (by decide) rfl ?_
            refine v_goto (tgt := 58) C dX10_isAlike_117 (by decide) ?_
            refine v_lv C (lv' := [(0, .ref h0), (1, .ref h1), (2, .int y2), (3, .int y3), (4, .int y4), (5, .int y5), (6, .int y6), (7, .int y7), (8, .int (y8 + Int32.ofInt 1))]) [2, 3, 4, 5, 6, 7, 8, 9, 0] rfl ?_
            exact ih v104_0 v104_1 v104_2 u1 u1_2 v104_3 v81_0 y2 y3 y4 y5 y6 y7 (y8 + Int32.ofInt 1) hw
          · have hw := hw.2 hc
            refine v_iconst (v := 1) C dX10_isAlike_112 (by decide) ?_
            exact hret _ _ _ _ 1 (v104_0, v104_1, v104_2, u1, u1_2, v104_3, v81_0) dX10_isAlike_113 rfl ⟨Or.inr rfl, hw⟩ (Nat.le_of_ble_eq_true rfl) (Nat.le_of_ble_eq_true rfl)
set_option maxHeartbeats 4000000 in
set_option maxRecDepth 100000 in
theorem jX10_isAlike_52 {X : VX} {E : VE} {l : Launch} (h0 : Nat) (h1 : Nat) (a0 : Nat → Nat) (a0_6 : Nat → Nat) (a0_7 : Nat → Nat) (a1 : Nat → Nat) (a1_2 : Nat → Nat) (a1_3 : Nat → Nat) (a1_5 : Nat → Nat)  (Q : Int32 → Md → Md → Md → Md → Md → Md → Md → Prop) (C : VC X cX10_isAlike 10 RX10 (rmL 4 0 0) E l) (hret : RetI X cX10_isAlike .boolean 0 0 (fun (U : Md × Md × Md × Md × Md × Md × Md) => [wX10 E h0 a0 U.1, wX5 E (a0 6) a0_6 U.2.1, wX5 E (a0 7) a0_7 U.2.2.1, wX8 E h1 a1 U.2.2.2.1, wX2 E (a1 2) a1_2 U.2.2.2.2.1, wX7 E (a1 3) a1_3 U.2.2.2.2.2.1, wX1 E (a1 5) a1_5 U.2.2.2.2.2.2].flatten) (fun (r : Int32) (U : Md × Md × Md × Md × Md × Md × Md) => (r = 0 ∨ r = 1) ∧ Q r U.1 U.2.1 U.2.2.1 U.2.2.2.1 U.2.2.2.2.1 U.2.2.2.2.2.1 U.2.2.2.2.2.2)) (K14 : Md → Md → Md → Md → Md → Md → Md → Int32 → Int32 → Int32 → Int32 → Int32 → Prop) (hK14 : ∀ (u0 : Md) (u0_6 : Md) (u0_7 : Md) (u1 : Md) (u1_2 : Md) (u1_3 : Md) (u1_5 : Md) (y2 : Int32) (y3 : Int32) (y4 : Int32) (y5 : Int32) (y6 : Int32), K14 u0 u0_6 u0_7 u1 u1_2 u1_3 u1_5 y2 y3 y4 y5 y6 → VV X 0 0 ([wX10 E h0 a0 u0, wX5 E (a0 6) a0_6 u0_6, wX5 E (a0 7) a0_7 u0_7, wX8 E h1 a1 u1, wX2 E (a1 2) a1_2 u1_2, wX7 E (a1 3) a1_3 u1_3, wX1 E (a1 5) a1_5 u1_5].flatten) [(0, .ref h0), (1, .ref h1), (2, .int y2), (3, .int y3), (4, .int y4), (5, .int y5), (6, .int y6)] 14 []) : ∀ (u0 : Md) (u0_6 : Md) (u0_7 : Md) (u1 : Md) (u1_2 : Md) (u1_3 : Md) (u1_5 : Md) (y2 : Int32) (y3 : Int32) (y4 : Int32) (y5 : Int32) (y6 : Int32), qX10_isAlike_52 Q K14 u0 u0_6 u0_7 u1 u1_2 u1_3 u1_5 y2 y3 y4 y5 y6 → VV X 0 0 ([wX10 E h0 a0 u0, wX5 E (a0 6) a0_6 u0_6, wX5 E (a0 7) a0_7 u0_7, wX8 E h1 a1 u1, wX2 E (a1 2) a1_2 u1_2, wX7 E (a1 3) a1_3 u1_3, wX1 E (a1 5) a1_5 u1_5].flatten) [(0, .ref h0), (1, .ref h1), (2, .int y2), (3, .int y3), (4, .int y4), (5, .int y5), (6, .int y6)] 52 [] := by
  intro u0 u0_6 u0_7 u1 u1_2 u1_3 u1_5 y2 y3 y4 y5 y6 hw
  unfold qX10_isAlike_52 at hw
  refine v_iconst (v := 0) C dX10_isAlike_52 (by decide) ?_
  refine v_istore (lv' := [(7, .int 0), (0, .ref h0), (1, .ref h1), (2, .int y2), (3, .int y3), (4, .int y4), (5, .int y5), (6, .int y6)]) C dX10_isAlike_53 (by decide) rfl ?_
  refine v_iconst (v := 0) C dX10_isAlike_55 (by decide) ?_
  refine v_istore (lv' := [(8, .int 0), (7, .int 0), (0, .ref h0), (1, .ref h1), (2, .int y2), (3, .int y3), (4, .int y4), (5, .int y5), (6, .int y6)]) C dX10_isAlike_56 (by decide) rfl ?_
  refine v_lv C (lv' := [(0, .ref h0), (1, .ref h1), (2, .int y2), (3, .int y3), (4, .int y4), (5, .int y5), (6, .int y6), (7, .int 0), (8, .int 0)]) [2, 3, 4, 5, 6, 7, 8, 1, 0] rfl ?_
  obtain ⟨n', hw⟩ := hw
  exact jX10_isAlike_58 h0 h1 a0 a0_6 a0_7 a1 a1_2 a1_3 a1_5 Q C hret K14 hK14 n' u0 u0_6 u0_7 u1 u1_2 u1_3 u1_5 y2 y3 y4 y5 y6 0 0 hw
set_option maxHeartbeats 4000000 in
set_option maxRecDepth 100000 in
theorem jX10_isAlike_14 {X : VX} {E : VE} {l : Launch} (h0 : Nat) (h1 : Nat) (a0 : Nat → Nat) (a0_6 : Nat → Nat) (a0_7 : Nat → Nat) (a1 : Nat → Nat) (a1_2 : Nat → Nat) (a1_3 : Nat → Nat) (a1_5 : Nat → Nat)  (Q : Int32 → Md → Md → Md → Md → Md → Md → Md → Prop) (C : VC X cX10_isAlike 10 RX10 (rmL 4 0 0) E l) (hret : RetI X cX10_isAlike .boolean 0 0 (fun (U : Md × Md × Md × Md × Md × Md × Md) => [wX10 E h0 a0 U.1, wX5 E (a0 6) a0_6 U.2.1, wX5 E (a0 7) a0_7 U.2.2.1, wX8 E h1 a1 U.2.2.2.1, wX2 E (a1 2) a1_2 U.2.2.2.2.1, wX7 E (a1 3) a1_3 U.2.2.2.2.2.1, wX1 E (a1 5) a1_5 U.2.2.2.2.2.2].flatten) (fun (r : Int32) (U : Md × Md × Md × Md × Md × Md × Md) => (r = 0 ∨ r = 1) ∧ Q r U.1 U.2.1 U.2.2.1 U.2.2.2.1 U.2.2.2.2.1 U.2.2.2.2.2.1 U.2.2.2.2.2.2))  : ∀ (n : Nat), ∀ (u0 : Md) (u0_6 : Md) (u0_7 : Md) (u1 : Md) (u1_2 : Md) (u1_3 : Md) (u1_5 : Md) (y2 : Int32) (y3 : Int32) (y4 : Int32) (y5 : Int32) (y6 : Int32), qX10_isAlike_14 Q n u0 u0_6 u0_7 u1 u1_2 u1_3 u1_5 y2 y3 y4 y5 y6 → VV X 0 0 ([wX10 E h0 a0 u0, wX5 E (a0 6) a0_6 u0_6, wX5 E (a0 7) a0_7 u0_7, wX8 E h1 a1 u1, wX2 E (a1 2) a1_2 u1_2, wX7 E (a1 3) a1_3 u1_3, wX1 E (a1 5) a1_5 u1_5].flatten) [(0, .ref h0), (1, .ref h1), (2, .int y2), (3, .int y3), (4, .int y4), (5, .int y5), (6, .int y6)] 14 [] := by
  intro n
  induction n with
  | zero =>
    intro u0 u0_6 u0_7 u1 u1_2 u1_3 u1_5 y2 y3 y4 y5 y6 hw
    exact hw.elim
  | succ n ih =>
    intro u0 u0_6 u0_7 u1 u1_2 u1_3 u1_5 y2 y3 y4 y5 y6 hw
    unfold qX10_isAlike_14 at hw
    refine v_iload C dX10_isAlike_14 6 rfl ?_
    refine v_aload_n C dX10_isAlike_16 1 rfl ?_
    refine v_get (ci := 8) C inT8 14 2 rfl rfl (by decide) mF_X10_84_X8_2 rfl dX10_isAlike_17 ?_
    refine v_get (ci := 2) C inT2 16 0 rfl rfl (by decide) mF_X10_66_X2_0 rfl dX10_isAlike_20 ?_
    refine v_icmp_ge (tgt := 126) C dX10_isAlike_23 (by decide) (fun hc => ?_) (fun hc => ?_)
    · have hw := hw.1 hc
      refine v_iconst (v := 0) C dX10_isAlike_126 (by decide) ?_
      exact hret _ _ _ _ 0 (u0, u0_6, u0_7, u1, u1_2, u1_3, u1_5) dX10_isAlike_127 rfl ⟨Or.inl rfl, hw⟩ (Nat.le_of_ble_eq_true rfl) (Nat.le_of_ble_eq_true rfl)
    · have hw := hw.2 hc
      refine v_iload C dX10_isAlike_26 6 rfl ?_
      refine v_iload C dX10_isAlike_28 5 rfl ?_
      refine v_icmp_eq (tgt := 52) C dX10_isAlike_30 (by decide) (fun hc => ?_) (fun hc => ?_)
      · have hw := hw.1 hc
        exact jX10_isAlike_52 h0 h1 a0 a0_6 a0_7 a1 a1_2 a1_3 a1_5 Q C hret (qX10_isAlike_14 Q n) ih u0 u0_6 u0_7 u1 u1_2 u1_3 u1_5 y2 y3 y4 y5 y6 hw
      · have hw := hw.2 hc
        refine v_aload_n C dX10_isAlike_33 1 rfl ?_
        refine v_get (ci := 8) C inT8 14 2 rfl rfl (by decide) mF_X10_84_X8_2 rfl dX10_isAlike_34 ?_
        refine v_iload C dX10_isAlike_37 6 rfl ?_
        refine v_iload C dX10_isAlike_39 5 rfl ?_
        refine v_iload_n C dX10_isAlike_41 3 rfl ?_
        refine v_callVMi (st := []) (ci := 2) (qb := 16) C (kX2_areNear ((a1 2)) a1_2 _ _ _ _ hw) mM_X10_204 mI_X2 mC_X2_areNear mN_X2_areNear mS_X2_areNear rfl rfl hd_X2_areNear ⟨Nat.le_of_ble_eq_true rfl, Nat.le_of_ble_eq_true rfl⟩ ⟨Nat.le_of_ble_eq_true rfl, Nat.le_of_ble_eq_true rfl⟩ [4] [0, 1, 2, 3, 5, 6] (N0 := 7) rfl (by decide) (ms2 := (fun (U : Md) => [wX10 E h0 a0 u0, wX5 E (a0 6) a0_6 u0_6, wX5 E (a0 7) a0_7 u0_7, wX8 E h1 a1 u1, wX2 E (a1 2) a1_2 U, wX7 E (a1 3) a1_3 u1_3, wX1 E (a1 5) a1_5 u1_5])) rfl (fun _ => rfl) (fun _ => rfl) (fun _ => rfl) rfl (Nat.le_of_ble_eq_true rfl) dX10_isAlike_42 (fun r42 v42_0 hw => ?_)
        obtain ⟨h01_42, hw⟩ := hw
        have hw := hw h01_42
        refine v_if_eq (tgt := 52) C dX10_isAlike_45 (by decide) (fun hc => ?_) (fun hc => ?_)
        · have hw := hw.1 hc
          exact jX10_isAlike_52 h0 h1 a0 a0_6 a0_7 a1 a1_2 a1_3 a1_5 Q C hret (qX10_isAlike_14 Q n) ih u0 u0_6 u0_7 u1 v42_0 u1_3 u1_5 y2 y3 y4 y5 y6 hw
        · have hw := hw.2 hc
          refine v_iconst (v := 1) C dX10_isAlike_48 (by decide) ?_
          refine v_goto (tgt := 53) C dX10_isAlike_49 (by decide) ?_
          refine v_istore (lv' := [(7, .int 1), (0, .ref h0), (1, .ref h1), (2, .int y2), (3, .int y3), (4, .int y4), (5, .int y5), (6, .int y6)]) C dX10_isAlike_53 (by decide) rfl ?_
          refine v_iconst (v := 0) C dX10_isAlike_55 (by decide) ?_
          refine v_istore (lv' := [(8, .int 0), (7, .int 1), (0, .ref h0), (1, .ref h1), (2, .int y2), (3, .int y3), (4, .int y4), (5, .int y5), (6, .int y6)]) C dX10_isAlike_56 (by decide) rfl ?_
          refine v_lv C (lv' := [(0, .ref h0), (1, .ref h1), (2, .int y2), (3, .int y3), (4, .int y4), (5, .int y5), (6, .int y6), (7, .int 1), (8, .int 0)]) [2, 3, 4, 5, 6, 7, 8, 1, 0] rfl ?_
          obtain ⟨n', hw⟩ := hw
          exact jX10_isAlike_58 h0 h1 a0 a0_6 a0_7 a1 a1_2 a1_3 a1_5 Q C hret (qX10_isAlike_14 Q n) ih n' u0 u0_6 u0_7 u1 v42_0 u1_3 u1_5 y2 y3 y4 y5 y6 1 0 hw
set_option maxHeartbeats 4000000 in
set_option maxRecDepth 100000 in
theorem kX10_isAlike {l : Launch} {E : VE} (h0 : Nat) (h1 : Nat) (a0 : Nat → Nat) (a0_6 : Nat → Nat) (a0_7 : Nat → Nat) (a1 : Nat → Nat) (a1_2 : Nat → Nat) (a1_3 : Nat → Nat) (a1_5 : Nat → Nat) (u0 : Md) (u0_6 : Md) (u0_7 : Md) (u1 : Md) (u1_2 : Md) (u1_3 : Md) (u1_5 : Md) (x2 : Int32) (x3 : Int32) (x4 : Int32) {Q : Int32 → Md → Md → Md → Md → Md → Md → Md → Prop} (hw : qX10_isAlike u0 u0_6 u0_7 u1 u1_2 u1_3 u1_5 x2 x3 x4 Q) : MI l yX10_isAlike cX10_isAlike 10 .boolean 4 0 0 E [.ref h0, .ref h1, .int x2, .int x3, .int x4] ([wX10 E h0 a0 u0, wX5 E (a0 6) a0_6 u0_6, wX5 E (a0 7) a0_7 u0_7, wX8 E h1 a1 u1, wX2 E (a1 2) a1_2 u1_2, wX7 E (a1 3) a1_3 u1_3, wX1 E (a1 5) a1_5 u1_5].flatten) (fun (U : Md × Md × Md × Md × Md × Md × Md) => [wX10 E h0 a0 U.1, wX5 E (a0 6) a0_6 U.2.1, wX5 E (a0 7) a0_7 U.2.2.1, wX8 E h1 a1 U.2.2.2.1, wX2 E (a1 2) a1_2 U.2.2.2.2.1, wX7 E (a1 3) a1_3 U.2.2.2.2.2.1, wX1 E (a1 5) a1_5 U.2.2.2.2.2.2].flatten) (fun (r : Int32) (U : Md × Md × Md × Md × Md × Md × Md) => (r = 0 ∨ r = 1) ∧ Q r U.1 U.2.1 U.2.2.1 U.2.2.2.1 U.2.2.2.2.1 U.2.2.2.2.2.1 U.2.2.2.2.2.2) := by
  refine MI.of (own := RX10) (by decide) rfl (Nat.le_of_ble_eq_true rfl) ?_
  intro X C hini hret
  show VV X 0 0 ([wX10 E h0 a0 u0, wX5 E (a0 6) a0_6 u0_6, wX5 E (a0 7) a0_7 u0_7, wX8 E h1 a1 u1, wX2 E (a1 2) a1_2 u1_2, wX7 E (a1 3) a1_3 u1_3, wX1 E (a1 5) a1_5 u1_5].flatten) [(0, .ref h0), (1, .ref h1), (2, .int x2), (3, .int x3), (4, .int x4)] 0 []
  unfold qX10_isAlike at hw
  refine v_aload_n C dX10_isAlike_0 1 rfl ?_
  refine v_get (ci := 8) C inT8 14 3 rfl rfl (by decide) mF_X10_187_X8_3 rfl dX10_isAlike_1 ?_
  refine v_get (ci := 7) C inT7 25 1 rfl rfl (by decide) mF_X10_150_X7_1 rfl dX10_isAlike_4 ?_
  refine v_iload_n C dX10_isAlike_7 2 rfl ?_
  obtain ⟨hi8, hw⟩ := hw
  refine v_iald C 26 rfl hi8 dX10_isAlike_8 ?_
  refine v_istore (lv' := [(5, .int (gA u1_3 1 x2.toNatClampNeg)), (0, .ref h0), (1, .ref h1), (2, .int x2), (3, .int x3), (4, .int x4)]) C dX10_isAlike_9 (by decide) rfl ?_
  refine v_iconst (v := 0) C dX10_isAlike_11 (by decide) ?_
  refine v_istore (lv' := [(6, .int 0), (5, .int (gA u1_3 1 x2.toNatClampNeg)), (0, .ref h0), (1, .ref h1), (2, .int x2), (3, .int x3), (4, .int x4)]) C dX10_isAlike_12 (by decide) rfl ?_
  refine v_lv C (lv' := [(0, .ref h0), (1, .ref h1), (2, .int x2), (3, .int x3), (4, .int x4), (5, .int (gA u1_3 1 x2.toNatClampNeg)), (6, .int 0)]) [2, 3, 4, 5, 6, 1, 0] rfl ?_
  obtain ⟨n', hw⟩ := hw
  exact jX10_isAlike_14 h0 h1 a0 a0_6 a0_7 a1 a1_2 a1_3 a1_5 Q C hret n' u0 u0_6 u0_7 u1 u1_2 u1_3 u1_5 x2 x3 x4 (gA u1_3 1 x2.toNatClampNeg) 0 hw
