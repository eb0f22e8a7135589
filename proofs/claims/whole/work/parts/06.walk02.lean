set_option maxHeartbeats 4000000 in
set_option maxRecDepth 100000 in
theorem kX2_areNear {l : Launch} {E : VE} (h0 : Nat) (a0 : Nat → Nat) (u0 : Md) (x1 : Int32) (x2 : Int32) (x3 : Int32) {Q : Int32 → Md → Prop} (hw : qX2_areNear u0 x1 x2 x3 Q) : MI l yX2_areNear cX2_areNear 6 .boolean 0 0 0 E [.ref h0, .int x1, .int x2, .int x3] ([wX2 E h0 a0 u0].flatten) (fun (U : Md) => [wX2 E h0 a0 U].flatten) (fun (r : Int32) (U : Md) => (r = 0 ∨ r = 1) ∧ Q r U) := by
  refine MI.of (own := RX2) (by decide) rfl (Nat.le_of_ble_eq_true rfl) ?_
  intro X C hini hret
  show VV X 0 0 ([wX2 E h0 a0 u0].flatten) [(0, .ref h0), (1, .int x1), (2, .int x2), (3, .int x3)] 0 []
  unfold qX2_areNear at hw
  refine v_aload_n C dX2_areNear_0 0 rfl ?_
  refine v_get (ci := 2) C inT2 0 1 rfl rfl (by decide) mF_X2_9_X2_1 rfl dX2_areNear_1 ?_
  refine v_iload_n C dX2_areNear_4 1 rfl ?_
  obtain ⟨hi5, hw⟩ := hw
  refine v_iald C 1 rfl hi5 dX2_areNear_5 ?_
  refine v_aload_n C dX2_areNear_6 0 rfl ?_
  refine v_get (ci := 2) C inT2 0 1 rfl rfl (by decide) mF_X2_9_X2_1 rfl dX2_areNear_7 ?_
  refine v_iload_n C dX2_areNear_10 2 rfl ?_
  obtain ⟨hi11, hw⟩ := hw
  refine v_iald C 1 rfl hi11 dX2_areNear_11 ?_
  refine v_isub C dX2_areNear_12 ?_
  refine v_istore (lv' := [(4, .int ((gA u0 1 x1.toNatClampNeg) - (gA u0 1 x2.toNatClampNeg))), (0, .ref h0), (1, .int x1), (2, .int x2), (3, .int x3)]) C dX2_areNear_13 (by decide) rfl ?_
  refine v_aload_n C dX2_areNear_15 1 rfl ?_
  refine v_get (ci := 2) C inT2 0 2 rfl rfl (by decide) mF_X2_15_X2_2 rfl dX2_areNear_16 ?_
  refine v_iload_n C dX2_areNear_19 2 rfl ?_
  obtain ⟨hi20, hw⟩ := hw
  refine v_iald C 2 rfl hi20 dX2_areNear_20 ?_
  refine v_aload_n C dX2_areNear_21 1 rfl ?_
  refine v_get (ci := 2) C inT2 0 2 rfl rfl (by decide) mF_X2_15_X2_2 rfl dX2_areNear_22 ?_
  refine v_iload_n C dX2_areNear_25 3 rfl ?_
  obtain ⟨hi26, hw⟩ := hw
  refine v_iald C 2 rfl hi26 dX2_areNear_26 ?_
  refine v_isub C dX2_areNear_27 ?_
  refine v_istore (lv' := [(5, .int ((gA u0 2 x1.toNatClampNeg) - (gA u0 2 x2.toNatClampNeg))), (4, .int ((gA u0 1 x1.toNatClampNeg) - (gA u0 1 x2.toNatClampNeg))), (0, .ref h0), (1, .int x1), (2, .int x2), (3, .int x3)]) C dX2_areNear_28 (by decide) rfl ?_
  refine v_iload C dX2_areNear_30 1 rfl ?_
  refine v_iload C dX2_areNear_32 1 rfl ?_
  refine v_imul C dX2_areNear_34 ?_
  refine v_iload C dX2_areNear_35 0 rfl ?_
  refine v_iload C dX2_areNear_37 0 rfl ?_
  refine v_imul C dX2_areNear_39 ?_
  refine v_iadd C dX2_areNear_40 ?_
  refine v_iload_n C dX2_areNear_41 5 rfl ?_
  refine v_iload_n C dX2_areNear_42 5 rfl ?_
  refine v_imul C dX2_areNear_43 ?_
  refine v_icmp_gt (tgt := 51) C dX2_areNear_44 (by decide) (fun hc => ?_) (fun hc => ?_)
  · have hw := hw.1 hc
    refine v_iconst (v := 0) C dX2_areNear_51 (by decide) ?_
    exact hret _ _ _ _ 0 u0 dX2_areNear_52 rfl ⟨Or.inl rfl, hw⟩ (Nat.le_of_ble_eq_true rfl) (Nat.le_of_ble_eq_true rfl)
  · have hw := hw.2 hc
    refine v_iconst (v := 1) C dX2_areNear_47 (by decide) ?_
    refine v_goto (tgt := 52) C dX2_areNear_48 (by decide) ?_
    exact hret _ _ _ _ 1 u0 dX2_areNear_52 rfl ⟨Or.inr rfl, hw⟩ (Nat.le_of_ble_eq_true rfl) (Nat.le_of_ble_eq_true rfl)
set_option maxHeartbeats 4000000 in
set_option maxRecDepth 100000 in
theorem kX2_copyFrom {l : Launch} {E : VE} (h0 : Nat) (h1 : Nat) (a0 : Nat → Nat) (a1 : Nat → Nat) (u0 : Md) (u1 : Md) {Q : Md → Md → Prop} (hw : qX2_copyFrom u0 u1 Q) : MV l yX2_copyFrom cX2_copyFrom 2 1 0 0 E [.ref h0, .ref h1] ([wX2 E h0 a0 u0, wX2 E h1 a1 u1].flatten) (fun (U : Md × Md) => [wX2 E h0 a0 U.1, wX2 E h1 a1 U.2].flatten) (fun (U : Md × Md) => Q U.1 U.2) := by
  refine MV.of (own := RX2) (by decide) rfl (Nat.le_of_ble_eq_true rfl) ?_
  intro X C hini hret
  show VV X 0 0 ([wX2 E h0 a0 u0, wX2 E h1 a1 u1].flatten) [(0, .ref h0), (1, .ref h1)] 0 []
  unfold qX2_copyFrom at hw
  refine v_aload_n C dX2_copyFrom_0 0 rfl ?_
  refine v_aload_n C dX2_copyFrom_1 1 rfl ?_
  refine v_get (ci := 2) C inT2 9 0 rfl rfl (by decide) mF_X2_36_X2_0 rfl dX2_copyFrom_2 ?_
  obtain ⟨w5, e5⟩ : ∃ z : Md, z = sF u0 0 (gF u1 0) := ⟨_, rfl⟩
  have hw := hw w5 e5
  refine v_put (ci := 2) (ws' := [wX2 E h0 a0 w5, wX2 E h1 a1 u1].flatten) C tyX2 tyX2_ok nmX2 inT2 0 0 rfl rfl (by decide) mF_X2_36_X2_0 rfl rfl rfl rfl (Nat.le_of_ble_eq_true rfl) (by rw [e5]; rfl) dX2_copyFrom_5 ?_
  refine v_aload_n C dX2_copyFrom_8 1 rfl ?_
  refine v_get (ci := 2) C inT2 9 1 rfl rfl (by decide) mF_X2_9_X2_1 rfl dX2_copyFrom_9 ?_
  refine v_iconst (v := 0) C dX2_copyFrom_12 (by decide) ?_
  refine v_aload_n C dX2_copyFrom_13 0 rfl ?_
  refine v_get (ci := 2) C inT2 0 1 rfl rfl (by decide) mF_X2_9_X2_1 rfl dX2_copyFrom_14 ?_
  refine v_iconst (v := 0) C dX2_copyFrom_17 (by decide) ?_
  refine v_aload_n C dX2_copyFrom_18 0 rfl ?_
  refine v_get (ci := 2) C inT2 0 0 rfl rfl (by decide) mF_X2_36_X2_0 rfl dX2_copyFrom_19 ?_
  obtain ⟨hi22, hw⟩ := hw
  obtain ⟨w22, e22⟩ : ∃ z : Md, z = sA w5 1 (va_cpy (gA u1 1) (gA w5 1) (0 : Int32).toNatClampNeg (0 : Int32).toNatClampNeg (gF w5 0).toNatClampNeg) := ⟨_, rfl⟩
  have hw := hw w22 e22
  refine v_copyi (ws' := [wX2 E h0 a0 w22, wX2 E h1 a1 u1].flatten) C 10 1 rfl rfl mM_X2_58 hi22 ⟨Nat.le_of_ble_eq_true rfl, Nat.le_of_ble_eq_true rfl⟩ (by rw [e22]; rfl) dX2_copyFrom_22 ?_
  refine v_aload_n C dX2_copyFrom_25 1 rfl ?_
  refine v_get (ci := 2) C inT2 9 2 rfl rfl (by decide) mF_X2_15_X2_2 rfl dX2_copyFrom_26 ?_
  refine v_iconst (v := 0) C dX2_copyFrom_29 (by decide) ?_
  refine v_aload_n C dX2_copyFrom_30 0 rfl ?_
  refine v_get (ci := 2) C inT2 0 2 rfl rfl (by decide) mF_X2_15_X2_2 rfl dX2_copyFrom_31 ?_
  refine v_iconst (v := 0) C dX2_copyFrom_34 (by decide) ?_
  refine v_aload_n C dX2_copyFrom_35 0 rfl ?_
  refine v_get (ci := 2) C inT2 0 0 rfl rfl (by decide) mF_X2_36_X2_0 rfl dX2_copyFrom_36 ?_
  obtain ⟨hi39, hw⟩ := hw
  obtain ⟨w39, e39⟩ : ∃ z : Md, z = sA w22 2 (va_cpy (gA u1 2) (gA w22 2) (0 : Int32).toNatClampNeg (0 : Int32).toNatClampNeg (gF w22 0).toNatClampNeg) := ⟨_, rfl⟩
  have hw := hw w39 e39
  refine v_copyi (ws' := [wX2 E h0 a0 w39, wX2 E h1 a1 u1].flatten) C 11 2 rfl rfl mM_X2_58 hi39 ⟨Nat.le_of_ble_eq_true rfl, Nat.le_of_ble_eq_true rfl⟩ (by rw [e39]; rfl) dX2_copyFrom_39 ?_
  refine v_aload_n C dX2_copyFrom_42 0 rfl ?_
  refine v_aload_n C dX2_copyFrom_43 1 rfl ?_
  refine v_get (ci := 2) C inT2 9 3 rfl rfl (by decide) mF_X2_40_X2_3 rfl dX2_copyFrom_44 ?_
  obtain ⟨w47, e47⟩ : ∃ z : Md, z = sF w39 3 (gF u1 3) := ⟨_, rfl⟩
  have hw := hw w47 e47
  refine v_put (ci := 2) (ws' := [wX2 E h0 a0 w47, wX2 E h1 a1 u1].flatten) C tyX2 tyX2_ok nmX2 inT2 0 3 rfl rfl (by decide) mF_X2_40_X2_3 rfl rfl rfl rfl (Nat.le_of_ble_eq_true rfl) (by rw [e47]; rfl) dX2_copyFrom_47 ?_
  refine v_aload_n C dX2_copyFrom_50 1 rfl ?_
  refine v_get (ci := 2) C inT2 9 4 rfl rfl (by decide) mF_X2_18_X2_4 rfl dX2_copyFrom_51 ?_
  refine v_iconst (v := 0) C dX2_copyFrom_54 (by decide) ?_
  refine v_aload_n C dX2_copyFrom_55 0 rfl ?_
  refine v_get (ci := 2) C inT2 0 4 rfl rfl (by decide) mF_X2_18_X2_4 rfl dX2_copyFrom_56 ?_
  refine v_iconst (v := 0) C dX2_copyFrom_59 (by decide) ?_
  refine v_aload_n C dX2_copyFrom_60 0 rfl ?_
  refine v_get (ci := 2) C inT2 0 3 rfl rfl (by decide) mF_X2_40_X2_3 rfl dX2_copyFrom_61 ?_
  obtain ⟨hi64, hw⟩ := hw
  obtain ⟨w64, e64⟩ : ∃ z : Md, z = sA w47 4 (va_cpy (gA u1 4) (gA w47 4) (0 : Int32).toNatClampNeg (0 : Int32).toNatClampNeg (gF w47 3).toNatClampNeg) := ⟨_, rfl⟩
  have hw := hw w64 e64
  refine v_copyi (ws' := [wX2 E h0 a0 w64, wX2 E h1 a1 u1].flatten) C 12 3 rfl rfl mM_X2_58 hi64 ⟨Nat.le_of_ble_eq_true rfl, Nat.le_of_ble_eq_true rfl⟩ (by rw [e64]; rfl) dX2_copyFrom_64 ?_
  refine v_aload_n C dX2_copyFrom_67 1 rfl ?_
  refine v_get (ci := 2) C inT2 9 5 rfl rfl (by decide) mF_X2_21_X2_5 rfl dX2_copyFrom_68 ?_
  refine v_iconst (v := 0) C dX2_copyFrom_71 (by decide) ?_
  refine v_aload_n C dX2_copyFrom_72 0 rfl ?_
  refine v_get (ci := 2) C inT2 0 5 rfl rfl (by decide) mF_X2_21_X2_5 rfl dX2_copyFrom_73 ?_
  refine v_iconst (v := 0) C dX2_copyFrom_76 (by decide) ?_
  refine v_aload_n C dX2_copyFrom_77 0 rfl ?_
  refine v_get (ci := 2) C inT2 0 3 rfl rfl (by decide) mF_X2_40_X2_3 rfl dX2_copyFrom_78 ?_
  obtain ⟨hi81, hw⟩ := hw
  obtain ⟨w81, e81⟩ : ∃ z : Md, z = sA w64 5 (va_cpy (gA u1 5) (gA w64 5) (0 : Int32).toNatClampNeg (0 : Int32).toNatClampNeg (gF w64 3).toNatClampNeg) := ⟨_, rfl⟩
  have hw := hw w81 e81
  refine v_copyi (ws' := [wX2 E h0 a0 w81, wX2 E h1 a1 u1].flatten) C 13 4 rfl rfl mM_X2_58 hi81 ⟨Nat.le_of_ble_eq_true rfl, Nat.le_of_ble_eq_true rfl⟩ (by rw [e81]; rfl) dX2_copyFrom_81 ?_
  refine v_aload_n C dX2_copyFrom_84 1 rfl ?_
  refine v_get (ci := 2) C inT2 9 6 rfl rfl (by decide) mF_X2_24_X2_6 rfl dX2_copyFrom_85 ?_
  refine v_iconst (v := 0) C dX2_copyFrom_88 (by decide) ?_
  refine v_aload_n C dX2_copyFrom_89 0 rfl ?_
  refine v_get (ci := 2) C inT2 0 6 rfl rfl (by decide) mF_X2_24_X2_6 rfl dX2_copyFrom_90 ?_
  refine v_iconst (v := 0) C dX2_copyFrom_93 (by decide) ?_
  refine v_aload_n C dX2_copyFrom_94 0 rfl ?_
  refine v_get (ci := 2) C inT2 0 3 rfl rfl (by decide) mF_X2_40_X2_3 rfl dX2_copyFrom_95 ?_
  obtain ⟨hi98, hw⟩ := hw
  obtain ⟨w98, e98⟩ : ∃ z : Md, z = sA w81 6 (va_cpy (gA u1 6) (gA w81 6) (0 : Int32).toNatClampNeg (0 : Int32).toNatClampNeg (gF w81 3).toNatClampNeg) := ⟨_, rfl⟩
  have hw := hw w98 e98
  refine v_copyi (ws' := [wX2 E h0 a0 w98, wX2 E h1 a1 u1].flatten) C 14 5 rfl rfl mM_X2_58 hi98 ⟨Nat.le_of_ble_eq_true rfl, Nat.le_of_ble_eq_true rfl⟩ (by rw [e98]; rfl) dX2_copyFrom_98 ?_
  refine v_aload_n C dX2_copyFrom_101 0 rfl ?_
  refine v_aload_n C dX2_copyFrom_102 1 rfl ?_
  refine v_get (ci := 2) C inT2 9 7 rfl rfl (by decide) mF_X2_49_X2_7 rfl dX2_copyFrom_103 ?_
  obtain ⟨w106, e106⟩ : ∃ z : Md, z = sF w98 7 (gF u1 7) := ⟨_, rfl⟩
  have hw := hw w106 e106
  refine v_put (ci := 2) (ws' := [wX2 E h0 a0 w106, wX2 E h1 a1 u1].flatten) C tyX2 tyX2_ok nmX2 inT2 0 7 rfl rfl (by decide) mF_X2_49_X2_7 rfl rfl rfl rfl (Nat.le_of_ble_eq_true rfl) (by rw [e106]; rfl) dX2_copyFrom_106 ?_
  refine v_aload_n C dX2_copyFrom_109 1 rfl ?_
  refine v_get (ci := 2) C inT2 9 8 rfl rfl (by decide) mF_X2_27_X2_8 rfl dX2_copyFrom_110 ?_
  refine v_iconst (v := 0) C dX2_copyFrom_113 (by decide) ?_
  refine v_aload_n C dX2_copyFrom_114 0 rfl ?_
  refine v_get (ci := 2) C inT2 0 8 rfl rfl (by decide) mF_X2_27_X2_8 rfl dX2_copyFrom_115 ?_
  refine v_iconst (v := 0) C dX2_copyFrom_118 (by decide) ?_
  refine v_aload_n C dX2_copyFrom_119 0 rfl ?_
  refine v_get (ci := 2) C inT2 0 7 rfl rfl (by decide) mF_X2_49_X2_7 rfl dX2_copyFrom_120 ?_
  obtain ⟨hi123, hw⟩ := hw
  obtain ⟨w123, e123⟩ : ∃ z : Md, z = sA w106 8 (va_cpy (gA u1 8) (gA w106 8) (0 : Int32).toNatClampNeg (0 : Int32).toNatClampNeg (gF w106 7).toNatClampNeg) := ⟨_, rfl⟩
  have hw := hw w123 e123
  refine v_copyi (ws' := [wX2 E h0 a0 w123, wX2 E h1 a1 u1].flatten) C 15 6 rfl rfl mM_X2_58 hi123 ⟨Nat.le_of_ble_eq_true rfl, Nat.le_of_ble_eq_true rfl⟩ (by rw [e123]; rfl) dX2_copyFrom_123 ?_
  refine v_aload_n C dX2_copyFrom_126 1 rfl ?_
  refine v_get (ci := 2) C inT2 9 9 rfl rfl (by decide) mF_X2_30_X2_9 rfl dX2_copyFrom_127 ?_
  refine v_iconst (v := 0) C dX2_copyFrom_130 (by decide) ?_
  refine v_aload_n C dX2_copyFrom_131 0 rfl ?_
  refine v_get (ci := 2) C inT2 0 9 rfl rfl (by decide) mF_X2_30_X2_9 rfl dX2_copyFrom_132 ?_
  refine v_iconst (v := 0) C dX2_copyFrom_135 (by decide) ?_
  refine v_aload_n C dX2_copyFrom_136 0 rfl ?_
  refine v_get (ci := 2) C inT2 0 7 rfl rfl (by decide) mF_X2_49_X2_7 rfl dX2_copyFrom_137 ?_
  obtain ⟨hi140, hw⟩ := hw
  obtain ⟨w140, e140⟩ : ∃ z : Md, z = sA w123 9 (va_cpy (gA u1 9) (gA w123 9) (0 : Int32).toNatClampNeg (0 : Int32).toNatClampNeg (gF w123 7).toNatClampNeg) := ⟨_, rfl⟩
  have hw := hw w140 e140
  refine v_copyi (ws' := [wX2 E h0 a0 w140, wX2 E h1 a1 u1].flatten) C 16 7 rfl rfl mM_X2_58 hi140 ⟨Nat.le_of_ble_eq_true rfl, Nat.le_of_ble_eq_true rfl⟩ (by rw [e140]; rfl) dX2_copyFrom_140 ?_
  refine v_aload_n C dX2_copyFrom_143 1 rfl ?_
  refine v_get (ci := 2) C inT2 9 10 rfl rfl (by decide) mF_X2_33_X2_10 rfl dX2_copyFrom_144 ?_
  refine v_iconst (v := 0) C dX2_copyFrom_147 (by decide) ?_
  refine v_aload_n C dX2_copyFrom_148 0 rfl ?_
  refine v_get (ci := 2) C inT2 0 10 rfl rfl (by decide) mF_X2_33_X2_10 rfl dX2_copyFrom_149 ?_
  refine v_iconst (v := 0) C dX2_copyFrom_152 (by decide) ?_
  refine v_aload_n C dX2_copyFrom_153 0 rfl ?_
  refine v_get (ci := 2) C inT2 0 7 rfl rfl (by decide) mF_X2_49_X2_7 rfl dX2_copyFrom_154 ?_
  obtain ⟨hi157, hw⟩ := hw
  obtain ⟨w157, e157⟩ : ∃ z : Md, z = sA w140 10 (va_cpy (gA u1 10) (gA w140 10) (0 : Int32).toNatClampNeg (0 : Int32).toNatClampNeg (gF w140 7).toNatClampNeg) := ⟨_, rfl⟩
  have hw := hw w157 e157
  refine v_copyi (ws' := [wX2 E h0 a0 w157, wX2 E h1 a1 u1].flatten) C 17 8 rfl rfl mM_X2_58 hi157 ⟨Nat.le_of_ble_eq_true rfl, Nat.le_of_ble_eq_true rfl⟩ (by rw [e157]; rfl) dX2_copyFrom_157 ?_
  exact hret _ _ _ _ (w157, u1) dX2_copyFrom_160 hw (Nat.le_of_ble_eq_true rfl) (Nat.le_of_ble_eq_true rfl)
set_option maxHeartbeats 4000000 in
set_option maxRecDepth 100000 in
theorem kX3_add {l : Launch} {E : VE} (h0 : Nat) (h1 : Nat) (a0 : Nat → Nat) (a1 : Nat → Nat) (u0 : Md) (u1 : Md) {Q : Int32 → Md → Md → Prop} (hw : qX3_add u0 u1 Q) : MI l yX3_add cX3_add 2 .boolean 1 0 0 E [.ref h0, .ref h1] ([wX3 E h0 a0 u0, wX9 E h1 a1 u1].flatten) (fun (U : Md × Md) => [wX3 E h0 a0 U.1, wX9 E h1 a1 U.2].flatten) (fun (r : Int32) (U : Md × Md) => (r = 0 ∨ r = 1) ∧ Q r U.1 U.2) := by
  refine MI.of (own := RX3) (by decide) rfl (Nat.le_of_ble_eq_true rfl) ?_
  intro X C hini hret
  show VV X 0 0 ([wX3 E h0 a0 u0, wX9 E h1 a1 u1].flatten) [(0, .ref h0), (1, .ref h1)] 0 []
  unfold qX3_add at hw
  refine v_aload_n C dX3_add_0 0 rfl ?_
  refine v_get (ci := 3) C inT3 0 1 rfl rfl (by decide) mF_X3_35_X3_1 rfl dX3_add_1 ?_
  refine v_bipush (v := 7) C dX3_add_4 (by decide) ?_
  refine v_icmp_ge (tgt := 18) C dX3_add_6 (by decide) (fun hc => ?_) (fun hc => ?_)
  · have hw := hw.1 hc
    refine v_iconst (v := 0) C dX3_add_18 (by decide) ?_
    exact hret _ _ _ _ 0 (u0, u1) dX3_add_19 rfl ⟨Or.inl rfl, hw⟩ (Nat.le_of_ble_eq_true rfl) (Nat.le_of_ble_eq_true rfl)
  · have hw := hw.2 hc
    refine v_aload_n C dX3_add_9 1 rfl ?_
    refine v_get (ci := 9) C inT9 7 1 rfl rfl (by decide) mF_X3_38_X9_1 rfl dX3_add_10 ?_
    refine v_bipush (v := 24) C dX3_add_13 (by decide) ?_
    refine v_icmp_le (tgt := 20) C dX3_add_15 (by decide) (fun hc => ?_) (fun hc => ?_)
    · have hw := hw.1 hc
      refine v_aload_n C dX3_add_20 0 rfl ?_
      refine v_get (ci := 3) C inT3 0 2 rfl rfl (by decide) mF_X3_15_X3_2 rfl dX3_add_21 ?_
      refine v_aload_n C dX3_add_24 0 rfl ?_
      refine v_get (ci := 3) C inT3 0 1 rfl rfl (by decide) mF_X3_35_X3_1 rfl dX3_add_25 ?_
      refine v_aload_n C dX3_add_28 1 rfl ?_
      refine v_get (ci := 9) C inT9 7 1 rfl rfl (by decide) mF_X3_38_X9_1 rfl dX3_add_29 ?_
      obtain ⟨hi32, hw⟩ := hw
      obtain ⟨w32, e32⟩ : ∃ z : Md, z = tA u0 2 (gF u0 1) (gF u1 1) := ⟨_, rfl⟩
      have hw := hw w32 e32
      refine v_iast (ws' := [wX3 E h0 a0 w32, wX9 E h1 a1 u1].flatten) C 1 rfl hi32 (by rw [e32]; rfl) dX3_add_32 ?_
      refine v_aload_n C dX3_add_33 1 rfl ?_
      refine v_get (ci := 9) C inT9 7 0 rfl rfl (by decide) mF_X3_41_X9_0 rfl dX3_add_34 ?_
      refine v_iconst (v := 0) C dX3_add_37 (by decide) ?_
      refine v_aload_n C dX3_add_38 0 rfl ?_
      refine v_get (ci := 3) C inT3 0 3 rfl rfl (by decide) mF_X3_19_X3_3 rfl dX3_add_39 ?_
      refine v_aload_n C dX3_add_42 0 rfl ?_
      refine v_get (ci := 3) C inT3 0 1 rfl rfl (by decide) mF_X3_35_X3_1 rfl dX3_add_43 ?_
      refine v_bipush (v := 24) C dX3_add_46 (by decide) ?_
      refine v_imul C dX3_add_48 ?_
      refine v_aload_n C dX3_add_49 1 rfl ?_
      refine v_get (ci := 9) C inT9 7 1 rfl rfl (by decide) mF_X3_38_X9_1 rfl dX3_add_50 ?_
      obtain ⟨hi53, hw⟩ := hw
      obtain ⟨w53, e53⟩ : ∃ z : Md, z = sB w32 3 (va_cpy (gB u1 0) (gB w32 3) (0 : Int32).toNatClampNeg ((gF w32 1) * 24).toNatClampNeg (gF u1 1).toNatClampNeg) := ⟨_, rfl⟩
      have hw := hw w53 e53
      refine v_copyb (ws' := [wX3 E h0 a0 w53, wX9 E h1 a1 u1].flatten) C 8 2 rfl rfl mM_X3_44 hi53 ⟨Nat.le_of_ble_eq_true rfl, Nat.le_of_ble_eq_true rfl⟩ (by rw [e53]; rfl) dX3_add_53 ?_
      refine v_aload_n C dX3_add_56 0 rfl ?_
      refine v_dup C dX3_add_57 rfl ?_
      refine v_get (ci := 3) C inT3 0 1 rfl rfl (by decide) mF_X3_35_X3_1 rfl dX3_add_58 ?_
      refine v_iconst (v := 1) C dX3_add_61 (by decide) ?_
      refine v_iadd C dX3_add_62 ?_
      obtain ⟨w63, e63⟩ : ∃ z : Md, z = sF w53 1 ((gF w53 1) + 1) := ⟨_, rfl⟩
      have hw := hw w63 e63
      refine v_put (ci := 3) (ws' := [wX3 E h0 a0 w63, wX9 E h1 a1 u1].flatten) C tyX3 tyX3_ok nmX3 inT3 0 1 rfl rfl (by decide) mF_X3_35_X3_1 rfl rfl rfl rfl (Nat.le_of_ble_eq_true rfl) (by rw [e63]; rfl) dX3_add_63 ?_
      refine v_iconst (v := 1) C dX3_add_66 (by decide) ?_
      exact hret _ _ _ _ 1 (w63, u1) dX3_add_67 rfl ⟨Or.inr rfl, hw⟩ (Nat.le_of_ble_eq_true rfl) (Nat.le_of_ble_eq_true rfl)
    · have hw := hw.2 hc
      refine v_iconst (v := 0) C dX3_add_18 (by decide) ?_
      exact hret _ _ _ _ 0 (u0, u1) dX3_add_19 rfl ⟨Or.inl rfl, hw⟩ (Nat.le_of_ble_eq_true rfl) (Nat.le_of_ble_eq_true rfl)
set_option maxHeartbeats 4000000 in
set_option maxRecDepth 100000 in
theorem jX3_choosePlaces_80 {X : VX} {E : VE} {l : Launch} (h0 : Nat) (h1 : Nat) (a0 : Nat → Nat) (a1 : Nat → Nat) (a1_2 : Nat → Nat) (a1_3 : Nat → Nat)  (Q : Int32 → Md → Md → Md → Md → Prop) (C : VC X cX3_choosePlaces 5 RX3 (rmL 0 0 0) E l) (hret : RetI X cX3_choosePlaces .boolean 0 0 (fun (U : Md × Md × Md × Md) => [wX3 E h0 a0 U.1, wX8 E h1 a1 U.2.1, wX2 E (a1 2) a1_2 U.2.2.1, wX7 E (a1 3) a1_3 U.2.2.2].flatten) (fun (r : Int32) (U : Md × Md × Md × Md) => (r = 0 ∨ r = 1) ∧ Q r U.1 U.2.1 U.2.2.1 U.2.2.2)) (K7 : Md → Md → Md → Md → Int32 → Prop) (hK7 : ∀ (u0 : Md) (u1 : Md) (u1_2 : Md) (u1_3 : Md) (y2 : Int32), K7 u0 u1 u1_2 u1_3 y2 → VV X 0 0 ([wX3 E h0 a0 u0, wX8 E h1 a1 u1, wX2 E (a1 2) a1_2 u1_2, wX7 E (a1 3) a1_3 u1_3].flatten) [(0, .ref h0), (1, .ref h1), (2, .int y2)] 7 []) : ∀ (u0 : Md) (u1 : Md) (u1_2 : Md) (u1_3 : Md) (y2 : Int32) (y3 : Int32), qX3_choosePlaces_80 Q K7 u0 u1 u1_2 u1_3 y2 y3 → VV X 0 0 ([wX3 E h0 a0 u0, wX8 E h1 a1 u1, wX2 E (a1 2) a1_2 u1_2, wX7 E (a1 3) a1_3 u1_3].flatten) [(0, .ref h0), (1, .ref h1), (2, .int y2), (3, .int y3)] 80 [] := by
  intro u0 u1 u1_2 u1_3 y2 y3 hw
  unfold qX3_choosePlaces_80 at hw
  refine v_iload_n C dX3_choosePlaces_80 3 rfl ?_
  refine v_if_eq (tgt := 104) C dX3_choosePlaces_81 (by decide) (fun hc => ?_) (fun hc => ?_)
  · have hw := hw.1 hc
    refine v_iinc (lv' := [(2, .int (y2 + Int32.ofInt 1)), (0, .ref h0), (1, .ref h1), (3, .int y3)]) C dX3_choosePlaces_104 2 rfl (by decide) rfl ?_
    refine v_goto (tgt := 7) C dX3_choosePlaces_107 (by decide) ?_
    refine v_lv C (lv' := [(0, .ref h0), (1, .ref h1), (2, .int (y2 + Int32.ofInt 1))]) [1, 2, 0] rfl ?_
    exact hK7 u0 u1 u1_2 u1_3 (y2 + Int32.ofInt 1) hw
  · have hw := hw.2 hc
    refine v_aload_n C dX3_choosePlaces_84 0 rfl ?_
    refine v_get (ci := 3) C inT3 0 7 rfl rfl (by decide) mF_X3_26_X3_7 rfl dX3_choosePlaces_85 ?_
    refine v_aload_n C dX3_choosePlaces_88 0 rfl ?_
    refine v_get (ci := 3) C inT3 0 6 rfl rfl (by decide) mF_X3_54_X3_6 rfl dX3_choosePlaces_89 ?_
    refine v_iload_n C dX3_choosePlaces_92 2 rfl ?_
    obtain ⟨hi93, hw⟩ := hw
    obtain ⟨w93, e93⟩ : ∃ z : Md, z = tA u0 7 (gF u0 6) y2 := ⟨_, rfl⟩
    have hw := hw w93 e93
    refine v_iast (ws' := [wX3 E h0 a0 w93, wX8 E h1 a1 u1, wX2 E (a1 2) a1_2 u1_2, wX7 E (a1 3) a1_3 u1_3].flatten) C 4 rfl hi93 (by rw [e93]; rfl) dX3_choosePlaces_93 ?_
    refine v_aload_n C dX3_choosePlaces_94 0 rfl ?_
    refine v_dup C dX3_choosePlaces_95 rfl ?_
    refine v_get (ci := 3) C inT3 0 6 rfl rfl (by decide) mF_X3_54_X3_6 rfl dX3_choosePlaces_96 ?_
    refine v_iconst (v := 1) C dX3_choosePlaces_99 (by decide) ?_
    refine v_iadd C dX3_choosePlaces_100 ?_
    obtain ⟨w101, e101⟩ : ∃ z : Md, z = sF w93 6 ((gF w93 6) + 1) := ⟨_, rfl⟩
    have hw := hw w101 e101
    refine v_put (ci := 3) (ws' := [wX3 E h0 a0 w101, wX8 E h1 a1 u1, wX2 E (a1 2) a1_2 u1_2, wX7 E (a1 3) a1_3 u1_3].flatten) C tyX3 tyX3_ok nmX3 inT3 0 6 rfl rfl (by decide) mF_X3_54_X3_6 rfl rfl rfl rfl (Nat.le_of_ble_eq_true rfl) (by rw [e101]; rfl) dX3_choosePlaces_101 ?_
    refine v_iinc (lv' := [(2, .int (y2 + Int32.ofInt 1)), (0, .ref h0), (1, .ref h1), (3, .int y3)]) C dX3_choosePlaces_104 2 rfl (by decide) rfl ?_
    refine v_goto (tgt := 7) C dX3_choosePlaces_107 (by decide) ?_
    refine v_lv C (lv' := [(0, .ref h0), (1, .ref h1), (2, .int (y2 + Int32.ofInt 1))]) [1, 2, 0] rfl ?_
    exact hK7 w101 u1 u1_2 u1_3 (y2 + Int32.ofInt 1) hw
set_option maxHeartbeats 4000000 in
set_option maxRecDepth 100000 in
theorem jX3_choosePlaces_65 {X : VX} {E : VE} {l : Launch} (h0 : Nat) (h1 : Nat) (a0 : Nat → Nat) (a1 : Nat → Nat) (a1_2 : Nat → Nat) (a1_3 : Nat → Nat)  (Q : Int32 → Md → Md → Md → Md → Prop) (C : VC X cX3_choosePlaces 5 RX3 (rmL 0 0 0) E l) (hret : RetI X cX3_choosePlaces .boolean 0 0 (fun (U : Md × Md × Md × Md) => [wX3 E h0 a0 U.1, wX8 E h1 a1 U.2.1, wX2 E (a1 2) a1_2 U.2.2.1, wX7 E (a1 3) a1_3 U.2.2.2].flatten) (fun (r : Int32) (U : Md × Md × Md × Md) => (r = 0 ∨ r = 1) ∧ Q r U.1 U.2.1 U.2.2.1 U.2.2.2)) (K7 : Md → Md → Md → Md → Int32 → Prop) (hK7 : ∀ (u0 : Md) (u1 : Md) (u1_2 : Md) (u1_3 : Md) (y2 : Int32), K7 u0 u1 u1_2 u1_3 y2 → VV X 0 0 ([wX3 E h0 a0 u0, wX8 E h1 a1 u1, wX2 E (a1 2) a1_2 u1_2, wX7 E (a1 3) a1_3 u1_3].flatten) [(0, .ref h0), (1, .ref h1), (2, .int y2)] 7 []) : ∀ (u0 : Md) (u1 : Md) (u1_2 : Md) (u1_3 : Md) (y2 : Int32) (y3 : Int32), qX3_choosePlaces_65 Q K7 u0 u1 u1_2 u1_3 y2 y3 → VV X 0 0 ([wX3 E h0 a0 u0, wX8 E h1 a1 u1, wX2 E (a1 2) a1_2 u1_2, wX7 E (a1 3) a1_3 u1_3].flatten) [(0, .ref h0), (1, .ref h1), (2, .int y2), (3, .int y3)] 65 [] := by
  intro u0 u1 u1_2 u1_3 y2 y3 hw
  unfold qX3_choosePlaces_65 at hw
  refine v_iload_n C dX3_choosePlaces_65 3 rfl ?_
  refine v_if_eq (tgt := 80) C dX3_choosePlaces_66 (by decide) (fun hc => ?_) (fun hc => ?_)
  · have hw := hw.1 hc
    exact jX3_choosePlaces_80 h0 h1 a0 a1 a1_2 a1_3 Q C hret K7 hK7 u0 u1 u1_2 u1_3 y2 y3 hw
  · have hw := hw.2 hc
    refine v_aload_n C dX3_choosePlaces_69 0 rfl ?_
    refine v_get (ci := 3) C inT3 0 6 rfl rfl (by decide) mF_X3_54_X3_6 rfl dX3_choosePlaces_70 ?_
    refine v_bipush (v := 10) C dX3_choosePlaces_73 (by decide) ?_
    refine v_icmp_lt (tgt := 80) C dX3_choosePlaces_75 (by decide) (fun hc => ?_) (fun hc => ?_)
    · have hw := hw.1 hc
      exact jX3_choosePlaces_80 h0 h1 a0 a1 a1_2 a1_3 Q C hret K7 hK7 u0 u1 u1_2 u1_3 y2 y3 hw
    · have hw := hw.2 hc
      refine v_iconst (v := 0) C dX3_choosePlaces_78 (by decide) ?_
      exact hret _ _ _ _ 0 (u0, u1, u1_2, u1_3) dX3_choosePlaces_79 rfl ⟨Or.inl rfl, hw⟩ (Nat.le_of_ble_eq_true rfl) (Nat.le_of_ble_eq_true rfl)
set_option maxHeartbeats 4000000 in
set_option maxRecDepth 100000 in
theorem jX3_choosePlaces_23 {X : VX} {E : VE} {l : Launch} (h0 : Nat) (h1 : Nat) (a0 : Nat → Nat) (a1 : Nat → Nat) (a1_2 : Nat → Nat) (a1_3 : Nat → Nat)  (Q : Int32 → Md → Md → Md → Md → Prop) (C : VC X cX3_choosePlaces 5 RX3 (rmL 0 0 0) E l) (hret : RetI X cX3_choosePlaces .boolean 0 0 (fun (U : Md × Md × Md × Md) => [wX3 E h0 a0 U.1, wX8 E h1 a1 U.2.1, wX2 E (a1 2) a1_2 U.2.2.1, wX7 E (a1 3) a1_3 U.2.2.2].flatten) (fun (r : Int32) (U : Md × Md × Md × Md) => (r = 0 ∨ r = 1) ∧ Q r U.1 U.2.1 U.2.2.1 U.2.2.2)) (K7 : Md → Md → Md → Md → Int32 → Prop) (hK7 : ∀ (u0 : Md) (u1 : Md) (u1_2 : Md) (u1_3 : Md) (y2 : Int32), K7 u0 u1 u1_2 u1_3 y2 → VV X 0 0 ([wX3 E h0 a0 u0, wX8 E h1 a1 u1, wX2 E (a1 2) a1_2 u1_2, wX7 E (a1 3) a1_3 u1_3].flatten) [(0, .ref h0), (1, .ref h1), (2, .int y2)] 7 []) : ∀ (n : Nat), ∀ (u0 : Md) (u1 : Md) (u1_2 : Md) (u1_3 : Md) (y2 : Int32) (y3 : Int32) (y4 : Int32), qX3_choosePlaces_23 Q K7 n u0 u1 u1_2 u1_3 y2 y3 y4 → VV X 0 0 ([wX3 E h0 a0 u0, wX8 E h1 a1 u1, wX2 E (a1 2) a1_2 u1_2, wX7 E (a1 3) a1_3 u1_3].flatten) [(0, .ref h0), (1, .ref h1), (2, .int y2), (3, .int y3), (4, .int y4)] 23 [] := by
  intro n
  induction n with
  | zero =>
    intro u0 u1 u1_2 u1_3 y2 y3 y4 hw
    exact hw.elim
  | succ n ih =>
    intro u0 u1 u1_2 u1_3 y2 y3 y4 hw
    unfold qX3_choosePlaces_23 at hw
    refine v_iload C dX3_choosePlaces_23 4 rfl ?_
    refine v_aload_n C dX3_choosePlaces_25 1 rfl ?_
    refine v_get (ci := 8) C inT8 7 3 rfl rfl (by decide) mF_X3_81_X8_3 rfl dX3_choosePlaces_26 ?_
    refine v_get (ci := 7) C inT7 18 0 rfl rfl (by decide) mF_X3_85_X7_0 rfl dX3_choosePlaces_29 ?_
    refine v_icmp_ge (tgt := 65) C dX3_choosePlaces_32 (by decide) (fun hc => ?_) (fun hc => ?_)
    · have hw := hw.1 hc
      refine v_lv C (lv' := [(0, .ref h0), (1, .ref h1), (2, .int y2), (3, .int y3)]) [0, 1, 2, 3] rfl ?_
      exact jX3_choosePlaces_65 h0 h1 a0 a1 a1_2 a1_3 Q C hret K7 hK7 u0 u1 u1_2 u1_3 y2 y3 hw
    · have hw := hw.2 hc
      refine v_iload_n C dX3_choosePlaces_35 3 rfl ?_
      refine v_if_ne (tgt := 65) C dX3_choosePlaces_36 (by decide) (fun hc => ?_) (fun hc => ?_)
      · have hw := hw.1 hc
        refine v_lv C (lv' := [(0, .ref h0), (1, .ref h1), (2, .int y2), (3, .int y3)]) [0, 1, 2, 3] rfl ?_
        exact jX3_choosePlaces_65 h0 h1 a0 a1 a1_2 a1_3 Q C hret K7 hK7 u0 u1 u1_2 u1_3 y2 y3 hw
      · have hw := hw.2 hc
        refine v_aload_n C dX3_choosePlaces_39 1 rfl ?_
        refine v_get (ci := 8) C inT8 7 3 rfl rfl (by decide) mF_X3_81_X8_3 rfl dX3_choosePlaces_40 ?_
        refine v_get (ci := 7) C inT7 18 1 rfl rfl (by decide) mF_X3_90_X7_1 rfl dX3_choosePlaces_43 ?_
        refine v_iload C dX3_choosePlaces_46 4 rfl ?_
        obtain ⟨hi48, hw⟩ := hw
        refine v_iald C 19 rfl hi48 dX3_choosePlaces_48 ?_
        refine v_iload_n C dX3_choosePlaces_49 2 rfl ?_
        refine v_icmp_ne (tgt := 57) C dX3_choosePlaces_50 (by decide) (fun hc => ?_) (fun hc => ?_)
        · have hw := hw.1 hc
          refine v_iconst (v := 0) C dX3_choosePlaces_57 (by decide) ?_
          refine v_istore_n (lv' := [(3, .int 0), (0, .ref h0), (1, .ref h1), (2, .int y2), (4, .int y4)]) C dX3_choosePlaces_58 (by decide) rfl ?_
          refine v_iinc (lv' := [(4, .int (y4 + Int32.ofInt 1)), (3, .int 0), (0, .ref h0), (1, .ref h1), (2, .int y2)]) C dX3_choosePlaces_59 4 rfl (by decide) rfl ?_
          refine v_goto (tgt := 23) C dX3_choosePlaces_62 (by decide) ?_
          refine v_lv C (lv' := [(0, .ref h0), (1, .ref h1), (2, .int y2), (3, .int 0), (4, .int (y4 + Int32.ofInt 1))]) [2, 3, 4, 1, 0] rfl ?_
          exact ih u0 u1 u1_2 u1_3 y2 0 (y4 + Int32.ofInt 1) hw
        · have hw := hw.2 hc
          refine v_iconst (v := 1) C dX3_choosePlaces_53 (by decide) ?_
          refine v_goto (tgt := 58) C dX3_choosePlaces_54 (by decide) ?_
          refine v_istore_n (lv' := [(3, .int 1), (0, .ref h0), (1, .ref h1), (2, .int y2), (4, .int y4)]) C dX3_choosePlaces_58 (by decide) rfl ?_
          refine v_iinc (lv' := [(4, .int (y4 + Int32.ofInt 1)), (3, .int 1), (0, .ref h0), (1, .ref h1), (2, .int y2)]) C dX3_choosePlaces_59 4 rfl (by decide) rfl ?_
          refine v_goto (tgt := 23) C dX3_choosePlaces_62 (by decide) ?_
          refine v_lv C (lv' := [(0, .ref h0), (1, .ref h1), (2, .int y2), (3, .int 1), (4, .int (y4 + Int32.ofInt 1))]) [2, 3, 4, 1, 0] rfl ?_
          exact ih u0 u1 u1_2 u1_3 y2 1 (y4 + Int32.ofInt 1) hw
set_option maxHeartbeats 4000000 in
set_option maxRecDepth 100000 in
theorem jX3_choosePlaces_7 {X : VX} {E : VE} {l : Launch} (h0 : Nat) (h1 : Nat) (a0 : Nat → Nat) (a1 : Nat → Nat) (a1_2 : Nat → Nat) (a1_3 : Nat → Nat)  (Q : Int32 → Md → Md → Md → Md → Prop) (C : VC X cX3_choosePlaces 5 RX3 (rmL 0 0 0) E l) (hret : RetI X cX3_choosePlaces .boolean 0 0 (fun (U : Md × Md × Md × Md) => [wX3 E h0 a0 U.1, wX8 E h1 a1 U.2.1, wX2 E (a1 2) a1_2 U.2.2.1, wX7 E (a1 3) a1_3 U.2.2.2].flatten) (fun (r : Int32) (U : Md × Md × Md × Md) => (r = 0 ∨ r = 1) ∧ Q r U.1 U.2.1 U.2.2.1 U.2.2.2))  : ∀ (n : Nat), ∀ (u0 : Md) (u1 : Md) (u1_2 : Md) (u1_3 : Md) (y2 : Int32), qX3_choosePlaces_7 Q n u0 u1 u1_2 u1_3 y2 → VV X 0 0 ([wX3 E h0 a0 u0, wX8 E h1 a1 u1, wX2 E (a1 2) a1_2 u1_2, wX7 E (a1 3) a1_3 u1_3].flatten) [(0, .ref h0), (1, .ref h1), (2, .int y2)] 7 [] := by
  intro n
  induction n with
  | zero =>
    intro u0 u1 u1_2 u1_3 y2 hw
    exact hw.elim
  | succ n ih =>
    intro u0 u1 u1_2 u1_3 y2 hw
    unfold qX3_choosePlaces_7 at hw
    refine v_iload_n C dX3_choosePlaces_7 2 rfl ?_
    refine v_aload_n C dX3_choosePlaces_8 1 rfl ?_
    refine v_get (ci := 8) C inT8 7 2 rfl rfl (by decide) mF_X3_61_X8_2 rfl dX3_choosePlaces_9 ?_
    refine v_get (ci := 2) C inT2 9 0 rfl rfl (by decide) mF_X3_78_X2_0 rfl dX3_choosePlaces_12 ?_
    refine v_icmp_ge (tgt := 110) C dX3_choosePlaces_15 (by decide) (fun hc => ?_) (fun hc => ?_)
    · have hw := hw.1 hc
      refine v_iconst (v := 1) C dX3_choosePlaces_110 (by decide) ?_
      exact hret _ _ _ _ 1 (u0, u1, u1_2, u1_3) dX3_choosePlaces_111 rfl ⟨Or.inr rfl, hw⟩ (Nat.le_of_ble_eq_true rfl) (Nat.le_of_ble_eq_true rfl)
    · have hw := hw.2 hc
      refine v_iconst (v := 0) C dX3_choosePlaces_18 (by decide) ?_
      refine v_istore_n (lv' := [(3, .int 0), (0, .ref h0), (1, .ref h1), (2, .int y2)]) C dX3_choosePlaces_19 (by decide) rfl ?_
      refine v_iconst (v := 0) C dX3_choosePlaces_20 (by decide) ?_
      refine v_istore (lv' := [(4, .int 0), (3, .int 0), (0, .ref h0), (1, .ref h1), (2, .int y2)]) C dX3_choosePlaces_21 (by decide) rfl ?_
      refine v_lv C (lv' := [(0, .ref h0), (1, .ref h1), (2, .int y2), (3, .int 0), (4, .int 0)]) [2, 3, 4, 1, 0] rfl ?_
      obtain ⟨n', hw⟩ := hw
      exact jX3_choosePlaces_23 h0 h1 a0 a1 a1_2 a1_3 Q C hret (qX3_choosePlaces_7 Q n) ih n' u0 u1 u1_2 u1_3 y2 0 0 hw
set_option maxHeartbeats 4000000 in
set_option maxRecDepth 100000 in
theorem kX3_choosePlaces {l : Launch} {E : VE} (h0 : Nat) (h1 : Nat) (a0 : Nat → Nat) (a1 : Nat → Nat) (a1_2 : Nat → Nat) (a1_3 : Nat → Nat) (u0 : Md) (u1 : Md) (u1_2 : Md) (u1_3 : Md) {Q : Int32 → Md → Md → Md → Md → Prop} (hw : qX3_choosePlaces u0 u1 u1_2 u1_3 Q) : MI l yX3_choosePlaces cX3_choosePlaces 5 .boolean 0 0 0 E [.ref h0, .ref h1] ([wX3 E h0 a0 u0, wX8 E h1 a1 u1, wX2 E (a1 2) a1_2 u1_2, wX7 E (a1 3) a1_3 u1_3].flatten) (fun (U : Md × Md × Md × Md) => [wX3 E h0 a0 U.1, wX8 E h1 a1 U.2.1, wX2 E (a1 2) a1_2 U.2.2.1, wX7 E (a1 3) a1_3 U.2.2.2].flatten) (fun (r : Int32) (U : Md × Md × Md × Md) => (r = 0 ∨ r = 1) ∧ Q r U.1 U.2.1 U.2.2.1 U.2.2.2) := by
  refine MI.of (own := RX3) (by decide) rfl (Nat.le_of_ble_eq_true rfl) ?_
  intro X C hini hret
  show VV X 0 0 ([wX3 E h0 a0 u0, wX8 E h1 a1 u1, wX2 E (a1 2) a1_2 u1_2, wX7 E (a1 3) a1_3 u1_3].flatten) [(0, .ref h0), (1, .ref h1)] 0 []
  unfold qX3_choosePlaces at hw
  refine v_aload_n C dX3_choosePlaces_0 0 rfl ?_
  refine v_iconst (v := 0) C dX3_choosePlaces_1 (by decide) ?_
  obtain ⟨w2, e2⟩ : ∃ z : Md, z = sF u0 6 0 := ⟨_, rfl⟩
  have hw := hw w2 e2
  refine v_put (ci := 3) (ws' := [wX3 E h0 a0 w2, wX8 E h1 a1 u1, wX2 E (a1 2) a1_2 u1_2, wX7 E (a1 3) a1_3 u1_3].flatten) C tyX3 tyX3_ok nmX3 inT3 0 6 rfl rfl (by decide) mF_X3_54_X3_6 rfl rfl rfl rfl (Nat.le_of_ble_eq_true rfl) (by rw [e2]; rfl) dX3_choosePlaces_2 ?_
  refine v_iconst (v := 0) C dX3_choosePlaces_5 (by decide) ?_
  refine v_istore_n (lv' := [(2, .int 0), (0, .ref h0), (1, .ref h1)]) C dX3_choosePlaces_6 (by decide) rfl ?_
  refine v_lv C (lv' := [(0, .ref h0), (1, .ref h1), (2, .int 0)]) [1, 2, 0] rfl ?_
  obtain ⟨n', hw⟩ := hw
  exact jX3_choosePlaces_7 h0 h1 a0 a1 a1_2 a1_3 Q C hret n' w2 u1 u1_2 u1_3 0 hw
set_option maxHeartbeats 4000000 in
set_option maxRecDepth 100000 in
theorem jX7_spellingAt_7 {X : VX} {E : VE} {l : Launch} (h0 : Nat) (a0 : Nat → Nat)  (Q : Int32 → Md → Prop) (C : VC X cX7_spellingAt 4 RX7 (rmL 0 0 0) E l) (hret : RetI X cX7_spellingAt .int 0 0 (fun (U : Md) => [wX7 E h0 a0 U].flatten) (fun (r : Int32) (U : Md) => Q r U))  : ∀ (n : Nat), ∀ (u0 : Md) (y1 : Int32) (y2 : Int32) (y3 : Int32), qX7_spellingAt_7 Q n u0 y1 y2 y3 → VV X 0 0 ([wX7 E h0 a0 u0].flatten) [(0, .ref h0), (1, .int y1), (2, .int y2), (3, .int y3)] 7 [] := by
  intro n
  induction n with
  | zero =>
    intro u0 y1 y2 y3 hw
    exact hw.elim
  | succ n ih =>
    intro u0 y1 y2 y3 hw
    unfold qX7_spellingAt_7 at hw
    refine v_iload_n C dX7_spellingAt_7 3 rfl ?_
    refine v_if_lt (tgt := 39) C dX7_spellingAt_8 (by decide) (fun hc => ?_) (fun hc => ?_)
    · have hw := hw.1 hc
      refine v_iconst (v := (-1)) C dX7_spellingAt_39 (by decide) ?_
      exact hret _ _ _ _ ((-1)) u0 dX7_spellingAt_40 rfl hw (Nat.le_of_ble_eq_true rfl) (Nat.le_of_ble_eq_true rfl)
    · have hw := hw.2 hc
      refine v_aload_n C dX7_spellingAt_11 0 rfl ?_
      refine v_get (ci := 7) C inT7 0 7 rfl rfl (by decide) mF_X7_28_X7_7 rfl dX7_spellingAt_12 ?_
      refine v_iload_n C dX7_spellingAt_15 3 rfl ?_
      obtain ⟨hi16, hw⟩ := hw
      refine v_iald C 6 rfl hi16 dX7_spellingAt_16 ?_
      refine v_iload_n C dX7_spellingAt_17 1 rfl ?_
      refine v_icmp_ne (tgt := 33) C dX7_spellingAt_18 (by decide) (fun hc => ?_) (fun hc => ?_)
      · have hw := hw.1 hc
        refine v_iinc (lv' := [(3, .int (y3 + Int32.ofInt (-1))), (0, .ref h0), (1, .int y1), (2, .int y2)]) C dX7_spellingAt_33 3 rfl (by decide) rfl ?_
        refine v_goto (tgt := 7) C dX7_spellingAt_36 (by decide) ?_
        refine v_lv C (lv' := [(0, .ref h0), (1, .int y1), (2, .int y2), (3, .int (y3 + Int32.ofInt (-1)))]) [1, 2, 3, 0] rfl ?_
        exact ih u0 y1 y2 (y3 + Int32.ofInt (-1)) hw
      · have hw := hw.2 hc
        refine v_aload_n C dX7_spellingAt_21 0 rfl ?_
        refine v_get (ci := 7) C inT7 0 8 rfl rfl (by decide) mF_X7_31_X7_8 rfl dX7_spellingAt_22 ?_
        refine v_iload_n C dX7_spellingAt_25 3 rfl ?_
        obtain ⟨hi26, hw⟩ := hw
        refine v_iald C 7 rfl hi26 dX7_spellingAt_26 ?_
        refine v_iload_n C dX7_spellingAt_27 2 rfl ?_
        refine v_icmp_gt (tgt := 33) C dX7_spellingAt_28 (by decide) (fun hc => ?_) (fun hc => ?_)
        · have hw := hw.1 hc
          refine v_iinc (lv' := [(3, .int (y3 + Int32.ofInt (-1))), (0, .ref h0), (1, .int y1), (2, .int y2)]) C dX7_spellingAt_33 3 rfl (by decide) rfl ?_
          refine v_goto (tgt := 7) C dX7_spellingAt_36 (by decide) ?_
          refine v_lv C (lv' := [(0, .ref h0), (1, .int y1), (2, .int y2), (3, .int (y3 + Int32.ofInt (-1)))]) [1, 2, 3, 0] rfl ?_
          exact ih u0 y1 y2 (y3 + Int32.ofInt (-1)) hw
        · have hw := hw.2 hc
          refine v_iload_n C dX7_spellingAt_31 3 rfl ?_
          exact hret _ _ _ _ y3 u0 dX7_spellingAt_32 rfl hw (Nat.le_of_ble_eq_true rfl) (Nat.le_of_ble_eq_true rfl)
set_option maxHeartbeats 4000000 in
set_option maxRecDepth 100000 in
theorem kX7_spellingAt {l : Launch} {E : VE} (h0 : Nat) (a0 : Nat → Nat) (u0 : Md) (x1 : Int32) (x2 : Int32) {Q : Int32 → Md → Prop} (hw : qX7_spellingAt u0 x1 x2 Q) : MI l yX7_spellingAt cX7_spellingAt 4 .int 0 0 0 E [.ref h0, .int x1, .int x2] ([wX7 E h0 a0 u0].flatten) (fun (U : Md) => [wX7 E h0 a0 U].flatten) (fun (r : Int32) (U : Md) => Q r U) := by
  refine MI.of (own := RX7) (by decide) rfl (Nat.le_of_ble_eq_true rfl) ?_
  intro X C hini hret
  show VV X 0 0 ([wX7 E h0 a0 u0].flatten) [(0, .ref h0), (1, .int x1), (2, .int x2)] 0 []
  unfold qX7_spellingAt at hw
  refine v_aload_n C dX7_spellingAt_0 0 rfl ?_
  refine v_get (ci := 7) C inT7 0 6 rfl rfl (by decide) mF_X7_93_X7_6 rfl dX7_spellingAt_1 ?_
  refine v_iconst (v := 1) C dX7_spellingAt_4 (by decide) ?_
  refine v_isub C dX7_spellingAt_5 ?_
  refine v_istore_n (lv' := [(3, .int ((gF u0 6) - 1)), (0, .ref h0), (1, .int x1), (2, .int x2)]) C dX7_spellingAt_6 (by decide) rfl ?_
  refine v_lv C (lv' := [(0, .ref h0), (1, .int x1), (2, .int x2), (3, .int ((gF u0 6) - 1))]) [1, 2, 3, 0] rfl ?_
  obtain ⟨n', hw⟩ := hw
  exact jX7_spellingAt_7 h0 a0 Q C hret n' u0 x1 x2 ((gF u0 6) - 1) hw
set_option maxHeartbeats 4000000 in
set_option maxRecDepth 100000 in
theorem jX7_fits_88 {X : VX} {E : VE} {l : Launch} (h0 : Nat) (a0 : Nat → Nat)  (Q : Int32 → Md → Prop) (C : VC X cX7_fits 6 RX7 (rmL 0 0 0) E l) (hret : RetI X cX7_fits .boolean 0 0 (fun (U : Md) => [wX7 E h0 a0 U].flatten) (fun (r : Int32) (U : Md) => (r = 0 ∨ r = 1) ∧ Q r U))  : ∀ (u0 : Md) (y1 : Int32) (y4 : Int32) (z0 : Int32), qX7_fits_88 Q u0 y1 y4 z0 → VV X 0 0 ([wX7 E h0 a0 u0].flatten) [(0, .ref h0), (1, .int y1), (4, .int y4)] 88 [.int z0] := by
  intro u0 y1 y4 z0 hw
  unfold qX7_fits_88 at hw
  refine v_istore (lv' := [(5, .int z0), (0, .ref h0), (1, .int y1), (4, .int y4)]) C dX7_fits_88 (by decide) rfl ?_
  refine v_iload C dX7_fits_90 0 rfl ?_
  refine v_if_eq (tgt := 122) C dX7_fits_92 (by decide) (fun hc => ?_) (fun hc => ?_)
  · have hw := hw.1 hc
    refine v_iconst (v := 0) C dX7_fits_122 (by decide) ?_
    exact hret _ _ _ _ 0 u0 dX7_fits_123 rfl ⟨Or.inl rfl, hw⟩ (Nat.le_of_ble_eq_true rfl) (Nat.le_of_ble_eq_true rfl)
  · have hw := hw.2 hc
    refine v_aload_n C dX7_fits_95 1 rfl ?_
    refine v_get (ci := 7) C inT7 0 11 rfl rfl (by decide) mF_X7_40_X7_11 rfl dX7_fits_96 ?_
    refine v_iload_n C dX7_fits_99 2 rfl ?_
    obtain ⟨hi100, hw⟩ := hw
    refine v_iald C 10 rfl hi100 dX7_fits_100 ?_
    refine v_aload_n C dX7_fits_101 1 rfl ?_
    refine v_get (ci := 7) C inT7 0 5 rfl rfl (by decide) mF_X7_24_X7_5 rfl dX7_fits_102 ?_
    refine v_iload C dX7_fits_105 3 rfl ?_
    obtain ⟨hi107, hw⟩ := hw
    refine v_bald C 5 rfl hi107 dX7_fits_107 ?_
    refine v_bipush (v := 97) C dX7_fits_108 (by decide) ?_
    refine v_isub C dX7_fits_110 ?_
    refine v_ishr C dX7_fits_111 ?_
    refine v_iconst (v := 1) C dX7_fits_112 (by decide) ?_
    refine v_iand C dX7_fits_113 ?_
    refine v_iconst (v := 1) C dX7_fits_114 (by decide) ?_
    refine v_icmp_ne (tgt := 122) C dX7_fits_115 (by decide) (fun hc => ?_) (fun hc => ?_)
    · have hw := hw.1 hc
      refine v_iconst (v := 0) C dX7_fits_122 (by decide) ?_
      exact hret _ _ _ _ 0 u0 dX7_fits_123 rfl ⟨Or.inl rfl, hw⟩ (Nat.le_of_ble_eq_true rfl) (Nat.le_of_ble_eq_true rfl)
    · have hw := hw.2 hc
      refine v_iconst (v := 1) C dX7_fits_118 (by decide) ?_
      refine v_goto (tgt := 123) C dX7_fits_119 (by decide) ?_
      exact hret _ _ _ _ 1 u0 dX7_fits_123 rfl ⟨Or.inr rfl, hw⟩ (Nat.le_of_ble_eq_true rfl) (Nat.le_of_ble_eq_true rfl)
set_option maxHeartbeats 4000000 in
set_option maxRecDepth 100000 in
theorem jX7_fits_21 {X : VX} {E : VE} {l : Launch} (h0 : Nat) (a0 : Nat → Nat)  (Q : Int32 → Md → Prop) (C : VC X cX7_fits 6 RX7 (rmL 0 0 0) E l) (hret : RetI X cX7_fits .boolean 0 0 (fun (U : Md) => [wX7 E h0 a0 U].flatten) (fun (r : Int32) (U : Md) => (r = 0 ∨ r = 1) ∧ Q r U))  : ∀ (n : Nat), ∀ (u0 : Md) (y1 : Int32) (y2 : Int32) (y4 : Int32) (y5 : Int32), qX7_fits_21 Q n u0 y1 y2 y4 y5 → VV X 0 0 ([wX7 E h0 a0 u0].flatten) [(0, .ref h0), (1, .int y1), (2, .int y2), (4, .int y4), (5, .int y5)] 21 [] := by
  intro n
  induction n with
  | zero =>
    intro u0 y1 y2 y4 y5 hw
    exact hw.elim
  | succ n ih =>
    intro u0 y1 y2 y4 y5 hw
    unfold qX7_fits_21 at hw
    refine v_iload C dX7_fits_21 4 rfl ?_
    refine v_iload C dX7_fits_23 3 rfl ?_
    refine v_icmp_ge (tgt := 59) C dX7_fits_25 (by decide) (fun hc => ?_) (fun hc => ?_)
    · have hw := hw.1 hc
      refine v_aload_n C dX7_fits_59 0 rfl ?_
      refine v_get (ci := 7) C inT7 0 10 rfl rfl (by decide) mF_X7_37_X7_10 rfl dX7_fits_60 ?_
      refine v_iload_n C dX7_fits_63 1 rfl ?_
      obtain ⟨hi64, hw⟩ := hw
      refine v_iald C 9 rfl hi64 dX7_fits_64 ?_
      refine v_aload_n C dX7_fits_65 0 rfl ?_
      refine v_get (ci := 7) C inT7 0 5 rfl rfl (by decide) mF_X7_24_X7_5 rfl dX7_fits_66 ?_
      refine v_iload_n C dX7_fits_69 2 rfl ?_
      refine v_iconst (v := 1) C dX7_fits_70 (by decide) ?_
      refine v_isub C dX7_fits_71 ?_
      obtain ⟨hi72, hw⟩ := hw
      refine v_bald C 5 rfl hi72 dX7_fits_72 ?_
      refine v_bipush (v := 97) C dX7_fits_73 (by decide) ?_
      refine v_isub C dX7_fits_75 ?_
      refine v_ishr C dX7_fits_76 ?_
      refine v_iconst (v := 1) C dX7_fits_77 (by decide) ?_
      refine v_iand C dX7_fits_78 ?_
      refine v_iconst (v := 1) C dX7_fits_79 (by decide) ?_
      refine v_icmp_ne (tgt := 87) C dX7_fits_80 (by decide) (fun hc => ?_) (fun hc => ?_)
      · have hw := hw.1 hc
        refine v_iconst (v := 0) C dX7_fits_87 (by decide) ?_
        refine v_lv C (lv' := [(0, .ref h0), (1, .int y1), (4, .int y4)]) [0, 1, 3] rfl ?_
        exact jX7_fits_88 h0 a0 Q C hret u0 y1 y4 0 hw
      · have hw := hw.2 hc
        refine v_iconst (v := 1) C dX7_fits_83 (by decide) ?_
        refine v_goto (tgt := 88) C dX7_fits_84 (by decide) ?_
        refine v_lv C (lv' := [(0, .ref h0), (1, .int y1), (4, .int y4)]) [0, 1, 3] rfl ?_
        exact jX7_fits_88 h0 a0 Q C hret u0 y1 y4 1 hw
    · have hw := hw.2 hc
      refine v_aload_n C dX7_fits_28 0 rfl ?_
      refine v_get (ci := 7) C inT7 0 5 rfl rfl (by decide) mF_X7_24_X7_5 rfl dX7_fits_29 ?_
      refine v_iload C dX7_fits_32 4 rfl ?_
      obtain ⟨hi34, hw⟩ := hw
      refine v_bald C 5 rfl hi34 dX7_fits_34 ?_
      refine v_aload_n C dX7_fits_35 0 rfl ?_
      refine v_get (ci := 7) C inT7 0 14 rfl rfl (by decide) mF_X7_49_X7_14 rfl dX7_fits_36 ?_
      refine v_iload_n C dX7_fits_39 1 rfl ?_
      refine v_iconst (v := 3) C dX7_fits_40 (by decide) ?_
      refine v_imul C dX7_fits_41 ?_
      refine v_iload C dX7_fits_42 4 rfl ?_
      refine v_iadd C dX7_fits_44 ?_
      refine v_iload_n C dX7_fits_45 2 rfl ?_
      refine v_isub C dX7_fits_46 ?_
      obtain ⟨hi47, hw⟩ := hw
      refine v_bald C 13 rfl hi47 dX7_fits_47 ?_
      refine v_icmp_eq (tgt := 53) C dX7_fits_48 (by decide) (fun hc => ?_) (fun hc => ?_)
      · have hw := hw.1 hc
        refine v_iinc (lv' := [(5, .int (y5 + Int32.ofInt 1)), (0, .ref h0), (1, .int y1), (2, .int y2), (4, .int y4)]) C dX7_fits_53 4 rfl (by decide) rfl ?_
        refine v_goto (tgt := 21) C dX7_fits_56 (by decide) ?_
        refine v_lv C (lv' := [(0, .ref h0), (1, .int y1), (2, .int y2), (4, .int y4), (5, .int (y5 + Int32.ofInt 1))]) [1, 2, 3, 4, 0] rfl ?_
        exact ih u0 y1 y2 y4 (y5 + Int32.ofInt 1) hw
      · have hw := hw.2 hc
        refine v_iconst (v := 0) C dX7_fits_51 (by decide) ?_
        exact hret _ _ _ _ 0 u0 dX7_fits_52 rfl ⟨Or.inl rfl, hw⟩ (Nat.le_of_ble_eq_true rfl) (Nat.le_of_ble_eq_true rfl)
set_option maxHeartbeats 4000000 in
set_option maxRecDepth 100000 in
theorem kX7_fits {l : Launch} {E : VE} (h0 : Nat) (a0 : Nat → Nat) (u0 : Md) (x1 : Int32) (x2 : Int32) (x3 : Int32) {Q : Int32 → Md → Prop} (hw : qX7_fits u0 x1 x2 x3 Q) : MI l yX7_fits cX7_fits 6 .boolean 0 0 0 E [.ref h0, .int x1, .int x2, .int x3] ([wX7 E h0 a0 u0].flatten) (fun (U : Md) => [wX7 E h0 a0 U].flatten) (fun (r : Int32) (U : Md) => (r = 0 ∨ r = 1) ∧ Q r U) := by
  refine MI.of (own := RX7) (by decide) rfl (Nat.le_of_ble_eq_true rfl) ?_
  intro X C hini hret
  show VV X 0 0 ([wX7 E h0 a0 u0].flatten) [(0, .ref h0), (1, .int x1), (2, .int x2), (3, .int x3)] 0 []
  unfold qX7_fits at hw
  refine v_iload_n C dX7_fits_0 2 rfl ?_
  refine v_aload_n C dX7_fits_1 0 rfl ?_
  refine v_get (ci := 7) C inT7 0 12 rfl rfl (by decide) mF_X7_43_X7_12 rfl dX7_fits_2 ?_
  refine v_iload_n C dX7_fits_5 1 rfl ?_
  obtain ⟨hi6, hw⟩ := hw
  refine v_iald C 11 rfl hi6 dX7_fits_6 ?_
  refine v_iadd C dX7_fits_7 ?_
  refine v_istore (lv' := [(4, .int (x2 + (gA u0 12 x1.toNatClampNeg))), (0, .ref h0), (1, .int x1), (2, .int x2), (3, .int x3)]) C dX7_fits_8 (by decide) rfl ?_
  refine v_iload C dX7_fits_10 0 rfl ?_
  refine v_iload_n C dX7_fits_12 4 rfl ?_
  refine v_icmp_le (tgt := 18) C dX7_fits_13 (by decide) (fun hc => ?_) (fun hc => ?_)
  · have hw := hw.1 hc
    refine v_iload_n C dX7_fits_18 3 rfl ?_
    refine v_istore (lv' := [(5, .int x2), (4, .int (x2 + (gA u0 12 x1.toNatClampNeg))), (0, .ref h0), (1, .int x1), (2, .int x2), (3, .int x3)]) C dX7_fits_19 (by decide) rfl ?_
    refine v_lv C (lv' := [(0, .ref h0), (1, .int x1), (2, .int x2), (4, .int (x2 + (gA u0 12 x1.toNatClampNeg))), (5, .int x2)]) [2, 3, 4, 1, 0] rfl ?_
    obtain ⟨n', hw⟩ := hw
    exact jX7_fits_21 h0 a0 Q C hret n' u0 x1 x2 (x2 + (gA u0 12 x1.toNatClampNeg)) x2 hw
  · have hw := hw.2 hc
    refine v_iconst (v := 0) C dX7_fits_16 (by decide) ?_
    exact hret _ _ _ _ 0 u0 dX7_fits_17 rfl ⟨Or.inl rfl, hw⟩ (Nat.le_of_ble_eq_true rfl) (Nat.le_of_ble_eq_true rfl)
set_option maxHeartbeats 4000000 in
set_option maxRecDepth 100000 in
theorem jX7_ruleFor_17 {X : VX} {E : VE} {l : Launch} (h0 : Nat) (a0 : Nat → Nat)  (Q : Int32 → Md → Prop) (C : VC X cX7_ruleFor 6 RX7 (rmL 1 0 0) E l) (hret : RetI X cX7_ruleFor .int 0 0 (fun (U : Md) => [wX7 E h0 a0 U].flatten) (fun (r : Int32) (U : Md) => Q r U))  : ∀ (n : Nat), ∀ (u0 : Md) (y1 : Int32) (y2 : Int32) (y3 : Int32) (y4 : Int32) (y5 : Int32), qX7_ruleFor_17 Q n u0 y1 y2 y3 y4 y5 → VV X 0 0 ([wX7 E h0 a0 u0].flatten) [(0, .ref h0), (1, .int y1), (2, .int y2), (3, .int y3), (4, .int y4), (5, .int y5)] 17 [] := by
  intro n
  induction n with
  | zero =>
    intro u0 y1 y2 y3 y4 y5 hw
    exact hw.elim
  | succ n ih =>
    intro u0 y1 y2 y3 y4 y5 hw
    unfold qX7_ruleFor_17 at hw
    refine v_iload C dX7_ruleFor_17 5 rfl ?_
    refine v_iload C dX7_ruleFor_19 4 rfl ?_
    refine v_aload_n C dX7_ruleFor_21 0 rfl ?_
    refine v_get (ci := 7) C inT7 0 9 rfl rfl (by decide) mF_X7_34_X7_9 rfl dX7_ruleFor_22 ?_
    refine v_iload_n C dX7_ruleFor_25 1 rfl ?_
    obtain ⟨hi26, hw⟩ := hw
    refine v_iald C 8 rfl hi26 dX7_ruleFor_26 ?_
    refine v_iadd C dX7_ruleFor_27 ?_
    refine v_icmp_ge (tgt := 51) C dX7_ruleFor_28 (by decide) (fun hc => ?_) (fun hc => ?_)
    · have hw := hw.1 hc
      refine v_iconst (v := (-1)) C dX7_ruleFor_51 (by decide) ?_
      exact hret _ _ _ _ ((-1)) u0 dX7_ruleFor_52 rfl hw (Nat.le_of_ble_eq_true rfl) (Nat.le_of_ble_eq_true rfl)
    · have hw := hw.2 hc
      refine v_aload_n C dX7_ruleFor_31 0 rfl ?_
      refine v_iload C dX7_ruleFor_32 5 rfl ?_
      refine v_iload_n C dX7_ruleFor_34 2 rfl ?_
      refine v_iload_n C dX7_ruleFor_35 3 rfl ?_
      refine v_callFi (st := []) (ci := 7) (qb := 0) C (kX7_fits h0 a0 _ _ _ _ hw) mM_X7_145 mI_X7 mC_X7_fits mN_X7_fits mS_X7_fits rfl rfl hd_X7_fits ⟨Nat.le_of_ble_eq_true rfl, Nat.le_of_ble_eq_true rfl⟩ ⟨Nat.le_of_ble_eq_true rfl, Nat.le_of_ble_eq_true rfl⟩ rfl (Nat.le_of_ble_eq_true rfl) dX7_ruleFor_36 (fun r36 v36_0 hw => ?_)
      obtain ⟨h01_36, hw⟩ := hw
      have hw := hw h01_36
      refine v_if_eq (tgt := 45) C dX7_ruleFor_39 (by decide) (fun hc => ?_) (fun hc => ?_)
      · have hw := hw.1 hc
        refine v_iinc (lv' := [(5, .int (y5 + Int32.ofInt 1)), (0, .ref h0), (1, .int y1), (2, .int y2), (3, .int y3), (4, .int y4)]) C dX7_ruleFor_45 5 rfl (by decide) rfl ?_
        refine v_goto (tgt := 17) C dX7_ruleFor_48 (by decide) ?_
        refine v_lv C (lv' := [(0, .ref h0), (1, .int y1), (2, .int y2), (3, .int y3), (4, .int y4), (5, .int (y5 + Int32.ofInt 1))]) [1, 2, 3, 4, 5, 0] rfl ?_
        exact ih v36_0 y1 y2 y3 y4 (y5 + Int32.ofInt 1) hw
      · have hw := hw.2 hc
        refine v_iload C dX7_ruleFor_42 5 rfl ?_
        exact hret _ _ _ _ y5 v36_0 dX7_ruleFor_44 rfl hw (Nat.le_of_ble_eq_true rfl) (Nat.le_of_ble_eq_true rfl)
set_option maxHeartbeats 4000000 in
set_option maxRecDepth 100000 in
theorem kX7_ruleFor {l : Launch} {E : VE} (h0 : Nat) (a0 : Nat → Nat) (u0 : Md) (x1 : Int32) (x2 : Int32) (x3 : Int32) {Q : Int32 → Md → Prop} (hw : qX7_ruleFor u0 x1 x2 x3 Q) : MI l yX7_ruleFor cX7_ruleFor 6 .int 1 0 0 E [.ref h0, .int x1, .int x2, .int x3] ([wX7 E h0 a0 u0].flatten) (fun (U : Md) => [wX7 E h0 a0 U].flatten) (fun (r : Int32) (U : Md) => Q r U) := by
  refine MI.of (own := RX7) (by decide) rfl (Nat.le_of_ble_eq_true rfl) ?_
  intro X C hini hret
  show VV X 0 0 ([wX7 E h0 a0 u0].flatten) [(0, .ref h0), (1, .int x1), (2, .int x2), (3, .int x3)] 0 []
  unfold qX7_ruleFor at hw
  refine v_iload_n C dX7_ruleFor_0 1 rfl ?_
  refine v_iconst (v := (-1)) C dX7_ruleFor_1 (by decide) ?_
  refine v_icmp_ne (tgt := 7) C dX7_ruleFor_2 (by decide) (fun hc => ?_) (fun hc => ?_)
  · have hw := hw.1 hc
    refine v_iload_n C dX7_ruleFor_7 1 rfl ?_
    refine v_bipush (v := 16) C dX7_ruleFor_8 (by decide) ?_
    refine v_imul C dX7_ruleFor_10 ?_
    refine v_istore (lv' := [(4, .int (x1 * 16)), (0, .ref h0), (1, .int x1), (2, .int x2), (3, .int x3)]) C dX7_ruleFor_11 (by decide) rfl ?_
    refine v_iload C dX7_ruleFor_13 0 rfl ?_
    refine v_istore (lv' := [(5, .int (x1 * 16)), (4, .int (x1 * 16)), (0, .ref h0), (1, .int x1), (2, .int x2), (3, .int x3)]) C dX7_ruleFor_15 (by decide) rfl ?_
    refine v_lv C (lv' := [(0, .ref h0), (1, .int x1), (2, .int x2), (3, .int x3), (4, .int (x1 * 16)), (5, .int (x1 * 16))]) [2, 3, 4, 5, 1, 0] rfl ?_
    obtain ⟨n', hw⟩ := hw
    exact jX7_ruleFor_17 h0 a0 Q C hret n' u0 x1 x2 x3 (x1 * 16) (x1 * 16) hw
  · have hw := hw.2 hc
    refine v_iconst (v := (-1)) C dX7_ruleFor_5 (by decide) ?_
    exact hret _ _ _ _ ((-1)) u0 dX7_ruleFor_6 rfl hw (Nat.le_of_ble_eq_true rfl) (Nat.le_of_ble_eq_true rfl)
set_option maxHeartbeats 4000000 in
set_option maxRecDepth 100000 in
theorem kX5_add {l : Launch} {E : VE} (h0 : Nat) (a0 : Nat → Nat) (u0 : Md) (x1 : Int32) (x2 : Int32) {Q : Md → Prop} (hw : qX5_add u0 x1 x2 Q) : MV l yX5_add cX5_add 3 0 0 0 E [.ref h0, .int x1, .int x2] ([wX5 E h0 a0 u0].flatten) (fun (U : Md) => [wX5 E h0 a0 U].flatten) (fun (U : Md) => Q U) := by
  refine MV.of (own := RX5) (by decide) rfl (Nat.le_of_ble_eq_true rfl) ?_
  intro X C hini hret
  show VV X 0 0 ([wX5 E h0 a0 u0].flatten) [(0, .ref h0), (1, .int x1), (2, .int x2)] 0 []
  unfold qX5_add at hw
  refine v_aload_n C dX5_add_0 0 rfl ?_
  refine v_get (ci := 5) C inT5 0 0 rfl rfl (by decide) mF_X5_17_X5_0 rfl dX5_add_1 ?_
  refine v_bipush (v := 73) C dX5_add_4 (by decide) ?_
  refine v_icmp_ge (tgt := 40) C dX5_add_6 (by decide) (fun hc => ?_) (fun hc => ?_)
  · have hw := hw.1 hc
    exact hret _ _ _ _ u0 dX5_add_40 hw (Nat.le_of_ble_eq_true rfl) (Nat.le_of_ble_eq_true rfl)
  · have hw := hw.2 hc
    refine v_aload_n C dX5_add_9 0 rfl ?_
    refine v_get (ci := 5) C inT5 0 1 rfl rfl (by decide) mF_X5_9_X5_1 rfl dX5_add_10 ?_
    refine v_aload_n C dX5_add_13 0 rfl ?_
    refine v_get (ci := 5) C inT5 0 0 rfl rfl (by decide) mF_X5_17_X5_0 rfl dX5_add_14 ?_
    refine v_iload_n C dX5_add_17 1 rfl ?_
    refine v_i2b C dX5_add_18 ?_
    obtain ⟨hi19, hw⟩ := hw
    obtain ⟨w19, e19⟩ : ∃ z : Md, z = tB u0 1 (gF u0 0) x1.toInt8.toInt32 := ⟨_, rfl⟩
    have hw := hw w19 e19
    refine v_bast (ws' := [wX5 E h0 a0 w19].flatten) C 1 rfl hi19 (by rw [e19]; rfl) dX5_add_19 ?_
    refine v_aload_n C dX5_add_20 0 rfl ?_
    refine v_get (ci := 5) C inT5 0 2 rfl rfl (by decide) mF_X5_13_X5_2 rfl dX5_add_21 ?_
    refine v_aload_n C dX5_add_24 0 rfl ?_
    refine v_get (ci := 5) C inT5 0 0 rfl rfl (by decide) mF_X5_17_X5_0 rfl dX5_add_25 ?_
    refine v_iload_n C dX5_add_28 2 rfl ?_
    obtain ⟨hi29, hw⟩ := hw
    obtain ⟨w29, e29⟩ : ∃ z : Md, z = tA w19 2 (gF w19 0) x2 := ⟨_, rfl⟩
    have hw := hw w29 e29
    refine v_iast (ws' := [wX5 E h0 a0 w29].flatten) C 2 rfl hi29 (by rw [e29]; rfl) dX5_add_29 ?_
    refine v_aload_n C dX5_add_30 0 rfl ?_
    refine v_dup C dX5_add_31 rfl ?_
    refine v_get (ci := 5) C inT5 0 0 rfl rfl (by decide) mF_X5_17_X5_0 rfl dX5_add_32 ?_
    refine v_iconst (v := 1) C dX5_add_35 (by decide) ?_
    refine v_iadd C dX5_add_36 ?_
    obtain ⟨w37, e37⟩ : ∃ z : Md, z = sF w29 0 ((gF w29 0) + 1) := ⟨_, rfl⟩
    have hw := hw w37 e37
    refine v_put (ci := 5) (ws' := [wX5 E h0 a0 w37].flatten) C tyX5 tyX5_ok nmX5 inT5 0 0 rfl rfl (by decide) mF_X5_17_X5_0 rfl rfl rfl rfl (Nat.le_of_ble_eq_true rfl) (by rw [e37]; rfl) dX5_add_37 ?_
    exact hret _ _ _ _ w37 dX5_add_40 hw (Nat.le_of_ble_eq_true rfl) (Nat.le_of_ble_eq_true rfl)
set_option maxHeartbeats 4000000 in
set_option maxRecDepth 100000 in
theorem jX7_spellInto_105 {X : VX} {E : VE} {l : Launch} (h0 : Nat) (h1 : Nat) (a0 : Nat → Nat) (a1 : Nat → Nat)  (Q : Md → Md → Prop) (C : VC X cX7_spellInto 11 RX7 (rmL 2 0 0) E l) (hret : RetV X cX7_spellInto 0 0 (fun (U : Md × Md) => [wX7 E h0 a0 U.1, wX5 E h1 a1 U.2].flatten) (fun (U : Md × Md) => Q U.1 U.2)) (K35 : Md → Md → Int32 → Int32 → Int32 → Int32 → Prop) (hK35 : ∀ (u0 : Md) (u1 : Md) (y4 : Int32) (y5 : Int32) (y6 : Int32) (y7 : Int32), K35 u0 u1 y4 y5 y6 y7 → VV X 0 0 ([wX7 E h0 a0 u0, wX5 E h1 a1 u1].flatten) [(0, .ref h0), (1, .ref h1), (4, .int y4), (5, .int y5), (6, .int y6), (7, .int y7)] 35 []) : ∀ (n : Nat), ∀ (u0 : Md) (u1 : Md) (y4 : Int32) (y5 : Int32) (y6 : Int32) (y7 : Int32) (y8 : Int32) (y9 : Int32) (y10 : Int32), qX7_spellInto_105 Q K35 n u0 u1 y4 y5 y6 y7 y8 y9 y10 → VV X 0 0 ([wX7 E h0 a0 u0, wX5 E h1 a1 u1].flatten) [(0, .ref h0), (1, .ref h1), (4, .int y4), (5, .int y5), (6, .int y6), (7, .int y7), (8, .int y8), (9, .int y9), (10, .int y10)] 105 [] := by
  intro n
  induction n with
  | zero =>
    intro u0 u1 y4 y5 y6 y7 y8 y9 y10 hw
    exact hw.elim
  | succ n ih =>
    intro u0 u1 y4 y5 y6 y7 y8 y9 y10 hw
    unfold qX7_spellInto_105 at hw
    refine v_iload C dX7_spellInto_105 8 rfl ?_
    refine v_aload_n C dX7_spellInto_107 0 rfl ?_
    refine v_get (ci := 7) C inT7 0 13 rfl rfl (by decide) mF_X7_46_X7_13 rfl dX7_spellInto_108 ?_
    refine v_iload C dX7_spellInto_111 6 rfl ?_
    obtain ⟨hi113, hw⟩ := hw
    refine v_iald C 12 rfl hi113 dX7_spellInto_113 ?_
    refine v_icmp_ge (tgt := 141) C dX7_spellInto_114 (by decide) (fun hc => ?_) (fun hc => ?_)
    · have hw := hw.1 hc
      refine v_iload C dX7_spellInto_141 3 rfl ?_
      refine v_aload_n C dX7_spellInto_143 0 rfl ?_
      refine v_get (ci := 7) C inT7 0 12 rfl rfl (by decide) mF_X7_43_X7_12 rfl dX7_spellInto_144 ?_
      refine v_iload C dX7_spellInto_147 6 rfl ?_
      obtain ⟨hi149, hw⟩ := hw
      refine v_iald C 11 rfl hi149 dX7_spellInto_149 ?_
      refine v_iadd C dX7_spellInto_150 ?_
      refine v_istore (lv' := [(5, .int (y5 + (gA u0 12 y8.toNatClampNeg))), (0, .ref h0), (1, .ref h1), (4, .int y4), (6, .int y6), (7, .int y7), (8, .int y8), (9, .int y9), (10, .int y10)]) C dX7_spellInto_151 (by decide) rfl ?_
      refine v_iinc (lv' := [(7, .int (y7 + Int32.ofInt 1)), (5, .int (y5 + (gA u0 12 y8.toNatClampNeg))), (0, .ref h0), (1, .ref h1), (4, .int y4), (6, .int y6), (8, .int y8), (9, .int y9), (10, .int y10)]) C dX7_spellInto_153 5 rfl (by decide) rfl ?_
      refine v_goto (tgt := 35) C dX7_spellInto_156 (by decide) ?_
      refine v_lv C (lv' := [(0, .ref h0), (1, .ref h1), (4, .int y4), (5, .int (y5 + (gA u0 12 y8.toNatClampNeg))), (6, .int y6), (7, .int (y7 + Int32.ofInt 1))]) [2, 3, 4, 1, 5, 0] rfl ?_
      exact hK35 u0 u1 y4 (y5 + (gA u0 12 y8.toNatClampNeg)) y6 (y7 + Int32.ofInt 1) hw
    · have hw := hw.2 hc
      refine v_aload_n C dX7_spellInto_117 1 rfl ?_
      refine v_aload_n C dX7_spellInto_118 0 rfl ?_
      refine v_get (ci := 7) C inT7 0 15 rfl rfl (by decide) mF_X7_52_X7_15 rfl dX7_spellInto_119 ?_
      refine v_iload C dX7_spellInto_122 6 rfl ?_
      refine v_iconst (v := 3) C dX7_spellInto_124 (by decide) ?_
      refine v_imul C dX7_spellInto_125 ?_
      refine v_iload C dX7_spellInto_126 8 rfl ?_
      refine v_iadd C dX7_spellInto_128 ?_
      obtain ⟨hi129, hw⟩ := hw
      refine v_bald C 14 rfl hi129 dX7_spellInto_129 ?_
      refine v_iload C dX7_spellInto_130 7 rfl ?_
      refine v_callVMv (st := []) (ci := 5) (qb := 15) C (kX5_add h1 a1 _ _ _ hw) mM_X7_139 mI_X5 mC_X5_add mN_X5_add mS_X5_add rfl rfl hd_X5_add ⟨Nat.le_of_ble_eq_true rfl, Nat.le_of_ble_eq_true rfl⟩ ⟨Nat.le_of_ble_eq_true rfl, Nat.le_of_ble_eq_true rfl⟩ [1] [0] (N0 := 2) rfl (by decide) (ms2 := (fun (U : Md) => [wX7 E h0 a0 u0, wX5 E h1 a1 U])) rfl (fun _ => rfl) (fun _ => rfl) (fun _ => rfl) rfl (Nat.le_of_ble_eq_true rfl) dX7_spellInto_132 (fun v132_0 hw => ?_)
      refine v_iinc (lv' := [(10, .int (y10 + Int32.ofInt 1)), (0, .ref h0), (1, .ref h1), (4, .int y4), (5, .int y5), (6, .int y6), (7, .int y7), (8, .int y8), (9, .int y9)]) C dX7_spellInto_135 8 rfl (by decide) rfl ?_
      refine v_goto (tgt := 105) C dX7_spellInto_138 (by decide) ?_
      refine v_lv C (lv' := [(0, .ref h0), (1, .ref h1), (4, .int y4), (5, .int y5), (6, .int y6), (7, .int y7), (8, .int y8), (9, .int y9), (10, .int (y10 + Int32.ofInt 1))]) [1, 2, 3, 4, 5, 6, 7, 8, 0] rfl ?_
      exact ih u0 v132_0 y4 y5 y6 y7 y8 y9 (y10 + Int32.ofInt 1) hw
set_option maxHeartbeats 4000000 in
set_option maxRecDepth 100000 in
theorem jX7_spellInto_35 {X : VX} {E : VE} {l : Launch} (h0 : Nat) (h1 : Nat) (a0 : Nat → Nat) (a1 : Nat → Nat)  (Q : Md → Md → Prop) (C : VC X cX7_spellInto 11 RX7 (rmL 2 0 0) E l) (hret : RetV X cX7_spellInto 0 0 (fun (U : Md × Md) => [wX7 E h0 a0 U.1, wX5 E h1 a1 U.2].flatten) (fun (U : Md × Md) => Q U.1 U.2))  : ∀ (n : Nat), ∀ (u0 : Md) (u1 : Md) (y4 : Int32) (y5 : Int32) (y6 : Int32) (y7 : Int32), qX7_spellInto_35 Q n u0 u1 y4 y5 y6 y7 → VV X 0 0 ([wX7 E h0 a0 u0, wX5 E h1 a1 u1].flatten) [(0, .ref h0), (1, .ref h1), (4, .int y4), (5, .int y5), (6, .int y6), (7, .int y7)] 35 [] := by
  intro n
  induction n with
  | zero =>
    intro u0 u1 y4 y5 y6 y7 hw
    exact hw.elim
  | succ n ih =>
    intro u0 u1 y4 y5 y6 y7 hw
    unfold qX7_spellInto_35 at hw
    refine v_iload C dX7_spellInto_35 5 rfl ?_
    refine v_bipush (v := 12) C dX7_spellInto_37 (by decide) ?_
    refine v_icmp_ge (tgt := 159) C dX7_spellInto_39 (by decide) (fun hc => ?_) (fun hc => ?_)
    · have hw := hw.1 hc
      exact hret _ _ _ _ (u0, u1) dX7_spellInto_159 hw (Nat.le_of_ble_eq_true rfl) (Nat.le_of_ble_eq_true rfl)
    · have hw := hw.2 hc
      refine v_iload C dX7_spellInto_42 3 rfl ?_
      refine v_iload C dX7_spellInto_44 4 rfl ?_
      refine v_icmp_ge (tgt := 159) C dX7_spellInto_46 (by decide) (fun hc => ?_) (fun hc => ?_)
      · have hw := hw.1 hc
        exact hret _ _ _ _ (u0, u1) dX7_spellInto_159 hw (Nat.le_of_ble_eq_true rfl) (Nat.le_of_ble_eq_true rfl)
      · have hw := hw.2 hc
        refine v_aload_n C dX7_spellInto_49 0 rfl ?_
        refine v_iload C dX7_spellInto_50 2 rfl ?_
        refine v_iload C dX7_spellInto_52 3 rfl ?_
        refine v_iload C dX7_spellInto_54 4 rfl ?_
        refine v_callVMi (st := []) (ci := 7) (qb := 0) C (kX7_ruleFor h0 a0 _ _ _ _ hw) mM_X7_135 mI_X7 mC_X7_ruleFor mN_X7_ruleFor mS_X7_ruleFor rfl rfl hd_X7_ruleFor ⟨Nat.le_of_ble_eq_true rfl, Nat.le_of_ble_eq_true rfl⟩ ⟨Nat.le_of_ble_eq_true rfl, Nat.le_of_ble_eq_true rfl⟩ [0] [1] (N0 := 2) rfl (by decide) (ms2 := (fun (U : Md) => [wX7 E h0 a0 U, wX5 E h1 a1 u1])) rfl (fun _ => rfl) (fun _ => rfl) (fun _ => rfl) rfl (Nat.le_of_ble_eq_true rfl) dX7_spellInto_56 (fun r56 v56_0 hw => ?_)
        refine v_istore (lv' := [(8, .int r56), (0, .ref h0), (1, .ref h1), (4, .int y4), (5, .int y5), (6, .int y6), (7, .int y7)]) C dX7_spellInto_59 (by decide) rfl ?_
        refine v_iload C dX7_spellInto_61 0 rfl ?_
        refine v_iconst (v := (-1)) C dX7_spellInto_63 (by decide) ?_
        refine v_icmp_ne (tgt := 86) C dX7_spellInto_64 (by decide) (fun hc => ?_) (fun hc => ?_)
        · have hw := hw.1 hc
          refine v_bipush (v := 100) C dX7_spellInto_86 (by decide) ?_
          refine v_iload C dX7_spellInto_88 3 rfl ?_
          refine v_imul C dX7_spellInto_90 ?_
          refine v_iload C dX7_spellInto_91 0 rfl ?_
          refine v_iadd C dX7_spellInto_93 ?_
          refine v_iload C dX7_spellInto_94 3 rfl ?_
          refine v_bipush (v := 16) C dX7_spellInto_96 (by decide) ?_
          refine v_imul C dX7_spellInto_98 ?_
          refine v_isub C dX7_spellInto_99 ?_
          refine v_istore (lv' := [(9, .int (((100 * y4) + r56) - (y4 * 16))), (8, .int r56), (0, .ref h0), (1, .ref h1), (4, .int y4), (5, .int y5), (6, .int y6), (7, .int y7)]) C dX7_spellInto_100 (by decide) rfl ?_
          refine v_iconst (v := 0) C dX7_spellInto_102 (by decide) ?_
          refine v_istore (lv' := [(10, .int 0), (9, .int (((100 * y4) + r56) - (y4 * 16))), (8, .int r56), (0, .ref h0), (1, .ref h1), (4, .int y4), (5, .int y5), (6, .int y6), (7, .int y7)]) C dX7_spellInto_103 (by decide) rfl ?_
          refine v_lv C (lv' := [(0, .ref h0), (1, .ref h1), (4, .int y4), (5, .int y5), (6, .int y6), (7, .int y7), (8, .int r56), (9, .int (((100 * y4) + r56) - (y4 * 16))), (10, .int 0)]) [3, 4, 5, 6, 7, 8, 2, 1, 0] rfl ?_
          obtain ⟨n', hw⟩ := hw
          exact jX7_spellInto_105 h0 h1 a0 a1 Q C hret (qX7_spellInto_35 Q n) ih n' v56_0 u1 y4 y5 y6 y7 r56 (((100 * y4) + r56) - (y4 * 16)) 0 hw
        · have hw := hw.2 hc
          refine v_aload_n C dX7_spellInto_67 2 rfl ?_
          refine v_aload_n C dX7_spellInto_68 1 rfl ?_
          refine v_get (ci := 7) C inT7 0 5 rfl rfl (by decide) mF_X7_24_X7_5 rfl dX7_spellInto_69 ?_
          refine v_iload C dX7_spellInto_72 4 rfl ?_
          obtain ⟨hi74, hw⟩ := hw
          refine v_bald C 5 rfl hi74 dX7_spellInto_74 ?_
          refine v_bipush (v := (-3)) C dX7_spellInto_75 (by decide) ?_
          refine v_callVMv (st := []) (ci := 5) (qb := 15) C (kX5_add h1 a1 _ _ _ hw) mM_X7_139 mI_X5 mC_X5_add mN_X5_add mS_X5_add rfl rfl hd_X5_add ⟨Nat.le_of_ble_eq_true rfl, Nat.le_of_ble_eq_true rfl⟩ ⟨Nat.le_of_ble_eq_true rfl, Nat.le_of_ble_eq_true rfl⟩ [1] [0] (N0 := 2) rfl (by decide) (ms2 := (fun (U : Md) => [wX7 E h0 a0 v56_0, wX5 E h1 a1 U])) rfl (fun _ => rfl) (fun _ => rfl) (fun _ => rfl) rfl (Nat.le_of_ble_eq_true rfl) dX7_spellInto_77 (fun v77_0 hw => ?_)
          refine v_iinc (lv' := [(5, .int (y5 + Int32.ofInt 1)), (8, .int r56), (0, .ref h0), (1, .ref h1), (4, .int y4), (6, .int y6), (7, .int y7)]) C dX7_spellInto_80 4 rfl (by decide) rfl ?_
          refine v_goto (tgt := 153) C dX7_spellInto_83 (by decide) ?_
          refine v_iinc (lv' := [(7, .int (y7 + Int32.ofInt 1)), (5, .int (y5 + Int32.ofInt 1)), (8, .int r56), (0, .ref h0), (1, .ref h1), (4, .int y4), (6, .int y6)]) C dX7_spellInto_153 6 rfl (by decide) rfl ?_
          refine v_goto (tgt := 35) C dX7_spellInto_156 (by decide) ?_
          refine v_lv C (lv' := [(0, .ref h0), (1, .ref h1), (4, .int y4), (5, .int (y5 + Int32.ofInt 1)), (6, .int y6), (7, .int (y7 + Int32.ofInt 1))]) [3, 4, 5, 1, 6, 0] rfl ?_
          exact ih v56_0 v77_0 y4 (y5 + Int32.ofInt 1) y6 (y7 + Int32.ofInt 1) hw
set_option maxHeartbeats 4000000 in
set_option maxRecDepth 100000 in
theorem kX7_spellInto {l : Launch} {E : VE} (h0 : Nat) (h1 : Nat) (a0 : Nat → Nat) (a1 : Nat → Nat) (u0 : Md) (u1 : Md) (x2 : Int32) (x3 : Int32) {Q : Md → Md → Prop} (hw : qX7_spellInto u0 u1 x2 x3 Q) : MV l yX7_spellInto cX7_spellInto 11 2 0 0 E [.ref h0, .ref h1, .int x2, .int x3] ([wX7 E h0 a0 u0, wX5 E h1 a1 u1].flatten) (fun (U : Md × Md) => [wX7 E h0 a0 U.1, wX5 E h1 a1 U.2].flatten) (fun (U : Md × Md) => Q U.1 U.2) := by
  refine MV.of (own := RX7) (by decide) rfl (Nat.le_of_ble_eq_true rfl) ?_
  intro X C hini hret
  show VV X 0 0 ([wX7 E h0 a0 u0, wX5 E h1 a1 u1].flatten) [(0, .ref h0), (1, .ref h1), (2, .int x2), (3, .int x3)] 0 []
  unfold qX7_spellInto at hw
  refine v_aload_n C dX7_spellInto_0 0 rfl ?_
  refine v_aload_n C dX7_spellInto_1 0 rfl ?_
  refine v_get (ci := 7) C inT7 0 2 rfl rfl (by decide) mF_X7_15_X7_2 rfl dX7_spellInto_2 ?_
  refine v_iload_n C dX7_spellInto_5 2 rfl ?_
  obtain ⟨hi6, hw⟩ := hw
  refine v_iald C 2 rfl hi6 dX7_spellInto_6 ?_
  refine v_iload_n C dX7_spellInto_7 3 rfl ?_
  refine v_callVMi (st := []) (ci := 7) (qb := 0) C (kX7_spellingAt h0 a0 _ _ _ hw) mM_X7_131 mI_X7 mC_X7_spellingAt mN_X7_spellingAt mS_X7_spellingAt rfl rfl hd_X7_spellingAt ⟨Nat.le_of_ble_eq_true rfl, Nat.le_of_ble_eq_true rfl⟩ ⟨Nat.le_of_ble_eq_true rfl, Nat.le_of_ble_eq_true rfl⟩ [0] [1] (N0 := 2) rfl (by decide) (ms2 := (fun (U : Md) => [wX7 E h0 a0 U, wX5 E h1 a1 u1])) rfl (fun _ => rfl) (fun _ => rfl) (fun _ => rfl) rfl (Nat.le_of_ble_eq_true rfl) dX7_spellInto_8 (fun r8 v8_0 hw => ?_)
  refine v_istore (lv' := [(4, .int r8), (0, .ref h0), (1, .ref h1), (2, .int x2), (3, .int x3)]) C dX7_spellInto_11 (by decide) rfl ?_
  refine v_iload_n C dX7_spellInto_13 3 rfl ?_
  refine v_bipush (v := 14) C dX7_spellInto_14 (by decide) ?_
  refine v_imul C dX7_spellInto_16 ?_
  refine v_iconst (v := 1) C dX7_spellInto_17 (by decide) ?_
  refine v_iadd C dX7_spellInto_18 ?_
  refine v_istore (lv' := [(5, .int ((x2 * 14) + 1)), (4, .int r8), (0, .ref h0), (1, .ref h1), (2, .int x2), (3, .int x3)]) C dX7_spellInto_19 (by decide) rfl ?_
  refine v_iload C dX7_spellInto_21 0 rfl ?_
  refine v_aload_n C dX7_spellInto_23 2 rfl ?_
  refine v_get (ci := 7) C inT7 0 4 rfl rfl (by decide) mF_X7_21_X7_4 rfl dX7_spellInto_24 ?_
  refine v_iload_n C dX7_spellInto_27 4 rfl ?_
  obtain ⟨hi28, hw⟩ := hw
  refine v_iald C 4 rfl hi28 dX7_spellInto_28 ?_
  refine v_iadd C dX7_spellInto_29 ?_
  refine v_istore (lv' := [(6, .int (((x2 * 14) + 1) + (gA v8_0 4 x2.toNatClampNeg))), (5, .int ((x2 * 14) + 1)), (4, .int r8), (0, .ref h0), (1, .ref h1), (2, .int x2), (3, .int x3)]) C dX7_spellInto_30 (by decide) rfl ?_
  refine v_iconst (v := 0) C dX7_spellInto_32 (by decide) ?_
  refine v_istore (lv' := [(7, .int 0), (6, .int (((x2 * 14) + 1) + (gA v8_0 4 x2.toNatClampNeg))), (5, .int ((x2 * 14) + 1)), (4, .int r8), (0, .ref h0), (1, .ref h1), (2, .int x2), (3, .int x3)]) C dX7_spellInto_33 (by decide) rfl ?_
  refine v_lv C (lv' := [(0, .ref h0), (1, .ref h1), (4, .int r8), (5, .int ((x2 * 14) + 1)), (6, .int (((x2 * 14) + 1) + (gA v8_0 4 x2.toNatClampNeg))), (7, .int 0)]) [4, 5, 3, 2, 1, 0] rfl ?_
  obtain ⟨n', hw⟩ := hw
  exact jX7_spellInto_35 h0 h1 a0 a1 Q C hret n' v8_0 u1 r8 ((x2 * 14) + 1) (((x2 * 14) + 1) + (gA v8_0 4 x2.toNatClampNeg)) 0 hw
set_option maxHeartbeats 4000000 in
set_option maxRecDepth 100000 in
theorem jX10_editsOfRows_87 {X : VX} {E : VE} {l : Launch} (h0 : Nat) (h1 : Nat) (h2 : Nat) (a0 : Nat → Nat) (a1 : Nat → Nat) (a2 : Nat → Nat)  (Q : Int32 → Md → Md → Md → Prop) (C : VC X cX10_editsOfRows 7 RX10 (rmL 1 0 0) E l) (hret : RetI X cX10_editsOfRows .int 0 0 (fun (U : Md × Md × Md) => [wX10 E h0 a0 U.1, wX5 E h1 a1 U.2.1, wX5 E h2 a2 U.2.2].flatten) (fun (r : Int32) (U : Md × Md × Md) => Q r U.1 U.2.1 U.2.2)) (K25 : Md → Md → Md → Int32 → Prop) (K53 : Md → Md → Md → Int32 → Int32 → Int32 → Prop) (hK25 : ∀ (u0 : Md) (u1 : Md) (u2 : Md) (y3 : Int32), K25 u0 u1 u2 y3 → VV X 0 0 ([wX10 E h0 a0 u0, wX5 E h1 a1 u1, wX5 E h2 a2 u2].flatten) [(0, .ref h0), (1, .ref h1), (2, .ref h2), (3, .int y3)] 25 []) (hK53 : ∀ (u0 : Md) (u1 : Md) (u2 : Md) (y3 : Int32) (y4 : Int32) (y5 : Int32), K53 u0 u1 u2 y3 y4 y5 → VV X 0 0 ([wX10 E h0 a0 u0, wX5 E h1 a1 u1, wX5 E h2 a2 u2].flatten) [(0, .ref h0), (1, .ref h1), (2, .ref h2), (3, .int y3), (4, .int y4), (5, .int y5)] 53 []) : ∀ (u0 : Md) (u1 : Md) (u2 : Md) (y3 : Int32) (y5 : Int32) (z0 : Int32), qX10_editsOfRows_87 Q K25 K53 u0 u1 u2 y3 y5 z0 → VV X 0 0 ([wX10 E h0 a0 u0, wX5 E h1 a1 u1, wX5 E h2 a2 u2].flatten) [(0, .ref h0), (1, .ref h1), (2, .ref h2), (3, .int y3), (5, .int y5)] 87 [.int z0] := by
  intro u0 u1 u2 y3 y5 z0 hw
  unfold qX10_editsOfRows_87 at hw
  refine v_istore (lv' := [(6, .int z0), (0, .ref h0), (1, .ref h1), (2, .ref h2), (3, .int y3), (5, .int y5)]) C dX10_editsOfRows_87 (by decide) rfl ?_
  refine v_aload_n C dX10_editsOfRows_89 1 rfl ?_
  refine v_get (ci := 10) C inT10 0 8 rfl rfl (by decide) mF_X10_36_X10_8 rfl dX10_editsOfRows_90 ?_
  refine v_iload C dX10_editsOfRows_93 5 rfl ?_
  refine v_iconst (v := 1) C dX10_editsOfRows_95 (by decide) ?_
  refine v_iadd C dX10_editsOfRows_96 ?_
  obtain ⟨hi97, hw⟩ := hw
  refine v_iald C 5 rfl hi97 dX10_editsOfRows_97 ?_
  refine v_istore (lv' := [(4, .int (gA u0 8 (y5 + 1).toNatClampNeg)), (6, .int z0), (0, .ref h0), (1, .ref h1), (2, .ref h2), (3, .int y3), (5, .int y5)]) C dX10_editsOfRows_98 (by decide) rfl ?_
  refine v_aload_n C dX10_editsOfRows_100 2 rfl ?_
  refine v_get (ci := 10) C inT10 0 8 rfl rfl (by decide) mF_X10_36_X10_8 rfl dX10_editsOfRows_101 ?_
  refine v_iload C dX10_editsOfRows_104 6 rfl ?_
  refine v_iconst (v := 1) C dX10_editsOfRows_106 (by decide) ?_
  refine v_iadd C dX10_editsOfRows_107 ?_
  refine v_iload C dX10_editsOfRows_108 1 rfl ?_
  refine v_iload C dX10_editsOfRows_110 0 rfl ?_
  refine v_aload_n C dX10_editsOfRows_112 2 rfl ?_
  refine v_get (ci := 10) C inT10 0 8 rfl rfl (by decide) mF_X10_36_X10_8 rfl dX10_editsOfRows_113 ?_
  refine v_iload C dX10_editsOfRows_116 6 rfl ?_
  obtain ⟨hi118, hw⟩ := hw
  refine v_iald C 5 rfl hi118 dX10_editsOfRows_118 ?_
  refine v_imin C mM_X10_78 ⟨Nat.le_of_ble_eq_true rfl, Nat.le_of_ble_eq_true rfl, Nat.le_of_ble_eq_true rfl, Nat.le_of_ble_eq_true rfl⟩ dX10_editsOfRows_119 ?_
  refine v_iconst (v := 1) C dX10_editsOfRows_122 (by decide) ?_
  refine v_iadd C dX10_editsOfRows_123 ?_
  refine v_imin C mM_X10_78 ⟨Nat.le_of_ble_eq_true rfl, Nat.le_of_ble_eq_true rfl, Nat.le_of_ble_eq_true rfl, Nat.le_of_ble_eq_true rfl⟩ dX10_editsOfRows_124 ?_
  obtain ⟨hi127, hw⟩ := hw
  obtain ⟨w127, e127⟩ : ∃ z : Md, z = tA u0 8 (y5 + 1) (imin z0 ((imin (gA u0 8 (y5 + 1).toNatClampNeg) (gA u0 8 y5.toNatClampNeg)) + 1)) := ⟨_, rfl⟩
  have hw := hw w127 e127
  refine v_iast (ws' := [wX10 E h0 a0 w127, wX5 E h1 a1 u1, wX5 E h2 a2 u2].flatten) C 5 rfl hi127 (by rw [e127]; rfl) dX10_editsOfRows_127 ?_
  refine v_iinc (lv' := [(5, .int (y5 + Int32.ofInt 1)), (4, .int (gA u0 8 (y5 + 1).toNatClampNeg)), (6, .int z0), (0, .ref h0), (1, .ref h1), (2, .ref h2), (3, .int y3)]) C dX10_editsOfRows_128 6 rfl (by decide) rfl ?_
  refine v_goto (tgt := 53) C dX10_editsOfRows_131 (by decide) ?_
  refine v_lv C (lv' := [(0, .ref h0), (1, .ref h1), (2, .ref h2), (3, .int y3), (4, .int (gA u0 8 (y5 + 1).toNatClampNeg)), (5, .int (y5 + Int32.ofInt 1))]) [3, 4, 5, 6, 1, 0] rfl ?_
  exact hK53 w127 u1 u2 y3 (gA u0 8 (y5 + 1).toNatClampNeg) (y5 + Int32.ofInt 1) hw
set_option maxHeartbeats 4000000 in
set_option maxRecDepth 100000 in
theorem jX10_editsOfRows_53 {X : VX} {E : VE} {l : Launch} (h0 : Nat) (h1 : Nat) (h2 : Nat) (a0 : Nat → Nat) (a1 : Nat → Nat) (a2 : Nat → Nat)  (Q : Int32 → Md → Md → Md → Prop) (C : VC X cX10_editsOfRows 7 RX10 (rmL 1 0 0) E l) (hret : RetI X cX10_editsOfRows .int 0 0 (fun (U : Md × Md × Md) => [wX10 E h0 a0 U.1, wX5 E h1 a1 U.2.1, wX5 E h2 a2 U.2.2].flatten) (fun (r : Int32) (U : Md × Md × Md) => Q r U.1 U.2.1 U.2.2)) (K25 : Md → Md → Md → Int32 → Prop) (hK25 : ∀ (u0 : Md) (u1 : Md) (u2 : Md) (y3 : Int32), K25 u0 u1 u2 y3 → VV X 0 0 ([wX10 E h0 a0 u0, wX5 E h1 a1 u1, wX5 E h2 a2 u2].flatten) [(0, .ref h0), (1, .ref h1), (2, .ref h2), (3, .int y3)] 25 []) : ∀ (n : Nat), ∀ (u0 : Md) (u1 : Md) (u2 : Md) (y3 : Int32) (y4 : Int32) (y5 : Int32), qX10_editsOfRows_53 Q K25 n u0 u1 u2 y3 y4 y5 → VV X 0 0 ([wX10 E h0 a0 u0, wX5 E h1 a1 u1, wX5 E h2 a2 u2].flatten) [(0, .ref h0), (1, .ref h1), (2, .ref h2), (3, .int y3), (4, .int y4), (5, .int y5)] 53 [] := by
  intro n
  induction n with
  | zero =>
    intro u0 u1 u2 y3 y4 y5 hw
    exact hw.elim
  | succ n ih =>
    intro u0 u1 u2 y3 y4 y5 hw
    unfold qX10_editsOfRows_53 at hw
    refine v_iload C dX10_editsOfRows_53 5 rfl ?_
    refine v_aload_n C dX10_editsOfRows_55 2 rfl ?_
    refine v_get (ci := 5) C inT5 11 0 rfl rfl (by decide) mF_X10_156_X5_0 rfl dX10_editsOfRows_56 ?_
    refine v_icmp_ge (tgt := 134) C dX10_editsOfRows_59 (by decide) (fun hc => ?_) (fun hc => ?_)
    · have hw := hw.1 hc
      refine v_iinc (lv' := [(3, .int (y3 + Int32.ofInt 1)), (0, .ref h0), (1, .ref h1), (2, .ref h2), (4, .int y4), (5, .int y5)]) C dX10_editsOfRows_134 3 rfl (by decide) rfl ?_
      refine v_goto (tgt := 25) C dX10_editsOfRows_137 (by decide) ?_
      refine v_lv C (lv' := [(0, .ref h0), (1, .ref h1), (2, .ref h2), (3, .int (y3 + Int32.ofInt 1))]) [1, 2, 3, 0] rfl ?_
      exact hK25 u0 u1 u2 (y3 + Int32.ofInt 1) hw
    · have hw := hw.2 hc
      refine v_aload_n C dX10_editsOfRows_62 1 rfl ?_
      refine v_get (ci := 5) C inT5 8 1 rfl rfl (by decide) mF_X10_161_X5_1 rfl dX10_editsOfRows_63 ?_
      refine v_iload_n C dX10_editsOfRows_66 3 rfl ?_
      obtain ⟨hi67, hw⟩ := hw
      refine v_bald C 9 rfl hi67 dX10_editsOfRows_67 ?_
      refine v_aload_n C dX10_editsOfRows_68 2 rfl ?_
      refine v_get (ci := 5) C inT5 11 1 rfl rfl (by decide) mF_X10_161_X5_1 rfl dX10_editsOfRows_69 ?_
      refine v_iload C dX10_editsOfRows_72 5 rfl ?_
      obtain ⟨hi74, hw⟩ := hw
      refine v_bald C 12 rfl hi74 dX10_editsOfRows_74 ?_
      refine v_icmp_ne (tgt := 83) C dX10_editsOfRows_75 (by decide) (fun hc => ?_) (fun hc => ?_)
      · have hw := hw.1 hc
        refine v_iload C dX10_editsOfRows_83 4 rfl ?_
        refine v_iconst (v := 1) C dX10_editsOfRows_85 (by decide) ?_
        refine v_iadd C dX10_editsOfRows_86 ?_
        refine v_lv C (lv' := [(0, .ref h0), (1, .ref h1), (2, .ref h2), (3, .int y3), (5, .int y5)]) [0, 1, 2, 3, 5] rfl ?_
        exact jX10_editsOfRows_87 h0 h1 h2 a0 a1 a2 Q C hret K25 (qX10_editsOfRows_53 Q K25 n) hK25 ih u0 u1 u2 y3 y5 (y4 + 1) hw
      · have hw := hw.2 hc
        refine v_iload C dX10_editsOfRows_78 4 rfl ?_
        refine v_goto (tgt := 87) C dX10_editsOfRows_80 (by decide) ?_
        refine v_lv C (lv' := [(0, .ref h0), (1, .ref h1), (2, .ref h2), (3, .int y3), (5, .int y5)]) [0, 1, 2, 3, 5] rfl ?_
        exact jX10_editsOfRows_87 h0 h1 h2 a0 a1 a2 Q C hret K25 (qX10_editsOfRows_53 Q K25 n) hK25 ih u0 u1 u2 y3 y5 y4 hw
set_option maxHeartbeats 4000000 in
set_option maxRecDepth 100000 in
theorem jX10_editsOfRows_25 {X : VX} {E : VE} {l : Launch} (h0 : Nat) (h1 : Nat) (h2 : Nat) (a0 : Nat → Nat) (a1 : Nat → Nat) (a2 : Nat → Nat)  (Q : Int32 → Md → Md → Md → Prop) (C : VC X cX10_editsOfRows 7 RX10 (rmL 1 0 0) E l) (hret : RetI X cX10_editsOfRows .int 0 0 (fun (U : Md × Md × Md) => [wX10 E h0 a0 U.1, wX5 E h1 a1 U.2.1, wX5 E h2 a2 U.2.2].flatten) (fun (r : Int32) (U : Md × Md × Md) => Q r U.1 U.2.1 U.2.2))  : ∀ (n : Nat), ∀ (u0 : Md) (u1 : Md) (u2 : Md) (y3 : Int32), qX10_editsOfRows_25 Q n u0 u1 u2 y3 → VV X 0 0 ([wX10 E h0 a0 u0, wX5 E h1 a1 u1, wX5 E h2 a2 u2].flatten) [(0, .ref h0), (1, .ref h1), (2, .ref h2), (3, .int y3)] 25 [] := by
  intro n
  induction n with
  | zero =>
    intro u0 u1 u2 y3 hw
    exact hw.elim
  | succ n ih =>
    intro u0 u1 u2 y3 hw
    unfold qX10_editsOfRows_25 at hw
    refine v_iload_n C dX10_editsOfRows_25 3 rfl ?_
    refine v_aload_n C dX10_editsOfRows_26 1 rfl ?_
    refine v_get (ci := 5) C inT5 8 0 rfl rfl (by decide) mF_X10_156_X5_0 rfl dX10_editsOfRows_27 ?_
    refine v_icmp_ge (tgt := 140) C dX10_editsOfRows_30 (by decide) (fun hc => ?_) (fun hc => ?_)
    · have hw := hw.1 hc
      refine v_aload_n C dX10_editsOfRows_140 0 rfl ?_
      refine v_get (ci := 10) C inT10 0 8 rfl rfl (by decide) mF_X10_36_X10_8 rfl dX10_editsOfRows_141 ?_
      refine v_aload_n C dX10_editsOfRows_144 2 rfl ?_
      refine v_get (ci := 5) C inT5 11 0 rfl rfl (by decide) mF_X10_156_X5_0 rfl dX10_editsOfRows_145 ?_
      obtain ⟨hi148, hw⟩ := hw
      refine v_iald C 5 rfl hi148 dX10_editsOfRows_148 ?_
      exact hret _ _ _ _ (gA u0 8 (gF u2 0).toNatClampNeg) (u0, u1, u2) dX10_editsOfRows_149 rfl hw (Nat.le_of_ble_eq_true rfl) (Nat.le_of_ble_eq_true rfl)
    · have hw := hw.2 hc
      refine v_aload_n C dX10_editsOfRows_33 0 rfl ?_
      refine v_get (ci := 10) C inT10 0 8 rfl rfl (by decide) mF_X10_36_X10_8 rfl dX10_editsOfRows_34 ?_
      refine v_iconst (v := 0) C dX10_editsOfRows_37 (by decide) ?_
      obtain ⟨hi38, hw⟩ := hw
      refine v_iald C 5 rfl hi38 dX10_editsOfRows_38 ?_
      refine v_istore (lv' := [(4, .int (gA u0 8 (0 : Int32).toNatClampNeg)), (0, .ref h0), (1, .ref h1), (2, .ref h2), (3, .int y3)]) C dX10_editsOfRows_39 (by decide) rfl ?_
      refine v_aload_n C dX10_editsOfRows_41 1 rfl ?_
      refine v_get (ci := 10) C inT10 0 8 rfl rfl (by decide) mF_X10_36_X10_8 rfl dX10_editsOfRows_42 ?_
      refine v_iconst (v := 0) C dX10_editsOfRows_45 (by decide) ?_
      refine v_iload_n C dX10_editsOfRows_46 4 rfl ?_
      refine v_iconst (v := 1) C dX10_editsOfRows_47 (by decide) ?_
      refine v_iadd C dX10_editsOfRows_48 ?_
      obtain ⟨hi49, hw⟩ := hw
      obtain ⟨w49, e49⟩ : ∃ z : Md, z = tA u0 8 0 (y3 + 1) := ⟨_, rfl⟩
      have hw := hw w49 e49
      refine v_iast (ws' := [wX10 E h0 a0 w49, wX5 E h1 a1 u1, wX5 E h2 a2 u2].flatten) C 5 rfl hi49 (by rw [e49]; rfl) dX10_editsOfRows_49 ?_
      refine v_iconst (v := 0) C dX10_editsOfRows_50 (by decide) ?_
      refine v_istore (lv' := [(5, .int 0), (4, .int (gA u0 8 (0 : Int32).toNatClampNeg)), (0, .ref h0), (1, .ref h1), (2, .ref h2), (3, .int y3)]) C dX10_editsOfRows_51 (by decide) rfl ?_
      refine v_lv C (lv' := [(0, .ref h0), (1, .ref h1), (2, .ref h2), (3, .int y3), (4, .int (gA u0 8 (0 : Int32).toNatClampNeg)), (5, .int 0)]) [2, 3, 4, 5, 1, 0] rfl ?_
      obtain ⟨n', hw⟩ := hw
      exact jX10_editsOfRows_53 h0 h1 h2 a0 a1 a2 Q C hret (qX10_editsOfRows_25 Q n) ih n' w49 u1 u2 y3 (gA u0 8 (0 : Int32).toNatClampNeg) 0 hw
set_option maxHeartbeats 4000000 in
set_option maxRecDepth 100000 in
theorem jX10_editsOfRows_2 {X : VX} {E : VE} {l : Launch} (h0 : Nat) (h1 : Nat) (h2 : Nat) (a0 : Nat → Nat) (a1 : Nat → Nat) (a2 : Nat → Nat)  (Q : Int32 → Md → Md → Md → Prop) (C : VC X cX10_editsOfRows 7 RX10 (rmL 1 0 0) E l) (hret : RetI X cX10_editsOfRows .int 0 0 (fun (U : Md × Md × Md) => [wX10 E h0 a0 U.1, wX5 E h1 a1 U.2.1, wX5 E h2 a2 U.2.2].flatten) (fun (r : Int32) (U : Md × Md × Md) => Q r U.1 U.2.1 U.2.2))  : ∀ (n : Nat), ∀ (u0 : Md) (u1 : Md) (u2 : Md) (y3 : Int32), qX10_editsOfRows_2 Q n u0 u1 u2 y3 → VV X 0 0 ([wX10 E h0 a0 u0, wX5 E h1 a1 u1, wX5 E h2 a2 u2].flatten) [(0, .ref h0), (1, .ref h1), (2, .ref h2), (3, .int y3)] 2 [] := by
  intro n
  induction n with
  | zero =>
    intro u0 u1 u2 y3 hw
    exact hw.elim
  | succ n ih =>
    intro u0 u1 u2 y3 hw
    unfold qX10_editsOfRows_2 at hw
    refine v_iload_n C dX10_editsOfRows_2 3 rfl ?_
    refine v_aload_n C dX10_editsOfRows_3 2 rfl ?_
    refine v_get (ci := 5) C inT5 11 0 rfl rfl (by decide) mF_X10_156_X5_0 rfl dX10_editsOfRows_4 ?_
    refine v_icmp_gt (tgt := 23) C dX10_editsOfRows_7 (by decide) (fun hc => ?_) (fun hc => ?_)
    · have hw := hw.1 hc
      refine v_iconst (v := 0) C dX10_editsOfRows_23 (by decide) ?_
      refine v_istore_n (lv' := [(3, .int 0), (0, .ref h0), (1, .ref h1), (2, .ref h2)]) C dX10_editsOfRows_24 (by decide) rfl ?_
      refine v_lv C (lv' := [(0, .ref h0), (1, .ref h1), (2, .ref h2), (3, .int 0)]) [1, 2, 3, 0] rfl ?_
      obtain ⟨n', hw⟩ := hw
      exact jX10_editsOfRows_25 h0 h1 h2 a0 a1 a2 Q C hret n' u0 u1 u2 0 hw
    · have hw := hw.2 hc
      refine v_aload_n C dX10_editsOfRows_10 0 rfl ?_
      refine v_get (ci := 10) C inT10 0 8 rfl rfl (by decide) mF_X10_36_X10_8 rfl dX10_editsOfRows_11 ?_
      refine v_iload_n C dX10_editsOfRows_14 3 rfl ?_
      refine v_iload_n C dX10_editsOfRows_15 3 rfl ?_
      obtain ⟨hi16, hw⟩ := hw
      obtain ⟨w16, e16⟩ : ∃ z : Md, z = tA u0 8 y3 y3 := ⟨_, rfl⟩
      have hw := hw w16 e16
      refine v_iast (ws' := [wX10 E h0 a0 w16, wX5 E h1 a1 u1, wX5 E h2 a2 u2].flatten) C 5 rfl hi16 (by rw [e16]; rfl) dX10_editsOfRows_16 ?_
      refine v_iinc (lv' := [(3, .int (y3 + Int32.ofInt 1)), (0, .ref h0), (1, .ref h1), (2, .ref h2)]) C dX10_editsOfRows_17 3 rfl (by decide) rfl ?_
      refine v_goto (tgt := 2) C dX10_editsOfRows_20 (by decide) ?_
      refine v_lv C (lv' := [(0, .ref h0), (1, .ref h1), (2, .ref h2), (3, .int (y3 + Int32.ofInt 1))]) [1, 2, 3, 0] rfl ?_
      exact ih w16 u1 u2 (y3 + Int32.ofInt 1) hw
set_option maxHeartbeats 4000000 in
set_option maxRecDepth 100000 in
theorem kX10_editsOfRows {l : Launch} {E : VE} (h0 : Nat) (h1 : Nat) (h2 : Nat) (a0 : Nat → Nat) (a1 : Nat → Nat) (a2 : Nat → Nat) (u0 : Md) (u1 : Md) (u2 : Md) {Q : Int32 → Md → Md → Md → Prop} (hw : qX10_editsOfRows u0 u1 u2 Q) : MI l yX10_editsOfRows cX10_editsOfRows 7 .int 1 0 0 E [.ref h0, .ref h1, .ref h2] ([wX10 E h0 a0 u0, wX5 E h1 a1 u1, wX5 E h2 a2 u2].flatten) (fun (U : Md × Md × Md) => [wX10 E h0 a0 U.1, wX5 E h1 a1 U.2.1, wX5 E h2 a2 U.2.2].flatten) (fun (r : Int32) (U : Md × Md × Md) => Q r U.1 U.2.1 U.2.2) := by
  refine MI.of (own := RX10) (by decide) rfl (Nat.le_of_ble_eq_true rfl) ?_
  intro X C hini hret
  show VV X 0 0 ([wX10 E h0 a0 u0, wX5 E h1 a1 u1, wX5 E h2 a2 u2].flatten) [(0, .ref h0), (1, .ref h1), (2, .ref h2)] 0 []
  unfold qX10_editsOfRows at hw
  refine v_iconst (v := 0) C dX10_editsOfRows_0 (by decide) ?_
  refine v_istore_n (lv' := [(3, .int 0), (0, .ref h0), (1, .ref h1), (2, .ref h2)]) C dX10_editsOfRows_1 (by decide) rfl ?_
  refine v_lv C (lv' := [(0, .ref h0), (1, .ref h1), (2, .ref h2), (3, .int 0)]) [1, 2, 3, 0] rfl ?_
  obtain ⟨n', hw⟩ := hw
  exact jX10_editsOfRows_2 h0 h1 h2 a0 a1 a2 Q C hret n' u0 u1 u2 0 hw
set_option maxHeartbeats 4000000 in
set_option maxRecDepth 100000 in
theorem jX3_fewestEdits_7 {X : VX} {E : VE} {l : Launch} (h0 : Nat) (h1 : Nat) (h2 : Nat) (a0 : Nat → Nat) (a1 : Nat → Nat) (a1_3 : Nat → Nat) (a2 : Nat → Nat) (a2_6 : Nat → Nat) (a2_7 : Nat → Nat)  (Q : Int32 → Md → Md → Md → Md → Md → Md → Prop) (C : VC X cX3_fewestEdits 6 RX3 (rmL 3 0 0) E l) (hret : RetI X cX3_fewestEdits .int 0 0 (fun (U : Md × Md × Md × Md × Md × Md) => [wX3 E h0 a0 U.1, wX8 E h1 a1 U.2.1, wX7 E (a1 3) a1_3 U.2.2.1, wX10 E h2 a2 U.2.2.2.1, wX5 E (a2 6) a2_6 U.2.2.2.2.1, wX5 E (a2 7) a2_7 U.2.2.2.2.2].flatten) (fun (r : Int32) (U : Md × Md × Md × Md × Md × Md) => Q r U.1 U.2.1 U.2.2.1 U.2.2.2.1 U.2.2.2.2.1 U.2.2.2.2.2))  : ∀ (n : Nat), ∀ (u0 : Md) (u1 : Md) (u1_3 : Md) (u2 : Md) (u2_6 : Md) (u2_7 : Md) (y3 : Int32) (y4 : Int32) (y5 : Int32), qX3_fewestEdits_7 Q n u0 u1 u1_3 u2 u2_6 u2_7 y3 y4 y5 → VV X 0 0 ([wX3 E h0 a0 u0, wX8 E h1 a1 u1, wX7 E (a1 3) a1_3 u1_3, wX10 E h2 a2 u2, wX5 E (a2 6) a2_6 u2_6, wX5 E (a2 7) a2_7 u2_7].flatten) [(0, .ref h0), (1, .ref h1), (2, .ref h2), (3, .int y3), (4, .int y4), (5, .int y5)] 7 [] := by
  intro n
  induction n with
  | zero =>
    intro u0 u1 u1_3 u2 u2_6 u2_7 y3 y4 y5 hw
    exact hw.elim
  | succ n ih =>
    intro u0 u1 u1_3 u2 u2_6 u2_7 y3 y4 y5 hw
    unfold qX3_fewestEdits_7 at hw
    refine v_iload C dX3_fewestEdits_7 5 rfl ?_
    refine v_aload_n C dX3_fewestEdits_9 1 rfl ?_
    refine v_get (ci := 8) C inT8 7 3 rfl rfl (by decide) mF_X3_81_X8_3 rfl dX3_fewestEdits_10 ?_
    refine v_get (ci := 7) C inT7 9 0 rfl rfl (by decide) mF_X3_85_X7_0 rfl dX3_fewestEdits_13 ?_
    refine v_icmp_ge (tgt := 83) C dX3_fewestEdits_16 (by decide) (fun hc => ?_) (fun hc => ?_)
    · have hw := hw.1 hc
      refine v_iload C dX3_fewestEdits_83 4 rfl ?_
      exact hret _ _ _ _ y4 (u0, u1, u1_3, u2, u2_6, u2_7) dX3_fewestEdits_85 rfl hw (Nat.le_of_ble_eq_true rfl) (Nat.le_of_ble_eq_true rfl)
    · have hw := hw.2 hc
      refine v_aload_n C dX3_fewestEdits_19 1 rfl ?_
      refine v_get (ci := 8) C inT8 7 3 rfl rfl (by decide) mF_X3_81_X8_3 rfl dX3_fewestEdits_20 ?_
      refine v_get (ci := 7) C inT7 9 1 rfl rfl (by decide) mF_X3_90_X7_1 rfl dX3_fewestEdits_23 ?_
      refine v_iload C dX3_fewestEdits_26 5 rfl ?_
      obtain ⟨hi28, hw⟩ := hw
      refine v_iald C 10 rfl hi28 dX3_fewestEdits_28 ?_
      refine v_iload_n C dX3_fewestEdits_29 3 rfl ?_
      refine v_icmp_ne (tgt := 77) C dX3_fewestEdits_30 (by decide) (fun hc => ?_) (fun hc => ?_)
      · have hw := hw.1 hc
        refine v_iinc (lv' := [(5, .int (y5 + Int32.ofInt 1)), (0, .ref h0), (1, .ref h1), (2, .ref h2), (3, .int y3), (4, .int y4)]) C dX3_fewestEdits_77 5 rfl (by decide) rfl ?_
        refine v_goto (tgt := 7) C dX3_fewestEdits_80 (by decide) ?_
        refine v_lv C (lv' := [(0, .ref h0), (1, .ref h1), (2, .ref h2), (3, .int y3), (4, .int y4), (5, .int (y5 + Int32.ofInt 1))]) [1, 2, 3, 4, 5, 0] rfl ?_
        exact ih u0 u1 u1_3 u2 u2_6 u2_7 y3 y4 (y5 + Int32.ofInt 1) hw
      · have hw := hw.2 hc
        refine v_aload_n C dX3_fewestEdits_33 2 rfl ?_
        refine v_get (ci := 10) C inT10 24 7 rfl rfl (by decide) mF_X3_108_X10_7 rfl dX3_fewestEdits_34 ?_
        refine v_iconst (v := 0) C dX3_fewestEdits_37 (by decide) ?_
        obtain ⟨w38, e38⟩ : ∃ z : Md, z = sF u2_7 0 0 := ⟨_, rfl⟩
        have hw := hw w38 e38
        refine v_put (ci := 5) (ws' := [wX3 E h0 a0 u0, wX8 E h1 a1 u1, wX7 E (a1 3) a1_3 u1_3, wX10 E h2 a2 u2, wX5 E (a2 6) a2_6 u2_6, wX5 E (a2 7) a2_7 w38].flatten) C tyX5 tyX5_ok nmX5 inT5 35 0 rfl rfl (by decide) mF_X3_97_X5_0 rfl rfl rfl rfl (Nat.le_of_ble_eq_true rfl) (by rw [e38]; rfl) dX3_fewestEdits_38 ?_
        refine v_aload_n C dX3_fewestEdits_41 1 rfl ?_
        refine v_get (ci := 8) C inT8 7 3 rfl rfl (by decide) mF_X3_81_X8_3 rfl dX3_fewestEdits_42 ?_
        refine v_aload_n C dX3_fewestEdits_45 2 rfl ?_
        refine v_get (ci := 10) C inT10 24 7 rfl rfl (by decide) mF_X3_108_X10_7 rfl dX3_fewestEdits_46 ?_
        refine v_iload C dX3_fewestEdits_49 5 rfl ?_
        refine v_aload_n C dX3_fewestEdits_51 0 rfl ?_
        refine v_get (ci := 3) C inT3 0 0 rfl rfl (by decide) mF_X3_9_X3_0 rfl dX3_fewestEdits_52 ?_
        refine v_callVMv (st := []) (ci := 7) (qb := 9) C (kX7_spellInto ((a1 3)) ((a2 7)) a1_3 a2_7 _ _ _ _ hw) mM_X3_111 mI_X7 mC_X7_spellInto mN_X7_spellInto mS_X7_spellInto rfl rfl hd_X7_spellInto ⟨Nat.le_of_ble_eq_true rfl, Nat.le_of_ble_eq_true rfl⟩ ⟨Nat.le_of_ble_eq_true rfl, Nat.le_of_ble_eq_true rfl⟩ [2, 5] [0, 1, 3, 4] (N0 := 6) rfl (by decide) (ms2 := (fun (U : Md × Md) => [wX3 E h0 a0 u0, wX8 E h1 a1 u1, wX7 E (a1 3) a1_3 U.1, wX10 E h2 a2 u2, wX5 E (a2 6) a2_6 u2_6, wX5 E (a2 7) a2_7 U.2])) rfl (fun _ => rfl) (fun _ => rfl) (fun _ => rfl) rfl (Nat.le_of_ble_eq_true rfl) dX3_fewestEdits_55 (fun U55 hw => ?_)
        obtain ⟨v55_0, v55_1⟩ := U55
        refine v_iload C dX3_fewestEdits_58 4 rfl ?_
        refine v_aload_n C dX3_fewestEdits_60 2 rfl ?_
        refine v_aload_n C dX3_fewestEdits_61 2 rfl ?_
        refine v_get (ci := 10) C inT10 24 6 rfl rfl (by decide) mF_X3_91_X10_6 rfl dX3_fewestEdits_62 ?_
        refine v_aload_n C dX3_fewestEdits_65 2 rfl ?_
        refine v_get (ci := 10) C inT10 24 7 rfl rfl (by decide) mF_X3_108_X10_7 rfl dX3_fewestEdits_66 ?_
        refine v_callVMi (st := [.int y4]) (ci := 10) (qb := 24) C (kX10_editsOfRows h2 ((a2 6)) ((a2 7)) a2 a2_6 a2_7 _ _ _ hw) mM_X3_115 mI_X10 mC_X10_editsOfRows mN_X10_editsOfRows mS_X10_editsOfRows rfl rfl hd_X10_editsOfRows ⟨Nat.le_of_ble_eq_true rfl, Nat.le_of_ble_eq_true rfl⟩ ⟨Nat.le_of_ble_eq_true rfl, Nat.le_of_ble_eq_true rfl⟩ [3, 4, 5] [0, 1, 2] (N0 := 6) rfl (by decide) (ms2 := (fun (U : Md × Md × Md) => [wX3 E h0 a0 u0, wX8 E h1 a1 u1, wX7 E (a1 3) a1_3 v55_0, wX10 E h2 a2 U.1, wX5 E (a2 6) a2_6 U.2.1, wX5 E (a2 7) a2_7 U.2.2])) rfl (fun _ => rfl) (fun _ => rfl) (fun _ => rfl) rfl (Nat.le_of_ble_eq_true rfl) dX3_fewestEdits_69 (fun r69 U69 hw => ?_)
        obtain ⟨v69_0, v69_1, v69_2⟩ := U69
        refine v_imin C mM_X3_119 ⟨Nat.le_of_ble_eq_true rfl, Nat.le_of_ble_eq_true rfl, Nat.le_of_ble_eq_true rfl, Nat.le_of_ble_eq_true rfl⟩ dX3_fewestEdits_72 ?_
        refine v_istore (lv' := [(4, .int (imin y4 r69)), (0, .ref h0), (1, .ref h1), (2, .ref h2), (3, .int y3), (5, .int y5)]) C dX3_fewestEdits_75 (by decide) rfl ?_
        refine v_iinc (lv' := [(5, .int (y5 + Int32.ofInt 1)), (4, .int (imin y4 r69)), (0, .ref h0), (1, .ref h1), (2, .ref h2), (3, .int y3)]) C dX3_fewestEdits_77 5 rfl (by decide) rfl ?_
        refine v_goto (tgt := 7) C dX3_fewestEdits_80 (by decide) ?_
        refine v_lv C (lv' := [(0, .ref h0), (1, .ref h1), (2, .ref h2), (3, .int y3), (4, .int (imin y4 r69)), (5, .int (y5 + Int32.ofInt 1))]) [2, 3, 4, 5, 1, 0] rfl ?_
        exact ih u0 u1 v55_0 v69_0 v69_1 v69_2 y3 (imin y4 r69) (y5 + Int32.ofInt 1) hw
set_option maxHeartbeats 4000000 in
set_option maxRecDepth 100000 in
theorem kX3_fewestEdits {l : Launch} {E : VE} (h0 : Nat) (h1 : Nat) (h2 : Nat) (a0 : Nat → Nat) (a1 : Nat → Nat) (a1_3 : Nat → Nat) (a2 : Nat → Nat) (a2_6 : Nat → Nat) (a2_7 : Nat → Nat) (u0 : Md) (u1 : Md) (u1_3 : Md) (u2 : Md) (u2_6 : Md) (u2_7 : Md) (x3 : Int32) {Q : Int32 → Md → Md → Md → Md → Md → Md → Prop} (hw : qX3_fewestEdits u0 u1 u1_3 u2 u2_6 u2_7 x3 Q) : MI l yX3_fewestEdits cX3_fewestEdits 6 .int 3 0 0 E [.ref h0, .ref h1, .ref h2, .int x3] ([wX3 E h0 a0 u0, wX8 E h1 a1 u1, wX7 E (a1 3) a1_3 u1_3, wX10 E h2 a2 u2, wX5 E (a2 6) a2_6 u2_6, wX5 E (a2 7) a2_7 u2_7].flatten) (fun (U : Md × Md × Md × Md × Md × Md) => [wX3 E h0 a0 U.1, wX8 E h1 a1 U.2.1, wX7 E (a1 3) a1_3 U.2.2.1, wX10 E h2 a2 U.2.2.2.1, wX5 E (a2 6) a2_6 U.2.2.2.2.1, wX5 E (a2 7) a2_7 U.2.2.2.2.2].flatten) (fun (r : Int32) (U : Md × Md × Md × Md × Md × Md) => Q r U.1 U.2.1 U.2.2.1 U.2.2.2.1 U.2.2.2.2.1 U.2.2.2.2.2) := by
  refine MI.of (own := RX3) (by decide) rfl (Nat.le_of_ble_eq_true rfl) ?_
  intro X C hini hret
  show VV X 0 0 ([wX3 E h0 a0 u0, wX8 E h1 a1 u1, wX7 E (a1 3) a1_3 u1_3, wX10 E h2 a2 u2, wX5 E (a2 6) a2_6 u2_6, wX5 E (a2 7) a2_7 u2_7].flatten) [(0, .ref h0), (1, .ref h1), (2, .ref h2), (3, .int x3)] 0 []
  unfold qX3_fewestEdits at hw
  refine v_bipush (v := 73) C dX3_fewestEdits_0 (by decide) ?_
  refine v_istore (lv' := [(4, .int 73), (0, .ref h0), (1, .ref h1), (2, .ref h2), (3, .int x3)]) C dX3_fewestEdits_2 (by decide) rfl ?_
  refine v_iconst (v := 0) C dX3_fewestEdits_4 (by decide) ?_
  refine v_istore (lv' := [(5, .int 0), (4, .int 73), (0, .ref h0), (1, .ref h1), (2, .ref h2), (3, .int x3)]) C dX3_fewestEdits_5 (by decide) rfl ?_
  refine v_lv C (lv' := [(0, .ref h0), (1, .ref h1), (2, .ref h2), (3, .int x3), (4, .int 73), (5, .int 0)]) [2, 3, 4, 5, 1, 0] rfl ?_
  obtain ⟨n', hw⟩ := hw
  exact jX3_fewestEdits_7 h0 h1 h2 a0 a1 a1_3 a2 a2_6 a2_7 Q C hret n' u0 u1 u1_3 u2 u2_6 u2_7 x3 73 0 hw
set_option maxHeartbeats 4000000 in
set_option maxRecDepth 100000 in
theorem jX3_fillGains_62 {X : VX} {E : VE} {l : Launch} (h0 : Nat) (h1 : Nat) (h2 : Nat) (a0 : Nat → Nat) (a1 : Nat → Nat) (a1_3 : Nat → Nat) (a2 : Nat → Nat) (a2_6 : Nat → Nat) (a2_7 : Nat → Nat)  (Q : Md → Md → Md → Md → Md → Md → Prop) (C : VC X cX3_fillGains 5 RX3 (rmL 4 0 0) E l) (hret : RetV X cX3_fillGains 0 0 (fun (U : Md × Md × Md × Md × Md × Md) => [wX3 E h0 a0 U.1, wX8 E h1 a1 U.2.1, wX7 E (a1 3) a1_3 U.2.2.1, wX10 E h2 a2 U.2.2.2.1, wX5 E (a2 6) a2_6 U.2.2.2.2.1, wX5 E (a2 7) a2_7 U.2.2.2.2.2].flatten) (fun (U : Md × Md × Md × Md × Md × Md) => Q U.1 U.2.1 U.2.2.1 U.2.2.2.1 U.2.2.2.2.1 U.2.2.2.2.2)) (K2 : Md → Md → Md → Md → Md → Md → Int32 → Prop) (hK2 : ∀ (u0 : Md) (u1 : Md) (u1_3 : Md) (u2 : Md) (u2_6 : Md) (u2_7 : Md) (y3 : Int32), K2 u0 u1 u1_3 u2 u2_6 u2_7 y3 → VV X 0 0 ([wX3 E h0 a0 u0, wX8 E h1 a1 u1, wX7 E (a1 3) a1_3 u1_3, wX10 E h2 a2 u2, wX5 E (a2 6) a2_6 u2_6, wX5 E (a2 7) a2_7 u2_7].flatten) [(0, .ref h0), (1, .ref h1), (2, .ref h2), (3, .int y3)] 2 []) : ∀ (n : Nat), ∀ (u0 : Md) (u1 : Md) (u1_3 : Md) (u2 : Md) (u2_6 : Md) (u2_7 : Md) (y3 : Int32) (y4 : Int32), qX3_fillGains_62 Q K2 n u0 u1 u1_3 u2 u2_6 u2_7 y3 y4 → VV X 0 0 ([wX3 E h0 a0 u0, wX8 E h1 a1 u1, wX7 E (a1 3) a1_3 u1_3, wX10 E h2 a2 u2, wX5 E (a2 6) a2_6 u2_6, wX5 E (a2 7) a2_7 u2_7].flatten) [(0, .ref h0), (1, .ref h1), (2, .ref h2), (3, .int y3), (4, .int y4)] 62 [] := by
  intro n
  induction n with
  | zero =>
    intro u0 u1 u1_3 u2 u2_6 u2_7 y3 y4 hw
    exact hw.elim
  | succ n ih =>
    intro u0 u1 u1_3 u2 u2_6 u2_7 y3 y4 hw
    unfold qX3_fillGains_62 at hw
    refine v_iload C dX3_fillGains_62 4 rfl ?_
    refine v_aload_n C dX3_fillGains_64 0 rfl ?_
    refine v_get (ci := 3) C inT3 0 6 rfl rfl (by decide) mF_X3_54_X3_6 rfl dX3_fillGains_65 ?_
    refine v_icmp_ge (tgt := 105) C dX3_fillGains_68 (by decide) (fun hc => ?_) (fun hc => ?_)
    · have hw := hw.1 hc
      refine v_iinc (lv' := [(3, .int (y3 + Int32.ofInt 1)), (0, .ref h0), (1, .ref h1), (2, .ref h2), (4, .int y4)]) C dX3_fillGains_105 3 rfl (by decide) rfl ?_
      refine v_goto (tgt := 2) C dX3_fillGains_108 (by decide) ?_
      refine v_lv C (lv' := [(0, .ref h0), (1, .ref h1), (2, .ref h2), (3, .int (y3 + Int32.ofInt 1))]) [1, 2, 3, 0] rfl ?_
      exact hK2 u0 u1 u1_3 u2 u2_6 u2_7 (y3 + Int32.ofInt 1) hw
    · have hw := hw.2 hc
      refine v_aload_n C dX3_fillGains_71 0 rfl ?_
      refine v_get (ci := 3) C inT3 0 8 rfl rfl (by decide) mF_X3_29_X3_8 rfl dX3_fillGains_72 ?_
      refine v_iload_n C dX3_fillGains_75 3 rfl ?_
      refine v_bipush (v := 10) C dX3_fillGains_76 (by decide) ?_
      refine v_imul C dX3_fillGains_78 ?_
      refine v_iload C dX3_fillGains_79 4 rfl ?_
      refine v_iadd C dX3_fillGains_81 ?_
      refine v_bipush (v := 20) C dX3_fillGains_82 (by decide) ?_
      refine v_aload_n C dX3_fillGains_84 0 rfl ?_
      refine v_aload_n C dX3_fillGains_85 1 rfl ?_
      refine v_aload_n C dX3_fillGains_86 2 rfl ?_
      refine v_aload_n C dX3_fillGains_87 0 rfl ?_
      refine v_get (ci := 3) C inT3 0 7 rfl rfl (by decide) mF_X3_26_X3_7 rfl dX3_fillGains_88 ?_
      refine v_iload C dX3_fillGains_91 4 rfl ?_
      obtain ⟨hi93, hw⟩ := hw
      refine v_iald C 4 rfl hi93 dX3_fillGains_93 ?_
      refine v_callFi (st := [.int 20, .int ((y3 * 10) + y4), .ref ((a0 8))]) (ci := 3) (qb := 0) C (kX3_fewestEdits h0 h1 h2 a0 a1 a1_3 a2 a2_6 a2_7 _ _ _ _ _ _ _ hw) mM_X3_104 mI_X3 mC_X3_fewestEdits mN_X3_fewestEdits mS_X3_fewestEdits rfl rfl hd_X3_fewestEdits ⟨Nat.le_of_ble_eq_true rfl, Nat.le_of_ble_eq_true rfl⟩ ⟨Nat.le_of_ble_eq_true rfl, Nat.le_of_ble_eq_true rfl⟩ rfl (Nat.le_of_ble_eq_true rfl) dX3_fillGains_94 (fun r94 U94 hw => ?_)
      obtain ⟨v94_0, v94_1, v94_2, v94_3, v94_4, v94_5⟩ := U94
      refine v_isub C dX3_fillGains_97 ?_
      obtain ⟨hi98, hw⟩ := hw
      obtain ⟨w98, e98⟩ : ∃ z : Md, z = tA v94_0 8 ((y3 * 10) + y4) (20 - r94) := ⟨_, rfl⟩
      have hw := hw w98 e98
      refine v_iast (ws' := [wX3 E h0 a0 w98, wX8 E h1 a1 v94_1, wX7 E (a1 3) a1_3 v94_2, wX10 E h2 a2 v94_3, wX5 E (a2 6) a2_6 v94_4, wX5 E (a2 7) a2_7 v94_5].flatten) C 5 rfl hi98 (by rw [e98]; rfl) dX3_fillGains_98 ?_
      refine v_iinc (lv' := [(4, .int (y4 + Int32.ofInt 1)), (0, .ref h0), (1, .ref h1), (2, .ref h2), (3, .int y3)]) C dX3_fillGains_99 4 rfl (by decide) rfl ?_
      refine v_goto (tgt := 62) C dX3_fillGains_102 (by decide) ?_
      refine v_lv C (lv' := [(0, .ref h0), (1, .ref h1), (2, .ref h2), (3, .int y3), (4, .int (y4 + Int32.ofInt 1))]) [1, 2, 3, 4, 0] rfl ?_
      exact ih w98 v94_1 v94_2 v94_3 v94_4 v94_5 y3 (y4 + Int32.ofInt 1) hw
set_option maxHeartbeats 4000000 in
set_option maxRecDepth 100000 in
theorem jX3_fillGains_21 {X : VX} {E : VE} {l : Launch} (h0 : Nat) (h1 : Nat) (h2 : Nat) (a0 : Nat → Nat) (a1 : Nat → Nat) (a1_3 : Nat → Nat) (a2 : Nat → Nat) (a2_6 : Nat → Nat) (a2_7 : Nat → Nat)  (Q : Md → Md → Md → Md → Md → Md → Prop) (C : VC X cX3_fillGains 5 RX3 (rmL 4 0 0) E l) (hret : RetV X cX3_fillGains 0 0 (fun (U : Md × Md × Md × Md × Md × Md) => [wX3 E h0 a0 U.1, wX8 E h1 a1 U.2.1, wX7 E (a1 3) a1_3 U.2.2.1, wX10 E h2 a2 U.2.2.2.1, wX5 E (a2 6) a2_6 U.2.2.2.2.1, wX5 E (a2 7) a2_7 U.2.2.2.2.2].flatten) (fun (U : Md × Md × Md × Md × Md × Md) => Q U.1 U.2.1 U.2.2.1 U.2.2.2.1 U.2.2.2.2.1 U.2.2.2.2.2)) (K2 : Md → Md → Md → Md → Md → Md → Int32 → Prop) (hK2 : ∀ (u0 : Md) (u1 : Md) (u1_3 : Md) (u2 : Md) (u2_6 : Md) (u2_7 : Md) (y3 : Int32), K2 u0 u1 u1_3 u2 u2_6 u2_7 y3 → VV X 0 0 ([wX3 E h0 a0 u0, wX8 E h1 a1 u1, wX7 E (a1 3) a1_3 u1_3, wX10 E h2 a2 u2, wX5 E (a2 6) a2_6 u2_6, wX5 E (a2 7) a2_7 u2_7].flatten) [(0, .ref h0), (1, .ref h1), (2, .ref h2), (3, .int y3)] 2 []) : ∀ (n : Nat), ∀ (u0 : Md) (u1 : Md) (u1_3 : Md) (u2 : Md) (u2_6 : Md) (u2_7 : Md) (y3 : Int32) (y4 : Int32), qX3_fillGains_21 Q K2 n u0 u1 u1_3 u2 u2_6 u2_7 y3 y4 → VV X 0 0 ([wX3 E h0 a0 u0, wX8 E h1 a1 u1, wX7 E (a1 3) a1_3 u1_3, wX10 E h2 a2 u2, wX5 E (a2 6) a2_6 u2_6, wX5 E (a2 7) a2_7 u2_7].flatten) [(0, .ref h0), (1, .ref h1), (2, .ref h2), (3, .int y3), (4, .int y4)] 21 [] := by
  intro n
  induction n with
  | zero =>
    intro u0 u1 u1_3 u2 u2_6 u2_7 y3 y4 hw
    exact hw.elim
  | succ n ih =>
    intro u0 u1 u1_3 u2 u2_6 u2_7 y3 y4 hw
    unfold qX3_fillGains_21 at hw
    refine v_iload C dX3_fillGains_21 4 rfl ?_
    refine v_aload_n C dX3_fillGains_23 0 rfl ?_
    refine v_get (ci := 3) C inT3 0 2 rfl rfl (by decide) mF_X3_15_X3_2 rfl dX3_fillGains_24 ?_
    refine v_iload_n C dX3_fillGains_27 3 rfl ?_
    obtain ⟨hi28, hw⟩ := hw
    refine v_iald C 1 rfl hi28 dX3_fillGains_28 ?_
    refine v_icmp_ge (tgt := 59) C dX3_fillGains_29 (by decide) (fun hc => ?_) (fun hc => ?_)
    · have hw := hw.1 hc
      refine v_iconst (v := 0) C dX3_fillGains_59 (by decide) ?_
      refine v_istore (lv' := [(4, .int 0), (0, .ref h0), (1, .ref h1), (2, .ref h2), (3, .int y3)]) C dX3_fillGains_60 (by decide) rfl ?_
      refine v_lv C (lv' := [(0, .ref h0), (1, .ref h1), (2, .ref h2), (3, .int y3), (4, .int 0)]) [1, 2, 3, 4, 0] rfl ?_
      obtain ⟨n', hw⟩ := hw
      exact jX3_fillGains_62 h0 h1 h2 a0 a1 a1_3 a2 a2_6 a2_7 Q C hret K2 hK2 n' u0 u1 u1_3 u2 u2_6 u2_7 y3 0 hw
    · have hw := hw.2 hc
      refine v_aload_n C dX3_fillGains_32 2 rfl ?_
      refine v_get (ci := 10) C inT10 24 6 rfl rfl (by decide) mF_X3_91_X10_6 rfl dX3_fillGains_33 ?_
      refine v_aload_n C dX3_fillGains_36 0 rfl ?_
      refine v_get (ci := 3) C inT3 0 3 rfl rfl (by decide) mF_X3_19_X3_3 rfl dX3_fillGains_37 ?_
      refine v_iload_n C dX3_fillGains_40 3 rfl ?_
      refine v_bipush (v := 24) C dX3_fillGains_41 (by decide) ?_
      refine v_imul C dX3_fillGains_43 ?_
      refine v_iload C dX3_fillGains_44 4 rfl ?_
      refine v_iadd C dX3_fillGains_46 ?_
      obtain ⟨hi47, hw⟩ := hw
      refine v_bald C 2 rfl hi47 dX3_fillGains_47 ?_
      refine v_bipush (v := (-3)) C dX3_fillGains_48 (by decide) ?_
      refine v_callVMv (st := []) (ci := 5) (qb := 32) C (kX5_add ((a2 6)) a2_6 _ _ _ hw) mM_X3_100 mI_X5 mC_X5_add mN_X5_add mS_X5_add rfl rfl hd_X5_add ⟨Nat.le_of_ble_eq_true rfl, Nat.le_of_ble_eq_true rfl⟩ ⟨Nat.le_of_ble_eq_true rfl, Nat.le_of_ble_eq_true rfl⟩ [4] [0, 1, 2, 3, 5] (N0 := 6) rfl (by decide) (ms2 := (fun (U : Md) => [wX3 E h0 a0 u0, wX8 E h1 a1 u1, wX7 E (a1 3) a1_3 u1_3, wX10 E h2 a2 u2, wX5 E (a2 6) a2_6 U, wX5 E (a2 7) a2_7 u2_7])) rfl (fun _ => rfl) (fun _ => rfl) (fun _ => rfl) rfl (Nat.le_of_ble_eq_true rfl) dX3_fillGains_50 (fun v50_0 hw => ?_)
      refine v_iinc (lv' := [(4, .int (y4 + Int32.ofInt 1)), (0, .ref h0), (1, .ref h1), (2, .ref h2), (3, .int y3)]) C dX3_fillGains_53 4 rfl (by decide) rfl ?_
      refine v_goto (tgt := 21) C dX3_fillGains_56 (by decide) ?_
      refine v_lv C (lv' := [(0, .ref h0), (1, .ref h1), (2, .ref h2), (3, .int y3), (4, .int (y4 + Int32.ofInt 1))]) [1, 2, 3, 4, 0] rfl ?_
      exact ih u0 u1 u1_3 u2 v50_0 u2_7 y3 (y4 + Int32.ofInt 1) hw
set_option maxHeartbeats 4000000 in
set_option maxRecDepth 100000 in
theorem jX3_fillGains_2 {X : VX} {E : VE} {l : Launch} (h0 : Nat) (h1 : Nat) (h2 : Nat) (a0 : Nat → Nat) (a1 : Nat → Nat) (a1_3 : Nat → Nat) (a2 : Nat → Nat) (a2_6 : Nat → Nat) (a2_7 : Nat → Nat)  (Q : Md → Md → Md → Md → Md → Md → Prop) (C : VC X cX3_fillGains 5 RX3 (rmL 4 0 0) E l) (hret : RetV X cX3_fillGains 0 0 (fun (U : Md × Md × Md × Md × Md × Md) => [wX3 E h0 a0 U.1, wX8 E h1 a1 U.2.1, wX7 E (a1 3) a1_3 U.2.2.1, wX10 E h2 a2 U.2.2.2.1, wX5 E (a2 6) a2_6 U.2.2.2.2.1, wX5 E (a2 7) a2_7 U.2.2.2.2.2].flatten) (fun (U : Md × Md × Md × Md × Md × Md) => Q U.1 U.2.1 U.2.2.1 U.2.2.2.1 U.2.2.2.2.1 U.2.2.2.2.2))  : ∀ (n : Nat), ∀ (u0 : Md) (u1 : Md) (u1_3 : Md) (u2 : Md) (u2_6 : Md) (u2_7 : Md) (y3 : Int32), qX3_fillGains_2 Q n u0 u1 u1_3 u2 u2_6 u2_7 y3 → VV X 0 0 ([wX3 E h0 a0 u0, wX8 E h1 a1 u1, wX7 E (a1 3) a1_3 u1_3, wX10 E h2 a2 u2, wX5 E (a2 6) a2_6 u2_6, wX5 E (a2 7) a2_7 u2_7].flatten) [(0, .ref h0), (1, .ref h1), (2, .ref h2), (3, .int y3)] 2 [] := by
  intro n
  induction n with
  | zero =>
    intro u0 u1 u1_3 u2 u2_6 u2_7 y3 hw
    exact hw.elim
  | succ n ih =>
    intro u0 u1 u1_3 u2 u2_6 u2_7 y3 hw
    unfold qX3_fillGains_2 at hw
    refine v_iload_n C dX3_fillGains_2 3 rfl ?_
    refine v_aload_n C dX3_fillGains_3 0 rfl ?_
    refine v_get (ci := 3) C inT3 0 1 rfl rfl (by decide) mF_X3_35_X3_1 rfl dX3_fillGains_4 ?_
    refine v_icmp_ge (tgt := 111) C dX3_fillGains_7 (by decide) (fun hc => ?_) (fun hc => ?_)
    · have hw := hw.1 hc
      exact hret _ _ _ _ (u0, u1, u1_3, u2, u2_6, u2_7) dX3_fillGains_111 hw (Nat.le_of_ble_eq_true rfl) (Nat.le_of_ble_eq_true rfl)
    · have hw := hw.2 hc
      refine v_aload_n C dX3_fillGains_10 2 rfl ?_
      refine v_get (ci := 10) C inT10 24 6 rfl rfl (by decide) mF_X3_91_X10_6 rfl dX3_fillGains_11 ?_
      refine v_iconst (v := 0) C dX3_fillGains_14 (by decide) ?_
      obtain ⟨w15, e15⟩ : ∃ z : Md, z = sF u2_6 0 0 := ⟨_, rfl⟩
      have hw := hw w15 e15
      refine v_put (ci := 5) (ws' := [wX3 E h0 a0 u0, wX8 E h1 a1 u1, wX7 E (a1 3) a1_3 u1_3, wX10 E h2 a2 u2, wX5 E (a2 6) a2_6 w15, wX5 E (a2 7) a2_7 u2_7].flatten) C tyX5 tyX5_ok nmX5 inT5 32 0 rfl rfl (by decide) mF_X3_97_X5_0 rfl rfl rfl rfl (Nat.le_of_ble_eq_true rfl) (by rw [e15]; rfl) dX3_fillGains_15 ?_
      refine v_iconst (v := 0) C dX3_fillGains_18 (by decide) ?_
      refine v_istore (lv' := [(4, .int 0), (0, .ref h0), (1, .ref h1), (2, .ref h2), (3, .int y3)]) C dX3_fillGains_19 (by decide) rfl ?_
      refine v_lv C (lv' := [(0, .ref h0), (1, .ref h1), (2, .ref h2), (3, .int y3), (4, .int 0)]) [1, 2, 3, 4, 0] rfl ?_
      obtain ⟨n', hw⟩ := hw
      exact jX3_fillGains_21 h0 h1 h2 a0 a1 a1_3 a2 a2_6 a2_7 Q C hret (qX3_fillGains_2 Q n) ih n' u0 u1 u1_3 u2 w15 u2_7 y3 0 hw
set_option maxHeartbeats 4000000 in
set_option maxRecDepth 100000 in
theorem kX3_fillGains {l : Launch} {E : VE} (h0 : Nat) (h1 : Nat) (h2 : Nat) (a0 : Nat → Nat) (a1 : Nat → Nat) (a1_3 : Nat → Nat) (a2 : Nat → Nat) (a2_6 : Nat → Nat) (a2_7 : Nat → Nat) (u0 : Md) (u1 : Md) (u1_3 : Md) (u2 : Md) (u2_6 : Md) (u2_7 : Md) {Q : Md → Md → Md → Md → Md → Md → Prop} (hw : qX3_fillGains u0 u1 u1_3 u2 u2_6 u2_7 Q) : MV l yX3_fillGains cX3_fillGains 5 4 0 0 E [.ref h0, .ref h1, .ref h2] ([wX3 E h0 a0 u0, wX8 E h1 a1 u1, wX7 E (a1 3) a1_3 u1_3, wX10 E h2 a2 u2, wX5 E (a2 6) a2_6 u2_6, wX5 E (a2 7) a2_7 u2_7].flatten) (fun (U : Md × Md × Md × Md × Md × Md) => [wX3 E h0 a0 U.1, wX8 E h1 a1 U.2.1, wX7 E (a1 3) a1_3 U.2.2.1, wX10 E h2 a2 U.2.2.2.1, wX5 E (a2 6) a2_6 U.2.2.2.2.1, wX5 E (a2 7) a2_7 U.2.2.2.2.2].flatten) (fun (U : Md × Md × Md × Md × Md × Md) => Q U.1 U.2.1 U.2.2.1 U.2.2.2.1 U.2.2.2.2.1 U.2.2.2.2.2) := by
  refine MV.of (own := RX3) (by decide) rfl (Nat.le_of_ble_eq_true rfl) ?_
  intro X C hini hret
  show VV X 0 0 ([wX3 E h0 a0 u0, wX8 E h1 a1 u1, wX7 E (a1 3) a1_3 u1_3, wX10 E h2 a2 u2, wX5 E (a2 6) a2_6 u2_6, wX5 E (a2 7) a2_7 u2_7].flatten) [(0, .ref h0), (1, .ref h1), (2, .ref h2)] 0 []
  unfold qX3_fillGains at hw
  refine v_iconst (v := 0) C dX3_fillGains_0 (by decide) ?_
  refine v_istore_n (lv' := [(3, .int 0), (0, .ref h0), (1, .ref h1), (2, .ref h2)]) C dX3_fillGains_1 (by decide) rfl ?_
  refine v_lv C (lv' := [(0, .ref h0), (1, .ref h1), (2, .ref h2), (3, .int 0)]) [1, 2, 3, 0] rfl ?_
  obtain ⟨n', hw⟩ := hw
  exact jX3_fillGains_2 h0 h1 h2 a0 a1 a1_3 a2 a2_6 a2_7 Q C hret n' u0 u1 u1_3 u2 u2_6 u2_7 0 hw
set_option maxHeartbeats 4000000 in
set_option maxRecDepth 100000 in
theorem jX3_sumWith_47 {X : VX} {E : VE} {l : Launch} (h0 : Nat) (h1 : Nat) (a0 : Nat → Nat) (a1 : Nat → Nat)  (Q : Int32 → Md → Md → Prop) (C : VC X cX3_sumWith 6 RX3 (rmL 1 0 0) E l) (hret : RetI X cX3_sumWith .int 0 0 (fun (U : Md × Md) => [wX3 E h0 a0 U.1, wX2 E h1 a1 U.2].flatten) (fun (r : Int32) (U : Md × Md) => Q r U.1 U.2))  : ∀ (u0 : Md) (u1 : Md) (y2 : Int32) (y4 : Int32) (y5 : Int32), qX3_sumWith_47 Q u0 u1 y2 y4 y5 → VV X 0 0 ([wX3 E h0 a0 u0, wX2 E h1 a1 u1].flatten) [(0, .ref h0), (2, .int y2), (4, .int y4), (5, .int y5)] 47 [] := by
  intro u0 u1 y2 y4 y5 hw
  unfold qX3_sumWith_47 at hw
  refine v_iload C dX3_sumWith_47 3 rfl ?_
  refine v_aload_n C dX3_sumWith_49 0 rfl ?_
  refine v_get (ci := 3) C inT3 0 9 rfl rfl (by decide) mF_X3_32_X3_9 rfl dX3_sumWith_50 ?_
  refine v_iload_n C dX3_sumWith_53 1 rfl ?_
  refine v_iconst (v := 1) C dX3_sumWith_54 (by decide) ?_
  refine v_iload C dX3_sumWith_55 2 rfl ?_
  refine v_ishl C dX3_sumWith_57 ?_
  refine v_ior C dX3_sumWith_58 ?_
  refine v_bipush (v := 10) C dX3_sumWith_59 (by decide) ?_
  refine v_imul C dX3_sumWith_61 ?_
  refine v_iload C dX3_sumWith_62 2 rfl ?_
  refine v_iadd C dX3_sumWith_64 ?_
  obtain ⟨hi65, hw⟩ := hw
  refine v_iald C 6 rfl hi65 dX3_sumWith_65 ?_
  refine v_iadd C dX3_sumWith_66 ?_
  exact hret _ _ _ _ (y5 + (gA u0 9 (((y2 ||| ((1 : Int32) <<< (y4 &&& 31))) * 10) + y4).toNatClampNeg)) (u0, u1) dX3_sumWith_67 rfl hw (Nat.le_of_ble_eq_true rfl) (Nat.le_of_ble_eq_true rfl)
set_option maxHeartbeats 4000000 in
set_option maxRecDepth 100000 in
theorem kX3_sumWith {l : Launch} {E : VE} (h0 : Nat) (h1 : Nat) (a0 : Nat → Nat) (a1 : Nat → Nat) (u0 : Md) (u1 : Md) (x2 : Int32) (x3 : Int32) (x4 : Int32) {Q : Int32 → Md → Md → Prop} (hw : qX3_sumWith u0 u1 x2 x3 x4 Q) : MI l yX3_sumWith cX3_sumWith 6 .int 1 0 0 E [.ref h0, .ref h1, .int x2, .int x3, .int x4] ([wX3 E h0 a0 u0, wX2 E h1 a1 u1].flatten) (fun (U : Md × Md) => [wX3 E h0 a0 U.1, wX2 E h1 a1 U.2].flatten) (fun (r : Int32) (U : Md × Md) => Q r U.1 U.2) := by
  refine MI.of (own := RX3) (by decide) rfl (Nat.le_of_ble_eq_true rfl) ?_
  intro X C hini hret
  show VV X 0 0 ([wX3 E h0 a0 u0, wX2 E h1 a1 u1].flatten) [(0, .ref h0), (1, .ref h1), (2, .int x2), (3, .int x3), (4, .int x4)] 0 []
  unfold qX3_sumWith at hw
  refine v_aload_n C dX3_sumWith_0 0 rfl ?_
  refine v_get (ci := 3) C inT3 0 8 rfl rfl (by decide) mF_X3_29_X3_8 rfl dX3_sumWith_1 ?_
  refine v_iload_n C dX3_sumWith_4 2 rfl ?_
  refine v_callSPi (st := [.ref ((a0 8))]) C (kJ6_bitCount_0f7a4 _ hw) mM_X3_125 mI_J6 mC_J6_bitCount_0f7a4 mT_J6_bitCount_0f7a4 hd_J6_bitCount_0f7a4 ⟨Nat.le_of_ble_eq_true rfl, Nat.le_of_ble_eq_true rfl⟩ ⟨Nat.le_of_ble_eq_true rfl, Nat.le_of_ble_eq_true rfl⟩ rfl (Nat.le_of_ble_eq_true rfl) dX3_sumWith_5 (fun r5 U5 hw => ?_)
  refine v_bipush (v := 10) C dX3_sumWith_8 (by decide) ?_
  refine v_imul C dX3_sumWith_10 ?_
  refine v_iload C dX3_sumWith_11 4 rfl ?_
  refine v_iadd C dX3_sumWith_13 ?_
  obtain ⟨hi14, hw⟩ := hw
  refine v_iald C 5 rfl hi14 dX3_sumWith_14 ?_
  refine v_istore (lv' := [(5, .int (gA u0 8 ((r5 * 10) + x4).toNatClampNeg)), (0, .ref h0), (1, .ref h1), (2, .int x2), (3, .int x3), (4, .int x4)]) C dX3_sumWith_15 (by decide) rfl ?_
  refine v_iload_n C dX3_sumWith_17 4 rfl ?_
  refine v_iconst (v := (-1)) C dX3_sumWith_18 (by decide) ?_
  refine v_icmp_eq (tgt := 47) C dX3_sumWith_19 (by decide) (fun hc => ?_) (fun hc => ?_)
  · have hw := hw.1 hc
    refine v_lv C (lv' := [(0, .ref h0), (2, .int x2), (4, .int x4), (5, .int (gA u0 8 ((r5 * 10) + x4).toNatClampNeg))]) [1, 3, 5, 0] rfl ?_
    exact jX3_sumWith_47 h0 h1 a0 a1 Q C hret u0 u1 x2 x4 (gA u0 8 ((r5 * 10) + x4).toNatClampNeg) hw
  · have hw := hw.2 hc
    refine v_aload_n C dX3_sumWith_22 2 rfl ?_
    refine v_aload_n C dX3_sumWith_23 1 rfl ?_
    refine v_get (ci := 3) C inT3 0 7 rfl rfl (by decide) mF_X3_26_X3_7 rfl dX3_sumWith_24 ?_
    refine v_iload_n C dX3_sumWith_27 4 rfl ?_
    obtain ⟨hi28, hw⟩ := hw
    refine v_iald C 4 rfl hi28 dX3_sumWith_28 ?_
    refine v_aload_n C dX3_sumWith_29 1 rfl ?_
    refine v_get (ci := 3) C inT3 0 7 rfl rfl (by decide) mF_X3_26_X3_7 rfl dX3_sumWith_30 ?_
    refine v_iload C dX3_sumWith_33 5 rfl ?_
    obtain ⟨hi35, hw⟩ := hw
    refine v_iald C 4 rfl hi35 dX3_sumWith_35 ?_
    refine v_bipush (v := 30) C dX3_sumWith_36 (by decide) ?_
    refine v_callVMi (st := []) (ci := 2) (qb := 7) C (kX2_areNear h1 a1 _ _ _ _ hw) mM_X3_139 mI_X2 mC_X2_areNear mN_X2_areNear mS_X2_areNear rfl rfl hd_X2_areNear ⟨Nat.le_of_ble_eq_true rfl, Nat.le_of_ble_eq_true rfl⟩ ⟨Nat.le_of_ble_eq_true rfl, Nat.le_of_ble_eq_true rfl⟩ [1] [0] (N0 := 2) rfl (by decide) (ms2 := (fun (U : Md) => [wX3 E h0 a0 u0, wX2 E h1 a1 U])) rfl (fun _ => rfl) (fun _ => rfl) (fun _ => rfl) rfl (Nat.le_of_ble_eq_true rfl) dX3_sumWith_38 (fun r38 v38_0 hw => ?_)
    obtain ⟨h01_38, hw⟩ := hw
    have hw := hw h01_38
    refine v_if_eq (tgt := 47) C dX3_sumWith_41 (by decide) (fun hc => ?_) (fun hc => ?_)
    · have hw := hw.1 hc
      refine v_lv C (lv' := [(0, .ref h0), (2, .int x2), (4, .int x4), (5, .int (gA u0 8 ((r5 * 10) + x4).toNatClampNeg))]) [1, 3, 5, 0] rfl ?_
      exact jX3_sumWith_47 h0 h1 a0 a1 Q C hret u0 v38_0 x2 x4 (gA u0 8 ((r5 * 10) + x4).toNatClampNeg) hw
    · have hw := hw.2 hc
      refine v_iinc (lv' := [(5, .int ((gA u0 8 ((r5 * 10) + x4).toNatClampNeg) + Int32.ofInt 3)), (0, .ref h0), (1, .ref h1), (2, .int x2), (3, .int x3), (4, .int x4)]) C dX3_sumWith_44 0 rfl (by decide) rfl ?_
      refine v_lv C (lv' := [(0, .ref h0), (2, .int x2), (4, .int x4), (5, .int ((gA u0 8 ((r5 * 10) + x4).toNatClampNeg) + Int32.ofInt 3))]) [1, 3, 5, 0] rfl ?_
      exact jX3_sumWith_47 h0 h1 a0 a1 Q C hret u0 v38_0 x2 x4 ((gA u0 8 ((r5 * 10) + x4).toNatClampNeg) + Int32.ofInt 3) hw
set_option maxHeartbeats 4000000 in
set_option maxRecDepth 100000 in
theorem jX3_mostBehind_24 {X : VX} {E : VE} {l : Launch} (h0 : Nat) (h1 : Nat) (a0 : Nat → Nat) (a1 : Nat → Nat)  (Q : Int32 → Md → Md → Prop) (C : VC X cX3_mostBehind 7 RX3 (rmL 2 0 0) E l) (hret : RetI X cX3_mostBehind .int 0 0 (fun (U : Md × Md) => [wX3 E h0 a0 U.1, wX2 E h1 a1 U.2].flatten) (fun (r : Int32) (U : Md × Md) => Q r U.1 U.2))  : ∀ (n : Nat), ∀ (u0 : Md) (u1 : Md) (y2 : Int32) (y3 : Int32) (y5 : Int32) (y6 : Int32), qX3_mostBehind_24 Q n u0 u1 y2 y3 y5 y6 → VV X 0 0 ([wX3 E h0 a0 u0, wX2 E h1 a1 u1].flatten) [(0, .ref h0), (1, .ref h1), (2, .int y2), (3, .int y3), (5, .int y5), (6, .int y6)] 24 [] := by
  intro n
  induction n with
  | zero =>
    intro u0 u1 y2 y3 y5 y6 hw
    exact hw.elim
  | succ n ih =>
    intro u0 u1 y2 y3 y5 y6 hw
    unfold qX3_mostBehind_24 at hw
    refine v_iload C dX3_mostBehind_24 5 rfl ?_
    refine v_aload_n C dX3_mostBehind_26 0 rfl ?_
    refine v_get (ci := 3) C inT3 0 6 rfl rfl (by decide) mF_X3_54_X3_6 rfl dX3_mostBehind_27 ?_
    refine v_icmp_ge (tgt := 64) C dX3_mostBehind_30 (by decide) (fun hc => ?_) (fun hc => ?_)
    · have hw := hw.1 hc
      refine v_iload C dX3_mostBehind_64 4 rfl ?_
      exact hret _ _ _ _ y5 (u0, u1) dX3_mostBehind_66 rfl hw (Nat.le_of_ble_eq_true rfl) (Nat.le_of_ble_eq_true rfl)
    · have hw := hw.2 hc
      refine v_iload_n C dX3_mostBehind_33 2 rfl ?_
      refine v_iload C dX3_mostBehind_34 5 rfl ?_
      refine v_ishr C dX3_mostBehind_36 ?_
      refine v_iconst (v := 1) C dX3_mostBehind_37 (by decide) ?_
      refine v_iand C dX3_mostBehind_38 ?_
      refine v_if_ne (tgt := 58) C dX3_mostBehind_39 (by decide) (fun hc => ?_) (fun hc => ?_)
      · have hw := hw.1 hc
        refine v_iinc (lv' := [(6, .int (y6 + Int32.ofInt 1)), (0, .ref h0), (1, .ref h1), (2, .int y2), (3, .int y3), (5, .int y5)]) C dX3_mostBehind_58 5 rfl (by decide) rfl ?_
        refine v_goto (tgt := 24) C dX3_mostBehind_61 (by decide) ?_
        refine v_lv C (lv' := [(0, .ref h0), (1, .ref h1), (2, .int y2), (3, .int y3), (5, .int y5), (6, .int (y6 + Int32.ofInt 1))]) [1, 2, 3, 4, 5, 0] rfl ?_
        exact ih u0 u1 y2 y3 y5 (y6 + Int32.ofInt 1) hw
      · have hw := hw.2 hc
        refine v_iload C dX3_mostBehind_42 4 rfl ?_
        refine v_aload_n C dX3_mostBehind_44 0 rfl ?_
        refine v_aload_n C dX3_mostBehind_45 1 rfl ?_
        refine v_iload_n C dX3_mostBehind_46 2 rfl ?_
        refine v_iload_n C dX3_mostBehind_47 3 rfl ?_
        refine v_iload C dX3_mostBehind_48 5 rfl ?_
        refine v_callFi (st := [.int y5]) (ci := 3) (qb := 0) C (kX3_sumWith h0 h1 a0 a1 _ _ _ _ _ hw) mM_X3_132 mI_X3 mC_X3_sumWith mN_X3_sumWith mS_X3_sumWith rfl rfl hd_X3_sumWith ⟨Nat.le_of_ble_eq_true rfl, Nat.le_of_ble_eq_true rfl⟩ ⟨Nat.le_of_ble_eq_true rfl, Nat.le_of_ble_eq_true rfl⟩ rfl (Nat.le_of_ble_eq_true rfl) dX3_mostBehind_50 (fun r50 U50 hw => ?_)
        obtain ⟨v50_0, v50_1⟩ := U50
        refine v_imax C mM_X3_136 ⟨Nat.le_of_ble_eq_true rfl, Nat.le_of_ble_eq_true rfl, Nat.le_of_ble_eq_true rfl, Nat.le_of_ble_eq_true rfl⟩ dX3_mostBehind_53 ?_
        refine v_istore (lv' := [(5, .int (imax y5 r50)), (0, .ref h0), (1, .ref h1), (2, .int y2), (3, .int y3), (6, .int y6)]) C dX3_mostBehind_56 (by decide) rfl ?_
        refine v_iinc (lv' := [(6, .int (y6 + Int32.ofInt 1)), (5, .int (imax y5 r50)), (0, .ref h0), (1, .ref h1), (2, .int y2), (3, .int y3)]) C dX3_mostBehind_58 5 rfl (by decide) rfl ?_
        refine v_goto (tgt := 24) C dX3_mostBehind_61 (by decide) ?_
        refine v_lv C (lv' := [(0, .ref h0), (1, .ref h1), (2, .int y2), (3, .int y3), (5, .int (imax y5 r50)), (6, .int (y6 + Int32.ofInt 1))]) [2, 3, 4, 5, 1, 0] rfl ?_
        exact ih v50_0 v50_1 y2 y3 (imax y5 r50) (y6 + Int32.ofInt 1) hw
set_option maxHeartbeats 4000000 in
set_option maxRecDepth 100000 in
theorem kX3_mostBehind {l : Launch} {E : VE} (h0 : Nat) (h1 : Nat) (a0 : Nat → Nat) (a1 : Nat → Nat) (u0 : Md) (u1 : Md) (x2 : Int32) (x3 : Int32) {Q : Int32 → Md → Md → Prop} (hw : qX3_mostBehind u0 u1 x2 x3 Q) : MI l yX3_mostBehind cX3_mostBehind 7 .int 2 0 0 E [.ref h0, .ref h1, .int x2, .int x3] ([wX3 E h0 a0 u0, wX2 E h1 a1 u1].flatten) (fun (U : Md × Md) => [wX3 E h0 a0 U.1, wX2 E h1 a1 U.2].flatten) (fun (r : Int32) (U : Md × Md) => Q r U.1 U.2) := by
  refine MI.of (own := RX3) (by decide) rfl (Nat.le_of_ble_eq_true rfl) ?_
  intro X C hini hret
  show VV X 0 0 ([wX3 E h0 a0 u0, wX2 E h1 a1 u1].flatten) [(0, .ref h0), (1, .ref h1), (2, .int x2), (3, .int x3)] 0 []
  unfold qX3_mostBehind at hw
  refine v_iload_n C dX3_mostBehind_0 2 rfl ?_
  refine v_callSPi (st := []) C (kJ6_bitCount_0f7a4 _ hw) mM_X3_125 mI_J6 mC_J6_bitCount_0f7a4 mT_J6_bitCount_0f7a4 hd_J6_bitCount_0f7a4 ⟨Nat.le_of_ble_eq_true rfl, Nat.le_of_ble_eq_true rfl⟩ ⟨Nat.le_of_ble_eq_true rfl, Nat.le_of_ble_eq_true rfl⟩ rfl (Nat.le_of_ble_eq_true rfl) dX3_mostBehind_1 (fun r1 U1 hw => ?_)
  refine v_istore (lv' := [(4, .int r1), (0, .ref h0), (1, .ref h1), (2, .int x2), (3, .int x3)]) C dX3_mostBehind_4 (by decide) rfl ?_
  refine v_iload C dX3_mostBehind_6 0 rfl ?_
  refine v_aload_n C dX3_mostBehind_8 1 rfl ?_
  refine v_get (ci := 3) C inT3 0 1 rfl rfl (by decide) mF_X3_35_X3_1 rfl dX3_mostBehind_9 ?_
  refine v_icmp_lt (tgt := 17) C dX3_mostBehind_12 (by decide) (fun hc => ?_) (fun hc => ?_)
  · have hw := hw.1 hc
    refine v_ldc C mK_X3_131 dX3_mostBehind_17 ?_
    refine v_istore (lv' := [(5, .int ((-2147483648))), (4, .int r1), (0, .ref h0), (1, .ref h1), (2, .int x2), (3, .int x3)]) C dX3_mostBehind_19 (by decide) rfl ?_
    refine v_iconst (v := 0) C dX3_mostBehind_21 (by decide) ?_
    refine v_istore (lv' := [(6, .int 0), (5, .int ((-2147483648))), (4, .int r1), (0, .ref h0), (1, .ref h1), (2, .int x2), (3, .int x3)]) C dX3_mostBehind_22 (by decide) rfl ?_
    refine v_lv C (lv' := [(0, .ref h0), (1, .ref h1), (2, .int x2), (3, .int x3), (5, .int ((-2147483648))), (6, .int 0)]) [3, 4, 5, 6, 1, 0] rfl ?_
    obtain ⟨n', hw⟩ := hw
    exact jX3_mostBehind_24 h0 h1 a0 a1 Q C hret n' u0 u1 x2 x3 ((-2147483648)) 0 hw
  · have hw := hw.2 hc
    refine v_iconst (v := 0) C dX3_mostBehind_15 (by decide) ?_
    exact hret _ _ _ _ 0 (u0, u1) dX3_mostBehind_16 rfl hw (Nat.le_of_ble_eq_true rfl) (Nat.le_of_ble_eq_true rfl)
set_option maxHeartbeats 4000000 in
set_option maxRecDepth 100000 in
theorem jX3_fillMost_46 {X : VX} {E : VE} {l : Launch} (h0 : Nat) (h1 : Nat) (a0 : Nat → Nat) (a1 : Nat → Nat)  (Q : Md → Md → Prop) (C : VC X cX3_fillMost 4 RX3 (rmL 3 1 10240) E l) (hret : RetV X cX3_fillMost 1 10240 (fun (U : Md × Md) => [wX3 E h0 a0 U.1, wX2 E h1 a1 U.2].flatten) (fun (U : Md × Md) => Q U.1 U.2)) (K33 : Md → Md → Int32 → Prop) (hK33 : ∀ (u0 : Md) (u1 : Md) (y2 : Int32), K33 u0 u1 y2 → VV X 1 10240 ([wX3 E h0 a0 u0, wX2 E h1 a1 u1].flatten) [(0, .ref h0), (1, .ref h1), (2, .int y2)] 33 []) : ∀ (n : Nat), ∀ (u0 : Md) (u1 : Md) (y2 : Int32) (y3 : Int32), qX3_fillMost_46 Q K33 n u0 u1 y2 y3 → VV X 1 10240 ([wX3 E h0 a0 u0, wX2 E h1 a1 u1].flatten) [(0, .ref h0), (1, .ref h1), (2, .int y2), (3, .int y3)] 46 [] := by
  intro n
  induction n with
  | zero =>
    intro u0 u1 y2 y3 hw
    exact hw.elim
  | succ n ih =>
    intro u0 u1 y2 y3 hw
    unfold qX3_fillMost_46 at hw
    refine v_iload_n C dX3_fillMost_46 3 rfl ?_
    refine v_aload_n C dX3_fillMost_47 0 rfl ?_
    refine v_get (ci := 3) C inT3 0 6 rfl rfl (by decide) mF_X3_54_X3_6 rfl dX3_fillMost_48 ?_
    refine v_icmp_ge (tgt := 98) C dX3_fillMost_51 (by decide) (fun hc => ?_) (fun hc => ?_)
    · have hw := hw.1 hc
      refine v_iinc (lv' := [(2, .int (y2 + Int32.ofInt (-1))), (0, .ref h0), (1, .ref h1), (3, .int y3)]) C dX3_fillMost_98 2 rfl (by decide) rfl ?_
      refine v_goto (tgt := 33) C dX3_fillMost_101 (by decide) ?_
      refine v_lv C (lv' := [(0, .ref h0), (1, .ref h1), (2, .int (y2 + Int32.ofInt (-1)))]) [1, 2, 0] rfl ?_
      exact hK33 u0 u1 (y2 + Int32.ofInt (-1)) hw
    · have hw := hw.2 hc
      refine v_iload_n C dX3_fillMost_54 2 rfl ?_
      refine v_callSPi (st := []) C (kJ6_bitCount_0f7a4 _ hw) mM_X3_125 mI_J6 mC_J6_bitCount_0f7a4 mT_J6_bitCount_0f7a4 hd_J6_bitCount_0f7a4 ⟨Nat.le_of_ble_eq_true rfl, Nat.le_of_ble_eq_true rfl⟩ ⟨Nat.le_of_ble_eq_true rfl, Nat.le_of_ble_eq_true rfl⟩ rfl (Nat.le_of_ble_eq_true rfl) dX3_fillMost_55 (fun r55 U55 hw => ?_)
      refine v_aload_n C dX3_fillMost_58 0 rfl ?_
      refine v_get (ci := 3) C inT3 0 1 rfl rfl (by decide) mF_X3_35_X3_1 rfl dX3_fillMost_59 ?_
      refine v_icmp_gt (tgt := 98) C dX3_fillMost_62 (by decide) (fun hc => ?_) (fun hc => ?_)
      · have hw := hw.1 hc
        refine v_iinc (lv' := [(2, .int (y2 + Int32.ofInt (-1))), (0, .ref h0), (1, .ref h1), (3, .int y3)]) C dX3_fillMost_98 2 rfl (by decide) rfl ?_
        refine v_goto (tgt := 33) C dX3_fillMost_101 (by decide) ?_
        refine v_lv C (lv' := [(0, .ref h0), (1, .ref h1), (2, .int (y2 + Int32.ofInt (-1)))]) [1, 2, 0] rfl ?_
        exact hK33 u0 u1 (y2 + Int32.ofInt (-1)) hw
      · have hw := hw.2 hc
        refine v_iload_n C dX3_fillMost_65 2 rfl ?_
        refine v_iload_n C dX3_fillMost_66 3 rfl ?_
        refine v_ishr C dX3_fillMost_67 ?_
        refine v_iconst (v := 1) C dX3_fillMost_68 (by decide) ?_
        refine v_iand C dX3_fillMost_69 ?_
        refine v_iconst (v := 1) C dX3_fillMost_70 (by decide) ?_
        refine v_icmp_ne (tgt := 92) C dX3_fillMost_71 (by decide) (fun hc => ?_) (fun hc => ?_)
        · have hw := hw.1 hc
          refine v_iinc (lv' := [(3, .int (y3 + Int32.ofInt 1)), (0, .ref h0), (1, .ref h1), (2, .int y2)]) C dX3_fillMost_92 3 rfl (by decide) rfl ?_
          refine v_goto (tgt := 46) C dX3_fillMost_95 (by decide) ?_
          refine v_lv C (lv' := [(0, .ref h0), (1, .ref h1), (2, .int y2), (3, .int (y3 + Int32.ofInt 1))]) [1, 2, 3, 0] rfl ?_
          exact ih u0 u1 y2 (y3 + Int32.ofInt 1) hw
        · have hw := hw.2 hc
          refine v_aload_n C dX3_fillMost_74 0 rfl ?_
          refine v_get (ci := 3) C inT3 0 9 rfl rfl (by decide) mF_X3_32_X3_9 rfl dX3_fillMost_75 ?_
          refine v_iload_n C dX3_fillMost_78 2 rfl ?_
          refine v_bipush (v := 10) C dX3_fillMost_79 (by decide) ?_
          refine v_imul C dX3_fillMost_81 ?_
          refine v_iload_n C dX3_fillMost_82 3 rfl ?_
          refine v_iadd C dX3_fillMost_83 ?_
          refine v_aload_n C dX3_fillMost_84 0 rfl ?_
          refine v_aload_n C dX3_fillMost_85 1 rfl ?_
          refine v_iload_n C dX3_fillMost_86 2 rfl ?_
          refine v_iload_n C dX3_fillMost_87 3 rfl ?_
          refine v_callFi (st := [.int ((y2 * 10) + y3), .ref ((gX u0 0))]) (ci := 3) (qb := 0) C (kX3_mostBehind h0 h1 a0 a1 _ _ _ _ hw) mM_X3_71 mI_X3 mC_X3_mostBehind mN_X3_mostBehind mS_X3_mostBehind rfl rfl hd_X3_mostBehind ⟨Nat.le_of_ble_eq_true rfl, Nat.le_of_ble_eq_true rfl⟩ ⟨Nat.le_of_ble_eq_true rfl, Nat.le_of_ble_eq_true rfl⟩ rfl (Nat.le_of_ble_eq_true rfl) dX3_fillMost_88 (fun r88 U88 hw => ?_)
          obtain ⟨v88_0, v88_1⟩ := U88
          obtain ⟨hx91, hw⟩ := hw
          rw [← hx91]
          obtain ⟨hi91, hw⟩ := hw
          obtain ⟨w91, e91⟩ : ∃ z : Md, z = tA v88_0 9 ((y2 * 10) + y3) r88 := ⟨_, rfl⟩
          have hw := hw w91 e91
          refine v_iast (ws' := [wX3 E h0 a0 w91, wX2 E h1 a1 v88_1].flatten) C 6 rfl hi91 (by rw [e91]; rfl) dX3_fillMost_91 ?_
          refine v_iinc (lv' := [(3, .int (y3 + Int32.ofInt 1)), (0, .ref h0), (1, .ref h1), (2, .int y2)]) C dX3_fillMost_92 3 rfl (by decide) rfl ?_
          refine v_goto (tgt := 46) C dX3_fillMost_95 (by decide) ?_
          refine v_lv C (lv' := [(0, .ref h0), (1, .ref h1), (2, .int y2), (3, .int (y3 + Int32.ofInt 1))]) [1, 2, 3, 0] rfl ?_
          exact ih w91 v88_1 y2 (y3 + Int32.ofInt 1) hw
set_option maxHeartbeats 4000000 in
set_option maxRecDepth 100000 in
theorem jX3_fillMost_33 {X : VX} {E : VE} {l : Launch} (h0 : Nat) (h1 : Nat) (a0 : Nat → Nat) (a1 : Nat → Nat)  (Q : Md → Md → Prop) (C : VC X cX3_fillMost 4 RX3 (rmL 3 1 10240) E l) (hret : RetV X cX3_fillMost 1 10240 (fun (U : Md × Md) => [wX3 E h0 a0 U.1, wX2 E h1 a1 U.2].flatten) (fun (U : Md × Md) => Q U.1 U.2))  : ∀ (n : Nat), ∀ (u0 : Md) (u1 : Md) (y2 : Int32), qX3_fillMost_33 Q n u0 u1 y2 → VV X 1 10240 ([wX3 E h0 a0 u0, wX2 E h1 a1 u1].flatten) [(0, .ref h0), (1, .ref h1), (2, .int y2)] 33 [] := by
  intro n
  induction n with
  | zero =>
    intro u0 u1 y2 hw
    exact hw.elim
  | succ n ih =>
    intro u0 u1 y2 hw
    unfold qX3_fillMost_33 at hw
    refine v_iload_n C dX3_fillMost_33 2 rfl ?_
    refine v_if_le (tgt := 104) C dX3_fillMost_34 (by decide) (fun hc => ?_) (fun hc => ?_)
    · have hw := hw.1 hc
      exact hret _ _ _ _ (u0, u1) dX3_fillMost_104 hw (Nat.le_of_ble_eq_true rfl) (Nat.le_of_ble_eq_true rfl)
    · have hw := hw.2 hc
      refine v_aload_n C dX3_fillMost_37 0 rfl ?_
      refine v_get (ci := 3) C inT3 0 1 rfl rfl (by decide) mF_X3_35_X3_1 rfl dX3_fillMost_38 ?_
      refine v_if_le (tgt := 104) C dX3_fillMost_41 (by decide) (fun hc => ?_) (fun hc => ?_)
      · have hw := hw.1 hc
        exact hret _ _ _ _ (u0, u1) dX3_fillMost_104 hw (Nat.le_of_ble_eq_true rfl) (Nat.le_of_ble_eq_true rfl)
      · have hw := hw.2 hc
        refine v_iconst (v := 0) C dX3_fillMost_44 (by decide) ?_
        refine v_istore_n (lv' := [(3, .int 0), (0, .ref h0), (1, .ref h1), (2, .int y2)]) C dX3_fillMost_45 (by decide) rfl ?_
        refine v_lv C (lv' := [(0, .ref h0), (1, .ref h1), (2, .int y2), (3, .int 0)]) [1, 2, 3, 0] rfl ?_
        obtain ⟨n', hw⟩ := hw
        exact jX3_fillMost_46 h0 h1 a0 a1 Q C hret (qX3_fillMost_33 Q n) ih n' u0 u1 y2 0 hw
set_option maxHeartbeats 4000000 in
set_option maxRecDepth 100000 in
theorem jX3_fillMost_24 {X : VX} {E : VE} {l : Launch} (h0 : Nat) (h1 : Nat) (a0 : Nat → Nat) (a1 : Nat → Nat)  (Q : Md → Md → Prop) (C : VC X cX3_fillMost 4 RX3 (rmL 3 1 10240) E l) (hret : RetV X cX3_fillMost 1 10240 (fun (U : Md × Md) => [wX3 E h0 a0 U.1, wX2 E h1 a1 U.2].flatten) (fun (U : Md × Md) => Q U.1 U.2))  : ∀ (u0 : Md) (u1 : Md), qX3_fillMost_24 Q u0 u1 → VV X 1 10240 ([wX3 E h0 a0 u0, wX2 E h1 a1 u1].flatten) [(0, .ref h0), (1, .ref h1)] 24 [] := by
  intro u0 u1 hw
  unfold qX3_fillMost_24 at hw
  refine v_iconst (v := 1) C dX3_fillMost_24 (by decide) ?_
  refine v_aload_n C dX3_fillMost_25 0 rfl ?_
  refine v_get (ci := 3) C inT3 0 6 rfl rfl (by decide) mF_X3_54_X3_6 rfl dX3_fillMost_26 ?_
  refine v_ishl C dX3_fillMost_29 ?_
  refine v_iconst (v := 1) C dX3_fillMost_30 (by decide) ?_
  refine v_isub C dX3_fillMost_31 ?_
  refine v_istore_n (lv' := [(2, .int (((1 : Int32) <<< ((gF u0 6) &&& 31)) - 1)), (0, .ref h0), (1, .ref h1)]) C dX3_fillMost_32 (by decide) rfl ?_
  refine v_lv C (lv' := [(0, .ref h0), (1, .ref h1), (2, .int (((1 : Int32) <<< ((gF u0 6) &&& 31)) - 1))]) [1, 2, 0] rfl ?_
  obtain ⟨n', hw⟩ := hw
  exact jX3_fillMost_33 h0 h1 a0 a1 Q C hret n' u0 u1 (((1 : Int32) <<< ((gF u0 6) &&& 31)) - 1) hw
set_option maxHeartbeats 4000000 in
set_option maxRecDepth 100000 in
theorem kX3_fillMost {l : Launch} {E : VE} (h0 : Nat) (h1 : Nat) (a0 : Nat → Nat) (a1 : Nat → Nat) (u0 : Md) (u1 : Md) {Q : Md → Md → Prop} (hw : qX3_fillMost u0 u1 Q) : MV l yX3_fillMost cX3_fillMost 4 3 1 10240 E [.ref h0, .ref h1] ([wX3 E h0 a0 u0, wX2 E h1 a1 u1].flatten) (fun (U : Md × Md) => [wX3 E h0 a0 U.1, wX2 E h1 a1 U.2].flatten) (fun (U : Md × Md) => Q U.1 U.2) := by
  refine MV.of (own := RX3) (by decide) rfl (Nat.le_of_ble_eq_true rfl) ?_
  intro X C hini hret
  show VV X 0 0 ([wX3 E h0 a0 u0, wX2 E h1 a1 u1].flatten) [(0, .ref h0), (1, .ref h1)] 0 []
  unfold qX3_fillMost at hw
  refine v_aload_n C dX3_fillMost_0 0 rfl ?_
  refine v_get (ci := 3) C inT3 0 9 rfl rfl (by decide) mF_X3_32_X3_9 rfl dX3_fillMost_1 ?_
  refine v_alen C 6 1 rfl rfl rfl dX3_fillMost_4 ?_
  refine v_if_ne (tgt := 24) C dX3_fillMost_5 (by decide) (fun hc => ?_) (fun hc => ?_)
  · have hw := hw.1 hc
    refine v_widen (a' := 1) (b' := 10240) C (Nat.le_of_ble_eq_true rfl) (Nat.le_of_ble_eq_true rfl) ?_
    exact jX3_fillMost_24 h0 h1 a0 a1 Q C hret u0 u1 hw
  · have hw := hw.2 hc
    refine v_aload_n C dX3_fillMost_8 0 rfl ?_
    refine v_get (ci := 3) C inT3 0 1 rfl rfl (by decide) mF_X3_35_X3_1 rfl dX3_fillMost_9 ?_
    refine v_if_le (tgt := 24) C dX3_fillMost_12 (by decide) (fun hc => ?_) (fun hc => ?_)
    · have hw := hw.1 hc
      refine v_widen (a' := 1) (b' := 10240) C (Nat.le_of_ble_eq_true rfl) (Nat.le_of_ble_eq_true rfl) ?_
      exact jX3_fillMost_24 h0 h1 a0 a1 Q C hret u0 u1 hw
    · have hw := hw.2 hc
      refine v_aload_n C dX3_fillMost_15 0 rfl ?_
      refine v_sipush (v := 10240) C dX3_fillMost_16 (by decide) ?_
      refine v_newai (N := 10240) C (by decide) (by decide) (by decide) (Nat.le_of_ble_eq_true rfl) (Nat.le_of_ble_eq_true rfl) dX3_fillMost_19 (fun q19 => ?_)
      have hw := hw q19
      refine v_put (ci := 3) (ws' := ((([wX3 E h0 a0 u0, wX2 E h1 a1 u1].flatten) ++ ([(q19, .inl (eI E, 10240, .inl (fun _ => 0)))] : va_W)).set 0 (h0, .inr (3, [.int (gF u0 0), .int (gF u0 1), .ref (a0 2), .ref (a0 3), .int (gF u0 4), .ref (a0 5), .int (gF u0 6), .ref (a0 7), .ref (a0 8), .ref q19])))) C tyX3 tyX3_ok nmX3 inT3 0 9 rfl rfl (by decide) mF_X3_32_X3_9 rfl rfl rfl rfl (Nat.le_of_ble_eq_true rfl) rfl dX3_fillMost_21 ?_
      refine v_ws (ws' := [wX3 E h0 a0 (sX (sX (sA u0 9 (fun _ => 0)) 0 q19) 1 10240), wX2 E h1 a1 u1].flatten) C [0, 1, 2, 3, 4, 5, 16, 7, 8, 9, 10, 11, 12, 13, 14, 15] (by decide) rfl ?_
      exact jX3_fillMost_24 h0 h1 a0 a1 Q C hret (sX (sX (sA u0 9 (fun _ => 0)) 0 q19) 1 10240) u1 hw
