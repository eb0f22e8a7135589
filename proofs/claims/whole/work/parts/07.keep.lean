set_option maxHeartbeats 4000000 in
set_option maxRecDepth 100000 in
theorem kX11_keep_lvN {l : Launch} {E : VE} (h0 : Nat) (a0 : Nat → Nat) (a0_0 : Nat → Nat) (a0_0_2 : Nat → Nat) (a0_0_3 : Nat → Nat) (a0_0_4 : Nat → Nat) (a0_0_5 : Nat → Nat) (a0_0_6 : Nat → Nat) (u0 : Md) (u0_0 : Md) (u0_0_2 : Md) (u0_0_3 : Md) (u0_0_4 : Md) (u0_0_5 : Md) (u0_0_6 : Md) (x1 : Int32) (h1 : ¬ x1 < 0) (h2 : x1 < 3) (hi : vp_in x1 3) (him : gO u0 1 x1.toNatClampNeg = none) {Q : Md → Md → Md → Md → Md → Md → Md → Md → Md → Md → Md → Md → Prop} (hw : qX8_copyFrom uX8 uX2 uX7 uX0 uX1 uX6 u0_0 u0_0_2 u0_0_3 u0_0_4 u0_0_5 u0_0_6 Q) : MI l yX11_keep cX11_keep 2 .int 4 53 8762 E [.ref h0, .int x1] ([wX11 E h0 a0 u0, wX8 E ((a0 0)) a0_0 u0_0, wX2 E (a0_0 2) a0_0_2 u0_0_2, wX7 E (a0_0 3) a0_0_3 u0_0_3, wX0 E (a0_0 4) a0_0_4 u0_0_4, wX1 E (a0_0 5) a0_0_5 u0_0_5, wX6 E (a0_0 6) a0_0_6 u0_0_6].flatten) (fun (U : Nat × (Nat → Nat) × (Nat → Nat) × (Nat → Nat) × (Nat → Nat) × (Nat → Nat) × (Nat → Nat) × Md × Md × Md × Md × Md × Md × Md × Md × Md × Md × Md × Md) => [wX11 E h0 a0 (sO u0 1 (va_up (gO u0 1) x1.toNatClampNeg (some (U.1)))), wX8 E ((a0 0)) a0_0 U.2.2.2.2.2.2.2.2.2.2.2.2.2.1, wX2 E (a0_0 2) a0_0_2 U.2.2.2.2.2.2.2.2.2.2.2.2.2.2.1, wX7 E (a0_0 3) a0_0_3 U.2.2.2.2.2.2.2.2.2.2.2.2.2.2.2.1, wX0 E (a0_0 4) a0_0_4 U.2.2.2.2.2.2.2.2.2.2.2.2.2.2.2.2.1, wX1 E (a0_0 5) a0_0_5 U.2.2.2.2.2.2.2.2.2.2.2.2.2.2.2.2.2.1, wX6 E (a0_0 6) a0_0_6 U.2.2.2.2.2.2.2.2.2.2.2.2.2.2.2.2.2.2, wX8 E U.1 U.2.1 U.2.2.2.2.2.2.2.1, wX2 E (U.2.1 2) U.2.2.1 U.2.2.2.2.2.2.2.2.1, wX7 E (U.2.1 3) U.2.2.2.1 U.2.2.2.2.2.2.2.2.2.1, wX0 E (U.2.1 4) U.2.2.2.2.1 U.2.2.2.2.2.2.2.2.2.2.1, wX1 E (U.2.1 5) U.2.2.2.2.2.1 U.2.2.2.2.2.2.2.2.2.2.2.1, wX6 E (U.2.1 6) U.2.2.2.2.2.2.1 U.2.2.2.2.2.2.2.2.2.2.2.2.1].flatten) (fun (r : Int32) (U : Nat × (Nat → Nat) × (Nat → Nat) × (Nat → Nat) × (Nat → Nat) × (Nat → Nat) × (Nat → Nat) × Md × Md × Md × Md × Md × Md × Md × Md × Md × Md × Md × Md) => r = 0 ∧ Q U.2.2.2.2.2.2.2.1 U.2.2.2.2.2.2.2.2.1 U.2.2.2.2.2.2.2.2.2.1 U.2.2.2.2.2.2.2.2.2.2.1 U.2.2.2.2.2.2.2.2.2.2.2.1 U.2.2.2.2.2.2.2.2.2.2.2.2.1 U.2.2.2.2.2.2.2.2.2.2.2.2.2.1 U.2.2.2.2.2.2.2.2.2.2.2.2.2.2.1 U.2.2.2.2.2.2.2.2.2.2.2.2.2.2.2.1 U.2.2.2.2.2.2.2.2.2.2.2.2.2.2.2.2.1 U.2.2.2.2.2.2.2.2.2.2.2.2.2.2.2.2.2.1 U.2.2.2.2.2.2.2.2.2.2.2.2.2.2.2.2.2.2) := by
  refine MI.of (own := RX11) (by decide) rfl (Nat.le_of_ble_eq_true rfl) ?_
  intro X C hini hret
  show VV X 0 0 ([wX11 E h0 a0 u0, wX8 E ((a0 0)) a0_0 u0_0, wX2 E (a0_0 2) a0_0_2 u0_0_2, wX7 E (a0_0 3) a0_0_3 u0_0_3, wX0 E (a0_0 4) a0_0_4 u0_0_4, wX1 E (a0_0 5) a0_0_5 u0_0_5, wX6 E (a0_0 6) a0_0_6 u0_0_6].flatten) [(0, .ref h0), (1, .int x1)] 0 []
  refine v_iload_n C dX11_keep_0 1 rfl ?_
  refine v_if_lt (tgt := 9) C dX11_keep_1 (by decide) (fun hc => absurd hc h1) (fun hc => ?_)
  refine v_iload_n C dX11_keep_4 1 rfl ?_
  refine v_iconst (v := 3) C dX11_keep_5 (by decide) ?_
  refine v_icmp_lt (tgt := 12) C dX11_keep_6 (by decide) (fun hc => ?_) (fun hc => absurd h2 hc)
  refine v_aload_n C dX11_keep_12 0 rfl ?_
  refine v_get (ci := 11) C inT11 0 1 rfl rfl (by decide) mF_X11_16_X11_1 rfl dX11_keep_13 ?_
  refine v_iload_n C dX11_keep_16 1 rfl ?_
  refine v_aaldq (v := .null) C 1 rfl hi (by rw [him]; rfl) dX11_keep_17 ?_
  refine v_ifnonnullN C dX11_keep_18 ?_
  refine v_aload_n C dX11_keep_21 0 rfl ?_
  refine v_get (ci := 11) C inT11 0 1 rfl rfl (by decide) mF_X11_16_X11_1 rfl dX11_keep_22 ?_
  refine v_iload_n C dX11_keep_25 1 rfl ?_
  refine v_new (ci := 8) (fs := [.int 0, .null, .null, .null, .null, .null, .null]) C tyX8 tyX8_ok inT8 rfl mCl_X11_7 mIn_X8 mI_X8 hfs_X8 (Nat.le_of_ble_eq_true rfl) (Nat.le_of_ble_eq_true rfl) dX11_keep_26 (fun q => ?_)
  refine v_dup C dX11_keep_29 rfl ?_
  refine v_callINR (st := [.ref q, .int x1, .ref (a0 1)]) C (kX8_init q) (by decide +kernel) mI_X8 mC_X8_init mN_X8_init rfl hdi_X8 ⟨Nat.le_of_ble_eq_true rfl, Nat.le_of_ble_eq_true rfl⟩ ⟨Nat.le_of_ble_eq_true rfl, Nat.le_of_ble_eq_true rfl⟩ (Nat.le_of_ble_eq_true rfl) dX11_keep_30 (fun sx _ => ?_)
  obtain ⟨s0, s1, s2, s3, s4, s5⟩ := sx
  refine v_eq C (ws' := [wX11 E h0 a0 u0, wX8 E ((a0 0)) a0_0 u0_0, wX2 E (a0_0 2) a0_0_2 u0_0_2, wX7 E (a0_0 3) a0_0_3 u0_0_3, wX0 E (a0_0 4) a0_0_4 u0_0_4, wX1 E (a0_0 5) a0_0_5 u0_0_5, wX6 E (a0_0 6) a0_0_6 u0_0_6, wX8 E q s0 uX8, wX2 E (s0 2) s1 uX2, wX7 E (s0 3) s2 uX7, wX0 E (s0 4) s3 uX0, wX1 E (s0 5) s4 uX1, wX6 E (s0 6) s5 uX6].flatten) (by simp only [List.flatten_cons, List.flatten_nil, List.append_nil, List.append_assoc]) rfl rfl rfl ?_
  refine v_aast (ws' := [wX11 E h0 a0 (sO u0 1 (va_up (gO u0 1) x1.toNatClampNeg (some q))), wX8 E ((a0 0)) a0_0 u0_0, wX2 E (a0_0 2) a0_0_2 u0_0_2, wX7 E (a0_0 3) a0_0_3 u0_0_3, wX0 E (a0_0 4) a0_0_4 u0_0_4, wX1 E (a0_0 5) a0_0_5 u0_0_5, wX6 E (a0_0 6) a0_0_6 u0_0_6, wX8 E q s0 uX8, wX2 E (s0 2) s1 uX2, wX7 E (s0 3) s2 uX7, wX0 E (s0 4) s3 uX0, wX1 E (s0 5) s4 uX1, wX6 E (s0 6) s5 uX6].flatten) (ci := 8) C 1 58 rfl rfl rfl rfl hi rfl dX11_keep_33 ?_
  generalize hu1 : sO u0 1 (va_up (gO u0 1) x1.toNatClampNeg (some q)) = u1
  refine v_aload_n C dX11_keep_34 0 rfl ?_
  refine v_get (ci := 11) C inT11 0 1 rfl rfl (by decide) mF_X11_16_X11_1 rfl dX11_keep_35 ?_
  refine v_iload_n C dX11_keep_38 1 rfl ?_
  refine v_aaldq (v := .ref q) C 1 rfl hi (by rw [← hu1]; show va_rf (va_up _ _ _ _) = _; simp [va_up, va_rf]) dX11_keep_39 ?_
  refine v_aload_n C dX11_keep_40 0 rfl ?_
  refine v_get (ci := 11) C inT11 0 0 rfl rfl (by decide) mF_X11_10_X11_0 rfl dX11_keep_41 ?_
  refine v_callVMv (st := []) (ci := 8) (qb := 58) C (kX8_copyFrom q (a0 0) s0 s1 s2 s3 s4 s5 a0_0 a0_0_2 a0_0_3 a0_0_4 a0_0_5 a0_0_6 _ _ _ _ _ _ _ _ _ _ _ _ hw) mM_X11_343 mI_X8 mC_X8_copyFrom mN_X8_copyFrom mS_X8_copyFrom rfl rfl hd_X8_copyFrom ⟨Nat.le_of_ble_eq_true rfl, Nat.le_of_ble_eq_true rfl⟩ ⟨Nat.le_of_ble_eq_true rfl, Nat.le_of_ble_eq_true rfl⟩ [7, 8, 9, 10, 11, 12, 1, 2, 3, 4, 5, 6] [0] (N0 := 13) rfl (by decide) (ms2 := (fun (U : Md × Md × Md × Md × Md × Md × Md × Md × Md × Md × Md × Md) => [wX11 E h0 a0 u1, wX8 E ((a0 0)) a0_0 U.2.2.2.2.2.2.1, wX2 E (a0_0 2) a0_0_2 U.2.2.2.2.2.2.2.1, wX7 E (a0_0 3) a0_0_3 U.2.2.2.2.2.2.2.2.1, wX0 E (a0_0 4) a0_0_4 U.2.2.2.2.2.2.2.2.2.1, wX1 E (a0_0 5) a0_0_5 U.2.2.2.2.2.2.2.2.2.2.1, wX6 E (a0_0 6) a0_0_6 U.2.2.2.2.2.2.2.2.2.2.2, wX8 E q s0 U.1, wX2 E (s0 2) s1 U.2.1, wX7 E (s0 3) s2 U.2.2.1, wX0 E (s0 4) s3 U.2.2.2.1, wX1 E (s0 5) s4 U.2.2.2.2.1, wX6 E (s0 6) s5 U.2.2.2.2.2.1])) rfl (fun _ => rfl) (fun _ => rfl) (fun _ => rfl) rfl (Nat.le_of_ble_eq_true rfl) dX11_keep_44 (fun V hw => ?_)
  obtain ⟨v0, v1, v2, v3, v4, v5, v6, v7, v8, v9, v10, v11⟩ := V
  refine v_iconst (v := 0) C dX11_keep_47 (by decide) ?_
  subst hu1
  exact hret _ _ _ _ 0 (q, s0, s1, s2, s3, s4, s5, v0, v1, v2, v3, v4, v5, v6, v7, v8, v9, v10, v11) dX11_keep_48 rfl ⟨rfl, hw⟩ (Nat.le_of_ble_eq_true rfl) (Nat.le_of_ble_eq_true rfl)
