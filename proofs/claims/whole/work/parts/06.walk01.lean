set_option maxHeartbeats 4000000 in
set_option maxRecDepth 100000 in
theorem jX0_lastLine_21 {X : VX} {E : VE} {l : Launch} (h0 : Nat) (a0 : Nat → Nat)  (Q : Int32 → Md → Prop) (C : VC X cX0_lastLine 4 RX0 (rmL 0 0 0) E l) (hret : RetI X cX0_lastLine .int 0 0 (fun (U : Md) => [wX0 E h0 a0 U].flatten) (fun (r : Int32) (U : Md) => Q r U))  : ∀ (n : Nat), ∀ (u0 : Md) (y1 : Int32) (y2 : Int32) (y3 : Int32), qX0_lastLine_21 Q n u0 y1 y2 y3 → VV X 0 0 ([wX0 E h0 a0 u0].flatten) [(0, .ref h0), (1, .int y1), (2, .int y2), (3, .int y3)] 21 [] := by
  intro n
  induction n with
  | zero =>
    intro u0 y1 y2 y3 hw
    exact hw.elim
  | succ n ih =>
    intro u0 y1 y2 y3 hw
    unfold qX0_lastLine_21 at hw
    refine v_iload_n C dX0_lastLine_21 3 rfl ?_
    refine v_iload_n C dX0_lastLine_22 1 rfl ?_
    refine v_bipush (v := 12) C dX0_lastLine_23 (by decide) ?_
    refine v_imul C dX0_lastLine_25 ?_
    refine v_icmp_lt (tgt := 47) C dX0_lastLine_26 (by decide) (fun hc => ?_) (fun hc => ?_)
    · have hw := hw.1 hc
      refine v_iconst (v := (-1)) C dX0_lastLine_47 (by decide) ?_
      exact hret _ _ _ _ ((-1)) u0 dX0_lastLine_48 rfl hw (Nat.le_of_ble_eq_true rfl) (Nat.le_of_ble_eq_true rfl)
    · have hw := hw.2 hc
      refine v_aload_n C dX0_lastLine_29 0 rfl ?_
      refine v_get (ci := 0) C inT0 0 4 rfl rfl (by decide) mF_X0_22_X0_4 rfl dX0_lastLine_30 ?_
      refine v_iload_n C dX0_lastLine_33 3 rfl ?_
      obtain ⟨hi34, hw⟩ := hw
      refine v_iald C 4 rfl hi34 dX0_lastLine_34 ?_
      refine v_iload_n C dX0_lastLine_35 2 rfl ?_
      refine v_icmp_ne (tgt := 41) C dX0_lastLine_36 (by decide) (fun hc => ?_) (fun hc => ?_)
      · have hw := hw.1 hc
        refine v_iinc (lv' := [(3, .int (y3 + Int32.ofInt (-1))), (0, .ref h0), (1, .int y1), (2, .int y2)]) C dX0_lastLine_41 3 rfl (by decide) rfl ?_
        refine v_goto (tgt := 21) C dX0_lastLine_44 (by decide) ?_
        refine v_lv C (lv' := [(0, .ref h0), (1, .int y1), (2, .int y2), (3, .int (y3 + Int32.ofInt (-1)))]) [1, 2, 3, 0] rfl ?_
        exact ih u0 y1 y2 (y3 + Int32.ofInt (-1)) hw
      · have hw := hw.2 hc
        refine v_iload_n C dX0_lastLine_39 3 rfl ?_
        exact hret _ _ _ _ y3 u0 dX0_lastLine_40 rfl hw (Nat.le_of_ble_eq_true rfl) (Nat.le_of_ble_eq_true rfl)
set_option maxHeartbeats 4000000 in
set_option maxRecDepth 100000 in
theorem kX0_lastLine {l : Launch} {E : VE} (h0 : Nat) (a0 : Nat → Nat) (u0 : Md) (x1 : Int32) (x2 : Int32) {Q : Int32 → Md → Prop} (hw : qX0_lastLine u0 x1 x2 Q) : MI l yX0_lastLine cX0_lastLine 4 .int 0 0 0 E [.ref h0, .int x1, .int x2] ([wX0 E h0 a0 u0].flatten) (fun (U : Md) => [wX0 E h0 a0 U].flatten) (fun (r : Int32) (U : Md) => Q r U) := by
  refine MI.of (own := RX0) (by decide) rfl (Nat.le_of_ble_eq_true rfl) ?_
  intro X C hini hret
  show VV X 0 0 ([wX0 E h0 a0 u0].flatten) [(0, .ref h0), (1, .int x1), (2, .int x2)] 0 []
  unfold qX0_lastLine at hw
  refine v_iload_n C dX0_lastLine_0 1 rfl ?_
  refine v_iconst (v := (-1)) C dX0_lastLine_1 (by decide) ?_
  refine v_icmp_ne (tgt := 7) C dX0_lastLine_2 (by decide) (fun hc => ?_) (fun hc => ?_)
  · have hw := hw.1 hc
    refine v_iload_n C dX0_lastLine_7 1 rfl ?_
    refine v_bipush (v := 12) C dX0_lastLine_8 (by decide) ?_
    refine v_imul C dX0_lastLine_10 ?_
    refine v_aload_n C dX0_lastLine_11 0 rfl ?_
    refine v_get (ci := 0) C inT0 0 2 rfl rfl (by decide) mF_X0_15_X0_2 rfl dX0_lastLine_12 ?_
    refine v_iload_n C dX0_lastLine_15 1 rfl ?_
    obtain ⟨hi16, hw⟩ := hw
    refine v_iald C 2 rfl hi16 dX0_lastLine_16 ?_
    refine v_iadd C dX0_lastLine_17 ?_
    refine v_iconst (v := 1) C dX0_lastLine_18 (by decide) ?_
    refine v_isub C dX0_lastLine_19 ?_
    refine v_istore_n (lv' := [(3, .int (((x1 * 12) + (gA u0 2 x1.toNatClampNeg)) - 1)), (0, .ref h0), (1, .int x1), (2, .int x2)]) C dX0_lastLine_20 (by decide) rfl ?_
    refine v_lv C (lv' := [(0, .ref h0), (1, .int x1), (2, .int x2), (3, .int (((x1 * 12) + (gA u0 2 x1.toNatClampNeg)) - 1))]) [1, 2, 3, 0] rfl ?_
    obtain ⟨n', hw⟩ := hw
    exact jX0_lastLine_21 h0 a0 Q C hret n' u0 x1 x2 (((x1 * 12) + (gA u0 2 x1.toNatClampNeg)) - 1) hw
  · have hw := hw.2 hc
    refine v_iconst (v := (-1)) C dX0_lastLine_5 (by decide) ?_
    exact hret _ _ _ _ ((-1)) u0 dX0_lastLine_6 rfl hw (Nat.le_of_ble_eq_true rfl) (Nat.le_of_ble_eq_true rfl)
set_option maxHeartbeats 4000000 in
set_option maxRecDepth 100000 in
theorem kX0_numberOf {l : Launch} {E : VE} (h0 : Nat) (a0 : Nat → Nat) (u0 : Md) (x1 : Int32) (x2 : Int32) (x3 : Int32) {Q : Int32 → Md → Prop} (hw : qX0_numberOf u0 x1 x2 x3 Q) : MI l yX0_numberOf cX0_numberOf 5 .int 1 0 0 E [.ref h0, .int x1, .int x2, .int x3] ([wX0 E h0 a0 u0].flatten) (fun (U : Md) => [wX0 E h0 a0 U].flatten) (fun (r : Int32) (U : Md) => Q r U) := by
  refine MI.of (own := RX0) (by decide) rfl (Nat.le_of_ble_eq_true rfl) ?_
  intro X C hini hret
  show VV X 0 0 ([wX0 E h0 a0 u0].flatten) [(0, .ref h0), (1, .int x1), (2, .int x2), (3, .int x3)] 0 []
  unfold qX0_numberOf at hw
  refine v_aload_n C dX0_numberOf_0 0 rfl ?_
  refine v_iload_n C dX0_numberOf_1 1 rfl ?_
  refine v_iload_n C dX0_numberOf_2 2 rfl ?_
  refine v_callFi (st := []) (ci := 0) (qb := 0) C (kX0_lastLine h0 a0 _ _ _ hw) mM_X0_139 mI_X0 mC_X0_lastLine mN_X0_lastLine mS_X0_lastLine rfl rfl hd_X0_lastLine ⟨Nat.le_of_ble_eq_true rfl, Nat.le_of_ble_eq_true rfl⟩ ⟨Nat.le_of_ble_eq_true rfl, Nat.le_of_ble_eq_true rfl⟩ rfl (Nat.le_of_ble_eq_true rfl) dX0_numberOf_3 (fun r3 v3_0 hw => ?_)
  refine v_istore (lv' := [(4, .int r3), (0, .ref h0), (1, .int x1), (2, .int x2), (3, .int x3)]) C dX0_numberOf_6 (by decide) rfl ?_
  refine v_iload C dX0_numberOf_8 0 rfl ?_
  refine v_iconst (v := (-1)) C dX0_numberOf_10 (by decide) ?_
  refine v_icmp_ne (tgt := 18) C dX0_numberOf_11 (by decide) (fun hc => ?_) (fun hc => ?_)
  · have hw := hw.1 hc
    refine v_aload_n C dX0_numberOf_18 1 rfl ?_
    refine v_get (ci := 0) C inT0 0 5 rfl rfl (by decide) mF_X0_25_X0_5 rfl dX0_numberOf_19 ?_
    refine v_iload C dX0_numberOf_22 0 rfl ?_
    obtain ⟨hi24, hw⟩ := hw
    refine v_iald C 5 rfl hi24 dX0_numberOf_24 ?_
    exact hret _ _ _ _ (gA v3_0 5 r3.toNatClampNeg) v3_0 dX0_numberOf_25 rfl hw (Nat.le_of_ble_eq_true rfl) (Nat.le_of_ble_eq_true rfl)
  · have hw := hw.2 hc
    refine v_iload_n C dX0_numberOf_14 4 rfl ?_
    refine v_goto (tgt := 25) C dX0_numberOf_15 (by decide) ?_
    exact hret _ _ _ _ x3 v3_0 dX0_numberOf_25 rfl hw (Nat.le_of_ble_eq_true rfl) (Nat.le_of_ble_eq_true rfl)
set_option maxHeartbeats 4000000 in
set_option maxRecDepth 100000 in
theorem jX11_copyFlags_2 {X : VX} {E : VE} {l : Launch} (h0 : Nat) (h1 : Nat) (n0 : Nat) (n1 : Nat) (Q : (Nat → Bool) → (Nat → Bool) → Prop) (C : VC X cX11_copyFlags 4 RX11 (rmL 0 0 0) E l) (hret : RetV X cX11_copyFlags 0 0 (fun (U : (Nat → Bool) × (Nat → Bool)) => [wAZ E h0 n0 U.1, wAZ E h1 n1 U.2].flatten) (fun (U : (Nat → Bool) × (Nat → Bool)) => Q U.1 U.2))  : ∀ (n : Nat), ∀ (f0 : Nat → Bool) (f1 : Nat → Bool) (y2 : Int32) (y3 : Int32), qX11_copyFlags_2 n0 n1 Q n f0 f1 y2 y3 → VV X 0 0 ([wAZ E h0 n0 f0, wAZ E h1 n1 f1].flatten) [(0, .ref h0), (1, .ref h1), (2, .int y2), (3, .int y3)] 2 [] := by
  intro n
  induction n with
  | zero =>
    intro f0 f1 y2 y3 hw
    exact hw.elim
  | succ n ih =>
    intro f0 f1 y2 y3 hw
    unfold qX11_copyFlags_2 at hw
    refine v_iload_n C dX11_copyFlags_2 3 rfl ?_
    refine v_iload_n C dX11_copyFlags_3 2 rfl ?_
    refine v_icmp_ge (tgt := 31) C dX11_copyFlags_4 (by decide) (fun hc => ?_) (fun hc => ?_)
    · have hw := hw.1 hc
      exact hret _ _ _ _ (f0, f1) dX11_copyFlags_31 hw (Nat.le_of_ble_eq_true rfl) (Nat.le_of_ble_eq_true rfl)
    · have hw := hw.2 hc
      refine v_iload_n C dX11_copyFlags_7 3 rfl ?_
      refine v_aload_n C dX11_copyFlags_8 0 rfl ?_
      refine v_alen C 0 3 rfl rfl rfl dX11_copyFlags_9 ?_
      refine v_icmp_ge (tgt := 31) C dX11_copyFlags_10 (by decide) (fun hc => ?_) (fun hc => ?_)
      · have hw := hw.1 hc
        exact hret _ _ _ _ (f0, f1) dX11_copyFlags_31 hw (Nat.le_of_ble_eq_true rfl) (Nat.le_of_ble_eq_true rfl)
      · have hw := hw.2 hc
        refine v_iload_n C dX11_copyFlags_13 3 rfl ?_
        refine v_aload_n C dX11_copyFlags_14 1 rfl ?_
        refine v_alen C 1 3 rfl rfl rfl dX11_copyFlags_15 ?_
        refine v_icmp_ge (tgt := 31) C dX11_copyFlags_16 (by decide) (fun hc => ?_) (fun hc => ?_)
        · have hw := hw.1 hc
          exact hret _ _ _ _ (f0, f1) dX11_copyFlags_31 hw (Nat.le_of_ble_eq_true rfl) (Nat.le_of_ble_eq_true rfl)
        · have hw := hw.2 hc
          refine v_aload_n C dX11_copyFlags_19 1 rfl ?_
          refine v_iload_n C dX11_copyFlags_20 3 rfl ?_
          refine v_aload_n C dX11_copyFlags_21 0 rfl ?_
          refine v_iload_n C dX11_copyFlags_22 3 rfl ?_
          obtain ⟨hi23, hw⟩ := hw
          refine v_zald C 0 rfl hi23 dX11_copyFlags_23 ?_
          obtain ⟨hi24, hw⟩ := hw
          refine v_zast (ws' := [wAZ E h0 n0 f0, wAZ E h1 n1 (va_up f1 y3.toNatClampNeg (i2z (if f0 y3.toNatClampNeg then (1 : Int32) else 0)))].flatten) C 1 rfl hi24 rfl dX11_copyFlags_24 ?_
          refine v_iinc (lv' := [(3, .int (y3 + Int32.ofInt 1)), (0, .ref h0), (1, .ref h1), (2, .int y2)]) C dX11_copyFlags_25 3 rfl (by decide) rfl ?_
          refine v_goto (tgt := 2) C dX11_copyFlags_28 (by decide) ?_
          refine v_lv C (lv' := [(0, .ref h0), (1, .ref h1), (2, .int y2), (3, .int (y3 + Int32.ofInt 1))]) [1, 2, 3, 0] rfl ?_
          exact ih f0 (va_up f1 y3.toNatClampNeg (i2z (if f0 y3.toNatClampNeg then (1 : Int32) else 0))) y2 (y3 + Int32.ofInt 1) hw
set_option maxHeartbeats 4000000 in
set_option maxRecDepth 100000 in
theorem kX11_copyFlags {l : Launch} {E : VE} (h0 : Nat) (h1 : Nat) (n0 : Nat) (n1 : Nat) (f0 : Nat → Bool) (f1 : Nat → Bool) (x2 : Int32) {Q : (Nat → Bool) → (Nat → Bool) → Prop} (hw : qX11_copyFlags n0 n1 f0 f1 x2 Q) : MV l yX11_copyFlags cX11_copyFlags 4 0 0 0 E [.ref h0, .ref h1, .int x2] ([wAZ E h0 n0 f0, wAZ E h1 n1 f1].flatten) (fun (U : (Nat → Bool) × (Nat → Bool)) => [wAZ E h0 n0 U.1, wAZ E h1 n1 U.2].flatten) (fun (U : (Nat → Bool) × (Nat → Bool)) => Q U.1 U.2) := by
  refine MV.of (own := RX11) (by decide) rfl (Nat.le_of_ble_eq_true rfl) ?_
  intro X C hini hret
  show VV X 0 0 ([wAZ E h0 n0 f0, wAZ E h1 n1 f1].flatten) [(0, .ref h0), (1, .ref h1), (2, .int x2)] 0 []
  unfold qX11_copyFlags at hw
  refine v_iconst (v := 0) C dX11_copyFlags_0 (by decide) ?_
  refine v_istore_n (lv' := [(3, .int 0), (0, .ref h0), (1, .ref h1), (2, .int x2)]) C dX11_copyFlags_1 (by decide) rfl ?_
  refine v_lv C (lv' := [(0, .ref h0), (1, .ref h1), (2, .int x2), (3, .int 0)]) [1, 2, 3, 0] rfl ?_
  obtain ⟨n', hw⟩ := hw
  exact jX11_copyFlags_2 h0 h1 n0 n1 Q C hret n' f0 f1 x2 0 hw
set_option maxHeartbeats 4000000 in
set_option maxRecDepth 100000 in
theorem kX0_copyFrom {l : Launch} {E : VE} (h0 : Nat) (h1 : Nat) (a0 : Nat → Nat) (a1 : Nat → Nat) (u0 : Md) (u1 : Md) {Q : Md → Md → Prop} (hw : qX0_copyFrom u0 u1 Q) : MV l yX0_copyFrom cX0_copyFrom 3 1 0 0 E [.ref h0, .ref h1] ([wX0 E h0 a0 u0, wX0 E h1 a1 u1].flatten) (fun (U : Md × Md) => [wX0 E h0 a0 U.1, wX0 E h1 a1 U.2].flatten) (fun (U : Md × Md) => Q U.1 U.2) := by
  refine MV.of (own := RX0) (by decide) rfl (Nat.le_of_ble_eq_true rfl) ?_
  intro X C hini hret
  show VV X 0 0 ([wX0 E h0 a0 u0, wX0 E h1 a1 u1].flatten) [(0, .ref h0), (1, .ref h1)] 0 []
  unfold qX0_copyFrom at hw
  refine v_aload_n C dX0_copyFrom_0 0 rfl ?_
  refine v_aload_n C dX0_copyFrom_1 1 rfl ?_
  refine v_get (ci := 0) C inT0 12 0 rfl rfl (by decide) mF_X0_51_X0_0 rfl dX0_copyFrom_2 ?_
  obtain ⟨w5, e5⟩ : ∃ z : Md, z = sF u0 0 (gF u1 0) := ⟨_, rfl⟩
  have hw := hw w5 e5
  refine v_put (ci := 0) (ws' := [wX0 E h0 a0 w5, wX0 E h1 a1 u1].flatten) C tyX0 tyX0_ok nmX0 inT0 0 0 rfl rfl (by decide) mF_X0_51_X0_0 rfl rfl rfl rfl (Nat.le_of_ble_eq_true rfl) (by rw [e5]; rfl) dX0_copyFrom_5 ?_
  refine v_aload_n C dX0_copyFrom_8 1 rfl ?_
  refine v_get (ci := 0) C inT0 12 1 rfl rfl (by decide) mF_X0_11_X0_1 rfl dX0_copyFrom_9 ?_
  refine v_iconst (v := 0) C dX0_copyFrom_12 (by decide) ?_
  refine v_aload_n C dX0_copyFrom_13 0 rfl ?_
  refine v_get (ci := 0) C inT0 0 1 rfl rfl (by decide) mF_X0_11_X0_1 rfl dX0_copyFrom_14 ?_
  refine v_iconst (v := 0) C dX0_copyFrom_17 (by decide) ?_
  refine v_aload_n C dX0_copyFrom_18 0 rfl ?_
  refine v_get (ci := 0) C inT0 0 0 rfl rfl (by decide) mF_X0_51_X0_0 rfl dX0_copyFrom_19 ?_
  obtain ⟨hi22, hw⟩ := hw
  obtain ⟨w22, e22⟩ : ∃ z : Md, z = sA w5 1 (va_cpy (gA u1 1) (gA w5 1) (0 : Int32).toNatClampNeg (0 : Int32).toNatClampNeg (gF w5 0).toNatClampNeg) := ⟨_, rfl⟩
  have hw := hw w22 e22
  refine v_copyi (ws' := [wX0 E h0 a0 w22, wX0 E h1 a1 u1].flatten) C 13 1 rfl rfl mM_X0_143 hi22 ⟨Nat.le_of_ble_eq_true rfl, Nat.le_of_ble_eq_true rfl⟩ (by rw [e22]; rfl) dX0_copyFrom_22 ?_
  refine v_aload_n C dX0_copyFrom_25 1 rfl ?_
  refine v_get (ci := 0) C inT0 12 2 rfl rfl (by decide) mF_X0_15_X0_2 rfl dX0_copyFrom_26 ?_
  refine v_iconst (v := 0) C dX0_copyFrom_29 (by decide) ?_
  refine v_aload_n C dX0_copyFrom_30 0 rfl ?_
  refine v_get (ci := 0) C inT0 0 2 rfl rfl (by decide) mF_X0_15_X0_2 rfl dX0_copyFrom_31 ?_
  refine v_iconst (v := 0) C dX0_copyFrom_34 (by decide) ?_
  refine v_aload_n C dX0_copyFrom_35 0 rfl ?_
  refine v_get (ci := 0) C inT0 0 0 rfl rfl (by decide) mF_X0_51_X0_0 rfl dX0_copyFrom_36 ?_
  obtain ⟨hi39, hw⟩ := hw
  obtain ⟨w39, e39⟩ : ∃ z : Md, z = sA w22 2 (va_cpy (gA u1 2) (gA w22 2) (0 : Int32).toNatClampNeg (0 : Int32).toNatClampNeg (gF w22 0).toNatClampNeg) := ⟨_, rfl⟩
  have hw := hw w39 e39
  refine v_copyi (ws' := [wX0 E h0 a0 w39, wX0 E h1 a1 u1].flatten) C 14 2 rfl rfl mM_X0_143 hi39 ⟨Nat.le_of_ble_eq_true rfl, Nat.le_of_ble_eq_true rfl⟩ (by rw [e39]; rfl) dX0_copyFrom_39 ?_
  refine v_aload_n C dX0_copyFrom_42 1 rfl ?_
  refine v_get (ci := 0) C inT0 12 3 rfl rfl (by decide) mF_X0_18_X0_3 rfl dX0_copyFrom_43 ?_
  refine v_aload_n C dX0_copyFrom_46 0 rfl ?_
  refine v_get (ci := 0) C inT0 0 3 rfl rfl (by decide) mF_X0_18_X0_3 rfl dX0_copyFrom_47 ?_
  refine v_aload_n C dX0_copyFrom_50 0 rfl ?_
  refine v_get (ci := 0) C inT0 0 0 rfl rfl (by decide) mF_X0_51_X0_0 rfl dX0_copyFrom_51 ?_
  refine v_callSNv (st := []) (wr := ([0, 1, 2, 4, 5, 6, 7, 8, 9, 10, 11, 12, 13, 14, 16, 17, 18, 19, 20, 21, 22, 23] : List Nat).filterMap (fun i => ([wX0 E h0 a0 w39, wX0 E h1 a1 u1].flatten)[i]?)) C (kX11_copyFlags ((a1 3)) ((a0 3)) _ _ _ _ _ hw) (by decide +kernel) mI_X11 mC_X11_copyFlags mT_X11_copyFlags hd_X11_copyFlags ⟨Nat.le_of_ble_eq_true rfl, Nat.le_of_ble_eq_true rfl⟩ ⟨Nat.le_of_ble_eq_true rfl, Nat.le_of_ble_eq_true rfl⟩ [15, 3] [0, 1, 2, 4, 5, 6, 7, 8, 9, 10, 11, 12, 13, 14, 16, 17, 18, 19, 20, 21, 22, 23] rfl (by decide) rfl (by decide) (by decide) rfl (Nat.le_of_ble_eq_true rfl) dX0_copyFrom_54 (fun U54 hw => ?_)
  obtain ⟨v54_0, v54_1⟩ := U54
  refine v_ws (ws' := [wX0 E h0 a0 (sZ w39 3 v54_1), wX0 E h1 a1 (sZ u1 3 v54_0)].flatten) C [0, 1, 2, 23, 3, 4, 5, 6, 7, 8, 9, 10, 11, 12, 13, 22, 14, 15, 16, 17, 18, 19, 20, 21] (by decide) rfl ?_
  refine v_aload_n C dX0_copyFrom_57 0 rfl ?_
  refine v_get (v := .int (gF w39 0)) (ci := 0) C inT0 0 0 rfl rfl (by decide) mF_X0_51_X0_0 rfl dX0_copyFrom_58 ?_
  refine v_bipush (v := 12) C dX0_copyFrom_61 (by decide) ?_
  refine v_imul C dX0_copyFrom_63 ?_
  refine v_istore_n (lv' := [(2, .int ((gF w39 0) * 12)), (0, .ref h0), (1, .ref h1)]) C dX0_copyFrom_64 (by decide) rfl ?_
  refine v_aload_n C dX0_copyFrom_65 2 rfl ?_
  refine v_get (ci := 0) C inT0 12 4 rfl rfl (by decide) mF_X0_22_X0_4 rfl dX0_copyFrom_66 ?_
  refine v_iconst (v := 0) C dX0_copyFrom_69 (by decide) ?_
  refine v_aload_n C dX0_copyFrom_70 1 rfl ?_
  refine v_get (ci := 0) C inT0 0 4 rfl rfl (by decide) mF_X0_22_X0_4 rfl dX0_copyFrom_71 ?_
  refine v_iconst (v := 0) C dX0_copyFrom_74 (by decide) ?_
  refine v_iload_n C dX0_copyFrom_75 0 rfl ?_
  obtain ⟨hi76, hw⟩ := hw
  obtain ⟨w76, e76⟩ : ∃ z : Md, z = sA (sZ w39 3 v54_1) 4 (va_cpy (gA u1 4) (gA w39 4) (0 : Int32).toNatClampNeg (0 : Int32).toNatClampNeg ((gF w39 0) * 12).toNatClampNeg) := ⟨_, rfl⟩
  have hw := hw w76 e76
  refine v_copyi (ws' := [wX0 E h0 a0 w76, wX0 E h1 a1 (sZ u1 3 v54_0)].flatten) C 16 4 rfl rfl mM_X0_143 hi76 ⟨Nat.le_of_ble_eq_true rfl, Nat.le_of_ble_eq_true rfl⟩ (by rw [e76]; rfl) dX0_copyFrom_76 ?_
  refine v_aload_n C dX0_copyFrom_79 2 rfl ?_
  refine v_get (ci := 0) C inT0 12 5 rfl rfl (by decide) mF_X0_25_X0_5 rfl dX0_copyFrom_80 ?_
  refine v_iconst (v := 0) C dX0_copyFrom_83 (by decide) ?_
  refine v_aload_n C dX0_copyFrom_84 1 rfl ?_
  refine v_get (ci := 0) C inT0 0 5 rfl rfl (by decide) mF_X0_25_X0_5 rfl dX0_copyFrom_85 ?_
  refine v_iconst (v := 0) C dX0_copyFrom_88 (by decide) ?_
  refine v_iload_n C dX0_copyFrom_89 0 rfl ?_
  obtain ⟨hi90, hw⟩ := hw
  obtain ⟨w90, e90⟩ : ∃ z : Md, z = sA w76 5 (va_cpy (gA u1 5) (gA w76 5) (0 : Int32).toNatClampNeg (0 : Int32).toNatClampNeg ((gF w39 0) * 12).toNatClampNeg) := ⟨_, rfl⟩
  have hw := hw w90 e90
  refine v_copyi (ws' := [wX0 E h0 a0 w90, wX0 E h1 a1 (sZ u1 3 v54_0)].flatten) C 17 5 rfl rfl mM_X0_143 hi90 ⟨Nat.le_of_ble_eq_true rfl, Nat.le_of_ble_eq_true rfl⟩ (by rw [e90]; rfl) dX0_copyFrom_90 ?_
  refine v_aload_n C dX0_copyFrom_93 2 rfl ?_
  refine v_get (ci := 0) C inT0 12 6 rfl rfl (by decide) mF_X0_28_X0_6 rfl dX0_copyFrom_94 ?_
  refine v_iconst (v := 0) C dX0_copyFrom_97 (by decide) ?_
  refine v_aload_n C dX0_copyFrom_98 1 rfl ?_
  refine v_get (ci := 0) C inT0 0 6 rfl rfl (by decide) mF_X0_28_X0_6 rfl dX0_copyFrom_99 ?_
  refine v_iconst (v := 0) C dX0_copyFrom_102 (by decide) ?_
  refine v_iload_n C dX0_copyFrom_103 0 rfl ?_
  obtain ⟨hi104, hw⟩ := hw
  obtain ⟨w104, e104⟩ : ∃ z : Md, z = sA w90 6 (va_cpy (gA u1 6) (gA w90 6) (0 : Int32).toNatClampNeg (0 : Int32).toNatClampNeg ((gF w39 0) * 12).toNatClampNeg) := ⟨_, rfl⟩
  have hw := hw w104 e104
  refine v_copyi (ws' := [wX0 E h0 a0 w104, wX0 E h1 a1 (sZ u1 3 v54_0)].flatten) C 18 6 rfl rfl mM_X0_143 hi104 ⟨Nat.le_of_ble_eq_true rfl, Nat.le_of_ble_eq_true rfl⟩ (by rw [e104]; rfl) dX0_copyFrom_104 ?_
  refine v_aload_n C dX0_copyFrom_107 2 rfl ?_
  refine v_get (ci := 0) C inT0 12 7 rfl rfl (by decide) mF_X0_31_X0_7 rfl dX0_copyFrom_108 ?_
  refine v_iconst (v := 0) C dX0_copyFrom_111 (by decide) ?_
  refine v_aload_n C dX0_copyFrom_112 1 rfl ?_
  refine v_get (ci := 0) C inT0 0 7 rfl rfl (by decide) mF_X0_31_X0_7 rfl dX0_copyFrom_113 ?_
  refine v_iconst (v := 0) C dX0_copyFrom_116 (by decide) ?_
  refine v_iload_n C dX0_copyFrom_117 0 rfl ?_
  obtain ⟨hi118, hw⟩ := hw
  obtain ⟨w118, e118⟩ : ∃ z : Md, z = sA w104 7 (va_cpy (gA u1 7) (gA w104 7) (0 : Int32).toNatClampNeg (0 : Int32).toNatClampNeg ((gF w39 0) * 12).toNatClampNeg) := ⟨_, rfl⟩
  have hw := hw w118 e118
  refine v_copyi (ws' := [wX0 E h0 a0 w118, wX0 E h1 a1 (sZ u1 3 v54_0)].flatten) C 19 7 rfl rfl mM_X0_143 hi118 ⟨Nat.le_of_ble_eq_true rfl, Nat.le_of_ble_eq_true rfl⟩ (by rw [e118]; rfl) dX0_copyFrom_118 ?_
  refine v_aload_n C dX0_copyFrom_121 2 rfl ?_
  refine v_get (ci := 0) C inT0 12 8 rfl rfl (by decide) mF_X0_34_X0_8 rfl dX0_copyFrom_122 ?_
  refine v_aload_n C dX0_copyFrom_125 1 rfl ?_
  refine v_get (ci := 0) C inT0 0 8 rfl rfl (by decide) mF_X0_34_X0_8 rfl dX0_copyFrom_126 ?_
  refine v_iload_n C dX0_copyFrom_129 0 rfl ?_
  refine v_iconst (v := 4) C dX0_copyFrom_130 (by decide) ?_
  refine v_imul C dX0_copyFrom_131 ?_
  refine v_callSNv (st := []) (wr := ([0, 1, 2, 3, 4, 5, 6, 7, 9, 10, 11, 12, 13, 14, 15, 16, 17, 18, 19, 21, 22, 23] : List Nat).filterMap (fun i => ([wX0 E h0 a0 w118, wX0 E h1 a1 (sZ u1 3 v54_0)].flatten)[i]?)) C (kX11_copyFlags ((a1 8)) ((a0 8)) _ _ _ _ _ hw) (by decide +kernel) mI_X11 mC_X11_copyFlags mT_X11_copyFlags hd_X11_copyFlags ⟨Nat.le_of_ble_eq_true rfl, Nat.le_of_ble_eq_true rfl⟩ ⟨Nat.le_of_ble_eq_true rfl, Nat.le_of_ble_eq_true rfl⟩ [20, 8] [0, 1, 2, 3, 4, 5, 6, 7, 9, 10, 11, 12, 13, 14, 15, 16, 17, 18, 19, 21, 22, 23] rfl (by decide) rfl (by decide) (by decide) rfl (Nat.le_of_ble_eq_true rfl) dX0_copyFrom_132 (fun U132 hw => ?_)
  obtain ⟨v132_0, v132_1⟩ := U132
  refine v_ws (ws' := [wX0 E h0 a0 (sZ w118 8 v132_1), wX0 E h1 a1 (sZ (sZ u1 3 v54_0) 8 v132_0)].flatten) C [0, 1, 2, 3, 4, 5, 6, 7, 23, 8, 9, 10, 11, 12, 13, 14, 15, 16, 17, 18, 22, 19, 20, 21] (by decide) rfl ?_
  refine v_aload_n C dX0_copyFrom_135 2 rfl ?_
  refine v_get (ci := 0) C inT0 12 9 rfl rfl (by decide) mF_X0_37_X0_9 rfl dX0_copyFrom_136 ?_
  refine v_iconst (v := 0) C dX0_copyFrom_139 (by decide) ?_
  refine v_aload_n C dX0_copyFrom_140 1 rfl ?_
  refine v_get (ci := 0) C inT0 0 9 rfl rfl (by decide) mF_X0_37_X0_9 rfl dX0_copyFrom_141 ?_
  refine v_iconst (v := 0) C dX0_copyFrom_144 (by decide) ?_
  refine v_iload_n C dX0_copyFrom_145 0 rfl ?_
  refine v_iconst (v := 4) C dX0_copyFrom_146 (by decide) ?_
  refine v_imul C dX0_copyFrom_147 ?_
  obtain ⟨hi148, hw⟩ := hw
  obtain ⟨w148, e148⟩ : ∃ z : Md, z = sA (sZ w118 8 v132_1) 9 (va_cpy (gA u1 9) (gA w118 9) (0 : Int32).toNatClampNeg (0 : Int32).toNatClampNeg (((gF w39 0) * 12) * 4).toNatClampNeg) := ⟨_, rfl⟩
  have hw := hw w148 e148
  refine v_copyi (ws' := [wX0 E h0 a0 w148, wX0 E h1 a1 (sZ (sZ u1 3 v54_0) 8 v132_0)].flatten) C 21 9 rfl rfl mM_X0_143 hi148 ⟨Nat.le_of_ble_eq_true rfl, Nat.le_of_ble_eq_true rfl⟩ (by rw [e148]; rfl) dX0_copyFrom_148 ?_
  refine v_aload_n C dX0_copyFrom_151 2 rfl ?_
  refine v_get (ci := 0) C inT0 12 10 rfl rfl (by decide) mF_X0_40_X0_10 rfl dX0_copyFrom_152 ?_
  refine v_iconst (v := 0) C dX0_copyFrom_155 (by decide) ?_
  refine v_aload_n C dX0_copyFrom_156 1 rfl ?_
  refine v_get (ci := 0) C inT0 0 10 rfl rfl (by decide) mF_X0_40_X0_10 rfl dX0_copyFrom_157 ?_
  refine v_iconst (v := 0) C dX0_copyFrom_160 (by decide) ?_
  refine v_iload_n C dX0_copyFrom_161 0 rfl ?_
  refine v_iconst (v := 4) C dX0_copyFrom_162 (by decide) ?_
  refine v_imul C dX0_copyFrom_163 ?_
  obtain ⟨hi164, hw⟩ := hw
  obtain ⟨w164, e164⟩ : ∃ z : Md, z = sA w148 10 (va_cpy (gA u1 10) (gA w148 10) (0 : Int32).toNatClampNeg (0 : Int32).toNatClampNeg (((gF w39 0) * 12) * 4).toNatClampNeg) := ⟨_, rfl⟩
  have hw := hw w164 e164
  refine v_copyi (ws' := [wX0 E h0 a0 w164, wX0 E h1 a1 (sZ (sZ u1 3 v54_0) 8 v132_0)].flatten) C 22 10 rfl rfl mM_X0_143 hi164 ⟨Nat.le_of_ble_eq_true rfl, Nat.le_of_ble_eq_true rfl⟩ (by rw [e164]; rfl) dX0_copyFrom_164 ?_
  refine v_aload_n C dX0_copyFrom_167 2 rfl ?_
  refine v_get (ci := 0) C inT0 12 11 rfl rfl (by decide) mF_X0_43_X0_11 rfl dX0_copyFrom_168 ?_
  refine v_iconst (v := 0) C dX0_copyFrom_171 (by decide) ?_
  refine v_aload_n C dX0_copyFrom_172 1 rfl ?_
  refine v_get (ci := 0) C inT0 0 11 rfl rfl (by decide) mF_X0_43_X0_11 rfl dX0_copyFrom_173 ?_
  refine v_iconst (v := 0) C dX0_copyFrom_176 (by decide) ?_
  refine v_iload_n C dX0_copyFrom_177 0 rfl ?_
  refine v_iconst (v := 4) C dX0_copyFrom_178 (by decide) ?_
  refine v_imul C dX0_copyFrom_179 ?_
  obtain ⟨hi180, hw⟩ := hw
  obtain ⟨w180, e180⟩ : ∃ z : Md, z = sA w164 11 (va_cpy (gA u1 11) (gA w164 11) (0 : Int32).toNatClampNeg (0 : Int32).toNatClampNeg (((gF w39 0) * 12) * 4).toNatClampNeg) := ⟨_, rfl⟩
  have hw := hw w180 e180
  refine v_copyi (ws' := [wX0 E h0 a0 w180, wX0 E h1 a1 (sZ (sZ u1 3 v54_0) 8 v132_0)].flatten) C 23 11 rfl rfl mM_X0_143 hi180 ⟨Nat.le_of_ble_eq_true rfl, Nat.le_of_ble_eq_true rfl⟩ (by rw [e180]; rfl) dX0_copyFrom_180 ?_
  exact hret _ _ _ _ (w180, sZ (sZ u1 3 v54_0) 8 v132_0) dX0_copyFrom_183 hw (Nat.le_of_ble_eq_true rfl) (Nat.le_of_ble_eq_true rfl)
set_option maxHeartbeats 4000000 in
set_option maxRecDepth 100000 in
theorem kX1_has {l : Launch} {E : VE} (h0 : Nat) (a0 : Nat → Nat) (u0 : Md) (x1 : Int32) {Q : Int32 → Md → Prop} (hw : qX1_has u0 x1 Q) : MI l yX1_has cX1_has 2 .boolean 0 0 0 E [.ref h0, .int x1] ([wX1 E h0 a0 u0].flatten) (fun (U : Md) => [wX1 E h0 a0 U].flatten) (fun (r : Int32) (U : Md) => (r = 0 ∨ r = 1) ∧ Q r U) := by
  refine MI.of (own := RX1) (by decide) rfl (Nat.le_of_ble_eq_true rfl) ?_
  intro X C hini hret
  show VV X 0 0 ([wX1 E h0 a0 u0].flatten) [(0, .ref h0), (1, .int x1)] 0 []
  unfold qX1_has at hw
  refine v_iload_n C dX1_has_0 1 rfl ?_
  refine v_if_lt (tgt := 16) C dX1_has_1 (by decide) (fun hc => ?_) (fun hc => ?_)
  · have hw := hw.1 hc
    refine v_iconst (v := 0) C dX1_has_16 (by decide) ?_
    exact hret _ _ _ _ 0 u0 dX1_has_17 rfl ⟨Or.inl rfl, hw⟩ (Nat.le_of_ble_eq_true rfl) (Nat.le_of_ble_eq_true rfl)
  · have hw := hw.2 hc
    refine v_iload_n C dX1_has_4 1 rfl ?_
    refine v_aload_n C dX1_has_5 0 rfl ?_
    refine v_get (ci := 1) C inT1 0 0 rfl rfl (by decide) mF_X1_43_X1_0 rfl dX1_has_6 ?_
    refine v_icmp_ge (tgt := 16) C dX1_has_9 (by decide) (fun hc => ?_) (fun hc => ?_)
    · have hw := hw.1 hc
      refine v_iconst (v := 0) C dX1_has_16 (by decide) ?_
      exact hret _ _ _ _ 0 u0 dX1_has_17 rfl ⟨Or.inl rfl, hw⟩ (Nat.le_of_ble_eq_true rfl) (Nat.le_of_ble_eq_true rfl)
    · have hw := hw.2 hc
      refine v_iconst (v := 1) C dX1_has_12 (by decide) ?_
      refine v_goto (tgt := 17) C dX1_has_13 (by decide) ?_
      exact hret _ _ _ _ 1 u0 dX1_has_17 rfl ⟨Or.inr rfl, hw⟩ (Nat.le_of_ble_eq_true rfl) (Nat.le_of_ble_eq_true rfl)
set_option maxHeartbeats 4000000 in
set_option maxRecDepth 100000 in
theorem jX1_open_14 {X : VX} {E : VE} {l : Launch} (h0 : Nat) (a0 : Nat → Nat)  (Q : Int32 → Md → Prop) (C : VC X cX1_open 4 RX1 (rmL 0 0 0) E l) (hret : RetI X cX1_open .int 0 0 (fun (U : Md) => [wX1 E h0 a0 U].flatten) (fun (r : Int32) (U : Md) => Q r U))  : ∀ (n : Nat), ∀ (u0 : Md) (y1 : Int32) (y2 : Int32) (y3 : Int32), qX1_open_14 Q n u0 y1 y2 y3 → VV X 0 0 ([wX1 E h0 a0 u0].flatten) [(0, .ref h0), (1, .int y1), (2, .int y2), (3, .int y3)] 14 [] := by
  intro n
  induction n with
  | zero =>
    intro u0 y1 y2 y3 hw
    exact hw.elim
  | succ n ih =>
    intro u0 y1 y2 y3 hw
    unfold qX1_open_14 at hw
    refine v_iload_n C dX1_open_14 3 rfl ?_
    refine v_aload_n C dX1_open_15 0 rfl ?_
    refine v_get (ci := 1) C inT1 0 0 rfl rfl (by decide) mF_X1_43_X1_0 rfl dX1_open_16 ?_
    refine v_icmp_ge (tgt := 50) C dX1_open_19 (by decide) (fun hc => ?_) (fun hc => ?_)
    · have hw := hw.1 hc
      refine v_aload_n C dX1_open_50 0 rfl ?_
      refine v_get (ci := 1) C inT1 0 1 rfl rfl (by decide) mF_X1_11_X1_1 rfl dX1_open_51 ?_
      refine v_aload_n C dX1_open_54 0 rfl ?_
      refine v_get (ci := 1) C inT1 0 0 rfl rfl (by decide) mF_X1_43_X1_0 rfl dX1_open_55 ?_
      refine v_iload_n C dX1_open_58 1 rfl ?_
      obtain ⟨hi59, hw⟩ := hw
      obtain ⟨w59, e59⟩ : ∃ z : Md, z = tA u0 1 (gF u0 0) y1 := ⟨_, rfl⟩
      have hw := hw w59 e59
      refine v_iast (ws' := [wX1 E h0 a0 w59].flatten) C 1 rfl hi59 (by rw [e59]; rfl) dX1_open_59 ?_
      refine v_aload_n C dX1_open_60 0 rfl ?_
      refine v_get (ci := 1) C inT1 0 2 rfl rfl (by decide) mF_X1_15_X1_2 rfl dX1_open_61 ?_
      refine v_aload_n C dX1_open_64 0 rfl ?_
      refine v_get (ci := 1) C inT1 0 0 rfl rfl (by decide) mF_X1_43_X1_0 rfl dX1_open_65 ?_
      refine v_iload_n C dX1_open_68 2 rfl ?_
      obtain ⟨hi69, hw⟩ := hw
      obtain ⟨w69, e69⟩ : ∃ z : Md, z = tA w59 2 (gF w59 0) y2 := ⟨_, rfl⟩
      have hw := hw w69 e69
      refine v_iast (ws' := [wX1 E h0 a0 w69].flatten) C 2 rfl hi69 (by rw [e69]; rfl) dX1_open_69 ?_
      refine v_aload_n C dX1_open_70 0 rfl ?_
      refine v_get (ci := 1) C inT1 0 3 rfl rfl (by decide) mF_X1_18_X1_3 rfl dX1_open_71 ?_
      refine v_aload_n C dX1_open_74 0 rfl ?_
      refine v_get (ci := 1) C inT1 0 0 rfl rfl (by decide) mF_X1_43_X1_0 rfl dX1_open_75 ?_
      refine v_iconst (v := 1) C dX1_open_78 (by decide) ?_
      obtain ⟨hi79, hw⟩ := hw
      obtain ⟨w79, e79⟩ : ∃ z : Md, z = tZ w69 3 (gF w69 0) 1 := ⟨_, rfl⟩
      have hw := hw w79 e79
      refine v_zast (ws' := [wX1 E h0 a0 w79].flatten) C 3 rfl hi79 (by rw [e79]; rfl) dX1_open_79 ?_
      refine v_aload_n C dX1_open_80 0 rfl ?_
      refine v_get (ci := 1) C inT1 0 4 rfl rfl (by decide) mF_X1_22_X1_4 rfl dX1_open_81 ?_
      refine v_aload_n C dX1_open_84 0 rfl ?_
      refine v_get (ci := 1) C inT1 0 0 rfl rfl (by decide) mF_X1_43_X1_0 rfl dX1_open_85 ?_
      refine v_iconst (v := 0) C dX1_open_88 (by decide) ?_
      obtain ⟨hi89, hw⟩ := hw
      obtain ⟨w89, e89⟩ : ∃ z : Md, z = tA w79 4 (gF w79 0) 0 := ⟨_, rfl⟩
      have hw := hw w89 e89
      refine v_iast (ws' := [wX1 E h0 a0 w89].flatten) C 4 rfl hi89 (by rw [e89]; rfl) dX1_open_89 ?_
      refine v_aload_n C dX1_open_90 0 rfl ?_
      refine v_get (ci := 1) C inT1 0 5 rfl rfl (by decide) mF_X1_25_X1_5 rfl dX1_open_91 ?_
      refine v_aload_n C dX1_open_94 0 rfl ?_
      refine v_get (ci := 1) C inT1 0 0 rfl rfl (by decide) mF_X1_43_X1_0 rfl dX1_open_95 ?_
      refine v_iconst (v := 0) C dX1_open_98 (by decide) ?_
      obtain ⟨hi99, hw⟩ := hw
      obtain ⟨w99, e99⟩ : ∃ z : Md, z = tA w89 5 (gF w89 0) 0 := ⟨_, rfl⟩
      have hw := hw w99 e99
      refine v_iast (ws' := [wX1 E h0 a0 w99].flatten) C 5 rfl hi99 (by rw [e99]; rfl) dX1_open_99 ?_
      refine v_aload_n C dX1_open_100 0 rfl ?_
      refine v_dup C dX1_open_101 rfl ?_
      refine v_get (ci := 1) C inT1 0 0 rfl rfl (by decide) mF_X1_43_X1_0 rfl dX1_open_102 ?_
      refine v_iconst (v := 1) C dX1_open_105 (by decide) ?_
      refine v_iadd C dX1_open_106 ?_
      obtain ⟨w107, e107⟩ : ∃ z : Md, z = sF w99 0 ((gF w99 0) + 1) := ⟨_, rfl⟩
      have hw := hw w107 e107
      refine v_put (ci := 1) (ws' := [wX1 E h0 a0 w107].flatten) C tyX1 tyX1_ok nmX1 inT1 0 0 rfl rfl (by decide) mF_X1_43_X1_0 rfl rfl rfl rfl (Nat.le_of_ble_eq_true rfl) (by rw [e107]; rfl) dX1_open_107 ?_
      refine v_aload_n C dX1_open_110 0 rfl ?_
      refine v_get (ci := 1) C inT1 0 0 rfl rfl (by decide) mF_X1_43_X1_0 rfl dX1_open_111 ?_
      refine v_iconst (v := 1) C dX1_open_114 (by decide) ?_
      refine v_isub C dX1_open_115 ?_
      exact hret _ _ _ _ ((gF w107 0) - 1) w107 dX1_open_116 rfl hw (Nat.le_of_ble_eq_true rfl) (Nat.le_of_ble_eq_true rfl)
    · have hw := hw.2 hc
      refine v_aload_n C dX1_open_22 0 rfl ?_
      refine v_get (ci := 1) C inT1 0 3 rfl rfl (by decide) mF_X1_18_X1_3 rfl dX1_open_23 ?_
      refine v_iload_n C dX1_open_26 3 rfl ?_
      obtain ⟨hi27, hw⟩ := hw
      refine v_zald C 3 rfl hi27 dX1_open_27 ?_
      refine v_if_eq (tgt := 44) C dX1_open_28 (by decide) (fun hc => ?_) (fun hc => ?_)
      · have hw := hw.1 hc
        refine v_iinc (lv' := [(3, .int (y3 + Int32.ofInt 1)), (0, .ref h0), (1, .int y1), (2, .int y2)]) C dX1_open_44 3 rfl (by decide) rfl ?_
        refine v_goto (tgt := 14) C dX1_open_47 (by decide) ?_
        refine v_lv C (lv' := [(0, .ref h0), (1, .int y1), (2, .int y2), (3, .int (y3 + Int32.ofInt 1))]) [1, 2, 3, 0] rfl ?_
        exact ih u0 y1 y2 (y3 + Int32.ofInt 1) hw
      · have hw := hw.2 hc
        refine v_aload_n C dX1_open_31 0 rfl ?_
        refine v_get (ci := 1) C inT1 0 2 rfl rfl (by decide) mF_X1_15_X1_2 rfl dX1_open_32 ?_
        refine v_iload_n C dX1_open_35 3 rfl ?_
        obtain ⟨hi36, hw⟩ := hw
        refine v_iald C 2 rfl hi36 dX1_open_36 ?_
        refine v_iload_n C dX1_open_37 2 rfl ?_
        refine v_icmp_ne (tgt := 44) C dX1_open_38 (by decide) (fun hc => ?_) (fun hc => ?_)
        · have hw := hw.1 hc
          refine v_iinc (lv' := [(3, .int (y3 + Int32.ofInt 1)), (0, .ref h0), (1, .int y1), (2, .int y2)]) C dX1_open_44 3 rfl (by decide) rfl ?_
          refine v_goto (tgt := 14) C dX1_open_47 (by decide) ?_
          refine v_lv C (lv' := [(0, .ref h0), (1, .int y1), (2, .int y2), (3, .int (y3 + Int32.ofInt 1))]) [1, 2, 3, 0] rfl ?_
          exact ih u0 y1 y2 (y3 + Int32.ofInt 1) hw
        · have hw := hw.2 hc
          refine v_bipush (v := (-5)) C dX1_open_41 (by decide) ?_
          exact hret _ _ _ _ ((-5)) u0 dX1_open_43 rfl hw (Nat.le_of_ble_eq_true rfl) (Nat.le_of_ble_eq_true rfl)
set_option maxHeartbeats 4000000 in
set_option maxRecDepth 100000 in
theorem kX1_open {l : Launch} {E : VE} (h0 : Nat) (a0 : Nat → Nat) (u0 : Md) (x1 : Int32) (x2 : Int32) {Q : Int32 → Md → Prop} (hw : qX1_open u0 x1 x2 Q) : MI l yX1_open cX1_open 4 .int 0 0 0 E [.ref h0, .int x1, .int x2] ([wX1 E h0 a0 u0].flatten) (fun (U : Md) => [wX1 E h0 a0 U].flatten) (fun (r : Int32) (U : Md) => Q r U) := by
  refine MI.of (own := RX1) (by decide) rfl (Nat.le_of_ble_eq_true rfl) ?_
  intro X C hini hret
  show VV X 0 0 ([wX1 E h0 a0 u0].flatten) [(0, .ref h0), (1, .int x1), (2, .int x2)] 0 []
  unfold qX1_open at hw
  refine v_aload_n C dX1_open_0 0 rfl ?_
  refine v_get (ci := 1) C inT1 0 0 rfl rfl (by decide) mF_X1_43_X1_0 rfl dX1_open_1 ?_
  refine v_bipush (v := 60) C dX1_open_4 (by decide) ?_
  refine v_icmp_lt (tgt := 12) C dX1_open_6 (by decide) (fun hc => ?_) (fun hc => ?_)
  · have hw := hw.1 hc
    refine v_iconst (v := 0) C dX1_open_12 (by decide) ?_
    refine v_istore_n (lv' := [(3, .int 0), (0, .ref h0), (1, .int x1), (2, .int x2)]) C dX1_open_13 (by decide) rfl ?_
    refine v_lv C (lv' := [(0, .ref h0), (1, .int x1), (2, .int x2), (3, .int 0)]) [1, 2, 3, 0] rfl ?_
    obtain ⟨n', hw⟩ := hw
    exact jX1_open_14 h0 a0 Q C hret n' u0 x1 x2 0 hw
  · have hw := hw.2 hc
    refine v_bipush (v := (-3)) C dX1_open_9 (by decide) ?_
    exact hret _ _ _ _ ((-3)) u0 dX1_open_11 rfl hw (Nat.le_of_ble_eq_true rfl) (Nat.le_of_ble_eq_true rfl)
set_option maxHeartbeats 4000000 in
set_option maxRecDepth 100000 in
theorem kX1_cast {l : Launch} {E : VE} (h0 : Nat) (a0 : Nat → Nat) (u0 : Md) (x1 : Int32) (x2 : Int32) (x3 : Int32) {Q : Md → Prop} (hw : qX1_cast u0 x1 x2 x3 Q) : MV l yX1_cast cX1_cast 5 0 0 0 E [.ref h0, .int x1, .int x2, .int x3] ([wX1 E h0 a0 u0].flatten) (fun (U : Md) => [wX1 E h0 a0 U].flatten) (fun (U : Md) => Q U) := by
  refine MV.of (own := RX1) (by decide) rfl (Nat.le_of_ble_eq_true rfl) ?_
  intro X C hini hret
  show VV X 0 0 ([wX1 E h0 a0 u0].flatten) [(0, .ref h0), (1, .int x1), (2, .int x2), (3, .int x3)] 0 []
  unfold qX1_cast at hw
  refine v_iconst (v := 1) C dX1_cast_0 (by decide) ?_
  refine v_iload_n C dX1_cast_1 2 rfl ?_
  refine v_ishl C dX1_cast_2 ?_
  refine v_istore (lv' := [(4, .int ((1 : Int32) <<< (x2 &&& 31))), (0, .ref h0), (1, .int x1), (2, .int x2), (3, .int x3)]) C dX1_cast_3 (by decide) rfl ?_
  refine v_aload_n C dX1_cast_5 1 rfl ?_
  refine v_get (ci := 1) C inT1 0 4 rfl rfl (by decide) mF_X1_22_X1_4 rfl dX1_cast_6 ?_
  refine v_iload_n C dX1_cast_9 2 rfl ?_
  refine v_dup2 C dX1_cast_10 rfl rfl ?_
  obtain ⟨hi11, hw⟩ := hw
  refine v_iald C 4 rfl hi11 dX1_cast_11 ?_
  refine v_iload C dX1_cast_12 0 rfl ?_
  refine v_ior C dX1_cast_14 ?_
  obtain ⟨hi15, hw⟩ := hw
  obtain ⟨w15, e15⟩ : ∃ z : Md, z = tA u0 4 x1 ((gA u0 4 x1.toNatClampNeg) ||| ((1 : Int32) <<< (x2 &&& 31))) := ⟨_, rfl⟩
  have hw := hw w15 e15
  refine v_iast (ws' := [wX1 E h0 a0 w15].flatten) C 4 rfl hi15 (by rw [e15]; rfl) dX1_cast_15 ?_
  refine v_aload_n C dX1_cast_16 1 rfl ?_
  refine v_get (ci := 1) C inT1 0 5 rfl rfl (by decide) mF_X1_25_X1_5 rfl dX1_cast_17 ?_
  refine v_iload_n C dX1_cast_20 2 rfl ?_
  refine v_iload_n C dX1_cast_21 4 rfl ?_
  refine v_if_eq (tgt := 37) C dX1_cast_22 (by decide) (fun hc => ?_) (fun hc => ?_)
  · have hw := hw.1 hc
    refine v_aload_n C dX1_cast_37 1 rfl ?_
    refine v_get (ci := 1) C inT1 0 5 rfl rfl (by decide) mF_X1_25_X1_5 rfl dX1_cast_38 ?_
    refine v_iload_n C dX1_cast_41 2 rfl ?_
    obtain ⟨hi42, hw⟩ := hw
    refine v_iald C 5 rfl hi42 dX1_cast_42 ?_
    refine v_iload C dX1_cast_43 0 rfl ?_
    refine v_iconst (v := (-1)) C dX1_cast_45 (by decide) ?_
    refine v_ixor C dX1_cast_46 ?_
    refine v_iand C dX1_cast_47 ?_
    obtain ⟨hi48, hw⟩ := hw
    obtain ⟨w48, e48⟩ : ∃ z : Md, z = tA w15 5 x1 ((gA w15 5 x1.toNatClampNeg) &&& (((1 : Int32) <<< (x2 &&& 31)) ^^^ ((-1)))) := ⟨_, rfl⟩
    have hw := hw w48 e48
    refine v_iast (ws' := [wX1 E h0 a0 w48].flatten) C 5 rfl hi48 (by rw [e48]; rfl) dX1_cast_48 ?_
    exact hret _ _ _ _ w48 dX1_cast_49 hw (Nat.le_of_ble_eq_true rfl) (Nat.le_of_ble_eq_true rfl)
  · have hw := hw.2 hc
    refine v_aload_n C dX1_cast_25 1 rfl ?_
    refine v_get (ci := 1) C inT1 0 5 rfl rfl (by decide) mF_X1_25_X1_5 rfl dX1_cast_26 ?_
    refine v_iload_n C dX1_cast_29 2 rfl ?_
    obtain ⟨hi30, hw⟩ := hw
    refine v_iald C 5 rfl hi30 dX1_cast_30 ?_
    refine v_iload C dX1_cast_31 0 rfl ?_
    refine v_ior C dX1_cast_33 ?_
    refine v_goto (tgt := 48) C dX1_cast_34 (by decide) ?_
    obtain ⟨hi48, hw⟩ := hw
    obtain ⟨w48, e48⟩ : ∃ z : Md, z = tA w15 5 x1 ((gA w15 5 x1.toNatClampNeg) ||| ((1 : Int32) <<< (x2 &&& 31))) := ⟨_, rfl⟩
    have hw := hw w48 e48
    refine v_iast (ws' := [wX1 E h0 a0 w48].flatten) C 5 rfl hi48 (by rw [e48]; rfl) dX1_cast_48 ?_
    exact hret _ _ _ _ w48 dX1_cast_49 hw (Nat.le_of_ble_eq_true rfl) (Nat.le_of_ble_eq_true rfl)
set_option maxHeartbeats 4000000 in
set_option maxRecDepth 100000 in
theorem kJ6_bitCount_0f7a4 {l : Launch} {E : VE} (x0 : Int32) {Q : Int32 → Prop} (hw : qJ6_bitCount_0f7a4 x0 Q) : MI l yJ6_bitCount_0f7a4 cJ6_bitCount_0f7a4 1 .int 0 0 0 E [.int x0] ([]) (fun (_ : Unit) => ([] : va_W)) (fun (r : Int32) (_ : Unit) => Q r) := by
  refine MI.of (own := RJ6) (by decide) rfl (Nat.le_of_ble_eq_true rfl) ?_
  intro X C hini hret
  show VV X 0 0 ([]) [(0, .int x0)] 0 []
  unfold qJ6_bitCount_0f7a4 at hw
  refine v_iload_n C dJ6_bitCount_0f7a4_0 0 rfl ?_
  refine v_iload_n C dJ6_bitCount_0f7a4_1 0 rfl ?_
  refine v_iconst (v := 1) C dJ6_bitCount_0f7a4_2 (by decide) ?_
  refine v_iushr C dJ6_bitCount_0f7a4_3 ?_
  refine v_ldcw C mK_J6_265 dJ6_bitCount_0f7a4_4 ?_
  refine v_iand C dJ6_bitCount_0f7a4_7 ?_
  refine v_isub C dJ6_bitCount_0f7a4_8 ?_
  refine v_istore_n (lv' := [(0, .int (x0 - ((((x0 : Int32).toUInt32 >>> ((1 : Int32).toUInt32 &&& Int32.toUInt32 31)).toInt32) &&& 1431655765)))]) C dJ6_bitCount_0f7a4_9 (by decide) rfl ?_
  refine v_iload_n C dJ6_bitCount_0f7a4_10 0 rfl ?_
  refine v_ldcw C mK_J6_266 dJ6_bitCount_0f7a4_11 ?_
  refine v_iand C dJ6_bitCount_0f7a4_14 ?_
  refine v_iload_n C dJ6_bitCount_0f7a4_15 0 rfl ?_
  refine v_iconst (v := 2) C dJ6_bitCount_0f7a4_16 (by decide) ?_
  refine v_iushr C dJ6_bitCount_0f7a4_17 ?_
  refine v_ldcw C mK_J6_266 dJ6_bitCount_0f7a4_18 ?_
  refine v_iand C dJ6_bitCount_0f7a4_21 ?_
  refine v_iadd C dJ6_bitCount_0f7a4_22 ?_
  refine v_istore_n (lv' := [(0, .int (((x0 - ((((x0 : Int32).toUInt32 >>> ((1 : Int32).toUInt32 &&& Int32.toUInt32 31)).toInt32) &&& 1431655765)) &&& 858993459) + (((((x0 - ((((x0 : Int32).toUInt32 >>> ((1 : Int32).toUInt32 &&& Int32.toUInt32 31)).toInt32) &&& 1431655765)) : Int32).toUInt32 >>> ((2 : Int32).toUInt32 &&& Int32.toUInt32 31)).toInt32) &&& 858993459)))]) C dJ6_bitCount_0f7a4_23 (by decide) rfl ?_
  refine v_iload_n C dJ6_bitCount_0f7a4_24 0 rfl ?_
  refine v_iload_n C dJ6_bitCount_0f7a4_25 0 rfl ?_
  refine v_iconst (v := 4) C dJ6_bitCount_0f7a4_26 (by decide) ?_
  refine v_iushr C dJ6_bitCount_0f7a4_27 ?_
  refine v_iadd C dJ6_bitCount_0f7a4_28 ?_
  refine v_ldcw C mK_J6_267 dJ6_bitCount_0f7a4_29 ?_
  refine v_iand C dJ6_bitCount_0f7a4_32 ?_
  refine v_istore_n (lv' := [(0, .int (((((x0 - ((((x0 : Int32).toUInt32 >>> ((1 : Int32).toUInt32 &&& Int32.toUInt32 31)).toInt32) &&& 1431655765)) &&& 858993459) + (((((x0 - ((((x0 : Int32).toUInt32 >>> ((1 : Int32).toUInt32 &&& Int32.toUInt32 31)).toInt32) &&& 1431655765)) : Int32).toUInt32 >>> ((2 : Int32).toUInt32 &&& Int32.toUInt32 31)).toInt32) &&& 858993459)) + ((((((x0 - ((((x0 : Int32).toUInt32 >>> ((1 : Int32).toUInt32 &&& Int32.toUInt32 31)).toInt32) &&& 1431655765)) &&& 858993459) + (((((x0 - ((((x0 : Int32).toUInt32 >>> ((1 : Int32).toUInt32 &&& Int32.toUInt32 31)).toInt32) &&& 1431655765)) : Int32).toUInt32 >>> ((2 : Int32).toUInt32 &&& Int32.toUInt32 31)).toInt32) &&& 858993459)) : Int32).toUInt32 >>> ((4 : Int32).toUInt32 &&& Int32.toUInt32 31)).toInt32)) &&& 252645135))]) C dJ6_bitCount_0f7a4_33 (by decide) rfl ?_
  refine v_iload_n C dJ6_bitCount_0f7a4_34 0 rfl ?_
  refine v_iload_n C dJ6_bitCount_0f7a4_35 0 rfl ?_
  refine v_bipush (v := 8) C dJ6_bitCount_0f7a4_36 (by decide) ?_
  refine v_iushr C dJ6_bitCount_0f7a4_38 ?_
  refine v_iadd C dJ6_bitCount_0f7a4_39 ?_
  refine v_istore_n (lv' := [(0, .int ((((((x0 - ((((x0 : Int32).toUInt32 >>> ((1 : Int32).toUInt32 &&& Int32.toUInt32 31)).toInt32) &&& 1431655765)) &&& 858993459) + (((((x0 - ((((x0 : Int32).toUInt32 >>> ((1 : Int32).toUInt32 &&& Int32.toUInt32 31)).toInt32) &&& 1431655765)) : Int32).toUInt32 >>> ((2 : Int32).toUInt32 &&& Int32.toUInt32 31)).toInt32) &&& 858993459)) + ((((((x0 - ((((x0 : Int32).toUInt32 >>> ((1 : Int32).toUInt32 &&& Int32.toUInt32 31)).toInt32) &&& 1431655765)) &&& 858993459) + (((((x0 - ((((x0 : Int32).toUInt32 >>> ((1 : Int32).toUInt32 &&& Int32.toUInt32 31)).toInt32) &&& 1431655765)) : Int32).toUInt32 >>> ((2 : Int32).toUInt32 &&& Int32.toUInt32 31)).toInt32) &&& 858993459)) : Int32).toUInt32 >>> ((4 : Int32).toUInt32 &&& Int32.toUInt32 31)).toInt32)) &&& 252645135) + ((((((((x0 - ((((x0 : Int32).toUInt32 >>> ((1 : Int32).toUInt32 &&& Int32.toUInt32 31)).toInt32) &&& 1431655765)) &&& 858993459) + (((((x0 - ((((x0 : Int32).toUInt32 >>> ((1 : Int32).toUInt32 &&& Int32.toUInt32 31)).toInt32) &&& 1431655765)) : Int32).toUInt32 >>> ((2 : Int32).toUInt32 &&& Int32.toUInt32 31)).toInt32) &&& 858993459)) + ((((((x0 - ((((x0 : Int32).toUInt32 >>> ((1 : Int32).toUInt32 &&& Int32.toUInt32 31)).toInt32) &&& 1431655765)) &&& 858993459) + (((((x0 - ((((x0 : Int32).toUInt32 >>> ((1 : Int32).toUInt32 &&& Int32.toUInt32 31)).toInt32) &&& 1431655765)) : Int32).toUInt32 >>> ((2 : Int32).toUInt32 &&& Int32.toUInt32 31)).toInt32) &&& 858993459)) : Int32).toUInt32 >>> ((4 : Int32).toUInt32 &&& Int32.toUInt32 31)).toInt32)) &&& 252645135) : Int32).toUInt32 >>> ((8 : Int32).toUInt32 &&& Int32.toUInt32 31)).toInt32)))]) C dJ6_bitCount_0f7a4_40 (by decide) rfl ?_
  refine v_iload_n C dJ6_bitCount_0f7a4_41 0 rfl ?_
  refine v_iload_n C dJ6_bitCount_0f7a4_42 0 rfl ?_
  refine v_bipush (v := 16) C dJ6_bitCount_0f7a4_43 (by decide) ?_
  refine v_iushr C dJ6_bitCount_0f7a4_45 ?_
  refine v_iadd C dJ6_bitCount_0f7a4_46 ?_
  refine v_istore_n (lv' := [(0, .int (((((((x0 - ((((x0 : Int32).toUInt32 >>> ((1 : Int32).toUInt32 &&& Int32.toUInt32 31)).toInt32) &&& 1431655765)) &&& 858993459) + (((((x0 - ((((x0 : Int32).toUInt32 >>> ((1 : Int32).toUInt32 &&& Int32.toUInt32 31)).toInt32) &&& 1431655765)) : Int32).toUInt32 >>> ((2 : Int32).toUInt32 &&& Int32.toUInt32 31)).toInt32) &&& 858993459)) + ((((((x0 - ((((x0 : Int32).toUInt32 >>> ((1 : Int32).toUInt32 &&& Int32.toUInt32 31)).toInt32) &&& 1431655765)) &&& 858993459) + (((((x0 - ((((x0 : Int32).toUInt32 >>> ((1 : Int32).toUInt32 &&& Int32.toUInt32 31)).toInt32) &&& 1431655765)) : Int32).toUInt32 >>> ((2 : Int32).toUInt32 &&& Int32.toUInt32 31)).toInt32) &&& 858993459)) : Int32).toUInt32 >>> ((4 : Int32).toUInt32 &&& Int32.toUInt32 31)).toInt32)) &&& 252645135) + ((((((((x0 - ((((x0 : Int32).toUInt32 >>> ((1 : Int32).toUInt32 &&& Int32.toUInt32 31)).toInt32) &&& 1431655765)) &&& 858993459) + (((((x0 - ((((x0 : Int32).toUInt32 >>> ((1 : Int32).toUInt32 &&& Int32.toUInt32 31)).toInt32) &&& 1431655765)) : Int32).toUInt32 >>> ((2 : Int32).toUInt32 &&& Int32.toUInt32 31)).toInt32) &&& 858993459)) + ((((((x0 - ((((x0 : Int32).toUInt32 >>> ((1 : Int32).toUInt32 &&& Int32.toUInt32 31)).toInt32) &&& 1431655765)) &&& 858993459) + (((((x0 - ((((x0 : Int32).toUInt32 >>> ((1 : Int32).toUInt32 &&& Int32.toUInt32 31)).toInt32) &&& 1431655765)) : Int32).toUInt32 >>> ((2 : Int32).toUInt32 &&& Int32.toUInt32 31)).toInt32) &&& 858993459)) : Int32).toUInt32 >>> ((4 : Int32).toUInt32 &&& Int32.toUInt32 31)).toInt32)) &&& 252645135) : Int32).toUInt32 >>> ((8 : Int32).toUInt32 &&& Int32.toUInt32 31)).toInt32)) + (((((((((x0 - ((((x0 : Int32).toUInt32 >>> ((1 : Int32).toUInt32 &&& Int32.toUInt32 31)).toInt32) &&& 1431655765)) &&& 858993459) + (((((x0 - ((((x0 : Int32).toUInt32 >>> ((1 : Int32).toUInt32 &&& Int32.toUInt32 31)).toInt32) &&& 1431655765)) : Int32).toUInt32 >>> ((2 : Int32).toUInt32 &&& Int32.toUInt32 31)).toInt32) &&& 858993459)) + ((((((x0 - ((((x0 : Int32).toUInt32 >>> ((1 : Int32).toUInt32 &&& Int32.toUInt32 31)).toInt32) &&& 1431655765)) &&& 858993459) + (((((x0 - ((((x0 : Int32).toUInt32 >>> ((1 : Int32).toUInt32 &&& Int32.toUInt32 31)).toInt32) &&& 1431655765)) : Int32).toUInt32 >>> ((2 : Int32).toUInt32 &&& Int32.toUInt32 31)).toInt32) &&& 858993459)) : Int32).toUInt32 >>> ((4 : Int32).toUInt32 &&& Int32.toUInt32 31)).toInt32)) &&& 252645135) + ((((((((x0 - ((((x0 : Int32).toUInt32 >>> ((1 : Int32).toUInt32 &&& Int32.toUInt32 31)).toInt32) &&& 1431655765)) &&& 858993459) + (((((x0 - ((((x0 : Int32).toUInt32 >>> ((1 : Int32).toUInt32 &&& Int32.toUInt32 31)).toInt32) &&& 1431655765)) : Int32).toUInt32 >>> ((2 : Int32).toUInt32 &&& Int32.toUInt32 31)).toInt32) &&& 858993459)) + ((((((x0 - ((((x0 : Int32).toUInt32 >>> ((1 : Int32).toUInt32 &&& Int32.toUInt32 31)).toInt32) &&& 1431655765)) &&& 858993459) + (((((x0 - ((((x0 : Int32).toUInt32 >>> ((1 : Int32).toUInt32 &&& Int32.toUInt32 31)).toInt32) &&& 1431655765)) : Int32).toUInt32 >>> ((2 : Int32).toUInt32 &&& Int32.toUInt32 31)).toInt32) &&& 858993459)) : Int32).toUInt32 >>> ((4 : Int32).toUInt32 &&& Int32.toUInt32 31)).toInt32)) &&& 252645135) : Int32).toUInt32 >>> ((8 : Int32).toUInt32 &&& Int32.toUInt32 31)).toInt32)) : Int32).toUInt32 >>> ((16 : Int32).toUInt32 &&& Int32.toUInt32 31)).toInt32)))]) C dJ6_bitCount_0f7a4_47 (by decide) rfl ?_
  refine v_iload_n C dJ6_bitCount_0f7a4_48 0 rfl ?_
  refine v_bipush (v := 63) C dJ6_bitCount_0f7a4_49 (by decide) ?_
  refine v_iand C dJ6_bitCount_0f7a4_51 ?_
  exact hret _ _ _ _ ((((((((x0 - ((((x0 : Int32).toUInt32 >>> ((1 : Int32).toUInt32 &&& Int32.toUInt32 31)).toInt32) &&& 1431655765)) &&& 858993459) + (((((x0 - ((((x0 : Int32).toUInt32 >>> ((1 : Int32).toUInt32 &&& Int32.toUInt32 31)).toInt32) &&& 1431655765)) : Int32).toUInt32 >>> ((2 : Int32).toUInt32 &&& Int32.toUInt32 31)).toInt32) &&& 858993459)) + ((((((x0 - ((((x0 : Int32).toUInt32 >>> ((1 : Int32).toUInt32 &&& Int32.toUInt32 31)).toInt32) &&& 1431655765)) &&& 858993459) + (((((x0 - ((((x0 : Int32).toUInt32 >>> ((1 : Int32).toUInt32 &&& Int32.toUInt32 31)).toInt32) &&& 1431655765)) : Int32).toUInt32 >>> ((2 : Int32).toUInt32 &&& Int32.toUInt32 31)).toInt32) &&& 858993459)) : Int32).toUInt32 >>> ((4 : Int32).toUInt32 &&& Int32.toUInt32 31)).toInt32)) &&& 252645135) + ((((((((x0 - ((((x0 : Int32).toUInt32 >>> ((1 : Int32).toUInt32 &&& Int32.toUInt32 31)).toInt32) &&& 1431655765)) &&& 858993459) + (((((x0 - ((((x0 : Int32).toUInt32 >>> ((1 : Int32).toUInt32 &&& Int32.toUInt32 31)).toInt32) &&& 1431655765)) : Int32).toUInt32 >>> ((2 : Int32).toUInt32 &&& Int32.toUInt32 31)).toInt32) &&& 858993459)) + ((((((x0 - ((((x0 : Int32).toUInt32 >>> ((1 : Int32).toUInt32 &&& Int32.toUInt32 31)).toInt32) &&& 1431655765)) &&& 858993459) + (((((x0 - ((((x0 : Int32).toUInt32 >>> ((1 : Int32).toUInt32 &&& Int32.toUInt32 31)).toInt32) &&& 1431655765)) : Int32).toUInt32 >>> ((2 : Int32).toUInt32 &&& Int32.toUInt32 31)).toInt32) &&& 858993459)) : Int32).toUInt32 >>> ((4 : Int32).toUInt32 &&& Int32.toUInt32 31)).toInt32)) &&& 252645135) : Int32).toUInt32 >>> ((8 : Int32).toUInt32 &&& Int32.toUInt32 31)).toInt32)) + (((((((((x0 - ((((x0 : Int32).toUInt32 >>> ((1 : Int32).toUInt32 &&& Int32.toUInt32 31)).toInt32) &&& 1431655765)) &&& 858993459) + (((((x0 - ((((x0 : Int32).toUInt32 >>> ((1 : Int32).toUInt32 &&& Int32.toUInt32 31)).toInt32) &&& 1431655765)) : Int32).toUInt32 >>> ((2 : Int32).toUInt32 &&& Int32.toUInt32 31)).toInt32) &&& 858993459)) + ((((((x0 - ((((x0 : Int32).toUInt32 >>> ((1 : Int32).toUInt32 &&& Int32.toUInt32 31)).toInt32) &&& 1431655765)) &&& 858993459) + (((((x0 - ((((x0 : Int32).toUInt32 >>> ((1 : Int32).toUInt32 &&& Int32.toUInt32 31)).toInt32) &&& 1431655765)) : Int32).toUInt32 >>> ((2 : Int32).toUInt32 &&& Int32.toUInt32 31)).toInt32) &&& 858993459)) : Int32).toUInt32 >>> ((4 : Int32).toUInt32 &&& Int32.toUInt32 31)).toInt32)) &&& 252645135) + ((((((((x0 - ((((x0 : Int32).toUInt32 >>> ((1 : Int32).toUInt32 &&& Int32.toUInt32 31)).toInt32) &&& 1431655765)) &&& 858993459) + (((((x0 - ((((x0 : Int32).toUInt32 >>> ((1 : Int32).toUInt32 &&& Int32.toUInt32 31)).toInt32) &&& 1431655765)) : Int32).toUInt32 >>> ((2 : Int32).toUInt32 &&& Int32.toUInt32 31)).toInt32) &&& 858993459)) + ((((((x0 - ((((x0 : Int32).toUInt32 >>> ((1 : Int32).toUInt32 &&& Int32.toUInt32 31)).toInt32) &&& 1431655765)) &&& 858993459) + (((((x0 - ((((x0 : Int32).toUInt32 >>> ((1 : Int32).toUInt32 &&& Int32.toUInt32 31)).toInt32) &&& 1431655765)) : Int32).toUInt32 >>> ((2 : Int32).toUInt32 &&& Int32.toUInt32 31)).toInt32) &&& 858993459)) : Int32).toUInt32 >>> ((4 : Int32).toUInt32 &&& Int32.toUInt32 31)).toInt32)) &&& 252645135) : Int32).toUInt32 >>> ((8 : Int32).toUInt32 &&& Int32.toUInt32 31)).toInt32)) : Int32).toUInt32 >>> ((16 : Int32).toUInt32 &&& Int32.toUInt32 31)).toInt32)) &&& 63) () dJ6_bitCount_0f7a4_52 rfl hw (Nat.le_of_ble_eq_true rfl) (Nat.le_of_ble_eq_true rfl)
set_option maxHeartbeats 4000000 in
set_option maxRecDepth 100000 in
theorem kX1_tooFew {l : Launch} {E : VE} (h0 : Nat) (a0 : Nat → Nat) (u0 : Md) (x1 : Int32) (x2 : Int32) {Q : Int32 → Md → Prop} (hw : qX1_tooFew u0 x1 x2 Q) : MI l yX1_tooFew cX1_tooFew 4 .boolean 1 0 0 E [.ref h0, .int x1, .int x2] ([wX1 E h0 a0 u0].flatten) (fun (U : Md) => [wX1 E h0 a0 U].flatten) (fun (r : Int32) (U : Md) => (r = 0 ∨ r = 1) ∧ Q r U) := by
  refine MI.of (own := RX1) (by decide) rfl (Nat.le_of_ble_eq_true rfl) ?_
  intro X C hini hret
  show VV X 0 0 ([wX1 E h0 a0 u0].flatten) [(0, .ref h0), (1, .int x1), (2, .int x2)] 0 []
  unfold qX1_tooFew at hw
  refine v_aload_n C dX1_tooFew_0 0 rfl ?_
  refine v_get (ci := 1) C inT1 0 4 rfl rfl (by decide) mF_X1_22_X1_4 rfl dX1_tooFew_1 ?_
  refine v_iload_n C dX1_tooFew_4 1 rfl ?_
  obtain ⟨hi5, hw⟩ := hw
  refine v_iald C 4 rfl hi5 dX1_tooFew_5 ?_
  refine v_callSPi (st := []) C (kJ6_bitCount_0f7a4 _ hw) mM_X1_47 mI_J6 mC_J6_bitCount_0f7a4 mT_J6_bitCount_0f7a4 hd_J6_bitCount_0f7a4 ⟨Nat.le_of_ble_eq_true rfl, Nat.le_of_ble_eq_true rfl⟩ ⟨Nat.le_of_ble_eq_true rfl, Nat.le_of_ble_eq_true rfl⟩ rfl (Nat.le_of_ble_eq_true rfl) dX1_tooFew_6 (fun r6 U6 hw => ?_)
  refine v_istore_n (lv' := [(3, .int r6), (0, .ref h0), (1, .int x1), (2, .int x2)]) C dX1_tooFew_9 (by decide) rfl ?_
  refine v_iload_n C dX1_tooFew_10 0 rfl ?_
  refine v_if_eq (tgt := 32) C dX1_tooFew_11 (by decide) (fun hc => ?_) (fun hc => ?_)
  · have hw := hw.1 hc
    refine v_iconst (v := 1) C dX1_tooFew_32 (by decide) ?_
    refine v_goto (tgt := 37) C dX1_tooFew_33 (by decide) ?_
    exact hret _ _ _ _ 1 u0 dX1_tooFew_37 rfl ⟨Or.inr rfl, hw⟩ (Nat.le_of_ble_eq_true rfl) (Nat.le_of_ble_eq_true rfl)
  · have hw := hw.2 hc
    refine v_aload_n C dX1_tooFew_14 1 rfl ?_
    refine v_get (ci := 1) C inT1 0 5 rfl rfl (by decide) mF_X1_25_X1_5 rfl dX1_tooFew_15 ?_
    refine v_iload_n C dX1_tooFew_18 2 rfl ?_
    obtain ⟨hi19, hw⟩ := hw
    refine v_iald C 5 rfl hi19 dX1_tooFew_19 ?_
    refine v_callSPi (st := []) C (kJ6_bitCount_0f7a4 _ hw) mM_X1_47 mI_J6 mC_J6_bitCount_0f7a4 mT_J6_bitCount_0f7a4 hd_J6_bitCount_0f7a4 ⟨Nat.le_of_ble_eq_true rfl, Nat.le_of_ble_eq_true rfl⟩ ⟨Nat.le_of_ble_eq_true rfl, Nat.le_of_ble_eq_true rfl⟩ rfl (Nat.le_of_ble_eq_true rfl) dX1_tooFew_20 (fun r20 U20 hw => ?_)
    refine v_bipush (v := 100) C dX1_tooFew_23 (by decide) ?_
    refine v_imul C dX1_tooFew_25 ?_
    refine v_iload_n C dX1_tooFew_26 3 rfl ?_
    refine v_iload_n C dX1_tooFew_27 0 rfl ?_
    refine v_imul C dX1_tooFew_28 ?_
    refine v_icmp_ge (tgt := 36) C dX1_tooFew_29 (by decide) (fun hc => ?_) (fun hc => ?_)
    · have hw := hw.1 hc
      refine v_iconst (v := 0) C dX1_tooFew_36 (by decide) ?_
      exact hret _ _ _ _ 0 u0 dX1_tooFew_37 rfl ⟨Or.inl rfl, hw⟩ (Nat.le_of_ble_eq_true rfl) (Nat.le_of_ble_eq_true rfl)
    · have hw := hw.2 hc
      refine v_iconst (v := 1) C dX1_tooFew_32 (by decide) ?_
      refine v_goto (tgt := 37) C dX1_tooFew_33 (by decide) ?_
      exact hret _ _ _ _ 1 u0 dX1_tooFew_37 rfl ⟨Or.inr rfl, hw⟩ (Nat.le_of_ble_eq_true rfl) (Nat.le_of_ble_eq_true rfl)
set_option maxHeartbeats 4000000 in
set_option maxRecDepth 100000 in
theorem kX1_settle {l : Launch} {E : VE} (h0 : Nat) (a0 : Nat → Nat) (u0 : Md) (x1 : Int32) (x2 : Int32) (x3 : Int32) (x4 : Int32) {Q : Md → Prop} (hw : qX1_settle u0 x1 x2 x3 x4 Q) : MV l yX1_settle cX1_settle 5 0 0 0 E [.ref h0, .int x1, .int x2, .int x3, .int x4] ([wX1 E h0 a0 u0].flatten) (fun (U : Md) => [wX1 E h0 a0 U].flatten) (fun (U : Md) => Q U) := by
  refine MV.of (own := RX1) (by decide) rfl (Nat.le_of_ble_eq_true rfl) ?_
  intro X C hini hret
  show VV X 0 0 ([wX1 E h0 a0 u0].flatten) [(0, .ref h0), (1, .int x1), (2, .int x2), (3, .int x3), (4, .int x4)] 0 []
  unfold qX1_settle at hw
  refine v_aload_n C dX1_settle_0 0 rfl ?_
  refine v_get (ci := 1) C inT1 0 6 rfl rfl (by decide) mF_X1_53_X1_6 rfl dX1_settle_1 ?_
  refine v_bipush (v := 60) C dX1_settle_4 (by decide) ?_
  refine v_icmp_lt (tgt := 10) C dX1_settle_6 (by decide) (fun hc => ?_) (fun hc => ?_)
  · have hw := hw.1 hc
    refine v_aload_n C dX1_settle_10 0 rfl ?_
    refine v_get (ci := 1) C inT1 0 7 rfl rfl (by decide) mF_X1_28_X1_7 rfl dX1_settle_11 ?_
    refine v_aload_n C dX1_settle_14 0 rfl ?_
    refine v_get (ci := 1) C inT1 0 6 rfl rfl (by decide) mF_X1_53_X1_6 rfl dX1_settle_15 ?_
    refine v_iload_n C dX1_settle_18 1 rfl ?_
    obtain ⟨hi19, hw⟩ := hw
    obtain ⟨w19, e19⟩ : ∃ z : Md, z = tA u0 7 (gF u0 6) x1 := ⟨_, rfl⟩
    have hw := hw w19 e19
    refine v_iast (ws' := [wX1 E h0 a0 w19].flatten) C 6 rfl hi19 (by rw [e19]; rfl) dX1_settle_19 ?_
    refine v_aload_n C dX1_settle_20 0 rfl ?_
    refine v_get (ci := 1) C inT1 0 8 rfl rfl (by decide) mF_X1_31_X1_8 rfl dX1_settle_21 ?_
    refine v_aload_n C dX1_settle_24 0 rfl ?_
    refine v_get (ci := 1) C inT1 0 6 rfl rfl (by decide) mF_X1_53_X1_6 rfl dX1_settle_25 ?_
    refine v_iload_n C dX1_settle_28 2 rfl ?_
    obtain ⟨hi29, hw⟩ := hw
    obtain ⟨w29, e29⟩ : ∃ z : Md, z = tA w19 8 (gF w19 6) x2 := ⟨_, rfl⟩
    have hw := hw w29 e29
    refine v_iast (ws' := [wX1 E h0 a0 w29].flatten) C 7 rfl hi29 (by rw [e29]; rfl) dX1_settle_29 ?_
    refine v_aload_n C dX1_settle_30 0 rfl ?_
    refine v_get (ci := 1) C inT1 0 9 rfl rfl (by decide) mF_X1_34_X1_9 rfl dX1_settle_31 ?_
    refine v_aload_n C dX1_settle_34 0 rfl ?_
    refine v_get (ci := 1) C inT1 0 6 rfl rfl (by decide) mF_X1_53_X1_6 rfl dX1_settle_35 ?_
    refine v_iload_n C dX1_settle_38 3 rfl ?_
    obtain ⟨hi39, hw⟩ := hw
    obtain ⟨w39, e39⟩ : ∃ z : Md, z = tA w29 9 (gF w29 6) x3 := ⟨_, rfl⟩
    have hw := hw w39 e39
    refine v_iast (ws' := [wX1 E h0 a0 w39].flatten) C 8 rfl hi39 (by rw [e39]; rfl) dX1_settle_39 ?_
    refine v_aload_n C dX1_settle_40 0 rfl ?_
    refine v_get (ci := 1) C inT1 0 10 rfl rfl (by decide) mF_X1_37_X1_10 rfl dX1_settle_41 ?_
    refine v_aload_n C dX1_settle_44 0 rfl ?_
    refine v_get (ci := 1) C inT1 0 6 rfl rfl (by decide) mF_X1_53_X1_6 rfl dX1_settle_45 ?_
    refine v_iload C dX1_settle_48 4 rfl ?_
    obtain ⟨hi50, hw⟩ := hw
    obtain ⟨w50, e50⟩ : ∃ z : Md, z = tA w39 10 (gF w39 6) x4 := ⟨_, rfl⟩
    have hw := hw w50 e50
    refine v_iast (ws' := [wX1 E h0 a0 w50].flatten) C 9 rfl hi50 (by rw [e50]; rfl) dX1_settle_50 ?_
    refine v_aload_n C dX1_settle_51 0 rfl ?_
    refine v_get (ci := 1) C inT1 0 11 rfl rfl (by decide) mF_X1_40_X1_11 rfl dX1_settle_52 ?_
    refine v_aload_n C dX1_settle_55 0 rfl ?_
    refine v_get (ci := 1) C inT1 0 6 rfl rfl (by decide) mF_X1_53_X1_6 rfl dX1_settle_56 ?_
    refine v_sipush (v := 400) C dX1_settle_59 (by decide) ?_
    obtain ⟨hi62, hw⟩ := hw
    obtain ⟨w62, e62⟩ : ∃ z : Md, z = tA w50 11 (gF w50 6) 400 := ⟨_, rfl⟩
    have hw := hw w62 e62
    refine v_iast (ws' := [wX1 E h0 a0 w62].flatten) C 10 rfl hi62 (by rw [e62]; rfl) dX1_settle_62 ?_
    refine v_aload_n C dX1_settle_63 0 rfl ?_
    refine v_dup C dX1_settle_64 rfl ?_
    refine v_get (ci := 1) C inT1 0 6 rfl rfl (by decide) mF_X1_53_X1_6 rfl dX1_settle_65 ?_
    refine v_iconst (v := 1) C dX1_settle_68 (by decide) ?_
    refine v_iadd C dX1_settle_69 ?_
    obtain ⟨w70, e70⟩ : ∃ z : Md, z = sF w62 6 ((gF w62 6) + 1) := ⟨_, rfl⟩
    have hw := hw w70 e70
    refine v_put (ci := 1) (ws' := [wX1 E h0 a0 w70].flatten) C tyX1 tyX1_ok nmX1 inT1 0 6 rfl rfl (by decide) mF_X1_53_X1_6 rfl rfl rfl rfl (Nat.le_of_ble_eq_true rfl) (by rw [e70]; rfl) dX1_settle_70 ?_
    exact hret _ _ _ _ w70 dX1_settle_73 hw (Nat.le_of_ble_eq_true rfl) (Nat.le_of_ble_eq_true rfl)
  · have hw := hw.2 hc
    exact hret _ _ _ _ u0 dX1_settle_9 hw (Nat.le_of_ble_eq_true rfl) (Nat.le_of_ble_eq_true rfl)
set_option maxHeartbeats 4000000 in
set_option maxRecDepth 100000 in
theorem jX1_settlingAt_40 {X : VX} {E : VE} {l : Launch} (h0 : Nat) (a0 : Nat → Nat)  (Q : Int32 → Md → Prop) (C : VC X cX1_settlingAt 6 RX1 (rmL 0 0 0) E l) (hret : RetI X cX1_settlingAt .int 0 0 (fun (U : Md) => [wX1 E h0 a0 U].flatten) (fun (r : Int32) (U : Md) => Q r U)) (K8 : Md → Int32 → Int32 → Int32 → Int32 → Prop) (hK8 : ∀ (u0 : Md) (y1 : Int32) (y2 : Int32) (y3 : Int32) (y4 : Int32), K8 u0 y1 y2 y3 y4 → VV X 0 0 ([wX1 E h0 a0 u0].flatten) [(0, .ref h0), (1, .int y1), (2, .int y2), (3, .int y3), (4, .int y4)] 8 []) : ∀ (u0 : Md) (y1 : Int32) (y2 : Int32) (y3 : Int32) (y4 : Int32) (z0 : Int32), qX1_settlingAt_40 Q K8 u0 y1 y2 y3 y4 z0 → VV X 0 0 ([wX1 E h0 a0 u0].flatten) [(0, .ref h0), (1, .int y1), (2, .int y2), (3, .int y3), (4, .int y4)] 40 [.int z0] := by
  intro u0 y1 y2 y3 y4 z0 hw
  unfold qX1_settlingAt_40 at hw
  refine v_istore (lv' := [(5, .int z0), (0, .ref h0), (1, .int y1), (2, .int y2), (3, .int y3), (4, .int y4)]) C dX1_settlingAt_40 (by decide) rfl ?_
  refine v_iload C dX1_settlingAt_42 0 rfl ?_
  refine v_if_eq (tgt := 72) C dX1_settlingAt_44 (by decide) (fun hc => ?_) (fun hc => ?_)
  · have hw := hw.1 hc
    refine v_iinc (lv' := [(4, .int (y4 + Int32.ofInt (-1))), (5, .int z0), (0, .ref h0), (1, .int y1), (2, .int y2), (3, .int y3)]) C dX1_settlingAt_72 5 rfl (by decide) rfl ?_
    refine v_goto (tgt := 8) C dX1_settlingAt_75 (by decide) ?_
    refine v_lv C (lv' := [(0, .ref h0), (1, .int y1), (2, .int y2), (3, .int y3), (4, .int (y4 + Int32.ofInt (-1)))]) [2, 3, 4, 5, 0] rfl ?_
    exact hK8 u0 y1 y2 y3 (y4 + Int32.ofInt (-1)) hw
  · have hw := hw.2 hc
    refine v_aload_n C dX1_settlingAt_47 1 rfl ?_
    refine v_get (ci := 1) C inT1 0 10 rfl rfl (by decide) mF_X1_37_X1_10 rfl dX1_settlingAt_48 ?_
    refine v_iload C dX1_settlingAt_51 5 rfl ?_
    obtain ⟨hi53, hw⟩ := hw
    refine v_iald C 9 rfl hi53 dX1_settlingAt_53 ?_
    refine v_iload_n C dX1_settlingAt_54 4 rfl ?_
    refine v_icmp_gt (tgt := 72) C dX1_settlingAt_55 (by decide) (fun hc => ?_) (fun hc => ?_)
    · have hw := hw.1 hc
      refine v_iinc (lv' := [(4, .int (y4 + Int32.ofInt (-1))), (5, .int z0), (0, .ref h0), (1, .int y1), (2, .int y2), (3, .int y3)]) C dX1_settlingAt_72 5 rfl (by decide) rfl ?_
      refine v_goto (tgt := 8) C dX1_settlingAt_75 (by decide) ?_
      refine v_lv C (lv' := [(0, .ref h0), (1, .int y1), (2, .int y2), (3, .int y3), (4, .int (y4 + Int32.ofInt (-1)))]) [2, 3, 4, 5, 0] rfl ?_
      exact hK8 u0 y1 y2 y3 (y4 + Int32.ofInt (-1)) hw
    · have hw := hw.2 hc
      refine v_aload_n C dX1_settlingAt_58 1 rfl ?_
      refine v_get (ci := 1) C inT1 0 11 rfl rfl (by decide) mF_X1_40_X1_11 rfl dX1_settlingAt_59 ?_
      refine v_iload C dX1_settlingAt_62 5 rfl ?_
      obtain ⟨hi64, hw⟩ := hw
      refine v_iald C 10 rfl hi64 dX1_settlingAt_64 ?_
      refine v_iload_n C dX1_settlingAt_65 4 rfl ?_
      refine v_icmp_le (tgt := 72) C dX1_settlingAt_66 (by decide) (fun hc => ?_) (fun hc => ?_)
      · have hw := hw.1 hc
        refine v_iinc (lv' := [(4, .int (y4 + Int32.ofInt (-1))), (5, .int z0), (0, .ref h0), (1, .int y1), (2, .int y2), (3, .int y3)]) C dX1_settlingAt_72 5 rfl (by decide) rfl ?_
        refine v_goto (tgt := 8) C dX1_settlingAt_75 (by decide) ?_
        refine v_lv C (lv' := [(0, .ref h0), (1, .int y1), (2, .int y2), (3, .int y3), (4, .int (y4 + Int32.ofInt (-1)))]) [2, 3, 4, 5, 0] rfl ?_
        exact hK8 u0 y1 y2 y3 (y4 + Int32.ofInt (-1)) hw
      · have hw := hw.2 hc
        refine v_iload C dX1_settlingAt_69 5 rfl ?_
        exact hret _ _ _ _ y4 u0 dX1_settlingAt_71 rfl hw (Nat.le_of_ble_eq_true rfl) (Nat.le_of_ble_eq_true rfl)
set_option maxHeartbeats 4000000 in
set_option maxRecDepth 100000 in
theorem jX1_settlingAt_39 {X : VX} {E : VE} {l : Launch} (h0 : Nat) (a0 : Nat → Nat)  (Q : Int32 → Md → Prop) (C : VC X cX1_settlingAt 6 RX1 (rmL 0 0 0) E l) (hret : RetI X cX1_settlingAt .int 0 0 (fun (U : Md) => [wX1 E h0 a0 U].flatten) (fun (r : Int32) (U : Md) => Q r U)) (K8 : Md → Int32 → Int32 → Int32 → Int32 → Prop) (hK8 : ∀ (u0 : Md) (y1 : Int32) (y2 : Int32) (y3 : Int32) (y4 : Int32), K8 u0 y1 y2 y3 y4 → VV X 0 0 ([wX1 E h0 a0 u0].flatten) [(0, .ref h0), (1, .int y1), (2, .int y2), (3, .int y3), (4, .int y4)] 8 []) : ∀ (u0 : Md) (y1 : Int32) (y2 : Int32) (y3 : Int32) (y4 : Int32), qX1_settlingAt_39 Q K8 u0 y1 y2 y3 y4 → VV X 0 0 ([wX1 E h0 a0 u0].flatten) [(0, .ref h0), (1, .int y1), (2, .int y2), (3, .int y3), (4, .int y4)] 39 [] := by
  intro u0 y1 y2 y3 y4 hw
  unfold qX1_settlingAt_39 at hw
  refine v_iconst (v := 0) C dX1_settlingAt_39 (by decide) ?_
  exact jX1_settlingAt_40 h0 a0 Q C hret K8 hK8 u0 y1 y2 y3 y4 0 hw
set_option maxHeartbeats 4000000 in
set_option maxRecDepth 100000 in
theorem jX1_settlingAt_8 {X : VX} {E : VE} {l : Launch} (h0 : Nat) (a0 : Nat → Nat)  (Q : Int32 → Md → Prop) (C : VC X cX1_settlingAt 6 RX1 (rmL 0 0 0) E l) (hret : RetI X cX1_settlingAt .int 0 0 (fun (U : Md) => [wX1 E h0 a0 U].flatten) (fun (r : Int32) (U : Md) => Q r U))  : ∀ (n : Nat), ∀ (u0 : Md) (y1 : Int32) (y2 : Int32) (y3 : Int32) (y4 : Int32), qX1_settlingAt_8 Q n u0 y1 y2 y3 y4 → VV X 0 0 ([wX1 E h0 a0 u0].flatten) [(0, .ref h0), (1, .int y1), (2, .int y2), (3, .int y3), (4, .int y4)] 8 [] := by
  intro n
  induction n with
  | zero =>
    intro u0 y1 y2 y3 y4 hw
    exact hw.elim
  | succ n ih =>
    intro u0 y1 y2 y3 y4 hw
    unfold qX1_settlingAt_8 at hw
    refine v_iload C dX1_settlingAt_8 4 rfl ?_
    refine v_if_lt (tgt := 78) C dX1_settlingAt_10 (by decide) (fun hc => ?_) (fun hc => ?_)
    · have hw := hw.1 hc
      refine v_iconst (v := (-1)) C dX1_settlingAt_78 (by decide) ?_
      exact hret _ _ _ _ ((-1)) u0 dX1_settlingAt_79 rfl hw (Nat.le_of_ble_eq_true rfl) (Nat.le_of_ble_eq_true rfl)
    · have hw := hw.2 hc
      refine v_aload_n C dX1_settlingAt_13 0 rfl ?_
      refine v_get (ci := 1) C inT1 0 8 rfl rfl (by decide) mF_X1_31_X1_8 rfl dX1_settlingAt_14 ?_
      refine v_iload C dX1_settlingAt_17 4 rfl ?_
      obtain ⟨hi19, hw⟩ := hw
      refine v_iald C 7 rfl hi19 dX1_settlingAt_19 ?_
      refine v_iload_n C dX1_settlingAt_20 1 rfl ?_
      refine v_icmp_ne (tgt := 39) C dX1_settlingAt_21 (by decide) (fun hc => ?_) (fun hc => ?_)
      · have hw := hw.1 hc
        exact jX1_settlingAt_39 h0 a0 Q C hret (qX1_settlingAt_8 Q n) ih u0 y1 y2 y3 y4 hw
      · have hw := hw.2 hc
        refine v_aload_n C dX1_settlingAt_24 0 rfl ?_
        refine v_get (ci := 1) C inT1 0 9 rfl rfl (by decide) mF_X1_34_X1_9 rfl dX1_settlingAt_25 ?_
        refine v_iload C dX1_settlingAt_28 4 rfl ?_
        obtain ⟨hi30, hw⟩ := hw
        refine v_iald C 8 rfl hi30 dX1_settlingAt_30 ?_
        refine v_iload_n C dX1_settlingAt_31 2 rfl ?_
        refine v_icmp_ne (tgt := 39) C dX1_settlingAt_32 (by decide) (fun hc => ?_) (fun hc => ?_)
        · have hw := hw.1 hc
          exact jX1_settlingAt_39 h0 a0 Q C hret (qX1_settlingAt_8 Q n) ih u0 y1 y2 y3 y4 hw
        · have hw := hw.2 hc
          refine v_iconst (v := 1) C dX1_settlingAt_35 (by decide) ?_
          refine v_goto (tgt := 40) C dX1_settlingAt_36 (by decide) ?_
          exact jX1_settlingAt_40 h0 a0 Q C hret (qX1_settlingAt_8 Q n) ih u0 y1 y2 y3 y4 1 hw
set_option maxHeartbeats 4000000 in
set_option maxRecDepth 100000 in
theorem kX1_settlingAt {l : Launch} {E : VE} (h0 : Nat) (a0 : Nat → Nat) (u0 : Md) (x1 : Int32) (x2 : Int32) (x3 : Int32) {Q : Int32 → Md → Prop} (hw : qX1_settlingAt u0 x1 x2 x3 Q) : MI l yX1_settlingAt cX1_settlingAt 6 .int 0 0 0 E [.ref h0, .int x1, .int x2, .int x3] ([wX1 E h0 a0 u0].flatten) (fun (U : Md) => [wX1 E h0 a0 U].flatten) (fun (r : Int32) (U : Md) => Q r U) := by
  refine MI.of (own := RX1) (by decide) rfl (Nat.le_of_ble_eq_true rfl) ?_
  intro X C hini hret
  show VV X 0 0 ([wX1 E h0 a0 u0].flatten) [(0, .ref h0), (1, .int x1), (2, .int x2), (3, .int x3)] 0 []
  unfold qX1_settlingAt at hw
  refine v_aload_n C dX1_settlingAt_0 0 rfl ?_
  refine v_get (ci := 1) C inT1 0 6 rfl rfl (by decide) mF_X1_53_X1_6 rfl dX1_settlingAt_1 ?_
  refine v_iconst (v := 1) C dX1_settlingAt_4 (by decide) ?_
  refine v_isub C dX1_settlingAt_5 ?_
  refine v_istore (lv' := [(4, .int ((gF u0 6) - 1)), (0, .ref h0), (1, .int x1), (2, .int x2), (3, .int x3)]) C dX1_settlingAt_6 (by decide) rfl ?_
  refine v_lv C (lv' := [(0, .ref h0), (1, .int x1), (2, .int x2), (3, .int x3), (4, .int ((gF u0 6) - 1))]) [1, 2, 3, 4, 0] rfl ?_
  obtain ⟨n', hw⟩ := hw
  exact jX1_settlingAt_8 h0 a0 Q C hret n' u0 x1 x2 x3 ((gF u0 6) - 1) hw
set_option maxHeartbeats 4000000 in
set_option maxRecDepth 100000 in
theorem kX1_nameAt {l : Launch} {E : VE} (h0 : Nat) (a0 : Nat → Nat) (u0 : Md) (x1 : Int32) (x2 : Int32) (x3 : Int32) {Q : Int32 → Md → Prop} (hw : qX1_nameAt u0 x1 x2 x3 Q) : MI l yX1_nameAt cX1_nameAt 5 .int 1 0 0 E [.ref h0, .int x1, .int x2, .int x3] ([wX1 E h0 a0 u0].flatten) (fun (U : Md) => [wX1 E h0 a0 U].flatten) (fun (r : Int32) (U : Md) => Q r U) := by
  refine MI.of (own := RX1) (by decide) rfl (Nat.le_of_ble_eq_true rfl) ?_
  intro X C hini hret
  show VV X 0 0 ([wX1 E h0 a0 u0].flatten) [(0, .ref h0), (1, .int x1), (2, .int x2), (3, .int x3)] 0 []
  unfold qX1_nameAt at hw
  refine v_aload_n C dX1_nameAt_0 0 rfl ?_
  refine v_iload_n C dX1_nameAt_1 1 rfl ?_
  refine v_iload_n C dX1_nameAt_2 2 rfl ?_
  refine v_iload_n C dX1_nameAt_3 3 rfl ?_
  refine v_callFi (st := []) (ci := 1) (qb := 0) C (kX1_settlingAt h0 a0 _ _ _ _ hw) mM_X1_56 mI_X1 mC_X1_settlingAt mN_X1_settlingAt mS_X1_settlingAt rfl rfl hd_X1_settlingAt ⟨Nat.le_of_ble_eq_true rfl, Nat.le_of_ble_eq_true rfl⟩ ⟨Nat.le_of_ble_eq_true rfl, Nat.le_of_ble_eq_true rfl⟩ rfl (Nat.le_of_ble_eq_true rfl) dX1_nameAt_4 (fun r4 v4_0 hw => ?_)
  refine v_istore (lv' := [(4, .int r4), (0, .ref h0), (1, .int x1), (2, .int x2), (3, .int x3)]) C dX1_nameAt_7 (by decide) rfl ?_
  refine v_iload C dX1_nameAt_9 0 rfl ?_
  refine v_iconst (v := (-1)) C dX1_nameAt_11 (by decide) ?_
  refine v_icmp_ne (tgt := 19) C dX1_nameAt_12 (by decide) (fun hc => ?_) (fun hc => ?_)
  · have hw := hw.1 hc
    refine v_aload_n C dX1_nameAt_19 1 rfl ?_
    refine v_get (ci := 1) C inT1 0 7 rfl rfl (by decide) mF_X1_28_X1_7 rfl dX1_nameAt_20 ?_
    refine v_iload C dX1_nameAt_23 0 rfl ?_
    obtain ⟨hi25, hw⟩ := hw
    refine v_iald C 6 rfl hi25 dX1_nameAt_25 ?_
    exact hret _ _ _ _ (gA v4_0 7 r4.toNatClampNeg) v4_0 dX1_nameAt_26 rfl hw (Nat.le_of_ble_eq_true rfl) (Nat.le_of_ble_eq_true rfl)
  · have hw := hw.2 hc
    refine v_iconst (v := (-1)) C dX1_nameAt_15 (by decide) ?_
    refine v_goto (tgt := 26) C dX1_nameAt_16 (by decide) ?_
    exact hret _ _ _ _ ((-1)) v4_0 dX1_nameAt_26 rfl hw (Nat.le_of_ble_eq_true rfl) (Nat.le_of_ble_eq_true rfl)
set_option maxHeartbeats 4000000 in
set_option maxRecDepth 100000 in
theorem jX1_namesAt_14 {X : VX} {E : VE} {l : Launch} (h0 : Nat) (a0 : Nat → Nat)  (Q : Int32 → Md → Prop) (C : VC X cX1_namesAt 6 RX1 (rmL 1 0 0) E l) (hret : RetI X cX1_namesAt .int 0 0 (fun (U : Md) => [wX1 E h0 a0 U].flatten) (fun (r : Int32) (U : Md) => Q r U)) (K5 : Md → Int32 → Int32 → Int32 → Int32 → Prop) (hK5 : ∀ (u0 : Md) (y1 : Int32) (y2 : Int32) (y3 : Int32) (y4 : Int32), K5 u0 y1 y2 y3 y4 → VV X 0 0 ([wX1 E h0 a0 u0].flatten) [(0, .ref h0), (1, .int y1), (2, .int y2), (3, .int y3), (4, .int y4)] 5 []) : ∀ (n : Nat), ∀ (u0 : Md) (y1 : Int32) (y2 : Int32) (y3 : Int32) (y4 : Int32) (y5 : Int32), qX1_namesAt_14 Q K5 n u0 y1 y2 y3 y4 y5 → VV X 0 0 ([wX1 E h0 a0 u0].flatten) [(0, .ref h0), (1, .int y1), (2, .int y2), (3, .int y3), (4, .int y4), (5, .int y5)] 14 [] := by
  intro n
  induction n with
  | zero =>
    intro u0 y1 y2 y3 y4 y5 hw
    exact hw.elim
  | succ n ih =>
    intro u0 y1 y2 y3 y4 y5 hw
    unfold qX1_namesAt_14 at hw
    refine v_iload C dX1_namesAt_14 5 rfl ?_
    refine v_iconst (v := 3) C dX1_namesAt_16 (by decide) ?_
    refine v_icmp_ge (tgt := 42) C dX1_namesAt_17 (by decide) (fun hc => ?_) (fun hc => ?_)
    · have hw := hw.1 hc
      refine v_iinc (lv' := [(4, .int (y4 + Int32.ofInt 1)), (0, .ref h0), (1, .int y1), (2, .int y2), (3, .int y3), (5, .int y5)]) C dX1_namesAt_42 4 rfl (by decide) rfl ?_
      refine v_goto (tgt := 5) C dX1_namesAt_45 (by decide) ?_
      refine v_lv C (lv' := [(0, .ref h0), (1, .int y1), (2, .int y2), (3, .int y3), (4, .int (y4 + Int32.ofInt 1))]) [1, 2, 3, 4, 0] rfl ?_
      exact hK5 u0 y1 y2 y3 (y4 + Int32.ofInt 1) hw
    · have hw := hw.2 hc
      refine v_aload_n C dX1_namesAt_20 0 rfl ?_
      refine v_iload C dX1_namesAt_21 4 rfl ?_
      refine v_iload C dX1_namesAt_23 5 rfl ?_
      refine v_iload_n C dX1_namesAt_25 2 rfl ?_
      refine v_callFi (st := []) (ci := 1) (qb := 0) C (kX1_settlingAt h0 a0 _ _ _ _ hw) mM_X1_56 mI_X1 mC_X1_settlingAt mN_X1_settlingAt mS_X1_settlingAt rfl rfl hd_X1_settlingAt ⟨Nat.le_of_ble_eq_true rfl, Nat.le_of_ble_eq_true rfl⟩ ⟨Nat.le_of_ble_eq_true rfl, Nat.le_of_ble_eq_true rfl⟩ rfl (Nat.le_of_ble_eq_true rfl) dX1_namesAt_26 (fun r26 v26_0 hw => ?_)
      refine v_iconst (v := (-1)) C dX1_namesAt_29 (by decide) ?_
      refine v_icmp_eq (tgt := 36) C dX1_namesAt_30 (by decide) (fun hc => ?_) (fun hc => ?_)
      · have hw := hw.1 hc
        refine v_iinc (lv' := [(5, .int (y5 + Int32.ofInt 1)), (0, .ref h0), (1, .int y1), (2, .int y2), (3, .int y3), (4, .int y4)]) C dX1_namesAt_36 5 rfl (by decide) rfl ?_
        refine v_goto (tgt := 14) C dX1_namesAt_39 (by decide) ?_
        refine v_lv C (lv' := [(0, .ref h0), (1, .int y1), (2, .int y2), (3, .int y3), (4, .int y4), (5, .int (y5 + Int32.ofInt 1))]) [1, 2, 3, 4, 5, 0] rfl ?_
        exact ih v26_0 y1 y2 y3 y4 (y5 + Int32.ofInt 1) hw
      · have hw := hw.2 hc
        refine v_iinc (lv' := [(3, .int (y3 + Int32.ofInt 1)), (0, .ref h0), (1, .int y1), (2, .int y2), (4, .int y4), (5, .int y5)]) C dX1_namesAt_33 3 rfl (by decide) rfl ?_
        refine v_iinc (lv' := [(5, .int (y5 + Int32.ofInt 1)), (3, .int (y3 + Int32.ofInt 1)), (0, .ref h0), (1, .int y1), (2, .int y2), (4, .int y4)]) C dX1_namesAt_36 5 rfl (by decide) rfl ?_
        refine v_goto (tgt := 14) C dX1_namesAt_39 (by decide) ?_
        refine v_lv C (lv' := [(0, .ref h0), (1, .int y1), (2, .int y2), (3, .int (y3 + Int32.ofInt 1)), (4, .int y4), (5, .int (y5 + Int32.ofInt 1))]) [2, 3, 4, 1, 5, 0] rfl ?_
        exact ih v26_0 y1 y2 (y3 + Int32.ofInt 1) y4 (y5 + Int32.ofInt 1) hw
set_option maxHeartbeats 4000000 in
set_option maxRecDepth 100000 in
theorem jX1_namesAt_5 {X : VX} {E : VE} {l : Launch} (h0 : Nat) (a0 : Nat → Nat)  (Q : Int32 → Md → Prop) (C : VC X cX1_namesAt 6 RX1 (rmL 1 0 0) E l) (hret : RetI X cX1_namesAt .int 0 0 (fun (U : Md) => [wX1 E h0 a0 U].flatten) (fun (r : Int32) (U : Md) => Q r U))  : ∀ (n : Nat), ∀ (u0 : Md) (y1 : Int32) (y2 : Int32) (y3 : Int32) (y4 : Int32), qX1_namesAt_5 Q n u0 y1 y2 y3 y4 → VV X 0 0 ([wX1 E h0 a0 u0].flatten) [(0, .ref h0), (1, .int y1), (2, .int y2), (3, .int y3), (4, .int y4)] 5 [] := by
  intro n
  induction n with
  | zero =>
    intro u0 y1 y2 y3 y4 hw
    exact hw.elim
  | succ n ih =>
    intro u0 y1 y2 y3 y4 hw
    unfold qX1_namesAt_5 at hw
    refine v_iload C dX1_namesAt_5 4 rfl ?_
    refine v_iload_n C dX1_namesAt_7 1 rfl ?_
    refine v_icmp_ge (tgt := 48) C dX1_namesAt_8 (by decide) (fun hc => ?_) (fun hc => ?_)
    · have hw := hw.1 hc
      refine v_iload_n C dX1_namesAt_48 3 rfl ?_
      exact hret _ _ _ _ y3 u0 dX1_namesAt_49 rfl hw (Nat.le_of_ble_eq_true rfl) (Nat.le_of_ble_eq_true rfl)
    · have hw := hw.2 hc
      refine v_iconst (v := 0) C dX1_namesAt_11 (by decide) ?_
      refine v_istore (lv' := [(5, .int 0), (0, .ref h0), (1, .int y1), (2, .int y2), (3, .int y3), (4, .int y4)]) C dX1_namesAt_12 (by decide) rfl ?_
      refine v_lv C (lv' := [(0, .ref h0), (1, .int y1), (2, .int y2), (3, .int y3), (4, .int y4), (5, .int 0)]) [1, 2, 3, 4, 5, 0] rfl ?_
      obtain ⟨n', hw⟩ := hw
      exact jX1_namesAt_14 h0 a0 Q C hret (qX1_namesAt_5 Q n) ih n' u0 y1 y2 y3 y4 0 hw
set_option maxHeartbeats 4000000 in
set_option maxRecDepth 100000 in
theorem kX1_namesAt {l : Launch} {E : VE} (h0 : Nat) (a0 : Nat → Nat) (u0 : Md) (x1 : Int32) (x2 : Int32) {Q : Int32 → Md → Prop} (hw : qX1_namesAt u0 x1 x2 Q) : MI l yX1_namesAt cX1_namesAt 6 .int 1 0 0 E [.ref h0, .int x1, .int x2] ([wX1 E h0 a0 u0].flatten) (fun (U : Md) => [wX1 E h0 a0 U].flatten) (fun (r : Int32) (U : Md) => Q r U) := by
  refine MI.of (own := RX1) (by decide) rfl (Nat.le_of_ble_eq_true rfl) ?_
  intro X C hini hret
  show VV X 0 0 ([wX1 E h0 a0 u0].flatten) [(0, .ref h0), (1, .int x1), (2, .int x2)] 0 []
  unfold qX1_namesAt at hw
  refine v_iconst (v := 0) C dX1_namesAt_0 (by decide) ?_
  refine v_istore_n (lv' := [(3, .int 0), (0, .ref h0), (1, .int x1), (2, .int x2)]) C dX1_namesAt_1 (by decide) rfl ?_
  refine v_iconst (v := 0) C dX1_namesAt_2 (by decide) ?_
  refine v_istore (lv' := [(4, .int 0), (3, .int 0), (0, .ref h0), (1, .int x1), (2, .int x2)]) C dX1_namesAt_3 (by decide) rfl ?_
  refine v_lv C (lv' := [(0, .ref h0), (1, .int x1), (2, .int x2), (3, .int 0), (4, .int 0)]) [2, 3, 4, 1, 0] rfl ?_
  obtain ⟨n', hw⟩ := hw
  exact jX1_namesAt_5 h0 a0 Q C hret n' u0 x1 x2 0 0 hw
set_option maxHeartbeats 4000000 in
set_option maxRecDepth 100000 in
theorem kX1_undoLast {l : Launch} {E : VE} (h0 : Nat) (a0 : Nat → Nat) (u0 : Md) (x1 : Int32) (x2 : Int32) (x3 : Int32) {Q : Int32 → Md → Prop} (hw : qX1_undoLast u0 x1 x2 x3 Q) : MI l yX1_undoLast cX1_undoLast 5 .boolean 1 0 0 E [.ref h0, .int x1, .int x2, .int x3] ([wX1 E h0 a0 u0].flatten) (fun (U : Md) => [wX1 E h0 a0 U].flatten) (fun (r : Int32) (U : Md) => (r = 0 ∨ r = 1) ∧ Q r U) := by
  refine MI.of (own := RX1) (by decide) rfl (Nat.le_of_ble_eq_true rfl) ?_
  intro X C hini hret
  show VV X 0 0 ([wX1 E h0 a0 u0].flatten) [(0, .ref h0), (1, .int x1), (2, .int x2), (3, .int x3)] 0 []
  unfold qX1_undoLast at hw
  refine v_aload_n C dX1_undoLast_0 0 rfl ?_
  refine v_iload_n C dX1_undoLast_1 1 rfl ?_
  refine v_iload_n C dX1_undoLast_2 2 rfl ?_
  refine v_iload_n C dX1_undoLast_3 3 rfl ?_
  refine v_callFi (st := []) (ci := 1) (qb := 0) C (kX1_settlingAt h0 a0 _ _ _ _ hw) mM_X1_56 mI_X1 mC_X1_settlingAt mN_X1_settlingAt mS_X1_settlingAt rfl rfl hd_X1_settlingAt ⟨Nat.le_of_ble_eq_true rfl, Nat.le_of_ble_eq_true rfl⟩ ⟨Nat.le_of_ble_eq_true rfl, Nat.le_of_ble_eq_true rfl⟩ rfl (Nat.le_of_ble_eq_true rfl) dX1_undoLast_4 (fun r4 v4_0 hw => ?_)
  refine v_istore (lv' := [(4, .int r4), (0, .ref h0), (1, .int x1), (2, .int x2), (3, .int x3)]) C dX1_undoLast_7 (by decide) rfl ?_
  refine v_iload C dX1_undoLast_9 0 rfl ?_
  refine v_iconst (v := (-1)) C dX1_undoLast_11 (by decide) ?_
  refine v_icmp_ne (tgt := 17) C dX1_undoLast_12 (by decide) (fun hc => ?_) (fun hc => ?_)
  · have hw := hw.1 hc
    refine v_aload_n C dX1_undoLast_17 1 rfl ?_
    refine v_get (ci := 1) C inT1 0 11 rfl rfl (by decide) mF_X1_40_X1_11 rfl dX1_undoLast_18 ?_
    refine v_iload C dX1_undoLast_21 0 rfl ?_
    refine v_iload_n C dX1_undoLast_23 4 rfl ?_
    obtain ⟨hi24, hw⟩ := hw
    obtain ⟨w24, e24⟩ : ∃ z : Md, z = tA v4_0 11 r4 x3 := ⟨_, rfl⟩
    have hw := hw w24 e24
    refine v_iast (ws' := [wX1 E h0 a0 w24].flatten) C 10 rfl hi24 (by rw [e24]; rfl) dX1_undoLast_24 ?_
    refine v_iconst (v := 1) C dX1_undoLast_25 (by decide) ?_
    exact hret _ _ _ _ 1 w24 dX1_undoLast_26 rfl ⟨Or.inr rfl, hw⟩ (Nat.le_of_ble_eq_true rfl) (Nat.le_of_ble_eq_true rfl)
  · have hw := hw.2 hc
    refine v_iconst (v := 0) C dX1_undoLast_15 (by decide) ?_
    exact hret _ _ _ _ 0 v4_0 dX1_undoLast_16 rfl ⟨Or.inl rfl, hw⟩ (Nat.le_of_ble_eq_true rfl) (Nat.le_of_ble_eq_true rfl)
set_option maxHeartbeats 4000000 in
set_option maxRecDepth 100000 in
theorem kX1_copyFrom {l : Launch} {E : VE} (h0 : Nat) (h1 : Nat) (a0 : Nat → Nat) (a1 : Nat → Nat) (u0 : Md) (u1 : Md) {Q : Md → Md → Prop} (hw : qX1_copyFrom u0 u1 Q) : MV l yX1_copyFrom cX1_copyFrom 2 1 0 0 E [.ref h0, .ref h1] ([wX1 E h0 a0 u0, wX1 E h1 a1 u1].flatten) (fun (U : Md × Md) => [wX1 E h0 a0 U.1, wX1 E h1 a1 U.2].flatten) (fun (U : Md × Md) => Q U.1 U.2) := by
  refine MV.of (own := RX1) (by decide) rfl (Nat.le_of_ble_eq_true rfl) ?_
  intro X C hini hret
  show VV X 0 0 ([wX1 E h0 a0 u0, wX1 E h1 a1 u1].flatten) [(0, .ref h0), (1, .ref h1)] 0 []
  unfold qX1_copyFrom at hw
  refine v_aload_n C dX1_copyFrom_0 0 rfl ?_
  refine v_aload_n C dX1_copyFrom_1 1 rfl ?_
  refine v_get (ci := 1) C inT1 11 0 rfl rfl (by decide) mF_X1_43_X1_0 rfl dX1_copyFrom_2 ?_
  obtain ⟨w5, e5⟩ : ∃ z : Md, z = sF u0 0 (gF u1 0) := ⟨_, rfl⟩
  have hw := hw w5 e5
  refine v_put (ci := 1) (ws' := [wX1 E h0 a0 w5, wX1 E h1 a1 u1].flatten) C tyX1 tyX1_ok nmX1 inT1 0 0 rfl rfl (by decide) mF_X1_43_X1_0 rfl rfl rfl rfl (Nat.le_of_ble_eq_true rfl) (by rw [e5]; rfl) dX1_copyFrom_5 ?_
  refine v_aload_n C dX1_copyFrom_8 1 rfl ?_
  refine v_get (ci := 1) C inT1 11 1 rfl rfl (by decide) mF_X1_11_X1_1 rfl dX1_copyFrom_9 ?_
  refine v_iconst (v := 0) C dX1_copyFrom_12 (by decide) ?_
  refine v_aload_n C dX1_copyFrom_13 0 rfl ?_
  refine v_get (ci := 1) C inT1 0 1 rfl rfl (by decide) mF_X1_11_X1_1 rfl dX1_copyFrom_14 ?_
  refine v_iconst (v := 0) C dX1_copyFrom_17 (by decide) ?_
  refine v_aload_n C dX1_copyFrom_18 0 rfl ?_
  refine v_get (ci := 1) C inT1 0 0 rfl rfl (by decide) mF_X1_43_X1_0 rfl dX1_copyFrom_19 ?_
  obtain ⟨hi22, hw⟩ := hw
  obtain ⟨w22, e22⟩ : ∃ z : Md, z = sA w5 1 (va_cpy (gA u1 1) (gA w5 1) (0 : Int32).toNatClampNeg (0 : Int32).toNatClampNeg (gF w5 0).toNatClampNeg) := ⟨_, rfl⟩
  have hw := hw w22 e22
  refine v_copyi (ws' := [wX1 E h0 a0 w22, wX1 E h1 a1 u1].flatten) C 12 1 rfl rfl mM_X1_60 hi22 ⟨Nat.le_of_ble_eq_true rfl, Nat.le_of_ble_eq_true rfl⟩ (by rw [e22]; rfl) dX1_copyFrom_22 ?_
  refine v_aload_n C dX1_copyFrom_25 1 rfl ?_
  refine v_get (ci := 1) C inT1 11 2 rfl rfl (by decide) mF_X1_15_X1_2 rfl dX1_copyFrom_26 ?_
  refine v_iconst (v := 0) C dX1_copyFrom_29 (by decide) ?_
  refine v_aload_n C dX1_copyFrom_30 0 rfl ?_
  refine v_get (ci := 1) C inT1 0 2 rfl rfl (by decide) mF_X1_15_X1_2 rfl dX1_copyFrom_31 ?_
  refine v_iconst (v := 0) C dX1_copyFrom_34 (by decide) ?_
  refine v_aload_n C dX1_copyFrom_35 0 rfl ?_
  refine v_get (ci := 1) C inT1 0 0 rfl rfl (by decide) mF_X1_43_X1_0 rfl dX1_copyFrom_36 ?_
  obtain ⟨hi39, hw⟩ := hw
  obtain ⟨w39, e39⟩ : ∃ z : Md, z = sA w22 2 (va_cpy (gA u1 2) (gA w22 2) (0 : Int32).toNatClampNeg (0 : Int32).toNatClampNeg (gF w22 0).toNatClampNeg) := ⟨_, rfl⟩
  have hw := hw w39 e39
  refine v_copyi (ws' := [wX1 E h0 a0 w39, wX1 E h1 a1 u1].flatten) C 13 2 rfl rfl mM_X1_60 hi39 ⟨Nat.le_of_ble_eq_true rfl, Nat.le_of_ble_eq_true rfl⟩ (by rw [e39]; rfl) dX1_copyFrom_39 ?_
  refine v_aload_n C dX1_copyFrom_42 1 rfl ?_
  refine v_get (ci := 1) C inT1 11 3 rfl rfl (by decide) mF_X1_18_X1_3 rfl dX1_copyFrom_43 ?_
  refine v_aload_n C dX1_copyFrom_46 0 rfl ?_
  refine v_get (ci := 1) C inT1 0 3 rfl rfl (by decide) mF_X1_18_X1_3 rfl dX1_copyFrom_47 ?_
  refine v_aload_n C dX1_copyFrom_50 0 rfl ?_
  refine v_get (ci := 1) C inT1 0 0 rfl rfl (by decide) mF_X1_43_X1_0 rfl dX1_copyFrom_51 ?_
  refine v_callSNv (st := []) (wr := ([0, 1, 2, 4, 5, 6, 7, 8, 9, 10, 11, 12, 13, 15, 16, 17, 18, 19, 20, 21] : List Nat).filterMap (fun i => ([wX1 E h0 a0 w39, wX1 E h1 a1 u1].flatten)[i]?)) C (kX11_copyFlags ((a1 3)) ((a0 3)) _ _ _ _ _ hw) (by decide +kernel) mI_X11 mC_X11_copyFlags mT_X11_copyFlags hd_X11_copyFlags ⟨Nat.le_of_ble_eq_true rfl, Nat.le_of_ble_eq_true rfl⟩ ⟨Nat.le_of_ble_eq_true rfl, Nat.le_of_ble_eq_true rfl⟩ [14, 3] [0, 1, 2, 4, 5, 6, 7, 8, 9, 10, 11, 12, 13, 15, 16, 17, 18, 19, 20, 21] rfl (by decide) rfl (by decide) (by decide) rfl (Nat.le_of_ble_eq_true rfl) dX1_copyFrom_54 (fun U54 hw => ?_)
  obtain ⟨v54_0, v54_1⟩ := U54
  refine v_ws (ws' := [wX1 E h0 a0 (sZ w39 3 v54_1), wX1 E h1 a1 (sZ u1 3 v54_0)].flatten) C [0, 1, 2, 21, 3, 4, 5, 6, 7, 8, 9, 10, 11, 12, 20, 13, 14, 15, 16, 17, 18, 19] (by decide) rfl ?_
  refine v_aload_n C dX1_copyFrom_57 1 rfl ?_
  refine v_get (ci := 1) C inT1 11 4 rfl rfl (by decide) mF_X1_22_X1_4 rfl dX1_copyFrom_58 ?_
  refine v_iconst (v := 0) C dX1_copyFrom_61 (by decide) ?_
  refine v_aload_n C dX1_copyFrom_62 0 rfl ?_
  refine v_get (ci := 1) C inT1 0 4 rfl rfl (by decide) mF_X1_22_X1_4 rfl dX1_copyFrom_63 ?_
  refine v_iconst (v := 0) C dX1_copyFrom_66 (by decide) ?_
  refine v_aload_n C dX1_copyFrom_67 0 rfl ?_
  refine v_get (v := .int (gF w39 0)) (ci := 1) C inT1 0 0 rfl rfl (by decide) mF_X1_43_X1_0 rfl dX1_copyFrom_68 ?_
  obtain ⟨hi71, hw⟩ := hw
  obtain ⟨w71, e71⟩ : ∃ z : Md, z = sA (sZ w39 3 v54_1) 4 (va_cpy (gA u1 4) (gA w39 4) (0 : Int32).toNatClampNeg (0 : Int32).toNatClampNeg (gF w39 0).toNatClampNeg) := ⟨_, rfl⟩
  have hw := hw w71 e71
  refine v_copyi (ws' := [wX1 E h0 a0 w71, wX1 E h1 a1 (sZ u1 3 v54_0)].flatten) C 15 4 rfl rfl mM_X1_60 hi71 ⟨Nat.le_of_ble_eq_true rfl, Nat.le_of_ble_eq_true rfl⟩ (by rw [e71]; rfl) dX1_copyFrom_71 ?_
  refine v_aload_n C dX1_copyFrom_74 1 rfl ?_
  refine v_get (ci := 1) C inT1 11 5 rfl rfl (by decide) mF_X1_25_X1_5 rfl dX1_copyFrom_75 ?_
  refine v_iconst (v := 0) C dX1_copyFrom_78 (by decide) ?_
  refine v_aload_n C dX1_copyFrom_79 0 rfl ?_
  refine v_get (ci := 1) C inT1 0 5 rfl rfl (by decide) mF_X1_25_X1_5 rfl dX1_copyFrom_80 ?_
  refine v_iconst (v := 0) C dX1_copyFrom_83 (by decide) ?_
  refine v_aload_n C dX1_copyFrom_84 0 rfl ?_
  refine v_get (ci := 1) C inT1 0 0 rfl rfl (by decide) mF_X1_43_X1_0 rfl dX1_copyFrom_85 ?_
  obtain ⟨hi88, hw⟩ := hw
  obtain ⟨w88, e88⟩ : ∃ z : Md, z = sA w71 5 (va_cpy (gA u1 5) (gA w71 5) (0 : Int32).toNatClampNeg (0 : Int32).toNatClampNeg (gF w71 0).toNatClampNeg) := ⟨_, rfl⟩
  have hw := hw w88 e88
  refine v_copyi (ws' := [wX1 E h0 a0 w88, wX1 E h1 a1 (sZ u1 3 v54_0)].flatten) C 16 5 rfl rfl mM_X1_60 hi88 ⟨Nat.le_of_ble_eq_true rfl, Nat.le_of_ble_eq_true rfl⟩ (by rw [e88]; rfl) dX1_copyFrom_88 ?_
  refine v_aload_n C dX1_copyFrom_91 0 rfl ?_
  refine v_aload_n C dX1_copyFrom_92 1 rfl ?_
  refine v_get (v := .int (gF u1 6)) (ci := 1) C inT1 11 6 rfl rfl (by decide) mF_X1_53_X1_6 rfl dX1_copyFrom_93 ?_
  obtain ⟨w96, e96⟩ : ∃ z : Md, z = sF w88 6 (gF u1 6) := ⟨_, rfl⟩
  have hw := hw w96 e96
  refine v_put (ci := 1) (ws' := [wX1 E h0 a0 w96, wX1 E h1 a1 (sZ u1 3 v54_0)].flatten) C tyX1 tyX1_ok nmX1 inT1 0 6 rfl rfl (by decide) mF_X1_53_X1_6 rfl rfl rfl rfl (Nat.le_of_ble_eq_true rfl) (by rw [e96]; rfl) dX1_copyFrom_96 ?_
  refine v_aload_n C dX1_copyFrom_99 1 rfl ?_
  refine v_get (ci := 1) C inT1 11 7 rfl rfl (by decide) mF_X1_28_X1_7 rfl dX1_copyFrom_100 ?_
  refine v_iconst (v := 0) C dX1_copyFrom_103 (by decide) ?_
  refine v_aload_n C dX1_copyFrom_104 0 rfl ?_
  refine v_get (ci := 1) C inT1 0 7 rfl rfl (by decide) mF_X1_28_X1_7 rfl dX1_copyFrom_105 ?_
  refine v_iconst (v := 0) C dX1_copyFrom_108 (by decide) ?_
  refine v_aload_n C dX1_copyFrom_109 0 rfl ?_
  refine v_get (ci := 1) C inT1 0 6 rfl rfl (by decide) mF_X1_53_X1_6 rfl dX1_copyFrom_110 ?_
  obtain ⟨hi113, hw⟩ := hw
  obtain ⟨w113, e113⟩ : ∃ z : Md, z = sA w96 7 (va_cpy (gA u1 7) (gA w96 7) (0 : Int32).toNatClampNeg (0 : Int32).toNatClampNeg (gF w96 6).toNatClampNeg) := ⟨_, rfl⟩
  have hw := hw w113 e113
  refine v_copyi (ws' := [wX1 E h0 a0 w113, wX1 E h1 a1 (sZ u1 3 v54_0)].flatten) C 17 6 rfl rfl mM_X1_60 hi113 ⟨Nat.le_of_ble_eq_true rfl, Nat.le_of_ble_eq_true rfl⟩ (by rw [e113]; rfl) dX1_copyFrom_113 ?_
  refine v_aload_n C dX1_copyFrom_116 1 rfl ?_
  refine v_get (ci := 1) C inT1 11 8 rfl rfl (by decide) mF_X1_31_X1_8 rfl dX1_copyFrom_117 ?_
  refine v_iconst (v := 0) C dX1_copyFrom_120 (by decide) ?_
  refine v_aload_n C dX1_copyFrom_121 0 rfl ?_
  refine v_get (ci := 1) C inT1 0 8 rfl rfl (by decide) mF_X1_31_X1_8 rfl dX1_copyFrom_122 ?_
  refine v_iconst (v := 0) C dX1_copyFrom_125 (by decide) ?_
  refine v_aload_n C dX1_copyFrom_126 0 rfl ?_
  refine v_get (ci := 1) C inT1 0 6 rfl rfl (by decide) mF_X1_53_X1_6 rfl dX1_copyFrom_127 ?_
  obtain ⟨hi130, hw⟩ := hw
  obtain ⟨w130, e130⟩ : ∃ z : Md, z = sA w113 8 (va_cpy (gA u1 8) (gA w113 8) (0 : Int32).toNatClampNeg (0 : Int32).toNatClampNeg (gF w113 6).toNatClampNeg) := ⟨_, rfl⟩
  have hw := hw w130 e130
  refine v_copyi (ws' := [wX1 E h0 a0 w130, wX1 E h1 a1 (sZ u1 3 v54_0)].flatten) C 18 7 rfl rfl mM_X1_60 hi130 ⟨Nat.le_of_ble_eq_true rfl, Nat.le_of_ble_eq_true rfl⟩ (by rw [e130]; rfl) dX1_copyFrom_130 ?_
  refine v_aload_n C dX1_copyFrom_133 1 rfl ?_
  refine v_get (ci := 1) C inT1 11 9 rfl rfl (by decide) mF_X1_34_X1_9 rfl dX1_copyFrom_134 ?_
  refine v_iconst (v := 0) C dX1_copyFrom_137 (by decide) ?_
  refine v_aload_n C dX1_copyFrom_138 0 rfl ?_
  refine v_get (ci := 1) C inT1 0 9 rfl rfl (by decide) mF_X1_34_X1_9 rfl dX1_copyFrom_139 ?_
  refine v_iconst (v := 0) C dX1_copyFrom_142 (by decide) ?_
  refine v_aload_n C dX1_copyFrom_143 0 rfl ?_
  refine v_get (ci := 1) C inT1 0 6 rfl rfl (by decide) mF_X1_53_X1_6 rfl dX1_copyFrom_144 ?_
  obtain ⟨hi147, hw⟩ := hw
  obtain ⟨w147, e147⟩ : ∃ z : Md, z = sA w130 9 (va_cpy (gA u1 9) (gA w130 9) (0 : Int32).toNatClampNeg (0 : Int32).toNatClampNeg (gF w130 6).toNatClampNeg) := ⟨_, rfl⟩
  have hw := hw w147 e147
  refine v_copyi (ws' := [wX1 E h0 a0 w147, wX1 E h1 a1 (sZ u1 3 v54_0)].flatten) C 19 8 rfl rfl mM_X1_60 hi147 ⟨Nat.le_of_ble_eq_true rfl, Nat.le_of_ble_eq_true rfl⟩ (by rw [e147]; rfl) dX1_copyFrom_147 ?_
  refine v_aload_n C dX1_copyFrom_150 1 rfl ?_
  refine v_get (ci := 1) C inT1 11 10 rfl rfl (by decide) mF_X1_37_X1_10 rfl dX1_copyFrom_151 ?_
  refine v_iconst (v := 0) C dX1_copyFrom_154 (by decide) ?_
  refine v_aload_n C dX1_copyFrom_155 0 rfl ?_
  refine v_get (ci := 1) C inT1 0 10 rfl rfl (by decide) mF_X1_37_X1_10 rfl dX1_copyFrom_156 ?_
  refine v_iconst (v := 0) C dX1_copyFrom_159 (by decide) ?_
  refine v_aload_n C dX1_copyFrom_160 0 rfl ?_
  refine v_get (ci := 1) C inT1 0 6 rfl rfl (by decide) mF_X1_53_X1_6 rfl dX1_copyFrom_161 ?_
  obtain ⟨hi164, hw⟩ := hw
  obtain ⟨w164, e164⟩ : ∃ z : Md, z = sA w147 10 (va_cpy (gA u1 10) (gA w147 10) (0 : Int32).toNatClampNeg (0 : Int32).toNatClampNeg (gF w147 6).toNatClampNeg) := ⟨_, rfl⟩
  have hw := hw w164 e164
  refine v_copyi (ws' := [wX1 E h0 a0 w164, wX1 E h1 a1 (sZ u1 3 v54_0)].flatten) C 20 9 rfl rfl mM_X1_60 hi164 ⟨Nat.le_of_ble_eq_true rfl, Nat.le_of_ble_eq_true rfl⟩ (by rw [e164]; rfl) dX1_copyFrom_164 ?_
  refine v_aload_n C dX1_copyFrom_167 1 rfl ?_
  refine v_get (ci := 1) C inT1 11 11 rfl rfl (by decide) mF_X1_40_X1_11 rfl dX1_copyFrom_168 ?_
  refine v_iconst (v := 0) C dX1_copyFrom_171 (by decide) ?_
  refine v_aload_n C dX1_copyFrom_172 0 rfl ?_
  refine v_get (ci := 1) C inT1 0 11 rfl rfl (by decide) mF_X1_40_X1_11 rfl dX1_copyFrom_173 ?_
  refine v_iconst (v := 0) C dX1_copyFrom_176 (by decide) ?_
  refine v_aload_n C dX1_copyFrom_177 0 rfl ?_
  refine v_get (ci := 1) C inT1 0 6 rfl rfl (by decide) mF_X1_53_X1_6 rfl dX1_copyFrom_178 ?_
  obtain ⟨hi181, hw⟩ := hw
  obtain ⟨w181, e181⟩ : ∃ z : Md, z = sA w164 11 (va_cpy (gA u1 11) (gA w164 11) (0 : Int32).toNatClampNeg (0 : Int32).toNatClampNeg (gF w164 6).toNatClampNeg) := ⟨_, rfl⟩
  have hw := hw w181 e181
  refine v_copyi (ws' := [wX1 E h0 a0 w181, wX1 E h1 a1 (sZ u1 3 v54_0)].flatten) C 21 10 rfl rfl mM_X1_60 hi181 ⟨Nat.le_of_ble_eq_true rfl, Nat.le_of_ble_eq_true rfl⟩ (by rw [e181]; rfl) dX1_copyFrom_181 ?_
  exact hret _ _ _ _ (w181, sZ u1 3 v54_0) dX1_copyFrom_184 hw (Nat.le_of_ble_eq_true rfl) (Nat.le_of_ble_eq_true rfl)
set_option maxHeartbeats 4000000 in
set_option maxRecDepth 100000 in
theorem kX2_has {l : Launch} {E : VE} (h0 : Nat) (a0 : Nat → Nat) (u0 : Md) (x1 : Int32) {Q : Int32 → Md → Prop} (hw : qX2_has u0 x1 Q) : MI l yX2_has cX2_has 2 .boolean 0 0 0 E [.ref h0, .int x1] ([wX2 E h0 a0 u0].flatten) (fun (U : Md) => [wX2 E h0 a0 U].flatten) (fun (r : Int32) (U : Md) => (r = 0 ∨ r = 1) ∧ Q r U) := by
  refine MI.of (own := RX2) (by decide) rfl (Nat.le_of_ble_eq_true rfl) ?_
  intro X C hini hret
  show VV X 0 0 ([wX2 E h0 a0 u0].flatten) [(0, .ref h0), (1, .int x1)] 0 []
  unfold qX2_has at hw
  refine v_iload_n C dX2_has_0 1 rfl ?_
  refine v_if_lt (tgt := 16) C dX2_has_1 (by decide) (fun hc => ?_) (fun hc => ?_)
  · have hw := hw.1 hc
    refine v_iconst (v := 0) C dX2_has_16 (by decide) ?_
    exact hret _ _ _ _ 0 u0 dX2_has_17 rfl ⟨Or.inl rfl, hw⟩ (Nat.le_of_ble_eq_true rfl) (Nat.le_of_ble_eq_true rfl)
  · have hw := hw.2 hc
    refine v_iload_n C dX2_has_4 1 rfl ?_
    refine v_aload_n C dX2_has_5 0 rfl ?_
    refine v_get (ci := 2) C inT2 0 0 rfl rfl (by decide) mF_X2_36_X2_0 rfl dX2_has_6 ?_
    refine v_icmp_ge (tgt := 16) C dX2_has_9 (by decide) (fun hc => ?_) (fun hc => ?_)
    · have hw := hw.1 hc
      refine v_iconst (v := 0) C dX2_has_16 (by decide) ?_
      exact hret _ _ _ _ 0 u0 dX2_has_17 rfl ⟨Or.inl rfl, hw⟩ (Nat.le_of_ble_eq_true rfl) (Nat.le_of_ble_eq_true rfl)
    · have hw := hw.2 hc
      refine v_iconst (v := 1) C dX2_has_12 (by decide) ?_
      refine v_goto (tgt := 17) C dX2_has_13 (by decide) ?_
      exact hret _ _ _ _ 1 u0 dX2_has_17 rfl ⟨Or.inr rfl, hw⟩ (Nat.le_of_ble_eq_true rfl) (Nat.le_of_ble_eq_true rfl)
set_option maxHeartbeats 4000000 in
set_option maxRecDepth 100000 in
theorem kX2_addPlace {l : Launch} {E : VE} (h0 : Nat) (a0 : Nat → Nat) (u0 : Md) (x1 : Int32) (x2 : Int32) {Q : Int32 → Md → Prop} (hw : qX2_addPlace u0 x1 x2 Q) : MI l yX2_addPlace cX2_addPlace 3 .int 0 0 0 E [.ref h0, .int x1, .int x2] ([wX2 E h0 a0 u0].flatten) (fun (U : Md) => [wX2 E h0 a0 U].flatten) (fun (r : Int32) (U : Md) => Q r U) := by
  refine MI.of (own := RX2) (by decide) rfl (Nat.le_of_ble_eq_true rfl) ?_
  intro X C hini hret
  show VV X 0 0 ([wX2 E h0 a0 u0].flatten) [(0, .ref h0), (1, .int x1), (2, .int x2)] 0 []
  unfold qX2_addPlace at hw
  refine v_aload_n C dX2_addPlace_0 0 rfl ?_
  refine v_get (ci := 2) C inT2 0 0 rfl rfl (by decide) mF_X2_36_X2_0 rfl dX2_addPlace_1 ?_
  refine v_bipush (v := 40) C dX2_addPlace_4 (by decide) ?_
  refine v_icmp_lt (tgt := 12) C dX2_addPlace_6 (by decide) (fun hc => ?_) (fun hc => ?_)
  · have hw := hw.1 hc
    refine v_aload_n C dX2_addPlace_12 0 rfl ?_
    refine v_get (ci := 2) C inT2 0 1 rfl rfl (by decide) mF_X2_9_X2_1 rfl dX2_addPlace_13 ?_
    refine v_aload_n C dX2_addPlace_16 0 rfl ?_
    refine v_get (ci := 2) C inT2 0 0 rfl rfl (by decide) mF_X2_36_X2_0 rfl dX2_addPlace_17 ?_
    refine v_iload_n C dX2_addPlace_20 1 rfl ?_
    obtain ⟨hi21, hw⟩ := hw
    obtain ⟨w21, e21⟩ : ∃ z : Md, z = tA u0 1 (gF u0 0) x1 := ⟨_, rfl⟩
    have hw := hw w21 e21
    refine v_iast (ws' := [wX2 E h0 a0 w21].flatten) C 1 rfl hi21 (by rw [e21]; rfl) dX2_addPlace_21 ?_
    refine v_aload_n C dX2_addPlace_22 0 rfl ?_
    refine v_get (ci := 2) C inT2 0 2 rfl rfl (by decide) mF_X2_15_X2_2 rfl dX2_addPlace_23 ?_
    refine v_aload_n C dX2_addPlace_26 0 rfl ?_
    refine v_get (ci := 2) C inT2 0 0 rfl rfl (by decide) mF_X2_36_X2_0 rfl dX2_addPlace_27 ?_
    refine v_iload_n C dX2_addPlace_30 2 rfl ?_
    obtain ⟨hi31, hw⟩ := hw
    obtain ⟨w31, e31⟩ : ∃ z : Md, z = tA w21 2 (gF w21 0) x2 := ⟨_, rfl⟩
    have hw := hw w31 e31
    refine v_iast (ws' := [wX2 E h0 a0 w31].flatten) C 2 rfl hi31 (by rw [e31]; rfl) dX2_addPlace_31 ?_
    refine v_aload_n C dX2_addPlace_32 0 rfl ?_
    refine v_dup C dX2_addPlace_33 rfl ?_
    refine v_get (ci := 2) C inT2 0 0 rfl rfl (by decide) mF_X2_36_X2_0 rfl dX2_addPlace_34 ?_
    refine v_iconst (v := 1) C dX2_addPlace_37 (by decide) ?_
    refine v_iadd C dX2_addPlace_38 ?_
    obtain ⟨w39, e39⟩ : ∃ z : Md, z = sF w31 0 ((gF w31 0) + 1) := ⟨_, rfl⟩
    have hw := hw w39 e39
    refine v_put (ci := 2) (ws' := [wX2 E h0 a0 w39].flatten) C tyX2 tyX2_ok nmX2 inT2 0 0 rfl rfl (by decide) mF_X2_36_X2_0 rfl rfl rfl rfl (Nat.le_of_ble_eq_true rfl) (by rw [e39]; rfl) dX2_addPlace_39 ?_
    refine v_aload_n C dX2_addPlace_42 0 rfl ?_
    refine v_get (ci := 2) C inT2 0 0 rfl rfl (by decide) mF_X2_36_X2_0 rfl dX2_addPlace_43 ?_
    refine v_iconst (v := 1) C dX2_addPlace_46 (by decide) ?_
    refine v_isub C dX2_addPlace_47 ?_
    exact hret _ _ _ _ ((gF w39 0) - 1) w39 dX2_addPlace_48 rfl hw (Nat.le_of_ble_eq_true rfl) (Nat.le_of_ble_eq_true rfl)
  · have hw := hw.2 hc
    refine v_bipush (v := (-3)) C dX2_addPlace_9 (by decide) ?_
    exact hret _ _ _ _ ((-3)) u0 dX2_addPlace_11 rfl hw (Nat.le_of_ble_eq_true rfl) (Nat.le_of_ble_eq_true rfl)
set_option maxHeartbeats 4000000 in
set_option maxRecDepth 100000 in
theorem jX2_tellPart_51 {X : VX} {E : VE} {l : Launch} (h0 : Nat) (a0 : Nat → Nat)  (Q : Int32 → Md → Prop) (C : VC X cX2_tellPart 6 RX2 (rmL 1 0 0) E l) (hret : RetI X cX2_tellPart .boolean 0 0 (fun (U : Md) => [wX2 E h0 a0 U].flatten) (fun (r : Int32) (U : Md) => (r = 0 ∨ r = 1) ∧ Q r U))  : ∀ (u0 : Md) (y1 : Int32) (y2 : Int32) (y3 : Int32) (y4 : Int32), qX2_tellPart_51 Q u0 y1 y2 y3 y4 → VV X 0 0 ([wX2 E h0 a0 u0].flatten) [(0, .ref h0), (1, .int y1), (2, .int y2), (3, .int y3), (4, .int y4)] 51 [] := by
  intro u0 y1 y2 y3 y4 hw
  unfold qX2_tellPart_51 at hw
  refine v_iload C dX2_tellPart_51 4 rfl ?_
  refine v_sipush (v := 520) C dX2_tellPart_53 (by decide) ?_
  refine v_icmp_lt (tgt := 61) C dX2_tellPart_56 (by decide) (fun hc => ?_) (fun hc => ?_)
  · have hw := hw.1 hc
    refine v_aload_n C dX2_tellPart_61 0 rfl ?_
    refine v_get (ci := 2) C inT2 0 4 rfl rfl (by decide) mF_X2_18_X2_4 rfl dX2_tellPart_62 ?_
    refine v_iload C dX2_tellPart_65 4 rfl ?_
    refine v_iload_n C dX2_tellPart_67 1 rfl ?_
    obtain ⟨hi68, hw⟩ := hw
    obtain ⟨w68, e68⟩ : ∃ z : Md, z = tA u0 4 y4 y1 := ⟨_, rfl⟩
    have hw := hw w68 e68
    refine v_iast (ws' := [wX2 E h0 a0 w68].flatten) C 3 rfl hi68 (by rw [e68]; rfl) dX2_tellPart_68 ?_
    refine v_aload_n C dX2_tellPart_69 0 rfl ?_
    refine v_get (ci := 2) C inT2 0 5 rfl rfl (by decide) mF_X2_21_X2_5 rfl dX2_tellPart_70 ?_
    refine v_iload C dX2_tellPart_73 4 rfl ?_
    refine v_iload_n C dX2_tellPart_75 2 rfl ?_
    obtain ⟨hi76, hw⟩ := hw
    obtain ⟨w76, e76⟩ : ∃ z : Md, z = tA w68 5 y4 y2 := ⟨_, rfl⟩
    have hw := hw w76 e76
    refine v_iast (ws' := [wX2 E h0 a0 w76].flatten) C 4 rfl hi76 (by rw [e76]; rfl) dX2_tellPart_76 ?_
    refine v_aload_n C dX2_tellPart_77 0 rfl ?_
    refine v_get (ci := 2) C inT2 0 6 rfl rfl (by decide) mF_X2_24_X2_6 rfl dX2_tellPart_78 ?_
    refine v_iload C dX2_tellPart_81 4 rfl ?_
    refine v_iload_n C dX2_tellPart_83 3 rfl ?_
    obtain ⟨hi84, hw⟩ := hw
    obtain ⟨w84, e84⟩ : ∃ z : Md, z = tA w76 6 y4 y3 := ⟨_, rfl⟩
    have hw := hw w84 e84
    refine v_iast (ws' := [wX2 E h0 a0 w84].flatten) C 5 rfl hi84 (by rw [e84]; rfl) dX2_tellPart_84 ?_
    refine v_aload_n C dX2_tellPart_85 0 rfl ?_
    refine v_aload_n C dX2_tellPart_86 0 rfl ?_
    refine v_get (ci := 2) C inT2 0 3 rfl rfl (by decide) mF_X2_40_X2_3 rfl dX2_tellPart_87 ?_
    refine v_iload C dX2_tellPart_90 4 rfl ?_
    refine v_iconst (v := 1) C dX2_tellPart_92 (by decide) ?_
    refine v_iadd C dX2_tellPart_93 ?_
    refine v_imax C mM_X2_43 ⟨Nat.le_of_ble_eq_true rfl, Nat.le_of_ble_eq_true rfl, Nat.le_of_ble_eq_true rfl, Nat.le_of_ble_eq_true rfl⟩ dX2_tellPart_94 ?_
    obtain ⟨w97, e97⟩ : ∃ z : Md, z = sF w84 3 (imax (gF w84 3) (y4 + 1)) := ⟨_, rfl⟩
    have hw := hw w97 e97
    refine v_put (ci := 2) (ws' := [wX2 E h0 a0 w97].flatten) C tyX2 tyX2_ok nmX2 inT2 0 3 rfl rfl (by decide) mF_X2_40_X2_3 rfl rfl rfl rfl (Nat.le_of_ble_eq_true rfl) (by rw [e97]; rfl) dX2_tellPart_97 ?_
    refine v_iconst (v := 1) C dX2_tellPart_100 (by decide) ?_
    exact hret _ _ _ _ 1 w97 dX2_tellPart_101 rfl ⟨Or.inr rfl, hw⟩ (Nat.le_of_ble_eq_true rfl) (Nat.le_of_ble_eq_true rfl)
  · have hw := hw.2 hc
    refine v_iconst (v := 0) C dX2_tellPart_59 (by decide) ?_
    exact hret _ _ _ _ 0 u0 dX2_tellPart_60 rfl ⟨Or.inl rfl, hw⟩ (Nat.le_of_ble_eq_true rfl) (Nat.le_of_ble_eq_true rfl)
set_option maxHeartbeats 4000000 in
set_option maxRecDepth 100000 in
theorem jX2_tellPart_14 {X : VX} {E : VE} {l : Launch} (h0 : Nat) (a0 : Nat → Nat)  (Q : Int32 → Md → Prop) (C : VC X cX2_tellPart 6 RX2 (rmL 1 0 0) E l) (hret : RetI X cX2_tellPart .boolean 0 0 (fun (U : Md) => [wX2 E h0 a0 U].flatten) (fun (r : Int32) (U : Md) => (r = 0 ∨ r = 1) ∧ Q r U))  : ∀ (n : Nat), ∀ (u0 : Md) (y1 : Int32) (y2 : Int32) (y3 : Int32) (y4 : Int32) (y5 : Int32), qX2_tellPart_14 Q n u0 y1 y2 y3 y4 y5 → VV X 0 0 ([wX2 E h0 a0 u0].flatten) [(0, .ref h0), (1, .int y1), (2, .int y2), (3, .int y3), (4, .int y4), (5, .int y5)] 14 [] := by
  intro n
  induction n with
  | zero =>
    intro u0 y1 y2 y3 y4 y5 hw
    exact hw.elim
  | succ n ih =>
    intro u0 y1 y2 y3 y4 y5 hw
    unfold qX2_tellPart_14 at hw
    refine v_iload C dX2_tellPart_14 5 rfl ?_
    refine v_if_lt (tgt := 51) C dX2_tellPart_16 (by decide) (fun hc => ?_) (fun hc => ?_)
    · have hw := hw.1 hc
      refine v_lv C (lv' := [(0, .ref h0), (1, .int y1), (2, .int y2), (3, .int y3), (4, .int y4)]) [0, 1, 2, 3, 4] rfl ?_
      exact jX2_tellPart_51 h0 a0 Q C hret u0 y1 y2 y3 y4 hw
    · have hw := hw.2 hc
      refine v_aload_n C dX2_tellPart_19 0 rfl ?_
      refine v_get (ci := 2) C inT2 0 6 rfl rfl (by decide) mF_X2_24_X2_6 rfl dX2_tellPart_20 ?_
      refine v_iload C dX2_tellPart_23 5 rfl ?_
      obtain ⟨hi25, hw⟩ := hw
      refine v_iald C 5 rfl hi25 dX2_tellPart_25 ?_
      refine v_iload_n C dX2_tellPart_26 3 rfl ?_
      refine v_icmp_ne (tgt := 51) C dX2_tellPart_27 (by decide) (fun hc => ?_) (fun hc => ?_)
      · have hw := hw.1 hc
        refine v_lv C (lv' := [(0, .ref h0), (1, .int y1), (2, .int y2), (3, .int y3), (4, .int y4)]) [0, 1, 2, 3, 4] rfl ?_
        exact jX2_tellPart_51 h0 a0 Q C hret u0 y1 y2 y3 y4 hw
      · have hw := hw.2 hc
        refine v_aload_n C dX2_tellPart_30 0 rfl ?_
        refine v_get (ci := 2) C inT2 0 4 rfl rfl (by decide) mF_X2_18_X2_4 rfl dX2_tellPart_31 ?_
        refine v_iload C dX2_tellPart_34 5 rfl ?_
        obtain ⟨hi36, hw⟩ := hw
        refine v_iald C 3 rfl hi36 dX2_tellPart_36 ?_
        refine v_iload_n C dX2_tellPart_37 1 rfl ?_
        refine v_icmp_ne (tgt := 45) C dX2_tellPart_38 (by decide) (fun hc => ?_) (fun hc => ?_)
        · have hw := hw.1 hc
          refine v_iinc (lv' := [(5, .int (y5 + Int32.ofInt (-1))), (0, .ref h0), (1, .int y1), (2, .int y2), (3, .int y3), (4, .int y4)]) C dX2_tellPart_45 5 rfl (by decide) rfl ?_
          refine v_goto (tgt := 14) C dX2_tellPart_48 (by decide) ?_
          refine v_lv C (lv' := [(0, .ref h0), (1, .int y1), (2, .int y2), (3, .int y3), (4, .int y4), (5, .int (y5 + Int32.ofInt (-1)))]) [1, 2, 3, 4, 5, 0] rfl ?_
          exact ih u0 y1 y2 y3 y4 (y5 + Int32.ofInt (-1)) hw
        · have hw := hw.2 hc
          refine v_iload C dX2_tellPart_41 5 rfl ?_
          refine v_istore (lv' := [(4, .int y5), (0, .ref h0), (1, .int y1), (2, .int y2), (3, .int y3), (5, .int y5)]) C dX2_tellPart_43 (by decide) rfl ?_
          refine v_iinc (lv' := [(5, .int (y5 + Int32.ofInt (-1))), (4, .int y5), (0, .ref h0), (1, .int y1), (2, .int y2), (3, .int y3)]) C dX2_tellPart_45 5 rfl (by decide) rfl ?_
          refine v_goto (tgt := 14) C dX2_tellPart_48 (by decide) ?_
          refine v_lv C (lv' := [(0, .ref h0), (1, .int y1), (2, .int y2), (3, .int y3), (4, .int y5), (5, .int (y5 + Int32.ofInt (-1)))]) [2, 3, 4, 5, 1, 0] rfl ?_
          exact ih u0 y1 y2 y3 y5 (y5 + Int32.ofInt (-1)) hw
set_option maxHeartbeats 4000000 in
set_option maxRecDepth 100000 in
theorem kX2_tellPart {l : Launch} {E : VE} (h0 : Nat) (a0 : Nat → Nat) (u0 : Md) (x1 : Int32) (x2 : Int32) (x3 : Int32) {Q : Int32 → Md → Prop} (hw : qX2_tellPart u0 x1 x2 x3 Q) : MI l yX2_tellPart cX2_tellPart 6 .boolean 1 0 0 E [.ref h0, .int x1, .int x2, .int x3] ([wX2 E h0 a0 u0].flatten) (fun (U : Md) => [wX2 E h0 a0 U].flatten) (fun (r : Int32) (U : Md) => (r = 0 ∨ r = 1) ∧ Q r U) := by
  refine MI.of (own := RX2) (by decide) rfl (Nat.le_of_ble_eq_true rfl) ?_
  intro X C hini hret
  show VV X 0 0 ([wX2 E h0 a0 u0].flatten) [(0, .ref h0), (1, .int x1), (2, .int x2), (3, .int x3)] 0 []
  unfold qX2_tellPart at hw
  refine v_aload_n C dX2_tellPart_0 0 rfl ?_
  refine v_get (ci := 2) C inT2 0 3 rfl rfl (by decide) mF_X2_40_X2_3 rfl dX2_tellPart_1 ?_
  refine v_istore (lv' := [(4, .int (gF u0 3)), (0, .ref h0), (1, .int x1), (2, .int x2), (3, .int x3)]) C dX2_tellPart_4 (by decide) rfl ?_
  refine v_aload_n C dX2_tellPart_6 1 rfl ?_
  refine v_get (ci := 2) C inT2 0 3 rfl rfl (by decide) mF_X2_40_X2_3 rfl dX2_tellPart_7 ?_
  refine v_iconst (v := 1) C dX2_tellPart_10 (by decide) ?_
  refine v_isub C dX2_tellPart_11 ?_
  refine v_istore (lv' := [(5, .int ((gF u0 3) - 1)), (4, .int (gF u0 3)), (0, .ref h0), (1, .int x1), (2, .int x2), (3, .int x3)]) C dX2_tellPart_12 (by decide) rfl ?_
  refine v_lv C (lv' := [(0, .ref h0), (1, .int x1), (2, .int x2), (3, .int x3), (4, .int (gF u0 3)), (5, .int ((gF u0 3) - 1))]) [2, 3, 4, 5, 1, 0] rfl ?_
  obtain ⟨n', hw⟩ := hw
  exact jX2_tellPart_14 h0 a0 Q C hret n' u0 x1 x2 x3 (gF u0 3) ((gF u0 3) - 1) hw
set_option maxHeartbeats 4000000 in
set_option maxRecDepth 100000 in
theorem jX2_tellCount_60 {X : VX} {E : VE} {l : Launch} (h0 : Nat) (a0 : Nat → Nat)  (Q : Int32 → Md → Prop) (C : VC X cX2_tellCount 8 RX2 (rmL 1 0 0) E l) (hret : RetI X cX2_tellCount .boolean 0 0 (fun (U : Md) => [wX2 E h0 a0 U].flatten) (fun (r : Int32) (U : Md) => (r = 0 ∨ r = 1) ∧ Q r U))  : ∀ (u0 : Md) (y3 : Int32) (y4 : Int32) (y5 : Int32) (y6 : Int32), qX2_tellCount_60 Q u0 y3 y4 y5 y6 → VV X 0 0 ([wX2 E h0 a0 u0].flatten) [(0, .ref h0), (3, .int y3), (4, .int y4), (5, .int y5), (6, .int y6)] 60 [] := by
  intro u0 y3 y4 y5 y6 hw
  unfold qX2_tellCount_60 at hw
  refine v_iload C dX2_tellCount_60 4 rfl ?_
  refine v_sipush (v := 200) C dX2_tellCount_62 (by decide) ?_
  refine v_icmp_lt (tgt := 70) C dX2_tellCount_65 (by decide) (fun hc => ?_) (fun hc => ?_)
  · have hw := hw.1 hc
    refine v_aload_n C dX2_tellCount_70 0 rfl ?_
    refine v_get (ci := 2) C inT2 0 8 rfl rfl (by decide) mF_X2_27_X2_8 rfl dX2_tellCount_71 ?_
    refine v_iload C dX2_tellCount_74 4 rfl ?_
    refine v_iload C dX2_tellCount_76 3 rfl ?_
    obtain ⟨hi78, hw⟩ := hw
    obtain ⟨w78, e78⟩ : ∃ z : Md, z = tA u0 8 y6 y5 := ⟨_, rfl⟩
    have hw := hw w78 e78
    refine v_iast (ws' := [wX2 E h0 a0 w78].flatten) C 6 rfl hi78 (by rw [e78]; rfl) dX2_tellCount_78 ?_
    refine v_aload_n C dX2_tellCount_79 0 rfl ?_
    refine v_get (ci := 2) C inT2 0 9 rfl rfl (by decide) mF_X2_30_X2_9 rfl dX2_tellCount_80 ?_
    refine v_iload C dX2_tellCount_83 4 rfl ?_
    refine v_iload_n C dX2_tellCount_85 1 rfl ?_
    obtain ⟨hi86, hw⟩ := hw
    obtain ⟨w86, e86⟩ : ∃ z : Md, z = tA w78 9 y6 y3 := ⟨_, rfl⟩
    have hw := hw w86 e86
    refine v_iast (ws' := [wX2 E h0 a0 w86].flatten) C 7 rfl hi86 (by rw [e86]; rfl) dX2_tellCount_86 ?_
    refine v_aload_n C dX2_tellCount_87 0 rfl ?_
    refine v_get (ci := 2) C inT2 0 10 rfl rfl (by decide) mF_X2_33_X2_10 rfl dX2_tellCount_88 ?_
    refine v_iload C dX2_tellCount_91 4 rfl ?_
    refine v_iload C dX2_tellCount_93 2 rfl ?_
    obtain ⟨hi95, hw⟩ := hw
    obtain ⟨w95, e95⟩ : ∃ z : Md, z = tA w86 10 y6 y4 := ⟨_, rfl⟩
    have hw := hw w95 e95
    refine v_iast (ws' := [wX2 E h0 a0 w95].flatten) C 8 rfl hi95 (by rw [e95]; rfl) dX2_tellCount_95 ?_
    refine v_aload_n C dX2_tellCount_96 0 rfl ?_
    refine v_aload_n C dX2_tellCount_97 0 rfl ?_
    refine v_get (ci := 2) C inT2 0 7 rfl rfl (by decide) mF_X2_49_X2_7 rfl dX2_tellCount_98 ?_
    refine v_iload C dX2_tellCount_101 4 rfl ?_
    refine v_iconst (v := 1) C dX2_tellCount_103 (by decide) ?_
    refine v_iadd C dX2_tellCount_104 ?_
    refine v_imax C mM_X2_43 ⟨Nat.le_of_ble_eq_true rfl, Nat.le_of_ble_eq_true rfl, Nat.le_of_ble_eq_true rfl, Nat.le_of_ble_eq_true rfl⟩ dX2_tellCount_105 ?_
    obtain ⟨w108, e108⟩ : ∃ z : Md, z = sF w95 7 (imax (gF w95 7) (y6 + 1)) := ⟨_, rfl⟩
    have hw := hw w108 e108
    refine v_put (ci := 2) (ws' := [wX2 E h0 a0 w108].flatten) C tyX2 tyX2_ok nmX2 inT2 0 7 rfl rfl (by decide) mF_X2_49_X2_7 rfl rfl rfl rfl (Nat.le_of_ble_eq_true rfl) (by rw [e108]; rfl) dX2_tellCount_108 ?_
    refine v_iconst (v := 1) C dX2_tellCount_111 (by decide) ?_
    exact hret _ _ _ _ 1 w108 dX2_tellCount_112 rfl ⟨Or.inr rfl, hw⟩ (Nat.le_of_ble_eq_true rfl) (Nat.le_of_ble_eq_true rfl)
  · have hw := hw.2 hc
    refine v_iconst (v := 0) C dX2_tellCount_68 (by decide) ?_
    exact hret _ _ _ _ 0 u0 dX2_tellCount_69 rfl ⟨Or.inl rfl, hw⟩ (Nat.le_of_ble_eq_true rfl) (Nat.le_of_ble_eq_true rfl)
set_option maxHeartbeats 4000000 in
set_option maxRecDepth 100000 in
theorem jX2_tellCount_21 {X : VX} {E : VE} {l : Launch} (h0 : Nat) (a0 : Nat → Nat)  (Q : Int32 → Md → Prop) (C : VC X cX2_tellCount 8 RX2 (rmL 1 0 0) E l) (hret : RetI X cX2_tellCount .boolean 0 0 (fun (U : Md) => [wX2 E h0 a0 U].flatten) (fun (r : Int32) (U : Md) => (r = 0 ∨ r = 1) ∧ Q r U))  : ∀ (n : Nat), ∀ (u0 : Md) (y3 : Int32) (y4 : Int32) (y5 : Int32) (y6 : Int32) (y7 : Int32), qX2_tellCount_21 Q n u0 y3 y4 y5 y6 y7 → VV X 0 0 ([wX2 E h0 a0 u0].flatten) [(0, .ref h0), (3, .int y3), (4, .int y4), (5, .int y5), (6, .int y6), (7, .int y7)] 21 [] := by
  intro n
  induction n with
  | zero =>
    intro u0 y3 y4 y5 y6 y7 hw
    exact hw.elim
  | succ n ih =>
    intro u0 y3 y4 y5 y6 y7 hw
    unfold qX2_tellCount_21 at hw
    refine v_iload C dX2_tellCount_21 5 rfl ?_
    refine v_if_lt (tgt := 60) C dX2_tellCount_23 (by decide) (fun hc => ?_) (fun hc => ?_)
    · have hw := hw.1 hc
      refine v_lv C (lv' := [(0, .ref h0), (3, .int y3), (4, .int y4), (5, .int y5), (6, .int y6)]) [0, 1, 2, 3, 4] rfl ?_
      exact jX2_tellCount_60 h0 a0 Q C hret u0 y3 y4 y5 y6 hw
    · have hw := hw.2 hc
      refine v_aload_n C dX2_tellCount_26 0 rfl ?_
      refine v_get (ci := 2) C inT2 0 10 rfl rfl (by decide) mF_X2_33_X2_10 rfl dX2_tellCount_27 ?_
      refine v_iload C dX2_tellCount_30 5 rfl ?_
      obtain ⟨hi32, hw⟩ := hw
      refine v_iald C 8 rfl hi32 dX2_tellCount_32 ?_
      refine v_iload C dX2_tellCount_33 2 rfl ?_
      refine v_icmp_ne (tgt := 60) C dX2_tellCount_35 (by decide) (fun hc => ?_) (fun hc => ?_)
      · have hw := hw.1 hc
        refine v_lv C (lv' := [(0, .ref h0), (3, .int y3), (4, .int y4), (5, .int y5), (6, .int y6)]) [0, 1, 2, 3, 4] rfl ?_
        exact jX2_tellCount_60 h0 a0 Q C hret u0 y3 y4 y5 y6 hw
      · have hw := hw.2 hc
        refine v_aload_n C dX2_tellCount_38 0 rfl ?_
        refine v_get (ci := 2) C inT2 0 8 rfl rfl (by decide) mF_X2_27_X2_8 rfl dX2_tellCount_39 ?_
        refine v_iload C dX2_tellCount_42 5 rfl ?_
        obtain ⟨hi44, hw⟩ := hw
        refine v_iald C 6 rfl hi44 dX2_tellCount_44 ?_
        refine v_iload C dX2_tellCount_45 3 rfl ?_
        refine v_icmp_ne (tgt := 54) C dX2_tellCount_47 (by decide) (fun hc => ?_) (fun hc => ?_)
        · have hw := hw.1 hc
          refine v_iinc (lv' := [(7, .int (y7 + Int32.ofInt (-1))), (0, .ref h0), (3, .int y3), (4, .int y4), (5, .int y5), (6, .int y6)]) C dX2_tellCount_54 5 rfl (by decide) rfl ?_
          refine v_goto (tgt := 21) C dX2_tellCount_57 (by decide) ?_
          refine v_lv C (lv' := [(0, .ref h0), (3, .int y3), (4, .int y4), (5, .int y5), (6, .int y6), (7, .int (y7 + Int32.ofInt (-1)))]) [1, 2, 3, 4, 5, 0] rfl ?_
          exact ih u0 y3 y4 y5 y6 (y7 + Int32.ofInt (-1)) hw
        · have hw := hw.2 hc
          refine v_iload C dX2_tellCount_50 5 rfl ?_
          refine v_istore (lv' := [(6, .int y7), (0, .ref h0), (3, .int y3), (4, .int y4), (5, .int y5), (7, .int y7)]) C dX2_tellCount_52 (by decide) rfl ?_
          refine v_iinc (lv' := [(7, .int (y7 + Int32.ofInt (-1))), (6, .int y7), (0, .ref h0), (3, .int y3), (4, .int y4), (5, .int y5)]) C dX2_tellCount_54 5 rfl (by decide) rfl ?_
          refine v_goto (tgt := 21) C dX2_tellCount_57 (by decide) ?_
          refine v_lv C (lv' := [(0, .ref h0), (3, .int y3), (4, .int y4), (5, .int y5), (6, .int y7), (7, .int (y7 + Int32.ofInt (-1)))]) [2, 3, 4, 5, 1, 0] rfl ?_
          exact ih u0 y3 y4 y5 y7 (y7 + Int32.ofInt (-1)) hw
set_option maxHeartbeats 4000000 in
set_option maxRecDepth 100000 in
theorem kX2_tellCount {l : Launch} {E : VE} (h0 : Nat) (a0 : Nat → Nat) (u0 : Md) (x1 : Int32) (x2 : Int32) (x3 : Int32) (x4 : Int32) {Q : Int32 → Md → Prop} (hw : qX2_tellCount u0 x1 x2 x3 x4 Q) : MI l yX2_tellCount cX2_tellCount 8 .boolean 1 0 0 E [.ref h0, .int x1, .int x2, .int x3, .int x4] ([wX2 E h0 a0 u0].flatten) (fun (U : Md) => [wX2 E h0 a0 U].flatten) (fun (r : Int32) (U : Md) => (r = 0 ∨ r = 1) ∧ Q r U) := by
  refine MI.of (own := RX2) (by decide) rfl (Nat.le_of_ble_eq_true rfl) ?_
  intro X C hini hret
  show VV X 0 0 ([wX2 E h0 a0 u0].flatten) [(0, .ref h0), (1, .int x1), (2, .int x2), (3, .int x3), (4, .int x4)] 0 []
  unfold qX2_tellCount at hw
  refine v_iload_n C dX2_tellCount_0 1 rfl ?_
  refine v_iconst (v := 3) C dX2_tellCount_1 (by decide) ?_
  refine v_imul C dX2_tellCount_2 ?_
  refine v_iload_n C dX2_tellCount_3 2 rfl ?_
  refine v_iadd C dX2_tellCount_4 ?_
  refine v_istore (lv' := [(5, .int ((x1 * 3) + x2)), (0, .ref h0), (1, .int x1), (2, .int x2), (3, .int x3), (4, .int x4)]) C dX2_tellCount_5 (by decide) rfl ?_
  refine v_aload_n C dX2_tellCount_7 1 rfl ?_
  refine v_get (ci := 2) C inT2 0 7 rfl rfl (by decide) mF_X2_49_X2_7 rfl dX2_tellCount_8 ?_
  refine v_istore (lv' := [(6, .int (gF u0 7)), (5, .int ((x1 * 3) + x2)), (0, .ref h0), (1, .int x1), (2, .int x2), (3, .int x3), (4, .int x4)]) C dX2_tellCount_11 (by decide) rfl ?_
  refine v_aload_n C dX2_tellCount_13 2 rfl ?_
  refine v_get (ci := 2) C inT2 0 7 rfl rfl (by decide) mF_X2_49_X2_7 rfl dX2_tellCount_14 ?_
  refine v_iconst (v := 1) C dX2_tellCount_17 (by decide) ?_
  refine v_isub C dX2_tellCount_18 ?_
  refine v_istore (lv' := [(7, .int ((gF u0 7) - 1)), (6, .int (gF u0 7)), (5, .int ((x1 * 3) + x2)), (0, .ref h0), (1, .int x1), (2, .int x2), (3, .int x3), (4, .int x4)]) C dX2_tellCount_19 (by decide) rfl ?_
  refine v_lv C (lv' := [(0, .ref h0), (3, .int x3), (4, .int x4), (5, .int ((x1 * 3) + x2)), (6, .int (gF u0 7)), (7, .int ((gF u0 7) - 1))]) [3, 6, 7, 2, 1, 0] rfl ?_
  obtain ⟨n', hw⟩ := hw
  exact jX2_tellCount_21 h0 a0 Q C hret n' u0 x3 x4 ((x1 * 3) + x2) (gF u0 7) ((gF u0 7) - 1) hw
set_option maxHeartbeats 4000000 in
set_option maxRecDepth 100000 in
theorem jJ7_fill_53178_5 {X : VX} {E : VE} {l : Launch} (h0 : Nat) (n0 : Nat) (Q : (Nat → Int32) → Prop) (C : VC X cJ7_fill_53178 4 RJ7 (rmL 0 0 0) E l) (hret : RetV X cJ7_fill_53178 0 0 (fun (U : (Nat → Int32)) => [wAI E h0 n0 U].flatten) (fun (U : (Nat → Int32)) => Q U))  : ∀ (n : Nat), ∀ (f0 : Nat → Int32) (y1 : Int32) (y2 : Int32) (y3 : Int32), qJ7_fill_53178_5 n0 Q n f0 y1 y2 y3 → VV X 0 0 ([wAI E h0 n0 f0].flatten) [(0, .ref h0), (1, .int y1), (2, .int y2), (3, .int y3)] 5 [] := by
  intro n
  induction n with
  | zero =>
    intro f0 y1 y2 y3 hw
    exact hw.elim
  | succ n ih =>
    intro f0 y1 y2 y3 hw
    unfold qJ7_fill_53178_5 at hw
    refine v_iload_n C dJ7_fill_53178_5 2 rfl ?_
    refine v_iload_n C dJ7_fill_53178_6 3 rfl ?_
    refine v_icmp_ge (tgt := 20) C dJ7_fill_53178_7 (by decide) (fun hc => ?_) (fun hc => ?_)
    · have hw := hw.1 hc
      exact hret _ _ _ _ f0 dJ7_fill_53178_20 hw (Nat.le_of_ble_eq_true rfl) (Nat.le_of_ble_eq_true rfl)
    · have hw := hw.2 hc
      refine v_aload_n C dJ7_fill_53178_10 0 rfl ?_
      refine v_iload_n C dJ7_fill_53178_11 2 rfl ?_
      refine v_iload_n C dJ7_fill_53178_12 1 rfl ?_
      obtain ⟨hi13, hw⟩ := hw
      refine v_iast (ws' := [wAI E h0 n0 (va_up f0 y2.toNatClampNeg y1)].flatten) C 0 rfl hi13 rfl dJ7_fill_53178_13 ?_
      refine v_iinc (lv' := [(2, .int (y2 + Int32.ofInt 1)), (0, .ref h0), (1, .int y1), (3, .int y3)]) C dJ7_fill_53178_14 2 rfl (by decide) rfl ?_
      refine v_goto (tgt := 5) C dJ7_fill_53178_17 (by decide) ?_
      refine v_lv C (lv' := [(0, .ref h0), (1, .int y1), (2, .int (y2 + Int32.ofInt 1)), (3, .int y3)]) [1, 2, 0, 3] rfl ?_
      exact ih (va_up f0 y2.toNatClampNeg y1) y1 (y2 + Int32.ofInt 1) y3 hw
set_option maxHeartbeats 4000000 in
set_option maxRecDepth 100000 in
theorem kJ7_fill_53178 {l : Launch} {E : VE} (h0 : Nat) (n0 : Nat) (f0 : Nat → Int32) (x1 : Int32) {Q : (Nat → Int32) → Prop} (hw : qJ7_fill_53178 n0 f0 x1 Q) : MV l yJ7_fill_53178 cJ7_fill_53178 4 0 0 0 E [.ref h0, .int x1] ([wAI E h0 n0 f0].flatten) (fun (U : (Nat → Int32)) => [wAI E h0 n0 U].flatten) (fun (U : (Nat → Int32)) => Q U) := by
  refine MV.of (own := RJ7) (by decide) rfl (Nat.le_of_ble_eq_true rfl) ?_
  intro X C hini hret
  show VV X 0 0 ([wAI E h0 n0 f0].flatten) [(0, .ref h0), (1, .int x1)] 0 []
  unfold qJ7_fill_53178 at hw
  refine v_iconst (v := 0) C dJ7_fill_53178_0 (by decide) ?_
  refine v_istore_n (lv' := [(2, .int 0), (0, .ref h0), (1, .int x1)]) C dJ7_fill_53178_1 (by decide) rfl ?_
  refine v_aload_n C dJ7_fill_53178_2 1 rfl ?_
  refine v_alen C 0 1 rfl rfl rfl dJ7_fill_53178_3 ?_
  refine v_istore_n (lv' := [(3, .int (Int32.ofNat n0)), (2, .int 0), (0, .ref h0), (1, .int x1)]) C dJ7_fill_53178_4 (by decide) rfl ?_
  refine v_lv C (lv' := [(0, .ref h0), (1, .int x1), (2, .int 0), (3, .int (Int32.ofNat n0))]) [2, 3, 1, 0] rfl ?_
  obtain ⟨n', hw⟩ := hw
  exact jJ7_fill_53178_5 h0 n0 Q C hret n' f0 x1 0 (Int32.ofNat n0) hw
set_option maxHeartbeats 4000000 in
set_option maxRecDepth 100000 in
theorem jX2_fillParents_7 {X : VX} {E : VE} {l : Launch} (h0 : Nat) (h1 : Nat) (a0 : Nat → Nat) (n1 : Nat) (Q : Md → (Nat → Int32) → Prop) (C : VC X cX2_fillParents 4 RX2 (rmL 1 0 0) E l) (hret : RetV X cX2_fillParents 0 0 (fun (U : Md × (Nat → Int32)) => [wX2 E h0 a0 U.1, wAI E h1 n1 U.2].flatten) (fun (U : Md × (Nat → Int32)) => Q U.1 U.2))  : ∀ (n : Nat), ∀ (u0 : Md) (f1 : Nat → Int32) (y2 : Int32) (y3 : Int32), qX2_fillParents_7 n1 Q n u0 f1 y2 y3 → VV X 0 0 ([wX2 E h0 a0 u0, wAI E h1 n1 f1].flatten) [(0, .ref h0), (1, .ref h1), (2, .int y2), (3, .int y3)] 7 [] := by
  intro n
  induction n with
  | zero =>
    intro u0 f1 y2 y3 hw
    exact hw.elim
  | succ n ih =>
    intro u0 f1 y2 y3 hw
    unfold qX2_fillParents_7 at hw
    refine v_iload_n C dX2_fillParents_7 3 rfl ?_
    refine v_aload_n C dX2_fillParents_8 0 rfl ?_
    refine v_get (ci := 2) C inT2 0 3 rfl rfl (by decide) mF_X2_40_X2_3 rfl dX2_fillParents_9 ?_
    refine v_icmp_ge (tgt := 45) C dX2_fillParents_12 (by decide) (fun hc => ?_) (fun hc => ?_)
    · have hw := hw.1 hc
      exact hret _ _ _ _ (u0, f1) dX2_fillParents_45 hw (Nat.le_of_ble_eq_true rfl) (Nat.le_of_ble_eq_true rfl)
    · have hw := hw.2 hc
      refine v_aload_n C dX2_fillParents_15 0 rfl ?_
      refine v_get (ci := 2) C inT2 0 6 rfl rfl (by decide) mF_X2_24_X2_6 rfl dX2_fillParents_16 ?_
      refine v_iload_n C dX2_fillParents_19 3 rfl ?_
      obtain ⟨hi20, hw⟩ := hw
      refine v_iald C 5 rfl hi20 dX2_fillParents_20 ?_
      refine v_iload_n C dX2_fillParents_21 2 rfl ?_
      refine v_icmp_gt (tgt := 45) C dX2_fillParents_22 (by decide) (fun hc => ?_) (fun hc => ?_)
      · have hw := hw.1 hc
        exact hret _ _ _ _ (u0, f1) dX2_fillParents_45 hw (Nat.le_of_ble_eq_true rfl) (Nat.le_of_ble_eq_true rfl)
      · have hw := hw.2 hc
        refine v_aload_n C dX2_fillParents_25 1 rfl ?_
        refine v_aload_n C dX2_fillParents_26 0 rfl ?_
        refine v_get (ci := 2) C inT2 0 4 rfl rfl (by decide) mF_X2_18_X2_4 rfl dX2_fillParents_27 ?_
        refine v_iload_n C dX2_fillParents_30 3 rfl ?_
        obtain ⟨hi31, hw⟩ := hw
        refine v_iald C 3 rfl hi31 dX2_fillParents_31 ?_
        refine v_aload_n C dX2_fillParents_32 0 rfl ?_
        refine v_get (ci := 2) C inT2 0 5 rfl rfl (by decide) mF_X2_21_X2_5 rfl dX2_fillParents_33 ?_
        refine v_iload_n C dX2_fillParents_36 3 rfl ?_
        obtain ⟨hi37, hw⟩ := hw
        refine v_iald C 4 rfl hi37 dX2_fillParents_37 ?_
        obtain ⟨hi38, hw⟩ := hw
        refine v_iast (ws' := [wX2 E h0 a0 u0, wAI E h1 n1 (va_up f1 (gA u0 4 y3.toNatClampNeg).toNatClampNeg (gA u0 5 y3.toNatClampNeg))].flatten) C 9 rfl hi38 rfl dX2_fillParents_38 ?_
        refine v_iinc (lv' := [(3, .int (y3 + Int32.ofInt 1)), (0, .ref h0), (1, .ref h1), (2, .int y2)]) C dX2_fillParents_39 3 rfl (by decide) rfl ?_
        refine v_goto (tgt := 7) C dX2_fillParents_42 (by decide) ?_
        refine v_lv C (lv' := [(0, .ref h0), (1, .ref h1), (2, .int y2), (3, .int (y3 + Int32.ofInt 1))]) [1, 2, 3, 0] rfl ?_
        exact ih u0 (va_up f1 (gA u0 4 y3.toNatClampNeg).toNatClampNeg (gA u0 5 y3.toNatClampNeg)) y2 (y3 + Int32.ofInt 1) hw
set_option maxHeartbeats 4000000 in
set_option maxRecDepth 100000 in
theorem kX2_fillParents {l : Launch} {E : VE} (h0 : Nat) (h1 : Nat) (a0 : Nat → Nat) (n1 : Nat) (u0 : Md) (f1 : Nat → Int32) (x2 : Int32) {Q : Md → (Nat → Int32) → Prop} (hw : qX2_fillParents n1 u0 f1 x2 Q) : MV l yX2_fillParents cX2_fillParents 4 1 0 0 E [.ref h0, .ref h1, .int x2] ([wX2 E h0 a0 u0, wAI E h1 n1 f1].flatten) (fun (U : Md × (Nat → Int32)) => [wX2 E h0 a0 U.1, wAI E h1 n1 U.2].flatten) (fun (U : Md × (Nat → Int32)) => Q U.1 U.2) := by
  refine MV.of (own := RX2) (by decide) rfl (Nat.le_of_ble_eq_true rfl) ?_
  intro X C hini hret
  show VV X 0 0 ([wX2 E h0 a0 u0, wAI E h1 n1 f1].flatten) [(0, .ref h0), (1, .ref h1), (2, .int x2)] 0 []
  unfold qX2_fillParents at hw
  refine v_aload_n C dX2_fillParents_0 1 rfl ?_
  refine v_iconst (v := (-1)) C dX2_fillParents_1 (by decide) ?_
  refine v_callSv (st := []) (wr := ([0, 1, 2, 3, 4, 5, 6, 7, 8] : List Nat).filterMap (fun i => ([wX2 E h0 a0 u0, wAI E h1 n1 f1].flatten)[i]?)) C (kJ7_fill_53178 h1 _ _ _ hw) mM_X2_52 mI_J7 mC_J7_fill_53178 mT_J7_fill_53178 hd_J7_fill_53178 ⟨Nat.le_of_ble_eq_true rfl, Nat.le_of_ble_eq_true rfl⟩ ⟨Nat.le_of_ble_eq_true rfl, Nat.le_of_ble_eq_true rfl⟩ [9] [0, 1, 2, 3, 4, 5, 6, 7, 8] rfl (by decide) rfl (by decide) (by decide) rfl (Nat.le_of_ble_eq_true rfl) dX2_fillParents_2 (fun v2_0 hw => ?_)
  refine v_ws (ws' := [wX2 E h0 a0 u0, wAI E h1 n1 v2_0].flatten) C [0, 1, 2, 3, 4, 5, 6, 7, 8, 9] (by decide) rfl ?_
  refine v_iconst (v := 0) C dX2_fillParents_5 (by decide) ?_
  refine v_istore_n (lv' := [(3, .int 0), (0, .ref h0), (1, .ref h1), (2, .int x2)]) C dX2_fillParents_6 (by decide) rfl ?_
  refine v_lv C (lv' := [(0, .ref h0), (1, .ref h1), (2, .int x2), (3, .int 0)]) [1, 2, 3, 0] rfl ?_
  obtain ⟨n', hw⟩ := hw
  exact jX2_fillParents_7 h0 h1 a0 n1 Q C hret n' u0 v2_0 x2 0 hw
set_option maxHeartbeats 4000000 in
set_option maxRecDepth 100000 in
theorem jX2_fillOwn_7 {X : VX} {E : VE} {l : Launch} (h0 : Nat) (h1 : Nat) (a0 : Nat → Nat) (n1 : Nat) (Q : Md → (Nat → Int32) → Prop) (C : VC X cX2_fillOwn 4 RX2 (rmL 1 0 0) E l) (hret : RetV X cX2_fillOwn 0 0 (fun (U : Md × (Nat → Int32)) => [wX2 E h0 a0 U.1, wAI E h1 n1 U.2].flatten) (fun (U : Md × (Nat → Int32)) => Q U.1 U.2))  : ∀ (n : Nat), ∀ (u0 : Md) (f1 : Nat → Int32) (y2 : Int32) (y3 : Int32), qX2_fillOwn_7 n1 Q n u0 f1 y2 y3 → VV X 0 0 ([wX2 E h0 a0 u0, wAI E h1 n1 f1].flatten) [(0, .ref h0), (1, .ref h1), (2, .int y2), (3, .int y3)] 7 [] := by
  intro n
  induction n with
  | zero =>
    intro u0 f1 y2 y3 hw
    exact hw.elim
  | succ n ih =>
    intro u0 f1 y2 y3 hw
    unfold qX2_fillOwn_7 at hw
    refine v_iload_n C dX2_fillOwn_7 3 rfl ?_
    refine v_aload_n C dX2_fillOwn_8 0 rfl ?_
    refine v_get (ci := 2) C inT2 0 7 rfl rfl (by decide) mF_X2_49_X2_7 rfl dX2_fillOwn_9 ?_
    refine v_icmp_ge (tgt := 45) C dX2_fillOwn_12 (by decide) (fun hc => ?_) (fun hc => ?_)
    · have hw := hw.1 hc
      exact hret _ _ _ _ (u0, f1) dX2_fillOwn_45 hw (Nat.le_of_ble_eq_true rfl) (Nat.le_of_ble_eq_true rfl)
    · have hw := hw.2 hc
      refine v_aload_n C dX2_fillOwn_15 0 rfl ?_
      refine v_get (ci := 2) C inT2 0 10 rfl rfl (by decide) mF_X2_33_X2_10 rfl dX2_fillOwn_16 ?_
      refine v_iload_n C dX2_fillOwn_19 3 rfl ?_
      obtain ⟨hi20, hw⟩ := hw
      refine v_iald C 8 rfl hi20 dX2_fillOwn_20 ?_
      refine v_iload_n C dX2_fillOwn_21 2 rfl ?_
      refine v_icmp_gt (tgt := 45) C dX2_fillOwn_22 (by decide) (fun hc => ?_) (fun hc => ?_)
      · have hw := hw.1 hc
        exact hret _ _ _ _ (u0, f1) dX2_fillOwn_45 hw (Nat.le_of_ble_eq_true rfl) (Nat.le_of_ble_eq_true rfl)
      · have hw := hw.2 hc
        refine v_aload_n C dX2_fillOwn_25 1 rfl ?_
        refine v_aload_n C dX2_fillOwn_26 0 rfl ?_
        refine v_get (ci := 2) C inT2 0 8 rfl rfl (by decide) mF_X2_27_X2_8 rfl dX2_fillOwn_27 ?_
        refine v_iload_n C dX2_fillOwn_30 3 rfl ?_
        obtain ⟨hi31, hw⟩ := hw
        refine v_iald C 6 rfl hi31 dX2_fillOwn_31 ?_
        refine v_aload_n C dX2_fillOwn_32 0 rfl ?_
        refine v_get (ci := 2) C inT2 0 9 rfl rfl (by decide) mF_X2_30_X2_9 rfl dX2_fillOwn_33 ?_
        refine v_iload_n C dX2_fillOwn_36 3 rfl ?_
        obtain ⟨hi37, hw⟩ := hw
        refine v_iald C 7 rfl hi37 dX2_fillOwn_37 ?_
        obtain ⟨hi38, hw⟩ := hw
        refine v_iast (ws' := [wX2 E h0 a0 u0, wAI E h1 n1 (va_up f1 (gA u0 8 y3.toNatClampNeg).toNatClampNeg (gA u0 9 y3.toNatClampNeg))].flatten) C 9 rfl hi38 rfl dX2_fillOwn_38 ?_
        refine v_iinc (lv' := [(3, .int (y3 + Int32.ofInt 1)), (0, .ref h0), (1, .ref h1), (2, .int y2)]) C dX2_fillOwn_39 3 rfl (by decide) rfl ?_
        refine v_goto (tgt := 7) C dX2_fillOwn_42 (by decide) ?_
        refine v_lv C (lv' := [(0, .ref h0), (1, .ref h1), (2, .int y2), (3, .int (y3 + Int32.ofInt 1))]) [1, 2, 3, 0] rfl ?_
        exact ih u0 (va_up f1 (gA u0 8 y3.toNatClampNeg).toNatClampNeg (gA u0 9 y3.toNatClampNeg)) y2 (y3 + Int32.ofInt 1) hw
set_option maxHeartbeats 4000000 in
set_option maxRecDepth 100000 in
theorem kX2_fillOwn {l : Launch} {E : VE} (h0 : Nat) (h1 : Nat) (a0 : Nat → Nat) (n1 : Nat) (u0 : Md) (f1 : Nat → Int32) (x2 : Int32) {Q : Md → (Nat → Int32) → Prop} (hw : qX2_fillOwn n1 u0 f1 x2 Q) : MV l yX2_fillOwn cX2_fillOwn 4 1 0 0 E [.ref h0, .ref h1, .int x2] ([wX2 E h0 a0 u0, wAI E h1 n1 f1].flatten) (fun (U : Md × (Nat → Int32)) => [wX2 E h0 a0 U.1, wAI E h1 n1 U.2].flatten) (fun (U : Md × (Nat → Int32)) => Q U.1 U.2) := by
  refine MV.of (own := RX2) (by decide) rfl (Nat.le_of_ble_eq_true rfl) ?_
  intro X C hini hret
  show VV X 0 0 ([wX2 E h0 a0 u0, wAI E h1 n1 f1].flatten) [(0, .ref h0), (1, .ref h1), (2, .int x2)] 0 []
  unfold qX2_fillOwn at hw
  refine v_aload_n C dX2_fillOwn_0 1 rfl ?_
  refine v_iconst (v := 0) C dX2_fillOwn_1 (by decide) ?_
  refine v_callSv (st := []) (wr := ([0, 1, 2, 3, 4, 5, 6, 7, 8] : List Nat).filterMap (fun i => ([wX2 E h0 a0 u0, wAI E h1 n1 f1].flatten)[i]?)) C (kJ7_fill_53178 h1 _ _ _ hw) mM_X2_52 mI_J7 mC_J7_fill_53178 mT_J7_fill_53178 hd_J7_fill_53178 ⟨Nat.le_of_ble_eq_true rfl, Nat.le_of_ble_eq_true rfl⟩ ⟨Nat.le_of_ble_eq_true rfl, Nat.le_of_ble_eq_true rfl⟩ [9] [0, 1, 2, 3, 4, 5, 6, 7, 8] rfl (by decide) rfl (by decide) (by decide) rfl (Nat.le_of_ble_eq_true rfl) dX2_fillOwn_2 (fun v2_0 hw => ?_)
  refine v_ws (ws' := [wX2 E h0 a0 u0, wAI E h1 n1 v2_0].flatten) C [0, 1, 2, 3, 4, 5, 6, 7, 8, 9] (by decide) rfl ?_
  refine v_iconst (v := 0) C dX2_fillOwn_5 (by decide) ?_
  refine v_istore_n (lv' := [(3, .int 0), (0, .ref h0), (1, .ref h1), (2, .int x2)]) C dX2_fillOwn_6 (by decide) rfl ?_
  refine v_lv C (lv' := [(0, .ref h0), (1, .ref h1), (2, .int x2), (3, .int 0)]) [1, 2, 3, 0] rfl ?_
  obtain ⟨n', hw⟩ := hw
  exact jX2_fillOwn_7 h0 h1 a0 n1 Q C hret n' u0 v2_0 x2 0 hw
