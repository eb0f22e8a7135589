set_option maxHeartbeats 4000000 in
set_option maxRecDepth 100000 in
theorem kX12_joined {l : Launch} {E : VE} (h0 : Nat) (a0 : Nat → Nat) (u0 : Md) (x1 : Int32) {Q : Int32 → Md → Prop} (hw : qX12_joined u0 x1 Q) : MI l yX12_joined cX12_joined 2 .int 1 0 0 E [.ref h0, .int x1] ([wX12 E h0 a0 u0].flatten) (fun (U : Md) => [wX12 E h0 a0 U].flatten) (fun (r : Int32) (U : Md) => Q r U) := by
  refine MI.of (own := RX12) (by decide) rfl (Nat.le_of_ble_eq_true rfl) ?_
  intro X C hini hret
  show VV X 0 0 ([wX12 E h0 a0 u0].flatten) [(0, .ref h0), (1, .int x1)] 0 []
  unfold qX12_joined at hw
  refine v_iload_n C dX12_joined_0 1 rfl ?_
  refine v_i2l C dX12_joined_1 ?_
  refine v_lconst (v := 0) C dX12_joined_2 (by decide) ?_
  refine v_aload_n C dX12_joined_3 0 rfl ?_
  refine v_get (ci := 12) C inT12 0 47 rfl rfl (by decide) mF_X12_104_X12_47 rfl dX12_joined_4 ?_
  refine v_iconst (v := 1) C dX12_joined_7 (by decide) ?_
  refine v_isub C dX12_joined_8 ?_
  refine v_i2l C dX12_joined_9 ?_
  refine v_callSPi (st := []) C (kX12_in _ _ _ hw) mM_X12_125 mI_X12 mC_X12_in mT_X12_in hd_X12_in ⟨Nat.le_of_ble_eq_true rfl, Nat.le_of_ble_eq_true rfl⟩ ⟨Nat.le_of_ble_eq_true rfl, Nat.le_of_ble_eq_true rfl⟩ rfl (Nat.le_of_ble_eq_true rfl) dX12_joined_10 (fun r10 U10 hw => ?_)
  obtain ⟨h01_10, hw⟩ := hw
  have hw := hw h01_10
  refine v_if_eq (tgt := 25) C dX12_joined_13 (by decide) (fun hc => ?_) (fun hc => ?_)
  · have hw := hw.1 hc
    refine v_iconst (v := (-1)) C dX12_joined_25 (by decide) ?_
    exact hret _ _ _ _ ((-1)) u0 dX12_joined_26 rfl hw (Nat.le_of_ble_eq_true rfl) (Nat.le_of_ble_eq_true rfl)
  · have hw := hw.2 hc
    refine v_aload_n C dX12_joined_16 0 rfl ?_
    refine v_get (ci := 12) C inT12 0 46 rfl rfl (by decide) mF_X12_101_X12_46 rfl dX12_joined_17 ?_
    refine v_iload_n C dX12_joined_20 1 rfl ?_
    obtain ⟨hi21, hw⟩ := hw
    refine v_iald C 28 rfl hi21 dX12_joined_21 ?_
    refine v_goto (tgt := 26) C dX12_joined_22 (by decide) ?_
    exact hret _ _ _ _ (gA u0 46 x1.toNatClampNeg) u0 dX12_joined_26 rfl hw (Nat.le_of_ble_eq_true rfl) (Nat.le_of_ble_eq_true rfl)
set_option maxHeartbeats 4000000 in
set_option maxRecDepth 100000 in
theorem jX12_settledNow_41 {X : VX} {E : VE} {l : Launch} (h0 : Nat) (a0 : Nat → Nat)  (Q : Int32 → Md → Prop) (C : VC X cX12_settledNow 4 RX12 (rmL 1 0 0) E l) (hret : RetI X cX12_settledNow .int 0 0 (fun (U : Md) => [wX12 E h0 a0 U].flatten) (fun (r : Int32) (U : Md) => Q r U)) (K4 : Md → Int32 → Int32 → Prop) (K16 : Md → Int32 → Int32 → Int32 → Prop) (hK4 : ∀ (u0 : Md) (y1 : Int32) (y2 : Int32), K4 u0 y1 y2 → VV X 0 0 ([wX12 E h0 a0 u0].flatten) [(0, .ref h0), (1, .int y1), (2, .int y2)] 4 []) (hK16 : ∀ (u0 : Md) (y1 : Int32) (y2 : Int32) (y3 : Int32), K16 u0 y1 y2 y3 → VV X 0 0 ([wX12 E h0 a0 u0].flatten) [(0, .ref h0), (1, .int y1), (2, .int y2), (3, .int y3)] 16 []) : ∀ (u0 : Md) (y2 : Int32) (y3 : Int32) (z0 : Int32) (z1 : Int32), qX12_settledNow_41 Q K4 K16 u0 y2 y3 z0 z1 → VV X 0 0 ([wX12 E h0 a0 u0].flatten) [(0, .ref h0), (2, .int y2), (3, .int y3)] 41 [.int z0, .int z1] := by
  intro u0 y2 y3 z0 z1 hw
  unfold qX12_settledNow_41 at hw
  refine v_iadd C dX12_settledNow_41 ?_
  refine v_istore_n (lv' := [(1, .int (z1 + z0)), (0, .ref h0), (2, .int y2), (3, .int y3)]) C dX12_settledNow_42 (by decide) rfl ?_
  refine v_iinc (lv' := [(3, .int (y3 + Int32.ofInt 1)), (1, .int (z1 + z0)), (0, .ref h0), (2, .int y2)]) C dX12_settledNow_43 3 rfl (by decide) rfl ?_
  refine v_goto (tgt := 16) C dX12_settledNow_46 (by decide) ?_
  refine v_lv C (lv' := [(0, .ref h0), (1, .int (z1 + z0)), (2, .int y2), (3, .int (y3 + Int32.ofInt 1))]) [2, 1, 3, 0] rfl ?_
  exact hK16 u0 (z1 + z0) y2 (y3 + Int32.ofInt 1) hw
set_option maxHeartbeats 4000000 in
set_option maxRecDepth 100000 in
theorem jX12_settledNow_16 {X : VX} {E : VE} {l : Launch} (h0 : Nat) (a0 : Nat → Nat)  (Q : Int32 → Md → Prop) (C : VC X cX12_settledNow 4 RX12 (rmL 1 0 0) E l) (hret : RetI X cX12_settledNow .int 0 0 (fun (U : Md) => [wX12 E h0 a0 U].flatten) (fun (r : Int32) (U : Md) => Q r U)) (K4 : Md → Int32 → Int32 → Prop) (hK4 : ∀ (u0 : Md) (y1 : Int32) (y2 : Int32), K4 u0 y1 y2 → VV X 0 0 ([wX12 E h0 a0 u0].flatten) [(0, .ref h0), (1, .int y1), (2, .int y2)] 4 []) : ∀ (n : Nat), ∀ (u0 : Md) (y1 : Int32) (y2 : Int32) (y3 : Int32), qX12_settledNow_16 Q K4 n u0 y1 y2 y3 → VV X 0 0 ([wX12 E h0 a0 u0].flatten) [(0, .ref h0), (1, .int y1), (2, .int y2), (3, .int y3)] 16 [] := by
  intro n
  induction n with
  | zero =>
    intro u0 y1 y2 y3 hw
    exact hw.elim
  | succ n ih =>
    intro u0 y1 y2 y3 hw
    unfold qX12_settledNow_16 at hw
    refine v_iload_n C dX12_settledNow_16 3 rfl ?_
    refine v_iconst (v := 3) C dX12_settledNow_17 (by decide) ?_
    refine v_icmp_ge (tgt := 49) C dX12_settledNow_18 (by decide) (fun hc => ?_) (fun hc => ?_)
    · have hw := hw.1 hc
      refine v_iinc (lv' := [(2, .int (y2 + Int32.ofInt 1)), (0, .ref h0), (1, .int y1), (3, .int y3)]) C dX12_settledNow_49 2 rfl (by decide) rfl ?_
      refine v_goto (tgt := 4) C dX12_settledNow_52 (by decide) ?_
      refine v_lv C (lv' := [(0, .ref h0), (1, .int y1), (2, .int (y2 + Int32.ofInt 1))]) [1, 2, 0] rfl ?_
      exact hK4 u0 y1 (y2 + Int32.ofInt 1) hw
    · have hw := hw.2 hc
      refine v_iload_n C dX12_settledNow_21 1 rfl ?_
      refine v_aload_n C dX12_settledNow_22 0 rfl ?_
      refine v_iload_n C dX12_settledNow_23 2 rfl ?_
      refine v_iload_n C dX12_settledNow_24 3 rfl ?_
      refine v_aload_n C dX12_settledNow_25 0 rfl ?_
      refine v_callFi (st := [.int y3, .int y2, .ref h0, .int y1]) (ci := 12) (qb := 0) C (kX12_now h0 a0 _ hw) mM_X12_138 mI_X12 mC_X12_now mN_X12_now mS_X12_now rfl rfl hd_X12_now ⟨Nat.le_of_ble_eq_true rfl, Nat.le_of_ble_eq_true rfl⟩ ⟨Nat.le_of_ble_eq_true rfl, Nat.le_of_ble_eq_true rfl⟩ rfl (Nat.le_of_ble_eq_true rfl) dX12_settledNow_26 (fun r26 v26_0 hw => ?_)
      refine v_callFi (st := [.int y1]) (ci := 12) (qb := 0) C (kX12_settledOf h0 a0 _ _ _ _ hw) mM_X12_385 mI_X12 mC_X12_settledOf mN_X12_settledOf mS_X12_settledOf rfl rfl hd_X12_settledOf ⟨Nat.le_of_ble_eq_true rfl, Nat.le_of_ble_eq_true rfl⟩ ⟨Nat.le_of_ble_eq_true rfl, Nat.le_of_ble_eq_true rfl⟩ rfl (Nat.le_of_ble_eq_true rfl) dX12_settledNow_29 (fun r29 v29_0 hw => ?_)
      refine v_iconst (v := (-1)) C dX12_settledNow_32 (by decide) ?_
      refine v_icmp_ne (tgt := 40) C dX12_settledNow_33 (by decide) (fun hc => ?_) (fun hc => ?_)
      · have hw := hw.1 hc
        refine v_iconst (v := 1) C dX12_settledNow_40 (by decide) ?_
        refine v_lv C (lv' := [(0, .ref h0), (2, .int y2), (3, .int y3)]) [0, 2, 3] rfl ?_
        exact jX12_settledNow_41 h0 a0 Q C hret K4 (qX12_settledNow_16 Q K4 n) hK4 ih v29_0 y2 y3 1 y1 hw
      · have hw := hw.2 hc
        refine v_iconst (v := 0) C dX12_settledNow_36 (by decide) ?_
        refine v_goto (tgt := 41) C dX12_settledNow_37 (by decide) ?_
        refine v_lv C (lv' := [(0, .ref h0), (2, .int y2), (3, .int y3)]) [0, 2, 3] rfl ?_
        exact jX12_settledNow_41 h0 a0 Q C hret K4 (qX12_settledNow_16 Q K4 n) hK4 ih v29_0 y2 y3 0 y1 hw
set_option maxHeartbeats 4000000 in
set_option maxRecDepth 100000 in
theorem jX12_settledNow_4 {X : VX} {E : VE} {l : Launch} (h0 : Nat) (a0 : Nat → Nat)  (Q : Int32 → Md → Prop) (C : VC X cX12_settledNow 4 RX12 (rmL 1 0 0) E l) (hret : RetI X cX12_settledNow .int 0 0 (fun (U : Md) => [wX12 E h0 a0 U].flatten) (fun (r : Int32) (U : Md) => Q r U))  : ∀ (n : Nat), ∀ (u0 : Md) (y1 : Int32) (y2 : Int32), qX12_settledNow_4 Q n u0 y1 y2 → VV X 0 0 ([wX12 E h0 a0 u0].flatten) [(0, .ref h0), (1, .int y1), (2, .int y2)] 4 [] := by
  intro n
  induction n with
  | zero =>
    intro u0 y1 y2 hw
    exact hw.elim
  | succ n ih =>
    intro u0 y1 y2 hw
    unfold qX12_settledNow_4 at hw
    refine v_iload_n C dX12_settledNow_4 2 rfl ?_
    refine v_aload_n C dX12_settledNow_5 0 rfl ?_
    refine v_get (ci := 12) C inT12 0 1 rfl rfl (by decide) mF_X12_9_X12_1 rfl dX12_settledNow_6 ?_
    refine v_iconst (v := 1) C dX12_settledNow_9 (by decide) ?_
    obtain ⟨hi10, hw⟩ := hw
    refine v_iald C 1 rfl hi10 dX12_settledNow_10 ?_
    refine v_icmp_ge (tgt := 55) C dX12_settledNow_11 (by decide) (fun hc => ?_) (fun hc => ?_)
    · have hw := hw.1 hc
      refine v_iload_n C dX12_settledNow_55 1 rfl ?_
      exact hret _ _ _ _ y1 u0 dX12_settledNow_56 rfl hw (Nat.le_of_ble_eq_true rfl) (Nat.le_of_ble_eq_true rfl)
    · have hw := hw.2 hc
      refine v_iconst (v := 0) C dX12_settledNow_14 (by decide) ?_
      refine v_istore_n (lv' := [(3, .int 0), (0, .ref h0), (1, .int y1), (2, .int y2)]) C dX12_settledNow_15 (by decide) rfl ?_
      refine v_lv C (lv' := [(0, .ref h0), (1, .int y1), (2, .int y2), (3, .int 0)]) [1, 2, 3, 0] rfl ?_
      obtain ⟨n', hw⟩ := hw
      exact jX12_settledNow_16 h0 a0 Q C hret (qX12_settledNow_4 Q n) ih n' u0 y1 y2 0 hw
set_option maxHeartbeats 4000000 in
set_option maxRecDepth 100000 in
theorem kX12_settledNow {l : Launch} {E : VE} (h0 : Nat) (a0 : Nat → Nat) (u0 : Md) {Q : Int32 → Md → Prop} (hw : qX12_settledNow u0 Q) : MI l yX12_settledNow cX12_settledNow 4 .int 1 0 0 E [.ref h0] ([wX12 E h0 a0 u0].flatten) (fun (U : Md) => [wX12 E h0 a0 U].flatten) (fun (r : Int32) (U : Md) => Q r U) := by
  refine MI.of (own := RX12) (by decide) rfl (Nat.le_of_ble_eq_true rfl) ?_
  intro X C hini hret
  show VV X 0 0 ([wX12 E h0 a0 u0].flatten) [(0, .ref h0)] 0 []
  unfold qX12_settledNow at hw
  refine v_iconst (v := 0) C dX12_settledNow_0 (by decide) ?_
  refine v_istore_n (lv' := [(1, .int 0), (0, .ref h0)]) C dX12_settledNow_1 (by decide) rfl ?_
  refine v_iconst (v := 0) C dX12_settledNow_2 (by decide) ?_
  refine v_istore_n (lv' := [(2, .int 0), (1, .int 0), (0, .ref h0)]) C dX12_settledNow_3 (by decide) rfl ?_
  refine v_lv C (lv' := [(0, .ref h0), (1, .int 0), (2, .int 0)]) [2, 1, 0] rfl ?_
  obtain ⟨n', hw⟩ := hw
  exact jX12_settledNow_4 h0 a0 Q C hret n' u0 0 0 hw
set_option maxHeartbeats 4000000 in
set_option maxRecDepth 100000 in
theorem jX12_count_151 {X : VX} {E : VE} {l : Launch} (h0 : Nat) (a0 : Nat → Nat)  (Q : Int32 → Md → Prop) (C : VC X cX12_count 4 RX12 (rmL 6 0 0) E l) (hret : RetI X cX12_count .int 0 0 (fun (U : Md) => [wX12 E h0 a0 U].flatten) (fun (r : Int32) (U : Md) => Q r U)) (K126 : Md → Int32 → Int32 → Prop) (hK126 : ∀ (u0 : Md) (y2 : Int32) (y3 : Int32), K126 u0 y2 y3 → VV X 0 0 ([wX12 E h0 a0 u0].flatten) [(0, .ref h0), (2, .int y2), (3, .int y3)] 126 []) : ∀ (u0 : Md) (y3 : Int32) (z0 : Int32) (z1 : Int32), qX12_count_151 Q K126 u0 y3 z0 z1 → VV X 0 0 ([wX12 E h0 a0 u0].flatten) [(0, .ref h0), (3, .int y3)] 151 [.int z0, .int z1] := by
  intro u0 y3 z0 z1 hw
  unfold qX12_count_151 at hw
  refine v_iadd C dX12_count_151 ?_
  refine v_istore_n (lv' := [(2, .int (z1 + z0)), (0, .ref h0), (3, .int y3)]) C dX12_count_152 (by decide) rfl ?_
  refine v_iinc (lv' := [(3, .int (y3 + Int32.ofInt 1)), (2, .int (z1 + z0)), (0, .ref h0)]) C dX12_count_153 2 rfl (by decide) rfl ?_
  refine v_goto (tgt := 126) C dX12_count_156 (by decide) ?_
  refine v_lv C (lv' := [(0, .ref h0), (2, .int (z1 + z0)), (3, .int (y3 + Int32.ofInt 1))]) [2, 1, 0] rfl ?_
  exact hK126 u0 (z1 + z0) (y3 + Int32.ofInt 1) hw
set_option maxHeartbeats 4000000 in
set_option maxRecDepth 100000 in
theorem jX12_count_126 {X : VX} {E : VE} {l : Launch} (h0 : Nat) (a0 : Nat → Nat)  (Q : Int32 → Md → Prop) (C : VC X cX12_count 4 RX12 (rmL 6 0 0) E l) (hret : RetI X cX12_count .int 0 0 (fun (U : Md) => [wX12 E h0 a0 U].flatten) (fun (r : Int32) (U : Md) => Q r U))  : ∀ (n : Nat), ∀ (u0 : Md) (y2 : Int32) (y3 : Int32), qX12_count_126 Q n u0 y2 y3 → VV X 0 0 ([wX12 E h0 a0 u0].flatten) [(0, .ref h0), (2, .int y2), (3, .int y3)] 126 [] := by
  intro n
  induction n with
  | zero =>
    intro u0 y2 y3 hw
    exact hw.elim
  | succ n ih =>
    intro u0 y2 y3 hw
    unfold qX12_count_126 at hw
    refine v_iload_n C dX12_count_126 2 rfl ?_
    refine v_aload_n C dX12_count_127 0 rfl ?_
    refine v_get (ci := 12) C inT12 0 1 rfl rfl (by decide) mF_X12_9_X12_1 rfl dX12_count_128 ?_
    refine v_bipush (v := 7) C dX12_count_131 (by decide) ?_
    obtain ⟨hi133, hw⟩ := hw
    refine v_iald C 1 rfl hi133 dX12_count_133 ?_
    refine v_icmp_ge (tgt := 159) C dX12_count_134 (by decide) (fun hc => ?_) (fun hc => ?_)
    · have hw := hw.1 hc
      refine v_iload_n C dX12_count_159 1 rfl ?_
      exact hret _ _ _ _ y2 u0 dX12_count_160 rfl hw (Nat.le_of_ble_eq_true rfl) (Nat.le_of_ble_eq_true rfl)
    · have hw := hw.2 hc
      refine v_iload_n C dX12_count_137 1 rfl ?_
      refine v_aload_n C dX12_count_138 0 rfl ?_
      refine v_iload_n C dX12_count_139 2 rfl ?_
      refine v_callFi (st := [.int y2]) (ci := 12) (qb := 0) C (kX12_isLame h0 a0 _ _ hw) mM_X12_408 mI_X12 mC_X12_isLame mN_X12_isLame mS_X12_isLame rfl rfl hd_X12_isLame ⟨Nat.le_of_ble_eq_true rfl, Nat.le_of_ble_eq_true rfl⟩ ⟨Nat.le_of_ble_eq_true rfl, Nat.le_of_ble_eq_true rfl⟩ rfl (Nat.le_of_ble_eq_true rfl) dX12_count_140 (fun r140 v140_0 hw => ?_)
      obtain ⟨h01_140, hw⟩ := hw
      have hw := hw h01_140
      refine v_if_eq (tgt := 150) C dX12_count_143 (by decide) (fun hc => ?_) (fun hc => ?_)
      · have hw := hw.1 hc
        refine v_iconst (v := 0) C dX12_count_150 (by decide) ?_
        refine v_lv C (lv' := [(0, .ref h0), (3, .int y3)]) [0, 2] rfl ?_
        exact jX12_count_151 h0 a0 Q C hret (qX12_count_126 Q n) ih v140_0 y3 0 y2 hw
      · have hw := hw.2 hc
        refine v_iconst (v := 1) C dX12_count_146 (by decide) ?_
        refine v_goto (tgt := 151) C dX12_count_147 (by decide) ?_
        refine v_lv C (lv' := [(0, .ref h0), (3, .int y3)]) [0, 2] rfl ?_
        exact jX12_count_151 h0 a0 Q C hret (qX12_count_126 Q n) ih v140_0 y3 1 y2 hw
set_option maxHeartbeats 4000000 in
set_option maxRecDepth 100000 in
theorem jX12_count_199 {X : VX} {E : VE} {l : Launch} (h0 : Nat) (a0 : Nat → Nat)  (Q : Int32 → Md → Prop) (C : VC X cX12_count 4 RX12 (rmL 6 0 0) E l) (hret : RetI X cX12_count .int 0 0 (fun (U : Md) => [wX12 E h0 a0 U].flatten) (fun (r : Int32) (U : Md) => Q r U)) (K178 : Md → Int32 → Int32 → Prop) (hK178 : ∀ (u0 : Md) (y2 : Int32) (y3 : Int32), K178 u0 y2 y3 → VV X 0 0 ([wX12 E h0 a0 u0].flatten) [(0, .ref h0), (2, .int y2), (3, .int y3)] 178 []) : ∀ (u0 : Md) (y3 : Int32) (z0 : Int32) (z1 : Int32), qX12_count_199 Q K178 u0 y3 z0 z1 → VV X 0 0 ([wX12 E h0 a0 u0].flatten) [(0, .ref h0), (3, .int y3)] 199 [.int z0, .int z1] := by
  intro u0 y3 z0 z1 hw
  unfold qX12_count_199 at hw
  refine v_iadd C dX12_count_199 ?_
  refine v_istore_n (lv' := [(2, .int (z1 + z0)), (0, .ref h0), (3, .int y3)]) C dX12_count_200 (by decide) rfl ?_
  refine v_iinc (lv' := [(3, .int (y3 + Int32.ofInt 1)), (2, .int (z1 + z0)), (0, .ref h0)]) C dX12_count_201 2 rfl (by decide) rfl ?_
  refine v_goto (tgt := 178) C dX12_count_204 (by decide) ?_
  refine v_lv C (lv' := [(0, .ref h0), (2, .int (z1 + z0)), (3, .int (y3 + Int32.ofInt 1))]) [2, 1, 0] rfl ?_
  exact hK178 u0 (z1 + z0) (y3 + Int32.ofInt 1) hw
set_option maxHeartbeats 4000000 in
set_option maxRecDepth 100000 in
theorem jX12_count_178 {X : VX} {E : VE} {l : Launch} (h0 : Nat) (a0 : Nat → Nat)  (Q : Int32 → Md → Prop) (C : VC X cX12_count 4 RX12 (rmL 6 0 0) E l) (hret : RetI X cX12_count .int 0 0 (fun (U : Md) => [wX12 E h0 a0 U].flatten) (fun (r : Int32) (U : Md) => Q r U))  : ∀ (n : Nat), ∀ (u0 : Md) (y2 : Int32) (y3 : Int32), qX12_count_178 Q n u0 y2 y3 → VV X 0 0 ([wX12 E h0 a0 u0].flatten) [(0, .ref h0), (2, .int y2), (3, .int y3)] 178 [] := by
  intro n
  induction n with
  | zero =>
    intro u0 y2 y3 hw
    exact hw.elim
  | succ n ih =>
    intro u0 y2 y3 hw
    unfold qX12_count_178 at hw
    refine v_iload_n C dX12_count_178 2 rfl ?_
    refine v_iconst (v := 4) C dX12_count_179 (by decide) ?_
    refine v_icmp_ge (tgt := 207) C dX12_count_180 (by decide) (fun hc => ?_) (fun hc => ?_)
    · have hw := hw.1 hc
      refine v_iload_n C dX12_count_207 1 rfl ?_
      exact hret _ _ _ _ y2 u0 dX12_count_208 rfl hw (Nat.le_of_ble_eq_true rfl) (Nat.le_of_ble_eq_true rfl)
    · have hw := hw.2 hc
      refine v_iload_n C dX12_count_183 1 rfl ?_
      refine v_aload_n C dX12_count_184 0 rfl ?_
      refine v_get (ci := 12) C inT12 0 48 rfl rfl (by decide) mF_X12_107_X12_48 rfl dX12_count_185 ?_
      refine v_iload_n C dX12_count_188 2 rfl ?_
      obtain ⟨hi189, hw⟩ := hw
      refine v_iald C 29 rfl hi189 dX12_count_189 ?_
      refine v_iconst (v := (-1)) C dX12_count_190 (by decide) ?_
      refine v_icmp_ne (tgt := 198) C dX12_count_191 (by decide) (fun hc => ?_) (fun hc => ?_)
      · have hw := hw.1 hc
        refine v_iconst (v := 1) C dX12_count_198 (by decide) ?_
        refine v_lv C (lv' := [(0, .ref h0), (3, .int y3)]) [0, 2] rfl ?_
        exact jX12_count_199 h0 a0 Q C hret (qX12_count_178 Q n) ih u0 y3 1 y2 hw
      · have hw := hw.2 hc
        refine v_iconst (v := 0) C dX12_count_194 (by decide) ?_
        refine v_goto (tgt := 199) C dX12_count_195 (by decide) ?_
        refine v_lv C (lv' := [(0, .ref h0), (3, .int y3)]) [0, 2] rfl ?_
        exact jX12_count_199 h0 a0 Q C hret (qX12_count_178 Q n) ih u0 y3 0 y2 hw
set_option maxHeartbeats 4000000 in
set_option maxRecDepth 100000 in
theorem kX12_count {l : Launch} {E : VE} (h0 : Nat) (a0 : Nat → Nat) (u0 : Md) (x1 : Int32) {Q : Int32 → Md → Prop} (hw : qX12_count u0 x1 Q) : MI l yX12_count cX12_count 4 .int 6 0 0 E [.ref h0, .int x1] ([wX12 E h0 a0 u0].flatten) (fun (U : Md) => [wX12 E h0 a0 U].flatten) (fun (r : Int32) (U : Md) => Q r U) := by
  refine MI.of (own := RX12) (by decide) rfl (Nat.le_of_ble_eq_true rfl) ?_
  intro X C hini hret
  show VV X 0 0 ([wX12 E h0 a0 u0].flatten) [(0, .ref h0), (1, .int x1)] 0 []
  unfold qX12_count at hw
  refine v_iconst (v := 0) C dX12_count_0 (by decide) ?_
  refine v_istore_n (lv' := [(2, .int 0), (0, .ref h0), (1, .int x1)]) C dX12_count_1 (by decide) rfl ?_
  refine v_iload_n C dX12_count_2 2 rfl ?_
  by_cases hc0 : x1 = 0
  · have hw := hw.1 hc0
    refine v_tsIn (tgt := 68) C hc0 dX12_count_3 (by decide) (by decide) rfl (by decide) ?_
    refine v_aload_n C dX12_count_68 1 rfl ?_
    refine v_callFi (st := []) (ci := 12) (qb := 0) C (kX12_now h0 a0 _ hw) mM_X12_138 mI_X12 mC_X12_now mN_X12_now mS_X12_now rfl rfl hd_X12_now ⟨Nat.le_of_ble_eq_true rfl, Nat.le_of_ble_eq_true rfl⟩ ⟨Nat.le_of_ble_eq_true rfl, Nat.le_of_ble_eq_true rfl⟩ rfl (Nat.le_of_ble_eq_true rfl) dX12_count_69 (fun r69 v69_0 hw => ?_)
    exact hret _ _ _ _ r69 v69_0 dX12_count_72 rfl hw (Nat.le_of_ble_eq_true rfl) (Nat.le_of_ble_eq_true rfl)
  have hw := hw.2 hc0
  have hn0 := ts_ne hc0
  by_cases hc1 : x1 = 1
  · have hw := hw.1 hc1
    refine v_tsIn (tgt := 73) C hc1 dX12_count_3 (by decide) (by decide) rfl (by decide) ?_
    refine v_aload_n C dX12_count_73 1 rfl ?_
    refine v_get (ci := 12) C inT12 0 1 rfl rfl (by decide) mF_X12_9_X12_1 rfl dX12_count_74 ?_
    refine v_iconst (v := 1) C dX12_count_77 (by decide) ?_
    obtain ⟨hi78, hw⟩ := hw
    refine v_iald C 1 rfl hi78 dX12_count_78 ?_
    exact hret _ _ _ _ (gA u0 1 (1 : Int32).toNatClampNeg) u0 dX12_count_79 rfl hw (Nat.le_of_ble_eq_true rfl) (Nat.le_of_ble_eq_true rfl)
  have hw := hw.2 hc1
  have hn1 := ts_ne hc1
  by_cases hc2 : x1 = 2
  · have hw := hw.1 hc2
    refine v_tsIn (tgt := 80) C hc2 dX12_count_3 (by decide) (by decide) rfl (by decide) ?_
    refine v_aload_n C dX12_count_80 1 rfl ?_
    refine v_get (ci := 12) C inT12 0 1 rfl rfl (by decide) mF_X12_9_X12_1 rfl dX12_count_81 ?_
    refine v_iconst (v := 2) C dX12_count_84 (by decide) ?_
    obtain ⟨hi85, hw⟩ := hw
    refine v_iald C 1 rfl hi85 dX12_count_85 ?_
    exact hret _ _ _ _ (gA u0 1 (2 : Int32).toNatClampNeg) u0 dX12_count_86 rfl hw (Nat.le_of_ble_eq_true rfl) (Nat.le_of_ble_eq_true rfl)
  have hw := hw.2 hc2
  have hn2 := ts_ne hc2
  by_cases hc3 : x1 = 3
  · have hw := hw.1 hc3
    refine v_tsIn (tgt := 87) C hc3 dX12_count_3 (by decide) (by decide) rfl (by decide) ?_
    refine v_aload_n C dX12_count_87 1 rfl ?_
    refine v_get (ci := 12) C inT12 0 1 rfl rfl (by decide) mF_X12_9_X12_1 rfl dX12_count_88 ?_
    refine v_iconst (v := 3) C dX12_count_91 (by decide) ?_
    obtain ⟨hi92, hw⟩ := hw
    refine v_iald C 1 rfl hi92 dX12_count_92 ?_
    exact hret _ _ _ _ (gA u0 1 (3 : Int32).toNatClampNeg) u0 dX12_count_93 rfl hw (Nat.le_of_ble_eq_true rfl) (Nat.le_of_ble_eq_true rfl)
  have hw := hw.2 hc3
  have hn3 := ts_ne hc3
  by_cases hc4 : x1 = 4
  · have hw := hw.1 hc4
    refine v_tsIn (tgt := 94) C hc4 dX12_count_3 (by decide) (by decide) rfl (by decide) ?_
    refine v_aload_n C dX12_count_94 1 rfl ?_
    refine v_get (ci := 12) C inT12 0 1 rfl rfl (by decide) mF_X12_9_X12_1 rfl dX12_count_95 ?_
    refine v_iconst (v := 4) C dX12_count_98 (by decide) ?_
    obtain ⟨hi99, hw⟩ := hw
    refine v_iald C 1 rfl hi99 dX12_count_99 ?_
    exact hret _ _ _ _ (gA u0 1 (4 : Int32).toNatClampNeg) u0 dX12_count_100 rfl hw (Nat.le_of_ble_eq_true rfl) (Nat.le_of_ble_eq_true rfl)
  have hw := hw.2 hc4
  have hn4 := ts_ne hc4
  by_cases hc5 : x1 = 5
  · have hw := hw.1 hc5
    refine v_tsIn (tgt := 101) C hc5 dX12_count_3 (by decide) (by decide) rfl (by decide) ?_
    refine v_aload_n C dX12_count_101 1 rfl ?_
    refine v_get (ci := 12) C inT12 0 1 rfl rfl (by decide) mF_X12_9_X12_1 rfl dX12_count_102 ?_
    refine v_iconst (v := 5) C dX12_count_105 (by decide) ?_
    obtain ⟨hi106, hw⟩ := hw
    refine v_iald C 1 rfl hi106 dX12_count_106 ?_
    exact hret _ _ _ _ (gA u0 1 (5 : Int32).toNatClampNeg) u0 dX12_count_107 rfl hw (Nat.le_of_ble_eq_true rfl) (Nat.le_of_ble_eq_true rfl)
  have hw := hw.2 hc5
  have hn5 := ts_ne hc5
  by_cases hc6 : x1 = 6
  · have hw := hw.1 hc6
    refine v_tsIn (tgt := 108) C hc6 dX12_count_3 (by decide) (by decide) rfl (by decide) ?_
    refine v_aload_n C dX12_count_108 1 rfl ?_
    refine v_get (ci := 12) C inT12 0 1 rfl rfl (by decide) mF_X12_9_X12_1 rfl dX12_count_109 ?_
    refine v_bipush (v := 6) C dX12_count_112 (by decide) ?_
    obtain ⟨hi114, hw⟩ := hw
    refine v_iald C 1 rfl hi114 dX12_count_114 ?_
    exact hret _ _ _ _ (gA u0 1 (6 : Int32).toNatClampNeg) u0 dX12_count_115 rfl hw (Nat.le_of_ble_eq_true rfl) (Nat.le_of_ble_eq_true rfl)
  have hw := hw.2 hc6
  have hn6 := ts_ne hc6
  by_cases hc7 : x1 = 7
  · have hw := hw.1 hc7
    refine v_tsIn (tgt := 116) C hc7 dX12_count_3 (by decide) (by decide) rfl (by decide) ?_
    refine v_aload_n C dX12_count_116 1 rfl ?_
    refine v_get (ci := 12) C inT12 0 1 rfl rfl (by decide) mF_X12_9_X12_1 rfl dX12_count_117 ?_
    refine v_bipush (v := 7) C dX12_count_120 (by decide) ?_
    obtain ⟨hi122, hw⟩ := hw
    refine v_iald C 1 rfl hi122 dX12_count_122 ?_
    exact hret _ _ _ _ (gA u0 1 (7 : Int32).toNatClampNeg) u0 dX12_count_123 rfl hw (Nat.le_of_ble_eq_true rfl) (Nat.le_of_ble_eq_true rfl)
  have hw := hw.2 hc7
  have hn7 := ts_ne hc7
  by_cases hc8 : x1 = 8
  · have hw := hw.1 hc8
    refine v_tsIn (tgt := 124) C hc8 dX12_count_3 (by decide) (by decide) rfl (by decide) ?_
    refine v_iconst (v := 0) C dX12_count_124 (by decide) ?_
    refine v_istore_n (lv' := [(3, .int 0), (2, .int 0), (0, .ref h0), (1, .int x1)]) C dX12_count_125 (by decide) rfl ?_
    refine v_lv C (lv' := [(0, .ref h0), (2, .int 0), (3, .int 0)]) [2, 1, 0] rfl ?_
    obtain ⟨n', hw⟩ := hw
    exact jX12_count_126 h0 a0 Q C hret n' u0 0 0 hw
  have hw := hw.2 hc8
  have hn8 := ts_ne hc8
  by_cases hc9 : x1 = 9
  · have hw := hw.1 hc9
    refine v_tsIn (tgt := 161) C hc9 dX12_count_3 (by decide) (by decide) rfl (by decide) ?_
    refine v_aload_n C dX12_count_161 1 rfl ?_
    refine v_get (ci := 12) C inT12 0 5 rfl rfl (by decide) mF_X12_131_X12_5 rfl dX12_count_162 ?_
    exact hret _ _ _ _ (gF u0 5) u0 dX12_count_165 rfl hw (Nat.le_of_ble_eq_true rfl) (Nat.le_of_ble_eq_true rfl)
  have hw := hw.2 hc9
  have hn9 := ts_ne hc9
  by_cases hc10 : x1 = 10
  · have hw := hw.1 hc10
    refine v_tsIn (tgt := 166) C hc10 dX12_count_3 (by decide) (by decide) rfl (by decide) ?_
    refine v_aload_n C dX12_count_166 1 rfl ?_
    refine v_get (ci := 12) C inT12 0 37 rfl rfl (by decide) mF_X12_435_X12_37 rfl dX12_count_167 ?_
    exact hret _ _ _ _ (gF u0 37) u0 dX12_count_170 rfl hw (Nat.le_of_ble_eq_true rfl) (Nat.le_of_ble_eq_true rfl)
  have hw := hw.2 hc10
  have hn10 := ts_ne hc10
  by_cases hc11 : x1 = 11
  · have hw := hw.1 hc11
    refine v_tsIn (tgt := 171) C hc11 dX12_count_3 (by decide) (by decide) rfl (by decide) ?_
    refine v_aload_n C dX12_count_171 1 rfl ?_
    refine v_callFi (st := []) (ci := 12) (qb := 0) C (kX12_settledNow h0 a0 _ hw) mM_X12_454 mI_X12 mC_X12_settledNow mN_X12_settledNow mS_X12_settledNow rfl rfl hd_X12_settledNow ⟨Nat.le_of_ble_eq_true rfl, Nat.le_of_ble_eq_true rfl⟩ ⟨Nat.le_of_ble_eq_true rfl, Nat.le_of_ble_eq_true rfl⟩ rfl (Nat.le_of_ble_eq_true rfl) dX12_count_172 (fun r172 v172_0 hw => ?_)
    exact hret _ _ _ _ r172 v172_0 dX12_count_175 rfl hw (Nat.le_of_ble_eq_true rfl) (Nat.le_of_ble_eq_true rfl)
  have hw := hw.2 hc11
  have hn11 := ts_ne hc11
  by_cases hc12 : x1 = 12
  · have hw := hw.1 hc12
    refine v_tsIn (tgt := 176) C hc12 dX12_count_3 (by decide) (by decide) rfl (by decide) ?_
    refine v_iconst (v := 0) C dX12_count_176 (by decide) ?_
    refine v_istore_n (lv' := [(3, .int 0), (2, .int 0), (0, .ref h0), (1, .int x1)]) C dX12_count_177 (by decide) rfl ?_
    refine v_lv C (lv' := [(0, .ref h0), (2, .int 0), (3, .int 0)]) [2, 1, 0] rfl ?_
    obtain ⟨n', hw⟩ := hw
    exact jX12_count_178 h0 a0 Q C hret n' u0 0 0 hw
  have hw := hw.2 hc12
  have hn12 := ts_ne hc12
  refine v_tsOut (tgt := 209) C dX12_count_3 (by first | exact ts_out13 hn0 hn1 hn2 hn3 hn4 hn5 hn6 hn7 hn8 hn9 hn10 hn11 hn12 | (simp at *; omega)) (by decide) ?_
  refine v_iconst (v := (-1)) C dX12_count_209 (by decide) ?_
  exact hret _ _ _ _ ((-1)) u0 dX12_count_210 rfl hw (Nat.le_of_ble_eq_true rfl) (Nat.le_of_ble_eq_true rfl)
set_option maxHeartbeats 4000000 in
set_option maxRecDepth 100000 in
theorem kX12_isSlot {l : Launch} {E : VE} (x0 : Int32) {Q : Int32 → Prop} (hw : qX12_isSlot x0 Q) : MI l yX12_isSlot cX12_isSlot 1 .boolean 1 0 0 E [.int x0] ([]) (fun (_ : Unit) => ([] : va_W)) (fun (r : Int32) (_ : Unit) => (r = 0 ∨ r = 1) ∧ Q r) := by
  refine MI.of (own := RX12) (by decide) rfl (Nat.le_of_ble_eq_true rfl) ?_
  intro X C hini hret
  show VV X 0 0 ([]) [(0, .int x0)] 0 []
  unfold qX12_isSlot at hw
  refine v_iload_n C dX12_isSlot_0 0 rfl ?_
  refine v_i2l C dX12_isSlot_1 ?_
  refine v_lconst (v := 0) C dX12_isSlot_2 (by decide) ?_
  refine v_ldc2 C mJ_X12_457 dX12_isSlot_3 ?_
  refine v_callSPi (st := []) C (kX12_in _ _ _ hw) mM_X12_125 mI_X12 mC_X12_in mT_X12_in hd_X12_in ⟨Nat.le_of_ble_eq_true rfl, Nat.le_of_ble_eq_true rfl⟩ ⟨Nat.le_of_ble_eq_true rfl, Nat.le_of_ble_eq_true rfl⟩ rfl (Nat.le_of_ble_eq_true rfl) dX12_isSlot_6 (fun r6 U6 hw => ?_)
  obtain ⟨h01_6, hw⟩ := hw
  have hw := hw h01_6
  exact hret _ _ _ _ r6 () dX12_isSlot_9 (nz01 h01_6) ⟨h01_6, hw⟩ (Nat.le_of_ble_eq_true rfl) (Nat.le_of_ble_eq_true rfl)
set_option maxHeartbeats 4000000 in
set_option maxRecDepth 100000 in
theorem kX12_cut {l : Launch} {E : VE} (x0 : Int64) (x1 : Int32) {Q : Int64 → Prop} (hw : qX12_cut x0 x1 Q) : ML l yX12_cut cX12_cut 4 0 0 0 E [.long x0, .int x1] ([]) (fun (_ : Unit) => ([] : va_W)) (fun (r : Int64) (_ : Unit) => Q r) := by
  refine ML.of (own := RX12) (by decide) rfl (Nat.le_of_ble_eq_true rfl) ?_
  intro X C hini hret
  show VV X 0 0 ([]) [(0, .long x0), (2, .int x1)] 0 []
  unfold qX12_cut at hw
  refine v_bipush (v := 64) C dX12_cut_0 (by decide) ?_
  refine v_bipush (v := 8) C dX12_cut_2 (by decide) ?_
  refine v_iload_n C dX12_cut_4 1 rfl ?_
  refine v_ishl C dX12_cut_5 ?_
  refine v_isub C dX12_cut_6 ?_
  refine v_istore_n (lv' := [(3, .int (64 - ((8 : Int32) <<< (x1 &&& 31)))), (0, .long x0), (2, .int x1)]) C dX12_cut_7 (by decide) rfl ?_
  refine v_lload_n C dX12_cut_8 1 rfl ?_
  refine v_iload_n C dX12_cut_9 0 rfl ?_
  refine v_lshl C dX12_cut_10 ?_
  refine v_iload_n C dX12_cut_11 0 rfl ?_
  refine v_lshr C dX12_cut_12 ?_
  exact hret _ _ _ _ ((x0 <<< ((64 - ((8 : Int32) <<< (x1 &&& 31))).toInt64 &&& 63)) >>> ((64 - ((8 : Int32) <<< (x1 &&& 31))).toInt64 &&& 63)) () dX12_cut_13 hw (Nat.le_of_ble_eq_true rfl) (Nat.le_of_ble_eq_true rfl)
set_option maxHeartbeats 4000000 in
set_option maxRecDepth 100000 in
theorem jX12_row_52 {X : VX} {E : VE} {l : Launch} (h0 : Nat) (a0 : Nat → Nat)  (Q : Int32 → Md → Prop) (C : VC X cX12_row 5 RX12 (rmL 2 0 0) E l) (hret : RetI X cX12_row .int 0 0 (fun (U : Md) => [wX12 E h0 a0 U].flatten) (fun (r : Int32) (U : Md) => Q r U))  : ∀ (n : Nat), ∀ (u0 : Md) (y1 : Int32) (y4 : Int32), qX12_row_52 Q n u0 y1 y4 → VV X 0 0 ([wX12 E h0 a0 u0].flatten) [(0, .ref h0), (1, .int y1), (4, .int y4)] 52 [] := by
  intro n
  induction n with
  | zero =>
    intro u0 y1 y4 hw
    exact hw.elim
  | succ n ih =>
    intro u0 y1 y4 hw
    unfold qX12_row_52 at hw
    refine v_iload C dX12_row_52 2 rfl ?_
    refine v_bipush (v := 60) C dX12_row_54 (by decide) ?_
    refine v_icmp_ge (tgt := 78) C dX12_row_56 (by decide) (fun hc => ?_) (fun hc => ?_)
    · have hw := hw.1 hc
      refine v_iconst (v := 0) C dX12_row_78 (by decide) ?_
      exact hret _ _ _ _ 0 u0 dX12_row_79 rfl hw (Nat.le_of_ble_eq_true rfl) (Nat.le_of_ble_eq_true rfl)
    · have hw := hw.2 hc
      refine v_aload_n C dX12_row_59 0 rfl ?_
      refine v_get (ci := 12) C inT12 0 50 rfl rfl (by decide) mF_X12_113_X12_50 rfl dX12_row_60 ?_
      refine v_bipush (v := 60) C dX12_row_63 (by decide) ?_
      refine v_iload_n C dX12_row_65 1 rfl ?_
      refine v_imul C dX12_row_66 ?_
      refine v_iload C dX12_row_67 2 rfl ?_
      refine v_iadd C dX12_row_69 ?_
      refine v_lconst (v := 0) C dX12_row_70 (by decide) ?_
      obtain ⟨hi71, hw⟩ := hw
      obtain ⟨w71, e71⟩ : ∃ z : Md, z = tL u0 50 ((60 * y1) + y4) 0 := ⟨_, rfl⟩
      have hw := hw w71 e71
      refine v_last (ws' := [wX12 E h0 a0 w71].flatten) C 31 rfl hi71 (by rw [e71]; rfl) dX12_row_71 ?_
      refine v_iinc (lv' := [(4, .int (y4 + Int32.ofInt 1)), (0, .ref h0), (1, .int y1)]) C dX12_row_72 2 rfl (by decide) rfl ?_
      refine v_goto (tgt := 52) C dX12_row_75 (by decide) ?_
      refine v_lv C (lv' := [(0, .ref h0), (1, .int y1), (4, .int (y4 + Int32.ofInt 1))]) [1, 2, 0] rfl ?_
      exact ih w71 y1 (y4 + Int32.ofInt 1) hw
set_option maxHeartbeats 4000000 in
set_option maxRecDepth 100000 in
theorem kX12_row {l : Launch} {E : VE} (h0 : Nat) (a0 : Nat → Nat) (u0 : Md) (x1 : Int32) (x2 : Int32) (x3 : Int32) {Q : Int32 → Md → Prop} (hw : qX12_row u0 x1 x2 x3 Q) : MI l yX12_row cX12_row 5 .int 2 0 0 E [.ref h0, .int x1, .int x2, .int x3] ([wX12 E h0 a0 u0].flatten) (fun (U : Md) => [wX12 E h0 a0 U].flatten) (fun (r : Int32) (U : Md) => Q r U) := by
  refine MI.of (own := RX12) (by decide) rfl (Nat.le_of_ble_eq_true rfl) ?_
  intro X C hini hret
  show VV X 0 0 ([wX12 E h0 a0 u0].flatten) [(0, .ref h0), (1, .int x1), (2, .int x2), (3, .int x3)] 0 []
  unfold qX12_row at hw
  refine v_iload_n C dX12_row_0 1 rfl ?_
  refine v_callSPi (st := []) C (kX12_isSlot _ hw) mM_X12_459 mI_X12 mC_X12_isSlot mT_X12_isSlot hd_X12_isSlot ⟨Nat.le_of_ble_eq_true rfl, Nat.le_of_ble_eq_true rfl⟩ ⟨Nat.le_of_ble_eq_true rfl, Nat.le_of_ble_eq_true rfl⟩ rfl (Nat.le_of_ble_eq_true rfl) dX12_row_1 (fun r1 U1 hw => ?_)
  obtain ⟨h01_1, hw⟩ := hw
  have hw := hw h01_1
  refine v_if_eq (tgt := 25) C dX12_row_4 (by decide) (fun hc => ?_) (fun hc => ?_)
  · have hw := hw.1 hc
    refine v_bipush (v := (-2)) C dX12_row_25 (by decide) ?_
    exact hret _ _ _ _ ((-2)) u0 dX12_row_27 rfl hw (Nat.le_of_ble_eq_true rfl) (Nat.le_of_ble_eq_true rfl)
  · have hw := hw.2 hc
    refine v_iload_n C dX12_row_7 2 rfl ?_
    refine v_i2l C dX12_row_8 ?_
    refine v_lconst (v := 0) C dX12_row_9 (by decide) ?_
    refine v_ldc2 C mJ_X12_457 dX12_row_10 ?_
    refine v_callSPi (st := []) C (kX12_in _ _ _ hw) mM_X12_125 mI_X12 mC_X12_in mT_X12_in hd_X12_in ⟨Nat.le_of_ble_eq_true rfl, Nat.le_of_ble_eq_true rfl⟩ ⟨Nat.le_of_ble_eq_true rfl, Nat.le_of_ble_eq_true rfl⟩ rfl (Nat.le_of_ble_eq_true rfl) dX12_row_13 (fun r13 U13 hw => ?_)
    obtain ⟨h01_13, hw⟩ := hw
    have hw := hw h01_13
    refine v_if_eq (tgt := 25) C dX12_row_16 (by decide) (fun hc => ?_) (fun hc => ?_)
    · have hw := hw.1 hc
      refine v_bipush (v := (-2)) C dX12_row_25 (by decide) ?_
      exact hret _ _ _ _ ((-2)) u0 dX12_row_27 rfl hw (Nat.le_of_ble_eq_true rfl) (Nat.le_of_ble_eq_true rfl)
    · have hw := hw.2 hc
      refine v_iload_n C dX12_row_19 3 rfl ?_
      refine v_bipush (v := 60) C dX12_row_20 (by decide) ?_
      refine v_icmp_le (tgt := 28) C dX12_row_22 (by decide) (fun hc => ?_) (fun hc => ?_)
      · have hw := hw.1 hc
        refine v_iload_n C dX12_row_28 3 rfl ?_
        refine v_if_ge (tgt := 35) C dX12_row_29 (by decide) (fun hc => ?_) (fun hc => ?_)
        · have hw := hw.1 hc
          refine v_aload_n C dX12_row_35 0 rfl ?_
          refine v_get (ci := 12) C inT12 0 48 rfl rfl (by decide) mF_X12_107_X12_48 rfl dX12_row_36 ?_
          refine v_iload_n C dX12_row_39 1 rfl ?_
          refine v_iload_n C dX12_row_40 3 rfl ?_
          obtain ⟨hi41, hw⟩ := hw
          obtain ⟨w41, e41⟩ : ∃ z : Md, z = tA u0 48 x1 x3 := ⟨_, rfl⟩
          have hw := hw w41 e41
          refine v_iast (ws' := [wX12 E h0 a0 w41].flatten) C 29 rfl hi41 (by rw [e41]; rfl) dX12_row_41 ?_
          refine v_aload_n C dX12_row_42 0 rfl ?_
          refine v_get (ci := 12) C inT12 0 49 rfl rfl (by decide) mF_X12_110_X12_49 rfl dX12_row_43 ?_
          refine v_iload_n C dX12_row_46 1 rfl ?_
          refine v_iload_n C dX12_row_47 2 rfl ?_
          obtain ⟨hi48, hw⟩ := hw
          obtain ⟨w48, e48⟩ : ∃ z : Md, z = tA w41 49 x1 x2 := ⟨_, rfl⟩
          have hw := hw w48 e48
          refine v_iast (ws' := [wX12 E h0 a0 w48].flatten) C 30 rfl hi48 (by rw [e48]; rfl) dX12_row_48 ?_
          refine v_iconst (v := 0) C dX12_row_49 (by decide) ?_
          refine v_istore (lv' := [(4, .int 0), (0, .ref h0), (1, .int x1), (2, .int x2), (3, .int x3)]) C dX12_row_50 (by decide) rfl ?_
          refine v_lv C (lv' := [(0, .ref h0), (1, .int x1), (4, .int 0)]) [1, 2, 0] rfl ?_
          obtain ⟨n', hw⟩ := hw
          exact jX12_row_52 h0 a0 Q C hret n' w48 x1 0 hw
        · have hw := hw.2 hc
          refine v_bipush (v := (-3)) C dX12_row_32 (by decide) ?_
          exact hret _ _ _ _ ((-3)) u0 dX12_row_34 rfl hw (Nat.le_of_ble_eq_true rfl) (Nat.le_of_ble_eq_true rfl)
      · have hw := hw.2 hc
        refine v_bipush (v := (-2)) C dX12_row_25 (by decide) ?_
        exact hret _ _ _ _ ((-2)) u0 dX12_row_27 rfl hw (Nat.le_of_ble_eq_true rfl) (Nat.le_of_ble_eq_true rfl)
set_option maxHeartbeats 4000000 in
set_option maxRecDepth 100000 in
theorem kX12_tear {l : Launch} {E : VE} (h0 : Nat) (a0 : Nat → Nat) (u0 : Md) (x1 : Int32) {Q : Int32 → Md → Prop} (hw : qX12_tear u0 x1 Q) : MI l yX12_tear cX12_tear 2 .boolean 2 0 0 E [.ref h0, .int x1] ([wX12 E h0 a0 u0].flatten) (fun (U : Md) => [wX12 E h0 a0 U].flatten) (fun (r : Int32) (U : Md) => (r = 0 ∨ r = 1) ∧ Q r U) := by
  refine MI.of (own := RX12) (by decide) rfl (Nat.le_of_ble_eq_true rfl) ?_
  intro X C hini hret
  show VV X 0 0 ([wX12 E h0 a0 u0].flatten) [(0, .ref h0), (1, .int x1)] 0 []
  unfold qX12_tear at hw
  refine v_iload_n C dX12_tear_0 1 rfl ?_
  refine v_callSPi (st := []) C (kX12_isSlot _ hw) mM_X12_459 mI_X12 mC_X12_isSlot mT_X12_isSlot hd_X12_isSlot ⟨Nat.le_of_ble_eq_true rfl, Nat.le_of_ble_eq_true rfl⟩ ⟨Nat.le_of_ble_eq_true rfl, Nat.le_of_ble_eq_true rfl⟩ rfl (Nat.le_of_ble_eq_true rfl) dX12_tear_1 (fun r1 U1 hw => ?_)
  obtain ⟨h01_1, hw⟩ := hw
  have hw := hw h01_1
  refine v_if_eq (tgt := 17) C dX12_tear_4 (by decide) (fun hc => ?_) (fun hc => ?_)
  · have hw := hw.1 hc
    refine v_iconst (v := 0) C dX12_tear_17 (by decide) ?_
    exact hret _ _ _ _ 0 u0 dX12_tear_18 rfl ⟨Or.inl rfl, hw⟩ (Nat.le_of_ble_eq_true rfl) (Nat.le_of_ble_eq_true rfl)
  · have hw := hw.2 hc
    refine v_aload_n C dX12_tear_7 0 rfl ?_
    refine v_get (ci := 12) C inT12 0 48 rfl rfl (by decide) mF_X12_107_X12_48 rfl dX12_tear_8 ?_
    refine v_iload_n C dX12_tear_11 1 rfl ?_
    obtain ⟨hi12, hw⟩ := hw
    refine v_iald C 29 rfl hi12 dX12_tear_12 ?_
    refine v_iconst (v := (-1)) C dX12_tear_13 (by decide) ?_
    refine v_icmp_ne (tgt := 19) C dX12_tear_14 (by decide) (fun hc => ?_) (fun hc => ?_)
    · have hw := hw.1 hc
      refine v_aload_n C dX12_tear_19 0 rfl ?_
      refine v_get (ci := 12) C inT12 0 48 rfl rfl (by decide) mF_X12_107_X12_48 rfl dX12_tear_20 ?_
      refine v_iload_n C dX12_tear_23 1 rfl ?_
      refine v_iconst (v := (-1)) C dX12_tear_24 (by decide) ?_
      obtain ⟨hi25, hw⟩ := hw
      obtain ⟨w25, e25⟩ : ∃ z : Md, z = tA u0 48 x1 ((-1)) := ⟨_, rfl⟩
      have hw := hw w25 e25
      refine v_iast (ws' := [wX12 E h0 a0 w25].flatten) C 29 rfl hi25 (by rw [e25]; rfl) dX12_tear_25 ?_
      refine v_iconst (v := 1) C dX12_tear_26 (by decide) ?_
      exact hret _ _ _ _ 1 w25 dX12_tear_27 rfl ⟨Or.inr rfl, hw⟩ (Nat.le_of_ble_eq_true rfl) (Nat.le_of_ble_eq_true rfl)
    · have hw := hw.2 hc
      refine v_iconst (v := 0) C dX12_tear_17 (by decide) ?_
      exact hret _ _ _ _ 0 u0 dX12_tear_18 rfl ⟨Or.inl rfl, hw⟩ (Nat.le_of_ble_eq_true rfl) (Nat.le_of_ble_eq_true rfl)
set_option maxHeartbeats 4000000 in
set_option maxRecDepth 100000 in
theorem kX12_write {l : Launch} {E : VE} (h0 : Nat) (a0 : Nat → Nat) (u0 : Md) (x1 : Int32) (x2 : Int32) (x3 : Int64) {Q : Int32 → Md → Prop} (hw : qX12_write u0 x1 x2 x3 Q) : MI l yX12_write cX12_write 5 .int 2 0 0 E [.ref h0, .int x1, .int x2, .long x3] ([wX12 E h0 a0 u0].flatten) (fun (U : Md) => [wX12 E h0 a0 U].flatten) (fun (r : Int32) (U : Md) => Q r U) := by
  refine MI.of (own := RX12) (by decide) rfl (Nat.le_of_ble_eq_true rfl) ?_
  intro X C hini hret
  show VV X 0 0 ([wX12 E h0 a0 u0].flatten) [(0, .ref h0), (1, .int x1), (2, .int x2), (3, .long x3)] 0 []
  unfold qX12_write at hw
  refine v_iload_n C dX12_write_0 1 rfl ?_
  refine v_callSPi (st := []) C (kX12_isSlot _ hw) mM_X12_459 mI_X12 mC_X12_isSlot mT_X12_isSlot hd_X12_isSlot ⟨Nat.le_of_ble_eq_true rfl, Nat.le_of_ble_eq_true rfl⟩ ⟨Nat.le_of_ble_eq_true rfl, Nat.le_of_ble_eq_true rfl⟩ rfl (Nat.le_of_ble_eq_true rfl) dX12_write_1 (fun r1 U1 hw => ?_)
  obtain ⟨h01_1, hw⟩ := hw
  have hw := hw h01_1
  refine v_if_ne (tgt := 10) C dX12_write_4 (by decide) (fun hc => ?_) (fun hc => ?_)
  · have hw := hw.1 hc
    refine v_aload_n C dX12_write_10 0 rfl ?_
    refine v_get (ci := 12) C inT12 0 48 rfl rfl (by decide) mF_X12_107_X12_48 rfl dX12_write_11 ?_
    refine v_iload_n C dX12_write_14 1 rfl ?_
    obtain ⟨hi15, hw⟩ := hw
    refine v_iald C 29 rfl hi15 dX12_write_15 ?_
    refine v_iconst (v := (-1)) C dX12_write_16 (by decide) ?_
    refine v_icmp_ne (tgt := 23) C dX12_write_17 (by decide) (fun hc => ?_) (fun hc => ?_)
    · have hw := hw.1 hc
      refine v_iload_n C dX12_write_23 2 rfl ?_
      refine v_i2l C dX12_write_24 ?_
      refine v_lconst (v := 0) C dX12_write_25 (by decide) ?_
      refine v_aload_n C dX12_write_26 0 rfl ?_
      refine v_get (ci := 12) C inT12 0 48 rfl rfl (by decide) mF_X12_107_X12_48 rfl dX12_write_27 ?_
      refine v_iload_n C dX12_write_30 1 rfl ?_
      obtain ⟨hi31, hw⟩ := hw
      refine v_iald C 29 rfl hi31 dX12_write_31 ?_
      refine v_iconst (v := 1) C dX12_write_32 (by decide) ?_
      refine v_isub C dX12_write_33 ?_
      refine v_i2l C dX12_write_34 ?_
      refine v_callSPi (st := []) C (kX12_in _ _ _ hw) mM_X12_125 mI_X12 mC_X12_in mT_X12_in hd_X12_in ⟨Nat.le_of_ble_eq_true rfl, Nat.le_of_ble_eq_true rfl⟩ ⟨Nat.le_of_ble_eq_true rfl, Nat.le_of_ble_eq_true rfl⟩ rfl (Nat.le_of_ble_eq_true rfl) dX12_write_35 (fun r35 U35 hw => ?_)
      obtain ⟨h01_35, hw⟩ := hw
      have hw := hw h01_35
      refine v_if_ne (tgt := 44) C dX12_write_38 (by decide) (fun hc => ?_) (fun hc => ?_)
      · have hw := hw.1 hc
        refine v_aload_n C dX12_write_44 0 rfl ?_
        refine v_get (ci := 12) C inT12 0 50 rfl rfl (by decide) mF_X12_113_X12_50 rfl dX12_write_45 ?_
        refine v_bipush (v := 60) C dX12_write_48 (by decide) ?_
        refine v_iload_n C dX12_write_50 1 rfl ?_
        refine v_imul C dX12_write_51 ?_
        refine v_iload_n C dX12_write_52 2 rfl ?_
        refine v_iadd C dX12_write_53 ?_
        refine v_lload_n C dX12_write_54 3 rfl ?_
        refine v_aload_n C dX12_write_55 0 rfl ?_
        refine v_get (ci := 12) C inT12 0 49 rfl rfl (by decide) mF_X12_110_X12_49 rfl dX12_write_56 ?_
        refine v_iload_n C dX12_write_59 1 rfl ?_
        obtain ⟨hi60, hw⟩ := hw
        refine v_iald C 30 rfl hi60 dX12_write_60 ?_
        refine v_callSPl (st := [.int ((60 * x1) + x2), .ref ((a0 50))]) C (kX12_cut _ _ hw) mM_X12_462 mI_X12 mC_X12_cut mT_X12_cut hd_X12_cut ⟨Nat.le_of_ble_eq_true rfl, Nat.le_of_ble_eq_true rfl⟩ ⟨Nat.le_of_ble_eq_true rfl, Nat.le_of_ble_eq_true rfl⟩ rfl (Nat.le_of_ble_eq_true rfl) dX12_write_61 (fun r61 U61 hw => ?_)
        obtain ⟨hi64, hw⟩ := hw
        obtain ⟨w64, e64⟩ : ∃ z : Md, z = tL u0 50 ((60 * x1) + x2) r61 := ⟨_, rfl⟩
        have hw := hw w64 e64
        refine v_last (ws' := [wX12 E h0 a0 w64].flatten) C 31 rfl hi64 (by rw [e64]; rfl) dX12_write_64 ?_
        refine v_iconst (v := 0) C dX12_write_65 (by decide) ?_
        exact hret _ _ _ _ 0 w64 dX12_write_66 rfl hw (Nat.le_of_ble_eq_true rfl) (Nat.le_of_ble_eq_true rfl)
      · have hw := hw.2 hc
        refine v_bipush (v := (-7)) C dX12_write_41 (by decide) ?_
        exact hret _ _ _ _ ((-7)) u0 dX12_write_43 rfl hw (Nat.le_of_ble_eq_true rfl) (Nat.le_of_ble_eq_true rfl)
    · have hw := hw.2 hc
      refine v_bipush (v := (-6)) C dX12_write_20 (by decide) ?_
      exact hret _ _ _ _ ((-6)) u0 dX12_write_22 rfl hw (Nat.le_of_ble_eq_true rfl) (Nat.le_of_ble_eq_true rfl)
  · have hw := hw.2 hc
    refine v_bipush (v := (-2)) C dX12_write_7 (by decide) ?_
    exact hret _ _ _ _ ((-2)) u0 dX12_write_9 rfl hw (Nat.le_of_ble_eq_true rfl) (Nat.le_of_ble_eq_true rfl)
set_option maxHeartbeats 4000000 in
set_option maxRecDepth 100000 in
theorem jX12_paste_150 {X : VX} {E : VE} {l : Launch} (h0 : Nat) (a0 : Nat → Nat)  (Q : Int32 → Md → Prop) (C : VC X cX12_paste 7 RX12 (rmL 2 0 0) E l) (hret : RetI X cX12_paste .int 0 0 (fun (U : Md) => [wX12 E h0 a0 U].flatten) (fun (r : Int32) (U : Md) => Q r U))  : ∀ (n : Nat), ∀ (u0 : Md) (y3 : Int32) (y4 : Int32) (y5 : Int32) (y6 : Int32), qX12_paste_150 Q n u0 y3 y4 y5 y6 → VV X 0 0 ([wX12 E h0 a0 u0].flatten) [(0, .ref h0), (3, .int y3), (4, .int y4), (5, .int y5), (6, .int y6)] 150 [] := by
  intro n
  induction n with
  | zero =>
    intro u0 y3 y4 y5 y6 hw
    exact hw.elim
  | succ n ih =>
    intro u0 y3 y4 y5 y6 hw
    unfold qX12_paste_150 at hw
    refine v_iload C dX12_paste_150 4 rfl ?_
    refine v_iload C dX12_paste_152 3 rfl ?_
    refine v_icmp_ge (tgt := 185) C dX12_paste_154 (by decide) (fun hc => ?_) (fun hc => ?_)
    · have hw := hw.1 hc
      refine v_iconst (v := 0) C dX12_paste_185 (by decide) ?_
      exact hret _ _ _ _ 0 u0 dX12_paste_186 rfl hw (Nat.le_of_ble_eq_true rfl) (Nat.le_of_ble_eq_true rfl)
    · have hw := hw.2 hc
      refine v_aload_n C dX12_paste_157 0 rfl ?_
      refine v_get (ci := 12) C inT12 0 50 rfl rfl (by decide) mF_X12_113_X12_50 rfl dX12_paste_158 ?_
      refine v_bipush (v := 60) C dX12_paste_161 (by decide) ?_
      refine v_iload_n C dX12_paste_163 1 rfl ?_
      refine v_imul C dX12_paste_164 ?_
      refine v_iload C dX12_paste_165 2 rfl ?_
      refine v_iadd C dX12_paste_167 ?_
      refine v_iload C dX12_paste_168 4 rfl ?_
      refine v_iadd C dX12_paste_170 ?_
      refine v_aload_n C dX12_paste_171 0 rfl ?_
      refine v_get (ci := 12) C inT12 0 51 rfl rfl (by decide) mF_X12_117_X12_51 rfl dX12_paste_172 ?_
      refine v_iload C dX12_paste_175 4 rfl ?_
      obtain ⟨hi177, hw⟩ := hw
      refine v_lald C 32 rfl hi177 dX12_paste_177 ?_
      obtain ⟨hi178, hw⟩ := hw
      obtain ⟨w178, e178⟩ : ∃ z : Md, z = tL u0 50 (((60 * y3) + y4) + y6) (gL u0 51 y6.toNatClampNeg) := ⟨_, rfl⟩
      have hw := hw w178 e178
      refine v_last (ws' := [wX12 E h0 a0 w178].flatten) C 31 rfl hi178 (by rw [e178]; rfl) dX12_paste_178 ?_
      refine v_iinc (lv' := [(6, .int (y6 + Int32.ofInt 1)), (0, .ref h0), (3, .int y3), (4, .int y4), (5, .int y5)]) C dX12_paste_179 4 rfl (by decide) rfl ?_
      refine v_goto (tgt := 150) C dX12_paste_182 (by decide) ?_
      refine v_lv C (lv' := [(0, .ref h0), (3, .int y3), (4, .int y4), (5, .int y5), (6, .int (y6 + Int32.ofInt 1))]) [1, 2, 3, 4, 0] rfl ?_
      exact ih w178 y3 y4 y5 (y6 + Int32.ofInt 1) hw
set_option maxHeartbeats 4000000 in
set_option maxRecDepth 100000 in
theorem jX12_paste_113 {X : VX} {E : VE} {l : Launch} (h0 : Nat) (a0 : Nat → Nat)  (Q : Int32 → Md → Prop) (C : VC X cX12_paste 7 RX12 (rmL 2 0 0) E l) (hret : RetI X cX12_paste .int 0 0 (fun (U : Md) => [wX12 E h0 a0 U].flatten) (fun (r : Int32) (U : Md) => Q r U))  : ∀ (n : Nat), ∀ (u0 : Md) (y1 : Int32) (y2 : Int32) (y3 : Int32) (y4 : Int32) (y5 : Int32) (y6 : Int32), qX12_paste_113 Q n u0 y1 y2 y3 y4 y5 y6 → VV X 0 0 ([wX12 E h0 a0 u0].flatten) [(0, .ref h0), (1, .int y1), (2, .int y2), (3, .int y3), (4, .int y4), (5, .int y5), (6, .int y6)] 113 [] := by
  intro n
  induction n with
  | zero =>
    intro u0 y1 y2 y3 y4 y5 y6 hw
    exact hw.elim
  | succ n ih =>
    intro u0 y1 y2 y3 y4 y5 y6 hw
    unfold qX12_paste_113 at hw
    refine v_iload C dX12_paste_113 6 rfl ?_
    refine v_iload C dX12_paste_115 5 rfl ?_
    refine v_icmp_ge (tgt := 147) C dX12_paste_117 (by decide) (fun hc => ?_) (fun hc => ?_)
    · have hw := hw.1 hc
      refine v_iconst (v := 0) C dX12_paste_147 (by decide) ?_
      refine v_istore (lv' := [(6, .int 0), (0, .ref h0), (1, .int y1), (2, .int y2), (3, .int y3), (4, .int y4), (5, .int y5)]) C dX12_paste_148 (by decide) rfl ?_
      refine v_lv C (lv' := [(0, .ref h0), (3, .int y3), (4, .int y4), (5, .int y5), (6, .int 0)]) [1, 4, 5, 6, 0] rfl ?_
      obtain ⟨n', hw⟩ := hw
      exact jX12_paste_150 h0 a0 Q C hret n' u0 y3 y4 y5 0 hw
    · have hw := hw.2 hc
      refine v_aload_n C dX12_paste_120 0 rfl ?_
      refine v_get (ci := 12) C inT12 0 51 rfl rfl (by decide) mF_X12_117_X12_51 rfl dX12_paste_121 ?_
      refine v_iload C dX12_paste_124 6 rfl ?_
      refine v_aload_n C dX12_paste_126 0 rfl ?_
      refine v_get (ci := 12) C inT12 0 50 rfl rfl (by decide) mF_X12_113_X12_50 rfl dX12_paste_127 ?_
      refine v_bipush (v := 60) C dX12_paste_130 (by decide) ?_
      refine v_iload_n C dX12_paste_132 1 rfl ?_
      refine v_imul C dX12_paste_133 ?_
      refine v_iload_n C dX12_paste_134 2 rfl ?_
      refine v_iadd C dX12_paste_135 ?_
      refine v_iload C dX12_paste_136 6 rfl ?_
      refine v_iadd C dX12_paste_138 ?_
      obtain ⟨hi139, hw⟩ := hw
      refine v_lald C 31 rfl hi139 dX12_paste_139 ?_
      obtain ⟨hi140, hw⟩ := hw
      obtain ⟨w140, e140⟩ : ∃ z : Md, z = tL u0 51 y6 (gL u0 50 (((60 * y1) + y2) + y6).toNatClampNeg) := ⟨_, rfl⟩
      have hw := hw w140 e140
      refine v_last (ws' := [wX12 E h0 a0 w140].flatten) C 32 rfl hi140 (by rw [e140]; rfl) dX12_paste_140 ?_
      refine v_iinc (lv' := [(6, .int (y6 + Int32.ofInt 1)), (0, .ref h0), (1, .int y1), (2, .int y2), (3, .int y3), (4, .int y4), (5, .int y5)]) C dX12_paste_141 6 rfl (by decide) rfl ?_
      refine v_goto (tgt := 113) C dX12_paste_144 (by decide) ?_
      refine v_lv C (lv' := [(0, .ref h0), (1, .int y1), (2, .int y2), (3, .int y3), (4, .int y4), (5, .int y5), (6, .int (y6 + Int32.ofInt 1))]) [1, 2, 3, 4, 5, 6, 0] rfl ?_
      exact ih w140 y1 y2 y3 y4 y5 (y6 + Int32.ofInt 1) hw
set_option maxHeartbeats 4000000 in
set_option maxRecDepth 100000 in
theorem kX12_paste {l : Launch} {E : VE} (h0 : Nat) (a0 : Nat → Nat) (u0 : Md) (x1 : Int32) (x2 : Int32) (x3 : Int32) (x4 : Int32) (x5 : Int32) {Q : Int32 → Md → Prop} (hw : qX12_paste u0 x1 x2 x3 x4 x5 Q) : MI l yX12_paste cX12_paste 7 .int 2 0 0 E [.ref h0, .int x1, .int x2, .int x3, .int x4, .int x5] ([wX12 E h0 a0 u0].flatten) (fun (U : Md) => [wX12 E h0 a0 U].flatten) (fun (r : Int32) (U : Md) => Q r U) := by
  refine MI.of (own := RX12) (by decide) rfl (Nat.le_of_ble_eq_true rfl) ?_
  intro X C hini hret
  show VV X 0 0 ([wX12 E h0 a0 u0].flatten) [(0, .ref h0), (1, .int x1), (2, .int x2), (3, .int x3), (4, .int x4), (5, .int x5)] 0 []
  unfold qX12_paste at hw
  refine v_iload_n C dX12_paste_0 1 rfl ?_
  refine v_callSPi (st := []) C (kX12_isSlot _ hw) mM_X12_459 mI_X12 mC_X12_isSlot mT_X12_isSlot hd_X12_isSlot ⟨Nat.le_of_ble_eq_true rfl, Nat.le_of_ble_eq_true rfl⟩ ⟨Nat.le_of_ble_eq_true rfl, Nat.le_of_ble_eq_true rfl⟩ rfl (Nat.le_of_ble_eq_true rfl) dX12_paste_1 (fun r1 U1 hw => ?_)
  obtain ⟨h01_1, hw⟩ := hw
  have hw := hw h01_1
  refine v_if_eq (tgt := 14) C dX12_paste_4 (by decide) (fun hc => ?_) (fun hc => ?_)
  · have hw := hw.1 hc
    refine v_bipush (v := (-2)) C dX12_paste_14 (by decide) ?_
    exact hret _ _ _ _ ((-2)) u0 dX12_paste_16 rfl hw (Nat.le_of_ble_eq_true rfl) (Nat.le_of_ble_eq_true rfl)
  · have hw := hw.2 hc
    refine v_iload_n C dX12_paste_7 3 rfl ?_
    refine v_callSPi (st := []) C (kX12_isSlot _ hw) mM_X12_459 mI_X12 mC_X12_isSlot mT_X12_isSlot hd_X12_isSlot ⟨Nat.le_of_ble_eq_true rfl, Nat.le_of_ble_eq_true rfl⟩ ⟨Nat.le_of_ble_eq_true rfl, Nat.le_of_ble_eq_true rfl⟩ rfl (Nat.le_of_ble_eq_true rfl) dX12_paste_8 (fun r8 U8 hw => ?_)
    obtain ⟨h01_8, hw⟩ := hw
    have hw := hw h01_8
    refine v_if_ne (tgt := 17) C dX12_paste_11 (by decide) (fun hc => ?_) (fun hc => ?_)
    · have hw := hw.1 hc
      refine v_aload_n C dX12_paste_17 0 rfl ?_
      refine v_get (ci := 12) C inT12 0 48 rfl rfl (by decide) mF_X12_107_X12_48 rfl dX12_paste_18 ?_
      refine v_iload_n C dX12_paste_21 1 rfl ?_
      obtain ⟨hi22, hw⟩ := hw
      refine v_iald C 29 rfl hi22 dX12_paste_22 ?_
      refine v_iconst (v := (-1)) C dX12_paste_23 (by decide) ?_
      refine v_icmp_eq (tgt := 37) C dX12_paste_24 (by decide) (fun hc => ?_) (fun hc => ?_)
      · have hw := hw.1 hc
        refine v_bipush (v := (-6)) C dX12_paste_37 (by decide) ?_
        exact hret _ _ _ _ ((-6)) u0 dX12_paste_39 rfl hw (Nat.le_of_ble_eq_true rfl) (Nat.le_of_ble_eq_true rfl)
      · have hw := hw.2 hc
        refine v_aload_n C dX12_paste_27 0 rfl ?_
        refine v_get (ci := 12) C inT12 0 48 rfl rfl (by decide) mF_X12_107_X12_48 rfl dX12_paste_28 ?_
        refine v_iload_n C dX12_paste_31 3 rfl ?_
        obtain ⟨hi32, hw⟩ := hw
        refine v_iald C 29 rfl hi32 dX12_paste_32 ?_
        refine v_iconst (v := (-1)) C dX12_paste_33 (by decide) ?_
        refine v_icmp_ne (tgt := 40) C dX12_paste_34 (by decide) (fun hc => ?_) (fun hc => ?_)
        · have hw := hw.1 hc
          refine v_aload_n C dX12_paste_40 0 rfl ?_
          refine v_get (ci := 12) C inT12 0 49 rfl rfl (by decide) mF_X12_110_X12_49 rfl dX12_paste_41 ?_
          refine v_iload_n C dX12_paste_44 1 rfl ?_
          obtain ⟨hi45, hw⟩ := hw
          refine v_iald C 30 rfl hi45 dX12_paste_45 ?_
          refine v_aload_n C dX12_paste_46 0 rfl ?_
          refine v_get (ci := 12) C inT12 0 49 rfl rfl (by decide) mF_X12_110_X12_49 rfl dX12_paste_47 ?_
          refine v_iload_n C dX12_paste_50 3 rfl ?_
          obtain ⟨hi51, hw⟩ := hw
          refine v_iald C 30 rfl hi51 dX12_paste_51 ?_
          refine v_icmp_eq (tgt := 58) C dX12_paste_52 (by decide) (fun hc => ?_) (fun hc => ?_)
          · have hw := hw.1 hc
            refine v_iload_n C dX12_paste_58 2 rfl ?_
            refine v_if_lt (tgt := 107) C dX12_paste_59 (by decide) (fun hc => ?_) (fun hc => ?_)
            · have hw := hw.1 hc
              refine v_bipush (v := (-7)) C dX12_paste_107 (by decide) ?_
              exact hret _ _ _ _ ((-7)) u0 dX12_paste_109 rfl hw (Nat.le_of_ble_eq_true rfl) (Nat.le_of_ble_eq_true rfl)
            · have hw := hw.2 hc
              refine v_iload C dX12_paste_62 4 rfl ?_
              refine v_if_lt (tgt := 107) C dX12_paste_64 (by decide) (fun hc => ?_) (fun hc => ?_)
              · have hw := hw.1 hc
                refine v_bipush (v := (-7)) C dX12_paste_107 (by decide) ?_
                exact hret _ _ _ _ ((-7)) u0 dX12_paste_109 rfl hw (Nat.le_of_ble_eq_true rfl) (Nat.le_of_ble_eq_true rfl)
              · have hw := hw.2 hc
                refine v_iload C dX12_paste_67 5 rfl ?_
                refine v_if_lt (tgt := 107) C dX12_paste_69 (by decide) (fun hc => ?_) (fun hc => ?_)
                · have hw := hw.1 hc
                  refine v_bipush (v := (-7)) C dX12_paste_107 (by decide) ?_
                  exact hret _ _ _ _ ((-7)) u0 dX12_paste_109 rfl hw (Nat.le_of_ble_eq_true rfl) (Nat.le_of_ble_eq_true rfl)
                · have hw := hw.2 hc
                  refine v_iload_n C dX12_paste_72 2 rfl ?_
                  refine v_i2l C dX12_paste_73 ?_
                  refine v_iload C dX12_paste_74 5 rfl ?_
                  refine v_i2l C dX12_paste_76 ?_
                  refine v_ladd C dX12_paste_77 rfl ?_
                  refine v_aload_n C dX12_paste_78 0 rfl ?_
                  refine v_get (ci := 12) C inT12 0 48 rfl rfl (by decide) mF_X12_107_X12_48 rfl dX12_paste_79 ?_
                  refine v_iload_n C dX12_paste_82 1 rfl ?_
                  obtain ⟨hi83, hw⟩ := hw
                  refine v_iald C 29 rfl hi83 dX12_paste_83 ?_
                  refine v_i2l C dX12_paste_84 ?_
                  refine v_lcmp C dX12_paste_85 ?_
                  refine v_if_gt (tgt := 107) C dX12_paste_86 (by decide) (fun hc => ?_) (fun hc => ?_)
                  · have hw := hw.1 hc
                    refine v_bipush (v := (-7)) C dX12_paste_107 (by decide) ?_
                    exact hret _ _ _ _ ((-7)) u0 dX12_paste_109 rfl hw (Nat.le_of_ble_eq_true rfl) (Nat.le_of_ble_eq_true rfl)
                  · have hw := hw.2 hc
                    refine v_iload C dX12_paste_89 4 rfl ?_
                    refine v_i2l C dX12_paste_91 ?_
                    refine v_iload C dX12_paste_92 5 rfl ?_
                    refine v_i2l C dX12_paste_94 ?_
                    refine v_ladd C dX12_paste_95 rfl ?_
                    refine v_aload_n C dX12_paste_96 0 rfl ?_
                    refine v_get (ci := 12) C inT12 0 48 rfl rfl (by decide) mF_X12_107_X12_48 rfl dX12_paste_97 ?_
                    refine v_iload_n C dX12_paste_100 3 rfl ?_
                    obtain ⟨hi101, hw⟩ := hw
                    refine v_iald C 29 rfl hi101 dX12_paste_101 ?_
                    refine v_i2l C dX12_paste_102 ?_
                    refine v_lcmp C dX12_paste_103 ?_
                    refine v_if_le (tgt := 110) C dX12_paste_104 (by decide) (fun hc => ?_) (fun hc => ?_)
                    · have hw := hw.1 hc
                      refine v_iconst (v := 0) C dX12_paste_110 (by decide) ?_
                      refine v_istore (lv' := [(6, .int 0), (0, .ref h0), (1, .int x1), (2, .int x2), (3, .int x3), (4, .int x4), (5, .int x5)]) C dX12_paste_111 (by decide) rfl ?_
                      refine v_lv C (lv' := [(0, .ref h0), (1, .int x1), (2, .int x2), (3, .int x3), (4, .int x4), (5, .int x5), (6, .int 0)]) [1, 2, 3, 4, 5, 6, 0] rfl ?_
                      obtain ⟨n', hw⟩ := hw
                      exact jX12_paste_113 h0 a0 Q C hret n' u0 x1 x2 x3 x4 x5 0 hw
                    · have hw := hw.2 hc
                      refine v_bipush (v := (-7)) C dX12_paste_107 (by decide) ?_
                      exact hret _ _ _ _ ((-7)) u0 dX12_paste_109 rfl hw (Nat.le_of_ble_eq_true rfl) (Nat.le_of_ble_eq_true rfl)
          · have hw := hw.2 hc
            refine v_bipush (v := (-8)) C dX12_paste_55 (by decide) ?_
            exact hret _ _ _ _ ((-8)) u0 dX12_paste_57 rfl hw (Nat.le_of_ble_eq_true rfl) (Nat.le_of_ble_eq_true rfl)
        · have hw := hw.2 hc
          refine v_bipush (v := (-6)) C dX12_paste_37 (by decide) ?_
          exact hret _ _ _ _ ((-6)) u0 dX12_paste_39 rfl hw (Nat.le_of_ble_eq_true rfl) (Nat.le_of_ble_eq_true rfl)
    · have hw := hw.2 hc
      refine v_bipush (v := (-2)) C dX12_paste_14 (by decide) ?_
      exact hret _ _ _ _ ((-2)) u0 dX12_paste_16 rfl hw (Nat.le_of_ble_eq_true rfl) (Nat.le_of_ble_eq_true rfl)
set_option maxHeartbeats 4000000 in
set_option maxRecDepth 100000 in
theorem jX12_counted_89 {X : VX} {E : VE} {l : Launch} (h0 : Nat) (a0 : Nat → Nat)  (Q : Int32 → Md → Prop) (C : VC X cX12_counted 6 RX12 (rmL 3 0 0) E l) (hret : RetI X cX12_counted .int 0 0 (fun (U : Md) => [wX12 E h0 a0 U].flatten) (fun (r : Int32) (U : Md) => Q r U)) (K30 : Md → Int32 → Int32 → Int32 → Prop) (K53 : Md → Int32 → Int32 → Int32 → Int32 → Int32 → Prop) (hK30 : ∀ (u0 : Md) (y1 : Int32) (y2 : Int32) (y3 : Int32), K30 u0 y1 y2 y3 → VV X 0 0 ([wX12 E h0 a0 u0].flatten) [(0, .ref h0), (1, .int y1), (2, .int y2), (3, .int y3)] 30 []) (hK53 : ∀ (u0 : Md) (y1 : Int32) (y2 : Int32) (y3 : Int32) (y4 : Int32) (y5 : Int32), K53 u0 y1 y2 y3 y4 y5 → VV X 0 0 ([wX12 E h0 a0 u0].flatten) [(0, .ref h0), (1, .int y1), (2, .int y2), (3, .int y3), (4, .int y4), (5, .int y5)] 53 []) : ∀ (u0 : Md) (y1 : Int32) (y2 : Int32) (y3 : Int32) (y5 : Int32), qX12_counted_89 Q K30 K53 u0 y1 y2 y3 y5 → VV X 0 0 ([wX12 E h0 a0 u0].flatten) [(0, .ref h0), (1, .int y1), (2, .int y2), (3, .int y3), (5, .int y5)] 89 [] := by
  intro u0 y1 y2 y3 y5 hw
  unfold qX12_counted_89 at hw
  refine v_iconst (v := 0) C dX12_counted_89 (by decide) ?_
  refine v_istore (lv' := [(4, .int 0), (0, .ref h0), (1, .int y1), (2, .int y2), (3, .int y3), (5, .int y5)]) C dX12_counted_90 (by decide) rfl ?_
  refine v_iinc (lv' := [(5, .int (y5 + Int32.ofInt 1)), (4, .int 0), (0, .ref h0), (1, .int y1), (2, .int y2), (3, .int y3)]) C dX12_counted_92 5 rfl (by decide) rfl ?_
  refine v_goto (tgt := 53) C dX12_counted_95 (by decide) ?_
  refine v_lv C (lv' := [(0, .ref h0), (1, .int y1), (2, .int y2), (3, .int y3), (4, .int 0), (5, .int (y5 + Int32.ofInt 1))]) [2, 3, 4, 5, 1, 0] rfl ?_
  exact hK53 u0 y1 y2 y3 0 (y5 + Int32.ofInt 1) hw
set_option maxHeartbeats 4000000 in
set_option maxRecDepth 100000 in
theorem jX12_counted_53 {X : VX} {E : VE} {l : Launch} (h0 : Nat) (a0 : Nat → Nat)  (Q : Int32 → Md → Prop) (C : VC X cX12_counted 6 RX12 (rmL 3 0 0) E l) (hret : RetI X cX12_counted .int 0 0 (fun (U : Md) => [wX12 E h0 a0 U].flatten) (fun (r : Int32) (U : Md) => Q r U)) (K30 : Md → Int32 → Int32 → Int32 → Prop) (hK30 : ∀ (u0 : Md) (y1 : Int32) (y2 : Int32) (y3 : Int32), K30 u0 y1 y2 y3 → VV X 0 0 ([wX12 E h0 a0 u0].flatten) [(0, .ref h0), (1, .int y1), (2, .int y2), (3, .int y3)] 30 []) : ∀ (n : Nat), ∀ (u0 : Md) (y1 : Int32) (y2 : Int32) (y3 : Int32) (y4 : Int32) (y5 : Int32), qX12_counted_53 Q K30 n u0 y1 y2 y3 y4 y5 → VV X 0 0 ([wX12 E h0 a0 u0].flatten) [(0, .ref h0), (1, .int y1), (2, .int y2), (3, .int y3), (4, .int y4), (5, .int y5)] 53 [] := by
  intro n
  induction n with
  | zero =>
    intro u0 y1 y2 y3 y4 y5 hw
    exact hw.elim
  | succ n ih =>
    intro u0 y1 y2 y3 y4 y5 hw
    unfold qX12_counted_53 at hw
    refine v_iload C dX12_counted_53 5 rfl ?_
    refine v_iconst (v := 3) C dX12_counted_55 (by decide) ?_
    refine v_icmp_ge (tgt := 98) C dX12_counted_56 (by decide) (fun hc => ?_) (fun hc => ?_)
    · have hw := hw.1 hc
      refine v_iload C dX12_counted_98 4 rfl ?_
      refine v_if_eq (tgt := 135) C dX12_counted_100 (by decide) (fun hc => ?_) (fun hc => ?_)
      · have hw := hw.1 hc
        refine v_iload_n C dX12_counted_135 2 rfl ?_
        exact hret _ _ _ _ y2 u0 dX12_counted_136 rfl hw (Nat.le_of_ble_eq_true rfl) (Nat.le_of_ble_eq_true rfl)
      · have hw := hw.2 hc
        refine v_aload_n C dX12_counted_103 0 rfl ?_
        refine v_aload_n C dX12_counted_104 0 rfl ?_
        refine v_get (ci := 12) C inT12 0 50 rfl rfl (by decide) mF_X12_113_X12_50 rfl dX12_counted_105 ?_
        refine v_iload_n C dX12_counted_108 3 rfl ?_
        obtain ⟨hi109, hw⟩ := hw
        refine v_lald C 31 rfl hi109 dX12_counted_109 ?_
        refine v_l2i C dX12_counted_110 ?_
        refine v_aload_n C dX12_counted_111 0 rfl ?_
        refine v_get (ci := 12) C inT12 0 50 rfl rfl (by decide) mF_X12_113_X12_50 rfl dX12_counted_112 ?_
        refine v_iload_n C dX12_counted_115 3 rfl ?_
        refine v_iconst (v := 1) C dX12_counted_116 (by decide) ?_
        refine v_iadd C dX12_counted_117 ?_
        obtain ⟨hi118, hw⟩ := hw
        refine v_lald C 31 rfl hi118 dX12_counted_118 ?_
        refine v_l2i C dX12_counted_119 ?_
        refine v_aload_n C dX12_counted_120 0 rfl ?_
        refine v_get (ci := 12) C inT12 0 50 rfl rfl (by decide) mF_X12_113_X12_50 rfl dX12_counted_121 ?_
        refine v_iload_n C dX12_counted_124 3 rfl ?_
        refine v_iconst (v := 2) C dX12_counted_125 (by decide) ?_
        refine v_iadd C dX12_counted_126 ?_
        obtain ⟨hi127, hw⟩ := hw
        refine v_lald C 31 rfl hi127 dX12_counted_127 ?_
        refine v_l2i C dX12_counted_128 ?_
        refine v_callFi (st := []) (ci := 12) (qb := 0) C (kX12_people h0 a0 _ _ _ _ hw) mM_X12_472 mI_X12 mC_X12_people mN_X12_people mS_X12_people rfl rfl hd_X12_people ⟨Nat.le_of_ble_eq_true rfl, Nat.le_of_ble_eq_true rfl⟩ ⟨Nat.le_of_ble_eq_true rfl, Nat.le_of_ble_eq_true rfl⟩ rfl (Nat.le_of_ble_eq_true rfl) dX12_counted_129 (fun r129 v129_0 hw => ?_)
        refine v_if_ge (tgt := 137) C dX12_counted_132 (by decide) (fun hc => ?_) (fun hc => ?_)
        · have hw := hw.1 hc
          refine v_iinc (lv' := [(2, .int (y2 + Int32.ofInt 1)), (0, .ref h0), (1, .int y1), (3, .int y3), (4, .int y4), (5, .int y5)]) C dX12_counted_137 2 rfl (by decide) rfl ?_
          refine v_iinc (lv' := [(3, .int (y3 + Int32.ofInt 3)), (2, .int (y2 + Int32.ofInt 1)), (0, .ref h0), (1, .int y1), (4, .int y4), (5, .int y5)]) C dX12_counted_140 3 rfl (by decide) rfl ?_
          refine v_goto (tgt := 30) C dX12_counted_143 (by decide) ?_
          refine v_lv C (lv' := [(0, .ref h0), (1, .int y1), (2, .int (y2 + Int32.ofInt 1)), (3, .int (y3 + Int32.ofInt 3))]) [2, 3, 1, 0] rfl ?_
          exact hK30 v129_0 y1 (y2 + Int32.ofInt 1) (y3 + Int32.ofInt 3) hw
        · have hw := hw.2 hc
          refine v_iload_n C dX12_counted_135 2 rfl ?_
          exact hret _ _ _ _ y2 v129_0 dX12_counted_136 rfl hw (Nat.le_of_ble_eq_true rfl) (Nat.le_of_ble_eq_true rfl)
    · have hw := hw.2 hc
      refine v_iload C dX12_counted_59 4 rfl ?_
      refine v_if_eq (tgt := 89) C dX12_counted_61 (by decide) (fun hc => ?_) (fun hc => ?_)
      · have hw := hw.1 hc
        refine v_lv C (lv' := [(0, .ref h0), (1, .int y1), (2, .int y2), (3, .int y3), (5, .int y5)]) [0, 1, 2, 3, 5] rfl ?_
        exact jX12_counted_89 h0 a0 Q C hret K30 (qX12_counted_53 Q K30 n) hK30 ih u0 y1 y2 y3 y5 hw
      · have hw := hw.2 hc
        refine v_aload_n C dX12_counted_64 0 rfl ?_
        refine v_get (ci := 12) C inT12 0 50 rfl rfl (by decide) mF_X12_113_X12_50 rfl dX12_counted_65 ?_
        refine v_iload_n C dX12_counted_68 3 rfl ?_
        refine v_iload C dX12_counted_69 5 rfl ?_
        refine v_iadd C dX12_counted_71 ?_
        obtain ⟨hi72, hw⟩ := hw
        refine v_lald C 31 rfl hi72 dX12_counted_72 ?_
        refine v_ldc2 C mJ_X12_468 dX12_counted_73 ?_
        refine v_ldc2 C mJ_X12_470 dX12_counted_76 ?_
        refine v_callSPi (st := []) C (kX12_in _ _ _ hw) mM_X12_125 mI_X12 mC_X12_in mT_X12_in hd_X12_in ⟨Nat.le_of_ble_eq_true rfl, Nat.le_of_ble_eq_true rfl⟩ ⟨Nat.le_of_ble_eq_true rfl, Nat.le_of_ble_eq_true rfl⟩ rfl (Nat.le_of_ble_eq_true rfl) dX12_counted_79 (fun r79 U79 hw => ?_)
        obtain ⟨h01_79, hw⟩ := hw
        have hw := hw h01_79
        refine v_if_eq (tgt := 89) C dX12_counted_82 (by decide) (fun hc => ?_) (fun hc => ?_)
        · have hw := hw.1 hc
          refine v_lv C (lv' := [(0, .ref h0), (1, .int y1), (2, .int y2), (3, .int y3), (5, .int y5)]) [0, 1, 2, 3, 5] rfl ?_
          exact jX12_counted_89 h0 a0 Q C hret K30 (qX12_counted_53 Q K30 n) hK30 ih u0 y1 y2 y3 y5 hw
        · have hw := hw.2 hc
          refine v_iconst (v := 1) C dX12_counted_85 (by decide) ?_
          refine v_goto (tgt := 90) C dX12_counted_86 (by decide) ?_
          refine v_istore (lv' := [(4, .int 1), (0, .ref h0), (1, .int y1), (2, .int y2), (3, .int y3), (5, .int y5)]) C dX12_counted_90 (by decide) rfl ?_
          refine v_iinc (lv' := [(5, .int (y5 + Int32.ofInt 1)), (4, .int 1), (0, .ref h0), (1, .int y1), (2, .int y2), (3, .int y3)]) C dX12_counted_92 5 rfl (by decide) rfl ?_
          refine v_goto (tgt := 53) C dX12_counted_95 (by decide) ?_
          refine v_lv C (lv' := [(0, .ref h0), (1, .int y1), (2, .int y2), (3, .int y3), (4, .int 1), (5, .int (y5 + Int32.ofInt 1))]) [2, 3, 4, 5, 1, 0] rfl ?_
          exact ih u0 y1 y2 y3 1 (y5 + Int32.ofInt 1) hw
set_option maxHeartbeats 4000000 in
set_option maxRecDepth 100000 in
theorem jX12_counted_30 {X : VX} {E : VE} {l : Launch} (h0 : Nat) (a0 : Nat → Nat)  (Q : Int32 → Md → Prop) (C : VC X cX12_counted 6 RX12 (rmL 3 0 0) E l) (hret : RetI X cX12_counted .int 0 0 (fun (U : Md) => [wX12 E h0 a0 U].flatten) (fun (r : Int32) (U : Md) => Q r U))  : ∀ (n : Nat), ∀ (u0 : Md) (y1 : Int32) (y2 : Int32) (y3 : Int32), qX12_counted_30 Q n u0 y1 y2 y3 → VV X 0 0 ([wX12 E h0 a0 u0].flatten) [(0, .ref h0), (1, .int y1), (2, .int y2), (3, .int y3)] 30 [] := by
  intro n
  induction n with
  | zero =>
    intro u0 y1 y2 y3 hw
    exact hw.elim
  | succ n ih =>
    intro u0 y1 y2 y3 hw
    unfold qX12_counted_30 at hw
    refine v_iload_n C dX12_counted_30 3 rfl ?_
    refine v_iconst (v := 3) C dX12_counted_31 (by decide) ?_
    refine v_iadd C dX12_counted_32 ?_
    refine v_bipush (v := 60) C dX12_counted_33 (by decide) ?_
    refine v_iload_n C dX12_counted_35 1 rfl ?_
    refine v_imul C dX12_counted_36 ?_
    refine v_aload_n C dX12_counted_37 0 rfl ?_
    refine v_get (ci := 12) C inT12 0 48 rfl rfl (by decide) mF_X12_107_X12_48 rfl dX12_counted_38 ?_
    refine v_iload_n C dX12_counted_41 1 rfl ?_
    obtain ⟨hi42, hw⟩ := hw
    refine v_iald C 29 rfl hi42 dX12_counted_42 ?_
    refine v_iadd C dX12_counted_43 ?_
    refine v_icmp_gt (tgt := 146) C dX12_counted_44 (by decide) (fun hc => ?_) (fun hc => ?_)
    · have hw := hw.1 hc
      refine v_iload_n C dX12_counted_146 2 rfl ?_
      exact hret _ _ _ _ y2 u0 dX12_counted_147 rfl hw (Nat.le_of_ble_eq_true rfl) (Nat.le_of_ble_eq_true rfl)
    · have hw := hw.2 hc
      refine v_iconst (v := 1) C dX12_counted_47 (by decide) ?_
      refine v_istore (lv' := [(4, .int 1), (0, .ref h0), (1, .int y1), (2, .int y2), (3, .int y3)]) C dX12_counted_48 (by decide) rfl ?_
      refine v_iconst (v := 0) C dX12_counted_50 (by decide) ?_
      refine v_istore (lv' := [(5, .int 0), (4, .int 1), (0, .ref h0), (1, .int y1), (2, .int y2), (3, .int y3)]) C dX12_counted_51 (by decide) rfl ?_
      refine v_lv C (lv' := [(0, .ref h0), (1, .int y1), (2, .int y2), (3, .int y3), (4, .int 1), (5, .int 0)]) [2, 3, 4, 5, 1, 0] rfl ?_
      obtain ⟨n', hw⟩ := hw
      exact jX12_counted_53 h0 a0 Q C hret (qX12_counted_30 Q n) ih n' u0 y1 y2 y3 1 0 hw
set_option maxHeartbeats 4000000 in
set_option maxRecDepth 100000 in
theorem kX12_counted {l : Launch} {E : VE} (h0 : Nat) (a0 : Nat → Nat) (u0 : Md) (x1 : Int32) {Q : Int32 → Md → Prop} (hw : qX12_counted u0 x1 Q) : MI l yX12_counted cX12_counted 6 .int 3 0 0 E [.ref h0, .int x1] ([wX12 E h0 a0 u0].flatten) (fun (U : Md) => [wX12 E h0 a0 U].flatten) (fun (r : Int32) (U : Md) => Q r U) := by
  refine MI.of (own := RX12) (by decide) rfl (Nat.le_of_ble_eq_true rfl) ?_
  intro X C hini hret
  show VV X 0 0 ([wX12 E h0 a0 u0].flatten) [(0, .ref h0), (1, .int x1)] 0 []
  unfold qX12_counted at hw
  refine v_iload_n C dX12_counted_0 1 rfl ?_
  refine v_callSPi (st := []) C (kX12_isSlot _ hw) mM_X12_459 mI_X12 mC_X12_isSlot mT_X12_isSlot hd_X12_isSlot ⟨Nat.le_of_ble_eq_true rfl, Nat.le_of_ble_eq_true rfl⟩ ⟨Nat.le_of_ble_eq_true rfl, Nat.le_of_ble_eq_true rfl⟩ rfl (Nat.le_of_ble_eq_true rfl) dX12_counted_1 (fun r1 U1 hw => ?_)
  obtain ⟨h01_1, hw⟩ := hw
  have hw := hw h01_1
  refine v_if_ne (tgt := 10) C dX12_counted_4 (by decide) (fun hc => ?_) (fun hc => ?_)
  · have hw := hw.1 hc
    refine v_aload_n C dX12_counted_10 0 rfl ?_
    refine v_get (ci := 12) C inT12 0 48 rfl rfl (by decide) mF_X12_107_X12_48 rfl dX12_counted_11 ?_
    refine v_iload_n C dX12_counted_14 1 rfl ?_
    obtain ⟨hi15, hw⟩ := hw
    refine v_iald C 29 rfl hi15 dX12_counted_15 ?_
    refine v_iconst (v := (-1)) C dX12_counted_16 (by decide) ?_
    refine v_icmp_ne (tgt := 23) C dX12_counted_17 (by decide) (fun hc => ?_) (fun hc => ?_)
    · have hw := hw.1 hc
      refine v_iconst (v := 0) C dX12_counted_23 (by decide) ?_
      refine v_istore_n (lv' := [(2, .int 0), (0, .ref h0), (1, .int x1)]) C dX12_counted_24 (by decide) rfl ?_
      refine v_bipush (v := 60) C dX12_counted_25 (by decide) ?_
      refine v_iload_n C dX12_counted_27 2 rfl ?_
      refine v_imul C dX12_counted_28 ?_
      refine v_istore_n (lv' := [(3, .int (60 * x1)), (2, .int 0), (0, .ref h0), (1, .int x1)]) C dX12_counted_29 (by decide) rfl ?_
      refine v_lv C (lv' := [(0, .ref h0), (1, .int x1), (2, .int 0), (3, .int (60 * x1))]) [2, 3, 1, 0] rfl ?_
      obtain ⟨n', hw⟩ := hw
      exact jX12_counted_30 h0 a0 Q C hret n' u0 x1 0 (60 * x1) hw
    · have hw := hw.2 hc
      refine v_bipush (v := (-6)) C dX12_counted_20 (by decide) ?_
      exact hret _ _ _ _ ((-6)) u0 dX12_counted_22 rfl hw (Nat.le_of_ble_eq_true rfl) (Nat.le_of_ble_eq_true rfl)
  · have hw := hw.2 hc
    refine v_bipush (v := (-2)) C dX12_counted_7 (by decide) ?_
    exact hret _ _ _ _ ((-2)) u0 dX12_counted_9 rfl hw (Nat.le_of_ble_eq_true rfl) (Nat.le_of_ble_eq_true rfl)
set_option maxHeartbeats 4000000 in
set_option maxRecDepth 100000 in
theorem kX11_back_lvS {l : Launch} {E : VE} (h0 : Nat) (h9 : Nat) (a0 : Nat → Nat) (a0_0 : Nat → Nat) (a0_0_2 : Nat → Nat) (a0_0_3 : Nat → Nat) (a0_0_4 : Nat → Nat) (a0_0_5 : Nat → Nat) (a0_0_6 : Nat → Nat) (a9 : Nat → Nat) (a9_2 : Nat → Nat) (a9_3 : Nat → Nat) (a9_4 : Nat → Nat) (a9_5 : Nat → Nat) (a9_6 : Nat → Nat) (u0 : Md) (u0_0 : Md) (u0_0_2 : Md) (u0_0_3 : Md) (u0_0_4 : Md) (u0_0_5 : Md) (u0_0_6 : Md) (u9 : Md) (u9_2 : Md) (u9_3 : Md) (u9_4 : Md) (u9_5 : Md) (u9_6 : Md) (x1 : Int32) (him : gO u0 1 x1.toNatClampNeg = some h9) {Q : Int32 → Md → Md → Md → Md → Md → Md → Md → Md → Md → Md → Md → Md → Md → Prop} (hw : qX11_back_lvS u0 u0_0 u0_0_2 u0_0_3 u0_0_4 u0_0_5 u0_0_6 u9 u9_2 u9_3 u9_4 u9_5 u9_6 x1 Q) : MI l yX11_back cX11_back 2 .int 3 0 0 E [.ref h0, .int x1] ([wX11 E h0 a0 u0, wX8 E (a0 0) a0_0 u0_0, wX2 E (a0_0 2) a0_0_2 u0_0_2, wX7 E (a0_0 3) a0_0_3 u0_0_3, wX0 E (a0_0 4) a0_0_4 u0_0_4, wX1 E (a0_0 5) a0_0_5 u0_0_5, wX6 E (a0_0 6) a0_0_6 u0_0_6, wX8 E h9 a9 u9, wX2 E (a9 2) a9_2 u9_2, wX7 E (a9 3) a9_3 u9_3, wX0 E (a9 4) a9_4 u9_4, wX1 E (a9 5) a9_5 u9_5, wX6 E (a9 6) a9_6 u9_6].flatten) (fun (U : Md × Md × Md × Md × Md × Md × Md × Md × Md × Md × Md × Md × Md) => [wX11 E h0 a0 U.1, wX8 E (a0 0) a0_0 U.2.1, wX2 E (a0_0 2) a0_0_2 U.2.2.1, wX7 E (a0_0 3) a0_0_3 U.2.2.2.1, wX0 E (a0_0 4) a0_0_4 U.2.2.2.2.1, wX1 E (a0_0 5) a0_0_5 U.2.2.2.2.2.1, wX6 E (a0_0 6) a0_0_6 U.2.2.2.2.2.2.1, wX8 E h9 a9 U.2.2.2.2.2.2.2.1, wX2 E (a9 2) a9_2 U.2.2.2.2.2.2.2.2.1, wX7 E (a9 3) a9_3 U.2.2.2.2.2.2.2.2.2.1, wX0 E (a9 4) a9_4 U.2.2.2.2.2.2.2.2.2.2.1, wX1 E (a9 5) a9_5 U.2.2.2.2.2.2.2.2.2.2.2.1, wX6 E (a9 6) a9_6 U.2.2.2.2.2.2.2.2.2.2.2.2].flatten) (fun (r : Int32) (U : Md × Md × Md × Md × Md × Md × Md × Md × Md × Md × Md × Md × Md) => Q r U.1 U.2.1 U.2.2.1 U.2.2.2.1 U.2.2.2.2.1 U.2.2.2.2.2.1 U.2.2.2.2.2.2.1 U.2.2.2.2.2.2.2.1 U.2.2.2.2.2.2.2.2.1 U.2.2.2.2.2.2.2.2.2.1 U.2.2.2.2.2.2.2.2.2.2.1 U.2.2.2.2.2.2.2.2.2.2.2.1 U.2.2.2.2.2.2.2.2.2.2.2.2) := by
  refine MI.of (own := RX11) (by decide) rfl (Nat.le_of_ble_eq_true rfl) ?_
  intro X C hini hret
  show VV X 0 0 ([wX11 E h0 a0 u0, wX8 E (a0 0) a0_0 u0_0, wX2 E (a0_0 2) a0_0_2 u0_0_2, wX7 E (a0_0 3) a0_0_3 u0_0_3, wX0 E (a0_0 4) a0_0_4 u0_0_4, wX1 E (a0_0 5) a0_0_5 u0_0_5, wX6 E (a0_0 6) a0_0_6 u0_0_6, wX8 E h9 a9 u9, wX2 E (a9 2) a9_2 u9_2, wX7 E (a9 3) a9_3 u9_3, wX0 E (a9 4) a9_4 u9_4, wX1 E (a9 5) a9_5 u9_5, wX6 E (a9 6) a9_6 u9_6].flatten) [(0, .ref h0), (1, .int x1)] 0 []
  unfold qX11_back_lvS at hw
  refine v_iload_n C dX11_back_0 1 rfl ?_
  refine v_if_lt (tgt := 9) C dX11_back_1 (by decide) (fun hc => ?_) (fun hc => ?_)
  · have hw := hw.1 hc
    refine v_bipush (v := (-2)) C dX11_back_9 (by decide) ?_
    exact hret _ _ _ _ ((-2)) (u0, u0_0, u0_0_2, u0_0_3, u0_0_4, u0_0_5, u0_0_6, u9, u9_2, u9_3, u9_4, u9_5, u9_6) dX11_back_11 rfl hw (Nat.le_of_ble_eq_true rfl) (Nat.le_of_ble_eq_true rfl)
  · have hw := hw.2 hc
    refine v_iload_n C dX11_back_4 1 rfl ?_
    refine v_iconst (v := 3) C dX11_back_5 (by decide) ?_
    refine v_icmp_lt (tgt := 12) C dX11_back_6 (by decide) (fun hc => ?_) (fun hc => ?_)
    · have hw := hw.1 hc
      refine v_aload_n C dX11_back_12 0 rfl ?_
      refine v_get (ci := 11) C inT11 0 1 rfl rfl (by decide) mF_X11_16_X11_1 rfl dX11_back_13 ?_
      refine v_iload_n C dX11_back_16 1 rfl ?_
      obtain ⟨hi17, hw⟩ := hw
      refine v_aaldq (v := .ref h9) C 1 rfl hi17 (by rw [him]; rfl) dX11_back_17 ?_
      refine v_ifnonnull (tgt := 24) C dX11_back_18 (by decide) ?_
      refine v_aload_n C dX11_back_24 0 rfl ?_
      refine v_get (ci := 11) C inT11 0 0 rfl rfl (by decide) mF_X11_10_X11_0 rfl dX11_back_25 ?_
      refine v_aload_n C dX11_back_28 0 rfl ?_
      refine v_get (ci := 11) C inT11 0 1 rfl rfl (by decide) mF_X11_16_X11_1 rfl dX11_back_29 ?_
      refine v_iload_n C dX11_back_32 1 rfl ?_
      obtain ⟨hi33, hw⟩ := hw
      refine v_aaldq (v := .ref h9) C 1 rfl hi33 (by rw [him]; rfl) dX11_back_33 ?_
      refine v_callVMv (st := []) (ci := 8) (qb := 5) C (kX8_copyFrom ((a0 0)) h9 a0_0 a0_0_2 a0_0_3 a0_0_4 a0_0_5 a0_0_6 a9 a9_2 a9_3 a9_4 a9_5 a9_6 _ _ _ _ _ _ _ _ _ _ _ _ hw) mM_X11_343 mI_X8 mC_X8_copyFrom mN_X8_copyFrom mS_X8_copyFrom rfl rfl hd_X8_copyFrom ⟨Nat.le_of_ble_eq_true rfl, Nat.le_of_ble_eq_true rfl⟩ ⟨Nat.le_of_ble_eq_true rfl, Nat.le_of_ble_eq_true rfl⟩ [1, 2, 3, 4, 5, 6, 7, 8, 9, 10, 11, 12] [0] (N0 := 13) rfl (by decide) (ms2 := (fun (U : Md × Md × Md × Md × Md × Md × Md × Md × Md × Md × Md × Md) => [wX11 E h0 a0 u0, wX8 E (a0 0) a0_0 U.1, wX2 E (a0_0 2) a0_0_2 U.2.1, wX7 E (a0_0 3) a0_0_3 U.2.2.1, wX0 E (a0_0 4) a0_0_4 U.2.2.2.1, wX1 E (a0_0 5) a0_0_5 U.2.2.2.2.1, wX6 E (a0_0 6) a0_0_6 U.2.2.2.2.2.1, wX8 E h9 a9 U.2.2.2.2.2.2.1, wX2 E (a9 2) a9_2 U.2.2.2.2.2.2.2.1, wX7 E (a9 3) a9_3 U.2.2.2.2.2.2.2.2.1, wX0 E (a9 4) a9_4 U.2.2.2.2.2.2.2.2.2.1, wX1 E (a9 5) a9_5 U.2.2.2.2.2.2.2.2.2.2.1, wX6 E (a9 6) a9_6 U.2.2.2.2.2.2.2.2.2.2.2])) rfl (fun _ => rfl) (fun _ => rfl) (fun _ => rfl) rfl (Nat.le_of_ble_eq_true rfl) dX11_back_34 (fun U34 hw => ?_)
      obtain ⟨v34_0, v34_1, v34_2, v34_3, v34_4, v34_5, v34_6, v34_7, v34_8, v34_9, v34_10, v34_11⟩ := U34
      refine v_iconst (v := 0) C dX11_back_37 (by decide) ?_
      exact hret _ _ _ _ 0 (u0, v34_0, v34_1, v34_2, v34_3, v34_4, v34_5, v34_6, v34_7, v34_8, v34_9, v34_10, v34_11) dX11_back_38 rfl hw (Nat.le_of_ble_eq_true rfl) (Nat.le_of_ble_eq_true rfl)
    · have hw := hw.2 hc
      refine v_bipush (v := (-2)) C dX11_back_9 (by decide) ?_
      exact hret _ _ _ _ ((-2)) (u0, u0_0, u0_0_2, u0_0_3, u0_0_4, u0_0_5, u0_0_6, u9, u9_2, u9_3, u9_4, u9_5, u9_6) dX11_back_11 rfl hw (Nat.le_of_ble_eq_true rfl) (Nat.le_of_ble_eq_true rfl)
set_option maxHeartbeats 4000000 in
set_option maxRecDepth 100000 in
theorem kX11_back_lvN {l : Launch} {E : VE} (h0 : Nat) (h9 : Nat) (a0 : Nat → Nat) (u0 : Md) (x1 : Int32) (him : gO u0 1 x1.toNatClampNeg = none) {Q : Int32 → Md → Prop} (hw : qX11_back_lvN u0 x1 Q) : MI l yX11_back cX11_back 2 .int 0 0 0 E [.ref h0, .int x1] ([wX11 E h0 a0 u0].flatten) (fun (U : Md) => [wX11 E h0 a0 U].flatten) (fun (r : Int32) (U : Md) => Q r U) := by
  refine MI.of (own := RX11) (by decide) rfl (Nat.le_of_ble_eq_true rfl) ?_
  intro X C hini hret
  show VV X 0 0 ([wX11 E h0 a0 u0].flatten) [(0, .ref h0), (1, .int x1)] 0 []
  unfold qX11_back_lvN at hw
  refine v_iload_n C dX11_back_0 1 rfl ?_
  refine v_if_lt (tgt := 9) C dX11_back_1 (by decide) (fun hc => ?_) (fun hc => ?_)
  · have hw := hw.1 hc
    refine v_bipush (v := (-2)) C dX11_back_9 (by decide) ?_
    exact hret _ _ _ _ ((-2)) u0 dX11_back_11 rfl hw (Nat.le_of_ble_eq_true rfl) (Nat.le_of_ble_eq_true rfl)
  · have hw := hw.2 hc
    refine v_iload_n C dX11_back_4 1 rfl ?_
    refine v_iconst (v := 3) C dX11_back_5 (by decide) ?_
    refine v_icmp_lt (tgt := 12) C dX11_back_6 (by decide) (fun hc => ?_) (fun hc => ?_)
    · have hw := hw.1 hc
      refine v_aload_n C dX11_back_12 0 rfl ?_
      refine v_get (ci := 11) C inT11 0 1 rfl rfl (by decide) mF_X11_16_X11_1 rfl dX11_back_13 ?_
      refine v_iload_n C dX11_back_16 1 rfl ?_
      obtain ⟨hi17, hw⟩ := hw
      refine v_aaldq (v := .null) C 1 rfl hi17 (by rw [him]; rfl) dX11_back_17 ?_
      refine v_ifnonnullN C dX11_back_18 ?_
      refine v_bipush (v := (-6)) C dX11_back_21 (by decide) ?_
      exact hret _ _ _ _ ((-6)) u0 dX11_back_23 rfl hw (Nat.le_of_ble_eq_true rfl) (Nat.le_of_ble_eq_true rfl)
    · have hw := hw.2 hc
      refine v_bipush (v := (-2)) C dX11_back_9 (by decide) ?_
      exact hret _ _ _ _ ((-2)) u0 dX11_back_11 rfl hw (Nat.le_of_ble_eq_true rfl) (Nat.le_of_ble_eq_true rfl)
set_option maxHeartbeats 4000000 in
set_option maxRecDepth 100000 in
theorem kX11_keep_lvS {l : Launch} {E : VE} (h0 : Nat) (h9 : Nat) (a0 : Nat → Nat) (a0_0 : Nat → Nat) (a0_0_2 : Nat → Nat) (a0_0_3 : Nat → Nat) (a0_0_4 : Nat → Nat) (a0_0_5 : Nat → Nat) (a0_0_6 : Nat → Nat) (a9 : Nat → Nat) (a9_2 : Nat → Nat) (a9_3 : Nat → Nat) (a9_4 : Nat → Nat) (a9_5 : Nat → Nat) (a9_6 : Nat → Nat) (u0 : Md) (u0_0 : Md) (u0_0_2 : Md) (u0_0_3 : Md) (u0_0_4 : Md) (u0_0_5 : Md) (u0_0_6 : Md) (u9 : Md) (u9_2 : Md) (u9_3 : Md) (u9_4 : Md) (u9_5 : Md) (u9_6 : Md) (x1 : Int32) (him : gO u0 1 x1.toNatClampNeg = some h9) {Q : Int32 → Md → Md → Md → Md → Md → Md → Md → Md → Md → Md → Md → Md → Md → Prop} (hw : qX11_keep_lvS u0 u0_0 u0_0_2 u0_0_3 u0_0_4 u0_0_5 u0_0_6 u9 u9_2 u9_3 u9_4 u9_5 u9_6 x1 Q) : MI l yX11_keep cX11_keep 2 .int 3 0 0 E [.ref h0, .int x1] ([wX11 E h0 a0 u0, wX8 E (a0 0) a0_0 u0_0, wX2 E (a0_0 2) a0_0_2 u0_0_2, wX7 E (a0_0 3) a0_0_3 u0_0_3, wX0 E (a0_0 4) a0_0_4 u0_0_4, wX1 E (a0_0 5) a0_0_5 u0_0_5, wX6 E (a0_0 6) a0_0_6 u0_0_6, wX8 E h9 a9 u9, wX2 E (a9 2) a9_2 u9_2, wX7 E (a9 3) a9_3 u9_3, wX0 E (a9 4) a9_4 u9_4, wX1 E (a9 5) a9_5 u9_5, wX6 E (a9 6) a9_6 u9_6].flatten) (fun (U : Md × Md × Md × Md × Md × Md × Md × Md × Md × Md × Md × Md × Md) => [wX11 E h0 a0 U.1, wX8 E (a0 0) a0_0 U.2.1, wX2 E (a0_0 2) a0_0_2 U.2.2.1, wX7 E (a0_0 3) a0_0_3 U.2.2.2.1, wX0 E (a0_0 4) a0_0_4 U.2.2.2.2.1, wX1 E (a0_0 5) a0_0_5 U.2.2.2.2.2.1, wX6 E (a0_0 6) a0_0_6 U.2.2.2.2.2.2.1, wX8 E h9 a9 U.2.2.2.2.2.2.2.1, wX2 E (a9 2) a9_2 U.2.2.2.2.2.2.2.2.1, wX7 E (a9 3) a9_3 U.2.2.2.2.2.2.2.2.2.1, wX0 E (a9 4) a9_4 U.2.2.2.2.2.2.2.2.2.2.1, wX1 E (a9 5) a9_5 U.2.2.2.2.2.2.2.2.2.2.2.1, wX6 E (a9 6) a9_6 U.2.2.2.2.2.2.2.2.2.2.2.2].flatten) (fun (r : Int32) (U : Md × Md × Md × Md × Md × Md × Md × Md × Md × Md × Md × Md × Md) => Q r U.1 U.2.1 U.2.2.1 U.2.2.2.1 U.2.2.2.2.1 U.2.2.2.2.2.1 U.2.2.2.2.2.2.1 U.2.2.2.2.2.2.2.1 U.2.2.2.2.2.2.2.2.1 U.2.2.2.2.2.2.2.2.2.1 U.2.2.2.2.2.2.2.2.2.2.1 U.2.2.2.2.2.2.2.2.2.2.2.1 U.2.2.2.2.2.2.2.2.2.2.2.2) := by
  refine MI.of (own := RX11) (by decide) rfl (Nat.le_of_ble_eq_true rfl) ?_
  intro X C hini hret
  show VV X 0 0 ([wX11 E h0 a0 u0, wX8 E (a0 0) a0_0 u0_0, wX2 E (a0_0 2) a0_0_2 u0_0_2, wX7 E (a0_0 3) a0_0_3 u0_0_3, wX0 E (a0_0 4) a0_0_4 u0_0_4, wX1 E (a0_0 5) a0_0_5 u0_0_5, wX6 E (a0_0 6) a0_0_6 u0_0_6, wX8 E h9 a9 u9, wX2 E (a9 2) a9_2 u9_2, wX7 E (a9 3) a9_3 u9_3, wX0 E (a9 4) a9_4 u9_4, wX1 E (a9 5) a9_5 u9_5, wX6 E (a9 6) a9_6 u9_6].flatten) [(0, .ref h0), (1, .int x1)] 0 []
  unfold qX11_keep_lvS at hw
  refine v_iload_n C dX11_keep_0 1 rfl ?_
  refine v_if_lt (tgt := 9) C dX11_keep_1 (by decide) (fun hc => ?_) (fun hc => ?_)
  · have hw := hw.1 hc
    refine v_bipush (v := (-2)) C dX11_keep_9 (by decide) ?_
    exact hret _ _ _ _ ((-2)) (u0, u0_0, u0_0_2, u0_0_3, u0_0_4, u0_0_5, u0_0_6, u9, u9_2, u9_3, u9_4, u9_5, u9_6) dX11_keep_11 rfl hw (Nat.le_of_ble_eq_true rfl) (Nat.le_of_ble_eq_true rfl)
  · have hw := hw.2 hc
    refine v_iload_n C dX11_keep_4 1 rfl ?_
    refine v_iconst (v := 3) C dX11_keep_5 (by decide) ?_
    refine v_icmp_lt (tgt := 12) C dX11_keep_6 (by decide) (fun hc => ?_) (fun hc => ?_)
    · have hw := hw.1 hc
      refine v_aload_n C dX11_keep_12 0 rfl ?_
      refine v_get (ci := 11) C inT11 0 1 rfl rfl (by decide) mF_X11_16_X11_1 rfl dX11_keep_13 ?_
      refine v_iload_n C dX11_keep_16 1 rfl ?_
      obtain ⟨hi17, hw⟩ := hw
      refine v_aaldq (v := .ref h9) C 1 rfl hi17 (by rw [him]; rfl) dX11_keep_17 ?_
      refine v_ifnonnull (tgt := 34) C dX11_keep_18 (by decide) ?_
      refine v_aload_n C dX11_keep_34 0 rfl ?_
      refine v_get (ci := 11) C inT11 0 1 rfl rfl (by decide) mF_X11_16_X11_1 rfl dX11_keep_35 ?_
      refine v_iload_n C dX11_keep_38 1 rfl ?_
      obtain ⟨hi39, hw⟩ := hw
      refine v_aaldq (v := .ref h9) C 1 rfl hi39 (by rw [him]; rfl) dX11_keep_39 ?_
      refine v_aload_n C dX11_keep_40 0 rfl ?_
      refine v_get (ci := 11) C inT11 0 0 rfl rfl (by decide) mF_X11_10_X11_0 rfl dX11_keep_41 ?_
      refine v_callVMv (st := []) (ci := 8) (qb := 58) C (kX8_copyFrom h9 ((a0 0)) a9 a9_2 a9_3 a9_4 a9_5 a9_6 a0_0 a0_0_2 a0_0_3 a0_0_4 a0_0_5 a0_0_6 _ _ _ _ _ _ _ _ _ _ _ _ hw) mM_X11_343 mI_X8 mC_X8_copyFrom mN_X8_copyFrom mS_X8_copyFrom rfl rfl hd_X8_copyFrom ⟨Nat.le_of_ble_eq_true rfl, Nat.le_of_ble_eq_true rfl⟩ ⟨Nat.le_of_ble_eq_true rfl, Nat.le_of_ble_eq_true rfl⟩ [7, 8, 9, 10, 11, 12, 1, 2, 3, 4, 5, 6] [0] (N0 := 13) rfl (by decide) (ms2 := (fun (U : Md × Md × Md × Md × Md × Md × Md × Md × Md × Md × Md × Md) => [wX11 E h0 a0 u0, wX8 E (a0 0) a0_0 U.2.2.2.2.2.2.1, wX2 E (a0_0 2) a0_0_2 U.2.2.2.2.2.2.2.1, wX7 E (a0_0 3) a0_0_3 U.2.2.2.2.2.2.2.2.1, wX0 E (a0_0 4) a0_0_4 U.2.2.2.2.2.2.2.2.2.1, wX1 E (a0_0 5) a0_0_5 U.2.2.2.2.2.2.2.2.2.2.1, wX6 E (a0_0 6) a0_0_6 U.2.2.2.2.2.2.2.2.2.2.2, wX8 E h9 a9 U.1, wX2 E (a9 2) a9_2 U.2.1, wX7 E (a9 3) a9_3 U.2.2.1, wX0 E (a9 4) a9_4 U.2.2.2.1, wX1 E (a9 5) a9_5 U.2.2.2.2.1, wX6 E (a9 6) a9_6 U.2.2.2.2.2.1])) rfl (fun _ => rfl) (fun _ => rfl) (fun _ => rfl) rfl (Nat.le_of_ble_eq_true rfl) dX11_keep_44 (fun U44 hw => ?_)
      obtain ⟨v44_0, v44_1, v44_2, v44_3, v44_4, v44_5, v44_6, v44_7, v44_8, v44_9, v44_10, v44_11⟩ := U44
      refine v_iconst (v := 0) C dX11_keep_47 (by decide) ?_
      exact hret _ _ _ _ 0 (u0, v44_6, v44_7, v44_8, v44_9, v44_10, v44_11, v44_0, v44_1, v44_2, v44_3, v44_4, v44_5) dX11_keep_48 rfl hw (Nat.le_of_ble_eq_true rfl) (Nat.le_of_ble_eq_true rfl)
    · have hw := hw.2 hc
      refine v_bipush (v := (-2)) C dX11_keep_9 (by decide) ?_
      exact hret _ _ _ _ ((-2)) (u0, u0_0, u0_0_2, u0_0_3, u0_0_4, u0_0_5, u0_0_6, u9, u9_2, u9_3, u9_4, u9_5, u9_6) dX11_keep_11 rfl hw (Nat.le_of_ble_eq_true rfl) (Nat.le_of_ble_eq_true rfl)
