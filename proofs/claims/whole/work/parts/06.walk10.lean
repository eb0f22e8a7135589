set_option maxHeartbeats 4000000 in
set_option maxRecDepth 100000 in
theorem jX12_apart_35 {X : VX} {E : VE} {l : Launch} (h0 : Nat) (a0 : Nat → Nat)  (Q : Int32 → Md → Prop) (C : VC X cX12_apart 5 RX12 (rmL 1 0 0) E l) (hret : RetI X cX12_apart .int 0 0 (fun (U : Md) => [wX12 E h0 a0 U].flatten) (fun (r : Int32) (U : Md) => Q r U)) (K9 : Md → Int32 → Int32 → Prop) (K19 : Md → Int32 → Int32 → Int32 → Prop) (hK9 : ∀ (u0 : Md) (y1 : Int32) (y2 : Int32), K9 u0 y1 y2 → VV X 0 0 ([wX12 E h0 a0 u0].flatten) [(0, .ref h0), (1, .int y1), (2, .int y2)] 9 []) (hK19 : ∀ (u0 : Md) (y1 : Int32) (y2 : Int32) (y3 : Int32), K19 u0 y1 y2 y3 → VV X 0 0 ([wX12 E h0 a0 u0].flatten) [(0, .ref h0), (1, .int y1), (2, .int y2), (3, .int y3)] 19 []) : ∀ (u0 : Md) (y1 : Int32) (y2 : Int32) (y3 : Int32), qX12_apart_35 Q K9 K19 u0 y1 y2 y3 → VV X 0 0 ([wX12 E h0 a0 u0].flatten) [(0, .ref h0), (1, .int y1), (2, .int y2), (3, .int y3)] 35 [] := by
  intro u0 y1 y2 y3 hw
  unfold qX12_apart_35 at hw
  refine v_aload_n C dX12_apart_35 0 rfl ?_
  refine v_get (ci := 12) C inT12 0 27 rfl rfl (by decide) mF_X12_59_X12_27 rfl dX12_apart_36 ?_
  refine v_iload_n C dX12_apart_39 1 rfl ?_
  refine v_iload_n C dX12_apart_40 2 rfl ?_
  refine v_imul C dX12_apart_41 ?_
  refine v_iload_n C dX12_apart_42 3 rfl ?_
  refine v_iadd C dX12_apart_43 ?_
  refine v_iload_n C dX12_apart_44 2 rfl ?_
  refine v_iload_n C dX12_apart_45 3 rfl ?_
  refine v_iadd C dX12_apart_46 ?_
  obtain ⟨hi47, hw⟩ := hw
  obtain ⟨w47, e47⟩ : ∃ z : Md, z = tA u0 27 ((y1 * y2) + y3) (y2 + y3) := ⟨_, rfl⟩
  have hw := hw w47 e47
  refine v_iast (ws' := [wX12 E h0 a0 w47].flatten) C 15 rfl hi47 (by rw [e47]; rfl) dX12_apart_47 ?_
  refine v_goto (tgt := 136) C dX12_apart_48 (by decide) ?_
  refine v_iinc (lv' := [(3, .int (y3 + Int32.ofInt 1)), (0, .ref h0), (1, .int y1), (2, .int y2)]) C dX12_apart_136 3 rfl (by decide) rfl ?_
  refine v_goto (tgt := 19) C dX12_apart_139 (by decide) ?_
  refine v_lv C (lv' := [(0, .ref h0), (1, .int y1), (2, .int y2), (3, .int (y3 + Int32.ofInt 1))]) [1, 2, 3, 0] rfl ?_
  exact hK19 w47 y1 y2 (y3 + Int32.ofInt 1) hw
set_option maxHeartbeats 4000000 in
set_option maxRecDepth 100000 in
theorem jX12_apart_89 {X : VX} {E : VE} {l : Launch} (h0 : Nat) (a0 : Nat → Nat)  (Q : Int32 → Md → Prop) (C : VC X cX12_apart 5 RX12 (rmL 1 0 0) E l) (hret : RetI X cX12_apart .int 0 0 (fun (U : Md) => [wX12 E h0 a0 U].flatten) (fun (r : Int32) (U : Md) => Q r U)) (K9 : Md → Int32 → Int32 → Prop) (K19 : Md → Int32 → Int32 → Int32 → Prop) (hK9 : ∀ (u0 : Md) (y1 : Int32) (y2 : Int32), K9 u0 y1 y2 → VV X 0 0 ([wX12 E h0 a0 u0].flatten) [(0, .ref h0), (1, .int y1), (2, .int y2)] 9 []) (hK19 : ∀ (u0 : Md) (y1 : Int32) (y2 : Int32) (y3 : Int32), K19 u0 y1 y2 y3 → VV X 0 0 ([wX12 E h0 a0 u0].flatten) [(0, .ref h0), (1, .int y1), (2, .int y2), (3, .int y3)] 19 []) : ∀ (u0 : Md) (y1 : Int32) (y2 : Int32) (y3 : Int32) (z0 : Int32) (z1 : Int32), qX12_apart_89 Q K9 K19 u0 y1 y2 y3 z0 z1 → VV X 0 0 ([wX12 E h0 a0 u0].flatten) [(0, .ref h0), (1, .int y1), (2, .int y2), (3, .int y3)] 89 [.int z0, .int z1] := by
  intro u0 y1 y2 y3 z0 z1 hw
  unfold qX12_apart_89 at hw
  refine v_iadd C dX12_apart_89 ?_
  refine v_istore (lv' := [(4, .int (z1 + z0)), (0, .ref h0), (1, .int y1), (2, .int y2), (3, .int y3)]) C dX12_apart_90 (by decide) rfl ?_
  refine v_aload_n C dX12_apart_92 1 rfl ?_
  refine v_get (ci := 12) C inT12 0 27 rfl rfl (by decide) mF_X12_59_X12_27 rfl dX12_apart_93 ?_
  refine v_iload_n C dX12_apart_96 2 rfl ?_
  refine v_iload_n C dX12_apart_97 3 rfl ?_
  refine v_imul C dX12_apart_98 ?_
  refine v_iload_n C dX12_apart_99 4 rfl ?_
  refine v_iadd C dX12_apart_100 ?_
  refine v_iload C dX12_apart_101 0 rfl ?_
  refine v_iconst (v := 1) C dX12_apart_103 (by decide) ?_
  refine v_aload_n C dX12_apart_104 1 rfl ?_
  refine v_get (ci := 12) C inT12 0 27 rfl rfl (by decide) mF_X12_59_X12_27 rfl dX12_apart_105 ?_
  refine v_iload_n C dX12_apart_108 2 rfl ?_
  refine v_iload_n C dX12_apart_109 3 rfl ?_
  refine v_iconst (v := 1) C dX12_apart_110 (by decide) ?_
  refine v_isub C dX12_apart_111 ?_
  refine v_imul C dX12_apart_112 ?_
  refine v_iload_n C dX12_apart_113 4 rfl ?_
  refine v_iadd C dX12_apart_114 ?_
  obtain ⟨hi115, hw⟩ := hw
  refine v_iald C 15 rfl hi115 dX12_apart_115 ?_
  refine v_aload_n C dX12_apart_116 1 rfl ?_
  refine v_get (ci := 12) C inT12 0 27 rfl rfl (by decide) mF_X12_59_X12_27 rfl dX12_apart_117 ?_
  refine v_iload_n C dX12_apart_120 2 rfl ?_
  refine v_iload_n C dX12_apart_121 3 rfl ?_
  refine v_imul C dX12_apart_122 ?_
  refine v_iload_n C dX12_apart_123 4 rfl ?_
  refine v_iadd C dX12_apart_124 ?_
  refine v_iconst (v := 1) C dX12_apart_125 (by decide) ?_
  refine v_isub C dX12_apart_126 ?_
  obtain ⟨hi127, hw⟩ := hw
  refine v_iald C 15 rfl hi127 dX12_apart_127 ?_
  refine v_imin C mM_X12_163 ⟨Nat.le_of_ble_eq_true rfl, Nat.le_of_ble_eq_true rfl, Nat.le_of_ble_eq_true rfl, Nat.le_of_ble_eq_true rfl⟩ dX12_apart_128 ?_
  refine v_iadd C dX12_apart_131 ?_
  refine v_imin C mM_X12_163 ⟨Nat.le_of_ble_eq_true rfl, Nat.le_of_ble_eq_true rfl, Nat.le_of_ble_eq_true rfl, Nat.le_of_ble_eq_true rfl⟩ dX12_apart_132 ?_
  obtain ⟨hi135, hw⟩ := hw
  obtain ⟨w135, e135⟩ : ∃ z : Md, z = tA u0 27 ((y1 * y2) + y3) (imin (z1 + z0) (1 + (imin (gA u0 27 ((y1 * (y2 - 1)) + y3).toNatClampNeg) (gA u0 27 (((y1 * y2) + y3) - 1).toNatClampNeg)))) := ⟨_, rfl⟩
  have hw := hw w135 e135
  refine v_iast (ws' := [wX12 E h0 a0 w135].flatten) C 15 rfl hi135 (by rw [e135]; rfl) dX12_apart_135 ?_
  refine v_iinc (lv' := [(3, .int (y3 + Int32.ofInt 1)), (4, .int (z1 + z0)), (0, .ref h0), (1, .int y1), (2, .int y2)]) C dX12_apart_136 4 rfl (by decide) rfl ?_
  refine v_goto (tgt := 19) C dX12_apart_139 (by decide) ?_
  refine v_lv C (lv' := [(0, .ref h0), (1, .int y1), (2, .int y2), (3, .int (y3 + Int32.ofInt 1))]) [2, 3, 4, 0] rfl ?_
  exact hK19 w135 y1 y2 (y3 + Int32.ofInt 1) hw
set_option maxHeartbeats 4000000 in
set_option maxRecDepth 100000 in
theorem jX12_apart_19 {X : VX} {E : VE} {l : Launch} (h0 : Nat) (a0 : Nat → Nat)  (Q : Int32 → Md → Prop) (C : VC X cX12_apart 5 RX12 (rmL 1 0 0) E l) (hret : RetI X cX12_apart .int 0 0 (fun (U : Md) => [wX12 E h0 a0 U].flatten) (fun (r : Int32) (U : Md) => Q r U)) (K9 : Md → Int32 → Int32 → Prop) (hK9 : ∀ (u0 : Md) (y1 : Int32) (y2 : Int32), K9 u0 y1 y2 → VV X 0 0 ([wX12 E h0 a0 u0].flatten) [(0, .ref h0), (1, .int y1), (2, .int y2)] 9 []) : ∀ (n : Nat), ∀ (u0 : Md) (y1 : Int32) (y2 : Int32) (y3 : Int32), qX12_apart_19 Q K9 n u0 y1 y2 y3 → VV X 0 0 ([wX12 E h0 a0 u0].flatten) [(0, .ref h0), (1, .int y1), (2, .int y2), (3, .int y3)] 19 [] := by
  intro n
  induction n with
  | zero =>
    intro u0 y1 y2 y3 hw
    exact hw.elim
  | succ n ih =>
    intro u0 y1 y2 y3 hw
    unfold qX12_apart_19 at hw
    refine v_iload_n C dX12_apart_19 3 rfl ?_
    refine v_aload_n C dX12_apart_20 0 rfl ?_
    refine v_get (ci := 12) C inT12 0 21 rfl rfl (by decide) mF_X12_258_X12_21 rfl dX12_apart_21 ?_
    refine v_icmp_gt (tgt := 142) C dX12_apart_24 (by decide) (fun hc => ?_) (fun hc => ?_)
    · have hw := hw.1 hc
      refine v_iinc (lv' := [(2, .int (y2 + Int32.ofInt 1)), (0, .ref h0), (1, .int y1), (3, .int y3)]) C dX12_apart_142 2 rfl (by decide) rfl ?_
      refine v_goto (tgt := 9) C dX12_apart_145 (by decide) ?_
      refine v_lv C (lv' := [(0, .ref h0), (1, .int y1), (2, .int (y2 + Int32.ofInt 1))]) [1, 2, 0] rfl ?_
      exact hK9 u0 y1 (y2 + Int32.ofInt 1) hw
    · have hw := hw.2 hc
      refine v_iload_n C dX12_apart_27 2 rfl ?_
      refine v_if_eq (tgt := 35) C dX12_apart_28 (by decide) (fun hc => ?_) (fun hc => ?_)
      · have hw := hw.1 hc
        exact jX12_apart_35 h0 a0 Q C hret K9 (qX12_apart_19 Q K9 n) hK9 ih u0 y1 y2 y3 hw
      · have hw := hw.2 hc
        refine v_iload_n C dX12_apart_31 3 rfl ?_
        refine v_if_ne (tgt := 51) C dX12_apart_32 (by decide) (fun hc => ?_) (fun hc => ?_)
        · have hw := hw.1 hc
          refine v_aload_n C dX12_apart_51 0 rfl ?_
          refine v_get (ci := 12) C inT12 0 27 rfl rfl (by decide) mF_X12_59_X12_27 rfl dX12_apart_52 ?_
          refine v_iload_n C dX12_apart_55 1 rfl ?_
          refine v_iload_n C dX12_apart_56 2 rfl ?_
          refine v_iconst (v := 1) C dX12_apart_57 (by decide) ?_
          refine v_isub C dX12_apart_58 ?_
          refine v_imul C dX12_apart_59 ?_
          refine v_iload_n C dX12_apart_60 3 rfl ?_
          refine v_iadd C dX12_apart_61 ?_
          refine v_iconst (v := 1) C dX12_apart_62 (by decide) ?_
          refine v_isub C dX12_apart_63 ?_
          obtain ⟨hi64, hw⟩ := hw
          refine v_iald C 15 rfl hi64 dX12_apart_64 ?_
          refine v_aload_n C dX12_apart_65 0 rfl ?_
          refine v_get (ci := 12) C inT12 0 25 rfl rfl (by decide) mF_X12_56_X12_25 rfl dX12_apart_66 ?_
          refine v_iload_n C dX12_apart_69 2 rfl ?_
          refine v_iconst (v := 1) C dX12_apart_70 (by decide) ?_
          refine v_isub C dX12_apart_71 ?_
          obtain ⟨hi72, hw⟩ := hw
          refine v_iald C 14 rfl hi72 dX12_apart_72 ?_
          refine v_aload_n C dX12_apart_73 0 rfl ?_
          refine v_get (ci := 12) C inT12 0 19 rfl rfl (by decide) mF_X12_44_X12_19 rfl dX12_apart_74 ?_
          refine v_iload_n C dX12_apart_77 3 rfl ?_
          refine v_iconst (v := 1) C dX12_apart_78 (by decide) ?_
          refine v_isub C dX12_apart_79 ?_
          obtain ⟨hi80, hw⟩ := hw
          refine v_iald C 10 rfl hi80 dX12_apart_80 ?_
          refine v_icmp_ne (tgt := 88) C dX12_apart_81 (by decide) (fun hc => ?_) (fun hc => ?_)
          · have hw := hw.1 hc
            refine v_iconst (v := 1) C dX12_apart_88 (by decide) ?_
            exact jX12_apart_89 h0 a0 Q C hret K9 (qX12_apart_19 Q K9 n) hK9 ih u0 y1 y2 y3 1 (gA u0 27 (((y1 * (y2 - 1)) + y3) - 1).toNatClampNeg) hw
          · have hw := hw.2 hc
            refine v_iconst (v := 0) C dX12_apart_84 (by decide) ?_
            refine v_goto (tgt := 89) C dX12_apart_85 (by decide) ?_
            exact jX12_apart_89 h0 a0 Q C hret K9 (qX12_apart_19 Q K9 n) hK9 ih u0 y1 y2 y3 0 (gA u0 27 (((y1 * (y2 - 1)) + y3) - 1).toNatClampNeg) hw
        · have hw := hw.2 hc
          exact jX12_apart_35 h0 a0 Q C hret K9 (qX12_apart_19 Q K9 n) hK9 ih u0 y1 y2 y3 hw
set_option maxHeartbeats 4000000 in
set_option maxRecDepth 100000 in
theorem jX12_apart_9 {X : VX} {E : VE} {l : Launch} (h0 : Nat) (a0 : Nat → Nat)  (Q : Int32 → Md → Prop) (C : VC X cX12_apart 5 RX12 (rmL 1 0 0) E l) (hret : RetI X cX12_apart .int 0 0 (fun (U : Md) => [wX12 E h0 a0 U].flatten) (fun (r : Int32) (U : Md) => Q r U))  : ∀ (n : Nat), ∀ (u0 : Md) (y1 : Int32) (y2 : Int32), qX12_apart_9 Q n u0 y1 y2 → VV X 0 0 ([wX12 E h0 a0 u0].flatten) [(0, .ref h0), (1, .int y1), (2, .int y2)] 9 [] := by
  intro n
  induction n with
  | zero =>
    intro u0 y1 y2 hw
    exact hw.elim
  | succ n ih =>
    intro u0 y1 y2 hw
    unfold qX12_apart_9 at hw
    refine v_iload_n C dX12_apart_9 2 rfl ?_
    refine v_aload_n C dX12_apart_10 0 rfl ?_
    refine v_get (ci := 12) C inT12 0 26 rfl rfl (by decide) mF_X12_291_X12_26 rfl dX12_apart_11 ?_
    refine v_icmp_gt (tgt := 148) C dX12_apart_14 (by decide) (fun hc => ?_) (fun hc => ?_)
    · have hw := hw.1 hc
      refine v_aload_n C dX12_apart_148 0 rfl ?_
      refine v_get (ci := 12) C inT12 0 27 rfl rfl (by decide) mF_X12_59_X12_27 rfl dX12_apart_149 ?_
      refine v_iload_n C dX12_apart_152 1 rfl ?_
      refine v_aload_n C dX12_apart_153 0 rfl ?_
      refine v_get (ci := 12) C inT12 0 26 rfl rfl (by decide) mF_X12_291_X12_26 rfl dX12_apart_154 ?_
      refine v_imul C dX12_apart_157 ?_
      refine v_aload_n C dX12_apart_158 0 rfl ?_
      refine v_get (ci := 12) C inT12 0 21 rfl rfl (by decide) mF_X12_258_X12_21 rfl dX12_apart_159 ?_
      refine v_iadd C dX12_apart_162 ?_
      obtain ⟨hi163, hw⟩ := hw
      refine v_iald C 15 rfl hi163 dX12_apart_163 ?_
      exact hret _ _ _ _ (gA u0 27 ((y1 * (gF u0 26)) + (gF u0 21)).toNatClampNeg) u0 dX12_apart_164 rfl hw (Nat.le_of_ble_eq_true rfl) (Nat.le_of_ble_eq_true rfl)
    · have hw := hw.2 hc
      refine v_iconst (v := 0) C dX12_apart_17 (by decide) ?_
      refine v_istore_n (lv' := [(3, .int 0), (0, .ref h0), (1, .int y1), (2, .int y2)]) C dX12_apart_18 (by decide) rfl ?_
      refine v_lv C (lv' := [(0, .ref h0), (1, .int y1), (2, .int y2), (3, .int 0)]) [1, 2, 3, 0] rfl ?_
      obtain ⟨n', hw⟩ := hw
      exact jX12_apart_19 h0 a0 Q C hret (qX12_apart_9 Q n) ih n' u0 y1 y2 0 hw
set_option maxHeartbeats 4000000 in
set_option maxRecDepth 100000 in
theorem kX12_apart {l : Launch} {E : VE} (h0 : Nat) (a0 : Nat → Nat) (u0 : Md) {Q : Int32 → Md → Prop} (hw : qX12_apart u0 Q) : MI l yX12_apart cX12_apart 5 .int 1 0 0 E [.ref h0] ([wX12 E h0 a0 u0].flatten) (fun (U : Md) => [wX12 E h0 a0 U].flatten) (fun (r : Int32) (U : Md) => Q r U) := by
  refine MI.of (own := RX12) (by decide) rfl (Nat.le_of_ble_eq_true rfl) ?_
  intro X C hini hret
  show VV X 0 0 ([wX12 E h0 a0 u0].flatten) [(0, .ref h0)] 0 []
  unfold qX12_apart at hw
  refine v_aload_n C dX12_apart_0 0 rfl ?_
  refine v_get (ci := 12) C inT12 0 21 rfl rfl (by decide) mF_X12_258_X12_21 rfl dX12_apart_1 ?_
  refine v_iconst (v := 1) C dX12_apart_4 (by decide) ?_
  refine v_iadd C dX12_apart_5 ?_
  refine v_istore_n (lv' := [(1, .int ((gF u0 21) + 1)), (0, .ref h0)]) C dX12_apart_6 (by decide) rfl ?_
  refine v_iconst (v := 0) C dX12_apart_7 (by decide) ?_
  refine v_istore_n (lv' := [(2, .int 0), (1, .int ((gF u0 21) + 1)), (0, .ref h0)]) C dX12_apart_8 (by decide) rfl ?_
  refine v_lv C (lv' := [(0, .ref h0), (1, .int ((gF u0 21) + 1)), (2, .int 0)]) [2, 1, 0] rfl ?_
  obtain ⟨n', hw⟩ := hw
  exact jX12_apart_9 h0 a0 Q C hret n' u0 ((gF u0 21) + 1) 0 hw
set_option maxHeartbeats 4000000 in
set_option maxRecDepth 100000 in
theorem kX12_editsOf {l : Launch} {E : VE} (h0 : Nat) (a0 : Nat → Nat) (u0 : Md) (x1 : Int32) (x2 : Int32) (x3 : Int32) {Q : Int32 → Md → Prop} (hw : qX12_editsOf u0 x1 x2 x3 Q) : MI l yX12_editsOf cX12_editsOf 4 .int 3 0 0 E [.ref h0, .int x1, .int x2, .int x3] ([wX12 E h0 a0 u0].flatten) (fun (U : Md) => [wX12 E h0 a0 U].flatten) (fun (r : Int32) (U : Md) => Q r U) := by
  refine MI.of (own := RX12) (by decide) rfl (Nat.le_of_ble_eq_true rfl) ?_
  intro X C hini hret
  show VV X 0 0 ([wX12 E h0 a0 u0].flatten) [(0, .ref h0), (1, .int x1), (2, .int x2), (3, .int x3)] 0 []
  unfold qX12_editsOf at hw
  refine v_aload_n C dX12_editsOf_0 0 rfl ?_
  refine v_iconst (v := 0) C dX12_editsOf_1 (by decide) ?_
  obtain ⟨w2, e2⟩ : ∃ z : Md, z = sF u0 21 0 := ⟨_, rfl⟩
  have hw := hw w2 e2
  refine v_put (ci := 12) (ws' := [wX12 E h0 a0 w2].flatten) C tyX12 tyX12_ok nmX12 inT12 0 21 rfl rfl (by decide) mF_X12_258_X12_21 rfl rfl rfl rfl (Nat.le_of_ble_eq_true rfl) (by rw [e2]; rfl) dX12_editsOf_2 ?_
  refine v_aload_n C dX12_editsOf_5 0 rfl ?_
  refine v_iload_n C dX12_editsOf_6 1 rfl ?_
  refine v_iload_n C dX12_editsOf_7 3 rfl ?_
  refine v_callFv (st := []) (ci := 12) (qb := 0) C (kX12_spells h0 a0 _ _ _ hw) mM_X12_285 mI_X12 mC_X12_spells mN_X12_spells mS_X12_spells rfl rfl hd_X12_spells ⟨Nat.le_of_ble_eq_true rfl, Nat.le_of_ble_eq_true rfl⟩ ⟨Nat.le_of_ble_eq_true rfl, Nat.le_of_ble_eq_true rfl⟩ rfl (Nat.le_of_ble_eq_true rfl) dX12_editsOf_8 (fun v8_0 hw => ?_)
  refine v_aload_n C dX12_editsOf_11 0 rfl ?_
  refine v_callFv (st := []) (ci := 12) (qb := 0) C (kX12_holds h0 a0 _ hw) mM_X12_294 mI_X12 mC_X12_holds mN_X12_holds mS_X12_holds rfl rfl hd_X12_holds ⟨Nat.le_of_ble_eq_true rfl, Nat.le_of_ble_eq_true rfl⟩ ⟨Nat.le_of_ble_eq_true rfl, Nat.le_of_ble_eq_true rfl⟩ rfl (Nat.le_of_ble_eq_true rfl) dX12_editsOf_12 (fun v12_0 hw => ?_)
  refine v_aload_n C dX12_editsOf_15 0 rfl ?_
  refine v_iconst (v := 0) C dX12_editsOf_16 (by decide) ?_
  obtain ⟨w17, e17⟩ : ∃ z : Md, z = sF v12_0 21 0 := ⟨_, rfl⟩
  have hw := hw w17 e17
  refine v_put (ci := 12) (ws' := [wX12 E h0 a0 w17].flatten) C tyX12 tyX12_ok nmX12 inT12 0 21 rfl rfl (by decide) mF_X12_258_X12_21 rfl rfl rfl rfl (Nat.le_of_ble_eq_true rfl) (by rw [e17]; rfl) dX12_editsOf_17 ?_
  refine v_aload_n C dX12_editsOf_20 0 rfl ?_
  refine v_iload_n C dX12_editsOf_21 2 rfl ?_
  refine v_iload_n C dX12_editsOf_22 3 rfl ?_
  refine v_callFv (st := []) (ci := 12) (qb := 0) C (kX12_spells h0 a0 _ _ _ hw) mM_X12_285 mI_X12 mC_X12_spells mN_X12_spells mS_X12_spells rfl rfl hd_X12_spells ⟨Nat.le_of_ble_eq_true rfl, Nat.le_of_ble_eq_true rfl⟩ ⟨Nat.le_of_ble_eq_true rfl, Nat.le_of_ble_eq_true rfl⟩ rfl (Nat.le_of_ble_eq_true rfl) dX12_editsOf_23 (fun v23_0 hw => ?_)
  refine v_aload_n C dX12_editsOf_26 0 rfl ?_
  refine v_callFi (st := []) (ci := 12) (qb := 0) C (kX12_apart h0 a0 _ hw) mM_X12_300 mI_X12 mC_X12_apart mN_X12_apart mS_X12_apart rfl rfl hd_X12_apart ⟨Nat.le_of_ble_eq_true rfl, Nat.le_of_ble_eq_true rfl⟩ ⟨Nat.le_of_ble_eq_true rfl, Nat.le_of_ble_eq_true rfl⟩ rfl (Nat.le_of_ble_eq_true rfl) dX12_editsOf_27 (fun r27 v27_0 hw => ?_)
  exact hret _ _ _ _ r27 v27_0 dX12_editsOf_30 rfl hw (Nat.le_of_ble_eq_true rfl) (Nat.le_of_ble_eq_true rfl)
set_option maxHeartbeats 4000000 in
set_option maxRecDepth 100000 in
theorem kX12_edits {l : Launch} {E : VE} (h0 : Nat) (a0 : Nat → Nat) (u0 : Md) (x1 : Int32) (x2 : Int32) (x3 : Int32) {Q : Int32 → Md → Prop} (hw : qX12_edits u0 x1 x2 x3 Q) : MI l yX12_edits cX12_edits 4 .int 4 0 0 E [.ref h0, .int x1, .int x2, .int x3] ([wX12 E h0 a0 u0].flatten) (fun (U : Md) => [wX12 E h0 a0 U].flatten) (fun (r : Int32) (U : Md) => Q r U) := by
  refine MI.of (own := RX12) (by decide) rfl (Nat.le_of_ble_eq_true rfl) ?_
  intro X C hini hret
  show VV X 0 0 ([wX12 E h0 a0 u0].flatten) [(0, .ref h0), (1, .int x1), (2, .int x2), (3, .int x3)] 0 []
  unfold qX12_edits at hw
  refine v_aload_n C dX12_edits_0 0 rfl ?_
  refine v_iload_n C dX12_edits_1 1 rfl ?_
  refine v_callFi (st := []) (ci := 12) (qb := 0) C (kX12_isName h0 a0 _ _ hw) mM_X12_282 mI_X12 mC_X12_isName mN_X12_isName mS_X12_isName rfl rfl hd_X12_isName ⟨Nat.le_of_ble_eq_true rfl, Nat.le_of_ble_eq_true rfl⟩ ⟨Nat.le_of_ble_eq_true rfl, Nat.le_of_ble_eq_true rfl⟩ rfl (Nat.le_of_ble_eq_true rfl) dX12_edits_2 (fun r2 v2_0 hw => ?_)
  obtain ⟨h01_2, hw⟩ := hw
  have hw := hw h01_2
  refine v_if_eq (tgt := 33) C dX12_edits_5 (by decide) (fun hc => ?_) (fun hc => ?_)
  · have hw := hw.1 hc
    refine v_bipush (v := (-2)) C dX12_edits_33 (by decide) ?_
    exact hret _ _ _ _ ((-2)) v2_0 dX12_edits_35 rfl hw (Nat.le_of_ble_eq_true rfl) (Nat.le_of_ble_eq_true rfl)
  · have hw := hw.2 hc
    refine v_aload_n C dX12_edits_8 0 rfl ?_
    refine v_iload_n C dX12_edits_9 2 rfl ?_
    refine v_callFi (st := []) (ci := 12) (qb := 0) C (kX12_isName h0 a0 _ _ hw) mM_X12_282 mI_X12 mC_X12_isName mN_X12_isName mS_X12_isName rfl rfl hd_X12_isName ⟨Nat.le_of_ble_eq_true rfl, Nat.le_of_ble_eq_true rfl⟩ ⟨Nat.le_of_ble_eq_true rfl, Nat.le_of_ble_eq_true rfl⟩ rfl (Nat.le_of_ble_eq_true rfl) dX12_edits_10 (fun r10 v10_0 hw => ?_)
    obtain ⟨h01_10, hw⟩ := hw
    have hw := hw h01_10
    refine v_if_eq (tgt := 33) C dX12_edits_13 (by decide) (fun hc => ?_) (fun hc => ?_)
    · have hw := hw.1 hc
      refine v_bipush (v := (-2)) C dX12_edits_33 (by decide) ?_
      exact hret _ _ _ _ ((-2)) v10_0 dX12_edits_35 rfl hw (Nat.le_of_ble_eq_true rfl) (Nat.le_of_ble_eq_true rfl)
    · have hw := hw.2 hc
      refine v_iload_n C dX12_edits_16 3 rfl ?_
      refine v_callSPi (st := []) C (kX12_isYear _ hw) mM_X12_160 mI_X12 mC_X12_isYear mT_X12_isYear hd_X12_isYear ⟨Nat.le_of_ble_eq_true rfl, Nat.le_of_ble_eq_true rfl⟩ ⟨Nat.le_of_ble_eq_true rfl, Nat.le_of_ble_eq_true rfl⟩ rfl (Nat.le_of_ble_eq_true rfl) dX12_edits_17 (fun r17 U17 hw => ?_)
      obtain ⟨h01_17, hw⟩ := hw
      have hw := hw h01_17
      refine v_if_eq (tgt := 33) C dX12_edits_20 (by decide) (fun hc => ?_) (fun hc => ?_)
      · have hw := hw.1 hc
        refine v_bipush (v := (-2)) C dX12_edits_33 (by decide) ?_
        exact hret _ _ _ _ ((-2)) v10_0 dX12_edits_35 rfl hw (Nat.le_of_ble_eq_true rfl) (Nat.le_of_ble_eq_true rfl)
      · have hw := hw.2 hc
        refine v_aload_n C dX12_edits_23 0 rfl ?_
        refine v_iload_n C dX12_edits_24 1 rfl ?_
        refine v_iload_n C dX12_edits_25 2 rfl ?_
        refine v_iload_n C dX12_edits_26 3 rfl ?_
        refine v_callFi (st := []) (ci := 12) (qb := 0) C (kX12_editsOf h0 a0 _ _ _ _ hw) mM_X12_303 mI_X12 mC_X12_editsOf mN_X12_editsOf mS_X12_editsOf rfl rfl hd_X12_editsOf ⟨Nat.le_of_ble_eq_true rfl, Nat.le_of_ble_eq_true rfl⟩ ⟨Nat.le_of_ble_eq_true rfl, Nat.le_of_ble_eq_true rfl⟩ rfl (Nat.le_of_ble_eq_true rfl) dX12_edits_27 (fun r27 v27_0 hw => ?_)
        refine v_goto (tgt := 35) C dX12_edits_30 (by decide) ?_
        exact hret _ _ _ _ r27 v27_0 dX12_edits_35 rfl hw (Nat.le_of_ble_eq_true rfl) (Nat.le_of_ble_eq_true rfl)
set_option maxHeartbeats 4000000 in
set_option maxRecDepth 100000 in
theorem kX12_sortHere {l : Launch} {E : VE} (h0 : Nat) (a0 : Nat → Nat) (u0 : Md) {Q : Int32 → Md → Prop} (hw : qX12_sortHere u0 Q) : MI l yX12_sortHere cX12_sortHere 1 .int 5 0 0 E [.ref h0] ([wX12 E h0 a0 u0].flatten) (fun (U : Md) => [wX12 E h0 a0 U].flatten) (fun (r : Int32) (U : Md) => Q r U) := by
  refine MI.of (own := RX12) (by decide) rfl (Nat.le_of_ble_eq_true rfl) ?_
  intro X C hini hret
  show VV X 0 0 ([wX12 E h0 a0 u0].flatten) [(0, .ref h0)] 0 []
  unfold qX12_sortHere at hw
  refine v_aload_n C dX12_sortHere_0 0 rfl ?_
  refine v_ldcSw C (tx := "first") 2 (by decide) dX12_sortHere_1 ?_
  refine v_callFi (st := []) (ci := 12) (qb := 0) C (kX12_is h0 a0 _ _ (by decide) hw) mM_X12_228 mI_X12 mC_X12_is mN_X12_is mS_X12_is rfl rfl hd_X12_is ⟨Nat.le_of_ble_eq_true rfl, Nat.le_of_ble_eq_true rfl⟩ ⟨Nat.le_of_ble_eq_true rfl, Nat.le_of_ble_eq_true rfl⟩ rfl (Nat.le_of_ble_eq_true rfl) dX12_sortHere_4 (fun r4 v4_0 hw => ?_)
  obtain ⟨h01_4, hw⟩ := hw
  have hw := hw h01_4
  refine v_if_eq (tgt := 14) C dX12_sortHere_7 (by decide) (fun hc => ?_) (fun hc => ?_)
  · have hw := hw.1 hc
    refine v_aload_n C dX12_sortHere_14 0 rfl ?_
    refine v_ldcSw C (tx := "both") 3 (by decide) dX12_sortHere_15 ?_
    refine v_callFi (st := []) (ci := 12) (qb := 0) C (kX12_is h0 a0 _ _ (by decide) hw) mM_X12_228 mI_X12 mC_X12_is mN_X12_is mS_X12_is rfl rfl hd_X12_is ⟨Nat.le_of_ble_eq_true rfl, Nat.le_of_ble_eq_true rfl⟩ ⟨Nat.le_of_ble_eq_true rfl, Nat.le_of_ble_eq_true rfl⟩ rfl (Nat.le_of_ble_eq_true rfl) dX12_sortHere_18 (fun r18 v18_0 hw => ?_)
    obtain ⟨h01_18, hw⟩ := hw
    have hw := hw h01_18
    refine v_if_eq (tgt := 28) C dX12_sortHere_21 (by decide) (fun hc => ?_) (fun hc => ?_)
    · have hw := hw.1 hc
      refine v_aload_n C dX12_sortHere_28 0 rfl ?_
      refine v_ldcSw C (tx := "far") 4 (by decide) dX12_sortHere_29 ?_
      refine v_callFi (st := []) (ci := 12) (qb := 0) C (kX12_is h0 a0 _ _ (by decide) hw) mM_X12_228 mI_X12 mC_X12_is mN_X12_is mS_X12_is rfl rfl hd_X12_is ⟨Nat.le_of_ble_eq_true rfl, Nat.le_of_ble_eq_true rfl⟩ ⟨Nat.le_of_ble_eq_true rfl, Nat.le_of_ble_eq_true rfl⟩ rfl (Nat.le_of_ble_eq_true rfl) dX12_sortHere_32 (fun r32 v32_0 hw => ?_)
      obtain ⟨h01_32, hw⟩ := hw
      have hw := hw h01_32
      refine v_if_eq (tgt := 42) C dX12_sortHere_35 (by decide) (fun hc => ?_) (fun hc => ?_)
      · have hw := hw.1 hc
        refine v_aload_n C dX12_sortHere_42 0 rfl ?_
        refine v_ldcSw C (tx := "dead") 5 (by decide) dX12_sortHere_43 ?_
        refine v_callFi (st := []) (ci := 12) (qb := 0) C (kX12_is h0 a0 _ _ (by decide) hw) mM_X12_228 mI_X12 mC_X12_is mN_X12_is mS_X12_is rfl rfl hd_X12_is ⟨Nat.le_of_ble_eq_true rfl, Nat.le_of_ble_eq_true rfl⟩ ⟨Nat.le_of_ble_eq_true rfl, Nat.le_of_ble_eq_true rfl⟩ rfl (Nat.le_of_ble_eq_true rfl) dX12_sortHere_46 (fun r46 v46_0 hw => ?_)
        obtain ⟨h01_46, hw⟩ := hw
        have hw := hw h01_46
        refine v_if_eq (tgt := 56) C dX12_sortHere_49 (by decide) (fun hc => ?_) (fun hc => ?_)
        · have hw := hw.1 hc
          refine v_aload_n C dX12_sortHere_56 0 rfl ?_
          refine v_ldcSw C (tx := "sign") 6 (by decide) dX12_sortHere_57 ?_
          refine v_callFi (st := []) (ci := 12) (qb := 0) C (kX12_is h0 a0 _ _ (by decide) hw) mM_X12_228 mI_X12 mC_X12_is mN_X12_is mS_X12_is rfl rfl hd_X12_is ⟨Nat.le_of_ble_eq_true rfl, Nat.le_of_ble_eq_true rfl⟩ ⟨Nat.le_of_ble_eq_true rfl, Nat.le_of_ble_eq_true rfl⟩ rfl (Nat.le_of_ble_eq_true rfl) dX12_sortHere_60 (fun r60 v60_0 hw => ?_)
          obtain ⟨h01_60, hw⟩ := hw
          have hw := hw h01_60
          refine v_if_eq (tgt := 70) C dX12_sortHere_63 (by decide) (fun hc => ?_) (fun hc => ?_)
          · have hw := hw.1 hc
            refine v_aload_n C dX12_sortHere_70 0 rfl ?_
            refine v_ldcSw C (tx := "votes") 7 (by decide) dX12_sortHere_71 ?_
            refine v_callFi (st := []) (ci := 12) (qb := 0) C (kX12_is h0 a0 _ _ (by decide) hw) mM_X12_228 mI_X12 mC_X12_is mN_X12_is mS_X12_is rfl rfl hd_X12_is ⟨Nat.le_of_ble_eq_true rfl, Nat.le_of_ble_eq_true rfl⟩ ⟨Nat.le_of_ble_eq_true rfl, Nat.le_of_ble_eq_true rfl⟩ rfl (Nat.le_of_ble_eq_true rfl) dX12_sortHere_74 (fun r74 v74_0 hw => ?_)
            obtain ⟨h01_74, hw⟩ := hw
            have hw := hw h01_74
            refine v_if_eq (tgt := 84) C dX12_sortHere_77 (by decide) (fun hc => ?_) (fun hc => ?_)
            · have hw := hw.1 hc
              refine v_iconst (v := (-1)) C dX12_sortHere_84 (by decide) ?_
              exact hret _ _ _ _ ((-1)) v74_0 dX12_sortHere_85 rfl hw (Nat.le_of_ble_eq_true rfl) (Nat.le_of_ble_eq_true rfl)
            · have hw := hw.2 hc
              refine v_iconst (v := 5) C dX12_sortHere_80 (by decide) ?_
              refine v_goto (tgt := 85) C dX12_sortHere_81 (by decide) ?_
              exact hret _ _ _ _ 5 v74_0 dX12_sortHere_85 rfl hw (Nat.le_of_ble_eq_true rfl) (Nat.le_of_ble_eq_true rfl)
          · have hw := hw.2 hc
            refine v_iconst (v := 4) C dX12_sortHere_66 (by decide) ?_
            refine v_goto (tgt := 85) C dX12_sortHere_67 (by decide) ?_
            exact hret _ _ _ _ 4 v60_0 dX12_sortHere_85 rfl hw (Nat.le_of_ble_eq_true rfl) (Nat.le_of_ble_eq_true rfl)
        · have hw := hw.2 hc
          refine v_iconst (v := 3) C dX12_sortHere_52 (by decide) ?_
          refine v_goto (tgt := 85) C dX12_sortHere_53 (by decide) ?_
          exact hret _ _ _ _ 3 v46_0 dX12_sortHere_85 rfl hw (Nat.le_of_ble_eq_true rfl) (Nat.le_of_ble_eq_true rfl)
      · have hw := hw.2 hc
        refine v_iconst (v := 2) C dX12_sortHere_38 (by decide) ?_
        refine v_goto (tgt := 85) C dX12_sortHere_39 (by decide) ?_
        exact hret _ _ _ _ 2 v32_0 dX12_sortHere_85 rfl hw (Nat.le_of_ble_eq_true rfl) (Nat.le_of_ble_eq_true rfl)
    · have hw := hw.2 hc
      refine v_iconst (v := 1) C dX12_sortHere_24 (by decide) ?_
      refine v_goto (tgt := 85) C dX12_sortHere_25 (by decide) ?_
      exact hret _ _ _ _ 1 v18_0 dX12_sortHere_85 rfl hw (Nat.le_of_ble_eq_true rfl) (Nat.le_of_ble_eq_true rfl)
  · have hw := hw.2 hc
    refine v_iconst (v := 0) C dX12_sortHere_10 (by decide) ?_
    refine v_goto (tgt := 85) C dX12_sortHere_11 (by decide) ?_
    exact hret _ _ _ _ 0 v4_0 dX12_sortHere_85 rfl hw (Nat.le_of_ble_eq_true rfl) (Nat.le_of_ble_eq_true rfl)
set_option maxHeartbeats 4000000 in
set_option maxRecDepth 100000 in
theorem kX12_factHere {l : Launch} {E : VE} (h0 : Nat) (a0 : Nat → Nat) (u0 : Md) {Q : Int32 → Md → Prop} (hw : qX12_factHere u0 Q) : MI l yX12_factHere cX12_factHere 1 .int 5 0 0 E [.ref h0] ([wX12 E h0 a0 u0].flatten) (fun (U : Md) => [wX12 E h0 a0 U].flatten) (fun (r : Int32) (U : Md) => Q r U) := by
  refine MI.of (own := RX12) (by decide) rfl (Nat.le_of_ble_eq_true rfl) ?_
  intro X C hini hret
  show VV X 0 0 ([wX12 E h0 a0 u0].flatten) [(0, .ref h0)] 0 []
  unfold qX12_factHere at hw
  refine v_aload_n C dX12_factHere_0 0 rfl ?_
  refine v_ldcSw C (tx := "share") 12 (by decide) dX12_factHere_1 ?_
  refine v_callFi (st := []) (ci := 12) (qb := 0) C (kX12_is h0 a0 _ _ (by decide) hw) mM_X12_228 mI_X12 mC_X12_is mN_X12_is mS_X12_is rfl rfl hd_X12_is ⟨Nat.le_of_ble_eq_true rfl, Nat.le_of_ble_eq_true rfl⟩ ⟨Nat.le_of_ble_eq_true rfl, Nat.le_of_ble_eq_true rfl⟩ rfl (Nat.le_of_ble_eq_true rfl) dX12_factHere_4 (fun r4 v4_0 hw => ?_)
  obtain ⟨h01_4, hw⟩ := hw
  have hw := hw h01_4
  refine v_if_eq (tgt := 14) C dX12_factHere_7 (by decide) (fun hc => ?_) (fun hc => ?_)
  · have hw := hw.1 hc
    refine v_aload_n C dX12_factHere_14 0 rfl ?_
    refine v_ldcSw C (tx := "people") 13 (by decide) dX12_factHere_15 ?_
    refine v_callFi (st := []) (ci := 12) (qb := 0) C (kX12_is h0 a0 _ _ (by decide) hw) mM_X12_228 mI_X12 mC_X12_is mN_X12_is mS_X12_is rfl rfl hd_X12_is ⟨Nat.le_of_ble_eq_true rfl, Nat.le_of_ble_eq_true rfl⟩ ⟨Nat.le_of_ble_eq_true rfl, Nat.le_of_ble_eq_true rfl⟩ rfl (Nat.le_of_ble_eq_true rfl) dX12_factHere_18 (fun r18 v18_0 hw => ?_)
    obtain ⟨h01_18, hw⟩ := hw
    have hw := hw h01_18
    refine v_if_eq (tgt := 28) C dX12_factHere_21 (by decide) (fun hc => ?_) (fun hc => ?_)
    · have hw := hw.1 hc
      refine v_aload_n C dX12_factHere_28 0 rfl ?_
      refine v_ldcSw C (tx := "parts") 14 (by decide) dX12_factHere_29 ?_
      refine v_callFi (st := []) (ci := 12) (qb := 0) C (kX12_is h0 a0 _ _ (by decide) hw) mM_X12_228 mI_X12 mC_X12_is mN_X12_is mS_X12_is rfl rfl hd_X12_is ⟨Nat.le_of_ble_eq_true rfl, Nat.le_of_ble_eq_true rfl⟩ ⟨Nat.le_of_ble_eq_true rfl, Nat.le_of_ble_eq_true rfl⟩ rfl (Nat.le_of_ble_eq_true rfl) dX12_factHere_32 (fun r32 v32_0 hw => ?_)
      obtain ⟨h01_32, hw⟩ := hw
      have hw := hw h01_32
      refine v_if_eq (tgt := 42) C dX12_factHere_35 (by decide) (fun hc => ?_) (fun hc => ?_)
      · have hw := hw.1 hc
        refine v_aload_n C dX12_factHere_42 0 rfl ?_
        refine v_ldcSw C (tx := "year") 15 (by decide) dX12_factHere_43 ?_
        refine v_callFi (st := []) (ci := 12) (qb := 0) C (kX12_is h0 a0 _ _ (by decide) hw) mM_X12_228 mI_X12 mC_X12_is mN_X12_is mS_X12_is rfl rfl hd_X12_is ⟨Nat.le_of_ble_eq_true rfl, Nat.le_of_ble_eq_true rfl⟩ ⟨Nat.le_of_ble_eq_true rfl, Nat.le_of_ble_eq_true rfl⟩ rfl (Nat.le_of_ble_eq_true rfl) dX12_factHere_46 (fun r46 v46_0 hw => ?_)
        obtain ⟨h01_46, hw⟩ := hw
        have hw := hw h01_46
        refine v_if_eq (tgt := 56) C dX12_factHere_49 (by decide) (fun hc => ?_) (fun hc => ?_)
        · have hw := hw.1 hc
          refine v_iconst (v := (-1)) C dX12_factHere_56 (by decide) ?_
          exact hret _ _ _ _ ((-1)) v46_0 dX12_factHere_57 rfl hw (Nat.le_of_ble_eq_true rfl) (Nat.le_of_ble_eq_true rfl)
        · have hw := hw.2 hc
          refine v_iconst (v := 3) C dX12_factHere_52 (by decide) ?_
          refine v_goto (tgt := 57) C dX12_factHere_53 (by decide) ?_
          exact hret _ _ _ _ 3 v46_0 dX12_factHere_57 rfl hw (Nat.le_of_ble_eq_true rfl) (Nat.le_of_ble_eq_true rfl)
      · have hw := hw.2 hc
        refine v_iconst (v := 2) C dX12_factHere_38 (by decide) ?_
        refine v_goto (tgt := 57) C dX12_factHere_39 (by decide) ?_
        exact hret _ _ _ _ 2 v32_0 dX12_factHere_57 rfl hw (Nat.le_of_ble_eq_true rfl) (Nat.le_of_ble_eq_true rfl)
    · have hw := hw.2 hc
      refine v_iconst (v := 1) C dX12_factHere_24 (by decide) ?_
      refine v_goto (tgt := 57) C dX12_factHere_25 (by decide) ?_
      exact hret _ _ _ _ 1 v18_0 dX12_factHere_57 rfl hw (Nat.le_of_ble_eq_true rfl) (Nat.le_of_ble_eq_true rfl)
  · have hw := hw.2 hc
    refine v_iconst (v := 0) C dX12_factHere_10 (by decide) ?_
    refine v_goto (tgt := 57) C dX12_factHere_11 (by decide) ?_
    exact hret _ _ _ _ 0 v4_0 dX12_factHere_57 rfl hw (Nat.le_of_ble_eq_true rfl) (Nat.le_of_ble_eq_true rfl)
set_option maxHeartbeats 4000000 in
set_option maxRecDepth 100000 in
theorem kX12_tongueHere {l : Launch} {E : VE} (h0 : Nat) (a0 : Nat → Nat) (u0 : Md) {Q : Int32 → Md → Prop} (hw : qX12_tongueHere u0 Q) : MI l yX12_tongueHere cX12_tongueHere 1 .int 3 0 0 E [.ref h0] ([wX12 E h0 a0 u0].flatten) (fun (U : Md) => [wX12 E h0 a0 U].flatten) (fun (r : Int32) (U : Md) => Q r U) := by
  refine MI.of (own := RX12) (by decide) rfl (Nat.le_of_ble_eq_true rfl) ?_
  intro X C hini hret
  show VV X 0 0 ([wX12 E h0 a0 u0].flatten) [(0, .ref h0)] 0 []
  unfold qX12_tongueHere at hw
  refine v_aload_n C dX12_tongueHere_0 0 rfl ?_
  refine v_iconst (v := 2) C dX12_tongueHere_1 (by decide) ?_
  refine v_callFi (st := []) (ci := 12) (qb := 0) C (kX12_number h0 a0 _ _ hw) mM_X12_335 mI_X12 mC_X12_number mN_X12_number mS_X12_number rfl rfl hd_X12_number ⟨Nat.le_of_ble_eq_true rfl, Nat.le_of_ble_eq_true rfl⟩ ⟨Nat.le_of_ble_eq_true rfl, Nat.le_of_ble_eq_true rfl⟩ rfl (Nat.le_of_ble_eq_true rfl) dX12_tongueHere_2 (fun r2 v2_0 hw => ?_)
  exact hret _ _ _ _ r2 v2_0 dX12_tongueHere_5 rfl hw (Nat.le_of_ble_eq_true rfl) (Nat.le_of_ble_eq_true rfl)
set_option maxHeartbeats 4000000 in
set_option maxRecDepth 100000 in
theorem jX12_cond_163 {X : VX} {E : VE} {l : Launch} (h0 : Nat) (a0 : Nat → Nat)  (Q : Md → Prop) (C : VC X cX12_cond 4 RX12 (rmL 6 0 0) E l) (hret : RetV X cX12_cond 0 0 (fun (U : Md) => [wX12 E h0 a0 U].flatten) (fun (U : Md) => Q U))  : ∀ (u0 : Md) (y1 : Int32) (y2 : Int32), qX12_cond_163 Q u0 y1 y2 → VV X 0 0 ([wX12 E h0 a0 u0].flatten) [(0, .ref h0), (1, .int y1), (2, .int y2)] 163 [] := by
  intro u0 y1 y2 hw
  unfold qX12_cond_163 at hw
  refine v_aload_n C dX12_cond_163 0 rfl ?_
  refine v_callFi (st := []) (ci := 12) (qb := 0) C (kX12_good h0 a0 _ hw) mM_X12_209 mI_X12 mC_X12_good mN_X12_good mS_X12_good rfl rfl hd_X12_good ⟨Nat.le_of_ble_eq_true rfl, Nat.le_of_ble_eq_true rfl⟩ ⟨Nat.le_of_ble_eq_true rfl, Nat.le_of_ble_eq_true rfl⟩ rfl (Nat.le_of_ble_eq_true rfl) dX12_cond_164 (fun r164 v164_0 hw => ?_)
  obtain ⟨h01_164, hw⟩ := hw
  have hw := hw h01_164
  refine v_if_ne (tgt := 171) C dX12_cond_167 (by decide) (fun hc => ?_) (fun hc => ?_)
  · have hw := hw.1 hc
    refine v_aload_n C dX12_cond_171 0 rfl ?_
    refine v_get (ci := 12) C inT12 0 18 rfl rfl (by decide) mF_X12_41_X12_18 rfl dX12_cond_172 ?_
    refine v_iload_n C dX12_cond_175 2 rfl ?_
    refine v_iconst (v := 3) C dX12_cond_176 (by decide) ?_
    refine v_iadd C dX12_cond_177 ?_
    refine v_aload_n C dX12_cond_178 0 rfl ?_
    refine v_get (ci := 12) C inT12 0 14 rfl rfl (by decide) mF_X12_199_X12_14 rfl dX12_cond_179 ?_
    obtain ⟨hi182, hw⟩ := hw
    obtain ⟨w182, e182⟩ : ∃ z : Md, z = tA v164_0 18 (y2 + 3) (gF v164_0 14) := ⟨_, rfl⟩
    have hw := hw w182 e182
    refine v_iast (ws' := [wX12 E h0 a0 w182].flatten) C 9 rfl hi182 (by rw [e182]; rfl) dX12_cond_182 ?_
    refine v_aload_n C dX12_cond_183 0 rfl ?_
    refine v_callFv (st := []) (ci := 12) (qb := 0) C (kX12_next_ h0 a0 _ hw) mM_X12_206 mI_X12 mC_X12_next_ mN_X12_next_ mS_X12_next_ rfl rfl hd_X12_next_ ⟨Nat.le_of_ble_eq_true rfl, Nat.le_of_ble_eq_true rfl⟩ ⟨Nat.le_of_ble_eq_true rfl, Nat.le_of_ble_eq_true rfl⟩ rfl (Nat.le_of_ble_eq_true rfl) dX12_cond_184 (fun v184_0 hw => ?_)
    refine v_aload_n C dX12_cond_187 0 rfl ?_
    refine v_get (ci := 12) C inT12 0 18 rfl rfl (by decide) mF_X12_41_X12_18 rfl dX12_cond_188 ?_
    refine v_iload_n C dX12_cond_191 2 rfl ?_
    refine v_iconst (v := 4) C dX12_cond_192 (by decide) ?_
    refine v_iadd C dX12_cond_193 ?_
    refine v_aload_n C dX12_cond_194 0 rfl ?_
    refine v_sipush (v := 9999) C dX12_cond_195 (by decide) ?_
    refine v_callFi (st := [.int (y2 + 4), .ref ((a0 18))]) (ci := 12) (qb := 0) C (kX12_number h0 a0 _ _ hw) mM_X12_335 mI_X12 mC_X12_number mN_X12_number mS_X12_number rfl rfl hd_X12_number ⟨Nat.le_of_ble_eq_true rfl, Nat.le_of_ble_eq_true rfl⟩ ⟨Nat.le_of_ble_eq_true rfl, Nat.le_of_ble_eq_true rfl⟩ rfl (Nat.le_of_ble_eq_true rfl) dX12_cond_198 (fun r198 v198_0 hw => ?_)
    obtain ⟨hi201, hw⟩ := hw
    obtain ⟨w201, e201⟩ : ∃ z : Md, z = tA v198_0 18 (y2 + 4) r198 := ⟨_, rfl⟩
    have hw := hw w201 e201
    refine v_iast (ws' := [wX12 E h0 a0 w201].flatten) C 9 rfl hi201 (by rw [e201]; rfl) dX12_cond_201 ?_
    refine v_aload_n C dX12_cond_202 0 rfl ?_
    refine v_get (ci := 12) C inT12 0 18 rfl rfl (by decide) mF_X12_41_X12_18 rfl dX12_cond_203 ?_
    refine v_iload_n C dX12_cond_206 1 rfl ?_
    refine v_iconst (v := 3) C dX12_cond_207 (by decide) ?_
    refine v_iadd C dX12_cond_208 ?_
    refine v_dup2 C dX12_cond_209 rfl rfl ?_
    obtain ⟨hi210, hw⟩ := hw
    refine v_iald C 9 rfl hi210 dX12_cond_210 ?_
    refine v_iconst (v := 1) C dX12_cond_211 (by decide) ?_
    refine v_iadd C dX12_cond_212 ?_
    obtain ⟨hi213, hw⟩ := hw
    obtain ⟨w213, e213⟩ : ∃ z : Md, z = tA w201 18 (y1 + 3) ((gA w201 18 (y1 + 3).toNatClampNeg) + 1) := ⟨_, rfl⟩
    have hw := hw w213 e213
    refine v_iast (ws' := [wX12 E h0 a0 w213].flatten) C 9 rfl hi213 (by rw [e213]; rfl) dX12_cond_213 ?_
    exact hret _ _ _ _ w213 dX12_cond_214 hw (Nat.le_of_ble_eq_true rfl) (Nat.le_of_ble_eq_true rfl)
  · have hw := hw.2 hc
    exact hret _ _ _ _ v164_0 dX12_cond_170 hw (Nat.le_of_ble_eq_true rfl) (Nat.le_of_ble_eq_true rfl)
set_option maxHeartbeats 4000000 in
set_option maxRecDepth 100000 in
theorem jX12_cond_130 {X : VX} {E : VE} {l : Launch} (h0 : Nat) (a0 : Nat → Nat)  (Q : Md → Prop) (C : VC X cX12_cond 4 RX12 (rmL 6 0 0) E l) (hret : RetV X cX12_cond 0 0 (fun (U : Md) => [wX12 E h0 a0 U].flatten) (fun (U : Md) => Q U))  : ∀ (u0 : Md) (y1 : Int32) (y2 : Int32) (z0 : Int32) (z1 : Int32), qX12_cond_130 Q u0 y1 y2 z0 z1 → VV X 0 0 ([wX12 E h0 a0 u0].flatten) [(0, .ref h0), (1, .int y1), (2, .int y2)] 130 [.int z0, .int z1, .ref ((a0 18))] := by
  intro u0 y1 y2 z0 z1 hw
  unfold qX12_cond_130 at hw
  obtain ⟨hi130, hw⟩ := hw
  obtain ⟨w130, e130⟩ : ∃ z : Md, z = tA u0 18 z1 z0 := ⟨_, rfl⟩
  have hw := hw w130 e130
  refine v_iast (ws' := [wX12 E h0 a0 w130].flatten) C 9 rfl hi130 (by rw [e130]; rfl) dX12_cond_130 ?_
  refine v_aload_n C dX12_cond_131 0 rfl ?_
  refine v_bipush (v := 60) C dX12_cond_132 (by decide) ?_
  refine v_callFi (st := []) (ci := 12) (qb := 0) C (kX12_isSign h0 a0 _ _ hw) mM_X12_222 mI_X12 mC_X12_isSign mN_X12_isSign mS_X12_isSign rfl rfl hd_X12_isSign ⟨Nat.le_of_ble_eq_true rfl, Nat.le_of_ble_eq_true rfl⟩ ⟨Nat.le_of_ble_eq_true rfl, Nat.le_of_ble_eq_true rfl⟩ rfl (Nat.le_of_ble_eq_true rfl) dX12_cond_134 (fun r134 v134_0 hw => ?_)
  obtain ⟨h01_134, hw⟩ := hw
  have hw := hw h01_134
  refine v_if_ne (tgt := 163) C dX12_cond_137 (by decide) (fun hc => ?_) (fun hc => ?_)
  · have hw := hw.1 hc
    exact jX12_cond_163 h0 a0 Q C hret v134_0 y1 y2 hw
  · have hw := hw.2 hc
    refine v_aload_n C dX12_cond_140 0 rfl ?_
    refine v_bipush (v := 61) C dX12_cond_141 (by decide) ?_
    refine v_callFi (st := []) (ci := 12) (qb := 0) C (kX12_isSign h0 a0 _ _ hw) mM_X12_222 mI_X12 mC_X12_isSign mN_X12_isSign mS_X12_isSign rfl rfl hd_X12_isSign ⟨Nat.le_of_ble_eq_true rfl, Nat.le_of_ble_eq_true rfl⟩ ⟨Nat.le_of_ble_eq_true rfl, Nat.le_of_ble_eq_true rfl⟩ rfl (Nat.le_of_ble_eq_true rfl) dX12_cond_143 (fun r143 v143_0 hw => ?_)
    obtain ⟨h01_143, hw⟩ := hw
    have hw := hw h01_143
    refine v_if_ne (tgt := 163) C dX12_cond_146 (by decide) (fun hc => ?_) (fun hc => ?_)
    · have hw := hw.1 hc
      exact jX12_cond_163 h0 a0 Q C hret v143_0 y1 y2 hw
    · have hw := hw.2 hc
      refine v_aload_n C dX12_cond_149 0 rfl ?_
      refine v_bipush (v := 62) C dX12_cond_150 (by decide) ?_
      refine v_callFi (st := []) (ci := 12) (qb := 0) C (kX12_isSign h0 a0 _ _ hw) mM_X12_222 mI_X12 mC_X12_isSign mN_X12_isSign mS_X12_isSign rfl rfl hd_X12_isSign ⟨Nat.le_of_ble_eq_true rfl, Nat.le_of_ble_eq_true rfl⟩ ⟨Nat.le_of_ble_eq_true rfl, Nat.le_of_ble_eq_true rfl⟩ rfl (Nat.le_of_ble_eq_true rfl) dX12_cond_152 (fun r152 v152_0 hw => ?_)
      obtain ⟨h01_152, hw⟩ := hw
      have hw := hw h01_152
      refine v_if_ne (tgt := 163) C dX12_cond_155 (by decide) (fun hc => ?_) (fun hc => ?_)
      · have hw := hw.1 hc
        exact jX12_cond_163 h0 a0 Q C hret v152_0 y1 y2 hw
      · have hw := hw.2 hc
        refine v_aload_n C dX12_cond_158 0 rfl ?_
        refine v_iconst (v := 1) C dX12_cond_159 (by decide) ?_
        refine v_callFv (st := []) (ci := 12) (qb := 0) C (kX12_wrong h0 a0 _ _ hw) mM_X12_225 mI_X12 mC_X12_wrong mN_X12_wrong mS_X12_wrong rfl rfl hd_X12_wrong ⟨Nat.le_of_ble_eq_true rfl, Nat.le_of_ble_eq_true rfl⟩ ⟨Nat.le_of_ble_eq_true rfl, Nat.le_of_ble_eq_true rfl⟩ rfl (Nat.le_of_ble_eq_true rfl) dX12_cond_160 (fun v160_0 hw => ?_)
        exact jX12_cond_163 h0 a0 Q C hret v160_0 y1 y2 hw
set_option maxHeartbeats 4000000 in
set_option maxRecDepth 100000 in
theorem jX12_cond_90 {X : VX} {E : VE} {l : Launch} (h0 : Nat) (a0 : Nat → Nat)  (Q : Md → Prop) (C : VC X cX12_cond 4 RX12 (rmL 6 0 0) E l) (hret : RetV X cX12_cond 0 0 (fun (U : Md) => [wX12 E h0 a0 U].flatten) (fun (U : Md) => Q U))  : ∀ (u0 : Md) (y1 : Int32) (y2 : Int32) (y3 : Int32), qX12_cond_90 Q u0 y1 y2 y3 → VV X 0 0 ([wX12 E h0 a0 u0].flatten) [(0, .ref h0), (1, .int y1), (2, .int y2), (3, .int y3)] 90 [] := by
  intro u0 y1 y2 y3 hw
  unfold qX12_cond_90 at hw
  refine v_aload_n C dX12_cond_90 0 rfl ?_
  refine v_callFi (st := []) (ci := 12) (qb := 0) C (kX12_good h0 a0 _ hw) mM_X12_209 mI_X12 mC_X12_good mN_X12_good mS_X12_good rfl rfl hd_X12_good ⟨Nat.le_of_ble_eq_true rfl, Nat.le_of_ble_eq_true rfl⟩ ⟨Nat.le_of_ble_eq_true rfl, Nat.le_of_ble_eq_true rfl⟩ rfl (Nat.le_of_ble_eq_true rfl) dX12_cond_91 (fun r91 v91_0 hw => ?_)
  obtain ⟨h01_91, hw⟩ := hw
  have hw := hw h01_91
  refine v_if_ne (tgt := 98) C dX12_cond_94 (by decide) (fun hc => ?_) (fun hc => ?_)
  · have hw := hw.1 hc
    refine v_aload_n C dX12_cond_98 0 rfl ?_
    refine v_callFv (st := []) (ci := 12) (qb := 0) C (kX12_next_ h0 a0 _ hw) mM_X12_206 mI_X12 mC_X12_next_ mN_X12_next_ mS_X12_next_ rfl rfl hd_X12_next_ ⟨Nat.le_of_ble_eq_true rfl, Nat.le_of_ble_eq_true rfl⟩ ⟨Nat.le_of_ble_eq_true rfl, Nat.le_of_ble_eq_true rfl⟩ rfl (Nat.le_of_ble_eq_true rfl) dX12_cond_99 (fun v99_0 hw => ?_)
    refine v_aload_n C dX12_cond_102 0 rfl ?_
    refine v_get (ci := 12) C inT12 0 18 rfl rfl (by decide) mF_X12_41_X12_18 rfl dX12_cond_103 ?_
    refine v_iload_n C dX12_cond_106 2 rfl ?_
    refine v_iconst (v := 1) C dX12_cond_107 (by decide) ?_
    refine v_iadd C dX12_cond_108 ?_
    refine v_iload_n C dX12_cond_109 3 rfl ?_
    obtain ⟨hi110, hw⟩ := hw
    obtain ⟨w110, e110⟩ : ∃ z : Md, z = tA v99_0 18 (y2 + 1) y3 := ⟨_, rfl⟩
    have hw := hw w110 e110
    refine v_iast (ws' := [wX12 E h0 a0 w110].flatten) C 9 rfl hi110 (by rw [e110]; rfl) dX12_cond_110 ?_
    refine v_aload_n C dX12_cond_111 0 rfl ?_
    refine v_get (ci := 12) C inT12 0 18 rfl rfl (by decide) mF_X12_41_X12_18 rfl dX12_cond_112 ?_
    refine v_iload_n C dX12_cond_115 2 rfl ?_
    refine v_iconst (v := 2) C dX12_cond_116 (by decide) ?_
    refine v_iadd C dX12_cond_117 ?_
    refine v_iload_n C dX12_cond_118 3 rfl ?_
    refine v_if_ne (tgt := 129) C dX12_cond_119 (by decide) (fun hc => ?_) (fun hc => ?_)
    · have hw := hw.1 hc
      refine v_iconst (v := 0) C dX12_cond_129 (by decide) ?_
      refine v_lv C (lv' := [(0, .ref h0), (1, .int y1), (2, .int y2)]) [0, 1, 2] rfl ?_
      exact jX12_cond_130 h0 a0 Q C hret w110 y1 y2 0 (y2 + 2) hw
    · have hw := hw.2 hc
      refine v_aload_n C dX12_cond_122 0 rfl ?_
      refine v_callFi (st := [.int (y2 + 2), .ref ((a0 18))]) (ci := 12) (qb := 0) C (kX12_tongueHere h0 a0 _ hw) mM_X12_332 mI_X12 mC_X12_tongueHere mN_X12_tongueHere mS_X12_tongueHere rfl rfl hd_X12_tongueHere ⟨Nat.le_of_ble_eq_true rfl, Nat.le_of_ble_eq_true rfl⟩ ⟨Nat.le_of_ble_eq_true rfl, Nat.le_of_ble_eq_true rfl⟩ rfl (Nat.le_of_ble_eq_true rfl) dX12_cond_123 (fun r123 v123_0 hw => ?_)
      refine v_goto (tgt := 130) C dX12_cond_126 (by decide) ?_
      refine v_lv C (lv' := [(0, .ref h0), (1, .int y1), (2, .int y2)]) [0, 1, 2] rfl ?_
      exact jX12_cond_130 h0 a0 Q C hret v123_0 y1 y2 r123 (y2 + 2) hw
  · have hw := hw.2 hc
    exact hret _ _ _ _ v91_0 dX12_cond_97 hw (Nat.le_of_ble_eq_true rfl) (Nat.le_of_ble_eq_true rfl)
set_option maxHeartbeats 4000000 in
set_option maxRecDepth 100000 in
theorem jX12_cond_74 {X : VX} {E : VE} {l : Launch} (h0 : Nat) (a0 : Nat → Nat)  (Q : Md → Prop) (C : VC X cX12_cond 4 RX12 (rmL 6 0 0) E l) (hret : RetV X cX12_cond 0 0 (fun (U : Md) => [wX12 E h0 a0 U].flatten) (fun (U : Md) => Q U))  : ∀ (u0 : Md) (y1 : Int32) (y2 : Int32) (z0 : Int32) (z1 : Int32), qX12_cond_74 Q u0 y1 y2 z0 z1 → VV X 0 0 ([wX12 E h0 a0 u0].flatten) [(0, .ref h0), (1, .int y1), (2, .int y2)] 74 [.int z0, .int z1, .ref ((a0 18))] := by
  intro u0 y1 y2 z0 z1 hw
  unfold qX12_cond_74 at hw
  obtain ⟨hi74, hw⟩ := hw
  obtain ⟨w74, e74⟩ : ∃ z : Md, z = tA u0 18 z1 z0 := ⟨_, rfl⟩
  have hw := hw w74 e74
  refine v_iast (ws' := [wX12 E h0 a0 w74].flatten) C 9 rfl hi74 (by rw [e74]; rfl) dX12_cond_74 ?_
  refine v_aload_n C dX12_cond_75 0 rfl ?_
  refine v_callFi (st := []) (ci := 12) (qb := 0) C (kX12_factHere h0 a0 _ hw) mM_X12_329 mI_X12 mC_X12_factHere mN_X12_factHere mS_X12_factHere rfl rfl hd_X12_factHere ⟨Nat.le_of_ble_eq_true rfl, Nat.le_of_ble_eq_true rfl⟩ ⟨Nat.le_of_ble_eq_true rfl, Nat.le_of_ble_eq_true rfl⟩ rfl (Nat.le_of_ble_eq_true rfl) dX12_cond_76 (fun r76 v76_0 hw => ?_)
  refine v_istore_n (lv' := [(3, .int r76), (0, .ref h0), (1, .int y1), (2, .int y2)]) C dX12_cond_79 (by decide) rfl ?_
  refine v_iload_n C dX12_cond_80 0 rfl ?_
  refine v_iconst (v := (-1)) C dX12_cond_81 (by decide) ?_
  refine v_icmp_ne (tgt := 90) C dX12_cond_82 (by decide) (fun hc => ?_) (fun hc => ?_)
  · have hw := hw.1 hc
    refine v_lv C (lv' := [(0, .ref h0), (1, .int y1), (2, .int y2), (3, .int r76)]) [1, 2, 3, 0] rfl ?_
    exact jX12_cond_90 h0 a0 Q C hret v76_0 y1 y2 r76 hw
  · have hw := hw.2 hc
    refine v_aload_n C dX12_cond_85 1 rfl ?_
    refine v_iconst (v := 1) C dX12_cond_86 (by decide) ?_
    refine v_callFv (st := []) (ci := 12) (qb := 0) C (kX12_wrong h0 a0 _ _ hw) mM_X12_225 mI_X12 mC_X12_wrong mN_X12_wrong mS_X12_wrong rfl rfl hd_X12_wrong ⟨Nat.le_of_ble_eq_true rfl, Nat.le_of_ble_eq_true rfl⟩ ⟨Nat.le_of_ble_eq_true rfl, Nat.le_of_ble_eq_true rfl⟩ rfl (Nat.le_of_ble_eq_true rfl) dX12_cond_87 (fun v87_0 hw => ?_)
    refine v_lv C (lv' := [(0, .ref h0), (1, .int y1), (2, .int y2), (3, .int r76)]) [1, 2, 3, 0] rfl ?_
    exact jX12_cond_90 h0 a0 Q C hret v87_0 y1 y2 r76 hw
set_option maxHeartbeats 4000000 in
set_option maxRecDepth 100000 in
theorem jX12_cond_35 {X : VX} {E : VE} {l : Launch} (h0 : Nat) (a0 : Nat → Nat)  (Q : Md → Prop) (C : VC X cX12_cond 4 RX12 (rmL 6 0 0) E l) (hret : RetV X cX12_cond 0 0 (fun (U : Md) => [wX12 E h0 a0 U].flatten) (fun (U : Md) => Q U))  : ∀ (u0 : Md) (y1 : Int32), qX12_cond_35 Q u0 y1 → VV X 0 0 ([wX12 E h0 a0 u0].flatten) [(0, .ref h0), (1, .int y1)] 35 [] := by
  intro u0 y1 hw
  unfold qX12_cond_35 at hw
  refine v_iload_n C dX12_cond_35 1 rfl ?_
  refine v_iconst (v := 4) C dX12_cond_36 (by decide) ?_
  refine v_iadd C dX12_cond_37 ?_
  refine v_iconst (v := 5) C dX12_cond_38 (by decide) ?_
  refine v_iconst (v := 3) C dX12_cond_39 (by decide) ?_
  refine v_aload_n C dX12_cond_40 0 rfl ?_
  refine v_get (ci := 12) C inT12 0 18 rfl rfl (by decide) mF_X12_41_X12_18 rfl dX12_cond_41 ?_
  refine v_iload_n C dX12_cond_44 1 rfl ?_
  refine v_iconst (v := 3) C dX12_cond_45 (by decide) ?_
  refine v_iadd C dX12_cond_46 ?_
  obtain ⟨hi47, hw⟩ := hw
  refine v_iald C 9 rfl hi47 dX12_cond_47 ?_
  refine v_imin C mM_X12_163 ⟨Nat.le_of_ble_eq_true rfl, Nat.le_of_ble_eq_true rfl, Nat.le_of_ble_eq_true rfl, Nat.le_of_ble_eq_true rfl⟩ dX12_cond_48 ?_
  refine v_imul C dX12_cond_51 ?_
  refine v_iadd C dX12_cond_52 ?_
  refine v_istore_n (lv' := [(2, .int ((y1 + 4) + (5 * (imin 3 (gA u0 18 (y1 + 3).toNatClampNeg))))), (0, .ref h0), (1, .int y1)]) C dX12_cond_53 (by decide) rfl ?_
  refine v_aload_n C dX12_cond_54 1 rfl ?_
  refine v_get (ci := 12) C inT12 0 18 rfl rfl (by decide) mF_X12_41_X12_18 rfl dX12_cond_55 ?_
  refine v_iload_n C dX12_cond_58 0 rfl ?_
  refine v_aload_n C dX12_cond_59 1 rfl ?_
  refine v_ldcSw C (tx := "not") 11 (by decide) dX12_cond_60 ?_
  refine v_callFi (st := [.int ((y1 + 4) + (5 * (imin 3 (gA u0 18 (y1 + 3).toNatClampNeg)))), .ref ((a0 18))]) (ci := 12) (qb := 0) C (kX12_takes h0 a0 _ _ (by decide) hw) mM_X12_239 mI_X12 mC_X12_takes mN_X12_takes mS_X12_takes rfl rfl hd_X12_takes ⟨Nat.le_of_ble_eq_true rfl, Nat.le_of_ble_eq_true rfl⟩ ⟨Nat.le_of_ble_eq_true rfl, Nat.le_of_ble_eq_true rfl⟩ rfl (Nat.le_of_ble_eq_true rfl) dX12_cond_63 (fun r63 v63_0 hw => ?_)
  obtain ⟨h01_63, hw⟩ := hw
  have hw := hw h01_63
  refine v_if_eq (tgt := 73) C dX12_cond_66 (by decide) (fun hc => ?_) (fun hc => ?_)
  · have hw := hw.1 hc
    refine v_iconst (v := 0) C dX12_cond_73 (by decide) ?_
    refine v_lv C (lv' := [(0, .ref h0), (1, .int y1), (2, .int ((y1 + 4) + (5 * (imin 3 (gA u0 18 (y1 + 3).toNatClampNeg)))))]) [1, 2, 0] rfl ?_
    exact jX12_cond_74 h0 a0 Q C hret v63_0 y1 ((y1 + 4) + (5 * (imin 3 (gA u0 18 (y1 + 3).toNatClampNeg)))) 0 ((y1 + 4) + (5 * (imin 3 (gA u0 18 (y1 + 3).toNatClampNeg)))) hw
  · have hw := hw.2 hc
    refine v_iconst (v := 1) C dX12_cond_69 (by decide) ?_
    refine v_goto (tgt := 74) C dX12_cond_70 (by decide) ?_
    refine v_lv C (lv' := [(0, .ref h0), (1, .int y1), (2, .int ((y1 + 4) + (5 * (imin 3 (gA u0 18 (y1 + 3).toNatClampNeg)))))]) [1, 2, 0] rfl ?_
    exact jX12_cond_74 h0 a0 Q C hret v63_0 y1 ((y1 + 4) + (5 * (imin 3 (gA u0 18 (y1 + 3).toNatClampNeg)))) 1 ((y1 + 4) + (5 * (imin 3 (gA u0 18 (y1 + 3).toNatClampNeg)))) hw
set_option maxHeartbeats 4000000 in
set_option maxRecDepth 100000 in
theorem jX12_cond_18 {X : VX} {E : VE} {l : Launch} (h0 : Nat) (a0 : Nat → Nat)  (Q : Md → Prop) (C : VC X cX12_cond 4 RX12 (rmL 6 0 0) E l) (hret : RetV X cX12_cond 0 0 (fun (U : Md) => [wX12 E h0 a0 U].flatten) (fun (U : Md) => Q U))  : ∀ (u0 : Md) (y1 : Int32), qX12_cond_18 Q u0 y1 → VV X 0 0 ([wX12 E h0 a0 u0].flatten) [(0, .ref h0), (1, .int y1)] 18 [] := by
  intro u0 y1 hw
  unfold qX12_cond_18 at hw
  refine v_aload_n C dX12_cond_18 0 rfl ?_
  refine v_get (ci := 12) C inT12 0 18 rfl rfl (by decide) mF_X12_41_X12_18 rfl dX12_cond_19 ?_
  refine v_iload_n C dX12_cond_22 1 rfl ?_
  refine v_iconst (v := 3) C dX12_cond_23 (by decide) ?_
  refine v_iadd C dX12_cond_24 ?_
  obtain ⟨hi25, hw⟩ := hw
  refine v_iald C 9 rfl hi25 dX12_cond_25 ?_
  refine v_iconst (v := 4) C dX12_cond_26 (by decide) ?_
  refine v_icmp_ne (tgt := 35) C dX12_cond_27 (by decide) (fun hc => ?_) (fun hc => ?_)
  · have hw := hw.1 hc
    exact jX12_cond_35 h0 a0 Q C hret u0 y1 hw
  · have hw := hw.2 hc
    refine v_aload_n C dX12_cond_30 0 rfl ?_
    refine v_iconst (v := 3) C dX12_cond_31 (by decide) ?_
    refine v_callFv (st := []) (ci := 12) (qb := 0) C (kX12_wrong h0 a0 _ _ hw) mM_X12_225 mI_X12 mC_X12_wrong mN_X12_wrong mS_X12_wrong rfl rfl hd_X12_wrong ⟨Nat.le_of_ble_eq_true rfl, Nat.le_of_ble_eq_true rfl⟩ ⟨Nat.le_of_ble_eq_true rfl, Nat.le_of_ble_eq_true rfl⟩ rfl (Nat.le_of_ble_eq_true rfl) dX12_cond_32 (fun v32_0 hw => ?_)
    exact jX12_cond_35 h0 a0 Q C hret v32_0 y1 hw
set_option maxHeartbeats 4000000 in
set_option maxRecDepth 100000 in
theorem kX12_cond {l : Launch} {E : VE} (h0 : Nat) (a0 : Nat → Nat) (u0 : Md) (x1 : Int32) {Q : Md → Prop} (hw : qX12_cond u0 x1 Q) : MV l yX12_cond cX12_cond 4 6 0 0 E [.ref h0, .int x1] ([wX12 E h0 a0 u0].flatten) (fun (U : Md) => [wX12 E h0 a0 U].flatten) (fun (U : Md) => Q U) := by
  refine MV.of (own := RX12) (by decide) rfl (Nat.le_of_ble_eq_true rfl) ?_
  intro X C hini hret
  show VV X 0 0 ([wX12 E h0 a0 u0].flatten) [(0, .ref h0), (1, .int x1)] 0 []
  unfold qX12_cond at hw
  refine v_aload_n C dX12_cond_0 0 rfl ?_
  refine v_ldcSw C (tx := "not") 11 (by decide) dX12_cond_1 ?_
  refine v_callFi (st := []) (ci := 12) (qb := 0) C (kX12_is h0 a0 _ _ (by decide) hw) mM_X12_228 mI_X12 mC_X12_is mN_X12_is mS_X12_is rfl rfl hd_X12_is ⟨Nat.le_of_ble_eq_true rfl, Nat.le_of_ble_eq_true rfl⟩ ⟨Nat.le_of_ble_eq_true rfl, Nat.le_of_ble_eq_true rfl⟩ rfl (Nat.le_of_ble_eq_true rfl) dX12_cond_4 (fun r4 v4_0 hw => ?_)
  obtain ⟨h01_4, hw⟩ := hw
  have hw := hw h01_4
  refine v_if_ne (tgt := 18) C dX12_cond_7 (by decide) (fun hc => ?_) (fun hc => ?_)
  · have hw := hw.1 hc
    exact jX12_cond_18 h0 a0 Q C hret v4_0 x1 hw
  · have hw := hw.2 hc
    refine v_aload_n C dX12_cond_10 0 rfl ?_
    refine v_callFi (st := []) (ci := 12) (qb := 0) C (kX12_factHere h0 a0 _ hw) mM_X12_329 mI_X12 mC_X12_factHere mN_X12_factHere mS_X12_factHere rfl rfl hd_X12_factHere ⟨Nat.le_of_ble_eq_true rfl, Nat.le_of_ble_eq_true rfl⟩ ⟨Nat.le_of_ble_eq_true rfl, Nat.le_of_ble_eq_true rfl⟩ rfl (Nat.le_of_ble_eq_true rfl) dX12_cond_11 (fun r11 v11_0 hw => ?_)
    refine v_iconst (v := (-1)) C dX12_cond_14 (by decide) ?_
    refine v_icmp_eq (tgt := 35) C dX12_cond_15 (by decide) (fun hc => ?_) (fun hc => ?_)
    · have hw := hw.1 hc
      exact jX12_cond_35 h0 a0 Q C hret v11_0 x1 hw
    · have hw := hw.2 hc
      exact jX12_cond_18 h0 a0 Q C hret v11_0 x1 hw
set_option maxHeartbeats 4000000 in
set_option maxRecDepth 100000 in
theorem jX12_line_165 {X : VX} {E : VE} {l : Launch} (h0 : Nat) (a0 : Nat → Nat)  (Q : Md → Prop) (C : VC X cX12_line 4 RX12 (rmL 7 0 0) E l) (hret : RetV X cX12_line 0 0 (fun (U : Md) => [wX12 E h0 a0 U].flatten) (fun (U : Md) => Q U))  : ∀ (u0 : Md), qX12_line_165 Q u0 → VV X 0 0 ([wX12 E h0 a0 u0].flatten) [(0, .ref h0)] 165 [] := by
  intro u0 hw
  unfold qX12_line_165 at hw
  refine v_aload_n C dX12_line_165 0 rfl ?_
  refine v_bipush (v := 59) C dX12_line_166 (by decide) ?_
  refine v_callFv (st := []) (ci := 12) (qb := 0) C (kX12_needSign h0 a0 _ _ hw) mM_X12_248 mI_X12 mC_X12_needSign mN_X12_needSign mS_X12_needSign rfl rfl hd_X12_needSign ⟨Nat.le_of_ble_eq_true rfl, Nat.le_of_ble_eq_true rfl⟩ ⟨Nat.le_of_ble_eq_true rfl, Nat.le_of_ble_eq_true rfl⟩ rfl (Nat.le_of_ble_eq_true rfl) dX12_line_168 (fun v168_0 hw => ?_)
  exact hret _ _ _ _ v168_0 dX12_line_171 hw (Nat.le_of_ble_eq_true rfl) (Nat.le_of_ble_eq_true rfl)
set_option maxHeartbeats 4000000 in
set_option maxRecDepth 100000 in
theorem jX12_line_138 {X : VX} {E : VE} {l : Launch} (h0 : Nat) (a0 : Nat → Nat)  (Q : Md → Prop) (C : VC X cX12_line 4 RX12 (rmL 7 0 0) E l) (hret : RetV X cX12_line 0 0 (fun (U : Md) => [wX12 E h0 a0 U].flatten) (fun (U : Md) => Q U))  : ∀ (n : Nat), ∀ (u0 : Md) (y1 : Int32) (y3 : Int32), qX12_line_138 Q n u0 y1 y3 → VV X 0 0 ([wX12 E h0 a0 u0].flatten) [(0, .ref h0), (1, .int y1), (3, .int y3)] 138 [] := by
  intro n
  induction n with
  | zero =>
    intro u0 y1 y3 hw
    exact hw.elim
  | succ n ih =>
    intro u0 y1 y3 hw
    unfold qX12_line_138 at hw
    refine v_iload_n C dX12_line_138 2 rfl ?_
    refine v_if_eq (tgt := 165) C dX12_line_139 (by decide) (fun hc => ?_) (fun hc => ?_)
    · have hw := hw.1 hc
      refine v_lv C (lv' := [(0, .ref h0)]) [0] rfl ?_
      exact jX12_line_165 h0 a0 Q C hret u0 hw
    · have hw := hw.2 hc
      refine v_aload_n C dX12_line_142 0 rfl ?_
      refine v_callFi (st := []) (ci := 12) (qb := 0) C (kX12_good h0 a0 _ hw) mM_X12_209 mI_X12 mC_X12_good mN_X12_good mS_X12_good rfl rfl hd_X12_good ⟨Nat.le_of_ble_eq_true rfl, Nat.le_of_ble_eq_true rfl⟩ ⟨Nat.le_of_ble_eq_true rfl, Nat.le_of_ble_eq_true rfl⟩ rfl (Nat.le_of_ble_eq_true rfl) dX12_line_143 (fun r143 v143_0 hw => ?_)
      obtain ⟨h01_143, hw⟩ := hw
      have hw := hw h01_143
      refine v_if_eq (tgt := 165) C dX12_line_146 (by decide) (fun hc => ?_) (fun hc => ?_)
      · have hw := hw.1 hc
        refine v_lv C (lv' := [(0, .ref h0)]) [0] rfl ?_
        exact jX12_line_165 h0 a0 Q C hret v143_0 hw
      · have hw := hw.2 hc
        refine v_aload_n C dX12_line_149 0 rfl ?_
        refine v_iload_n C dX12_line_150 1 rfl ?_
        refine v_callFv (st := []) (ci := 12) (qb := 0) C (kX12_cond h0 a0 _ _ hw) mM_X12_344 mI_X12 mC_X12_cond mN_X12_cond mS_X12_cond rfl rfl hd_X12_cond ⟨Nat.le_of_ble_eq_true rfl, Nat.le_of_ble_eq_true rfl⟩ ⟨Nat.le_of_ble_eq_true rfl, Nat.le_of_ble_eq_true rfl⟩ rfl (Nat.le_of_ble_eq_true rfl) dX12_line_151 (fun v151_0 hw => ?_)
        refine v_aload_n C dX12_line_154 0 rfl ?_
        refine v_ldcSw C (tx := "and") 10 (by decide) dX12_line_155 ?_
        refine v_callFi (st := []) (ci := 12) (qb := 0) C (kX12_takes h0 a0 _ _ (by decide) hw) mM_X12_239 mI_X12 mC_X12_takes mN_X12_takes mS_X12_takes rfl rfl hd_X12_takes ⟨Nat.le_of_ble_eq_true rfl, Nat.le_of_ble_eq_true rfl⟩ ⟨Nat.le_of_ble_eq_true rfl, Nat.le_of_ble_eq_true rfl⟩ rfl (Nat.le_of_ble_eq_true rfl) dX12_line_158 (fun r158 v158_0 hw => ?_)
        obtain ⟨h01_158, hw⟩ := hw
        have hw := hw h01_158
        refine v_istore_n (lv' := [(3, .int r158), (0, .ref h0), (1, .int y1)]) C dX12_line_161 (by decide) rfl ?_
        refine v_goto (tgt := 138) C dX12_line_162 (by decide) ?_
        refine v_lv C (lv' := [(0, .ref h0), (1, .int y1), (3, .int r158)]) [1, 2, 0] rfl ?_
        exact ih v158_0 y1 r158 hw
set_option maxHeartbeats 4000000 in
set_option maxRecDepth 100000 in
theorem jX12_line_121 {X : VX} {E : VE} {l : Launch} (h0 : Nat) (a0 : Nat → Nat)  (Q : Md → Prop) (C : VC X cX12_line 4 RX12 (rmL 7 0 0) E l) (hret : RetV X cX12_line 0 0 (fun (U : Md) => [wX12 E h0 a0 U].flatten) (fun (U : Md) => Q U))  : ∀ (u0 : Md) (y1 : Int32) (y2 : Int32), qX12_line_121 Q u0 y1 y2 → VV X 0 0 ([wX12 E h0 a0 u0].flatten) [(0, .ref h0), (1, .int y1), (2, .int y2)] 121 [] := by
  intro u0 y1 y2 hw
  unfold qX12_line_121 at hw
  refine v_iload_n C dX12_line_121 2 rfl ?_
  refine v_iconst (v := 1) C dX12_line_122 (by decide) ?_
  refine v_icmp_gt (tgt := 165) C dX12_line_123 (by decide) (fun hc => ?_) (fun hc => ?_)
  · have hw := hw.1 hc
    refine v_lv C (lv' := [(0, .ref h0)]) [0] rfl ?_
    exact jX12_line_165 h0 a0 Q C hret u0 hw
  · have hw := hw.2 hc
    refine v_aload_n C dX12_line_126 0 rfl ?_
    refine v_ldcSw C (tx := "if") 9 (by decide) dX12_line_127 ?_
    refine v_callFi (st := []) (ci := 12) (qb := 0) C (kX12_takes h0 a0 _ _ (by decide) hw) mM_X12_239 mI_X12 mC_X12_takes mN_X12_takes mS_X12_takes rfl rfl hd_X12_takes ⟨Nat.le_of_ble_eq_true rfl, Nat.le_of_ble_eq_true rfl⟩ ⟨Nat.le_of_ble_eq_true rfl, Nat.le_of_ble_eq_true rfl⟩ rfl (Nat.le_of_ble_eq_true rfl) dX12_line_130 (fun r130 v130_0 hw => ?_)
    obtain ⟨h01_130, hw⟩ := hw
    have hw := hw h01_130
    refine v_if_eq (tgt := 165) C dX12_line_133 (by decide) (fun hc => ?_) (fun hc => ?_)
    · have hw := hw.1 hc
      refine v_lv C (lv' := [(0, .ref h0)]) [0] rfl ?_
      exact jX12_line_165 h0 a0 Q C hret v130_0 hw
    · have hw := hw.2 hc
      refine v_iconst (v := 1) C dX12_line_136 (by decide) ?_
      refine v_istore_n (lv' := [(3, .int 1), (0, .ref h0), (1, .int y1), (2, .int y2)]) C dX12_line_137 (by decide) rfl ?_
      refine v_lv C (lv' := [(0, .ref h0), (1, .int y1), (3, .int 1)]) [1, 2, 0] rfl ?_
      obtain ⟨n', hw⟩ := hw
      exact jX12_line_138 h0 a0 Q C hret n' v130_0 y1 1 hw
set_option maxHeartbeats 4000000 in
set_option maxRecDepth 100000 in
theorem jX12_line_99 {X : VX} {E : VE} {l : Launch} (h0 : Nat) (a0 : Nat → Nat)  (Q : Md → Prop) (C : VC X cX12_line 4 RX12 (rmL 7 0 0) E l) (hret : RetV X cX12_line 0 0 (fun (U : Md) => [wX12 E h0 a0 U].flatten) (fun (U : Md) => Q U))  : ∀ (u0 : Md) (y1 : Int32) (y2 : Int32), qX12_line_99 Q u0 y1 y2 → VV X 0 0 ([wX12 E h0 a0 u0].flatten) [(0, .ref h0), (1, .int y1), (2, .int y2)] 99 [] := by
  intro u0 y1 y2 hw
  unfold qX12_line_99 at hw
  refine v_aload_n C dX12_line_99 0 rfl ?_
  refine v_callFi (st := []) (ci := 12) (qb := 0) C (kX12_good h0 a0 _ hw) mM_X12_209 mI_X12 mC_X12_good mN_X12_good mS_X12_good rfl rfl hd_X12_good ⟨Nat.le_of_ble_eq_true rfl, Nat.le_of_ble_eq_true rfl⟩ ⟨Nat.le_of_ble_eq_true rfl, Nat.le_of_ble_eq_true rfl⟩ rfl (Nat.le_of_ble_eq_true rfl) dX12_line_100 (fun r100 v100_0 hw => ?_)
  obtain ⟨h01_100, hw⟩ := hw
  have hw := hw h01_100
  refine v_if_eq (tgt := 121) C dX12_line_103 (by decide) (fun hc => ?_) (fun hc => ?_)
  · have hw := hw.1 hc
    exact jX12_line_121 h0 a0 Q C hret v100_0 y1 y2 hw
  · have hw := hw.2 hc
    refine v_aload_n C dX12_line_106 0 rfl ?_
    refine v_get (ci := 12) C inT12 0 18 rfl rfl (by decide) mF_X12_41_X12_18 rfl dX12_line_107 ?_
    refine v_iload_n C dX12_line_110 1 rfl ?_
    refine v_iconst (v := 2) C dX12_line_111 (by decide) ?_
    refine v_iadd C dX12_line_112 ?_
    refine v_aload_n C dX12_line_113 0 rfl ?_
    refine v_sipush (v := 9999) C dX12_line_114 (by decide) ?_
    refine v_callFi (st := [.int (y1 + 2), .ref ((a0 18))]) (ci := 12) (qb := 0) C (kX12_number h0 a0 _ _ hw) mM_X12_335 mI_X12 mC_X12_number mN_X12_number mS_X12_number rfl rfl hd_X12_number ⟨Nat.le_of_ble_eq_true rfl, Nat.le_of_ble_eq_true rfl⟩ ⟨Nat.le_of_ble_eq_true rfl, Nat.le_of_ble_eq_true rfl⟩ rfl (Nat.le_of_ble_eq_true rfl) dX12_line_117 (fun r117 v117_0 hw => ?_)
    obtain ⟨hi120, hw⟩ := hw
    obtain ⟨w120, e120⟩ : ∃ z : Md, z = tA v117_0 18 (y1 + 2) r117 := ⟨_, rfl⟩
    have hw := hw w120 e120
    refine v_iast (ws' := [wX12 E h0 a0 w120].flatten) C 9 rfl hi120 (by rw [e120]; rfl) dX12_line_120 ?_
    exact jX12_line_121 h0 a0 Q C hret w120 y1 y2 hw
set_option maxHeartbeats 4000000 in
set_option maxRecDepth 100000 in
theorem jX12_line_79 {X : VX} {E : VE} {l : Launch} (h0 : Nat) (a0 : Nat → Nat)  (Q : Md → Prop) (C : VC X cX12_line 4 RX12 (rmL 7 0 0) E l) (hret : RetV X cX12_line 0 0 (fun (U : Md) => [wX12 E h0 a0 U].flatten) (fun (U : Md) => Q U))  : ∀ (u0 : Md) (y1 : Int32) (y2 : Int32), qX12_line_79 Q u0 y1 y2 → VV X 0 0 ([wX12 E h0 a0 u0].flatten) [(0, .ref h0), (1, .int y1), (2, .int y2)] 79 [] := by
  intro u0 y1 y2 hw
  unfold qX12_line_79 at hw
  refine v_iload_n C dX12_line_79 2 rfl ?_
  refine v_iconst (v := 2) C dX12_line_80 (by decide) ?_
  refine v_icmp_ne (tgt := 121) C dX12_line_81 (by decide) (fun hc => ?_) (fun hc => ?_)
  · have hw := hw.1 hc
    exact jX12_line_121 h0 a0 Q C hret u0 y1 y2 hw
  · have hw := hw.2 hc
    refine v_aload_n C dX12_line_84 0 rfl ?_
    refine v_ldcSw C (tx := "apart") 8 (by decide) dX12_line_85 ?_
    refine v_callFi (st := []) (ci := 12) (qb := 0) C (kX12_takes h0 a0 _ _ (by decide) hw) mM_X12_239 mI_X12 mC_X12_takes mN_X12_takes mS_X12_takes rfl rfl hd_X12_takes ⟨Nat.le_of_ble_eq_true rfl, Nat.le_of_ble_eq_true rfl⟩ ⟨Nat.le_of_ble_eq_true rfl, Nat.le_of_ble_eq_true rfl⟩ rfl (Nat.le_of_ble_eq_true rfl) dX12_line_88 (fun r88 v88_0 hw => ?_)
    obtain ⟨h01_88, hw⟩ := hw
    have hw := hw h01_88
    refine v_if_ne (tgt := 99) C dX12_line_91 (by decide) (fun hc => ?_) (fun hc => ?_)
    · have hw := hw.1 hc
      exact jX12_line_99 h0 a0 Q C hret v88_0 y1 y2 hw
    · have hw := hw.2 hc
      refine v_aload_n C dX12_line_94 0 rfl ?_
      refine v_iconst (v := 1) C dX12_line_95 (by decide) ?_
      refine v_callFv (st := []) (ci := 12) (qb := 0) C (kX12_wrong h0 a0 _ _ hw) mM_X12_225 mI_X12 mC_X12_wrong mN_X12_wrong mS_X12_wrong rfl rfl hd_X12_wrong ⟨Nat.le_of_ble_eq_true rfl, Nat.le_of_ble_eq_true rfl⟩ ⟨Nat.le_of_ble_eq_true rfl, Nat.le_of_ble_eq_true rfl⟩ rfl (Nat.le_of_ble_eq_true rfl) dX12_line_96 (fun v96_0 hw => ?_)
      exact jX12_line_99 h0 a0 Q C hret v96_0 y1 y2 hw
set_option maxHeartbeats 4000000 in
set_option maxRecDepth 100000 in
theorem jX12_line_11 {X : VX} {E : VE} {l : Launch} (h0 : Nat) (a0 : Nat → Nat)  (Q : Md → Prop) (C : VC X cX12_line 4 RX12 (rmL 7 0 0) E l) (hret : RetV X cX12_line 0 0 (fun (U : Md) => [wX12 E h0 a0 U].flatten) (fun (U : Md) => Q U))  : ∀ (n : Nat), ∀ (u0 : Md) (y1 : Int32) (y2 : Int32) (y3 : Int32), qX12_line_11 Q n u0 y1 y2 y3 → VV X 0 0 ([wX12 E h0 a0 u0].flatten) [(0, .ref h0), (1, .int y1), (2, .int y2), (3, .int y3)] 11 [] := by
  intro n
  induction n with
  | zero =>
    intro u0 y1 y2 y3 hw
    exact hw.elim
  | succ n ih =>
    intro u0 y1 y2 y3 hw
    unfold qX12_line_11 at hw
    refine v_iload_n C dX12_line_11 3 rfl ?_
    refine v_bipush (v := 24) C dX12_line_12 (by decide) ?_
    refine v_icmp_ge (tgt := 32) C dX12_line_14 (by decide) (fun hc => ?_) (fun hc => ?_)
    · have hw := hw.1 hc
      refine v_aload_n C dX12_line_32 0 rfl ?_
      refine v_get (ci := 12) C inT12 0 18 rfl rfl (by decide) mF_X12_41_X12_18 rfl dX12_line_33 ?_
      refine v_iload_n C dX12_line_36 1 rfl ?_
      refine v_iload_n C dX12_line_37 2 rfl ?_
      obtain ⟨hi38, hw⟩ := hw
      obtain ⟨w38, e38⟩ : ∃ z : Md, z = tA u0 18 y1 y2 := ⟨_, rfl⟩
      have hw := hw w38 e38
      refine v_iast (ws' := [wX12 E h0 a0 w38].flatten) C 9 rfl hi38 (by rw [e38]; rfl) dX12_line_38 ?_
      refine v_iload_n C dX12_line_39 2 rfl ?_
      refine v_if_ne (tgt := 59) C dX12_line_40 (by decide) (fun hc => ?_) (fun hc => ?_)
      · have hw := hw.1 hc
        refine v_iload_n C dX12_line_59 2 rfl ?_
        refine v_iconst (v := 1) C dX12_line_60 (by decide) ?_
        refine v_icmp_eq (tgt := 79) C dX12_line_61 (by decide) (fun hc => ?_) (fun hc => ?_)
        · have hw := hw.1 hc
          refine v_lv C (lv' := [(0, .ref h0), (1, .int y1), (2, .int y2)]) [0, 1, 2] rfl ?_
          exact jX12_line_79 h0 a0 Q C hret w38 y1 y2 hw
        · have hw := hw.2 hc
          refine v_aload_n C dX12_line_64 0 rfl ?_
          refine v_get (ci := 12) C inT12 0 18 rfl rfl (by decide) mF_X12_41_X12_18 rfl dX12_line_65 ?_
          refine v_iload_n C dX12_line_68 1 rfl ?_
          refine v_iconst (v := 1) C dX12_line_69 (by decide) ?_
          refine v_iadd C dX12_line_70 ?_
          refine v_aload_n C dX12_line_71 0 rfl ?_
          refine v_sipush (v := 9999) C dX12_line_72 (by decide) ?_
          refine v_callFi (st := [.int (y1 + 1), .ref ((a0 18))]) (ci := 12) (qb := 0) C (kX12_number h0 a0 _ _ hw) mM_X12_335 mI_X12 mC_X12_number mN_X12_number mS_X12_number rfl rfl hd_X12_number ⟨Nat.le_of_ble_eq_true rfl, Nat.le_of_ble_eq_true rfl⟩ ⟨Nat.le_of_ble_eq_true rfl, Nat.le_of_ble_eq_true rfl⟩ rfl (Nat.le_of_ble_eq_true rfl) dX12_line_75 (fun r75 v75_0 hw => ?_)
          obtain ⟨hi78, hw⟩ := hw
          obtain ⟨w78, e78⟩ : ∃ z : Md, z = tA v75_0 18 (y1 + 1) r75 := ⟨_, rfl⟩
          have hw := hw w78 e78
          refine v_iast (ws' := [wX12 E h0 a0 w78].flatten) C 9 rfl hi78 (by rw [e78]; rfl) dX12_line_78 ?_
          refine v_lv C (lv' := [(0, .ref h0), (1, .int y1), (2, .int y2)]) [0, 1, 2] rfl ?_
          exact jX12_line_79 h0 a0 Q C hret w78 y1 y2 hw
      · have hw := hw.2 hc
        refine v_aload_n C dX12_line_43 0 rfl ?_
        refine v_get (ci := 12) C inT12 0 18 rfl rfl (by decide) mF_X12_41_X12_18 rfl dX12_line_44 ?_
        refine v_iload_n C dX12_line_47 1 rfl ?_
        refine v_iconst (v := 1) C dX12_line_48 (by decide) ?_
        refine v_iadd C dX12_line_49 ?_
        refine v_aload_n C dX12_line_50 0 rfl ?_
        refine v_iconst (v := 2) C dX12_line_51 (by decide) ?_
        refine v_callFi (st := [.int (y1 + 1), .ref ((a0 18))]) (ci := 12) (qb := 0) C (kX12_number h0 a0 _ _ hw) mM_X12_335 mI_X12 mC_X12_number mN_X12_number mS_X12_number rfl rfl hd_X12_number ⟨Nat.le_of_ble_eq_true rfl, Nat.le_of_ble_eq_true rfl⟩ ⟨Nat.le_of_ble_eq_true rfl, Nat.le_of_ble_eq_true rfl⟩ rfl (Nat.le_of_ble_eq_true rfl) dX12_line_52 (fun r52 v52_0 hw => ?_)
        obtain ⟨hi55, hw⟩ := hw
        obtain ⟨w55, e55⟩ : ∃ z : Md, z = tA v52_0 18 (y1 + 1) r52 := ⟨_, rfl⟩
        have hw := hw w55 e55
        refine v_iast (ws' := [wX12 E h0 a0 w55].flatten) C 9 rfl hi55 (by rw [e55]; rfl) dX12_line_55 ?_
        refine v_goto (tgt := 79) C dX12_line_56 (by decide) ?_
        refine v_lv C (lv' := [(0, .ref h0), (1, .int y1), (2, .int y2)]) [0, 1, 2] rfl ?_
        exact jX12_line_79 h0 a0 Q C hret w55 y1 y2 hw
    · have hw := hw.2 hc
      refine v_aload_n C dX12_line_17 0 rfl ?_
      refine v_get (ci := 12) C inT12 0 18 rfl rfl (by decide) mF_X12_41_X12_18 rfl dX12_line_18 ?_
      refine v_iload_n C dX12_line_21 1 rfl ?_
      refine v_iload_n C dX12_line_22 3 rfl ?_
      refine v_iadd C dX12_line_23 ?_
      refine v_iconst (v := 0) C dX12_line_24 (by decide) ?_
      obtain ⟨hi25, hw⟩ := hw
      obtain ⟨w25, e25⟩ : ∃ z : Md, z = tA u0 18 (y1 + y3) 0 := ⟨_, rfl⟩
      have hw := hw w25 e25
      refine v_iast (ws' := [wX12 E h0 a0 w25].flatten) C 9 rfl hi25 (by rw [e25]; rfl) dX12_line_25 ?_
      refine v_iinc (lv' := [(3, .int (y3 + Int32.ofInt 1)), (0, .ref h0), (1, .int y1), (2, .int y2)]) C dX12_line_26 3 rfl (by decide) rfl ?_
      refine v_goto (tgt := 11) C dX12_line_29 (by decide) ?_
      refine v_lv C (lv' := [(0, .ref h0), (1, .int y1), (2, .int y2), (3, .int (y3 + Int32.ofInt 1))]) [1, 2, 3, 0] rfl ?_
      exact ih w25 y1 y2 (y3 + Int32.ofInt 1) hw
set_option maxHeartbeats 4000000 in
set_option maxRecDepth 100000 in
theorem kX12_line {l : Launch} {E : VE} (h0 : Nat) (a0 : Nat → Nat) (u0 : Md) (x1 : Int32) {Q : Md → Prop} (hw : qX12_line u0 x1 Q) : MV l yX12_line cX12_line 4 7 0 0 E [.ref h0, .int x1] ([wX12 E h0 a0 u0].flatten) (fun (U : Md) => [wX12 E h0 a0 U].flatten) (fun (U : Md) => Q U) := by
  refine MV.of (own := RX12) (by decide) rfl (Nat.le_of_ble_eq_true rfl) ?_
  intro X C hini hret
  show VV X 0 0 ([wX12 E h0 a0 u0].flatten) [(0, .ref h0), (1, .int x1)] 0 []
  unfold qX12_line at hw
  refine v_aload_n C dX12_line_0 0 rfl ?_
  refine v_callFi (st := []) (ci := 12) (qb := 0) C (kX12_sortHere h0 a0 _ hw) mM_X12_338 mI_X12 mC_X12_sortHere mN_X12_sortHere mS_X12_sortHere rfl rfl hd_X12_sortHere ⟨Nat.le_of_ble_eq_true rfl, Nat.le_of_ble_eq_true rfl⟩ ⟨Nat.le_of_ble_eq_true rfl, Nat.le_of_ble_eq_true rfl⟩ rfl (Nat.le_of_ble_eq_true rfl) dX12_line_1 (fun r1 v1_0 hw => ?_)
  refine v_istore_n (lv' := [(2, .int r1), (0, .ref h0), (1, .int x1)]) C dX12_line_4 (by decide) rfl ?_
  refine v_aload_n C dX12_line_5 1 rfl ?_
  refine v_callFv (st := []) (ci := 12) (qb := 0) C (kX12_next_ h0 a0 _ hw) mM_X12_206 mI_X12 mC_X12_next_ mN_X12_next_ mS_X12_next_ rfl rfl hd_X12_next_ ⟨Nat.le_of_ble_eq_true rfl, Nat.le_of_ble_eq_true rfl⟩ ⟨Nat.le_of_ble_eq_true rfl, Nat.le_of_ble_eq_true rfl⟩ rfl (Nat.le_of_ble_eq_true rfl) dX12_line_6 (fun v6_0 hw => ?_)
  refine v_iconst (v := 0) C dX12_line_9 (by decide) ?_
  refine v_istore_n (lv' := [(3, .int 0), (2, .int r1), (0, .ref h0), (1, .int x1)]) C dX12_line_10 (by decide) rfl ?_
  refine v_lv C (lv' := [(0, .ref h0), (1, .int x1), (2, .int r1), (3, .int 0)]) [2, 3, 1, 0] rfl ?_
  obtain ⟨n', hw⟩ := hw
  exact jX12_line_11 h0 a0 Q C hret n' v6_0 x1 r1 0 hw
set_option maxHeartbeats 4000000 in
set_option maxRecDepth 100000 in
theorem jX12_act_132 {X : VX} {E : VE} {l : Launch} (h0 : Nat) (a0 : Nat → Nat)  (Q : Int32 → Md → Prop) (C : VC X cX12_act 4 RX12 (rmL 8 0 0) E l) (hret : RetI X cX12_act .int 0 0 (fun (U : Md) => [wX12 E h0 a0 U].flatten) (fun (r : Int32) (U : Md) => Q r U))  : ∀ (n : Nat), ∀ (u0 : Md) (y1 : Int32) (y2 : Int32) (y3 : Int32), qX12_act_132 Q n u0 y1 y2 y3 → VV X 0 0 ([wX12 E h0 a0 u0].flatten) [(0, .ref h0), (1, .int y1), (2, .int y2), (3, .int y3)] 132 [] := by
  intro n
  induction n with
  | zero =>
    intro u0 y1 y2 y3 hw
    exact hw.elim
  | succ n ih =>
    intro u0 y1 y2 y3 hw
    unfold qX12_act_132 at hw
    refine v_iload_n C dX12_act_132 3 rfl ?_
    refine v_sipush (v := 290) C dX12_act_133 (by decide) ?_
    refine v_icmp_ge (tgt := 159) C dX12_act_136 (by decide) (fun hc => ?_) (fun hc => ?_)
    · have hw := hw.1 hc
      refine v_aload_n C dX12_act_159 0 rfl ?_
      refine v_get (ci := 12) C inT12 0 1 rfl rfl (by decide) mF_X12_9_X12_1 rfl dX12_act_160 ?_
      refine v_iconst (v := 4) C dX12_act_163 (by decide) ?_
      refine v_dup2 C dX12_act_164 rfl rfl ?_
      obtain ⟨hi165, hw⟩ := hw
      refine v_iald C 1 rfl hi165 dX12_act_165 ?_
      refine v_iconst (v := 1) C dX12_act_166 (by decide) ?_
      refine v_iadd C dX12_act_167 ?_
      obtain ⟨hi168, hw⟩ := hw
      obtain ⟨w168, e168⟩ : ∃ z : Md, z = tA u0 1 4 ((gA u0 1 (4 : Int32).toNatClampNeg) + 1) := ⟨_, rfl⟩
      have hw := hw w168 e168
      refine v_iast (ws' := [wX12 E h0 a0 w168].flatten) C 1 rfl hi168 (by rw [e168]; rfl) dX12_act_168 ?_
      refine v_iload_n C dX12_act_169 1 rfl ?_
      exact hret _ _ _ _ y1 w168 dX12_act_170 rfl hw (Nat.le_of_ble_eq_true rfl) (Nat.le_of_ble_eq_true rfl)
    · have hw := hw.2 hc
      refine v_aload_n C dX12_act_139 0 rfl ?_
      refine v_get (ci := 12) C inT12 0 1 rfl rfl (by decide) mF_X12_9_X12_1 rfl dX12_act_140 ?_
      refine v_iload_n C dX12_act_143 2 rfl ?_
      refine v_iload_n C dX12_act_144 3 rfl ?_
      refine v_iadd C dX12_act_145 ?_
      refine v_aload_n C dX12_act_146 0 rfl ?_
      refine v_get (ci := 12) C inT12 0 18 rfl rfl (by decide) mF_X12_41_X12_18 rfl dX12_act_147 ?_
      refine v_iload_n C dX12_act_150 3 rfl ?_
      obtain ⟨hi151, hw⟩ := hw
      refine v_iald C 9 rfl hi151 dX12_act_151 ?_
      obtain ⟨hi152, hw⟩ := hw
      obtain ⟨w152, e152⟩ : ∃ z : Md, z = tA u0 1 (y2 + y3) (gA u0 18 y3.toNatClampNeg) := ⟨_, rfl⟩
      have hw := hw w152 e152
      refine v_iast (ws' := [wX12 E h0 a0 w152].flatten) C 1 rfl hi152 (by rw [e152]; rfl) dX12_act_152 ?_
      refine v_iinc (lv' := [(3, .int (y3 + Int32.ofInt 1)), (0, .ref h0), (1, .int y1), (2, .int y2)]) C dX12_act_153 3 rfl (by decide) rfl ?_
      refine v_goto (tgt := 132) C dX12_act_156 (by decide) ?_
      refine v_lv C (lv' := [(0, .ref h0), (1, .int y1), (2, .int y2), (3, .int (y3 + Int32.ofInt 1))]) [1, 2, 3, 0] rfl ?_
      exact ih w152 y1 y2 (y3 + Int32.ofInt 1) hw
set_option maxHeartbeats 4000000 in
set_option maxRecDepth 100000 in
theorem jX12_act_88 {X : VX} {E : VE} {l : Launch} (h0 : Nat) (a0 : Nat → Nat)  (Q : Int32 → Md → Prop) (C : VC X cX12_act 4 RX12 (rmL 8 0 0) E l) (hret : RetI X cX12_act .int 0 0 (fun (U : Md) => [wX12 E h0 a0 U].flatten) (fun (r : Int32) (U : Md) => Q r U))  : ∀ (u0 : Md) (y1 : Int32), qX12_act_88 Q u0 y1 → VV X 0 0 ([wX12 E h0 a0 u0].flatten) [(0, .ref h0), (1, .int y1)] 88 [] := by
  intro u0 y1 hw
  unfold qX12_act_88 at hw
  refine v_aload_n C dX12_act_88 0 rfl ?_
  refine v_callFi (st := []) (ci := 12) (qb := 0) C (kX12_good h0 a0 _ hw) mM_X12_209 mI_X12 mC_X12_good mN_X12_good mS_X12_good rfl rfl hd_X12_good ⟨Nat.le_of_ble_eq_true rfl, Nat.le_of_ble_eq_true rfl⟩ ⟨Nat.le_of_ble_eq_true rfl, Nat.le_of_ble_eq_true rfl⟩ rfl (Nat.le_of_ble_eq_true rfl) dX12_act_89 (fun r89 v89_0 hw => ?_)
  obtain ⟨h01_89, hw⟩ := hw
  have hw := hw h01_89
  refine v_if_ne (tgt := 98) C dX12_act_92 (by decide) (fun hc => ?_) (fun hc => ?_)
  · have hw := hw.1 hc
    refine v_aload_n C dX12_act_98 0 rfl ?_
    refine v_get (ci := 12) C inT12 0 18 rfl rfl (by decide) mF_X12_41_X12_18 rfl dX12_act_99 ?_
    refine v_iconst (v := 0) C dX12_act_102 (by decide) ?_
    refine v_aload_n C dX12_act_103 0 rfl ?_
    refine v_callFi (st := [.int 0, .ref ((a0 18))]) (ci := 12) (qb := 0) C (kX12_now h0 a0 _ hw) mM_X12_138 mI_X12 mC_X12_now mN_X12_now mS_X12_now rfl rfl hd_X12_now ⟨Nat.le_of_ble_eq_true rfl, Nat.le_of_ble_eq_true rfl⟩ ⟨Nat.le_of_ble_eq_true rfl, Nat.le_of_ble_eq_true rfl⟩ rfl (Nat.le_of_ble_eq_true rfl) dX12_act_104 (fun r104 v104_0 hw => ?_)
    obtain ⟨hi107, hw⟩ := hw
    obtain ⟨w107, e107⟩ : ∃ z : Md, z = tA v104_0 18 0 r104 := ⟨_, rfl⟩
    have hw := hw w107 e107
    refine v_iast (ws' := [wX12 E h0 a0 w107].flatten) C 9 rfl hi107 (by rw [e107]; rfl) dX12_act_107 ?_
    refine v_aload_n C dX12_act_108 0 rfl ?_
    refine v_get (ci := 12) C inT12 0 18 rfl rfl (by decide) mF_X12_41_X12_18 rfl dX12_act_109 ?_
    refine v_iconst (v := 1) C dX12_act_112 (by decide) ?_
    refine v_iload_n C dX12_act_113 1 rfl ?_
    obtain ⟨hi114, hw⟩ := hw
    obtain ⟨w114, e114⟩ : ∃ z : Md, z = tA w107 18 1 y1 := ⟨_, rfl⟩
    have hw := hw w114 e114
    refine v_iast (ws' := [wX12 E h0 a0 w114].flatten) C 9 rfl hi114 (by rw [e114]; rfl) dX12_act_114 ?_
    refine v_sipush (v := 3710) C dX12_act_115 (by decide) ?_
    refine v_sipush (v := 290) C dX12_act_118 (by decide) ?_
    refine v_aload_n C dX12_act_121 0 rfl ?_
    refine v_get (ci := 12) C inT12 0 1 rfl rfl (by decide) mF_X12_9_X12_1 rfl dX12_act_122 ?_
    refine v_iconst (v := 4) C dX12_act_125 (by decide) ?_
    obtain ⟨hi126, hw⟩ := hw
    refine v_iald C 1 rfl hi126 dX12_act_126 ?_
    refine v_imul C dX12_act_127 ?_
    refine v_iadd C dX12_act_128 ?_
    refine v_istore_n (lv' := [(2, .int (3710 + (290 * (gA w114 1 (4 : Int32).toNatClampNeg)))), (0, .ref h0), (1, .int y1)]) C dX12_act_129 (by decide) rfl ?_
    refine v_iconst (v := 0) C dX12_act_130 (by decide) ?_
    refine v_istore_n (lv' := [(3, .int 0), (2, .int (3710 + (290 * (gA w114 1 (4 : Int32).toNatClampNeg)))), (0, .ref h0), (1, .int y1)]) C dX12_act_131 (by decide) rfl ?_
    refine v_lv C (lv' := [(0, .ref h0), (1, .int y1), (2, .int (3710 + (290 * (gA w114 1 (4 : Int32).toNatClampNeg)))), (3, .int 0)]) [2, 3, 1, 0] rfl ?_
    obtain ⟨n', hw⟩ := hw
    exact jX12_act_132 h0 a0 Q C hret n' w114 y1 (3710 + (290 * (gA w114 1 (4 : Int32).toNatClampNeg))) 0 hw
  · have hw := hw.2 hc
    refine v_bipush (v := (-4)) C dX12_act_95 (by decide) ?_
    exact hret _ _ _ _ ((-4)) v89_0 dX12_act_97 rfl hw (Nat.le_of_ble_eq_true rfl) (Nat.le_of_ble_eq_true rfl)
set_option maxHeartbeats 4000000 in
set_option maxRecDepth 100000 in
theorem jX12_act_62 {X : VX} {E : VE} {l : Launch} (h0 : Nat) (a0 : Nat → Nat)  (Q : Int32 → Md → Prop) (C : VC X cX12_act 4 RX12 (rmL 8 0 0) E l) (hret : RetI X cX12_act .int 0 0 (fun (U : Md) => [wX12 E h0 a0 U].flatten) (fun (r : Int32) (U : Md) => Q r U)) (K21 : Md → Int32 → Prop) (hK21 : ∀ (u0 : Md) (y1 : Int32), K21 u0 y1 → VV X 0 0 ([wX12 E h0 a0 u0].flatten) [(0, .ref h0), (1, .int y1)] 21 []) : ∀ (u0 : Md) (y1 : Int32), qX12_act_62 Q K21 u0 y1 → VV X 0 0 ([wX12 E h0 a0 u0].flatten) [(0, .ref h0), (1, .int y1)] 62 [] := by
  intro u0 y1 hw
  unfold qX12_act_62 at hw
  refine v_aload_n C dX12_act_62 0 rfl ?_
  refine v_callFi (st := []) (ci := 12) (qb := 0) C (kX12_good h0 a0 _ hw) mM_X12_209 mI_X12 mC_X12_good mN_X12_good mS_X12_good rfl rfl hd_X12_good ⟨Nat.le_of_ble_eq_true rfl, Nat.le_of_ble_eq_true rfl⟩ ⟨Nat.le_of_ble_eq_true rfl, Nat.le_of_ble_eq_true rfl⟩ rfl (Nat.le_of_ble_eq_true rfl) dX12_act_63 (fun r63 v63_0 hw => ?_)
  obtain ⟨h01_63, hw⟩ := hw
  have hw := hw h01_63
  refine v_if_ne (tgt := 72) C dX12_act_66 (by decide) (fun hc => ?_) (fun hc => ?_)
  · have hw := hw.1 hc
    refine v_aload_n C dX12_act_72 0 rfl ?_
    refine v_iconst (v := 2) C dX12_act_73 (by decide) ?_
    refine v_bipush (v := 24) C dX12_act_74 (by decide) ?_
    refine v_iload_n C dX12_act_76 1 rfl ?_
    refine v_imul C dX12_act_77 ?_
    refine v_iadd C dX12_act_78 ?_
    refine v_callFv (st := []) (ci := 12) (qb := 0) C (kX12_line h0 a0 _ _ hw) mM_X12_349 mI_X12 mC_X12_line mN_X12_line mS_X12_line rfl rfl hd_X12_line ⟨Nat.le_of_ble_eq_true rfl, Nat.le_of_ble_eq_true rfl⟩ ⟨Nat.le_of_ble_eq_true rfl, Nat.le_of_ble_eq_true rfl⟩ rfl (Nat.le_of_ble_eq_true rfl) dX12_act_79 (fun v79_0 hw => ?_)
    refine v_iinc (lv' := [(1, .int (y1 + Int32.ofInt 1)), (0, .ref h0)]) C dX12_act_82 1 rfl (by decide) rfl ?_
    refine v_goto (tgt := 21) C dX12_act_85 (by decide) ?_
    refine v_lv C (lv' := [(0, .ref h0), (1, .int (y1 + Int32.ofInt 1))]) [1, 0] rfl ?_
    exact hK21 v79_0 (y1 + Int32.ofInt 1) hw
  · have hw := hw.2 hc
    refine v_goto (tgt := 88) C dX12_act_69 (by decide) ?_
    exact jX12_act_88 h0 a0 Q C hret v63_0 y1 hw
set_option maxHeartbeats 4000000 in
set_option maxRecDepth 100000 in
theorem jX12_act_21 {X : VX} {E : VE} {l : Launch} (h0 : Nat) (a0 : Nat → Nat)  (Q : Int32 → Md → Prop) (C : VC X cX12_act 4 RX12 (rmL 8 0 0) E l) (hret : RetI X cX12_act .int 0 0 (fun (U : Md) => [wX12 E h0 a0 U].flatten) (fun (r : Int32) (U : Md) => Q r U))  : ∀ (n : Nat), ∀ (u0 : Md) (y1 : Int32), qX12_act_21 Q n u0 y1 → VV X 0 0 ([wX12 E h0 a0 u0].flatten) [(0, .ref h0), (1, .int y1)] 21 [] := by
  intro n
  induction n with
  | zero =>
    intro u0 y1 hw
    exact hw.elim
  | succ n ih =>
    intro u0 y1 hw
    unfold qX12_act_21 at hw
    refine v_aload_n C dX12_act_21 0 rfl ?_
    refine v_callFi (st := []) (ci := 12) (qb := 0) C (kX12_good h0 a0 _ hw) mM_X12_209 mI_X12 mC_X12_good mN_X12_good mS_X12_good rfl rfl hd_X12_good ⟨Nat.le_of_ble_eq_true rfl, Nat.le_of_ble_eq_true rfl⟩ ⟨Nat.le_of_ble_eq_true rfl, Nat.le_of_ble_eq_true rfl⟩ rfl (Nat.le_of_ble_eq_true rfl) dX12_act_22 (fun r22 v22_0 hw => ?_)
    obtain ⟨h01_22, hw⟩ := hw
    have hw := hw h01_22
    refine v_if_eq (tgt := 88) C dX12_act_25 (by decide) (fun hc => ?_) (fun hc => ?_)
    · have hw := hw.1 hc
      exact jX12_act_88 h0 a0 Q C hret v22_0 y1 hw
    · have hw := hw.2 hc
      refine v_aload_n C dX12_act_28 0 rfl ?_
      refine v_get (ci := 12) C inT12 0 13 rfl rfl (by decide) mF_X12_188_X12_13 rfl dX12_act_29 ?_
      refine v_if_eq (tgt := 88) C dX12_act_32 (by decide) (fun hc => ?_) (fun hc => ?_)
      · have hw := hw.1 hc
        exact jX12_act_88 h0 a0 Q C hret v22_0 y1 hw
      · have hw := hw.2 hc
        refine v_aload_n C dX12_act_35 0 rfl ?_
        refine v_callFi (st := []) (ci := 12) (qb := 0) C (kX12_sortHere h0 a0 _ hw) mM_X12_338 mI_X12 mC_X12_sortHere mN_X12_sortHere mS_X12_sortHere rfl rfl hd_X12_sortHere ⟨Nat.le_of_ble_eq_true rfl, Nat.le_of_ble_eq_true rfl⟩ ⟨Nat.le_of_ble_eq_true rfl, Nat.le_of_ble_eq_true rfl⟩ rfl (Nat.le_of_ble_eq_true rfl) dX12_act_36 (fun r36 v36_0 hw => ?_)
        refine v_iconst (v := (-1)) C dX12_act_39 (by decide) ?_
        refine v_icmp_ne (tgt := 51) C dX12_act_40 (by decide) (fun hc => ?_) (fun hc => ?_)
        · have hw := hw.1 hc
          refine v_iload_n C dX12_act_51 1 rfl ?_
          refine v_bipush (v := 12) C dX12_act_52 (by decide) ?_
          refine v_icmp_ne (tgt := 62) C dX12_act_54 (by decide) (fun hc => ?_) (fun hc => ?_)
          · have hw := hw.1 hc
            exact jX12_act_62 h0 a0 Q C hret (qX12_act_21 Q n) ih v36_0 y1 hw
          · have hw := hw.2 hc
            refine v_aload_n C dX12_act_57 0 rfl ?_
            refine v_iconst (v := 3) C dX12_act_58 (by decide) ?_
            refine v_callFv (st := []) (ci := 12) (qb := 0) C (kX12_wrong h0 a0 _ _ hw) mM_X12_225 mI_X12 mC_X12_wrong mN_X12_wrong mS_X12_wrong rfl rfl hd_X12_wrong ⟨Nat.le_of_ble_eq_true rfl, Nat.le_of_ble_eq_true rfl⟩ ⟨Nat.le_of_ble_eq_true rfl, Nat.le_of_ble_eq_true rfl⟩ rfl (Nat.le_of_ble_eq_true rfl) dX12_act_59 (fun v59_0 hw => ?_)
            exact jX12_act_62 h0 a0 Q C hret (qX12_act_21 Q n) ih v59_0 y1 hw
        · have hw := hw.2 hc
          refine v_aload_n C dX12_act_43 0 rfl ?_
          refine v_iconst (v := 1) C dX12_act_44 (by decide) ?_
          refine v_callFv (st := []) (ci := 12) (qb := 0) C (kX12_wrong h0 a0 _ _ hw) mM_X12_225 mI_X12 mC_X12_wrong mN_X12_wrong mS_X12_wrong rfl rfl hd_X12_wrong ⟨Nat.le_of_ble_eq_true rfl, Nat.le_of_ble_eq_true rfl⟩ ⟨Nat.le_of_ble_eq_true rfl, Nat.le_of_ble_eq_true rfl⟩ rfl (Nat.le_of_ble_eq_true rfl) dX12_act_45 (fun v45_0 hw => ?_)
          refine v_goto (tgt := 62) C dX12_act_48 (by decide) ?_
          exact jX12_act_62 h0 a0 Q C hret (qX12_act_21 Q n) ih v45_0 y1 hw
set_option maxHeartbeats 4000000 in
set_option maxRecDepth 100000 in
theorem kX12_act {l : Launch} {E : VE} (h0 : Nat) (a0 : Nat → Nat) (u0 : Md) {Q : Int32 → Md → Prop} (hw : qX12_act u0 Q) : MI l yX12_act cX12_act 4 .int 8 0 0 E [.ref h0] ([wX12 E h0 a0 u0].flatten) (fun (U : Md) => [wX12 E h0 a0 U].flatten) (fun (r : Int32) (U : Md) => Q r U) := by
  refine MI.of (own := RX12) (by decide) rfl (Nat.le_of_ble_eq_true rfl) ?_
  intro X C hini hret
  show VV X 0 0 ([wX12 E h0 a0 u0].flatten) [(0, .ref h0)] 0 []
  unfold qX12_act at hw
  refine v_aload_n C dX12_act_0 0 rfl ?_
  refine v_get (ci := 12) C inT12 0 1 rfl rfl (by decide) mF_X12_9_X12_1 rfl dX12_act_1 ?_
  refine v_iconst (v := 4) C dX12_act_4 (by decide) ?_
  obtain ⟨hi5, hw⟩ := hw
  refine v_iald C 1 rfl hi5 dX12_act_5 ?_
  refine v_bipush (v := 8) C dX12_act_6 (by decide) ?_
  refine v_icmp_ne (tgt := 14) C dX12_act_8 (by decide) (fun hc => ?_) (fun hc => ?_)
  · have hw := hw.1 hc
    refine v_aload_n C dX12_act_14 0 rfl ?_
    refine v_iconst (v := 1) C dX12_act_15 (by decide) ?_
    refine v_callFv (st := []) (ci := 12) (qb := 0) C (kX12_begins h0 a0 _ _ hw) mM_X12_251 mI_X12 mC_X12_begins mN_X12_begins mS_X12_begins rfl rfl hd_X12_begins ⟨Nat.le_of_ble_eq_true rfl, Nat.le_of_ble_eq_true rfl⟩ ⟨Nat.le_of_ble_eq_true rfl, Nat.le_of_ble_eq_true rfl⟩ rfl (Nat.le_of_ble_eq_true rfl) dX12_act_16 (fun v16_0 hw => ?_)
    refine v_iconst (v := 0) C dX12_act_19 (by decide) ?_
    refine v_istore_n (lv' := [(1, .int 0), (0, .ref h0)]) C dX12_act_20 (by decide) rfl ?_
    refine v_lv C (lv' := [(0, .ref h0), (1, .int 0)]) [1, 0] rfl ?_
    obtain ⟨n', hw⟩ := hw
    exact jX12_act_21 h0 a0 Q C hret n' v16_0 0 hw
  · have hw := hw.2 hc
    refine v_bipush (v := (-3)) C dX12_act_11 (by decide) ?_
    exact hret _ _ _ _ ((-3)) u0 dX12_act_13 rfl hw (Nat.le_of_ble_eq_true rfl) (Nat.le_of_ble_eq_true rfl)
set_option maxHeartbeats 4000000 in
set_option maxRecDepth 100000 in
theorem jX12_actOf_4 {X : VX} {E : VE} {l : Launch} (h0 : Nat) (a0 : Nat → Nat)  (Q : Int32 → Md → Prop) (C : VC X cX12_actOf 4 RX12 (rmL 0 0 0) E l) (hret : RetI X cX12_actOf .int 0 0 (fun (U : Md) => [wX12 E h0 a0 U].flatten) (fun (r : Int32) (U : Md) => Q r U))  : ∀ (n : Nat), ∀ (u0 : Md) (y1 : Int32) (y2 : Int32) (y3 : Int32), qX12_actOf_4 Q n u0 y1 y2 y3 → VV X 0 0 ([wX12 E h0 a0 u0].flatten) [(0, .ref h0), (1, .int y1), (2, .int y2), (3, .int y3)] 4 [] := by
  intro n
  induction n with
  | zero =>
    intro u0 y1 y2 y3 hw
    exact hw.elim
  | succ n ih =>
    intro u0 y1 y2 y3 hw
    unfold qX12_actOf_4 at hw
    refine v_iload_n C dX12_actOf_4 3 rfl ?_
    refine v_aload_n C dX12_actOf_5 0 rfl ?_
    refine v_get (ci := 12) C inT12 0 1 rfl rfl (by decide) mF_X12_9_X12_1 rfl dX12_actOf_6 ?_
    refine v_iconst (v := 4) C dX12_actOf_9 (by decide) ?_
    obtain ⟨hi10, hw⟩ := hw
    refine v_iald C 1 rfl hi10 dX12_actOf_10 ?_
    refine v_icmp_ge (tgt := 48) C dX12_actOf_11 (by decide) (fun hc => ?_) (fun hc => ?_)
    · have hw := hw.1 hc
      refine v_iload_n C dX12_actOf_48 2 rfl ?_
      exact hret _ _ _ _ y2 u0 dX12_actOf_49 rfl hw (Nat.le_of_ble_eq_true rfl) (Nat.le_of_ble_eq_true rfl)
    · have hw := hw.2 hc
      refine v_aload_n C dX12_actOf_14 0 rfl ?_
      refine v_get (ci := 12) C inT12 0 1 rfl rfl (by decide) mF_X12_9_X12_1 rfl dX12_actOf_15 ?_
      refine v_sipush (v := 3710) C dX12_actOf_18 (by decide) ?_
      refine v_sipush (v := 290) C dX12_actOf_21 (by decide) ?_
      refine v_iload_n C dX12_actOf_24 3 rfl ?_
      refine v_imul C dX12_actOf_25 ?_
      refine v_iadd C dX12_actOf_26 ?_
      obtain ⟨hi27, hw⟩ := hw
      refine v_iald C 1 rfl hi27 dX12_actOf_27 ?_
      refine v_iload_n C dX12_actOf_28 1 rfl ?_
      refine v_icmp_gt (tgt := 42) C dX12_actOf_29 (by decide) (fun hc => ?_) (fun hc => ?_)
      · have hw := hw.1 hc
        refine v_iinc (lv' := [(3, .int (y3 + Int32.ofInt 1)), (0, .ref h0), (1, .int y1), (2, .int y2)]) C dX12_actOf_42 3 rfl (by decide) rfl ?_
        refine v_goto (tgt := 4) C dX12_actOf_45 (by decide) ?_
        refine v_lv C (lv' := [(0, .ref h0), (1, .int y1), (2, .int y2), (3, .int (y3 + Int32.ofInt 1))]) [1, 2, 3, 0] rfl ?_
        exact ih u0 y1 y2 (y3 + Int32.ofInt 1) hw
      · have hw := hw.2 hc
        refine v_sipush (v := 3710) C dX12_actOf_32 (by decide) ?_
        refine v_sipush (v := 290) C dX12_actOf_35 (by decide) ?_
        refine v_iload_n C dX12_actOf_38 3 rfl ?_
        refine v_imul C dX12_actOf_39 ?_
        refine v_iadd C dX12_actOf_40 ?_
        refine v_istore_n (lv' := [(2, .int (3710 + (290 * y3))), (0, .ref h0), (1, .int y1), (3, .int y3)]) C dX12_actOf_41 (by decide) rfl ?_
        refine v_iinc (lv' := [(3, .int (y3 + Int32.ofInt 1)), (2, .int (3710 + (290 * y3))), (0, .ref h0), (1, .int y1)]) C dX12_actOf_42 3 rfl (by decide) rfl ?_
        refine v_goto (tgt := 4) C dX12_actOf_45 (by decide) ?_
        refine v_lv C (lv' := [(0, .ref h0), (1, .int y1), (2, .int (3710 + (290 * y3))), (3, .int (y3 + Int32.ofInt 1))]) [2, 3, 1, 0] rfl ?_
        exact ih u0 y1 (3710 + (290 * y3)) (y3 + Int32.ofInt 1) hw
set_option maxHeartbeats 4000000 in
set_option maxRecDepth 100000 in
theorem kX12_actOf {l : Launch} {E : VE} (h0 : Nat) (a0 : Nat → Nat) (u0 : Md) (x1 : Int32) {Q : Int32 → Md → Prop} (hw : qX12_actOf u0 x1 Q) : MI l yX12_actOf cX12_actOf 4 .int 0 0 0 E [.ref h0, .int x1] ([wX12 E h0 a0 u0].flatten) (fun (U : Md) => [wX12 E h0 a0 U].flatten) (fun (r : Int32) (U : Md) => Q r U) := by
  refine MI.of (own := RX12) (by decide) rfl (Nat.le_of_ble_eq_true rfl) ?_
  intro X C hini hret
  show VV X 0 0 ([wX12 E h0 a0 u0].flatten) [(0, .ref h0), (1, .int x1)] 0 []
  unfold qX12_actOf at hw
  refine v_iconst (v := (-1)) C dX12_actOf_0 (by decide) ?_
  refine v_istore_n (lv' := [(2, .int ((-1))), (0, .ref h0), (1, .int x1)]) C dX12_actOf_1 (by decide) rfl ?_
  refine v_iconst (v := 0) C dX12_actOf_2 (by decide) ?_
  refine v_istore_n (lv' := [(3, .int 0), (2, .int ((-1))), (0, .ref h0), (1, .int x1)]) C dX12_actOf_3 (by decide) rfl ?_
  refine v_lv C (lv' := [(0, .ref h0), (1, .int x1), (2, .int ((-1))), (3, .int 0)]) [2, 3, 1, 0] rfl ?_
  obtain ⟨n', hw⟩ := hw
  exact jX12_actOf_4 h0 a0 Q C hret n' u0 x1 ((-1)) 0 hw
set_option maxHeartbeats 4000000 in
set_option maxRecDepth 100000 in
theorem jX12_termOf_16 {X : VX} {E : VE} {l : Launch} (h0 : Nat) (a0 : Nat → Nat)  (Q : Int32 → Md → Prop) (C : VC X cX12_termOf 7 RX12 (rmL 1 0 0) E l) (hret : RetI X cX12_termOf .int 0 0 (fun (U : Md) => [wX12 E h0 a0 U].flatten) (fun (r : Int32) (U : Md) => Q r U))  : ∀ (n : Nat), ∀ (u0 : Md) (y1 : Int32) (y2 : Int32) (y4 : Int32) (y5 : Int32) (y6 : Int32), qX12_termOf_16 Q n u0 y1 y2 y4 y5 y6 → VV X 0 0 ([wX12 E h0 a0 u0].flatten) [(0, .ref h0), (1, .int y1), (2, .int y2), (4, .int y4), (5, .int y5), (6, .int y6)] 16 [] := by
  intro n
  induction n with
  | zero =>
    intro u0 y1 y2 y4 y5 y6 hw
    exact hw.elim
  | succ n ih =>
    intro u0 y1 y2 y4 y5 y6 hw
    unfold qX12_termOf_16 at hw
    refine v_iload C dX12_termOf_16 3 rfl ?_
    refine v_iconst (v := (-1)) C dX12_termOf_18 (by decide) ?_
    refine v_icmp_eq (tgt := 80) C dX12_termOf_19 (by decide) (fun hc => ?_) (fun hc => ?_)
    · have hw := hw.1 hc
      refine v_iload C dX12_termOf_80 4 rfl ?_
      exact hret _ _ _ _ y5 u0 dX12_termOf_82 rfl hw (Nat.le_of_ble_eq_true rfl) (Nat.le_of_ble_eq_true rfl)
    · have hw := hw.2 hc
      refine v_iload C dX12_termOf_22 5 rfl ?_
      refine v_aload_n C dX12_termOf_24 0 rfl ?_
      refine v_get (ci := 12) C inT12 0 1 rfl rfl (by decide) mF_X12_9_X12_1 rfl dX12_termOf_25 ?_
      refine v_iload C dX12_termOf_28 3 rfl ?_
      refine v_iconst (v := 1) C dX12_termOf_30 (by decide) ?_
      refine v_iadd C dX12_termOf_31 ?_
      obtain ⟨hi32, hw⟩ := hw
      refine v_iald C 1 rfl hi32 dX12_termOf_32 ?_
      refine v_icmp_ge (tgt := 80) C dX12_termOf_33 (by decide) (fun hc => ?_) (fun hc => ?_)
      · have hw := hw.1 hc
        refine v_iload C dX12_termOf_80 4 rfl ?_
        exact hret _ _ _ _ y5 u0 dX12_termOf_82 rfl hw (Nat.le_of_ble_eq_true rfl) (Nat.le_of_ble_eq_true rfl)
      · have hw := hw.2 hc
        refine v_aload_n C dX12_termOf_36 0 rfl ?_
        refine v_get (ci := 12) C inT12 0 1 rfl rfl (by decide) mF_X12_9_X12_1 rfl dX12_termOf_37 ?_
        refine v_iload C dX12_termOf_40 3 rfl ?_
        refine v_iconst (v := 2) C dX12_termOf_42 (by decide) ?_
        refine v_iadd C dX12_termOf_43 ?_
        refine v_bipush (v := 24) C dX12_termOf_44 (by decide) ?_
        refine v_iload C dX12_termOf_46 5 rfl ?_
        refine v_imul C dX12_termOf_48 ?_
        refine v_iadd C dX12_termOf_49 ?_
        obtain ⟨hi50, hw⟩ := hw
        refine v_iald C 1 rfl hi50 dX12_termOf_50 ?_
        refine v_iload_n C dX12_termOf_51 1 rfl ?_
        refine v_icmp_ne (tgt := 74) C dX12_termOf_52 (by decide) (fun hc => ?_) (fun hc => ?_)
        · have hw := hw.1 hc
          refine v_iinc (lv' := [(6, .int (y6 + Int32.ofInt 1)), (0, .ref h0), (1, .int y1), (2, .int y2), (4, .int y4), (5, .int y5)]) C dX12_termOf_74 5 rfl (by decide) rfl ?_
          refine v_goto (tgt := 16) C dX12_termOf_77 (by decide) ?_
          refine v_lv C (lv' := [(0, .ref h0), (1, .int y1), (2, .int y2), (4, .int y4), (5, .int y5), (6, .int (y6 + Int32.ofInt 1))]) [1, 2, 3, 4, 5, 0] rfl ?_
          exact ih u0 y1 y2 y4 y5 (y6 + Int32.ofInt 1) hw
        · have hw := hw.2 hc
          refine v_aload_n C dX12_termOf_55 0 rfl ?_
          refine v_get (ci := 12) C inT12 0 1 rfl rfl (by decide) mF_X12_9_X12_1 rfl dX12_termOf_56 ?_
          refine v_iload C dX12_termOf_59 3 rfl ?_
          refine v_iconst (v := 2) C dX12_termOf_61 (by decide) ?_
          refine v_iadd C dX12_termOf_62 ?_
          refine v_bipush (v := 24) C dX12_termOf_63 (by decide) ?_
          refine v_iload C dX12_termOf_65 5 rfl ?_
          refine v_imul C dX12_termOf_67 ?_
          refine v_iadd C dX12_termOf_68 ?_
          refine v_iload_n C dX12_termOf_69 2 rfl ?_
          refine v_iadd C dX12_termOf_70 ?_
          obtain ⟨hi71, hw⟩ := hw
          refine v_iald C 1 rfl hi71 dX12_termOf_71 ?_
          refine v_istore (lv' := [(5, .int (gA u0 1 (((y4 + 2) + (24 * y6)) + y2).toNatClampNeg)), (0, .ref h0), (1, .int y1), (2, .int y2), (4, .int y4), (6, .int y6)]) C dX12_termOf_72 (by decide) rfl ?_
          refine v_iinc (lv' := [(6, .int (y6 + Int32.ofInt 1)), (5, .int (gA u0 1 (((y4 + 2) + (24 * y6)) + y2).toNatClampNeg)), (0, .ref h0), (1, .int y1), (2, .int y2), (4, .int y4)]) C dX12_termOf_74 5 rfl (by decide) rfl ?_
          refine v_goto (tgt := 16) C dX12_termOf_77 (by decide) ?_
          refine v_lv C (lv' := [(0, .ref h0), (1, .int y1), (2, .int y2), (4, .int y4), (5, .int (gA u0 1 (((y4 + 2) + (24 * y6)) + y2).toNatClampNeg)), (6, .int (y6 + Int32.ofInt 1))]) [2, 3, 4, 5, 1, 0] rfl ?_
          exact ih u0 y1 y2 y4 (gA u0 1 (((y4 + 2) + (24 * y6)) + y2).toNatClampNeg) (y6 + Int32.ofInt 1) hw
set_option maxHeartbeats 4000000 in
set_option maxRecDepth 100000 in
theorem kX12_termOf {l : Launch} {E : VE} (h0 : Nat) (a0 : Nat → Nat) (u0 : Md) (x1 : Int32) (x2 : Int32) (x3 : Int32) {Q : Int32 → Md → Prop} (hw : qX12_termOf u0 x1 x2 x3 Q) : MI l yX12_termOf cX12_termOf 7 .int 1 0 0 E [.ref h0, .int x1, .int x2, .int x3] ([wX12 E h0 a0 u0].flatten) (fun (U : Md) => [wX12 E h0 a0 U].flatten) (fun (r : Int32) (U : Md) => Q r U) := by
  refine MI.of (own := RX12) (by decide) rfl (Nat.le_of_ble_eq_true rfl) ?_
  intro X C hini hret
  show VV X 0 0 ([wX12 E h0 a0 u0].flatten) [(0, .ref h0), (1, .int x1), (2, .int x2), (3, .int x3)] 0 []
  unfold qX12_termOf at hw
  refine v_aload_n C dX12_termOf_0 0 rfl ?_
  refine v_aload_n C dX12_termOf_1 0 rfl ?_
  refine v_callFi (st := [.ref h0]) (ci := 12) (qb := 0) C (kX12_now h0 a0 _ hw) mM_X12_138 mI_X12 mC_X12_now mN_X12_now mS_X12_now rfl rfl hd_X12_now ⟨Nat.le_of_ble_eq_true rfl, Nat.le_of_ble_eq_true rfl⟩ ⟨Nat.le_of_ble_eq_true rfl, Nat.le_of_ble_eq_true rfl⟩ rfl (Nat.le_of_ble_eq_true rfl) dX12_termOf_2 (fun r2 v2_0 hw => ?_)
  refine v_callFi (st := []) (ci := 12) (qb := 0) C (kX12_actOf h0 a0 _ _ hw) mM_X12_352 mI_X12 mC_X12_actOf mN_X12_actOf mS_X12_actOf rfl rfl hd_X12_actOf ⟨Nat.le_of_ble_eq_true rfl, Nat.le_of_ble_eq_true rfl⟩ ⟨Nat.le_of_ble_eq_true rfl, Nat.le_of_ble_eq_true rfl⟩ rfl (Nat.le_of_ble_eq_true rfl) dX12_termOf_5 (fun r5 v5_0 hw => ?_)
  refine v_istore (lv' := [(4, .int r5), (0, .ref h0), (1, .int x1), (2, .int x2), (3, .int x3)]) C dX12_termOf_8 (by decide) rfl ?_
  refine v_iload_n C dX12_termOf_10 4 rfl ?_
  refine v_istore (lv' := [(5, .int x3), (4, .int r5), (0, .ref h0), (1, .int x1), (2, .int x2), (3, .int x3)]) C dX12_termOf_11 (by decide) rfl ?_
  refine v_iconst (v := 0) C dX12_termOf_13 (by decide) ?_
  refine v_istore (lv' := [(6, .int 0), (5, .int x3), (4, .int r5), (0, .ref h0), (1, .int x1), (2, .int x2), (3, .int x3)]) C dX12_termOf_14 (by decide) rfl ?_
  refine v_lv C (lv' := [(0, .ref h0), (1, .int x1), (2, .int x2), (4, .int r5), (5, .int x3), (6, .int 0)]) [3, 4, 5, 2, 1, 0] rfl ?_
  obtain ⟨n', hw⟩ := hw
  exact jX12_termOf_16 h0 a0 Q C hret n' v5_0 x1 x2 r5 x3 0 hw
set_option maxHeartbeats 4000000 in
set_option maxRecDepth 100000 in
theorem jX12_partsOf_30 {X : VX} {E : VE} {l : Launch} (h0 : Nat) (a0 : Nat → Nat)  (Q : Int32 → Md → Prop) (C : VC X cX12_partsOf 4 RX12 (rmL 0 0 0) E l) (hret : RetI X cX12_partsOf .int 0 0 (fun (U : Md) => [wX12 E h0 a0 U].flatten) (fun (r : Int32) (U : Md) => Q r U)) (K4 : Md → Int32 → Int32 → Int32 → Prop) (hK4 : ∀ (u0 : Md) (y1 : Int32) (y2 : Int32) (y3 : Int32), K4 u0 y1 y2 y3 → VV X 0 0 ([wX12 E h0 a0 u0].flatten) [(0, .ref h0), (1, .int y1), (2, .int y2), (3, .int y3)] 4 []) : ∀ (u0 : Md) (y1 : Int32) (y3 : Int32) (z0 : Int32) (z1 : Int32), qX12_partsOf_30 Q K4 u0 y1 y3 z0 z1 → VV X 0 0 ([wX12 E h0 a0 u0].flatten) [(0, .ref h0), (1, .int y1), (3, .int y3)] 30 [.int z0, .int z1] := by
  intro u0 y1 y3 z0 z1 hw
  unfold qX12_partsOf_30 at hw
  refine v_iadd C dX12_partsOf_30 ?_
  refine v_istore_n (lv' := [(2, .int (z1 + z0)), (0, .ref h0), (1, .int y1), (3, .int y3)]) C dX12_partsOf_31 (by decide) rfl ?_
  refine v_iinc (lv' := [(3, .int (y3 + Int32.ofInt 1)), (2, .int (z1 + z0)), (0, .ref h0), (1, .int y1)]) C dX12_partsOf_32 3 rfl (by decide) rfl ?_
  refine v_goto (tgt := 4) C dX12_partsOf_35 (by decide) ?_
  refine v_lv C (lv' := [(0, .ref h0), (1, .int y1), (2, .int (z1 + z0)), (3, .int (y3 + Int32.ofInt 1))]) [2, 3, 1, 0] rfl ?_
  exact hK4 u0 y1 (z1 + z0) (y3 + Int32.ofInt 1) hw
set_option maxHeartbeats 4000000 in
set_option maxRecDepth 100000 in
theorem jX12_partsOf_4 {X : VX} {E : VE} {l : Launch} (h0 : Nat) (a0 : Nat → Nat)  (Q : Int32 → Md → Prop) (C : VC X cX12_partsOf 4 RX12 (rmL 0 0 0) E l) (hret : RetI X cX12_partsOf .int 0 0 (fun (U : Md) => [wX12 E h0 a0 U].flatten) (fun (r : Int32) (U : Md) => Q r U))  : ∀ (n : Nat), ∀ (u0 : Md) (y1 : Int32) (y2 : Int32) (y3 : Int32), qX12_partsOf_4 Q n u0 y1 y2 y3 → VV X 0 0 ([wX12 E h0 a0 u0].flatten) [(0, .ref h0), (1, .int y1), (2, .int y2), (3, .int y3)] 4 [] := by
  intro n
  induction n with
  | zero =>
    intro u0 y1 y2 y3 hw
    exact hw.elim
  | succ n ih =>
    intro u0 y1 y2 y3 hw
    unfold qX12_partsOf_4 at hw
    refine v_iload_n C dX12_partsOf_4 3 rfl ?_
    refine v_aload_n C dX12_partsOf_5 0 rfl ?_
    refine v_get (ci := 12) C inT12 0 1 rfl rfl (by decide) mF_X12_9_X12_1 rfl dX12_partsOf_6 ?_
    refine v_iconst (v := 1) C dX12_partsOf_9 (by decide) ?_
    obtain ⟨hi10, hw⟩ := hw
    refine v_iald C 1 rfl hi10 dX12_partsOf_10 ?_
    refine v_icmp_ge (tgt := 38) C dX12_partsOf_11 (by decide) (fun hc => ?_) (fun hc => ?_)
    · have hw := hw.1 hc
      refine v_iload_n C dX12_partsOf_38 2 rfl ?_
      exact hret _ _ _ _ y2 u0 dX12_partsOf_39 rfl hw (Nat.le_of_ble_eq_true rfl) (Nat.le_of_ble_eq_true rfl)
    · have hw := hw.2 hc
      refine v_iload_n C dX12_partsOf_14 2 rfl ?_
      refine v_aload_n C dX12_partsOf_15 0 rfl ?_
      refine v_get (ci := 12) C inT12 0 7 rfl rfl (by decide) mF_X12_28_X12_7 rfl dX12_partsOf_16 ?_
      refine v_iload_n C dX12_partsOf_19 3 rfl ?_
      obtain ⟨hi20, hw⟩ := hw
      refine v_iald C 6 rfl hi20 dX12_partsOf_20 ?_
      refine v_iload_n C dX12_partsOf_21 1 rfl ?_
      refine v_icmp_ne (tgt := 29) C dX12_partsOf_22 (by decide) (fun hc => ?_) (fun hc => ?_)
      · have hw := hw.1 hc
        refine v_iconst (v := 0) C dX12_partsOf_29 (by decide) ?_
        refine v_lv C (lv' := [(0, .ref h0), (1, .int y1), (3, .int y3)]) [0, 1, 3] rfl ?_
        exact jX12_partsOf_30 h0 a0 Q C hret (qX12_partsOf_4 Q n) ih u0 y1 y3 0 y2 hw
      · have hw := hw.2 hc
        refine v_iconst (v := 1) C dX12_partsOf_25 (by decide) ?_
        refine v_goto (tgt := 30) C dX12_partsOf_26 (by decide) ?_
        refine v_lv C (lv' := [(0, .ref h0), (1, .int y1), (3, .int y3)]) [0, 1, 3] rfl ?_
        exact jX12_partsOf_30 h0 a0 Q C hret (qX12_partsOf_4 Q n) ih u0 y1 y3 1 y2 hw
set_option maxHeartbeats 4000000 in
set_option maxRecDepth 100000 in
theorem kX12_partsOf {l : Launch} {E : VE} (h0 : Nat) (a0 : Nat → Nat) (u0 : Md) (x1 : Int32) {Q : Int32 → Md → Prop} (hw : qX12_partsOf u0 x1 Q) : MI l yX12_partsOf cX12_partsOf 4 .int 0 0 0 E [.ref h0, .int x1] ([wX12 E h0 a0 u0].flatten) (fun (U : Md) => [wX12 E h0 a0 U].flatten) (fun (r : Int32) (U : Md) => Q r U) := by
  refine MI.of (own := RX12) (by decide) rfl (Nat.le_of_ble_eq_true rfl) ?_
  intro X C hini hret
  show VV X 0 0 ([wX12 E h0 a0 u0].flatten) [(0, .ref h0), (1, .int x1)] 0 []
  unfold qX12_partsOf at hw
  refine v_iconst (v := 0) C dX12_partsOf_0 (by decide) ?_
  refine v_istore_n (lv' := [(2, .int 0), (0, .ref h0), (1, .int x1)]) C dX12_partsOf_1 (by decide) rfl ?_
  refine v_iconst (v := 0) C dX12_partsOf_2 (by decide) ?_
  refine v_istore_n (lv' := [(3, .int 0), (2, .int 0), (0, .ref h0), (1, .int x1)]) C dX12_partsOf_3 (by decide) rfl ?_
  refine v_lv C (lv' := [(0, .ref h0), (1, .int x1), (2, .int 0), (3, .int 0)]) [2, 3, 1, 0] rfl ?_
  obtain ⟨n', hw⟩ := hw
  exact jX12_partsOf_4 h0 a0 Q C hret n' u0 x1 0 0 hw
set_option maxHeartbeats 4000000 in
set_option maxRecDepth 100000 in
theorem jX12_holdFor_212 {X : VX} {E : VE} {l : Launch} (h0 : Nat) (a0 : Nat → Nat)  (Q : Int32 → Md → Prop) (C : VC X cX12_holdFor 10 RX12 (rmL 1 0 0) E l) (hret : RetI X cX12_holdFor .boolean 0 0 (fun (U : Md) => [wX12 E h0 a0 U].flatten) (fun (r : Int32) (U : Md) => (r = 0 ∨ r = 1) ∧ Q r U)) (K5 : Md → Int32 → Int32 → Int32 → Int32 → Prop) (hK5 : ∀ (u0 : Md) (y1 : Int32) (y2 : Int32) (y3 : Int32) (y4 : Int32), K5 u0 y1 y2 y3 y4 → VV X 0 0 ([wX12 E h0 a0 u0].flatten) [(0, .ref h0), (1, .int y1), (2, .int y2), (3, .int y3), (4, .int y4)] 5 []) : ∀ (u0 : Md) (y1 : Int32) (y2 : Int32) (y3 : Int32) (y4 : Int32) (z0 : Int32) (z1 : Int32), qX12_holdFor_212 Q K5 u0 y1 y2 y3 y4 z0 z1 → VV X 0 0 ([wX12 E h0 a0 u0].flatten) [(0, .ref h0), (1, .int y1), (2, .int y2), (3, .int y3), (4, .int y4)] 212 [.int z0, .int z1] := by
  intro u0 y1 y2 y3 y4 z0 z1 hw
  unfold qX12_holdFor_212 at hw
  refine v_icmp_ne (tgt := 217) C dX12_holdFor_212 (by decide) (fun hc => ?_) (fun hc => ?_)
  · have hw := hw.1 hc
    refine v_iinc (lv' := [(4, .int (y4 + Int32.ofInt 5)), (0, .ref h0), (1, .int y1), (2, .int y2), (3, .int y3)]) C dX12_holdFor_217 4 rfl (by decide) rfl ?_
    refine v_goto (tgt := 5) C dX12_holdFor_220 (by decide) ?_
    refine v_lv C (lv' := [(0, .ref h0), (1, .int y1), (2, .int y2), (3, .int y3), (4, .int (y4 + Int32.ofInt 5))]) [1, 2, 3, 4, 0] rfl ?_
    exact hK5 u0 y1 y2 y3 (y4 + Int32.ofInt 5) hw
  · have hw := hw.2 hc
    refine v_iconst (v := 0) C dX12_holdFor_215 (by decide) ?_
    exact hret _ _ _ _ 0 u0 dX12_holdFor_216 rfl ⟨Or.inl rfl, hw⟩ (Nat.le_of_ble_eq_true rfl) (Nat.le_of_ble_eq_true rfl)
set_option maxHeartbeats 4000000 in
set_option maxRecDepth 100000 in
theorem jX12_holdFor_192 {X : VX} {E : VE} {l : Launch} (h0 : Nat) (a0 : Nat → Nat)  (Q : Int32 → Md → Prop) (C : VC X cX12_holdFor 10 RX12 (rmL 1 0 0) E l) (hret : RetI X cX12_holdFor .boolean 0 0 (fun (U : Md) => [wX12 E h0 a0 U].flatten) (fun (r : Int32) (U : Md) => (r = 0 ∨ r = 1) ∧ Q r U)) (K5 : Md → Int32 → Int32 → Int32 → Int32 → Prop) (hK5 : ∀ (u0 : Md) (y1 : Int32) (y2 : Int32) (y3 : Int32) (y4 : Int32), K5 u0 y1 y2 y3 y4 → VV X 0 0 ([wX12 E h0 a0 u0].flatten) [(0, .ref h0), (1, .int y1), (2, .int y2), (3, .int y3), (4, .int y4)] 5 []) : ∀ (u0 : Md) (y1 : Int32) (y2 : Int32) (y3 : Int32) (y4 : Int32) (z0 : Int32), qX12_holdFor_192 Q K5 u0 y1 y2 y3 y4 z0 → VV X 0 0 ([wX12 E h0 a0 u0].flatten) [(0, .ref h0), (1, .int y1), (2, .int y2), (3, .int y3), (4, .int y4)] 192 [.int z0] := by
  intro u0 y1 y2 y3 y4 z0 hw
  unfold qX12_holdFor_192 at hw
  refine v_istore (lv' := [(9, .int z0), (0, .ref h0), (1, .int y1), (2, .int y2), (3, .int y3), (4, .int y4)]) C dX12_holdFor_192 (by decide) rfl ?_
  refine v_iload C dX12_holdFor_194 0 rfl ?_
  refine v_aload_n C dX12_holdFor_196 1 rfl ?_
  refine v_get (ci := 12) C inT12 0 1 rfl rfl (by decide) mF_X12_9_X12_1 rfl dX12_holdFor_197 ?_
  refine v_iload C dX12_holdFor_200 5 rfl ?_
  obtain ⟨hi202, hw⟩ := hw
  refine v_iald C 1 rfl hi202 dX12_holdFor_202 ?_
  refine v_iconst (v := 1) C dX12_holdFor_203 (by decide) ?_
  refine v_icmp_ne (tgt := 211) C dX12_holdFor_204 (by decide) (fun hc => ?_) (fun hc => ?_)
  · have hw := hw.1 hc
    refine v_iconst (v := 0) C dX12_holdFor_211 (by decide) ?_
    refine v_lv C (lv' := [(0, .ref h0), (1, .int y1), (2, .int y2), (3, .int y3), (4, .int y4)]) [1, 2, 3, 4, 5] rfl ?_
    exact jX12_holdFor_212 h0 a0 Q C hret K5 hK5 u0 y1 y2 y3 y4 0 z0 hw
  · have hw := hw.2 hc
    refine v_iconst (v := 1) C dX12_holdFor_207 (by decide) ?_
    refine v_goto (tgt := 212) C dX12_holdFor_208 (by decide) ?_
    refine v_lv C (lv' := [(0, .ref h0), (1, .int y1), (2, .int y2), (3, .int y3), (4, .int y4)]) [1, 2, 3, 4, 5] rfl ?_
    exact jX12_holdFor_212 h0 a0 Q C hret K5 hK5 u0 y1 y2 y3 y4 1 z0 hw
set_option maxHeartbeats 4000000 in
set_option maxRecDepth 100000 in
theorem jX12_holdFor_109 {X : VX} {E : VE} {l : Launch} (h0 : Nat) (a0 : Nat → Nat)  (Q : Int32 → Md → Prop) (C : VC X cX12_holdFor 10 RX12 (rmL 1 0 0) E l) (hret : RetI X cX12_holdFor .boolean 0 0 (fun (U : Md) => [wX12 E h0 a0 U].flatten) (fun (r : Int32) (U : Md) => (r = 0 ∨ r = 1) ∧ Q r U)) (K5 : Md → Int32 → Int32 → Int32 → Int32 → Prop) (hK5 : ∀ (u0 : Md) (y1 : Int32) (y2 : Int32) (y3 : Int32) (y4 : Int32), K5 u0 y1 y2 y3 y4 → VV X 0 0 ([wX12 E h0 a0 u0].flatten) [(0, .ref h0), (1, .int y1), (2, .int y2), (3, .int y3), (4, .int y4)] 5 []) : ∀ (u0 : Md) (y1 : Int32) (y2 : Int32) (y3 : Int32) (y4 : Int32) (z0 : Int32), qX12_holdFor_109 Q K5 u0 y1 y2 y3 y4 z0 → VV X 0 0 ([wX12 E h0 a0 u0].flatten) [(0, .ref h0), (1, .int y1), (2, .int y2), (3, .int y3), (4, .int y4)] 109 [.int z0] := by
  intro u0 y1 y2 y3 y4 z0 hw
  unfold qX12_holdFor_109 at hw
  refine v_istore (lv' := [(7, .int z0), (0, .ref h0), (1, .int y1), (2, .int y2), (3, .int y3), (4, .int y4)]) C dX12_holdFor_109 (by decide) rfl ?_
  refine v_aload_n C dX12_holdFor_111 1 rfl ?_
  refine v_get (ci := 12) C inT12 0 1 rfl rfl (by decide) mF_X12_9_X12_1 rfl dX12_holdFor_112 ?_
  refine v_iload C dX12_holdFor_115 5 rfl ?_
  refine v_iconst (v := 4) C dX12_holdFor_117 (by decide) ?_
  refine v_iadd C dX12_holdFor_118 ?_
  obtain ⟨hi119, hw⟩ := hw
  refine v_iald C 1 rfl hi119 dX12_holdFor_119 ?_
  refine v_istore (lv' := [(8, .int (gA u0 1 (y4 + 4).toNatClampNeg)), (7, .int z0), (0, .ref h0), (1, .int y1), (2, .int y2), (3, .int y3), (4, .int y4)]) C dX12_holdFor_120 (by decide) rfl ?_
  refine v_aload_n C dX12_holdFor_122 2 rfl ?_
  refine v_get (ci := 12) C inT12 0 1 rfl rfl (by decide) mF_X12_9_X12_1 rfl dX12_holdFor_123 ?_
  refine v_iload C dX12_holdFor_126 6 rfl ?_
  refine v_iconst (v := 3) C dX12_holdFor_128 (by decide) ?_
  refine v_iadd C dX12_holdFor_129 ?_
  obtain ⟨hi130, hw⟩ := hw
  refine v_iald C 1 rfl hi130 dX12_holdFor_130 ?_
  refine v_bipush (v := 60) C dX12_holdFor_131 (by decide) ?_
  refine v_icmp_ne (tgt := 151) C dX12_holdFor_133 (by decide) (fun hc => ?_) (fun hc => ?_)
  · have hw := hw.1 hc
    refine v_aload_n C dX12_holdFor_151 2 rfl ?_
    refine v_get (ci := 12) C inT12 0 1 rfl rfl (by decide) mF_X12_9_X12_1 rfl dX12_holdFor_152 ?_
    refine v_iload C dX12_holdFor_155 6 rfl ?_
    refine v_iconst (v := 3) C dX12_holdFor_157 (by decide) ?_
    refine v_iadd C dX12_holdFor_158 ?_
    obtain ⟨hi159, hw⟩ := hw
    refine v_iald C 1 rfl hi159 dX12_holdFor_159 ?_
    refine v_bipush (v := 62) C dX12_holdFor_160 (by decide) ?_
    refine v_icmp_ne (tgt := 180) C dX12_holdFor_162 (by decide) (fun hc => ?_) (fun hc => ?_)
    · have hw := hw.1 hc
      refine v_iload C dX12_holdFor_180 1 rfl ?_
      refine v_iload C dX12_holdFor_182 0 rfl ?_
      refine v_icmp_ne (tgt := 191) C dX12_holdFor_184 (by decide) (fun hc => ?_) (fun hc => ?_)
      · have hw := hw.1 hc
        refine v_iconst (v := 0) C dX12_holdFor_191 (by decide) ?_
        refine v_lv C (lv' := [(0, .ref h0), (1, .int y1), (2, .int y2), (3, .int y3), (4, .int y4)]) [2, 3, 4, 5, 6] rfl ?_
        exact jX12_holdFor_192 h0 a0 Q C hret K5 hK5 u0 y1 y2 y3 y4 0 hw
      · have hw := hw.2 hc
        refine v_iconst (v := 1) C dX12_holdFor_187 (by decide) ?_
        refine v_goto (tgt := 192) C dX12_holdFor_188 (by decide) ?_
        refine v_lv C (lv' := [(0, .ref h0), (1, .int y1), (2, .int y2), (3, .int y3), (4, .int y4)]) [2, 3, 4, 5, 6] rfl ?_
        exact jX12_holdFor_192 h0 a0 Q C hret K5 hK5 u0 y1 y2 y3 y4 1 hw
    · have hw := hw.2 hc
      refine v_iload C dX12_holdFor_165 1 rfl ?_
      refine v_iload C dX12_holdFor_167 0 rfl ?_
      refine v_icmp_le (tgt := 176) C dX12_holdFor_169 (by decide) (fun hc => ?_) (fun hc => ?_)
      · have hw := hw.1 hc
        refine v_iconst (v := 0) C dX12_holdFor_176 (by decide) ?_
        refine v_goto (tgt := 192) C dX12_holdFor_177 (by decide) ?_
        refine v_lv C (lv' := [(0, .ref h0), (1, .int y1), (2, .int y2), (3, .int y3), (4, .int y4)]) [2, 3, 4, 5, 6] rfl ?_
        exact jX12_holdFor_192 h0 a0 Q C hret K5 hK5 u0 y1 y2 y3 y4 0 hw
      · have hw := hw.2 hc
        refine v_iconst (v := 1) C dX12_holdFor_172 (by decide) ?_
        refine v_goto (tgt := 192) C dX12_holdFor_173 (by decide) ?_
        refine v_lv C (lv' := [(0, .ref h0), (1, .int y1), (2, .int y2), (3, .int y3), (4, .int y4)]) [2, 3, 4, 5, 6] rfl ?_
        exact jX12_holdFor_192 h0 a0 Q C hret K5 hK5 u0 y1 y2 y3 y4 1 hw
  · have hw := hw.2 hc
    refine v_iload C dX12_holdFor_136 1 rfl ?_
    refine v_iload C dX12_holdFor_138 0 rfl ?_
    refine v_icmp_ge (tgt := 147) C dX12_holdFor_140 (by decide) (fun hc => ?_) (fun hc => ?_)
    · have hw := hw.1 hc
      refine v_iconst (v := 0) C dX12_holdFor_147 (by decide) ?_
      refine v_goto (tgt := 192) C dX12_holdFor_148 (by decide) ?_
      refine v_lv C (lv' := [(0, .ref h0), (1, .int y1), (2, .int y2), (3, .int y3), (4, .int y4)]) [2, 3, 4, 5, 6] rfl ?_
      exact jX12_holdFor_192 h0 a0 Q C hret K5 hK5 u0 y1 y2 y3 y4 0 hw
    · have hw := hw.2 hc
      refine v_iconst (v := 1) C dX12_holdFor_143 (by decide) ?_
      refine v_goto (tgt := 192) C dX12_holdFor_144 (by decide) ?_
      refine v_lv C (lv' := [(0, .ref h0), (1, .int y1), (2, .int y2), (3, .int y3), (4, .int y4)]) [2, 3, 4, 5, 6] rfl ?_
      exact jX12_holdFor_192 h0 a0 Q C hret K5 hK5 u0 y1 y2 y3 y4 1 hw
set_option maxHeartbeats 4000000 in
set_option maxRecDepth 100000 in
theorem jX12_holdFor_5 {X : VX} {E : VE} {l : Launch} (h0 : Nat) (a0 : Nat → Nat)  (Q : Int32 → Md → Prop) (C : VC X cX12_holdFor 10 RX12 (rmL 1 0 0) E l) (hret : RetI X cX12_holdFor .boolean 0 0 (fun (U : Md) => [wX12 E h0 a0 U].flatten) (fun (r : Int32) (U : Md) => (r = 0 ∨ r = 1) ∧ Q r U))  : ∀ (n : Nat), ∀ (u0 : Md) (y1 : Int32) (y2 : Int32) (y3 : Int32) (y4 : Int32), qX12_holdFor_5 Q n u0 y1 y2 y3 y4 → VV X 0 0 ([wX12 E h0 a0 u0].flatten) [(0, .ref h0), (1, .int y1), (2, .int y2), (3, .int y3), (4, .int y4)] 5 [] := by
  intro n
  induction n with
  | zero =>
    intro u0 y1 y2 y3 y4 hw
    exact hw.elim
  | succ n ih =>
    intro u0 y1 y2 y3 y4 hw
    unfold qX12_holdFor_5 at hw
    refine v_iload C dX12_holdFor_5 4 rfl ?_
    refine v_iload_n C dX12_holdFor_7 1 rfl ?_
    refine v_iconst (v := 4) C dX12_holdFor_8 (by decide) ?_
    refine v_iadd C dX12_holdFor_9 ?_
    refine v_iconst (v := 5) C dX12_holdFor_10 (by decide) ?_
    refine v_aload_n C dX12_holdFor_11 0 rfl ?_
    refine v_get (ci := 12) C inT12 0 1 rfl rfl (by decide) mF_X12_9_X12_1 rfl dX12_holdFor_12 ?_
    refine v_iload_n C dX12_holdFor_15 1 rfl ?_
    refine v_iconst (v := 3) C dX12_holdFor_16 (by decide) ?_
    refine v_iadd C dX12_holdFor_17 ?_
    obtain ⟨hi18, hw⟩ := hw
    refine v_iald C 1 rfl hi18 dX12_holdFor_18 ?_
    refine v_imul C dX12_holdFor_19 ?_
    refine v_iadd C dX12_holdFor_20 ?_
    refine v_icmp_ge (tgt := 223) C dX12_holdFor_21 (by decide) (fun hc => ?_) (fun hc => ?_)
    · have hw := hw.1 hc
      refine v_iconst (v := 1) C dX12_holdFor_223 (by decide) ?_
      exact hret _ _ _ _ 1 u0 dX12_holdFor_224 rfl ⟨Or.inr rfl, hw⟩ (Nat.le_of_ble_eq_true rfl) (Nat.le_of_ble_eq_true rfl)
    · have hw := hw.2 hc
      refine v_aload_n C dX12_holdFor_24 0 rfl ?_
      refine v_iload_n C dX12_holdFor_25 2 rfl ?_
      refine v_callFi (st := []) (ci := 12) (qb := 0) C (kX12_allOf h0 a0 _ _ hw) mM_X12_169 mI_X12 mC_X12_allOf mN_X12_allOf mS_X12_allOf rfl rfl hd_X12_allOf ⟨Nat.le_of_ble_eq_true rfl, Nat.le_of_ble_eq_true rfl⟩ ⟨Nat.le_of_ble_eq_true rfl, Nat.le_of_ble_eq_true rfl⟩ rfl (Nat.le_of_ble_eq_true rfl) dX12_holdFor_26 (fun r26 v26_0 hw => ?_)
      refine v_istore (lv' := [(5, .int r26), (0, .ref h0), (1, .int y1), (2, .int y2), (3, .int y3), (4, .int y4)]) C dX12_holdFor_29 (by decide) rfl ?_
      refine v_aload_n C dX12_holdFor_31 1 rfl ?_
      refine v_get (ci := 12) C inT12 0 1 rfl rfl (by decide) mF_X12_9_X12_1 rfl dX12_holdFor_32 ?_
      refine v_iload C dX12_holdFor_35 5 rfl ?_
      refine v_iconst (v := 1) C dX12_holdFor_37 (by decide) ?_
      refine v_iadd C dX12_holdFor_38 ?_
      obtain ⟨hi39, hw⟩ := hw
      refine v_iald C 1 rfl hi39 dX12_holdFor_39 ?_
      refine v_istore (lv' := [(6, .int (gA v26_0 1 (y4 + 1).toNatClampNeg)), (5, .int r26), (0, .ref h0), (1, .int y1), (2, .int y2), (3, .int y3), (4, .int y4)]) C dX12_holdFor_40 (by decide) rfl ?_
      refine v_iload C dX12_holdFor_42 0 rfl ?_
      refine v_if_ne (tgt := 83) C dX12_holdFor_44 (by decide) (fun hc => ?_) (fun hc => ?_)
      · have hw := hw.1 hc
        refine v_iload C dX12_holdFor_83 0 rfl ?_
        refine v_iconst (v := 1) C dX12_holdFor_85 (by decide) ?_
        refine v_icmp_ne (tgt := 94) C dX12_holdFor_86 (by decide) (fun hc => ?_) (fun hc => ?_)
        · have hw := hw.1 hc
          refine v_iload C dX12_holdFor_94 0 rfl ?_
          refine v_iconst (v := 2) C dX12_holdFor_96 (by decide) ?_
          refine v_icmp_ne (tgt := 108) C dX12_holdFor_97 (by decide) (fun hc => ?_) (fun hc => ?_)
          · have hw := hw.1 hc
            refine v_iload_n C dX12_holdFor_108 5 rfl ?_
            refine v_lv C (lv' := [(0, .ref h0), (1, .int y1), (2, .int y2), (3, .int y3), (4, .int y4)]) [2, 3, 4, 5, 6] rfl ?_
            exact jX12_holdFor_109 h0 a0 Q C hret (qX12_holdFor_5 Q n) ih v26_0 y1 y2 y3 y4 y3 hw
          · have hw := hw.2 hc
            refine v_aload_n C dX12_holdFor_100 2 rfl ?_
            refine v_iload_n C dX12_holdFor_101 4 rfl ?_
            refine v_callFi (st := []) (ci := 12) (qb := 0) C (kX12_partsOf h0 a0 _ _ hw) mM_X12_355 mI_X12 mC_X12_partsOf mN_X12_partsOf mS_X12_partsOf rfl rfl hd_X12_partsOf ⟨Nat.le_of_ble_eq_true rfl, Nat.le_of_ble_eq_true rfl⟩ ⟨Nat.le_of_ble_eq_true rfl, Nat.le_of_ble_eq_true rfl⟩ rfl (Nat.le_of_ble_eq_true rfl) dX12_holdFor_102 (fun r102 v102_0 hw => ?_)
            refine v_goto (tgt := 109) C dX12_holdFor_105 (by decide) ?_
            refine v_lv C (lv' := [(0, .ref h0), (1, .int y1), (2, .int y2), (3, .int y3), (4, .int y4)]) [2, 3, 4, 5, 6] rfl ?_
            exact jX12_holdFor_109 h0 a0 Q C hret (qX12_holdFor_5 Q n) ih v102_0 y1 y2 y3 y4 r102 hw
        · have hw := hw.2 hc
          refine v_iload C dX12_holdFor_89 1 rfl ?_
          refine v_goto (tgt := 109) C dX12_holdFor_91 (by decide) ?_
          refine v_lv C (lv' := [(0, .ref h0), (1, .int y1), (2, .int y2), (3, .int y3), (4, .int y4)]) [2, 3, 4, 5, 6] rfl ?_
          exact jX12_holdFor_109 h0 a0 Q C hret (qX12_holdFor_5 Q n) ih v26_0 y1 y2 y3 y4 r26 hw
      · have hw := hw.2 hc
        refine v_iload C dX12_holdFor_47 1 rfl ?_
        refine v_if_ne (tgt := 56) C dX12_holdFor_49 (by decide) (fun hc => ?_) (fun hc => ?_)
        · have hw := hw.1 hc
          refine v_bipush (v := 100) C dX12_holdFor_56 (by decide) ?_
          refine v_aload_n C dX12_holdFor_58 2 rfl ?_
          refine v_get (ci := 12) C inT12 0 9 rfl rfl (by decide) mF_X12_34_X12_9 rfl dX12_holdFor_59 ?_
          refine v_iconst (v := 3) C dX12_holdFor_62 (by decide) ?_
          refine v_iload_n C dX12_holdFor_63 4 rfl ?_
          refine v_imul C dX12_holdFor_64 ?_
          refine v_aload_n C dX12_holdFor_65 2 rfl ?_
          refine v_get (ci := 12) C inT12 0 1 rfl rfl (by decide) mF_X12_9_X12_1 rfl dX12_holdFor_66 ?_
          refine v_iload C dX12_holdFor_69 6 rfl ?_
          refine v_iconst (v := 2) C dX12_holdFor_71 (by decide) ?_
          refine v_iadd C dX12_holdFor_72 ?_
          obtain ⟨hi73, hw⟩ := hw
          refine v_iald C 1 rfl hi73 dX12_holdFor_73 ?_
          refine v_iadd C dX12_holdFor_74 ?_
          obtain ⟨hi75, hw⟩ := hw
          refine v_iald C 8 rfl hi75 dX12_holdFor_75 ?_
          refine v_imul C dX12_holdFor_76 ?_
          refine v_iload C dX12_holdFor_77 1 rfl ?_
          obtain ⟨hz, hw⟩ := hw
          refine v_idiv C dX12_holdFor_79 hz ?_
          refine v_goto (tgt := 109) C dX12_holdFor_80 (by decide) ?_
          refine v_lv C (lv' := [(0, .ref h0), (1, .int y1), (2, .int y2), (3, .int y3), (4, .int y4)]) [2, 3, 4, 5, 6] rfl ?_
          exact jX12_holdFor_109 h0 a0 Q C hret (qX12_holdFor_5 Q n) ih v26_0 y1 y2 y3 y4 ((100 * (gA v26_0 9 ((3 * y2) + (gA v26_0 1 (y4 + 2).toNatClampNeg)).toNatClampNeg)) / r26) hw
        · have hw := hw.2 hc
          refine v_iconst (v := 0) C dX12_holdFor_52 (by decide) ?_
          refine v_goto (tgt := 109) C dX12_holdFor_53 (by decide) ?_
          refine v_lv C (lv' := [(0, .ref h0), (1, .int y1), (2, .int y2), (3, .int y3), (4, .int y4)]) [2, 3, 4, 5, 6] rfl ?_
          exact jX12_holdFor_109 h0 a0 Q C hret (qX12_holdFor_5 Q n) ih v26_0 y1 y2 y3 y4 0 hw
set_option maxHeartbeats 4000000 in
set_option maxRecDepth 100000 in
theorem kX12_holdFor {l : Launch} {E : VE} (h0 : Nat) (a0 : Nat → Nat) (u0 : Md) (x1 : Int32) (x2 : Int32) (x3 : Int32) {Q : Int32 → Md → Prop} (hw : qX12_holdFor u0 x1 x2 x3 Q) : MI l yX12_holdFor cX12_holdFor 10 .boolean 1 0 0 E [.ref h0, .int x1, .int x2, .int x3] ([wX12 E h0 a0 u0].flatten) (fun (U : Md) => [wX12 E h0 a0 U].flatten) (fun (r : Int32) (U : Md) => (r = 0 ∨ r = 1) ∧ Q r U) := by
  refine MI.of (own := RX12) (by decide) rfl (Nat.le_of_ble_eq_true rfl) ?_
  intro X C hini hret
  show VV X 0 0 ([wX12 E h0 a0 u0].flatten) [(0, .ref h0), (1, .int x1), (2, .int x2), (3, .int x3)] 0 []
  unfold qX12_holdFor at hw
  refine v_iload_n C dX12_holdFor_0 1 rfl ?_
  refine v_iconst (v := 4) C dX12_holdFor_1 (by decide) ?_
  refine v_iadd C dX12_holdFor_2 ?_
  refine v_istore (lv' := [(4, .int (x1 + 4)), (0, .ref h0), (1, .int x1), (2, .int x2), (3, .int x3)]) C dX12_holdFor_3 (by decide) rfl ?_
  refine v_lv C (lv' := [(0, .ref h0), (1, .int x1), (2, .int x2), (3, .int x3), (4, .int (x1 + 4))]) [1, 2, 3, 4, 0] rfl ?_
  obtain ⟨n', hw⟩ := hw
  exact jX12_holdFor_5 h0 a0 Q C hret n' u0 x1 x2 x3 (x1 + 4) hw
set_option maxHeartbeats 4000000 in
set_option maxRecDepth 100000 in
theorem jX12_most_46 {X : VX} {E : VE} {l : Launch} (h0 : Nat) (a0 : Nat → Nat)  (Q : Int32 → Md → Prop) (C : VC X cX12_most 5 RX12 (rmL 0 0 0) E l) (hret : RetI X cX12_most .int 0 0 (fun (U : Md) => [wX12 E h0 a0 U].flatten) (fun (r : Int32) (U : Md) => Q r U)) (K5 : Md → Int32 → Int32 → Int32 → Int32 → Prop) (hK5 : ∀ (u0 : Md) (y1 : Int32) (y2 : Int32) (y3 : Int32) (y4 : Int32), K5 u0 y1 y2 y3 y4 → VV X 0 0 ([wX12 E h0 a0 u0].flatten) [(0, .ref h0), (1, .int y1), (2, .int y2), (3, .int y3), (4, .int y4)] 5 []) : ∀ (u0 : Md) (y1 : Int32) (y2 : Int32) (y4 : Int32), qX12_most_46 Q K5 u0 y1 y2 y4 → VV X 0 0 ([wX12 E h0 a0 u0].flatten) [(0, .ref h0), (1, .int y1), (2, .int y2), (4, .int y4)] 46 [] := by
  intro u0 y1 y2 y4 hw
  unfold qX12_most_46 at hw
  refine v_iload C dX12_most_46 3 rfl ?_
  refine v_istore_n (lv' := [(3, .int y4), (0, .ref h0), (1, .int y1), (2, .int y2), (4, .int y4)]) C dX12_most_48 (by decide) rfl ?_
  refine v_iinc (lv' := [(4, .int (y4 + Int32.ofInt 1)), (3, .int y4), (0, .ref h0), (1, .int y1), (2, .int y2)]) C dX12_most_49 4 rfl (by decide) rfl ?_
  refine v_goto (tgt := 5) C dX12_most_52 (by decide) ?_
  refine v_lv C (lv' := [(0, .ref h0), (1, .int y1), (2, .int y2), (3, .int y4), (4, .int (y4 + Int32.ofInt 1))]) [2, 3, 4, 1, 0] rfl ?_
  exact hK5 u0 y1 y2 y4 (y4 + Int32.ofInt 1) hw
set_option maxHeartbeats 4000000 in
set_option maxRecDepth 100000 in
theorem jX12_most_5 {X : VX} {E : VE} {l : Launch} (h0 : Nat) (a0 : Nat → Nat)  (Q : Int32 → Md → Prop) (C : VC X cX12_most 5 RX12 (rmL 0 0 0) E l) (hret : RetI X cX12_most .int 0 0 (fun (U : Md) => [wX12 E h0 a0 U].flatten) (fun (r : Int32) (U : Md) => Q r U))  : ∀ (n : Nat), ∀ (u0 : Md) (y1 : Int32) (y2 : Int32) (y3 : Int32) (y4 : Int32), qX12_most_5 Q n u0 y1 y2 y3 y4 → VV X 0 0 ([wX12 E h0 a0 u0].flatten) [(0, .ref h0), (1, .int y1), (2, .int y2), (3, .int y3), (4, .int y4)] 5 [] := by
  intro n
  induction n with
  | zero =>
    intro u0 y1 y2 y3 y4 hw
    exact hw.elim
  | succ n ih =>
    intro u0 y1 y2 y3 y4 hw
    unfold qX12_most_5 at hw
    refine v_iload C dX12_most_5 4 rfl ?_
    refine v_iconst (v := 3) C dX12_most_7 (by decide) ?_
    refine v_icmp_ge (tgt := 55) C dX12_most_8 (by decide) (fun hc => ?_) (fun hc => ?_)
    · have hw := hw.1 hc
      refine v_iload_n C dX12_most_55 3 rfl ?_
      exact hret _ _ _ _ y3 u0 dX12_most_56 rfl hw (Nat.le_of_ble_eq_true rfl) (Nat.le_of_ble_eq_true rfl)
    · have hw := hw.2 hc
      refine v_iload C dX12_most_11 4 rfl ?_
      refine v_iload_n C dX12_most_13 2 rfl ?_
      refine v_icmp_eq (tgt := 49) C dX12_most_14 (by decide) (fun hc => ?_) (fun hc => ?_)
      · have hw := hw.1 hc
        refine v_iinc (lv' := [(4, .int (y4 + Int32.ofInt 1)), (0, .ref h0), (1, .int y1), (2, .int y2), (3, .int y3)]) C dX12_most_49 4 rfl (by decide) rfl ?_
        refine v_goto (tgt := 5) C dX12_most_52 (by decide) ?_
        refine v_lv C (lv' := [(0, .ref h0), (1, .int y1), (2, .int y2), (3, .int y3), (4, .int (y4 + Int32.ofInt 1))]) [1, 2, 3, 4, 0] rfl ?_
        exact ih u0 y1 y2 y3 (y4 + Int32.ofInt 1) hw
      · have hw := hw.2 hc
        refine v_iload_n C dX12_most_17 3 rfl ?_
        refine v_iconst (v := (-1)) C dX12_most_18 (by decide) ?_
        refine v_icmp_eq (tgt := 46) C dX12_most_19 (by decide) (fun hc => ?_) (fun hc => ?_)
        · have hw := hw.1 hc
          refine v_lv C (lv' := [(0, .ref h0), (1, .int y1), (2, .int y2), (4, .int y4)]) [0, 1, 2, 4] rfl ?_
          exact jX12_most_46 h0 a0 Q C hret (qX12_most_5 Q n) ih u0 y1 y2 y4 hw
        · have hw := hw.2 hc
          refine v_aload_n C dX12_most_22 0 rfl ?_
          refine v_get (ci := 12) C inT12 0 9 rfl rfl (by decide) mF_X12_34_X12_9 rfl dX12_most_23 ?_
          refine v_iconst (v := 3) C dX12_most_26 (by decide) ?_
          refine v_iload_n C dX12_most_27 1 rfl ?_
          refine v_imul C dX12_most_28 ?_
          refine v_iload C dX12_most_29 4 rfl ?_
          refine v_iadd C dX12_most_31 ?_
          obtain ⟨hi32, hw⟩ := hw
          refine v_iald C 8 rfl hi32 dX12_most_32 ?_
          refine v_aload_n C dX12_most_33 0 rfl ?_
          refine v_get (ci := 12) C inT12 0 9 rfl rfl (by decide) mF_X12_34_X12_9 rfl dX12_most_34 ?_
          refine v_iconst (v := 3) C dX12_most_37 (by decide) ?_
          refine v_iload_n C dX12_most_38 1 rfl ?_
          refine v_imul C dX12_most_39 ?_
          refine v_iload_n C dX12_most_40 3 rfl ?_
          refine v_iadd C dX12_most_41 ?_
          obtain ⟨hi42, hw⟩ := hw
          refine v_iald C 8 rfl hi42 dX12_most_42 ?_
          refine v_icmp_le (tgt := 49) C dX12_most_43 (by decide) (fun hc => ?_) (fun hc => ?_)
          · have hw := hw.1 hc
            refine v_iinc (lv' := [(4, .int (y4 + Int32.ofInt 1)), (0, .ref h0), (1, .int y1), (2, .int y2), (3, .int y3)]) C dX12_most_49 4 rfl (by decide) rfl ?_
            refine v_goto (tgt := 5) C dX12_most_52 (by decide) ?_
            refine v_lv C (lv' := [(0, .ref h0), (1, .int y1), (2, .int y2), (3, .int y3), (4, .int (y4 + Int32.ofInt 1))]) [1, 2, 3, 4, 0] rfl ?_
            exact ih u0 y1 y2 y3 (y4 + Int32.ofInt 1) hw
          · have hw := hw.2 hc
            refine v_lv C (lv' := [(0, .ref h0), (1, .int y1), (2, .int y2), (4, .int y4)]) [0, 1, 2, 4] rfl ?_
            exact jX12_most_46 h0 a0 Q C hret (qX12_most_5 Q n) ih u0 y1 y2 y4 hw
set_option maxHeartbeats 4000000 in
set_option maxRecDepth 100000 in
theorem kX12_most {l : Launch} {E : VE} (h0 : Nat) (a0 : Nat → Nat) (u0 : Md) (x1 : Int32) (x2 : Int32) {Q : Int32 → Md → Prop} (hw : qX12_most u0 x1 x2 Q) : MI l yX12_most cX12_most 5 .int 0 0 0 E [.ref h0, .int x1, .int x2] ([wX12 E h0 a0 u0].flatten) (fun (U : Md) => [wX12 E h0 a0 U].flatten) (fun (r : Int32) (U : Md) => Q r U) := by
  refine MI.of (own := RX12) (by decide) rfl (Nat.le_of_ble_eq_true rfl) ?_
  intro X C hini hret
  show VV X 0 0 ([wX12 E h0 a0 u0].flatten) [(0, .ref h0), (1, .int x1), (2, .int x2)] 0 []
  unfold qX12_most at hw
  refine v_iconst (v := (-1)) C dX12_most_0 (by decide) ?_
  refine v_istore_n (lv' := [(3, .int ((-1))), (0, .ref h0), (1, .int x1), (2, .int x2)]) C dX12_most_1 (by decide) rfl ?_
  refine v_iconst (v := 0) C dX12_most_2 (by decide) ?_
  refine v_istore (lv' := [(4, .int 0), (3, .int ((-1))), (0, .ref h0), (1, .int x1), (2, .int x2)]) C dX12_most_3 (by decide) rfl ?_
  refine v_lv C (lv' := [(0, .ref h0), (1, .int x1), (2, .int x2), (3, .int ((-1))), (4, .int 0)]) [2, 3, 4, 1, 0] rfl ?_
  obtain ⟨n', hw⟩ := hw
  exact jX12_most_5 h0 a0 Q C hret n' u0 x1 x2 ((-1)) 0 hw
