set_option maxHeartbeats 4000000 in
set_option maxRecDepth 100000 in
theorem jX9_kindOf_14 {X : VX} {E : VE} {l : Launch}   (Q : Int32 → Prop) (C : VC X cX9_kindOf 1 RX9 (rmL 0 0 0) E l) (hret : RetI X cX9_kindOf .int 0 0 (fun (_ : Unit) => ([] : va_W)) (fun (r : Int32) (_ : Unit) => Q r))  : ∀ (y0 : Int32), qX9_kindOf_14 Q y0 → VV X 0 0 ([]) [(0, .int y0)] 14 [] := by
  intro y0 hw
  unfold qX9_kindOf_14 at hw
  refine v_iload_n C dX9_kindOf_14 0 rfl ?_
  refine v_bipush (v := 48) C dX9_kindOf_15 (by decide) ?_
  refine v_icmp_lt (tgt := 30) C dX9_kindOf_17 (by decide) (fun hc => ?_) (fun hc => ?_)
  · have hw := hw.1 hc
    refine v_iconst (v := 3) C dX9_kindOf_30 (by decide) ?_
    exact hret _ _ _ _ 3 () dX9_kindOf_31 rfl hw (Nat.le_of_ble_eq_true rfl) (Nat.le_of_ble_eq_true rfl)
  · have hw := hw.2 hc
    refine v_iload_n C dX9_kindOf_20 0 rfl ?_
    refine v_bipush (v := 57) C dX9_kindOf_21 (by decide) ?_
    refine v_icmp_gt (tgt := 30) C dX9_kindOf_23 (by decide) (fun hc => ?_) (fun hc => ?_)
    · have hw := hw.1 hc
      refine v_iconst (v := 3) C dX9_kindOf_30 (by decide) ?_
      exact hret _ _ _ _ 3 () dX9_kindOf_31 rfl hw (Nat.le_of_ble_eq_true rfl) (Nat.le_of_ble_eq_true rfl)
    · have hw := hw.2 hc
      refine v_iconst (v := 2) C dX9_kindOf_26 (by decide) ?_
      refine v_goto (tgt := 31) C dX9_kindOf_27 (by decide) ?_
      exact hret _ _ _ _ 2 () dX9_kindOf_31 rfl hw (Nat.le_of_ble_eq_true rfl) (Nat.le_of_ble_eq_true rfl)
set_option maxHeartbeats 4000000 in
set_option maxRecDepth 100000 in
theorem kX9_kindOf {l : Launch} {E : VE} (x0 : Int32) {Q : Int32 → Prop} (hw : qX9_kindOf x0 Q) : MI l yX9_kindOf cX9_kindOf 1 .int 0 0 0 E [.int x0] ([]) (fun (_ : Unit) => ([] : va_W)) (fun (r : Int32) (_ : Unit) => Q r) := by
  refine MI.of (own := RX9) (by decide) rfl (Nat.le_of_ble_eq_true rfl) ?_
  intro X C hini hret
  show VV X 0 0 ([]) [(0, .int x0)] 0 []
  unfold qX9_kindOf at hw
  refine v_iload_n C dX9_kindOf_0 0 rfl ?_
  refine v_bipush (v := 97) C dX9_kindOf_1 (by decide) ?_
  refine v_icmp_lt (tgt := 14) C dX9_kindOf_3 (by decide) (fun hc => ?_) (fun hc => ?_)
  · have hw := hw.1 hc
    exact jX9_kindOf_14 Q C hret x0 hw
  · have hw := hw.2 hc
    refine v_iload_n C dX9_kindOf_6 0 rfl ?_
    refine v_bipush (v := 122) C dX9_kindOf_7 (by decide) ?_
    refine v_icmp_gt (tgt := 14) C dX9_kindOf_9 (by decide) (fun hc => ?_) (fun hc => ?_)
    · have hw := hw.1 hc
      exact jX9_kindOf_14 Q C hret x0 hw
    · have hw := hw.2 hc
      refine v_iconst (v := 1) C dX9_kindOf_12 (by decide) ?_
      exact hret _ _ _ _ 1 () dX9_kindOf_13 rfl hw (Nat.le_of_ble_eq_true rfl) (Nat.le_of_ble_eq_true rfl)
set_option maxHeartbeats 4000000 in
set_option maxRecDepth 100000 in
theorem jX9_advance_191 {X : VX} {E : VE} {l : Launch} (h0 : Nat) (a0 : Nat → Nat)  (Q : Md → Prop) (C : VC X cX9_advance 1 RX9 (rmL 1 0 0) E l) (hret : RetV X cX9_advance 0 0 (fun (U : Md) => [wX9 E h0 a0 U].flatten) (fun (U : Md) => Q U)) (K123 : Md → Prop) (hK123 : ∀ (u0 : Md), K123 u0 → VV X 0 0 ([wX9 E h0 a0 u0].flatten) [(0, .ref h0)] 123 []) : ∀ (u0 : Md), qX9_advance_191 Q K123 u0 → VV X 0 0 ([wX9 E h0 a0 u0].flatten) [(0, .ref h0)] 191 [] := by
  intro u0 hw
  unfold qX9_advance_191 at hw
  refine v_aload_n C dX9_advance_191 0 rfl ?_
  refine v_dup C dX9_advance_192 rfl ?_
  refine v_get (ci := 9) C inT9 0 5 rfl rfl (by decide) mF_X9_29_X9_5 rfl dX9_advance_193 ?_
  refine v_iconst (v := 1) C dX9_advance_196 (by decide) ?_
  refine v_iadd C dX9_advance_197 ?_
  obtain ⟨w198, e198⟩ : ∃ z : Md, z = sF u0 5 ((gF u0 5) + 1) := ⟨_, rfl⟩
  have hw := hw w198 e198
  refine v_put (ci := 9) (ws' := [wX9 E h0 a0 w198].flatten) C tyX9 tyX9_ok nmX9 inT9 0 5 rfl rfl (by decide) mF_X9_29_X9_5 rfl rfl rfl rfl (Nat.le_of_ble_eq_true rfl) (by rw [e198]; rfl) dX9_advance_198 ?_
  refine v_goto (tgt := 123) C dX9_advance_201 (by decide) ?_
  exact hK123 w198 hw
set_option maxHeartbeats 4000000 in
set_option maxRecDepth 100000 in
theorem jX9_advance_123 {X : VX} {E : VE} {l : Launch} (h0 : Nat) (a0 : Nat → Nat)  (Q : Md → Prop) (C : VC X cX9_advance 1 RX9 (rmL 1 0 0) E l) (hret : RetV X cX9_advance 0 0 (fun (U : Md) => [wX9 E h0 a0 U].flatten) (fun (U : Md) => Q U))  : ∀ (n : Nat), ∀ (u0 : Md), qX9_advance_123 Q n u0 → VV X 0 0 ([wX9 E h0 a0 u0].flatten) [(0, .ref h0)] 123 [] := by
  intro n
  induction n with
  | zero =>
    intro u0 hw
    exact hw.elim
  | succ n ih =>
    intro u0 hw
    unfold qX9_advance_123 at hw
    refine v_aload_n C dX9_advance_123 0 rfl ?_
    refine v_get (ci := 9) C inT9 0 5 rfl rfl (by decide) mF_X9_29_X9_5 rfl dX9_advance_124 ?_
    refine v_aload_n C dX9_advance_127 0 rfl ?_
    refine v_get (ci := 9) C inT9 0 1 rfl rfl (by decide) mF_X9_19_X9_1 rfl dX9_advance_128 ?_
    refine v_icmp_ge (tgt := 204) C dX9_advance_131 (by decide) (fun hc => ?_) (fun hc => ?_)
    · have hw := hw.1 hc
      exact hret _ _ _ _ u0 dX9_advance_204 hw (Nat.le_of_ble_eq_true rfl) (Nat.le_of_ble_eq_true rfl)
    · have hw := hw.2 hc
      refine v_aload_n C dX9_advance_134 0 rfl ?_
      refine v_get (ci := 9) C inT9 0 0 rfl rfl (by decide) mF_X9_11_X9_0 rfl dX9_advance_135 ?_
      refine v_aload_n C dX9_advance_138 0 rfl ?_
      refine v_get (ci := 9) C inT9 0 5 rfl rfl (by decide) mF_X9_29_X9_5 rfl dX9_advance_139 ?_
      obtain ⟨hi142, hw⟩ := hw
      refine v_bald C 1 rfl hi142 dX9_advance_142 ?_
      refine v_callSPi (st := []) C (kX9_kindOf _ hw) mM_X9_22 mI_X9 mC_X9_kindOf mT_X9_kindOf hd_X9_kindOf ⟨Nat.le_of_ble_eq_true rfl, Nat.le_of_ble_eq_true rfl⟩ ⟨Nat.le_of_ble_eq_true rfl, Nat.le_of_ble_eq_true rfl⟩ rfl (Nat.le_of_ble_eq_true rfl) dX9_advance_143 (fun r143 U143 hw => ?_)
      refine v_aload_n C dX9_advance_146 0 rfl ?_
      refine v_get (ci := 9) C inT9 0 6 rfl rfl (by decide) mF_X9_35_X9_6 rfl dX9_advance_147 ?_
      refine v_icmp_ne (tgt := 204) C dX9_advance_150 (by decide) (fun hc => ?_) (fun hc => ?_)
      · have hw := hw.1 hc
        exact hret _ _ _ _ u0 dX9_advance_204 hw (Nat.le_of_ble_eq_true rfl) (Nat.le_of_ble_eq_true rfl)
      · have hw := hw.2 hc
        refine v_aload_n C dX9_advance_153 0 rfl ?_
        refine v_get (ci := 9) C inT9 0 6 rfl rfl (by decide) mF_X9_35_X9_6 rfl dX9_advance_154 ?_
        refine v_iconst (v := 2) C dX9_advance_157 (by decide) ?_
        refine v_icmp_ne (tgt := 191) C dX9_advance_158 (by decide) (fun hc => ?_) (fun hc => ?_)
        · have hw := hw.1 hc
          exact jX9_advance_191 h0 a0 Q C hret (qX9_advance_123 Q n) ih u0 hw
        · have hw := hw.2 hc
          refine v_aload_n C dX9_advance_161 0 rfl ?_
          refine v_sipush (v := 10000) C dX9_advance_162 (by decide) ?_
          refine v_aload_n C dX9_advance_165 0 rfl ?_
          refine v_get (ci := 9) C inT9 0 7 rfl rfl (by decide) mF_X9_41_X9_7 rfl dX9_advance_166 ?_
          refine v_bipush (v := 10) C dX9_advance_169 (by decide) ?_
          refine v_imul C dX9_advance_171 ?_
          refine v_aload_n C dX9_advance_172 0 rfl ?_
          refine v_get (ci := 9) C inT9 0 0 rfl rfl (by decide) mF_X9_11_X9_0 rfl dX9_advance_173 ?_
          refine v_aload_n C dX9_advance_176 0 rfl ?_
          refine v_get (ci := 9) C inT9 0 5 rfl rfl (by decide) mF_X9_29_X9_5 rfl dX9_advance_177 ?_
          obtain ⟨hi180, hw⟩ := hw
          refine v_bald C 1 rfl hi180 dX9_advance_180 ?_
          refine v_iadd C dX9_advance_181 ?_
          refine v_bipush (v := 48) C dX9_advance_182 (by decide) ?_
          refine v_isub C dX9_advance_184 ?_
          refine v_imin C mM_X9_44 ⟨Nat.le_of_ble_eq_true rfl, Nat.le_of_ble_eq_true rfl, Nat.le_of_ble_eq_true rfl, Nat.le_of_ble_eq_true rfl⟩ dX9_advance_185 ?_
          obtain ⟨w188, e188⟩ : ∃ z : Md, z = sF u0 7 (imin 10000 ((((gF u0 7) * 10) + ((gB u0 0 (gF u0 5).toNatClampNeg).toInt32)) - 48)) := ⟨_, rfl⟩
          have hw := hw w188 e188
          refine v_put (ci := 9) (ws' := [wX9 E h0 a0 w188].flatten) C tyX9 tyX9_ok nmX9 inT9 0 7 rfl rfl (by decide) mF_X9_41_X9_7 rfl rfl rfl rfl (Nat.le_of_ble_eq_true rfl) (by rw [e188]; rfl) dX9_advance_188 ?_
          exact jX9_advance_191 h0 a0 Q C hret (qX9_advance_123 Q n) ih w188 hw
set_option maxHeartbeats 4000000 in
set_option maxRecDepth 100000 in
theorem jX9_advance_101 {X : VX} {E : VE} {l : Launch} (h0 : Nat) (a0 : Nat → Nat)  (Q : Md → Prop) (C : VC X cX9_advance 1 RX9 (rmL 1 0 0) E l) (hret : RetV X cX9_advance 0 0 (fun (U : Md) => [wX9 E h0 a0 U].flatten) (fun (U : Md) => Q U))  : ∀ (u0 : Md) (z0 : Int32), qX9_advance_101 Q u0 z0 → VV X 0 0 ([wX9 E h0 a0 u0].flatten) [(0, .ref h0)] 101 [.int z0, .ref h0] := by
  intro u0 z0 hw
  unfold qX9_advance_101 at hw
  obtain ⟨w101, e101⟩ : ∃ z : Md, z = sF u0 6 z0 := ⟨_, rfl⟩
  have hw := hw w101 e101
  refine v_put (ci := 9) (ws' := [wX9 E h0 a0 w101].flatten) C tyX9 tyX9_ok nmX9 inT9 0 6 rfl rfl (by decide) mF_X9_35_X9_6 rfl rfl rfl rfl (Nat.le_of_ble_eq_true rfl) (by rw [e101]; rfl) dX9_advance_101 ?_
  refine v_aload_n C dX9_advance_104 0 rfl ?_
  refine v_get (ci := 9) C inT9 0 6 rfl rfl (by decide) mF_X9_35_X9_6 rfl dX9_advance_105 ?_
  refine v_iconst (v := 3) C dX9_advance_108 (by decide) ?_
  refine v_icmp_ne (tgt := 123) C dX9_advance_109 (by decide) (fun hc => ?_) (fun hc => ?_)
  · have hw := hw.1 hc
    obtain ⟨n', hw⟩ := hw
    exact jX9_advance_123 h0 a0 Q C hret n' w101 hw
  · have hw := hw.2 hc
    refine v_aload_n C dX9_advance_112 0 rfl ?_
    refine v_dup C dX9_advance_113 rfl ?_
    refine v_get (ci := 9) C inT9 0 5 rfl rfl (by decide) mF_X9_29_X9_5 rfl dX9_advance_114 ?_
    refine v_iconst (v := 1) C dX9_advance_117 (by decide) ?_
    refine v_iadd C dX9_advance_118 ?_
    obtain ⟨w119, e119⟩ : ∃ z : Md, z = sF w101 5 ((gF w101 5) + 1) := ⟨_, rfl⟩
    have hw := hw w119 e119
    refine v_put (ci := 9) (ws' := [wX9 E h0 a0 w119].flatten) C tyX9 tyX9_ok nmX9 inT9 0 5 rfl rfl (by decide) mF_X9_29_X9_5 rfl rfl rfl rfl (Nat.le_of_ble_eq_true rfl) (by rw [e119]; rfl) dX9_advance_119 ?_
    exact hret _ _ _ _ w119 dX9_advance_122 hw (Nat.le_of_ble_eq_true rfl) (Nat.le_of_ble_eq_true rfl)
set_option maxHeartbeats 4000000 in
set_option maxRecDepth 100000 in
theorem jX9_advance_60 {X : VX} {E : VE} {l : Launch} (h0 : Nat) (a0 : Nat → Nat)  (Q : Md → Prop) (C : VC X cX9_advance 1 RX9 (rmL 1 0 0) E l) (hret : RetV X cX9_advance 0 0 (fun (U : Md) => [wX9 E h0 a0 U].flatten) (fun (U : Md) => Q U))  : ∀ (u0 : Md), qX9_advance_60 Q u0 → VV X 0 0 ([wX9 E h0 a0 u0].flatten) [(0, .ref h0)] 60 [] := by
  intro u0 hw
  unfold qX9_advance_60 at hw
  refine v_aload_n C dX9_advance_60 0 rfl ?_
  refine v_aload_n C dX9_advance_61 0 rfl ?_
  refine v_get (ci := 9) C inT9 0 4 rfl rfl (by decide) mF_X9_38_X9_4 rfl dX9_advance_62 ?_
  obtain ⟨w65, e65⟩ : ∃ z : Md, z = sF u0 5 (gF u0 4) := ⟨_, rfl⟩
  have hw := hw w65 e65
  refine v_put (ci := 9) (ws' := [wX9 E h0 a0 w65].flatten) C tyX9 tyX9_ok nmX9 inT9 0 5 rfl rfl (by decide) mF_X9_29_X9_5 rfl rfl rfl rfl (Nat.le_of_ble_eq_true rfl) (by rw [e65]; rfl) dX9_advance_65 ?_
  refine v_aload_n C dX9_advance_68 0 rfl ?_
  refine v_iconst (v := 0) C dX9_advance_69 (by decide) ?_
  obtain ⟨w70, e70⟩ : ∃ z : Md, z = sF w65 7 0 := ⟨_, rfl⟩
  have hw := hw w70 e70
  refine v_put (ci := 9) (ws' := [wX9 E h0 a0 w70].flatten) C tyX9 tyX9_ok nmX9 inT9 0 7 rfl rfl (by decide) mF_X9_41_X9_7 rfl rfl rfl rfl (Nat.le_of_ble_eq_true rfl) (by rw [e70]; rfl) dX9_advance_70 ?_
  refine v_aload_n C dX9_advance_73 0 rfl ?_
  refine v_aload_n C dX9_advance_74 0 rfl ?_
  refine v_get (ci := 9) C inT9 0 4 rfl rfl (by decide) mF_X9_38_X9_4 rfl dX9_advance_75 ?_
  refine v_aload_n C dX9_advance_78 0 rfl ?_
  refine v_get (ci := 9) C inT9 0 1 rfl rfl (by decide) mF_X9_19_X9_1 rfl dX9_advance_79 ?_
  refine v_icmp_ge (tgt := 100) C dX9_advance_82 (by decide) (fun hc => ?_) (fun hc => ?_)
  · have hw := hw.1 hc
    refine v_iconst (v := 0) C dX9_advance_100 (by decide) ?_
    exact jX9_advance_101 h0 a0 Q C hret w70 0 hw
  · have hw := hw.2 hc
    refine v_aload_n C dX9_advance_85 0 rfl ?_
    refine v_get (ci := 9) C inT9 0 0 rfl rfl (by decide) mF_X9_11_X9_0 rfl dX9_advance_86 ?_
    refine v_aload_n C dX9_advance_89 0 rfl ?_
    refine v_get (ci := 9) C inT9 0 4 rfl rfl (by decide) mF_X9_38_X9_4 rfl dX9_advance_90 ?_
    obtain ⟨hi93, hw⟩ := hw
    refine v_bald C 1 rfl hi93 dX9_advance_93 ?_
    refine v_callSPi (st := [.ref h0]) C (kX9_kindOf _ hw) mM_X9_22 mI_X9 mC_X9_kindOf mT_X9_kindOf hd_X9_kindOf ⟨Nat.le_of_ble_eq_true rfl, Nat.le_of_ble_eq_true rfl⟩ ⟨Nat.le_of_ble_eq_true rfl, Nat.le_of_ble_eq_true rfl⟩ rfl (Nat.le_of_ble_eq_true rfl) dX9_advance_94 (fun r94 U94 hw => ?_)
    refine v_goto (tgt := 101) C dX9_advance_97 (by decide) ?_
    exact jX9_advance_101 h0 a0 Q C hret w70 r94 hw
set_option maxHeartbeats 4000000 in
set_option maxRecDepth 100000 in
theorem jX9_advance_47 {X : VX} {E : VE} {l : Launch} (h0 : Nat) (a0 : Nat → Nat)  (Q : Md → Prop) (C : VC X cX9_advance 1 RX9 (rmL 1 0 0) E l) (hret : RetV X cX9_advance 0 0 (fun (U : Md) => [wX9 E h0 a0 U].flatten) (fun (U : Md) => Q U)) (K8 : Md → Prop) (hK8 : ∀ (u0 : Md), K8 u0 → VV X 0 0 ([wX9 E h0 a0 u0].flatten) [(0, .ref h0)] 8 []) : ∀ (u0 : Md), qX9_advance_47 Q K8 u0 → VV X 0 0 ([wX9 E h0 a0 u0].flatten) [(0, .ref h0)] 47 [] := by
  intro u0 hw
  unfold qX9_advance_47 at hw
  refine v_aload_n C dX9_advance_47 0 rfl ?_
  refine v_dup C dX9_advance_48 rfl ?_
  refine v_get (ci := 9) C inT9 0 4 rfl rfl (by decide) mF_X9_38_X9_4 rfl dX9_advance_49 ?_
  refine v_iconst (v := 1) C dX9_advance_52 (by decide) ?_
  refine v_iadd C dX9_advance_53 ?_
  obtain ⟨w54, e54⟩ : ∃ z : Md, z = sF u0 4 ((gF u0 4) + 1) := ⟨_, rfl⟩
  have hw := hw w54 e54
  refine v_put (ci := 9) (ws' := [wX9 E h0 a0 w54].flatten) C tyX9 tyX9_ok nmX9 inT9 0 4 rfl rfl (by decide) mF_X9_38_X9_4 rfl rfl rfl rfl (Nat.le_of_ble_eq_true rfl) (by rw [e54]; rfl) dX9_advance_54 ?_
  refine v_goto (tgt := 8) C dX9_advance_57 (by decide) ?_
  exact hK8 w54 hw
set_option maxHeartbeats 4000000 in
set_option maxRecDepth 100000 in
theorem jX9_advance_8 {X : VX} {E : VE} {l : Launch} (h0 : Nat) (a0 : Nat → Nat)  (Q : Md → Prop) (C : VC X cX9_advance 1 RX9 (rmL 1 0 0) E l) (hret : RetV X cX9_advance 0 0 (fun (U : Md) => [wX9 E h0 a0 U].flatten) (fun (U : Md) => Q U))  : ∀ (n : Nat), ∀ (u0 : Md), qX9_advance_8 Q n u0 → VV X 0 0 ([wX9 E h0 a0 u0].flatten) [(0, .ref h0)] 8 [] := by
  intro n
  induction n with
  | zero =>
    intro u0 hw
    exact hw.elim
  | succ n ih =>
    intro u0 hw
    unfold qX9_advance_8 at hw
    refine v_aload_n C dX9_advance_8 0 rfl ?_
    refine v_get (ci := 9) C inT9 0 4 rfl rfl (by decide) mF_X9_38_X9_4 rfl dX9_advance_9 ?_
    refine v_aload_n C dX9_advance_12 0 rfl ?_
    refine v_get (ci := 9) C inT9 0 1 rfl rfl (by decide) mF_X9_19_X9_1 rfl dX9_advance_13 ?_
    refine v_icmp_ge (tgt := 60) C dX9_advance_16 (by decide) (fun hc => ?_) (fun hc => ?_)
    · have hw := hw.1 hc
      exact jX9_advance_60 h0 a0 Q C hret u0 hw
    · have hw := hw.2 hc
      refine v_aload_n C dX9_advance_19 0 rfl ?_
      refine v_get (ci := 9) C inT9 0 0 rfl rfl (by decide) mF_X9_11_X9_0 rfl dX9_advance_20 ?_
      refine v_aload_n C dX9_advance_23 0 rfl ?_
      refine v_get (ci := 9) C inT9 0 4 rfl rfl (by decide) mF_X9_38_X9_4 rfl dX9_advance_24 ?_
      obtain ⟨hi27, hw⟩ := hw
      refine v_bald C 1 rfl hi27 dX9_advance_27 ?_
      refine v_bipush (v := 32) C dX9_advance_28 (by decide) ?_
      refine v_icmp_eq (tgt := 47) C dX9_advance_30 (by decide) (fun hc => ?_) (fun hc => ?_)
      · have hw := hw.1 hc
        exact jX9_advance_47 h0 a0 Q C hret (qX9_advance_8 Q n) ih u0 hw
      · have hw := hw.2 hc
        refine v_aload_n C dX9_advance_33 0 rfl ?_
        refine v_get (ci := 9) C inT9 0 0 rfl rfl (by decide) mF_X9_11_X9_0 rfl dX9_advance_34 ?_
        refine v_aload_n C dX9_advance_37 0 rfl ?_
        refine v_get (ci := 9) C inT9 0 4 rfl rfl (by decide) mF_X9_38_X9_4 rfl dX9_advance_38 ?_
        obtain ⟨hi41, hw⟩ := hw
        refine v_bald C 1 rfl hi41 dX9_advance_41 ?_
        refine v_bipush (v := 10) C dX9_advance_42 (by decide) ?_
        refine v_icmp_ne (tgt := 60) C dX9_advance_44 (by decide) (fun hc => ?_) (fun hc => ?_)
        · have hw := hw.1 hc
          exact jX9_advance_60 h0 a0 Q C hret u0 hw
        · have hw := hw.2 hc
          exact jX9_advance_47 h0 a0 Q C hret (qX9_advance_8 Q n) ih u0 hw
set_option maxHeartbeats 4000000 in
set_option maxRecDepth 100000 in
theorem kX9_advance {l : Launch} {E : VE} (h0 : Nat) (a0 : Nat → Nat) (u0 : Md) {Q : Md → Prop} (hw : qX9_advance u0 Q) : MV l yX9_advance cX9_advance 1 1 0 0 E [.ref h0] ([wX9 E h0 a0 u0].flatten) (fun (U : Md) => [wX9 E h0 a0 U].flatten) (fun (U : Md) => Q U) := by
  refine MV.of (own := RX9) (by decide) rfl (Nat.le_of_ble_eq_true rfl) ?_
  intro X C hini hret
  show VV X 0 0 ([wX9 E h0 a0 u0].flatten) [(0, .ref h0)] 0 []
  unfold qX9_advance at hw
  refine v_aload_n C dX9_advance_0 0 rfl ?_
  refine v_aload_n C dX9_advance_1 0 rfl ?_
  refine v_get (ci := 9) C inT9 0 5 rfl rfl (by decide) mF_X9_29_X9_5 rfl dX9_advance_2 ?_
  obtain ⟨w5, e5⟩ : ∃ z : Md, z = sF u0 4 (gF u0 5) := ⟨_, rfl⟩
  have hw := hw w5 e5
  refine v_put (ci := 9) (ws' := [wX9 E h0 a0 w5].flatten) C tyX9 tyX9_ok nmX9 inT9 0 4 rfl rfl (by decide) mF_X9_38_X9_4 rfl rfl rfl rfl (Nat.le_of_ble_eq_true rfl) (by rw [e5]; rfl) dX9_advance_5 ?_
  obtain ⟨n', hw⟩ := hw
  exact jX9_advance_8 h0 a0 Q C hret n' w5 hw
set_option maxHeartbeats 4000000 in
set_option maxRecDepth 100000 in
theorem kX9_begin {l : Launch} {E : VE} (h0 : Nat) (a0 : Nat → Nat) (u0 : Md) {Q : Md → Prop} (hw : qX9_begin u0 Q) : MV l yX9_begin cX9_begin 1 2 0 0 E [.ref h0] ([wX9 E h0 a0 u0].flatten) (fun (U : Md) => [wX9 E h0 a0 U].flatten) (fun (U : Md) => Q U) := by
  refine MV.of (own := RX9) (by decide) rfl (Nat.le_of_ble_eq_true rfl) ?_
  intro X C hini hret
  show VV X 0 0 ([wX9 E h0 a0 u0].flatten) [(0, .ref h0)] 0 []
  unfold qX9_begin at hw
  refine v_aload_n C dX9_begin_0 0 rfl ?_
  refine v_iconst (v := 0) C dX9_begin_1 (by decide) ?_
  obtain ⟨w2, e2⟩ : ∃ z : Md, z = sF u0 2 0 := ⟨_, rfl⟩
  have hw := hw w2 e2
  refine v_put (ci := 9) (ws' := [wX9 E h0 a0 w2].flatten) C tyX9 tyX9_ok nmX9 inT9 0 2 rfl rfl (by decide) mF_X9_26_X9_2 rfl rfl rfl rfl (Nat.le_of_ble_eq_true rfl) (by rw [e2]; rfl) dX9_begin_2 ?_
  refine v_aload_n C dX9_begin_5 0 rfl ?_
  refine v_iconst (v := (-1)) C dX9_begin_6 (by decide) ?_
  obtain ⟨w7, e7⟩ : ∃ z : Md, z = sF w2 3 ((-1)) := ⟨_, rfl⟩
  have hw := hw w7 e7
  refine v_put (ci := 9) (ws' := [wX9 E h0 a0 w7].flatten) C tyX9 tyX9_ok nmX9 inT9 0 3 rfl rfl (by decide) mF_X9_15_X9_3 rfl rfl rfl rfl (Nat.le_of_ble_eq_true rfl) (by rw [e7]; rfl) dX9_begin_7 ?_
  refine v_aload_n C dX9_begin_10 0 rfl ?_
  refine v_iconst (v := 0) C dX9_begin_11 (by decide) ?_
  obtain ⟨w12, e12⟩ : ∃ z : Md, z = sF w7 5 0 := ⟨_, rfl⟩
  have hw := hw w12 e12
  refine v_put (ci := 9) (ws' := [wX9 E h0 a0 w12].flatten) C tyX9 tyX9_ok nmX9 inT9 0 5 rfl rfl (by decide) mF_X9_29_X9_5 rfl rfl rfl rfl (Nat.le_of_ble_eq_true rfl) (by rw [e12]; rfl) dX9_begin_12 ?_
  refine v_aload_n C dX9_begin_15 0 rfl ?_
  refine v_callFv (st := []) (ci := 9) (qb := 0) C (kX9_advance h0 a0 _ hw) mM_X9_32 mI_X9 mC_X9_advance mN_X9_advance mS_X9_advance rfl rfl hd_X9_advance ⟨Nat.le_of_ble_eq_true rfl, Nat.le_of_ble_eq_true rfl⟩ ⟨Nat.le_of_ble_eq_true rfl, Nat.le_of_ble_eq_true rfl⟩ rfl (Nat.le_of_ble_eq_true rfl) dX9_begin_16 (fun v16_0 hw => ?_)
  exact hret _ _ _ _ v16_0 dX9_begin_19 hw (Nat.le_of_ble_eq_true rfl) (Nat.le_of_ble_eq_true rfl)
set_option maxHeartbeats 4000000 in
set_option maxRecDepth 100000 in
theorem kX9_goesOn {l : Launch} {E : VE} (h0 : Nat) (a0 : Nat → Nat) (u0 : Md) {Q : Int32 → Md → Prop} (hw : qX9_goesOn u0 Q) : MI l yX9_goesOn cX9_goesOn 1 .boolean 0 0 0 E [.ref h0] ([wX9 E h0 a0 u0].flatten) (fun (U : Md) => [wX9 E h0 a0 U].flatten) (fun (r : Int32) (U : Md) => (r = 0 ∨ r = 1) ∧ Q r U) := by
  refine MI.of (own := RX9) (by decide) rfl (Nat.le_of_ble_eq_true rfl) ?_
  intro X C hini hret
  show VV X 0 0 ([wX9 E h0 a0 u0].flatten) [(0, .ref h0)] 0 []
  unfold qX9_goesOn at hw
  refine v_aload_n C dX9_goesOn_0 0 rfl ?_
  refine v_get (ci := 9) C inT9 0 6 rfl rfl (by decide) mF_X9_35_X9_6 rfl dX9_goesOn_1 ?_
  refine v_if_eq (tgt := 18) C dX9_goesOn_4 (by decide) (fun hc => ?_) (fun hc => ?_)
  · have hw := hw.1 hc
    refine v_iconst (v := 0) C dX9_goesOn_18 (by decide) ?_
    exact hret _ _ _ _ 0 u0 dX9_goesOn_19 rfl ⟨Or.inl rfl, hw⟩ (Nat.le_of_ble_eq_true rfl) (Nat.le_of_ble_eq_true rfl)
  · have hw := hw.2 hc
    refine v_aload_n C dX9_goesOn_7 0 rfl ?_
    refine v_get (ci := 9) C inT9 0 2 rfl rfl (by decide) mF_X9_26_X9_2 rfl dX9_goesOn_8 ?_
    refine v_if_ne (tgt := 18) C dX9_goesOn_11 (by decide) (fun hc => ?_) (fun hc => ?_)
    · have hw := hw.1 hc
      refine v_iconst (v := 0) C dX9_goesOn_18 (by decide) ?_
      exact hret _ _ _ _ 0 u0 dX9_goesOn_19 rfl ⟨Or.inl rfl, hw⟩ (Nat.le_of_ble_eq_true rfl) (Nat.le_of_ble_eq_true rfl)
    · have hw := hw.2 hc
      refine v_iconst (v := 1) C dX9_goesOn_14 (by decide) ?_
      refine v_goto (tgt := 19) C dX9_goesOn_15 (by decide) ?_
      exact hret _ _ _ _ 1 u0 dX9_goesOn_19 rfl ⟨Or.inr rfl, hw⟩ (Nat.le_of_ble_eq_true rfl) (Nat.le_of_ble_eq_true rfl)
set_option maxHeartbeats 4000000 in
set_option maxRecDepth 100000 in
theorem jX9_isWord_31 {X : VX} {E : VE} {l : Launch} (h0 : Nat) (a0 : Nat → Nat) (k1 : Nat) (hk1 : k1 < 16) (Q : Int32 → Md → Prop) (C : VC X cX9_isWord 3 RX9 (rmL 4 0 0) E l) (hret : RetI X cX9_isWord .boolean 0 0 (fun (U : Md) => [wX9 E h0 a0 U].flatten) (fun (r : Int32) (U : Md) => (r = 0 ∨ r = 1) ∧ Q r U))  : ∀ (n : Nat), ∀ (u0 : Md) (y2 : Int32), qX9_isWord_31 k1 Q n u0 y2 → VV X 0 0 ([wX9 E h0 a0 u0].flatten) [(0, .ref h0), (1, .ref ((E.2.2.1 k1))), (2, .int y2)] 31 [] := by
  intro n
  induction n with
  | zero =>
    intro u0 y2 hw
    exact hw.elim
  | succ n ih =>
    intro u0 y2 hw
    unfold qX9_isWord_31 at hw
    refine v_iload_n C dX9_isWord_31 2 rfl ?_
    refine v_aload_n C dX9_isWord_32 0 rfl ?_
    refine v_get (ci := 9) C inT9 0 5 rfl rfl (by decide) mF_X9_29_X9_5 rfl dX9_isWord_33 ?_
    refine v_icmp_ge (tgt := 66) C dX9_isWord_36 (by decide) (fun hc => ?_) (fun hc => ?_)
    · have hw := hw.1 hc
      refine v_iconst (v := 1) C dX9_isWord_66 (by decide) ?_
      exact hret _ _ _ _ 1 u0 dX9_isWord_67 rfl ⟨Or.inr rfl, hw⟩ (Nat.le_of_ble_eq_true rfl) (Nat.le_of_ble_eq_true rfl)
    · have hw := hw.2 hc
      refine v_aload_n C dX9_isWord_39 0 rfl ?_
      refine v_get (ci := 9) C inT9 0 0 rfl rfl (by decide) mF_X9_11_X9_0 rfl dX9_isWord_40 ?_
      refine v_iload_n C dX9_isWord_43 2 rfl ?_
      obtain ⟨hi44, hw⟩ := hw
      refine v_bald C 1 rfl hi44 dX9_isWord_44 ?_
      refine v_aload_n C dX9_isWord_45 1 rfl ?_
      refine v_iload_n C dX9_isWord_46 2 rfl ?_
      refine v_aload_n C dX9_isWord_47 0 rfl ?_
      refine v_get (ci := 9) C inT9 0 4 rfl rfl (by decide) mF_X9_38_X9_4 rfl dX9_isWord_48 ?_
      refine v_isub C dX9_isWord_51 ?_
      obtain ⟨hi52, hw⟩ := hw
      refine v_schar C k1 hk1 mM_X9_56 hi52 ⟨Nat.le_of_ble_eq_true rfl, Nat.le_of_ble_eq_true rfl⟩ ⟨Nat.le_of_ble_eq_true rfl, Nat.le_of_ble_eq_true rfl⟩ (Nat.le_of_ble_eq_true rfl) dX9_isWord_52 ?_
      refine v_icmp_eq (tgt := 60) C dX9_isWord_55 (by decide) (fun hc => ?_) (fun hc => ?_)
      · have hw := hw.1 hc
        refine v_iinc (lv' := [(2, .int (y2 + Int32.ofInt 1)), (0, .ref h0), (1, .ref ((E.2.2.1 k1)))]) C dX9_isWord_60 2 rfl (by decide) rfl ?_
        refine v_goto (tgt := 31) C dX9_isWord_63 (by decide) ?_
        refine v_lv C (lv' := [(0, .ref h0), (1, .ref ((E.2.2.1 k1))), (2, .int (y2 + Int32.ofInt 1))]) [1, 2, 0] rfl ?_
        exact ih u0 (y2 + Int32.ofInt 1) hw
      · have hw := hw.2 hc
        refine v_iconst (v := 0) C dX9_isWord_58 (by decide) ?_
        exact hret _ _ _ _ 0 u0 dX9_isWord_59 rfl ⟨Or.inl rfl, hw⟩ (Nat.le_of_ble_eq_true rfl) (Nat.le_of_ble_eq_true rfl)
set_option maxHeartbeats 4000000 in
set_option maxRecDepth 100000 in
theorem kX9_isWord {l : Launch} {E : VE} (h0 : Nat) (a0 : Nat → Nat) (u0 : Md) (k1 : Nat) (hk1 : k1 < 16) {Q : Int32 → Md → Prop} (hw : qX9_isWord u0 k1 Q) : MI l yX9_isWord cX9_isWord 3 .boolean 4 0 0 E [.ref h0, .ref ((E.2.2.1 k1))] ([wX9 E h0 a0 u0].flatten) (fun (U : Md) => [wX9 E h0 a0 U].flatten) (fun (r : Int32) (U : Md) => (r = 0 ∨ r = 1) ∧ Q r U) := by
  refine MI.of (own := RX9) (by decide) rfl (Nat.le_of_ble_eq_true rfl) ?_
  intro X C hini hret
  show VV X 0 0 ([wX9 E h0 a0 u0].flatten) [(0, .ref h0), (1, .ref ((E.2.2.1 k1)))] 0 []
  unfold qX9_isWord at hw
  refine v_aload_n C dX9_isWord_0 0 rfl ?_
  refine v_get (ci := 9) C inT9 0 6 rfl rfl (by decide) mF_X9_35_X9_6 rfl dX9_isWord_1 ?_
  refine v_iconst (v := 1) C dX9_isWord_4 (by decide) ?_
  refine v_icmp_ne (tgt := 24) C dX9_isWord_5 (by decide) (fun hc => ?_) (fun hc => ?_)
  · have hw := hw.1 hc
    refine v_iconst (v := 0) C dX9_isWord_24 (by decide) ?_
    exact hret _ _ _ _ 0 u0 dX9_isWord_25 rfl ⟨Or.inl rfl, hw⟩ (Nat.le_of_ble_eq_true rfl) (Nat.le_of_ble_eq_true rfl)
  · have hw := hw.2 hc
    refine v_aload_n C dX9_isWord_8 0 rfl ?_
    refine v_get (ci := 9) C inT9 0 5 rfl rfl (by decide) mF_X9_29_X9_5 rfl dX9_isWord_9 ?_
    refine v_aload_n C dX9_isWord_12 0 rfl ?_
    refine v_get (ci := 9) C inT9 0 4 rfl rfl (by decide) mF_X9_38_X9_4 rfl dX9_isWord_13 ?_
    refine v_isub C dX9_isWord_16 ?_
    refine v_aload_n C dX9_isWord_17 1 rfl ?_
    refine v_slen C k1 hk1 mM_X9_50 ⟨Nat.le_of_ble_eq_true rfl, Nat.le_of_ble_eq_true rfl⟩ ⟨Nat.le_of_ble_eq_true rfl, Nat.le_of_ble_eq_true rfl⟩ (Nat.le_of_ble_eq_true rfl) dX9_isWord_18 ?_
    refine v_icmp_eq (tgt := 26) C dX9_isWord_21 (by decide) (fun hc => ?_) (fun hc => ?_)
    · have hw := hw.1 hc
      refine v_aload_n C dX9_isWord_26 0 rfl ?_
      refine v_get (ci := 9) C inT9 0 4 rfl rfl (by decide) mF_X9_38_X9_4 rfl dX9_isWord_27 ?_
      refine v_istore_n (lv' := [(2, .int (gF u0 4)), (0, .ref h0), (1, .ref ((E.2.2.1 k1)))]) C dX9_isWord_30 (by decide) rfl ?_
      refine v_lv C (lv' := [(0, .ref h0), (1, .ref ((E.2.2.1 k1))), (2, .int (gF u0 4))]) [1, 2, 0] rfl ?_
      obtain ⟨n', hw⟩ := hw
      exact jX9_isWord_31 h0 a0 k1 hk1 Q C hret n' u0 (gF u0 4) hw
    · have hw := hw.2 hc
      refine v_iconst (v := 0) C dX9_isWord_24 (by decide) ?_
      exact hret _ _ _ _ 0 u0 dX9_isWord_25 rfl ⟨Or.inl rfl, hw⟩ (Nat.le_of_ble_eq_true rfl) (Nat.le_of_ble_eq_true rfl)
set_option maxHeartbeats 4000000 in
set_option maxRecDepth 100000 in
theorem kX0_kindOfLine {l : Launch} {E : VE} (h0 : Nat) (a0 : Nat → Nat) (u0 : Md) {Q : Int32 → Md → Prop} (hw : qX0_kindOfLine u0 Q) : MI l yX0_kindOfLine cX0_kindOfLine 1 .int 5 0 0 E [.ref h0] ([wX9 E h0 a0 u0].flatten) (fun (U : Md) => [wX9 E h0 a0 U].flatten) (fun (r : Int32) (U : Md) => Q r U) := by
  refine MI.of (own := RX0) (by decide) rfl (Nat.le_of_ble_eq_true rfl) ?_
  intro X C hini hret
  show VV X 0 0 ([wX9 E h0 a0 u0].flatten) [(0, .ref h0)] 0 []
  unfold qX0_kindOfLine at hw
  refine v_aload_n C dX0_kindOfLine_0 0 rfl ?_
  refine v_ldcS C (tx := "first") 2 (by decide) dX0_kindOfLine_1 ?_
  refine v_callFi (st := []) (ci := 9) (qb := 0) C (kX9_isWord h0 a0 _ _ (by decide) hw) mM_X0_76 mI_X9 mC_X9_isWord mN_X9_isWord mS_X9_isWord rfl rfl hd_X9_isWord ⟨Nat.le_of_ble_eq_true rfl, Nat.le_of_ble_eq_true rfl⟩ ⟨Nat.le_of_ble_eq_true rfl, Nat.le_of_ble_eq_true rfl⟩ rfl (Nat.le_of_ble_eq_true rfl) dX0_kindOfLine_3 (fun r3 v3_0 hw => ?_)
  obtain ⟨h01_3, hw⟩ := hw
  have hw := hw h01_3
  refine v_if_eq (tgt := 11) C dX0_kindOfLine_6 (by decide) (fun hc => ?_) (fun hc => ?_)
  · have hw := hw.1 hc
    refine v_aload_n C dX0_kindOfLine_11 0 rfl ?_
    refine v_ldcS C (tx := "both") 3 (by decide) dX0_kindOfLine_12 ?_
    refine v_callFi (st := []) (ci := 9) (qb := 0) C (kX9_isWord h0 a0 _ _ (by decide) hw) mM_X0_76 mI_X9 mC_X9_isWord mN_X9_isWord mS_X9_isWord rfl rfl hd_X9_isWord ⟨Nat.le_of_ble_eq_true rfl, Nat.le_of_ble_eq_true rfl⟩ ⟨Nat.le_of_ble_eq_true rfl, Nat.le_of_ble_eq_true rfl⟩ rfl (Nat.le_of_ble_eq_true rfl) dX0_kindOfLine_14 (fun r14 v14_0 hw => ?_)
    obtain ⟨h01_14, hw⟩ := hw
    have hw := hw h01_14
    refine v_if_eq (tgt := 22) C dX0_kindOfLine_17 (by decide) (fun hc => ?_) (fun hc => ?_)
    · have hw := hw.1 hc
      refine v_aload_n C dX0_kindOfLine_22 0 rfl ?_
      refine v_ldcS C (tx := "far") 4 (by decide) dX0_kindOfLine_23 ?_
      refine v_callFi (st := []) (ci := 9) (qb := 0) C (kX9_isWord h0 a0 _ _ (by decide) hw) mM_X0_76 mI_X9 mC_X9_isWord mN_X9_isWord mS_X9_isWord rfl rfl hd_X9_isWord ⟨Nat.le_of_ble_eq_true rfl, Nat.le_of_ble_eq_true rfl⟩ ⟨Nat.le_of_ble_eq_true rfl, Nat.le_of_ble_eq_true rfl⟩ rfl (Nat.le_of_ble_eq_true rfl) dX0_kindOfLine_25 (fun r25 v25_0 hw => ?_)
      obtain ⟨h01_25, hw⟩ := hw
      have hw := hw h01_25
      refine v_if_eq (tgt := 33) C dX0_kindOfLine_28 (by decide) (fun hc => ?_) (fun hc => ?_)
      · have hw := hw.1 hc
        refine v_aload_n C dX0_kindOfLine_33 0 rfl ?_
        refine v_ldcS C (tx := "dead") 5 (by decide) dX0_kindOfLine_34 ?_
        refine v_callFi (st := []) (ci := 9) (qb := 0) C (kX9_isWord h0 a0 _ _ (by decide) hw) mM_X0_76 mI_X9 mC_X9_isWord mN_X9_isWord mS_X9_isWord rfl rfl hd_X9_isWord ⟨Nat.le_of_ble_eq_true rfl, Nat.le_of_ble_eq_true rfl⟩ ⟨Nat.le_of_ble_eq_true rfl, Nat.le_of_ble_eq_true rfl⟩ rfl (Nat.le_of_ble_eq_true rfl) dX0_kindOfLine_36 (fun r36 v36_0 hw => ?_)
        obtain ⟨h01_36, hw⟩ := hw
        have hw := hw h01_36
        refine v_if_eq (tgt := 44) C dX0_kindOfLine_39 (by decide) (fun hc => ?_) (fun hc => ?_)
        · have hw := hw.1 hc
          refine v_aload_n C dX0_kindOfLine_44 0 rfl ?_
          refine v_ldcS C (tx := "sign") 6 (by decide) dX0_kindOfLine_45 ?_
          refine v_callFi (st := []) (ci := 9) (qb := 0) C (kX9_isWord h0 a0 _ _ (by decide) hw) mM_X0_76 mI_X9 mC_X9_isWord mN_X9_isWord mS_X9_isWord rfl rfl hd_X9_isWord ⟨Nat.le_of_ble_eq_true rfl, Nat.le_of_ble_eq_true rfl⟩ ⟨Nat.le_of_ble_eq_true rfl, Nat.le_of_ble_eq_true rfl⟩ rfl (Nat.le_of_ble_eq_true rfl) dX0_kindOfLine_47 (fun r47 v47_0 hw => ?_)
          obtain ⟨h01_47, hw⟩ := hw
          have hw := hw h01_47
          refine v_if_eq (tgt := 55) C dX0_kindOfLine_50 (by decide) (fun hc => ?_) (fun hc => ?_)
          · have hw := hw.1 hc
            refine v_aload_n C dX0_kindOfLine_55 0 rfl ?_
            refine v_ldcS C (tx := "votes") 7 (by decide) dX0_kindOfLine_56 ?_
            refine v_callFi (st := []) (ci := 9) (qb := 0) C (kX9_isWord h0 a0 _ _ (by decide) hw) mM_X0_76 mI_X9 mC_X9_isWord mN_X9_isWord mS_X9_isWord rfl rfl hd_X9_isWord ⟨Nat.le_of_ble_eq_true rfl, Nat.le_of_ble_eq_true rfl⟩ ⟨Nat.le_of_ble_eq_true rfl, Nat.le_of_ble_eq_true rfl⟩ rfl (Nat.le_of_ble_eq_true rfl) dX0_kindOfLine_58 (fun r58 v58_0 hw => ?_)
            obtain ⟨h01_58, hw⟩ := hw
            have hw := hw h01_58
            refine v_if_eq (tgt := 68) C dX0_kindOfLine_61 (by decide) (fun hc => ?_) (fun hc => ?_)
            · have hw := hw.1 hc
              refine v_iconst (v := (-1)) C dX0_kindOfLine_68 (by decide) ?_
              exact hret _ _ _ _ ((-1)) v58_0 dX0_kindOfLine_69 rfl hw (Nat.le_of_ble_eq_true rfl) (Nat.le_of_ble_eq_true rfl)
            · have hw := hw.2 hc
              refine v_iconst (v := 5) C dX0_kindOfLine_64 (by decide) ?_
              refine v_goto (tgt := 69) C dX0_kindOfLine_65 (by decide) ?_
              exact hret _ _ _ _ 5 v58_0 dX0_kindOfLine_69 rfl hw (Nat.le_of_ble_eq_true rfl) (Nat.le_of_ble_eq_true rfl)
          · have hw := hw.2 hc
            refine v_iconst (v := 4) C dX0_kindOfLine_53 (by decide) ?_
            exact hret _ _ _ _ 4 v47_0 dX0_kindOfLine_54 rfl hw (Nat.le_of_ble_eq_true rfl) (Nat.le_of_ble_eq_true rfl)
        · have hw := hw.2 hc
          refine v_iconst (v := 3) C dX0_kindOfLine_42 (by decide) ?_
          exact hret _ _ _ _ 3 v36_0 dX0_kindOfLine_43 rfl hw (Nat.le_of_ble_eq_true rfl) (Nat.le_of_ble_eq_true rfl)
      · have hw := hw.2 hc
        refine v_iconst (v := 2) C dX0_kindOfLine_31 (by decide) ?_
        exact hret _ _ _ _ 2 v25_0 dX0_kindOfLine_32 rfl hw (Nat.le_of_ble_eq_true rfl) (Nat.le_of_ble_eq_true rfl)
    · have hw := hw.2 hc
      refine v_iconst (v := 1) C dX0_kindOfLine_20 (by decide) ?_
      exact hret _ _ _ _ 1 v14_0 dX0_kindOfLine_21 rfl hw (Nat.le_of_ble_eq_true rfl) (Nat.le_of_ble_eq_true rfl)
  · have hw := hw.2 hc
    refine v_iconst (v := 0) C dX0_kindOfLine_9 (by decide) ?_
    exact hret _ _ _ _ 0 v3_0 dX0_kindOfLine_10 rfl hw (Nat.le_of_ble_eq_true rfl) (Nat.le_of_ble_eq_true rfl)
set_option maxHeartbeats 4000000 in
set_option maxRecDepth 100000 in
theorem kX9_blame {l : Launch} {E : VE} (h0 : Nat) (a0 : Nat → Nat) (u0 : Md) (x1 : Int32) {Q : Md → Prop} (hw : qX9_blame u0 x1 Q) : MV l yX9_blame cX9_blame 2 0 0 0 E [.ref h0, .int x1] ([wX9 E h0 a0 u0].flatten) (fun (U : Md) => [wX9 E h0 a0 U].flatten) (fun (U : Md) => Q U) := by
  refine MV.of (own := RX9) (by decide) rfl (Nat.le_of_ble_eq_true rfl) ?_
  intro X C hini hret
  show VV X 0 0 ([wX9 E h0 a0 u0].flatten) [(0, .ref h0), (1, .int x1)] 0 []
  unfold qX9_blame at hw
  refine v_aload_n C dX9_blame_0 0 rfl ?_
  refine v_get (ci := 9) C inT9 0 2 rfl rfl (by decide) mF_X9_26_X9_2 rfl dX9_blame_1 ?_
  refine v_if_ne (tgt := 20) C dX9_blame_4 (by decide) (fun hc => ?_) (fun hc => ?_)
  · have hw := hw.1 hc
    exact hret _ _ _ _ u0 dX9_blame_20 hw (Nat.le_of_ble_eq_true rfl) (Nat.le_of_ble_eq_true rfl)
  · have hw := hw.2 hc
    refine v_aload_n C dX9_blame_7 0 rfl ?_
    refine v_iload_n C dX9_blame_8 1 rfl ?_
    obtain ⟨w9, e9⟩ : ∃ z : Md, z = sF u0 2 x1 := ⟨_, rfl⟩
    have hw := hw w9 e9
    refine v_put (ci := 9) (ws' := [wX9 E h0 a0 w9].flatten) C tyX9 tyX9_ok nmX9 inT9 0 2 rfl rfl (by decide) mF_X9_26_X9_2 rfl rfl rfl rfl (Nat.le_of_ble_eq_true rfl) (by rw [e9]; rfl) dX9_blame_9 ?_
    refine v_aload_n C dX9_blame_12 0 rfl ?_
    refine v_aload_n C dX9_blame_13 0 rfl ?_
    refine v_get (ci := 9) C inT9 0 4 rfl rfl (by decide) mF_X9_38_X9_4 rfl dX9_blame_14 ?_
    obtain ⟨w17, e17⟩ : ∃ z : Md, z = sF w9 3 (gF w9 4) := ⟨_, rfl⟩
    have hw := hw w17 e17
    refine v_put (ci := 9) (ws' := [wX9 E h0 a0 w17].flatten) C tyX9 tyX9_ok nmX9 inT9 0 3 rfl rfl (by decide) mF_X9_15_X9_3 rfl rfl rfl rfl (Nat.le_of_ble_eq_true rfl) (by rw [e17]; rfl) dX9_blame_17 ?_
    exact hret _ _ _ _ w17 dX9_blame_20 hw (Nat.le_of_ble_eq_true rfl) (Nat.le_of_ble_eq_true rfl)
set_option maxHeartbeats 4000000 in
set_option maxRecDepth 100000 in
theorem kX9_takeWord {l : Launch} {E : VE} (h0 : Nat) (a0 : Nat → Nat) (u0 : Md) (k1 : Nat) (hk1 : k1 < 16) {Q : Md → Prop} (hw : qX9_takeWord u0 k1 Q) : MV l yX9_takeWord cX9_takeWord 2 5 0 0 E [.ref h0, .ref ((E.2.2.1 k1))] ([wX9 E h0 a0 u0].flatten) (fun (U : Md) => [wX9 E h0 a0 U].flatten) (fun (U : Md) => Q U) := by
  refine MV.of (own := RX9) (by decide) rfl (Nat.le_of_ble_eq_true rfl) ?_
  intro X C hini hret
  show VV X 0 0 ([wX9 E h0 a0 u0].flatten) [(0, .ref h0), (1, .ref ((E.2.2.1 k1)))] 0 []
  unfold qX9_takeWord at hw
  refine v_aload_n C dX9_takeWord_0 0 rfl ?_
  refine v_aload_n C dX9_takeWord_1 1 rfl ?_
  refine v_callFi (st := []) (ci := 9) (qb := 0) C (kX9_isWord h0 a0 _ _ hk1 hw) mM_X9_68 mI_X9 mC_X9_isWord mN_X9_isWord mS_X9_isWord rfl rfl hd_X9_isWord ⟨Nat.le_of_ble_eq_true rfl, Nat.le_of_ble_eq_true rfl⟩ ⟨Nat.le_of_ble_eq_true rfl, Nat.le_of_ble_eq_true rfl⟩ rfl (Nat.le_of_ble_eq_true rfl) dX9_takeWord_2 (fun r2 v2_0 hw => ?_)
  obtain ⟨h01_2, hw⟩ := hw
  have hw := hw h01_2
  refine v_if_eq (tgt := 15) C dX9_takeWord_5 (by decide) (fun hc => ?_) (fun hc => ?_)
  · have hw := hw.1 hc
    refine v_aload_n C dX9_takeWord_15 0 rfl ?_
    refine v_iconst (v := 1) C dX9_takeWord_16 (by decide) ?_
    refine v_callFv (st := []) (ci := 9) (qb := 0) C (kX9_blame h0 a0 _ _ hw) mM_X9_64 mI_X9 mC_X9_blame mN_X9_blame mS_X9_blame rfl rfl hd_X9_blame ⟨Nat.le_of_ble_eq_true rfl, Nat.le_of_ble_eq_true rfl⟩ ⟨Nat.le_of_ble_eq_true rfl, Nat.le_of_ble_eq_true rfl⟩ rfl (Nat.le_of_ble_eq_true rfl) dX9_takeWord_17 (fun v17_0 hw => ?_)
    exact hret _ _ _ _ v17_0 dX9_takeWord_20 hw (Nat.le_of_ble_eq_true rfl) (Nat.le_of_ble_eq_true rfl)
  · have hw := hw.2 hc
    refine v_aload_n C dX9_takeWord_8 0 rfl ?_
    refine v_callFv (st := []) (ci := 9) (qb := 0) C (kX9_advance h0 a0 _ hw) mM_X9_32 mI_X9 mC_X9_advance mN_X9_advance mS_X9_advance rfl rfl hd_X9_advance ⟨Nat.le_of_ble_eq_true rfl, Nat.le_of_ble_eq_true rfl⟩ ⟨Nat.le_of_ble_eq_true rfl, Nat.le_of_ble_eq_true rfl⟩ rfl (Nat.le_of_ble_eq_true rfl) dX9_takeWord_9 (fun v9_0 hw => ?_)
    refine v_goto (tgt := 20) C dX9_takeWord_12 (by decide) ?_
    exact hret _ _ _ _ v9_0 dX9_takeWord_20 hw (Nat.le_of_ble_eq_true rfl) (Nat.le_of_ble_eq_true rfl)
set_option maxHeartbeats 4000000 in
set_option maxRecDepth 100000 in
theorem kX9_takeNumber {l : Launch} {E : VE} (h0 : Nat) (a0 : Nat → Nat) (u0 : Md) (x1 : Int32) {Q : Int32 → Md → Prop} (hw : qX9_takeNumber u0 x1 Q) : MI l yX9_takeNumber cX9_takeNumber 3 .int 2 0 0 E [.ref h0, .int x1] ([wX9 E h0 a0 u0].flatten) (fun (U : Md) => [wX9 E h0 a0 U].flatten) (fun (r : Int32) (U : Md) => Q r U) := by
  refine MI.of (own := RX9) (by decide) rfl (Nat.le_of_ble_eq_true rfl) ?_
  intro X C hini hret
  show VV X 0 0 ([wX9 E h0 a0 u0].flatten) [(0, .ref h0), (1, .int x1)] 0 []
  unfold qX9_takeNumber at hw
  refine v_aload_n C dX9_takeNumber_0 0 rfl ?_
  refine v_get (ci := 9) C inT9 0 6 rfl rfl (by decide) mF_X9_35_X9_6 rfl dX9_takeNumber_1 ?_
  refine v_iconst (v := 2) C dX9_takeNumber_4 (by decide) ?_
  refine v_icmp_eq (tgt := 15) C dX9_takeNumber_5 (by decide) (fun hc => ?_) (fun hc => ?_)
  · have hw := hw.1 hc
    refine v_aload_n C dX9_takeNumber_15 0 rfl ?_
    refine v_get (ci := 9) C inT9 0 7 rfl rfl (by decide) mF_X9_41_X9_7 rfl dX9_takeNumber_16 ?_
    refine v_iload_n C dX9_takeNumber_19 1 rfl ?_
    refine v_icmp_le (tgt := 30) C dX9_takeNumber_20 (by decide) (fun hc => ?_) (fun hc => ?_)
    · have hw := hw.1 hc
      refine v_aload_n C dX9_takeNumber_30 0 rfl ?_
      refine v_get (ci := 9) C inT9 0 7 rfl rfl (by decide) mF_X9_41_X9_7 rfl dX9_takeNumber_31 ?_
      refine v_istore_n (lv' := [(2, .int (gF u0 7)), (0, .ref h0), (1, .int x1)]) C dX9_takeNumber_34 (by decide) rfl ?_
      refine v_aload_n C dX9_takeNumber_35 1 rfl ?_
      refine v_callFv (st := []) (ci := 9) (qb := 0) C (kX9_advance h0 a0 _ hw) mM_X9_32 mI_X9 mC_X9_advance mN_X9_advance mS_X9_advance rfl rfl hd_X9_advance ⟨Nat.le_of_ble_eq_true rfl, Nat.le_of_ble_eq_true rfl⟩ ⟨Nat.le_of_ble_eq_true rfl, Nat.le_of_ble_eq_true rfl⟩ rfl (Nat.le_of_ble_eq_true rfl) dX9_takeNumber_36 (fun v36_0 hw => ?_)
      refine v_iload_n C dX9_takeNumber_39 0 rfl ?_
      exact hret _ _ _ _ (gF u0 7) v36_0 dX9_takeNumber_40 rfl hw (Nat.le_of_ble_eq_true rfl) (Nat.le_of_ble_eq_true rfl)
    · have hw := hw.2 hc
      refine v_aload_n C dX9_takeNumber_23 0 rfl ?_
      refine v_iconst (v := 2) C dX9_takeNumber_24 (by decide) ?_
      refine v_callFv (st := []) (ci := 9) (qb := 0) C (kX9_blame h0 a0 _ _ hw) mM_X9_64 mI_X9 mC_X9_blame mN_X9_blame mS_X9_blame rfl rfl hd_X9_blame ⟨Nat.le_of_ble_eq_true rfl, Nat.le_of_ble_eq_true rfl⟩ ⟨Nat.le_of_ble_eq_true rfl, Nat.le_of_ble_eq_true rfl⟩ rfl (Nat.le_of_ble_eq_true rfl) dX9_takeNumber_25 (fun v25_0 hw => ?_)
      refine v_iconst (v := 0) C dX9_takeNumber_28 (by decide) ?_
      exact hret _ _ _ _ 0 v25_0 dX9_takeNumber_29 rfl hw (Nat.le_of_ble_eq_true rfl) (Nat.le_of_ble_eq_true rfl)
  · have hw := hw.2 hc
    refine v_aload_n C dX9_takeNumber_8 0 rfl ?_
    refine v_iconst (v := 1) C dX9_takeNumber_9 (by decide) ?_
    refine v_callFv (st := []) (ci := 9) (qb := 0) C (kX9_blame h0 a0 _ _ hw) mM_X9_64 mI_X9 mC_X9_blame mN_X9_blame mS_X9_blame rfl rfl hd_X9_blame ⟨Nat.le_of_ble_eq_true rfl, Nat.le_of_ble_eq_true rfl⟩ ⟨Nat.le_of_ble_eq_true rfl, Nat.le_of_ble_eq_true rfl⟩ rfl (Nat.le_of_ble_eq_true rfl) dX9_takeNumber_10 (fun v10_0 hw => ?_)
    refine v_iconst (v := 0) C dX9_takeNumber_13 (by decide) ?_
    exact hret _ _ _ _ 0 v10_0 dX9_takeNumber_14 rfl hw (Nat.le_of_ble_eq_true rfl) (Nat.le_of_ble_eq_true rfl)
set_option maxHeartbeats 4000000 in
set_option maxRecDepth 100000 in
theorem jX0_readHead_68 {X : VX} {E : VE} {l : Launch} (h0 : Nat) (h1 : Nat) (a0 : Nat → Nat) (a1 : Nat → Nat)  (Q : Md → Md → Prop) (C : VC X cX0_readHead 4 RX0 (rmL 6 0 0) E l) (hret : RetV X cX0_readHead 0 0 (fun (U : Md × Md) => [wX0 E h0 a0 U.1, wX9 E h1 a1 U.2].flatten) (fun (U : Md × Md) => Q U.1 U.2))  : ∀ (u0 : Md) (u1 : Md) (y2 : Int32) (y3 : Int32), qX0_readHead_68 Q u0 u1 y2 y3 → VV X 0 0 ([wX0 E h0 a0 u0, wX9 E h1 a1 u1].flatten) [(0, .ref h0), (1, .ref h1), (2, .int y2), (3, .int y3)] 68 [] := by
  intro u0 u1 y2 y3 hw
  unfold qX0_readHead_68 at hw
  refine v_iload_n C dX0_readHead_68 3 rfl ?_
  refine v_iconst (v := 2) C dX0_readHead_69 (by decide) ?_
  refine v_icmp_ne (tgt := 92) C dX0_readHead_70 (by decide) (fun hc => ?_) (fun hc => ?_)
  · have hw := hw.1 hc
    exact hret _ _ _ _ (u0, u1) dX0_readHead_92 hw (Nat.le_of_ble_eq_true rfl) (Nat.le_of_ble_eq_true rfl)
  · have hw := hw.2 hc
    refine v_aload_n C dX0_readHead_73 1 rfl ?_
    refine v_ldcS C (tx := "apart") 8 (by decide) dX0_readHead_74 ?_
    refine v_callVMv (st := []) (ci := 9) (qb := 12) C (kX9_takeWord h1 a1 _ _ (by decide) hw) mM_X0_119 mI_X9 mC_X9_takeWord mN_X9_takeWord mS_X9_takeWord rfl rfl hd_X9_takeWord ⟨Nat.le_of_ble_eq_true rfl, Nat.le_of_ble_eq_true rfl⟩ ⟨Nat.le_of_ble_eq_true rfl, Nat.le_of_ble_eq_true rfl⟩ [1] [0] (N0 := 2) rfl (by decide) (ms2 := (fun (U : Md) => [wX0 E h0 a0 u0, wX9 E h1 a1 U])) rfl (fun _ => rfl) (fun _ => rfl) (fun _ => rfl) rfl (Nat.le_of_ble_eq_true rfl) dX0_readHead_76 (fun v76_0 hw => ?_)
    refine v_aload_n C dX0_readHead_79 0 rfl ?_
    refine v_get (ci := 0) C inT0 0 6 rfl rfl (by decide) mF_X0_28_X0_6 rfl dX0_readHead_80 ?_
    refine v_iload_n C dX0_readHead_83 2 rfl ?_
    refine v_aload_n C dX0_readHead_84 1 rfl ?_
    refine v_sipush (v := 9999) C dX0_readHead_85 (by decide) ?_
    refine v_callVMi (st := [.int y2, .ref ((a0 6))]) (ci := 9) (qb := 12) C (kX9_takeNumber h1 a1 _ _ hw) mM_X0_113 mI_X9 mC_X9_takeNumber mN_X9_takeNumber mS_X9_takeNumber rfl rfl hd_X9_takeNumber ⟨Nat.le_of_ble_eq_true rfl, Nat.le_of_ble_eq_true rfl⟩ ⟨Nat.le_of_ble_eq_true rfl, Nat.le_of_ble_eq_true rfl⟩ [1] [0] (N0 := 2) rfl (by decide) (ms2 := (fun (U : Md) => [wX0 E h0 a0 u0, wX9 E h1 a1 U])) rfl (fun _ => rfl) (fun _ => rfl) (fun _ => rfl) rfl (Nat.le_of_ble_eq_true rfl) dX0_readHead_88 (fun r88 v88_0 hw => ?_)
    obtain ⟨hi91, hw⟩ := hw
    obtain ⟨w91, e91⟩ : ∃ z : Md, z = tA u0 6 y2 r88 := ⟨_, rfl⟩
    have hw := hw w91 e91
    refine v_iast (ws' := [wX0 E h0 a0 w91, wX9 E h1 a1 v88_0].flatten) C 6 rfl hi91 (by rw [e91]; rfl) dX0_readHead_91 ?_
    exact hret _ _ _ _ (w91, v88_0) dX0_readHead_92 hw (Nat.le_of_ble_eq_true rfl) (Nat.le_of_ble_eq_true rfl)
set_option maxHeartbeats 4000000 in
set_option maxRecDepth 100000 in
theorem kX0_readHead {l : Launch} {E : VE} (h0 : Nat) (h1 : Nat) (a0 : Nat → Nat) (a1 : Nat → Nat) (u0 : Md) (u1 : Md) (x2 : Int32) (x3 : Int32) {Q : Md → Md → Prop} (hw : qX0_readHead u0 u1 x2 x3 Q) : MV l yX0_readHead cX0_readHead 4 6 0 0 E [.ref h0, .ref h1, .int x2, .int x3] ([wX0 E h0 a0 u0, wX9 E h1 a1 u1].flatten) (fun (U : Md × Md) => [wX0 E h0 a0 U.1, wX9 E h1 a1 U.2].flatten) (fun (U : Md × Md) => Q U.1 U.2) := by
  refine MV.of (own := RX0) (by decide) rfl (Nat.le_of_ble_eq_true rfl) ?_
  intro X C hini hret
  show VV X 0 0 ([wX0 E h0 a0 u0, wX9 E h1 a1 u1].flatten) [(0, .ref h0), (1, .ref h1), (2, .int x2), (3, .int x3)] 0 []
  unfold qX0_readHead at hw
  refine v_aload_n C dX0_readHead_0 1 rfl ?_
  refine v_callVMv (st := []) (ci := 9) (qb := 12) C (kX9_advance h1 a1 _ hw) mM_X0_95 mI_X9 mC_X9_advance mN_X9_advance mS_X9_advance rfl rfl hd_X9_advance ⟨Nat.le_of_ble_eq_true rfl, Nat.le_of_ble_eq_true rfl⟩ ⟨Nat.le_of_ble_eq_true rfl, Nat.le_of_ble_eq_true rfl⟩ [1] [0] (N0 := 2) rfl (by decide) (ms2 := (fun (U : Md) => [wX0 E h0 a0 u0, wX9 E h1 a1 U])) rfl (fun _ => rfl) (fun _ => rfl) (fun _ => rfl) rfl (Nat.le_of_ble_eq_true rfl) dX0_readHead_1 (fun v1_0 hw => ?_)
  refine v_aload_n C dX0_readHead_4 0 rfl ?_
  refine v_get (ci := 0) C inT0 0 4 rfl rfl (by decide) mF_X0_22_X0_4 rfl dX0_readHead_5 ?_
  refine v_iload_n C dX0_readHead_8 2 rfl ?_
  refine v_iload_n C dX0_readHead_9 3 rfl ?_
  obtain ⟨hi10, hw⟩ := hw
  obtain ⟨w10, e10⟩ : ∃ z : Md, z = tA u0 4 x2 x3 := ⟨_, rfl⟩
  have hw := hw w10 e10
  refine v_iast (ws' := [wX0 E h0 a0 w10, wX9 E h1 a1 v1_0].flatten) C 4 rfl hi10 (by rw [e10]; rfl) dX0_readHead_10 ?_
  refine v_aload_n C dX0_readHead_11 0 rfl ?_
  refine v_get (ci := 0) C inT0 0 5 rfl rfl (by decide) mF_X0_25_X0_5 rfl dX0_readHead_12 ?_
  refine v_iload_n C dX0_readHead_15 2 rfl ?_
  refine v_iconst (v := 0) C dX0_readHead_16 (by decide) ?_
  obtain ⟨hi17, hw⟩ := hw
  obtain ⟨w17, e17⟩ : ∃ z : Md, z = tA w10 5 x2 0 := ⟨_, rfl⟩
  have hw := hw w17 e17
  refine v_iast (ws' := [wX0 E h0 a0 w17, wX9 E h1 a1 v1_0].flatten) C 5 rfl hi17 (by rw [e17]; rfl) dX0_readHead_17 ?_
  refine v_aload_n C dX0_readHead_18 0 rfl ?_
  refine v_get (ci := 0) C inT0 0 6 rfl rfl (by decide) mF_X0_28_X0_6 rfl dX0_readHead_19 ?_
  refine v_iload_n C dX0_readHead_22 2 rfl ?_
  refine v_iconst (v := 0) C dX0_readHead_23 (by decide) ?_
  obtain ⟨hi24, hw⟩ := hw
  obtain ⟨w24, e24⟩ : ∃ z : Md, z = tA w17 6 x2 0 := ⟨_, rfl⟩
  have hw := hw w24 e24
  refine v_iast (ws' := [wX0 E h0 a0 w24, wX9 E h1 a1 v1_0].flatten) C 6 rfl hi24 (by rw [e24]; rfl) dX0_readHead_24 ?_
  refine v_aload_n C dX0_readHead_25 0 rfl ?_
  refine v_get (ci := 0) C inT0 0 7 rfl rfl (by decide) mF_X0_31_X0_7 rfl dX0_readHead_26 ?_
  refine v_iload_n C dX0_readHead_29 2 rfl ?_
  refine v_iconst (v := 0) C dX0_readHead_30 (by decide) ?_
  obtain ⟨hi31, hw⟩ := hw
  obtain ⟨w31, e31⟩ : ∃ z : Md, z = tA w24 7 x2 0 := ⟨_, rfl⟩
  have hw := hw w31 e31
  refine v_iast (ws' := [wX0 E h0 a0 w31, wX9 E h1 a1 v1_0].flatten) C 7 rfl hi31 (by rw [e31]; rfl) dX0_readHead_31 ?_
  refine v_iload_n C dX0_readHead_32 3 rfl ?_
  refine v_if_ne (tgt := 50) C dX0_readHead_33 (by decide) (fun hc => ?_) (fun hc => ?_)
  · have hw := hw.1 hc
    refine v_iload_n C dX0_readHead_50 3 rfl ?_
    refine v_iconst (v := 1) C dX0_readHead_51 (by decide) ?_
    refine v_icmp_eq (tgt := 68) C dX0_readHead_52 (by decide) (fun hc => ?_) (fun hc => ?_)
    · have hw := hw.1 hc
      exact jX0_readHead_68 h0 h1 a0 a1 Q C hret w31 v1_0 x2 x3 hw
    · have hw := hw.2 hc
      refine v_aload_n C dX0_readHead_55 0 rfl ?_
      refine v_get (ci := 0) C inT0 0 5 rfl rfl (by decide) mF_X0_25_X0_5 rfl dX0_readHead_56 ?_
      refine v_iload_n C dX0_readHead_59 2 rfl ?_
      refine v_aload_n C dX0_readHead_60 1 rfl ?_
      refine v_sipush (v := 9999) C dX0_readHead_61 (by decide) ?_
      refine v_callVMi (st := [.int x2, .ref ((a0 5))]) (ci := 9) (qb := 12) C (kX9_takeNumber h1 a1 _ _ hw) mM_X0_113 mI_X9 mC_X9_takeNumber mN_X9_takeNumber mS_X9_takeNumber rfl rfl hd_X9_takeNumber ⟨Nat.le_of_ble_eq_true rfl, Nat.le_of_ble_eq_true rfl⟩ ⟨Nat.le_of_ble_eq_true rfl, Nat.le_of_ble_eq_true rfl⟩ [1] [0] (N0 := 2) rfl (by decide) (ms2 := (fun (U : Md) => [wX0 E h0 a0 w31, wX9 E h1 a1 U])) rfl (fun _ => rfl) (fun _ => rfl) (fun _ => rfl) rfl (Nat.le_of_ble_eq_true rfl) dX0_readHead_64 (fun r64 v64_0 hw => ?_)
      obtain ⟨hi67, hw⟩ := hw
      obtain ⟨w67, e67⟩ : ∃ z : Md, z = tA w31 5 x2 r64 := ⟨_, rfl⟩
      have hw := hw w67 e67
      refine v_iast (ws' := [wX0 E h0 a0 w67, wX9 E h1 a1 v64_0].flatten) C 5 rfl hi67 (by rw [e67]; rfl) dX0_readHead_67 ?_
      exact jX0_readHead_68 h0 h1 a0 a1 Q C hret w67 v64_0 x2 x3 hw
  · have hw := hw.2 hc
    refine v_aload_n C dX0_readHead_36 0 rfl ?_
    refine v_get (ci := 0) C inT0 0 5 rfl rfl (by decide) mF_X0_25_X0_5 rfl dX0_readHead_37 ?_
    refine v_iload_n C dX0_readHead_40 2 rfl ?_
    refine v_aload_n C dX0_readHead_41 1 rfl ?_
    refine v_iconst (v := 2) C dX0_readHead_42 (by decide) ?_
    refine v_callVMi (st := [.int x2, .ref ((a0 5))]) (ci := 9) (qb := 12) C (kX9_takeNumber h1 a1 _ _ hw) mM_X0_113 mI_X9 mC_X9_takeNumber mN_X9_takeNumber mS_X9_takeNumber rfl rfl hd_X9_takeNumber ⟨Nat.le_of_ble_eq_true rfl, Nat.le_of_ble_eq_true rfl⟩ ⟨Nat.le_of_ble_eq_true rfl, Nat.le_of_ble_eq_true rfl⟩ [1] [0] (N0 := 2) rfl (by decide) (ms2 := (fun (U : Md) => [wX0 E h0 a0 w31, wX9 E h1 a1 U])) rfl (fun _ => rfl) (fun _ => rfl) (fun _ => rfl) rfl (Nat.le_of_ble_eq_true rfl) dX0_readHead_43 (fun r43 v43_0 hw => ?_)
    obtain ⟨hi46, hw⟩ := hw
    obtain ⟨w46, e46⟩ : ∃ z : Md, z = tA w31 5 x2 r43 := ⟨_, rfl⟩
    have hw := hw w46 e46
    refine v_iast (ws' := [wX0 E h0 a0 w46, wX9 E h1 a1 v43_0].flatten) C 5 rfl hi46 (by rw [e46]; rfl) dX0_readHead_46 ?_
    refine v_goto (tgt := 68) C dX0_readHead_47 (by decide) ?_
    exact jX0_readHead_68 h0 h1 a0 a1 Q C hret w46 v43_0 x2 x3 hw
set_option maxHeartbeats 4000000 in
set_option maxRecDepth 100000 in
theorem kX9_isSign {l : Launch} {E : VE} (h0 : Nat) (a0 : Nat → Nat) (u0 : Md) (x1 : Int32) {Q : Int32 → Md → Prop} (hw : qX9_isSign u0 x1 Q) : MI l yX9_isSign cX9_isSign 2 .boolean 0 0 0 E [.ref h0, .int x1] ([wX9 E h0 a0 u0].flatten) (fun (U : Md) => [wX9 E h0 a0 U].flatten) (fun (r : Int32) (U : Md) => (r = 0 ∨ r = 1) ∧ Q r U) := by
  refine MI.of (own := RX9) (by decide) rfl (Nat.le_of_ble_eq_true rfl) ?_
  intro X C hini hret
  show VV X 0 0 ([wX9 E h0 a0 u0].flatten) [(0, .ref h0), (1, .int x1)] 0 []
  unfold qX9_isSign at hw
  refine v_aload_n C dX9_isSign_0 0 rfl ?_
  refine v_get (ci := 9) C inT9 0 6 rfl rfl (by decide) mF_X9_35_X9_6 rfl dX9_isSign_1 ?_
  refine v_iconst (v := 3) C dX9_isSign_4 (by decide) ?_
  refine v_icmp_ne (tgt := 36) C dX9_isSign_5 (by decide) (fun hc => ?_) (fun hc => ?_)
  · have hw := hw.1 hc
    refine v_iconst (v := 0) C dX9_isSign_36 (by decide) ?_
    exact hret _ _ _ _ 0 u0 dX9_isSign_37 rfl ⟨Or.inl rfl, hw⟩ (Nat.le_of_ble_eq_true rfl) (Nat.le_of_ble_eq_true rfl)
  · have hw := hw.2 hc
    refine v_aload_n C dX9_isSign_8 0 rfl ?_
    refine v_get (ci := 9) C inT9 0 4 rfl rfl (by decide) mF_X9_38_X9_4 rfl dX9_isSign_9 ?_
    refine v_aload_n C dX9_isSign_12 0 rfl ?_
    refine v_get (ci := 9) C inT9 0 1 rfl rfl (by decide) mF_X9_19_X9_1 rfl dX9_isSign_13 ?_
    refine v_icmp_ge (tgt := 36) C dX9_isSign_16 (by decide) (fun hc => ?_) (fun hc => ?_)
    · have hw := hw.1 hc
      refine v_iconst (v := 0) C dX9_isSign_36 (by decide) ?_
      exact hret _ _ _ _ 0 u0 dX9_isSign_37 rfl ⟨Or.inl rfl, hw⟩ (Nat.le_of_ble_eq_true rfl) (Nat.le_of_ble_eq_true rfl)
    · have hw := hw.2 hc
      refine v_aload_n C dX9_isSign_19 0 rfl ?_
      refine v_get (ci := 9) C inT9 0 0 rfl rfl (by decide) mF_X9_11_X9_0 rfl dX9_isSign_20 ?_
      refine v_aload_n C dX9_isSign_23 0 rfl ?_
      refine v_get (ci := 9) C inT9 0 4 rfl rfl (by decide) mF_X9_38_X9_4 rfl dX9_isSign_24 ?_
      obtain ⟨hi27, hw⟩ := hw
      refine v_bald C 1 rfl hi27 dX9_isSign_27 ?_
      refine v_iload_n C dX9_isSign_28 1 rfl ?_
      refine v_icmp_ne (tgt := 36) C dX9_isSign_29 (by decide) (fun hc => ?_) (fun hc => ?_)
      · have hw := hw.1 hc
        refine v_iconst (v := 0) C dX9_isSign_36 (by decide) ?_
        exact hret _ _ _ _ 0 u0 dX9_isSign_37 rfl ⟨Or.inl rfl, hw⟩ (Nat.le_of_ble_eq_true rfl) (Nat.le_of_ble_eq_true rfl)
      · have hw := hw.2 hc
        refine v_iconst (v := 1) C dX9_isSign_32 (by decide) ?_
        refine v_goto (tgt := 37) C dX9_isSign_33 (by decide) ?_
        exact hret _ _ _ _ 1 u0 dX9_isSign_37 rfl ⟨Or.inr rfl, hw⟩ (Nat.le_of_ble_eq_true rfl) (Nat.le_of_ble_eq_true rfl)
set_option maxHeartbeats 4000000 in
set_option maxRecDepth 100000 in
theorem kX9_takeSign {l : Launch} {E : VE} (h0 : Nat) (a0 : Nat → Nat) (u0 : Md) (x1 : Int32) {Q : Md → Prop} (hw : qX9_takeSign u0 x1 Q) : MV l yX9_takeSign cX9_takeSign 2 2 0 0 E [.ref h0, .int x1] ([wX9 E h0 a0 u0].flatten) (fun (U : Md) => [wX9 E h0 a0 U].flatten) (fun (U : Md) => Q U) := by
  refine MV.of (own := RX9) (by decide) rfl (Nat.le_of_ble_eq_true rfl) ?_
  intro X C hini hret
  show VV X 0 0 ([wX9 E h0 a0 u0].flatten) [(0, .ref h0), (1, .int x1)] 0 []
  unfold qX9_takeSign at hw
  refine v_aload_n C dX9_takeSign_0 0 rfl ?_
  refine v_iload_n C dX9_takeSign_1 1 rfl ?_
  refine v_callFi (st := []) (ci := 9) (qb := 0) C (kX9_isSign h0 a0 _ _ hw) mM_X9_60 mI_X9 mC_X9_isSign mN_X9_isSign mS_X9_isSign rfl rfl hd_X9_isSign ⟨Nat.le_of_ble_eq_true rfl, Nat.le_of_ble_eq_true rfl⟩ ⟨Nat.le_of_ble_eq_true rfl, Nat.le_of_ble_eq_true rfl⟩ rfl (Nat.le_of_ble_eq_true rfl) dX9_takeSign_2 (fun r2 v2_0 hw => ?_)
  obtain ⟨h01_2, hw⟩ := hw
  have hw := hw h01_2
  refine v_if_eq (tgt := 15) C dX9_takeSign_5 (by decide) (fun hc => ?_) (fun hc => ?_)
  · have hw := hw.1 hc
    refine v_aload_n C dX9_takeSign_15 0 rfl ?_
    refine v_iconst (v := 1) C dX9_takeSign_16 (by decide) ?_
    refine v_callFv (st := []) (ci := 9) (qb := 0) C (kX9_blame h0 a0 _ _ hw) mM_X9_64 mI_X9 mC_X9_blame mN_X9_blame mS_X9_blame rfl rfl hd_X9_blame ⟨Nat.le_of_ble_eq_true rfl, Nat.le_of_ble_eq_true rfl⟩ ⟨Nat.le_of_ble_eq_true rfl, Nat.le_of_ble_eq_true rfl⟩ rfl (Nat.le_of_ble_eq_true rfl) dX9_takeSign_17 (fun v17_0 hw => ?_)
    exact hret _ _ _ _ v17_0 dX9_takeSign_20 hw (Nat.le_of_ble_eq_true rfl) (Nat.le_of_ble_eq_true rfl)
  · have hw := hw.2 hc
    refine v_aload_n C dX9_takeSign_8 0 rfl ?_
    refine v_callFv (st := []) (ci := 9) (qb := 0) C (kX9_advance h0 a0 _ hw) mM_X9_32 mI_X9 mC_X9_advance mN_X9_advance mS_X9_advance rfl rfl hd_X9_advance ⟨Nat.le_of_ble_eq_true rfl, Nat.le_of_ble_eq_true rfl⟩ ⟨Nat.le_of_ble_eq_true rfl, Nat.le_of_ble_eq_true rfl⟩ rfl (Nat.le_of_ble_eq_true rfl) dX9_takeSign_9 (fun v9_0 hw => ?_)
    refine v_goto (tgt := 20) C dX9_takeSign_12 (by decide) ?_
    exact hret _ _ _ _ v9_0 dX9_takeSign_20 hw (Nat.le_of_ble_eq_true rfl) (Nat.le_of_ble_eq_true rfl)
set_option maxHeartbeats 4000000 in
set_option maxRecDepth 100000 in
theorem kX0_factOf {l : Launch} {E : VE} (h0 : Nat) (a0 : Nat → Nat) (u0 : Md) {Q : Int32 → Md → Prop} (hw : qX0_factOf u0 Q) : MI l yX0_factOf cX0_factOf 1 .int 5 0 0 E [.ref h0] ([wX9 E h0 a0 u0].flatten) (fun (U : Md) => [wX9 E h0 a0 U].flatten) (fun (r : Int32) (U : Md) => Q r U) := by
  refine MI.of (own := RX0) (by decide) rfl (Nat.le_of_ble_eq_true rfl) ?_
  intro X C hini hret
  show VV X 0 0 ([wX9 E h0 a0 u0].flatten) [(0, .ref h0)] 0 []
  unfold qX0_factOf at hw
  refine v_aload_n C dX0_factOf_0 0 rfl ?_
  refine v_ldcS C (tx := "share") 12 (by decide) dX0_factOf_1 ?_
  refine v_callFi (st := []) (ci := 9) (qb := 0) C (kX9_isWord h0 a0 _ _ (by decide) hw) mM_X0_76 mI_X9 mC_X9_isWord mN_X9_isWord mS_X9_isWord rfl rfl hd_X9_isWord ⟨Nat.le_of_ble_eq_true rfl, Nat.le_of_ble_eq_true rfl⟩ ⟨Nat.le_of_ble_eq_true rfl, Nat.le_of_ble_eq_true rfl⟩ rfl (Nat.le_of_ble_eq_true rfl) dX0_factOf_3 (fun r3 v3_0 hw => ?_)
  obtain ⟨h01_3, hw⟩ := hw
  have hw := hw h01_3
  refine v_if_eq (tgt := 11) C dX0_factOf_6 (by decide) (fun hc => ?_) (fun hc => ?_)
  · have hw := hw.1 hc
    refine v_aload_n C dX0_factOf_11 0 rfl ?_
    refine v_ldcS C (tx := "people") 13 (by decide) dX0_factOf_12 ?_
    refine v_callFi (st := []) (ci := 9) (qb := 0) C (kX9_isWord h0 a0 _ _ (by decide) hw) mM_X0_76 mI_X9 mC_X9_isWord mN_X9_isWord mS_X9_isWord rfl rfl hd_X9_isWord ⟨Nat.le_of_ble_eq_true rfl, Nat.le_of_ble_eq_true rfl⟩ ⟨Nat.le_of_ble_eq_true rfl, Nat.le_of_ble_eq_true rfl⟩ rfl (Nat.le_of_ble_eq_true rfl) dX0_factOf_14 (fun r14 v14_0 hw => ?_)
    obtain ⟨h01_14, hw⟩ := hw
    have hw := hw h01_14
    refine v_if_eq (tgt := 22) C dX0_factOf_17 (by decide) (fun hc => ?_) (fun hc => ?_)
    · have hw := hw.1 hc
      refine v_aload_n C dX0_factOf_22 0 rfl ?_
      refine v_ldcS C (tx := "parts") 14 (by decide) dX0_factOf_23 ?_
      refine v_callFi (st := []) (ci := 9) (qb := 0) C (kX9_isWord h0 a0 _ _ (by decide) hw) mM_X0_76 mI_X9 mC_X9_isWord mN_X9_isWord mS_X9_isWord rfl rfl hd_X9_isWord ⟨Nat.le_of_ble_eq_true rfl, Nat.le_of_ble_eq_true rfl⟩ ⟨Nat.le_of_ble_eq_true rfl, Nat.le_of_ble_eq_true rfl⟩ rfl (Nat.le_of_ble_eq_true rfl) dX0_factOf_25 (fun r25 v25_0 hw => ?_)
      obtain ⟨h01_25, hw⟩ := hw
      have hw := hw h01_25
      refine v_if_eq (tgt := 33) C dX0_factOf_28 (by decide) (fun hc => ?_) (fun hc => ?_)
      · have hw := hw.1 hc
        refine v_aload_n C dX0_factOf_33 0 rfl ?_
        refine v_ldcS C (tx := "year") 15 (by decide) dX0_factOf_34 ?_
        refine v_callFi (st := []) (ci := 9) (qb := 0) C (kX9_isWord h0 a0 _ _ (by decide) hw) mM_X0_76 mI_X9 mC_X9_isWord mN_X9_isWord mS_X9_isWord rfl rfl hd_X9_isWord ⟨Nat.le_of_ble_eq_true rfl, Nat.le_of_ble_eq_true rfl⟩ ⟨Nat.le_of_ble_eq_true rfl, Nat.le_of_ble_eq_true rfl⟩ rfl (Nat.le_of_ble_eq_true rfl) dX0_factOf_36 (fun r36 v36_0 hw => ?_)
        obtain ⟨h01_36, hw⟩ := hw
        have hw := hw h01_36
        refine v_if_eq (tgt := 46) C dX0_factOf_39 (by decide) (fun hc => ?_) (fun hc => ?_)
        · have hw := hw.1 hc
          refine v_iconst (v := (-1)) C dX0_factOf_46 (by decide) ?_
          exact hret _ _ _ _ ((-1)) v36_0 dX0_factOf_47 rfl hw (Nat.le_of_ble_eq_true rfl) (Nat.le_of_ble_eq_true rfl)
        · have hw := hw.2 hc
          refine v_iconst (v := 5) C dX0_factOf_42 (by decide) ?_
          refine v_goto (tgt := 47) C dX0_factOf_43 (by decide) ?_
          exact hret _ _ _ _ 5 v36_0 dX0_factOf_47 rfl hw (Nat.le_of_ble_eq_true rfl) (Nat.le_of_ble_eq_true rfl)
      · have hw := hw.2 hc
        refine v_iconst (v := 4) C dX0_factOf_31 (by decide) ?_
        exact hret _ _ _ _ 4 v25_0 dX0_factOf_32 rfl hw (Nat.le_of_ble_eq_true rfl) (Nat.le_of_ble_eq_true rfl)
    · have hw := hw.2 hc
      refine v_iconst (v := 3) C dX0_factOf_20 (by decide) ?_
      exact hret _ _ _ _ 3 v14_0 dX0_factOf_21 rfl hw (Nat.le_of_ble_eq_true rfl) (Nat.le_of_ble_eq_true rfl)
  · have hw := hw.2 hc
    refine v_iconst (v := 0) C dX0_factOf_9 (by decide) ?_
    exact hret _ _ _ _ 0 v3_0 dX0_factOf_10 rfl hw (Nat.le_of_ble_eq_true rfl) (Nat.le_of_ble_eq_true rfl)
set_option maxHeartbeats 4000000 in
set_option maxRecDepth 100000 in
theorem jX0_readCond_141 {X : VX} {E : VE} {l : Launch} (h0 : Nat) (h1 : Nat) (a0 : Nat → Nat) (a1 : Nat → Nat)  (Q : Md → Md → Prop) (C : VC X cX0_readCond 4 RX0 (rmL 6 0 0) E l) (hret : RetV X cX0_readCond 0 0 (fun (U : Md × Md) => [wX0 E h0 a0 U.1, wX9 E h1 a1 U.2].flatten) (fun (U : Md × Md) => Q U.1 U.2))  : ∀ (u0 : Md) (u1 : Md) (y2 : Int32) (z0 : Int32), qX0_readCond_141 Q u0 u1 y2 z0 → VV X 0 0 ([wX0 E h0 a0 u0, wX9 E h1 a1 u1].flatten) [(0, .ref h0), (1, .ref h1), (2, .int y2)] 141 [.int z0, .ref h1] := by
  intro u0 u1 y2 z0 hw
  unfold qX0_readCond_141 at hw
  refine v_callVMv (st := []) (ci := 9) (qb := 12) C (kX9_takeSign h1 a1 _ _ hw) mM_X0_109 mI_X9 mC_X9_takeSign mN_X9_takeSign mS_X9_takeSign rfl rfl hd_X9_takeSign ⟨Nat.le_of_ble_eq_true rfl, Nat.le_of_ble_eq_true rfl⟩ ⟨Nat.le_of_ble_eq_true rfl, Nat.le_of_ble_eq_true rfl⟩ [1] [0] (N0 := 2) rfl (by decide) (ms2 := (fun (U : Md) => [wX0 E h0 a0 u0, wX9 E h1 a1 U])) rfl (fun _ => rfl) (fun _ => rfl) (fun _ => rfl) rfl (Nat.le_of_ble_eq_true rfl) dX0_readCond_141 (fun v141_0 hw => ?_)
  refine v_aload_n C dX0_readCond_144 0 rfl ?_
  refine v_get (ci := 0) C inT0 0 11 rfl rfl (by decide) mF_X0_43_X0_11 rfl dX0_readCond_145 ?_
  refine v_iload_n C dX0_readCond_148 2 rfl ?_
  refine v_aload_n C dX0_readCond_149 1 rfl ?_
  refine v_sipush (v := 9999) C dX0_readCond_150 (by decide) ?_
  refine v_callVMi (st := [.int y2, .ref ((a0 11))]) (ci := 9) (qb := 12) C (kX9_takeNumber h1 a1 _ _ hw) mM_X0_113 mI_X9 mC_X9_takeNumber mN_X9_takeNumber mS_X9_takeNumber rfl rfl hd_X9_takeNumber ⟨Nat.le_of_ble_eq_true rfl, Nat.le_of_ble_eq_true rfl⟩ ⟨Nat.le_of_ble_eq_true rfl, Nat.le_of_ble_eq_true rfl⟩ [1] [0] (N0 := 2) rfl (by decide) (ms2 := (fun (U : Md) => [wX0 E h0 a0 u0, wX9 E h1 a1 U])) rfl (fun _ => rfl) (fun _ => rfl) (fun _ => rfl) rfl (Nat.le_of_ble_eq_true rfl) dX0_readCond_153 (fun r153 v153_0 hw => ?_)
  obtain ⟨hi156, hw⟩ := hw
  obtain ⟨w156, e156⟩ : ∃ z : Md, z = tA u0 11 y2 r153 := ⟨_, rfl⟩
  have hw := hw w156 e156
  refine v_iast (ws' := [wX0 E h0 a0 w156, wX9 E h1 a1 v153_0].flatten) C 11 rfl hi156 (by rw [e156]; rfl) dX0_readCond_156 ?_
  exact hret _ _ _ _ (w156, v153_0) dX0_readCond_157 hw (Nat.le_of_ble_eq_true rfl) (Nat.le_of_ble_eq_true rfl)
set_option maxHeartbeats 4000000 in
set_option maxRecDepth 100000 in
theorem jX0_readCond_109 {X : VX} {E : VE} {l : Launch} (h0 : Nat) (h1 : Nat) (a0 : Nat → Nat) (a1 : Nat → Nat)  (Q : Md → Md → Prop) (C : VC X cX0_readCond 4 RX0 (rmL 6 0 0) E l) (hret : RetV X cX0_readCond 0 0 (fun (U : Md × Md) => [wX0 E h0 a0 U.1, wX9 E h1 a1 U.2].flatten) (fun (U : Md × Md) => Q U.1 U.2))  : ∀ (u0 : Md) (u1 : Md) (y2 : Int32) (z0 : Int32) (z1 : Int32), qX0_readCond_109 Q u0 u1 y2 z0 z1 → VV X 0 0 ([wX0 E h0 a0 u0, wX9 E h1 a1 u1].flatten) [(0, .ref h0), (1, .ref h1), (2, .int y2)] 109 [.int z0, .int z1, .ref ((a0 10))] := by
  intro u0 u1 y2 z0 z1 hw
  unfold qX0_readCond_109 at hw
  obtain ⟨hi109, hw⟩ := hw
  obtain ⟨w109, e109⟩ : ∃ z : Md, z = tA u0 10 z1 z0 := ⟨_, rfl⟩
  have hw := hw w109 e109
  refine v_iast (ws' := [wX0 E h0 a0 w109, wX9 E h1 a1 u1].flatten) C 10 rfl hi109 (by rw [e109]; rfl) dX0_readCond_109 ?_
  refine v_aload_n C dX0_readCond_110 1 rfl ?_
  refine v_aload_n C dX0_readCond_111 0 rfl ?_
  refine v_get (ci := 0) C inT0 0 10 rfl rfl (by decide) mF_X0_40_X0_10 rfl dX0_readCond_112 ?_
  refine v_iload_n C dX0_readCond_115 2 rfl ?_
  obtain ⟨hi116, hw⟩ := hw
  refine v_iald C 10 rfl hi116 dX0_readCond_116 ?_
  refine v_if_ge (tgt := 125) C dX0_readCond_117 (by decide) (fun hc => ?_) (fun hc => ?_)
  · have hw := hw.1 hc
    refine v_aload_n C dX0_readCond_125 0 rfl ?_
    refine v_get (ci := 0) C inT0 0 10 rfl rfl (by decide) mF_X0_40_X0_10 rfl dX0_readCond_126 ?_
    refine v_iload_n C dX0_readCond_129 2 rfl ?_
    obtain ⟨hi130, hw⟩ := hw
    refine v_iald C 10 rfl hi130 dX0_readCond_130 ?_
    refine v_if_le (tgt := 139) C dX0_readCond_131 (by decide) (fun hc => ?_) (fun hc => ?_)
    · have hw := hw.1 hc
      refine v_bipush (v := 61) C dX0_readCond_139 (by decide) ?_
      exact jX0_readCond_141 h0 h1 a0 a1 Q C hret w109 u1 y2 61 hw
    · have hw := hw.2 hc
      refine v_bipush (v := 62) C dX0_readCond_134 (by decide) ?_
      refine v_goto (tgt := 141) C dX0_readCond_136 (by decide) ?_
      exact jX0_readCond_141 h0 h1 a0 a1 Q C hret w109 u1 y2 62 hw
  · have hw := hw.2 hc
    refine v_bipush (v := 60) C dX0_readCond_120 (by decide) ?_
    refine v_goto (tgt := 141) C dX0_readCond_122 (by decide) ?_
    exact jX0_readCond_141 h0 h1 a0 a1 Q C hret w109 u1 y2 60 hw
set_option maxHeartbeats 4000000 in
set_option maxRecDepth 100000 in
theorem jX0_readCond_70 {X : VX} {E : VE} {l : Launch} (h0 : Nat) (h1 : Nat) (a0 : Nat → Nat) (a1 : Nat → Nat)  (Q : Md → Md → Prop) (C : VC X cX0_readCond 4 RX0 (rmL 6 0 0) E l) (hret : RetV X cX0_readCond 0 0 (fun (U : Md × Md) => [wX0 E h0 a0 U.1, wX9 E h1 a1 U.2].flatten) (fun (U : Md × Md) => Q U.1 U.2))  : ∀ (u0 : Md) (u1 : Md) (y2 : Int32) (y3 : Int32), qX0_readCond_70 Q u0 u1 y2 y3 → VV X 0 0 ([wX0 E h0 a0 u0, wX9 E h1 a1 u1].flatten) [(0, .ref h0), (1, .ref h1), (2, .int y2), (3, .int y3)] 70 [] := by
  intro u0 u1 y2 y3 hw
  unfold qX0_readCond_70 at hw
  refine v_aload_n C dX0_readCond_70 0 rfl ?_
  refine v_get (ci := 0) C inT0 0 9 rfl rfl (by decide) mF_X0_37_X0_9 rfl dX0_readCond_71 ?_
  refine v_iload_n C dX0_readCond_74 2 rfl ?_
  refine v_iload_n C dX0_readCond_75 3 rfl ?_
  obtain ⟨hi76, hw⟩ := hw
  obtain ⟨w76, e76⟩ : ∃ z : Md, z = tA u0 9 y2 y3 := ⟨_, rfl⟩
  have hw := hw w76 e76
  refine v_iast (ws' := [wX0 E h0 a0 w76, wX9 E h1 a1 u1].flatten) C 9 rfl hi76 (by rw [e76]; rfl) dX0_readCond_76 ?_
  refine v_aload_n C dX0_readCond_77 0 rfl ?_
  refine v_get (ci := 0) C inT0 0 10 rfl rfl (by decide) mF_X0_40_X0_10 rfl dX0_readCond_78 ?_
  refine v_iload_n C dX0_readCond_81 2 rfl ?_
  refine v_aload_n C dX0_readCond_82 1 rfl ?_
  refine v_bipush (v := 60) C dX0_readCond_83 (by decide) ?_
  refine v_callVMi (st := [.int y2, .ref ((a0 10))]) (ci := 9) (qb := 12) C (kX9_isSign h1 a1 _ _ hw) mM_X0_131 mI_X9 mC_X9_isSign mN_X9_isSign mS_X9_isSign rfl rfl hd_X9_isSign ⟨Nat.le_of_ble_eq_true rfl, Nat.le_of_ble_eq_true rfl⟩ ⟨Nat.le_of_ble_eq_true rfl, Nat.le_of_ble_eq_true rfl⟩ [1] [0] (N0 := 2) rfl (by decide) (ms2 := (fun (U : Md) => [wX0 E h0 a0 w76, wX9 E h1 a1 U])) rfl (fun _ => rfl) (fun _ => rfl) (fun _ => rfl) rfl (Nat.le_of_ble_eq_true rfl) dX0_readCond_85 (fun r85 v85_0 hw => ?_)
  obtain ⟨h01_85, hw⟩ := hw
  have hw := hw h01_85
  refine v_if_eq (tgt := 95) C dX0_readCond_88 (by decide) (fun hc => ?_) (fun hc => ?_)
  · have hw := hw.1 hc
    refine v_aload_n C dX0_readCond_95 1 rfl ?_
    refine v_bipush (v := 62) C dX0_readCond_96 (by decide) ?_
    refine v_callVMi (st := [.int y2, .ref ((a0 10))]) (ci := 9) (qb := 12) C (kX9_isSign h1 a1 _ _ hw) mM_X0_131 mI_X9 mC_X9_isSign mN_X9_isSign mS_X9_isSign rfl rfl hd_X9_isSign ⟨Nat.le_of_ble_eq_true rfl, Nat.le_of_ble_eq_true rfl⟩ ⟨Nat.le_of_ble_eq_true rfl, Nat.le_of_ble_eq_true rfl⟩ [1] [0] (N0 := 2) rfl (by decide) (ms2 := (fun (U : Md) => [wX0 E h0 a0 w76, wX9 E h1 a1 U])) rfl (fun _ => rfl) (fun _ => rfl) (fun _ => rfl) rfl (Nat.le_of_ble_eq_true rfl) dX0_readCond_98 (fun r98 v98_0 hw => ?_)
    obtain ⟨h01_98, hw⟩ := hw
    have hw := hw h01_98
    refine v_if_eq (tgt := 108) C dX0_readCond_101 (by decide) (fun hc => ?_) (fun hc => ?_)
    · have hw := hw.1 hc
      refine v_iconst (v := 0) C dX0_readCond_108 (by decide) ?_
      refine v_lv C (lv' := [(0, .ref h0), (1, .ref h1), (2, .int y2)]) [0, 1, 2] rfl ?_
      exact jX0_readCond_109 h0 h1 a0 a1 Q C hret w76 v98_0 y2 0 y2 hw
    · have hw := hw.2 hc
      refine v_iconst (v := 1) C dX0_readCond_104 (by decide) ?_
      refine v_goto (tgt := 109) C dX0_readCond_105 (by decide) ?_
      refine v_lv C (lv' := [(0, .ref h0), (1, .ref h1), (2, .int y2)]) [0, 1, 2] rfl ?_
      exact jX0_readCond_109 h0 h1 a0 a1 Q C hret w76 v98_0 y2 1 y2 hw
  · have hw := hw.2 hc
    refine v_iconst (v := (-1)) C dX0_readCond_91 (by decide) ?_
    refine v_goto (tgt := 109) C dX0_readCond_92 (by decide) ?_
    refine v_lv C (lv' := [(0, .ref h0), (1, .ref h1), (2, .int y2)]) [0, 1, 2] rfl ?_
    exact jX0_readCond_109 h0 h1 a0 a1 Q C hret w76 v85_0 y2 ((-1)) y2 hw
set_option maxHeartbeats 4000000 in
set_option maxRecDepth 100000 in
theorem jX0_readCond_55 {X : VX} {E : VE} {l : Launch} (h0 : Nat) (h1 : Nat) (a0 : Nat → Nat) (a1 : Nat → Nat)  (Q : Md → Md → Prop) (C : VC X cX0_readCond 4 RX0 (rmL 6 0 0) E l) (hret : RetV X cX0_readCond 0 0 (fun (U : Md × Md) => [wX0 E h0 a0 U.1, wX9 E h1 a1 U.2].flatten) (fun (U : Md × Md) => Q U.1 U.2))  : ∀ (u0 : Md) (u1 : Md) (y2 : Int32) (y3 : Int32), qX0_readCond_55 Q u0 u1 y2 y3 → VV X 0 0 ([wX0 E h0 a0 u0, wX9 E h1 a1 u1].flatten) [(0, .ref h0), (1, .ref h1), (2, .int y2), (3, .int y3)] 55 [] := by
  intro u0 u1 y2 y3 hw
  unfold qX0_readCond_55 at hw
  refine v_iload_n C dX0_readCond_55 3 rfl ?_
  refine v_iconst (v := 5) C dX0_readCond_56 (by decide) ?_
  refine v_icmp_ne (tgt := 70) C dX0_readCond_57 (by decide) (fun hc => ?_) (fun hc => ?_)
  · have hw := hw.1 hc
    exact jX0_readCond_70 h0 h1 a0 a1 Q C hret u0 u1 y2 y3 hw
  · have hw := hw.2 hc
    refine v_aload_n C dX0_readCond_60 0 rfl ?_
    refine v_get (ci := 0) C inT0 0 3 rfl rfl (by decide) mF_X0_18_X0_3 rfl dX0_readCond_61 ?_
    refine v_aload_n C dX0_readCond_64 0 rfl ?_
    refine v_get (ci := 0) C inT0 0 0 rfl rfl (by decide) mF_X0_51_X0_0 rfl dX0_readCond_65 ?_
    refine v_iconst (v := 1) C dX0_readCond_68 (by decide) ?_
    obtain ⟨hi69, hw⟩ := hw
    obtain ⟨w69, e69⟩ : ∃ z : Md, z = tZ u0 3 (gF u0 0) 1 := ⟨_, rfl⟩
    have hw := hw w69 e69
    refine v_zast (ws' := [wX0 E h0 a0 w69, wX9 E h1 a1 u1].flatten) C 3 rfl hi69 (by rw [e69]; rfl) dX0_readCond_69 ?_
    exact jX0_readCond_70 h0 h1 a0 a1 Q C hret w69 u1 y2 y3 hw
set_option maxHeartbeats 4000000 in
set_option maxRecDepth 100000 in
theorem jX0_readCond_25 {X : VX} {E : VE} {l : Launch} (h0 : Nat) (h1 : Nat) (a0 : Nat → Nat) (a1 : Nat → Nat)  (Q : Md → Md → Prop) (C : VC X cX0_readCond 4 RX0 (rmL 6 0 0) E l) (hret : RetV X cX0_readCond 0 0 (fun (U : Md × Md) => [wX0 E h0 a0 U.1, wX9 E h1 a1 U.2].flatten) (fun (U : Md × Md) => Q U.1 U.2))  : ∀ (u0 : Md) (u1 : Md) (y2 : Int32), qX0_readCond_25 Q u0 u1 y2 → VV X 0 0 ([wX0 E h0 a0 u0, wX9 E h1 a1 u1].flatten) [(0, .ref h0), (1, .ref h1), (2, .int y2)] 25 [] := by
  intro u0 u1 y2 hw
  unfold qX0_readCond_25 at hw
  refine v_aload_n C dX0_readCond_25 1 rfl ?_
  refine v_callSMi (st := []) C (kX0_factOf h1 a1 _ hw) mM_X0_100 mI_X0 mC_X0_factOf mT_X0_factOf hd_X0_factOf ⟨Nat.le_of_ble_eq_true rfl, Nat.le_of_ble_eq_true rfl⟩ ⟨Nat.le_of_ble_eq_true rfl, Nat.le_of_ble_eq_true rfl⟩ [1] [0] (N0 := 2) rfl (by decide) (ms2 := (fun (U : Md) => [wX0 E h0 a0 u0, wX9 E h1 a1 U])) rfl (fun _ => rfl) (fun _ => rfl) (fun _ => rfl) rfl (Nat.le_of_ble_eq_true rfl) dX0_readCond_26 (fun r26 v26_0 hw => ?_)
  refine v_istore_n (lv' := [(3, .int r26), (0, .ref h0), (1, .ref h1), (2, .int y2)]) C dX0_readCond_29 (by decide) rfl ?_
  refine v_iload_n C dX0_readCond_30 0 rfl ?_
  refine v_iconst (v := (-1)) C dX0_readCond_31 (by decide) ?_
  refine v_icmp_ne (tgt := 41) C dX0_readCond_32 (by decide) (fun hc => ?_) (fun hc => ?_)
  · have hw := hw.1 hc
    refine v_aload_n C dX0_readCond_41 2 rfl ?_
    refine v_callVMv (st := []) (ci := 9) (qb := 12) C (kX9_advance h1 a1 _ hw) mM_X0_95 mI_X9 mC_X9_advance mN_X9_advance mS_X9_advance rfl rfl hd_X9_advance ⟨Nat.le_of_ble_eq_true rfl, Nat.le_of_ble_eq_true rfl⟩ ⟨Nat.le_of_ble_eq_true rfl, Nat.le_of_ble_eq_true rfl⟩ [1] [0] (N0 := 2) rfl (by decide) (ms2 := (fun (U : Md) => [wX0 E h0 a0 u0, wX9 E h1 a1 U])) rfl (fun _ => rfl) (fun _ => rfl) (fun _ => rfl) rfl (Nat.le_of_ble_eq_true rfl) dX0_readCond_42 (fun v42_0 hw => ?_)
    refine v_iload_n C dX0_readCond_45 0 rfl ?_
    refine v_if_ne (tgt := 55) C dX0_readCond_46 (by decide) (fun hc => ?_) (fun hc => ?_)
    · have hw := hw.1 hc
      refine v_lv C (lv' := [(0, .ref h0), (1, .ref h1), (2, .int y2), (3, .int r26)]) [1, 2, 3, 0] rfl ?_
      exact jX0_readCond_55 h0 h1 a0 a1 Q C hret u0 v42_0 y2 r26 hw
    · have hw := hw.2 hc
      refine v_aload_n C dX0_readCond_49 2 rfl ?_
      refine v_iconst (v := 2) C dX0_readCond_50 (by decide) ?_
      refine v_callVMi (st := []) (ci := 9) (qb := 12) C (kX9_takeNumber h1 a1 _ _ hw) mM_X0_113 mI_X9 mC_X9_takeNumber mN_X9_takeNumber mS_X9_takeNumber rfl rfl hd_X9_takeNumber ⟨Nat.le_of_ble_eq_true rfl, Nat.le_of_ble_eq_true rfl⟩ ⟨Nat.le_of_ble_eq_true rfl, Nat.le_of_ble_eq_true rfl⟩ [1] [0] (N0 := 2) rfl (by decide) (ms2 := (fun (U : Md) => [wX0 E h0 a0 u0, wX9 E h1 a1 U])) rfl (fun _ => rfl) (fun _ => rfl) (fun _ => rfl) rfl (Nat.le_of_ble_eq_true rfl) dX0_readCond_51 (fun r51 v51_0 hw => ?_)
      refine v_istore_n (lv' := [(3, .int r51), (0, .ref h0), (1, .ref h1), (2, .int y2)]) C dX0_readCond_54 (by decide) rfl ?_
      refine v_lv C (lv' := [(0, .ref h0), (1, .ref h1), (2, .int y2), (3, .int r51)]) [1, 2, 3, 0] rfl ?_
      exact jX0_readCond_55 h0 h1 a0 a1 Q C hret u0 v51_0 y2 r51 hw
  · have hw := hw.2 hc
    refine v_aload_n C dX0_readCond_35 2 rfl ?_
    refine v_iconst (v := 1) C dX0_readCond_36 (by decide) ?_
    refine v_callVMv (st := []) (ci := 9) (qb := 12) C (kX9_blame h1 a1 _ _ hw) mM_X0_63 mI_X9 mC_X9_blame mN_X9_blame mS_X9_blame rfl rfl hd_X9_blame ⟨Nat.le_of_ble_eq_true rfl, Nat.le_of_ble_eq_true rfl⟩ ⟨Nat.le_of_ble_eq_true rfl, Nat.le_of_ble_eq_true rfl⟩ [1] [0] (N0 := 2) rfl (by decide) (ms2 := (fun (U : Md) => [wX0 E h0 a0 u0, wX9 E h1 a1 U])) rfl (fun _ => rfl) (fun _ => rfl) (fun _ => rfl) rfl (Nat.le_of_ble_eq_true rfl) dX0_readCond_37 (fun v37_0 hw => ?_)
    exact hret _ _ _ _ (u0, v37_0) dX0_readCond_40 hw (Nat.le_of_ble_eq_true rfl) (Nat.le_of_ble_eq_true rfl)
set_option maxHeartbeats 4000000 in
set_option maxRecDepth 100000 in
theorem kX0_readCond {l : Launch} {E : VE} (h0 : Nat) (h1 : Nat) (a0 : Nat → Nat) (a1 : Nat → Nat) (u0 : Md) (u1 : Md) (x2 : Int32) {Q : Md → Md → Prop} (hw : qX0_readCond u0 u1 x2 Q) : MV l yX0_readCond cX0_readCond 4 6 0 0 E [.ref h0, .ref h1, .int x2] ([wX0 E h0 a0 u0, wX9 E h1 a1 u1].flatten) (fun (U : Md × Md) => [wX0 E h0 a0 U.1, wX9 E h1 a1 U.2].flatten) (fun (U : Md × Md) => Q U.1 U.2) := by
  refine MV.of (own := RX0) (by decide) rfl (Nat.le_of_ble_eq_true rfl) ?_
  intro X C hini hret
  show VV X 0 0 ([wX0 E h0 a0 u0, wX9 E h1 a1 u1].flatten) [(0, .ref h0), (1, .ref h1), (2, .int x2)] 0 []
  unfold qX0_readCond at hw
  refine v_aload_n C dX0_readCond_0 0 rfl ?_
  refine v_get (ci := 0) C inT0 0 8 rfl rfl (by decide) mF_X0_34_X0_8 rfl dX0_readCond_1 ?_
  refine v_iload_n C dX0_readCond_4 2 rfl ?_
  refine v_aload_n C dX0_readCond_5 1 rfl ?_
  refine v_ldcS C (tx := "not") 11 (by decide) dX0_readCond_6 ?_
  refine v_callVMi (st := [.int x2, .ref ((a0 8))]) (ci := 9) (qb := 12) C (kX9_isWord h1 a1 _ _ (by decide) hw) mM_X0_76 mI_X9 mC_X9_isWord mN_X9_isWord mS_X9_isWord rfl rfl hd_X9_isWord ⟨Nat.le_of_ble_eq_true rfl, Nat.le_of_ble_eq_true rfl⟩ ⟨Nat.le_of_ble_eq_true rfl, Nat.le_of_ble_eq_true rfl⟩ [1] [0] (N0 := 2) rfl (by decide) (ms2 := (fun (U : Md) => [wX0 E h0 a0 u0, wX9 E h1 a1 U])) rfl (fun _ => rfl) (fun _ => rfl) (fun _ => rfl) rfl (Nat.le_of_ble_eq_true rfl) dX0_readCond_8 (fun r8 v8_0 hw => ?_)
  obtain ⟨h01_8, hw⟩ := hw
  have hw := hw h01_8
  obtain ⟨hi11, hw⟩ := hw
  obtain ⟨w11, e11⟩ : ∃ z : Md, z = tZ u0 8 x2 r8 := ⟨_, rfl⟩
  have hw := hw w11 e11
  refine v_zast (ws' := [wX0 E h0 a0 w11, wX9 E h1 a1 v8_0].flatten) C 8 rfl hi11 (by rw [e11]; rfl) dX0_readCond_11 ?_
  refine v_aload_n C dX0_readCond_12 0 rfl ?_
  refine v_get (ci := 0) C inT0 0 8 rfl rfl (by decide) mF_X0_34_X0_8 rfl dX0_readCond_13 ?_
  refine v_iload_n C dX0_readCond_16 2 rfl ?_
  obtain ⟨hi17, hw⟩ := hw
  refine v_zald C 8 rfl hi17 dX0_readCond_17 ?_
  refine v_if_eq (tgt := 25) C dX0_readCond_18 (by decide) (fun hc => ?_) (fun hc => ?_)
  · have hw := hw.1 hc
    exact jX0_readCond_25 h0 h1 a0 a1 Q C hret w11 v8_0 x2 hw
  · have hw := hw.2 hc
    refine v_aload_n C dX0_readCond_21 1 rfl ?_
    refine v_callVMv (st := []) (ci := 9) (qb := 12) C (kX9_advance h1 a1 _ hw) mM_X0_95 mI_X9 mC_X9_advance mN_X9_advance mS_X9_advance rfl rfl hd_X9_advance ⟨Nat.le_of_ble_eq_true rfl, Nat.le_of_ble_eq_true rfl⟩ ⟨Nat.le_of_ble_eq_true rfl, Nat.le_of_ble_eq_true rfl⟩ [1] [0] (N0 := 2) rfl (by decide) (ms2 := (fun (U : Md) => [wX0 E h0 a0 w11, wX9 E h1 a1 U])) rfl (fun _ => rfl) (fun _ => rfl) (fun _ => rfl) rfl (Nat.le_of_ble_eq_true rfl) dX0_readCond_22 (fun v22_0 hw => ?_)
    exact jX0_readCond_25 h0 h1 a0 a1 Q C hret w11 v22_0 x2 hw
set_option maxHeartbeats 4000000 in
set_option maxRecDepth 100000 in
theorem jX0_readLine_131 {X : VX} {E : VE} {l : Launch} (h0 : Nat) (h1 : Nat) (a0 : Nat → Nat) (a1 : Nat → Nat)  (Q : Md → Md → Prop) (C : VC X cX0_readLine 6 RX0 (rmL 7 0 0) E l) (hret : RetV X cX0_readLine 0 0 (fun (U : Md × Md) => [wX0 E h0 a0 U.1, wX9 E h1 a1 U.2].flatten) (fun (U : Md × Md) => Q U.1 U.2))  : ∀ (u0 : Md) (u1 : Md), qX0_readLine_131 Q u0 u1 → VV X 0 0 ([wX0 E h0 a0 u0, wX9 E h1 a1 u1].flatten) [(1, .ref h1)] 131 [] := by
  intro u0 u1 hw
  unfold qX0_readLine_131 at hw
  refine v_aload_n C dX0_readLine_131 0 rfl ?_
  refine v_bipush (v := 59) C dX0_readLine_132 (by decide) ?_
  refine v_callVMv (st := []) (ci := 9) (qb := 12) C (kX9_takeSign h1 a1 _ _ hw) mM_X0_109 mI_X9 mC_X9_takeSign mN_X9_takeSign mS_X9_takeSign rfl rfl hd_X9_takeSign ⟨Nat.le_of_ble_eq_true rfl, Nat.le_of_ble_eq_true rfl⟩ ⟨Nat.le_of_ble_eq_true rfl, Nat.le_of_ble_eq_true rfl⟩ [1] [0] (N0 := 2) rfl (by decide) (ms2 := (fun (U : Md) => [wX0 E h0 a0 u0, wX9 E h1 a1 U])) rfl (fun _ => rfl) (fun _ => rfl) (fun _ => rfl) rfl (Nat.le_of_ble_eq_true rfl) dX0_readLine_134 (fun v134_0 hw => ?_)
  exact hret _ _ _ _ (u0, v134_0) dX0_readLine_137 hw (Nat.le_of_ble_eq_true rfl) (Nat.le_of_ble_eq_true rfl)
set_option maxHeartbeats 4000000 in
set_option maxRecDepth 100000 in
theorem jX0_readLine_117 {X : VX} {E : VE} {l : Launch} (h0 : Nat) (h1 : Nat) (a0 : Nat → Nat) (a1 : Nat → Nat)  (Q : Md → Md → Prop) (C : VC X cX0_readLine 6 RX0 (rmL 7 0 0) E l) (hret : RetV X cX0_readLine 0 0 (fun (U : Md × Md) => [wX0 E h0 a0 U.1, wX9 E h1 a1 U.2].flatten) (fun (U : Md × Md) => Q U.1 U.2)) (K35 : Md → Md → Int32 → Int32 → Int32 → Prop) (hK35 : ∀ (u0 : Md) (u1 : Md) (y2 : Int32) (y4 : Int32) (y5 : Int32), K35 u0 u1 y2 y4 y5 → VV X 0 0 ([wX0 E h0 a0 u0, wX9 E h1 a1 u1].flatten) [(0, .ref h0), (1, .ref h1), (2, .int y2), (4, .int y4), (5, .int y5)] 35 []) : ∀ (u0 : Md) (u1 : Md) (y2 : Int32) (y5 : Int32), qX0_readLine_117 Q K35 u0 u1 y2 y5 → VV X 0 0 ([wX0 E h0 a0 u0, wX9 E h1 a1 u1].flatten) [(0, .ref h0), (1, .ref h1), (2, .int y2), (5, .int y5)] 117 [] := by
  intro u0 u1 y2 y5 hw
  unfold qX0_readLine_117 at hw
  refine v_aload_n C dX0_readLine_117 1 rfl ?_
  refine v_ldcS C (tx := "and") 10 (by decide) dX0_readLine_118 ?_
  refine v_callVMi (st := []) (ci := 9) (qb := 12) C (kX9_isWord h1 a1 _ _ (by decide) hw) mM_X0_76 mI_X9 mC_X9_isWord mN_X9_isWord mS_X9_isWord rfl rfl hd_X9_isWord ⟨Nat.le_of_ble_eq_true rfl, Nat.le_of_ble_eq_true rfl⟩ ⟨Nat.le_of_ble_eq_true rfl, Nat.le_of_ble_eq_true rfl⟩ [1] [0] (N0 := 2) rfl (by decide) (ms2 := (fun (U : Md) => [wX0 E h0 a0 u0, wX9 E h1 a1 U])) rfl (fun _ => rfl) (fun _ => rfl) (fun _ => rfl) rfl (Nat.le_of_ble_eq_true rfl) dX0_readLine_120 (fun r120 v120_0 hw => ?_)
  obtain ⟨h01_120, hw⟩ := hw
  have hw := hw h01_120
  refine v_istore (lv' := [(4, .int r120), (0, .ref h0), (1, .ref h1), (2, .int y2), (5, .int y5)]) C dX0_readLine_123 (by decide) rfl ?_
  refine v_iinc (lv' := [(5, .int (y5 + Int32.ofInt 1)), (4, .int r120), (0, .ref h0), (1, .ref h1), (2, .int y2)]) C dX0_readLine_125 4 rfl (by decide) rfl ?_
  refine v_goto (tgt := 35) C dX0_readLine_128 (by decide) ?_
  refine v_lv C (lv' := [(0, .ref h0), (1, .ref h1), (2, .int y2), (4, .int r120), (5, .int (y5 + Int32.ofInt 1))]) [2, 3, 4, 1, 0] rfl ?_
  exact hK35 u0 v120_0 y2 r120 (y5 + Int32.ofInt 1) hw
set_option maxHeartbeats 4000000 in
set_option maxRecDepth 100000 in
theorem jX0_readLine_82 {X : VX} {E : VE} {l : Launch} (h0 : Nat) (h1 : Nat) (a0 : Nat → Nat) (a1 : Nat → Nat)  (Q : Md → Md → Prop) (C : VC X cX0_readLine 6 RX0 (rmL 7 0 0) E l) (hret : RetV X cX0_readLine 0 0 (fun (U : Md × Md) => [wX0 E h0 a0 U.1, wX9 E h1 a1 U.2].flatten) (fun (U : Md × Md) => Q U.1 U.2)) (K35 : Md → Md → Int32 → Int32 → Int32 → Prop) (hK35 : ∀ (u0 : Md) (u1 : Md) (y2 : Int32) (y4 : Int32) (y5 : Int32), K35 u0 u1 y2 y4 y5 → VV X 0 0 ([wX0 E h0 a0 u0, wX9 E h1 a1 u1].flatten) [(0, .ref h0), (1, .ref h1), (2, .int y2), (4, .int y4), (5, .int y5)] 35 []) : ∀ (u0 : Md) (u1 : Md) (y2 : Int32) (y5 : Int32), qX0_readLine_82 Q K35 u0 u1 y2 y5 → VV X 0 0 ([wX0 E h0 a0 u0, wX9 E h1 a1 u1].flatten) [(0, .ref h0), (1, .ref h1), (2, .int y2), (5, .int y5)] 82 [] := by
  intro u0 u1 y2 y5 hw
  unfold qX0_readLine_82 at hw
  refine v_iload C dX0_readLine_82 3 rfl ?_
  refine v_iconst (v := 4) C dX0_readLine_84 (by decide) ?_
  refine v_icmp_lt (tgt := 96) C dX0_readLine_85 (by decide) (fun hc => ?_) (fun hc => ?_)
  · have hw := hw.1 hc
    refine v_aload_n C dX0_readLine_96 0 rfl ?_
    refine v_aload_n C dX0_readLine_97 1 rfl ?_
    refine v_iload_n C dX0_readLine_98 2 rfl ?_
    refine v_iconst (v := 4) C dX0_readLine_99 (by decide) ?_
    refine v_imul C dX0_readLine_100 ?_
    refine v_iload C dX0_readLine_101 3 rfl ?_
    refine v_iadd C dX0_readLine_103 ?_
    refine v_callFv (st := []) (ci := 0) (qb := 0) C (kX0_readCond h0 h1 a0 a1 _ _ _ hw) mM_X0_103 mI_X0 mC_X0_readCond mN_X0_readCond mS_X0_readCond rfl rfl hd_X0_readCond ⟨Nat.le_of_ble_eq_true rfl, Nat.le_of_ble_eq_true rfl⟩ ⟨Nat.le_of_ble_eq_true rfl, Nat.le_of_ble_eq_true rfl⟩ rfl (Nat.le_of_ble_eq_true rfl) dX0_readLine_104 (fun U104 hw => ?_)
    obtain ⟨v104_0, v104_1⟩ := U104
    refine v_aload_n C dX0_readLine_107 0 rfl ?_
    refine v_get (ci := 0) C inT0 0 7 rfl rfl (by decide) mF_X0_31_X0_7 rfl dX0_readLine_108 ?_
    refine v_iload_n C dX0_readLine_111 2 rfl ?_
    refine v_iload C dX0_readLine_112 3 rfl ?_
    refine v_iconst (v := 1) C dX0_readLine_114 (by decide) ?_
    refine v_iadd C dX0_readLine_115 ?_
    obtain ⟨hi116, hw⟩ := hw
    obtain ⟨w116, e116⟩ : ∃ z : Md, z = tA v104_0 7 y2 (y5 + 1) := ⟨_, rfl⟩
    have hw := hw w116 e116
    refine v_iast (ws' := [wX0 E h0 a0 w116, wX9 E h1 a1 v104_1].flatten) C 7 rfl hi116 (by rw [e116]; rfl) dX0_readLine_116 ?_
    exact jX0_readLine_117 h0 h1 a0 a1 Q C hret K35 hK35 w116 v104_1 y2 y5 hw
  · have hw := hw.2 hc
    refine v_aload_n C dX0_readLine_88 1 rfl ?_
    refine v_iconst (v := 3) C dX0_readLine_89 (by decide) ?_
    refine v_callVMv (st := []) (ci := 9) (qb := 12) C (kX9_blame h1 a1 _ _ hw) mM_X0_63 mI_X9 mC_X9_blame mN_X9_blame mS_X9_blame rfl rfl hd_X9_blame ⟨Nat.le_of_ble_eq_true rfl, Nat.le_of_ble_eq_true rfl⟩ ⟨Nat.le_of_ble_eq_true rfl, Nat.le_of_ble_eq_true rfl⟩ [1] [0] (N0 := 2) rfl (by decide) (ms2 := (fun (U : Md) => [wX0 E h0 a0 u0, wX9 E h1 a1 U])) rfl (fun _ => rfl) (fun _ => rfl) (fun _ => rfl) rfl (Nat.le_of_ble_eq_true rfl) dX0_readLine_90 (fun v90_0 hw => ?_)
    refine v_goto (tgt := 117) C dX0_readLine_93 (by decide) ?_
    exact jX0_readLine_117 h0 h1 a0 a1 Q C hret K35 hK35 u0 v90_0 y2 y5 hw
set_option maxHeartbeats 4000000 in
set_option maxRecDepth 100000 in
theorem jX0_readLine_35 {X : VX} {E : VE} {l : Launch} (h0 : Nat) (h1 : Nat) (a0 : Nat → Nat) (a1 : Nat → Nat)  (Q : Md → Md → Prop) (C : VC X cX0_readLine 6 RX0 (rmL 7 0 0) E l) (hret : RetV X cX0_readLine 0 0 (fun (U : Md × Md) => [wX0 E h0 a0 U.1, wX9 E h1 a1 U.2].flatten) (fun (U : Md × Md) => Q U.1 U.2))  : ∀ (n : Nat), ∀ (u0 : Md) (u1 : Md) (y2 : Int32) (y4 : Int32) (y5 : Int32), qX0_readLine_35 Q n u0 u1 y2 y4 y5 → VV X 0 0 ([wX0 E h0 a0 u0, wX9 E h1 a1 u1].flatten) [(0, .ref h0), (1, .ref h1), (2, .int y2), (4, .int y4), (5, .int y5)] 35 [] := by
  intro n
  induction n with
  | zero =>
    intro u0 u1 y2 y4 y5 hw
    exact hw.elim
  | succ n ih =>
    intro u0 u1 y2 y4 y5 hw
    unfold qX0_readLine_35 at hw
    refine v_iload C dX0_readLine_35 4 rfl ?_
    refine v_iconst (v := 4) C dX0_readLine_37 (by decide) ?_
    refine v_icmp_gt (tgt := 131) C dX0_readLine_38 (by decide) (fun hc => ?_) (fun hc => ?_)
    · have hw := hw.1 hc
      refine v_lv C (lv' := [(1, .ref h1)]) [1] rfl ?_
      exact jX0_readLine_131 h0 h1 a0 a1 Q C hret u0 u1 hw
    · have hw := hw.2 hc
      refine v_iload C dX0_readLine_41 3 rfl ?_
      refine v_if_eq (tgt := 131) C dX0_readLine_43 (by decide) (fun hc => ?_) (fun hc => ?_)
      · have hw := hw.1 hc
        refine v_lv C (lv' := [(1, .ref h1)]) [1] rfl ?_
        exact jX0_readLine_131 h0 h1 a0 a1 Q C hret u0 u1 hw
      · have hw := hw.2 hc
        refine v_aload_n C dX0_readLine_46 1 rfl ?_
        refine v_get (ci := 9) C inT9 12 2 rfl rfl (by decide) mF_X0_71_X9_2 rfl dX0_readLine_47 ?_
        refine v_if_ne (tgt := 131) C dX0_readLine_50 (by decide) (fun hc => ?_) (fun hc => ?_)
        · have hw := hw.1 hc
          refine v_lv C (lv' := [(1, .ref h1)]) [1] rfl ?_
          exact jX0_readLine_131 h0 h1 a0 a1 Q C hret u0 u1 hw
        · have hw := hw.2 hc
          refine v_aload_n C dX0_readLine_53 1 rfl ?_
          refine v_callVMv (st := []) (ci := 9) (qb := 12) C (kX9_advance h1 a1 _ hw) mM_X0_95 mI_X9 mC_X9_advance mN_X9_advance mS_X9_advance rfl rfl hd_X9_advance ⟨Nat.le_of_ble_eq_true rfl, Nat.le_of_ble_eq_true rfl⟩ ⟨Nat.le_of_ble_eq_true rfl, Nat.le_of_ble_eq_true rfl⟩ [1] [0] (N0 := 2) rfl (by decide) (ms2 := (fun (U : Md) => [wX0 E h0 a0 u0, wX9 E h1 a1 U])) rfl (fun _ => rfl) (fun _ => rfl) (fun _ => rfl) rfl (Nat.le_of_ble_eq_true rfl) dX0_readLine_54 (fun v54_0 hw => ?_)
          refine v_aload_n C dX0_readLine_57 1 rfl ?_
          refine v_ldcS C (tx := "not") 11 (by decide) dX0_readLine_58 ?_
          refine v_callVMi (st := []) (ci := 9) (qb := 12) C (kX9_isWord h1 a1 _ _ (by decide) hw) mM_X0_76 mI_X9 mC_X9_isWord mN_X9_isWord mS_X9_isWord rfl rfl hd_X9_isWord ⟨Nat.le_of_ble_eq_true rfl, Nat.le_of_ble_eq_true rfl⟩ ⟨Nat.le_of_ble_eq_true rfl, Nat.le_of_ble_eq_true rfl⟩ [1] [0] (N0 := 2) rfl (by decide) (ms2 := (fun (U : Md) => [wX0 E h0 a0 u0, wX9 E h1 a1 U])) rfl (fun _ => rfl) (fun _ => rfl) (fun _ => rfl) rfl (Nat.le_of_ble_eq_true rfl) dX0_readLine_60 (fun r60 v60_0 hw => ?_)
          obtain ⟨h01_60, hw⟩ := hw
          have hw := hw h01_60
          refine v_if_ne (tgt := 82) C dX0_readLine_63 (by decide) (fun hc => ?_) (fun hc => ?_)
          · have hw := hw.1 hc
            refine v_lv C (lv' := [(0, .ref h0), (1, .ref h1), (2, .int y2), (5, .int y5)]) [0, 1, 2, 4] rfl ?_
            exact jX0_readLine_82 h0 h1 a0 a1 Q C hret (qX0_readLine_35 Q n) ih u0 v60_0 y2 y5 hw
          · have hw := hw.2 hc
            refine v_aload_n C dX0_readLine_66 1 rfl ?_
            refine v_callSMi (st := []) C (kX0_factOf h1 a1 _ hw) mM_X0_100 mI_X0 mC_X0_factOf mT_X0_factOf hd_X0_factOf ⟨Nat.le_of_ble_eq_true rfl, Nat.le_of_ble_eq_true rfl⟩ ⟨Nat.le_of_ble_eq_true rfl, Nat.le_of_ble_eq_true rfl⟩ [1] [0] (N0 := 2) rfl (by decide) (ms2 := (fun (U : Md) => [wX0 E h0 a0 u0, wX9 E h1 a1 U])) rfl (fun _ => rfl) (fun _ => rfl) (fun _ => rfl) rfl (Nat.le_of_ble_eq_true rfl) dX0_readLine_67 (fun r67 v67_0 hw => ?_)
            refine v_iconst (v := (-1)) C dX0_readLine_70 (by decide) ?_
            refine v_icmp_ne (tgt := 82) C dX0_readLine_71 (by decide) (fun hc => ?_) (fun hc => ?_)
            · have hw := hw.1 hc
              refine v_lv C (lv' := [(0, .ref h0), (1, .ref h1), (2, .int y2), (5, .int y5)]) [0, 1, 2, 4] rfl ?_
              exact jX0_readLine_82 h0 h1 a0 a1 Q C hret (qX0_readLine_35 Q n) ih u0 v67_0 y2 y5 hw
            · have hw := hw.2 hc
              refine v_aload_n C dX0_readLine_74 1 rfl ?_
              refine v_iconst (v := 1) C dX0_readLine_75 (by decide) ?_
              refine v_callVMv (st := []) (ci := 9) (qb := 12) C (kX9_blame h1 a1 _ _ hw) mM_X0_63 mI_X9 mC_X9_blame mN_X9_blame mS_X9_blame rfl rfl hd_X9_blame ⟨Nat.le_of_ble_eq_true rfl, Nat.le_of_ble_eq_true rfl⟩ ⟨Nat.le_of_ble_eq_true rfl, Nat.le_of_ble_eq_true rfl⟩ [1] [0] (N0 := 2) rfl (by decide) (ms2 := (fun (U : Md) => [wX0 E h0 a0 u0, wX9 E h1 a1 U])) rfl (fun _ => rfl) (fun _ => rfl) (fun _ => rfl) rfl (Nat.le_of_ble_eq_true rfl) dX0_readLine_76 (fun v76_0 hw => ?_)
              refine v_goto (tgt := 117) C dX0_readLine_79 (by decide) ?_
              refine v_lv C (lv' := [(0, .ref h0), (1, .ref h1), (2, .int y2), (5, .int y5)]) [0, 1, 2, 4] rfl ?_
              exact jX0_readLine_117 h0 h1 a0 a1 Q C hret (qX0_readLine_35 Q n) ih u0 v76_0 y2 y5 hw
set_option maxHeartbeats 4000000 in
set_option maxRecDepth 100000 in
theorem jX0_readLine_29 {X : VX} {E : VE} {l : Launch} (h0 : Nat) (h1 : Nat) (a0 : Nat → Nat) (a1 : Nat → Nat)  (Q : Md → Md → Prop) (C : VC X cX0_readLine 6 RX0 (rmL 7 0 0) E l) (hret : RetV X cX0_readLine 0 0 (fun (U : Md × Md) => [wX0 E h0 a0 U.1, wX9 E h1 a1 U.2].flatten) (fun (U : Md × Md) => Q U.1 U.2))  : ∀ (u0 : Md) (u1 : Md) (y2 : Int32), qX0_readLine_29 Q u0 u1 y2 → VV X 0 0 ([wX0 E h0 a0 u0, wX9 E h1 a1 u1].flatten) [(0, .ref h0), (1, .ref h1), (2, .int y2)] 29 [] := by
  intro u0 u1 y2 hw
  unfold qX0_readLine_29 at hw
  refine v_iconst (v := 0) C dX0_readLine_29 (by decide) ?_
  refine v_istore (lv' := [(4, .int 0), (0, .ref h0), (1, .ref h1), (2, .int y2)]) C dX0_readLine_30 (by decide) rfl ?_
  refine v_iconst (v := 0) C dX0_readLine_32 (by decide) ?_
  refine v_istore (lv' := [(5, .int 0), (4, .int 0), (0, .ref h0), (1, .ref h1), (2, .int y2)]) C dX0_readLine_33 (by decide) rfl ?_
  refine v_lv C (lv' := [(0, .ref h0), (1, .ref h1), (2, .int y2), (4, .int 0), (5, .int 0)]) [2, 3, 4, 1, 0] rfl ?_
  obtain ⟨n', hw⟩ := hw
  exact jX0_readLine_35 h0 h1 a0 a1 Q C hret n' u0 u1 y2 0 0 hw
set_option maxHeartbeats 4000000 in
set_option maxRecDepth 100000 in
theorem jX0_readLine_16 {X : VX} {E : VE} {l : Launch} (h0 : Nat) (h1 : Nat) (a0 : Nat → Nat) (a1 : Nat → Nat)  (Q : Md → Md → Prop) (C : VC X cX0_readLine 6 RX0 (rmL 7 0 0) E l) (hret : RetV X cX0_readLine 0 0 (fun (U : Md × Md) => [wX0 E h0 a0 U.1, wX9 E h1 a1 U.2].flatten) (fun (U : Md × Md) => Q U.1 U.2))  : ∀ (u0 : Md) (u1 : Md) (y2 : Int32), qX0_readLine_16 Q u0 u1 y2 → VV X 0 0 ([wX0 E h0 a0 u0, wX9 E h1 a1 u1].flatten) [(0, .ref h0), (1, .ref h1), (2, .int y2)] 16 [] := by
  intro u0 u1 y2 hw
  unfold qX0_readLine_16 at hw
  refine v_aload_n C dX0_readLine_16 1 rfl ?_
  refine v_ldcS C (tx := "if") 9 (by decide) dX0_readLine_17 ?_
  refine v_callVMi (st := []) (ci := 9) (qb := 12) C (kX9_isWord h1 a1 _ _ (by decide) hw) mM_X0_76 mI_X9 mC_X9_isWord mN_X9_isWord mS_X9_isWord rfl rfl hd_X9_isWord ⟨Nat.le_of_ble_eq_true rfl, Nat.le_of_ble_eq_true rfl⟩ ⟨Nat.le_of_ble_eq_true rfl, Nat.le_of_ble_eq_true rfl⟩ [1] [0] (N0 := 2) rfl (by decide) (ms2 := (fun (U : Md) => [wX0 E h0 a0 u0, wX9 E h1 a1 U])) rfl (fun _ => rfl) (fun _ => rfl) (fun _ => rfl) rfl (Nat.le_of_ble_eq_true rfl) dX0_readLine_19 (fun r19 v19_0 hw => ?_)
  obtain ⟨h01_19, hw⟩ := hw
  have hw := hw h01_19
  refine v_if_eq (tgt := 29) C dX0_readLine_22 (by decide) (fun hc => ?_) (fun hc => ?_)
  · have hw := hw.1 hc
    exact jX0_readLine_29 h0 h1 a0 a1 Q C hret u0 v19_0 y2 hw
  · have hw := hw.2 hc
    refine v_iconst (v := 1) C dX0_readLine_25 (by decide) ?_
    refine v_goto (tgt := 30) C dX0_readLine_26 (by decide) ?_
    refine v_istore (lv' := [(4, .int 1), (0, .ref h0), (1, .ref h1), (2, .int y2)]) C dX0_readLine_30 (by decide) rfl ?_
    refine v_iconst (v := 0) C dX0_readLine_32 (by decide) ?_
    refine v_istore (lv' := [(5, .int 0), (4, .int 1), (0, .ref h0), (1, .ref h1), (2, .int y2)]) C dX0_readLine_33 (by decide) rfl ?_
    refine v_lv C (lv' := [(0, .ref h0), (1, .ref h1), (2, .int y2), (4, .int 1), (5, .int 0)]) [2, 3, 4, 1, 0] rfl ?_
    obtain ⟨n', hw⟩ := hw
    exact jX0_readLine_35 h0 h1 a0 a1 Q C hret n' u0 v19_0 y2 1 0 hw
set_option maxHeartbeats 4000000 in
set_option maxRecDepth 100000 in
theorem kX0_readLine {l : Launch} {E : VE} (h0 : Nat) (h1 : Nat) (a0 : Nat → Nat) (a1 : Nat → Nat) (u0 : Md) (u1 : Md) (x2 : Int32) (x3 : Int32) {Q : Md → Md → Prop} (hw : qX0_readLine u0 u1 x2 x3 Q) : MV l yX0_readLine cX0_readLine 6 7 0 0 E [.ref h0, .ref h1, .int x2, .int x3] ([wX0 E h0 a0 u0, wX9 E h1 a1 u1].flatten) (fun (U : Md × Md) => [wX0 E h0 a0 U.1, wX9 E h1 a1 U.2].flatten) (fun (U : Md × Md) => Q U.1 U.2) := by
  refine MV.of (own := RX0) (by decide) rfl (Nat.le_of_ble_eq_true rfl) ?_
  intro X C hini hret
  show VV X 0 0 ([wX0 E h0 a0 u0, wX9 E h1 a1 u1].flatten) [(0, .ref h0), (1, .ref h1), (2, .int x2), (3, .int x3)] 0 []
  unfold qX0_readLine at hw
  refine v_aload_n C dX0_readLine_0 0 rfl ?_
  refine v_aload_n C dX0_readLine_1 1 rfl ?_
  refine v_iload_n C dX0_readLine_2 2 rfl ?_
  refine v_iload_n C dX0_readLine_3 3 rfl ?_
  refine v_callFv (st := []) (ci := 0) (qb := 0) C (kX0_readHead h0 h1 a0 a1 _ _ _ _ hw) mM_X0_90 mI_X0 mC_X0_readHead mN_X0_readHead mS_X0_readHead rfl rfl hd_X0_readHead ⟨Nat.le_of_ble_eq_true rfl, Nat.le_of_ble_eq_true rfl⟩ ⟨Nat.le_of_ble_eq_true rfl, Nat.le_of_ble_eq_true rfl⟩ rfl (Nat.le_of_ble_eq_true rfl) dX0_readLine_4 (fun U4 hw => ?_)
  obtain ⟨v4_0, v4_1⟩ := U4
  refine v_iload_n C dX0_readLine_7 3 rfl ?_
  refine v_if_eq (tgt := 16) C dX0_readLine_8 (by decide) (fun hc => ?_) (fun hc => ?_)
  · have hw := hw.1 hc
    refine v_lv C (lv' := [(0, .ref h0), (1, .ref h1), (2, .int x2)]) [0, 1, 2] rfl ?_
    exact jX0_readLine_16 h0 h1 a0 a1 Q C hret v4_0 v4_1 x2 hw
  · have hw := hw.2 hc
    refine v_iload_n C dX0_readLine_11 3 rfl ?_
    refine v_iconst (v := 1) C dX0_readLine_12 (by decide) ?_
    refine v_icmp_ne (tgt := 29) C dX0_readLine_13 (by decide) (fun hc => ?_) (fun hc => ?_)
    · have hw := hw.1 hc
      refine v_lv C (lv' := [(0, .ref h0), (1, .ref h1), (2, .int x2)]) [0, 1, 2] rfl ?_
      exact jX0_readLine_29 h0 h1 a0 a1 Q C hret v4_0 v4_1 x2 hw
    · have hw := hw.2 hc
      refine v_lv C (lv' := [(0, .ref h0), (1, .ref h1), (2, .int x2)]) [0, 1, 2] rfl ?_
      exact jX0_readLine_16 h0 h1 a0 a1 Q C hret v4_0 v4_1 x2 hw
set_option maxHeartbeats 4000000 in
set_option maxRecDepth 100000 in
theorem jX0_readAct_92 {X : VX} {E : VE} {l : Launch} (h0 : Nat) (h1 : Nat) (a0 : Nat → Nat) (a1 : Nat → Nat)  (Q : Int32 → Md → Md → Prop) (C : VC X cX0_readAct 6 RX0 (rmL 8 0 0) E l) (hret : RetI X cX0_readAct .int 0 0 (fun (U : Md × Md) => [wX0 E h0 a0 U.1, wX9 E h1 a1 U.2].flatten) (fun (r : Int32) (U : Md × Md) => Q r U.1 U.2))  : ∀ (u0 : Md) (u1 : Md) (y2 : Int32) (y3 : Int32), qX0_readAct_92 Q u0 u1 y2 y3 → VV X 0 0 ([wX0 E h0 a0 u0, wX9 E h1 a1 u1].flatten) [(0, .ref h0), (1, .ref h1), (2, .int y2), (3, .int y3)] 92 [] := by
  intro u0 u1 y2 y3 hw
  unfold qX0_readAct_92 at hw
  refine v_aload_n C dX0_readAct_92 1 rfl ?_
  refine v_get (ci := 9) C inT9 12 2 rfl rfl (by decide) mF_X0_71_X9_2 rfl dX0_readAct_93 ?_
  refine v_if_ne (tgt := 129) C dX0_readAct_96 (by decide) (fun hc => ?_) (fun hc => ?_)
  · have hw := hw.1 hc
    refine v_iload_n C dX0_readAct_129 3 rfl ?_
    exact hret _ _ _ _ y3 (u0, u1) dX0_readAct_130 rfl hw (Nat.le_of_ble_eq_true rfl) (Nat.le_of_ble_eq_true rfl)
  · have hw := hw.2 hc
    refine v_aload_n C dX0_readAct_99 0 rfl ?_
    refine v_get (ci := 0) C inT0 0 1 rfl rfl (by decide) mF_X0_11_X0_1 rfl dX0_readAct_100 ?_
    refine v_aload_n C dX0_readAct_103 0 rfl ?_
    refine v_get (ci := 0) C inT0 0 0 rfl rfl (by decide) mF_X0_51_X0_0 rfl dX0_readAct_104 ?_
    refine v_iload_n C dX0_readAct_107 2 rfl ?_
    obtain ⟨hi108, hw⟩ := hw
    obtain ⟨w108, e108⟩ : ∃ z : Md, z = tA u0 1 (gF u0 0) y2 := ⟨_, rfl⟩
    have hw := hw w108 e108
    refine v_iast (ws' := [wX0 E h0 a0 w108, wX9 E h1 a1 u1].flatten) C 1 rfl hi108 (by rw [e108]; rfl) dX0_readAct_108 ?_
    refine v_aload_n C dX0_readAct_109 0 rfl ?_
    refine v_get (ci := 0) C inT0 0 2 rfl rfl (by decide) mF_X0_15_X0_2 rfl dX0_readAct_110 ?_
    refine v_aload_n C dX0_readAct_113 0 rfl ?_
    refine v_get (ci := 0) C inT0 0 0 rfl rfl (by decide) mF_X0_51_X0_0 rfl dX0_readAct_114 ?_
    refine v_iload_n C dX0_readAct_117 3 rfl ?_
    obtain ⟨hi118, hw⟩ := hw
    obtain ⟨w118, e118⟩ : ∃ z : Md, z = tA w108 2 (gF w108 0) y3 := ⟨_, rfl⟩
    have hw := hw w118 e118
    refine v_iast (ws' := [wX0 E h0 a0 w118, wX9 E h1 a1 u1].flatten) C 2 rfl hi118 (by rw [e118]; rfl) dX0_readAct_118 ?_
    refine v_aload_n C dX0_readAct_119 0 rfl ?_
    refine v_dup C dX0_readAct_120 rfl ?_
    refine v_get (ci := 0) C inT0 0 0 rfl rfl (by decide) mF_X0_51_X0_0 rfl dX0_readAct_121 ?_
    refine v_iconst (v := 1) C dX0_readAct_124 (by decide) ?_
    refine v_iadd C dX0_readAct_125 ?_
    obtain ⟨w126, e126⟩ : ∃ z : Md, z = sF w118 0 ((gF w118 0) + 1) := ⟨_, rfl⟩
    have hw := hw w126 e126
    refine v_put (ci := 0) (ws' := [wX0 E h0 a0 w126, wX9 E h1 a1 u1].flatten) C tyX0 tyX0_ok nmX0 inT0 0 0 rfl rfl (by decide) mF_X0_51_X0_0 rfl rfl rfl rfl (Nat.le_of_ble_eq_true rfl) (by rw [e126]; rfl) dX0_readAct_126 ?_
    refine v_iload_n C dX0_readAct_129 3 rfl ?_
    exact hret _ _ _ _ y3 (w126, u1) dX0_readAct_130 rfl hw (Nat.le_of_ble_eq_true rfl) (Nat.le_of_ble_eq_true rfl)
set_option maxHeartbeats 4000000 in
set_option maxRecDepth 100000 in
theorem jX0_readAct_19 {X : VX} {E : VE} {l : Launch} (h0 : Nat) (h1 : Nat) (a0 : Nat → Nat) (a1 : Nat → Nat)  (Q : Int32 → Md → Md → Prop) (C : VC X cX0_readAct 6 RX0 (rmL 8 0 0) E l) (hret : RetI X cX0_readAct .int 0 0 (fun (U : Md × Md) => [wX0 E h0 a0 U.1, wX9 E h1 a1 U.2].flatten) (fun (r : Int32) (U : Md × Md) => Q r U.1 U.2))  : ∀ (n : Nat), ∀ (u0 : Md) (u1 : Md) (y2 : Int32) (y3 : Int32) (y4 : Int32), qX0_readAct_19 Q n u0 u1 y2 y3 y4 → VV X 0 0 ([wX0 E h0 a0 u0, wX9 E h1 a1 u1].flatten) [(0, .ref h0), (1, .ref h1), (2, .int y2), (3, .int y3), (4, .int y4)] 19 [] := by
  intro n
  induction n with
  | zero =>
    intro u0 u1 y2 y3 y4 hw
    exact hw.elim
  | succ n ih =>
    intro u0 u1 y2 y3 y4 hw
    unfold qX0_readAct_19 at hw
    refine v_iload C dX0_readAct_19 4 rfl ?_
    refine v_bipush (v := 12) C dX0_readAct_21 (by decide) ?_
    refine v_icmp_gt (tgt := 92) C dX0_readAct_23 (by decide) (fun hc => ?_) (fun hc => ?_)
    · have hw := hw.1 hc
      refine v_lv C (lv' := [(0, .ref h0), (1, .ref h1), (2, .int y2), (3, .int y3)]) [0, 1, 2, 3] rfl ?_
      exact jX0_readAct_92 h0 h1 a0 a1 Q C hret u0 u1 y2 y3 hw
    · have hw := hw.2 hc
      refine v_aload_n C dX0_readAct_26 1 rfl ?_
      refine v_callVMi (st := []) (ci := 9) (qb := 12) C (kX9_goesOn h1 a1 _ hw) mM_X0_55 mI_X9 mC_X9_goesOn mN_X9_goesOn mS_X9_goesOn rfl rfl hd_X9_goesOn ⟨Nat.le_of_ble_eq_true rfl, Nat.le_of_ble_eq_true rfl⟩ ⟨Nat.le_of_ble_eq_true rfl, Nat.le_of_ble_eq_true rfl⟩ [1] [0] (N0 := 2) rfl (by decide) (ms2 := (fun (U : Md) => [wX0 E h0 a0 u0, wX9 E h1 a1 U])) rfl (fun _ => rfl) (fun _ => rfl) (fun _ => rfl) rfl (Nat.le_of_ble_eq_true rfl) dX0_readAct_27 (fun r27 v27_0 hw => ?_)
      obtain ⟨h01_27, hw⟩ := hw
      have hw := hw h01_27
      refine v_if_eq (tgt := 92) C dX0_readAct_30 (by decide) (fun hc => ?_) (fun hc => ?_)
      · have hw := hw.1 hc
        refine v_lv C (lv' := [(0, .ref h0), (1, .ref h1), (2, .int y2), (3, .int y3)]) [0, 1, 2, 3] rfl ?_
        exact jX0_readAct_92 h0 h1 a0 a1 Q C hret u0 v27_0 y2 y3 hw
      · have hw := hw.2 hc
        refine v_aload_n C dX0_readAct_33 1 rfl ?_
        refine v_callSMi (st := []) C (kX0_kindOfLine h1 a1 _ hw) mM_X0_59 mI_X0 mC_X0_kindOfLine mT_X0_kindOfLine hd_X0_kindOfLine ⟨Nat.le_of_ble_eq_true rfl, Nat.le_of_ble_eq_true rfl⟩ ⟨Nat.le_of_ble_eq_true rfl, Nat.le_of_ble_eq_true rfl⟩ [1] [0] (N0 := 2) rfl (by decide) (ms2 := (fun (U : Md) => [wX0 E h0 a0 u0, wX9 E h1 a1 U])) rfl (fun _ => rfl) (fun _ => rfl) (fun _ => rfl) rfl (Nat.le_of_ble_eq_true rfl) dX0_readAct_34 (fun r34 v34_0 hw => ?_)
        refine v_istore (lv' := [(5, .int r34), (0, .ref h0), (1, .ref h1), (2, .int y2), (3, .int y3), (4, .int y4)]) C dX0_readAct_37 (by decide) rfl ?_
        refine v_iload C dX0_readAct_39 0 rfl ?_
        refine v_iconst (v := (-1)) C dX0_readAct_41 (by decide) ?_
        refine v_icmp_ne (tgt := 53) C dX0_readAct_42 (by decide) (fun hc => ?_) (fun hc => ?_)
        · have hw := hw.1 hc
          refine v_iload_n C dX0_readAct_53 4 rfl ?_
          refine v_bipush (v := 12) C dX0_readAct_54 (by decide) ?_
          refine v_icmp_lt (tgt := 67) C dX0_readAct_56 (by decide) (fun hc => ?_) (fun hc => ?_)
          · have hw := hw.1 hc
            refine v_aload_n C dX0_readAct_67 1 rfl ?_
            refine v_aload_n C dX0_readAct_68 2 rfl ?_
            refine v_aload_n C dX0_readAct_69 1 rfl ?_
            refine v_get (ci := 0) C inT0 0 0 rfl rfl (by decide) mF_X0_51_X0_0 rfl dX0_readAct_70 ?_
            refine v_bipush (v := 12) C dX0_readAct_73 (by decide) ?_
            refine v_imul C dX0_readAct_75 ?_
            refine v_iload_n C dX0_readAct_76 4 rfl ?_
            refine v_iadd C dX0_readAct_77 ?_
            refine v_iload C dX0_readAct_78 0 rfl ?_
            refine v_callFv (st := []) (ci := 0) (qb := 0) C (kX0_readLine h0 h1 a0 a1 _ _ _ _ hw) mM_X0_67 mI_X0 mC_X0_readLine mN_X0_readLine mS_X0_readLine rfl rfl hd_X0_readLine ⟨Nat.le_of_ble_eq_true rfl, Nat.le_of_ble_eq_true rfl⟩ ⟨Nat.le_of_ble_eq_true rfl, Nat.le_of_ble_eq_true rfl⟩ rfl (Nat.le_of_ble_eq_true rfl) dX0_readAct_80 (fun U80 hw => ?_)
            obtain ⟨v80_0, v80_1⟩ := U80
            refine v_iinc (lv' := [(3, .int (y3 + Int32.ofInt 1)), (5, .int r34), (0, .ref h0), (1, .ref h1), (2, .int y2), (4, .int y4)]) C dX0_readAct_83 4 rfl (by decide) rfl ?_
            refine v_iinc (lv' := [(4, .int (y4 + Int32.ofInt 1)), (3, .int (y3 + Int32.ofInt 1)), (5, .int r34), (0, .ref h0), (1, .ref h1), (2, .int y2)]) C dX0_readAct_86 5 rfl (by decide) rfl ?_
            refine v_goto (tgt := 19) C dX0_readAct_89 (by decide) ?_
            refine v_lv C (lv' := [(0, .ref h0), (1, .ref h1), (2, .int y2), (3, .int (y3 + Int32.ofInt 1)), (4, .int (y4 + Int32.ofInt 1))]) [3, 4, 5, 1, 0] rfl ?_
            exact ih v80_0 v80_1 y2 (y3 + Int32.ofInt 1) (y4 + Int32.ofInt 1) hw
          · have hw := hw.2 hc
            refine v_aload_n C dX0_readAct_59 2 rfl ?_
            refine v_iconst (v := 3) C dX0_readAct_60 (by decide) ?_
            refine v_callVMv (st := []) (ci := 9) (qb := 12) C (kX9_blame h1 a1 _ _ hw) mM_X0_63 mI_X9 mC_X9_blame mN_X9_blame mS_X9_blame rfl rfl hd_X9_blame ⟨Nat.le_of_ble_eq_true rfl, Nat.le_of_ble_eq_true rfl⟩ ⟨Nat.le_of_ble_eq_true rfl, Nat.le_of_ble_eq_true rfl⟩ [1] [0] (N0 := 2) rfl (by decide) (ms2 := (fun (U : Md) => [wX0 E h0 a0 u0, wX9 E h1 a1 U])) rfl (fun _ => rfl) (fun _ => rfl) (fun _ => rfl) rfl (Nat.le_of_ble_eq_true rfl) dX0_readAct_61 (fun v61_0 hw => ?_)
            refine v_goto (tgt := 86) C dX0_readAct_64 (by decide) ?_
            refine v_iinc (lv' := [(4, .int (y4 + Int32.ofInt 1)), (5, .int r34), (0, .ref h0), (1, .ref h1), (2, .int y2), (3, .int y3)]) C dX0_readAct_86 5 rfl (by decide) rfl ?_
            refine v_goto (tgt := 19) C dX0_readAct_89 (by decide) ?_
            refine v_lv C (lv' := [(0, .ref h0), (1, .ref h1), (2, .int y2), (3, .int y3), (4, .int (y4 + Int32.ofInt 1))]) [2, 3, 4, 5, 0] rfl ?_
            exact ih u0 v61_0 y2 y3 (y4 + Int32.ofInt 1) hw
        · have hw := hw.2 hc
          refine v_aload_n C dX0_readAct_45 2 rfl ?_
          refine v_iconst (v := 1) C dX0_readAct_46 (by decide) ?_
          refine v_callVMv (st := []) (ci := 9) (qb := 12) C (kX9_blame h1 a1 _ _ hw) mM_X0_63 mI_X9 mC_X9_blame mN_X9_blame mS_X9_blame rfl rfl hd_X9_blame ⟨Nat.le_of_ble_eq_true rfl, Nat.le_of_ble_eq_true rfl⟩ ⟨Nat.le_of_ble_eq_true rfl, Nat.le_of_ble_eq_true rfl⟩ [1] [0] (N0 := 2) rfl (by decide) (ms2 := (fun (U : Md) => [wX0 E h0 a0 u0, wX9 E h1 a1 U])) rfl (fun _ => rfl) (fun _ => rfl) (fun _ => rfl) rfl (Nat.le_of_ble_eq_true rfl) dX0_readAct_47 (fun v47_0 hw => ?_)
          refine v_goto (tgt := 86) C dX0_readAct_50 (by decide) ?_
          refine v_iinc (lv' := [(4, .int (y4 + Int32.ofInt 1)), (5, .int r34), (0, .ref h0), (1, .ref h1), (2, .int y2), (3, .int y3)]) C dX0_readAct_86 5 rfl (by decide) rfl ?_
          refine v_goto (tgt := 19) C dX0_readAct_89 (by decide) ?_
          refine v_lv C (lv' := [(0, .ref h0), (1, .ref h1), (2, .int y2), (3, .int y3), (4, .int (y4 + Int32.ofInt 1))]) [2, 3, 4, 5, 0] rfl ?_
          exact ih u0 v47_0 y2 y3 (y4 + Int32.ofInt 1) hw
set_option maxHeartbeats 4000000 in
set_option maxRecDepth 100000 in
theorem kX0_readAct {l : Launch} {E : VE} (h0 : Nat) (h1 : Nat) (a0 : Nat → Nat) (a1 : Nat → Nat) (u0 : Md) (u1 : Md) (x2 : Int32) {Q : Int32 → Md → Md → Prop} (hw : qX0_readAct u0 u1 x2 Q) : MI l yX0_readAct cX0_readAct 6 .int 8 0 0 E [.ref h0, .ref h1, .int x2] ([wX0 E h0 a0 u0, wX9 E h1 a1 u1].flatten) (fun (U : Md × Md) => [wX0 E h0 a0 U.1, wX9 E h1 a1 U.2].flatten) (fun (r : Int32) (U : Md × Md) => Q r U.1 U.2) := by
  refine MI.of (own := RX0) (by decide) rfl (Nat.le_of_ble_eq_true rfl) ?_
  intro X C hini hret
  show VV X 0 0 ([wX0 E h0 a0 u0, wX9 E h1 a1 u1].flatten) [(0, .ref h0), (1, .ref h1), (2, .int x2)] 0 []
  unfold qX0_readAct at hw
  refine v_aload_n C dX0_readAct_0 1 rfl ?_
  refine v_callVMv (st := []) (ci := 9) (qb := 12) C (kX9_begin h1 a1 _ hw) mM_X0_46 mI_X9 mC_X9_begin mN_X9_begin mS_X9_begin rfl rfl hd_X9_begin ⟨Nat.le_of_ble_eq_true rfl, Nat.le_of_ble_eq_true rfl⟩ ⟨Nat.le_of_ble_eq_true rfl, Nat.le_of_ble_eq_true rfl⟩ [1] [0] (N0 := 2) rfl (by decide) (ms2 := (fun (U : Md) => [wX0 E h0 a0 u0, wX9 E h1 a1 U])) rfl (fun _ => rfl) (fun _ => rfl) (fun _ => rfl) rfl (Nat.le_of_ble_eq_true rfl) dX0_readAct_1 (fun v1_0 hw => ?_)
  refine v_aload_n C dX0_readAct_4 0 rfl ?_
  refine v_get (ci := 0) C inT0 0 3 rfl rfl (by decide) mF_X0_18_X0_3 rfl dX0_readAct_5 ?_
  refine v_aload_n C dX0_readAct_8 0 rfl ?_
  refine v_get (ci := 0) C inT0 0 0 rfl rfl (by decide) mF_X0_51_X0_0 rfl dX0_readAct_9 ?_
  refine v_iconst (v := 0) C dX0_readAct_12 (by decide) ?_
  obtain ⟨hi13, hw⟩ := hw
  obtain ⟨w13, e13⟩ : ∃ z : Md, z = tZ u0 3 (gF u0 0) 0 := ⟨_, rfl⟩
  have hw := hw w13 e13
  refine v_zast (ws' := [wX0 E h0 a0 w13, wX9 E h1 a1 v1_0].flatten) C 3 rfl hi13 (by rw [e13]; rfl) dX0_readAct_13 ?_
  refine v_iconst (v := 0) C dX0_readAct_14 (by decide) ?_
  refine v_istore_n (lv' := [(3, .int 0), (0, .ref h0), (1, .ref h1), (2, .int x2)]) C dX0_readAct_15 (by decide) rfl ?_
  refine v_iconst (v := 0) C dX0_readAct_16 (by decide) ?_
  refine v_istore (lv' := [(4, .int 0), (3, .int 0), (0, .ref h0), (1, .ref h1), (2, .int x2)]) C dX0_readAct_17 (by decide) rfl ?_
  refine v_lv C (lv' := [(0, .ref h0), (1, .ref h1), (2, .int x2), (3, .int 0), (4, .int 0)]) [2, 3, 4, 1, 0] rfl ?_
  obtain ⟨n', hw⟩ := hw
  exact jX0_readAct_19 h0 h1 a0 a1 Q C hret n' w13 v1_0 x2 0 0 hw
set_option maxHeartbeats 4000000 in
set_option maxRecDepth 100000 in
theorem jX0_inForce_7 {X : VX} {E : VE} {l : Launch} (h0 : Nat) (a0 : Nat → Nat)  (Q : Int32 → Md → Prop) (C : VC X cX0_inForce 3 RX0 (rmL 0 0 0) E l) (hret : RetI X cX0_inForce .int 0 0 (fun (U : Md) => [wX0 E h0 a0 U].flatten) (fun (r : Int32) (U : Md) => Q r U))  : ∀ (n : Nat), ∀ (u0 : Md) (y1 : Int32) (y2 : Int32), qX0_inForce_7 Q n u0 y1 y2 → VV X 0 0 ([wX0 E h0 a0 u0].flatten) [(0, .ref h0), (1, .int y1), (2, .int y2)] 7 [] := by
  intro n
  induction n with
  | zero =>
    intro u0 y1 y2 hw
    exact hw.elim
  | succ n ih =>
    intro u0 y1 y2 hw
    unfold qX0_inForce_7 at hw
    refine v_iload_n C dX0_inForce_7 2 rfl ?_
    refine v_if_lt (tgt := 29) C dX0_inForce_8 (by decide) (fun hc => ?_) (fun hc => ?_)
    · have hw := hw.1 hc
      refine v_iconst (v := (-1)) C dX0_inForce_29 (by decide) ?_
      exact hret _ _ _ _ ((-1)) u0 dX0_inForce_30 rfl hw (Nat.le_of_ble_eq_true rfl) (Nat.le_of_ble_eq_true rfl)
    · have hw := hw.2 hc
      refine v_aload_n C dX0_inForce_11 0 rfl ?_
      refine v_get (ci := 0) C inT0 0 1 rfl rfl (by decide) mF_X0_11_X0_1 rfl dX0_inForce_12 ?_
      refine v_iload_n C dX0_inForce_15 2 rfl ?_
      obtain ⟨hi16, hw⟩ := hw
      refine v_iald C 1 rfl hi16 dX0_inForce_16 ?_
      refine v_iload_n C dX0_inForce_17 1 rfl ?_
      refine v_icmp_gt (tgt := 23) C dX0_inForce_18 (by decide) (fun hc => ?_) (fun hc => ?_)
      · have hw := hw.1 hc
        refine v_iinc (lv' := [(2, .int (y2 + Int32.ofInt (-1))), (0, .ref h0), (1, .int y1)]) C dX0_inForce_23 2 rfl (by decide) rfl ?_
        refine v_goto (tgt := 7) C dX0_inForce_26 (by decide) ?_
        refine v_lv C (lv' := [(0, .ref h0), (1, .int y1), (2, .int (y2 + Int32.ofInt (-1)))]) [1, 2, 0] rfl ?_
        exact ih u0 y1 (y2 + Int32.ofInt (-1)) hw
      · have hw := hw.2 hc
        refine v_iload_n C dX0_inForce_21 2 rfl ?_
        exact hret _ _ _ _ y2 u0 dX0_inForce_22 rfl hw (Nat.le_of_ble_eq_true rfl) (Nat.le_of_ble_eq_true rfl)
set_option maxHeartbeats 4000000 in
set_option maxRecDepth 100000 in
theorem kX0_inForce {l : Launch} {E : VE} (h0 : Nat) (a0 : Nat → Nat) (u0 : Md) (x1 : Int32) {Q : Int32 → Md → Prop} (hw : qX0_inForce u0 x1 Q) : MI l yX0_inForce cX0_inForce 3 .int 0 0 0 E [.ref h0, .int x1] ([wX0 E h0 a0 u0].flatten) (fun (U : Md) => [wX0 E h0 a0 U].flatten) (fun (r : Int32) (U : Md) => Q r U) := by
  refine MI.of (own := RX0) (by decide) rfl (Nat.le_of_ble_eq_true rfl) ?_
  intro X C hini hret
  show VV X 0 0 ([wX0 E h0 a0 u0].flatten) [(0, .ref h0), (1, .int x1)] 0 []
  unfold qX0_inForce at hw
  refine v_aload_n C dX0_inForce_0 0 rfl ?_
  refine v_get (ci := 0) C inT0 0 0 rfl rfl (by decide) mF_X0_51_X0_0 rfl dX0_inForce_1 ?_
  refine v_iconst (v := 1) C dX0_inForce_4 (by decide) ?_
  refine v_isub C dX0_inForce_5 ?_
  refine v_istore_n (lv' := [(2, .int ((gF u0 0) - 1)), (0, .ref h0), (1, .int x1)]) C dX0_inForce_6 (by decide) rfl ?_
  refine v_lv C (lv' := [(0, .ref h0), (1, .int x1), (2, .int ((gF u0 0) - 1))]) [1, 2, 0] rfl ?_
  obtain ⟨n', hw⟩ := hw
  exact jX0_inForce_7 h0 a0 Q C hret n' u0 x1 ((gF u0 0) - 1) hw
set_option maxHeartbeats 4000000 in
set_option maxRecDepth 100000 in
theorem kX0_dependsOnYear {l : Launch} {E : VE} (h0 : Nat) (a0 : Nat → Nat) (u0 : Md) (x1 : Int32) {Q : Int32 → Md → Prop} (hw : qX0_dependsOnYear u0 x1 Q) : MI l yX0_dependsOnYear cX0_dependsOnYear 2 .boolean 0 0 0 E [.ref h0, .int x1] ([wX0 E h0 a0 u0].flatten) (fun (U : Md) => [wX0 E h0 a0 U].flatten) (fun (r : Int32) (U : Md) => (r = 0 ∨ r = 1) ∧ Q r U) := by
  refine MI.of (own := RX0) (by decide) rfl (Nat.le_of_ble_eq_true rfl) ?_
  intro X C hini hret
  show VV X 0 0 ([wX0 E h0 a0 u0].flatten) [(0, .ref h0), (1, .int x1)] 0 []
  unfold qX0_dependsOnYear at hw
  refine v_iload_n C dX0_dependsOnYear_0 1 rfl ?_
  refine v_iconst (v := (-1)) C dX0_dependsOnYear_1 (by decide) ?_
  refine v_icmp_eq (tgt := 18) C dX0_dependsOnYear_2 (by decide) (fun hc => ?_) (fun hc => ?_)
  · have hw := hw.1 hc
    refine v_iconst (v := 0) C dX0_dependsOnYear_18 (by decide) ?_
    exact hret _ _ _ _ 0 u0 dX0_dependsOnYear_19 rfl ⟨Or.inl rfl, hw⟩ (Nat.le_of_ble_eq_true rfl) (Nat.le_of_ble_eq_true rfl)
  · have hw := hw.2 hc
    refine v_aload_n C dX0_dependsOnYear_5 0 rfl ?_
    refine v_get (ci := 0) C inT0 0 3 rfl rfl (by decide) mF_X0_18_X0_3 rfl dX0_dependsOnYear_6 ?_
    refine v_iload_n C dX0_dependsOnYear_9 1 rfl ?_
    obtain ⟨hi10, hw⟩ := hw
    refine v_zald C 3 rfl hi10 dX0_dependsOnYear_10 ?_
    refine v_if_eq (tgt := 18) C dX0_dependsOnYear_11 (by decide) (fun hc => ?_) (fun hc => ?_)
    · have hw := hw.1 hc
      refine v_iconst (v := 0) C dX0_dependsOnYear_18 (by decide) ?_
      exact hret _ _ _ _ 0 u0 dX0_dependsOnYear_19 rfl ⟨Or.inl rfl, hw⟩ (Nat.le_of_ble_eq_true rfl) (Nat.le_of_ble_eq_true rfl)
    · have hw := hw.2 hc
      refine v_iconst (v := 1) C dX0_dependsOnYear_14 (by decide) ?_
      refine v_goto (tgt := 19) C dX0_dependsOnYear_15 (by decide) ?_
      exact hret _ _ _ _ 1 u0 dX0_dependsOnYear_19 rfl ⟨Or.inr rfl, hw⟩ (Nat.le_of_ble_eq_true rfl) (Nat.le_of_ble_eq_true rfl)
set_option maxHeartbeats 4000000 in
set_option maxRecDepth 100000 in
theorem jX0_holds_83 {X : VX} {E : VE} {l : Launch} (h0 : Nat) (h2 : Nat) (a0 : Nat → Nat) (n2 : Nat) (Q : Int32 → Md → (Nat → Int32) → Prop) (C : VC X cX0_holds 7 RX0 (rmL 0 0 0) E l) (hret : RetI X cX0_holds .boolean 0 0 (fun (U : Md × (Nat → Int32)) => [wX0 E h0 a0 U.1, wAI E h2 n2 U.2].flatten) (fun (r : Int32) (U : Md × (Nat → Int32)) => (r = 0 ∨ r = 1) ∧ Q r U.1 U.2)) (K7 : Md → (Nat → Int32) → Int32 → Int32 → Int32 → Prop) (hK7 : ∀ (u0 : Md) (f2 : Nat → Int32) (y1 : Int32) (y3 : Int32) (y4 : Int32), K7 u0 f2 y1 y3 y4 → VV X 0 0 ([wX0 E h0 a0 u0, wAI E h2 n2 f2].flatten) [(0, .ref h0), (1, .int y1), (2, .ref h2), (3, .int y3), (4, .int y4)] 7 []) : ∀ (u0 : Md) (f2 : Nat → Int32) (y1 : Int32) (y3 : Int32) (y4 : Int32) (z0 : Int32), qX0_holds_83 n2 Q K7 u0 f2 y1 y3 y4 z0 → VV X 0 0 ([wX0 E h0 a0 u0, wAI E h2 n2 f2].flatten) [(0, .ref h0), (1, .int y1), (2, .ref h2), (3, .int y3), (4, .int y4)] 83 [.int z0] := by
  intro u0 f2 y1 y3 y4 z0 hw
  unfold qX0_holds_83 at hw
  refine v_aload_n C dX0_holds_83 0 rfl ?_
  refine v_get (ci := 0) C inT0 0 8 rfl rfl (by decide) mF_X0_34_X0_8 rfl dX0_holds_84 ?_
  refine v_iload C dX0_holds_87 4 rfl ?_
  obtain ⟨hi89, hw⟩ := hw
  refine v_zald C 8 rfl hi89 dX0_holds_89 ?_
  refine v_icmp_ne (tgt := 95) C dX0_holds_90 (by decide) (fun hc => ?_) (fun hc => ?_)
  · have hw := hw.1 hc
    refine v_iinc (lv' := [(4, .int (y4 + Int32.ofInt 1)), (0, .ref h0), (1, .int y1), (2, .ref h2), (3, .int y3)]) C dX0_holds_95 4 rfl (by decide) rfl ?_
    refine v_goto (tgt := 7) C dX0_holds_98 (by decide) ?_
    refine v_lv C (lv' := [(0, .ref h0), (1, .int y1), (2, .ref h2), (3, .int y3), (4, .int (y4 + Int32.ofInt 1))]) [1, 2, 3, 4, 0] rfl ?_
    exact hK7 u0 f2 y1 y3 (y4 + Int32.ofInt 1) hw
  · have hw := hw.2 hc
    refine v_iconst (v := 0) C dX0_holds_93 (by decide) ?_
    exact hret _ _ _ _ 0 (u0, f2) dX0_holds_94 rfl ⟨Or.inl rfl, hw⟩ (Nat.le_of_ble_eq_true rfl) (Nat.le_of_ble_eq_true rfl)
set_option maxHeartbeats 4000000 in
set_option maxRecDepth 100000 in
theorem jX0_holds_64 {X : VX} {E : VE} {l : Launch} (h0 : Nat) (h2 : Nat) (a0 : Nat → Nat) (n2 : Nat) (Q : Int32 → Md → (Nat → Int32) → Prop) (C : VC X cX0_holds 7 RX0 (rmL 0 0 0) E l) (hret : RetI X cX0_holds .boolean 0 0 (fun (U : Md × (Nat → Int32)) => [wX0 E h0 a0 U.1, wAI E h2 n2 U.2].flatten) (fun (r : Int32) (U : Md × (Nat → Int32)) => (r = 0 ∨ r = 1) ∧ Q r U.1 U.2)) (K7 : Md → (Nat → Int32) → Int32 → Int32 → Int32 → Prop) (hK7 : ∀ (u0 : Md) (f2 : Nat → Int32) (y1 : Int32) (y3 : Int32) (y4 : Int32), K7 u0 f2 y1 y3 y4 → VV X 0 0 ([wX0 E h0 a0 u0, wAI E h2 n2 f2].flatten) [(0, .ref h0), (1, .int y1), (2, .ref h2), (3, .int y3), (4, .int y4)] 7 []) : ∀ (u0 : Md) (f2 : Nat → Int32) (y1 : Int32) (y3 : Int32) (y4 : Int32) (z0 : Int32), qX0_holds_64 n2 Q K7 u0 f2 y1 y3 y4 z0 → VV X 0 0 ([wX0 E h0 a0 u0, wAI E h2 n2 f2].flatten) [(0, .ref h0), (1, .int y1), (2, .ref h2), (3, .int y3), (4, .int y4)] 64 [.int z0] := by
  intro u0 f2 y1 y3 y4 z0 hw
  unfold qX0_holds_64 at hw
  refine v_istore (lv' := [(6, .int z0), (0, .ref h0), (1, .int y1), (2, .ref h2), (3, .int y3), (4, .int y4)]) C dX0_holds_64 (by decide) rfl ?_
  refine v_iload C dX0_holds_66 0 rfl ?_
  refine v_aload_n C dX0_holds_68 1 rfl ?_
  refine v_get (ci := 0) C inT0 0 10 rfl rfl (by decide) mF_X0_40_X0_10 rfl dX0_holds_69 ?_
  refine v_iload C dX0_holds_72 5 rfl ?_
  obtain ⟨hi74, hw⟩ := hw
  refine v_iald C 10 rfl hi74 dX0_holds_74 ?_
  refine v_icmp_ne (tgt := 82) C dX0_holds_75 (by decide) (fun hc => ?_) (fun hc => ?_)
  · have hw := hw.1 hc
    refine v_iconst (v := 0) C dX0_holds_82 (by decide) ?_
    refine v_lv C (lv' := [(0, .ref h0), (1, .int y1), (2, .ref h2), (3, .int y3), (4, .int y4)]) [1, 2, 3, 4, 5] rfl ?_
    exact jX0_holds_83 h0 h2 a0 n2 Q C hret K7 hK7 u0 f2 y1 y3 y4 0 hw
  · have hw := hw.2 hc
    refine v_iconst (v := 1) C dX0_holds_78 (by decide) ?_
    refine v_goto (tgt := 83) C dX0_holds_79 (by decide) ?_
    refine v_lv C (lv' := [(0, .ref h0), (1, .int y1), (2, .ref h2), (3, .int y3), (4, .int y4)]) [1, 2, 3, 4, 5] rfl ?_
    exact jX0_holds_83 h0 h2 a0 n2 Q C hret K7 hK7 u0 f2 y1 y3 y4 1 hw
set_option maxHeartbeats 4000000 in
set_option maxRecDepth 100000 in
theorem jX0_holds_7 {X : VX} {E : VE} {l : Launch} (h0 : Nat) (h2 : Nat) (a0 : Nat → Nat) (n2 : Nat) (Q : Int32 → Md → (Nat → Int32) → Prop) (C : VC X cX0_holds 7 RX0 (rmL 0 0 0) E l) (hret : RetI X cX0_holds .boolean 0 0 (fun (U : Md × (Nat → Int32)) => [wX0 E h0 a0 U.1, wAI E h2 n2 U.2].flatten) (fun (r : Int32) (U : Md × (Nat → Int32)) => (r = 0 ∨ r = 1) ∧ Q r U.1 U.2))  : ∀ (n : Nat), ∀ (u0 : Md) (f2 : Nat → Int32) (y1 : Int32) (y3 : Int32) (y4 : Int32), qX0_holds_7 n2 Q n u0 f2 y1 y3 y4 → VV X 0 0 ([wX0 E h0 a0 u0, wAI E h2 n2 f2].flatten) [(0, .ref h0), (1, .int y1), (2, .ref h2), (3, .int y3), (4, .int y4)] 7 [] := by
  intro n
  induction n with
  | zero =>
    intro u0 f2 y1 y3 y4 hw
    exact hw.elim
  | succ n ih =>
    intro u0 f2 y1 y3 y4 hw
    unfold qX0_holds_7 at hw
    refine v_iload C dX0_holds_7 4 rfl ?_
    refine v_iload_n C dX0_holds_9 3 rfl ?_
    refine v_aload_n C dX0_holds_10 0 rfl ?_
    refine v_get (ci := 0) C inT0 0 7 rfl rfl (by decide) mF_X0_31_X0_7 rfl dX0_holds_11 ?_
    refine v_iload_n C dX0_holds_14 1 rfl ?_
    obtain ⟨hi15, hw⟩ := hw
    refine v_iald C 7 rfl hi15 dX0_holds_15 ?_
    refine v_iadd C dX0_holds_16 ?_
    refine v_icmp_ge (tgt := 101) C dX0_holds_17 (by decide) (fun hc => ?_) (fun hc => ?_)
    · have hw := hw.1 hc
      refine v_iconst (v := 1) C dX0_holds_101 (by decide) ?_
      exact hret _ _ _ _ 1 (u0, f2) dX0_holds_102 rfl ⟨Or.inr rfl, hw⟩ (Nat.le_of_ble_eq_true rfl) (Nat.le_of_ble_eq_true rfl)
    · have hw := hw.2 hc
      refine v_aload_n C dX0_holds_20 2 rfl ?_
      refine v_aload_n C dX0_holds_21 0 rfl ?_
      refine v_get (ci := 0) C inT0 0 9 rfl rfl (by decide) mF_X0_37_X0_9 rfl dX0_holds_22 ?_
      refine v_iload C dX0_holds_25 4 rfl ?_
      obtain ⟨hi27, hw⟩ := hw
      refine v_iald C 9 rfl hi27 dX0_holds_27 ?_
      obtain ⟨hi28, hw⟩ := hw
      refine v_iald C 12 rfl hi28 dX0_holds_28 ?_
      refine v_istore (lv' := [(5, .int (f2 (gA u0 9 y4.toNatClampNeg).toNatClampNeg)), (0, .ref h0), (1, .int y1), (2, .ref h2), (3, .int y3), (4, .int y4)]) C dX0_holds_29 (by decide) rfl ?_
      refine v_iload C dX0_holds_31 0 rfl ?_
      refine v_aload_n C dX0_holds_33 1 rfl ?_
      refine v_get (ci := 0) C inT0 0 11 rfl rfl (by decide) mF_X0_43_X0_11 rfl dX0_holds_34 ?_
      refine v_iload C dX0_holds_37 5 rfl ?_
      obtain ⟨hi39, hw⟩ := hw
      refine v_iald C 11 rfl hi39 dX0_holds_39 ?_
      refine v_icmp_ge (tgt := 47) C dX0_holds_40 (by decide) (fun hc => ?_) (fun hc => ?_)
      · have hw := hw.1 hc
        refine v_iload C dX0_holds_47 0 rfl ?_
        refine v_aload_n C dX0_holds_49 1 rfl ?_
        refine v_get (ci := 0) C inT0 0 11 rfl rfl (by decide) mF_X0_43_X0_11 rfl dX0_holds_50 ?_
        refine v_iload C dX0_holds_53 5 rfl ?_
        obtain ⟨hi55, hw⟩ := hw
        refine v_iald C 11 rfl hi55 dX0_holds_55 ?_
        refine v_icmp_le (tgt := 63) C dX0_holds_56 (by decide) (fun hc => ?_) (fun hc => ?_)
        · have hw := hw.1 hc
          refine v_iconst (v := 0) C dX0_holds_63 (by decide) ?_
          refine v_lv C (lv' := [(0, .ref h0), (1, .int y1), (2, .ref h2), (3, .int y3), (4, .int y4)]) [1, 2, 3, 4, 5] rfl ?_
          exact jX0_holds_64 h0 h2 a0 n2 Q C hret (qX0_holds_7 n2 Q n) ih u0 f2 y1 y3 y4 0 hw
        · have hw := hw.2 hc
          refine v_iconst (v := 1) C dX0_holds_59 (by decide) ?_
          refine v_goto (tgt := 64) C dX0_holds_60 (by decide) ?_
          refine v_lv C (lv' := [(0, .ref h0), (1, .int y1), (2, .ref h2), (3, .int y3), (4, .int y4)]) [1, 2, 3, 4, 5] rfl ?_
          exact jX0_holds_64 h0 h2 a0 n2 Q C hret (qX0_holds_7 n2 Q n) ih u0 f2 y1 y3 y4 1 hw
      · have hw := hw.2 hc
        refine v_iconst (v := (-1)) C dX0_holds_43 (by decide) ?_
        refine v_goto (tgt := 64) C dX0_holds_44 (by decide) ?_
        refine v_lv C (lv' := [(0, .ref h0), (1, .int y1), (2, .ref h2), (3, .int y3), (4, .int y4)]) [1, 2, 3, 4, 5] rfl ?_
        exact jX0_holds_64 h0 h2 a0 n2 Q C hret (qX0_holds_7 n2 Q n) ih u0 f2 y1 y3 y4 ((-1)) hw
set_option maxHeartbeats 4000000 in
set_option maxRecDepth 100000 in
theorem kX0_holds {l : Launch} {E : VE} (h0 : Nat) (h2 : Nat) (a0 : Nat → Nat) (n2 : Nat) (u0 : Md) (f2 : Nat → Int32) (x1 : Int32) {Q : Int32 → Md → (Nat → Int32) → Prop} (hw : qX0_holds n2 u0 f2 x1 Q) : MI l yX0_holds cX0_holds 7 .boolean 0 0 0 E [.ref h0, .int x1, .ref h2] ([wX0 E h0 a0 u0, wAI E h2 n2 f2].flatten) (fun (U : Md × (Nat → Int32)) => [wX0 E h0 a0 U.1, wAI E h2 n2 U.2].flatten) (fun (r : Int32) (U : Md × (Nat → Int32)) => (r = 0 ∨ r = 1) ∧ Q r U.1 U.2) := by
  refine MI.of (own := RX0) (by decide) rfl (Nat.le_of_ble_eq_true rfl) ?_
  intro X C hini hret
  show VV X 0 0 ([wX0 E h0 a0 u0, wAI E h2 n2 f2].flatten) [(0, .ref h0), (1, .int x1), (2, .ref h2)] 0 []
  unfold qX0_holds at hw
  refine v_iload_n C dX0_holds_0 1 rfl ?_
  refine v_iconst (v := 4) C dX0_holds_1 (by decide) ?_
  refine v_imul C dX0_holds_2 ?_
  refine v_istore_n (lv' := [(3, .int (x1 * 4)), (0, .ref h0), (1, .int x1), (2, .ref h2)]) C dX0_holds_3 (by decide) rfl ?_
  refine v_iload_n C dX0_holds_4 0 rfl ?_
  refine v_istore (lv' := [(4, .int (x1 * 4)), (3, .int (x1 * 4)), (0, .ref h0), (1, .int x1), (2, .ref h2)]) C dX0_holds_5 (by decide) rfl ?_
  refine v_lv C (lv' := [(0, .ref h0), (1, .int x1), (2, .ref h2), (3, .int (x1 * 4)), (4, .int (x1 * 4))]) [2, 3, 4, 1, 0] rfl ?_
  obtain ⟨n', hw⟩ := hw
  exact jX0_holds_7 h0 h2 a0 n2 Q C hret n' u0 f2 x1 (x1 * 4) (x1 * 4) hw
set_option maxHeartbeats 4000000 in
set_option maxRecDepth 100000 in
theorem jX0_firstHolding_17 {X : VX} {E : VE} {l : Launch} (h0 : Nat) (h3 : Nat) (a0 : Nat → Nat) (n3 : Nat) (Q : Int32 → Md → (Nat → Int32) → Prop) (C : VC X cX0_firstHolding 6 RX0 (rmL 1 0 0) E l) (hret : RetI X cX0_firstHolding .int 0 0 (fun (U : Md × (Nat → Int32)) => [wX0 E h0 a0 U.1, wAI E h3 n3 U.2].flatten) (fun (r : Int32) (U : Md × (Nat → Int32)) => Q r U.1 U.2))  : ∀ (n : Nat), ∀ (u0 : Md) (f3 : Nat → Int32) (y1 : Int32) (y2 : Int32) (y4 : Int32) (y5 : Int32), qX0_firstHolding_17 n3 Q n u0 f3 y1 y2 y4 y5 → VV X 0 0 ([wX0 E h0 a0 u0, wAI E h3 n3 f3].flatten) [(0, .ref h0), (1, .int y1), (2, .int y2), (3, .ref h3), (4, .int y4), (5, .int y5)] 17 [] := by
  intro n
  induction n with
  | zero =>
    intro u0 f3 y1 y2 y4 y5 hw
    exact hw.elim
  | succ n ih =>
    intro u0 f3 y1 y2 y4 y5 hw
    unfold qX0_firstHolding_17 at hw
    refine v_iload C dX0_firstHolding_17 5 rfl ?_
    refine v_iload C dX0_firstHolding_19 4 rfl ?_
    refine v_aload_n C dX0_firstHolding_21 0 rfl ?_
    refine v_get (ci := 0) C inT0 0 2 rfl rfl (by decide) mF_X0_15_X0_2 rfl dX0_firstHolding_22 ?_
    refine v_iload_n C dX0_firstHolding_25 1 rfl ?_
    obtain ⟨hi26, hw⟩ := hw
    refine v_iald C 2 rfl hi26 dX0_firstHolding_26 ?_
    refine v_iadd C dX0_firstHolding_27 ?_
    refine v_icmp_ge (tgt := 61) C dX0_firstHolding_28 (by decide) (fun hc => ?_) (fun hc => ?_)
    · have hw := hw.1 hc
      refine v_iconst (v := (-1)) C dX0_firstHolding_61 (by decide) ?_
      exact hret _ _ _ _ ((-1)) (u0, f3) dX0_firstHolding_62 rfl hw (Nat.le_of_ble_eq_true rfl) (Nat.le_of_ble_eq_true rfl)
    · have hw := hw.2 hc
      refine v_aload_n C dX0_firstHolding_31 0 rfl ?_
      refine v_get (ci := 0) C inT0 0 4 rfl rfl (by decide) mF_X0_22_X0_4 rfl dX0_firstHolding_32 ?_
      refine v_iload C dX0_firstHolding_35 5 rfl ?_
      obtain ⟨hi37, hw⟩ := hw
      refine v_iald C 4 rfl hi37 dX0_firstHolding_37 ?_
      refine v_iload_n C dX0_firstHolding_38 2 rfl ?_
      refine v_icmp_ne (tgt := 55) C dX0_firstHolding_39 (by decide) (fun hc => ?_) (fun hc => ?_)
      · have hw := hw.1 hc
        refine v_iinc (lv' := [(5, .int (y5 + Int32.ofInt 1)), (0, .ref h0), (1, .int y1), (2, .int y2), (3, .ref h3), (4, .int y4)]) C dX0_firstHolding_55 5 rfl (by decide) rfl ?_
        refine v_goto (tgt := 17) C dX0_firstHolding_58 (by decide) ?_
        refine v_lv C (lv' := [(0, .ref h0), (1, .int y1), (2, .int y2), (3, .ref h3), (4, .int y4), (5, .int (y5 + Int32.ofInt 1))]) [1, 2, 3, 4, 5, 0] rfl ?_
        exact ih u0 f3 y1 y2 y4 (y5 + Int32.ofInt 1) hw
      · have hw := hw.2 hc
        refine v_aload_n C dX0_firstHolding_42 0 rfl ?_
        refine v_iload C dX0_firstHolding_43 5 rfl ?_
        refine v_aload_n C dX0_firstHolding_45 3 rfl ?_
        refine v_callFi (st := []) (ci := 0) (qb := 0) C (kX0_holds h0 h3 a0 _ _ _ _ hw) mM_X0_135 mI_X0 mC_X0_holds mN_X0_holds mS_X0_holds rfl rfl hd_X0_holds ⟨Nat.le_of_ble_eq_true rfl, Nat.le_of_ble_eq_true rfl⟩ ⟨Nat.le_of_ble_eq_true rfl, Nat.le_of_ble_eq_true rfl⟩ rfl (Nat.le_of_ble_eq_true rfl) dX0_firstHolding_46 (fun r46 U46 hw => ?_)
        obtain ⟨v46_0, v46_1⟩ := U46
        obtain ⟨h01_46, hw⟩ := hw
        have hw := hw h01_46
        refine v_if_eq (tgt := 55) C dX0_firstHolding_49 (by decide) (fun hc => ?_) (fun hc => ?_)
        · have hw := hw.1 hc
          refine v_iinc (lv' := [(5, .int (y5 + Int32.ofInt 1)), (0, .ref h0), (1, .int y1), (2, .int y2), (3, .ref h3), (4, .int y4)]) C dX0_firstHolding_55 5 rfl (by decide) rfl ?_
          refine v_goto (tgt := 17) C dX0_firstHolding_58 (by decide) ?_
          refine v_lv C (lv' := [(0, .ref h0), (1, .int y1), (2, .int y2), (3, .ref h3), (4, .int y4), (5, .int (y5 + Int32.ofInt 1))]) [1, 2, 3, 4, 5, 0] rfl ?_
          exact ih v46_0 v46_1 y1 y2 y4 (y5 + Int32.ofInt 1) hw
        · have hw := hw.2 hc
          refine v_iload C dX0_firstHolding_52 5 rfl ?_
          exact hret _ _ _ _ y5 (v46_0, v46_1) dX0_firstHolding_54 rfl hw (Nat.le_of_ble_eq_true rfl) (Nat.le_of_ble_eq_true rfl)
set_option maxHeartbeats 4000000 in
set_option maxRecDepth 100000 in
theorem kX0_firstHolding {l : Launch} {E : VE} (h0 : Nat) (h3 : Nat) (a0 : Nat → Nat) (n3 : Nat) (u0 : Md) (f3 : Nat → Int32) (x1 : Int32) (x2 : Int32) {Q : Int32 → Md → (Nat → Int32) → Prop} (hw : qX0_firstHolding n3 u0 f3 x1 x2 Q) : MI l yX0_firstHolding cX0_firstHolding 6 .int 1 0 0 E [.ref h0, .int x1, .int x2, .ref h3] ([wX0 E h0 a0 u0, wAI E h3 n3 f3].flatten) (fun (U : Md × (Nat → Int32)) => [wX0 E h0 a0 U.1, wAI E h3 n3 U.2].flatten) (fun (r : Int32) (U : Md × (Nat → Int32)) => Q r U.1 U.2) := by
  refine MI.of (own := RX0) (by decide) rfl (Nat.le_of_ble_eq_true rfl) ?_
  intro X C hini hret
  show VV X 0 0 ([wX0 E h0 a0 u0, wAI E h3 n3 f3].flatten) [(0, .ref h0), (1, .int x1), (2, .int x2), (3, .ref h3)] 0 []
  unfold qX0_firstHolding at hw
  refine v_iload_n C dX0_firstHolding_0 1 rfl ?_
  refine v_iconst (v := (-1)) C dX0_firstHolding_1 (by decide) ?_
  refine v_icmp_ne (tgt := 7) C dX0_firstHolding_2 (by decide) (fun hc => ?_) (fun hc => ?_)
  · have hw := hw.1 hc
    refine v_iload_n C dX0_firstHolding_7 1 rfl ?_
    refine v_bipush (v := 12) C dX0_firstHolding_8 (by decide) ?_
    refine v_imul C dX0_firstHolding_10 ?_
    refine v_istore (lv' := [(4, .int (x1 * 12)), (0, .ref h0), (1, .int x1), (2, .int x2), (3, .ref h3)]) C dX0_firstHolding_11 (by decide) rfl ?_
    refine v_iload C dX0_firstHolding_13 0 rfl ?_
    refine v_istore (lv' := [(5, .int (x1 * 12)), (4, .int (x1 * 12)), (0, .ref h0), (1, .int x1), (2, .int x2), (3, .ref h3)]) C dX0_firstHolding_15 (by decide) rfl ?_
    refine v_lv C (lv' := [(0, .ref h0), (1, .int x1), (2, .int x2), (3, .ref h3), (4, .int (x1 * 12)), (5, .int (x1 * 12))]) [2, 3, 4, 5, 1, 0] rfl ?_
    obtain ⟨n', hw⟩ := hw
    exact jX0_firstHolding_17 h0 h3 a0 n3 Q C hret n' u0 f3 x1 x2 (x1 * 12) (x1 * 12) hw
  · have hw := hw.2 hc
    refine v_iconst (v := (-1)) C dX0_firstHolding_5 (by decide) ?_
    exact hret _ _ _ _ ((-1)) (u0, f3) dX0_firstHolding_6 rfl hw (Nat.le_of_ble_eq_true rfl) (Nat.le_of_ble_eq_true rfl)
