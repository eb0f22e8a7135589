set_option maxHeartbeats 4000000 in
set_option maxRecDepth 100000 in
theorem jX12_set_86 {X : VX} {E : VE} {l : Launch} (h0 : Nat) (a0 : Nat → Nat)  (Q : Md → Prop) (C : VC X cX12_set 3 RX12 (rmL 5 0 0) E l) (hret : RetV X cX12_set 0 0 (fun (U : Md) => [wX12 E h0 a0 U].flatten) (fun (U : Md) => Q U))  : ∀ (n : Nat), ∀ (u0 : Md) (y1 : Int32) (y2 : Int32), qX12_set_86 Q n u0 y1 y2 → VV X 0 0 ([wX12 E h0 a0 u0].flatten) [(0, .ref h0), (1, .int y1), (2, .int y2)] 86 [] := by
  intro n
  induction n with
  | zero =>
    intro u0 y1 y2 hw
    exact hw.elim
  | succ n ih =>
    intro u0 y1 y2 hw
    unfold qX12_set_86 at hw
    refine v_iload_n C dX12_set_86 2 rfl ?_
    refine v_aload_n C dX12_set_87 0 rfl ?_
    refine v_get (ci := 12) C inT12 0 11 rfl rfl (by decide) mF_X12_179_X12_11 rfl dX12_set_88 ?_
    refine v_icmp_ge (tgt := 122) C dX12_set_91 (by decide) (fun hc => ?_) (fun hc => ?_)
    · have hw := hw.1 hc
      refine v_aload_n C dX12_set_122 0 rfl ?_
      refine v_callFv (st := []) (ci := 12) (qb := 0) C (kX12_next_ h0 a0 _ hw) mM_X12_206 mI_X12 mC_X12_next_ mN_X12_next_ mS_X12_next_ rfl rfl hd_X12_next_ ⟨Nat.le_of_ble_eq_true rfl, Nat.le_of_ble_eq_true rfl⟩ ⟨Nat.le_of_ble_eq_true rfl, Nat.le_of_ble_eq_true rfl⟩ rfl (Nat.le_of_ble_eq_true rfl) dX12_set_123 (fun v123_0 hw => ?_)
      exact hret _ _ _ _ v123_0 dX12_set_126 hw (Nat.le_of_ble_eq_true rfl) (Nat.le_of_ble_eq_true rfl)
    · have hw := hw.2 hc
      refine v_aload_n C dX12_set_94 0 rfl ?_
      refine v_get (ci := 12) C inT12 0 18 rfl rfl (by decide) mF_X12_41_X12_18 rfl dX12_set_95 ?_
      refine v_iload_n C dX12_set_98 1 rfl ?_
      refine v_iconst (v := 1) C dX12_set_99 (by decide) ?_
      refine v_iadd C dX12_set_100 ?_
      refine v_dup2 C dX12_set_101 rfl rfl ?_
      obtain ⟨hi102, hw⟩ := hw
      refine v_iald C 9 rfl hi102 dX12_set_102 ?_
      refine v_iconst (v := 1) C dX12_set_103 (by decide) ?_
      refine v_aload_n C dX12_set_104 0 rfl ?_
      refine v_get (ci := 12) C inT12 0 4 rfl rfl (by decide) mF_X12_21_X12_4 rfl dX12_set_105 ?_
      refine v_iload_n C dX12_set_108 2 rfl ?_
      obtain ⟨hi109, hw⟩ := hw
      refine v_bald C 4 rfl hi109 dX12_set_109 ?_
      refine v_bipush (v := 97) C dX12_set_110 (by decide) ?_
      refine v_isub C dX12_set_112 ?_
      refine v_ishl C dX12_set_113 ?_
      refine v_ior C dX12_set_114 ?_
      obtain ⟨hi115, hw⟩ := hw
      obtain ⟨w115, e115⟩ : ∃ z : Md, z = tA u0 18 (y1 + 1) ((gA u0 18 (y1 + 1).toNatClampNeg) ||| ((1 : Int32) <<< ((((gB u0 4 y2.toNatClampNeg).toInt32) - 97) &&& 31))) := ⟨_, rfl⟩
      have hw := hw w115 e115
      refine v_iast (ws' := [wX12 E h0 a0 w115].flatten) C 9 rfl hi115 (by rw [e115]; rfl) dX12_set_115 ?_
      refine v_iinc (lv' := [(2, .int (y2 + Int32.ofInt 1)), (0, .ref h0), (1, .int y1)]) C dX12_set_116 2 rfl (by decide) rfl ?_
      refine v_goto (tgt := 86) C dX12_set_119 (by decide) ?_
      refine v_lv C (lv' := [(0, .ref h0), (1, .int y1), (2, .int (y2 + Int32.ofInt 1))]) [1, 2, 0] rfl ?_
      exact ih w115 y1 (y2 + Int32.ofInt 1) hw
set_option maxHeartbeats 4000000 in
set_option maxRecDepth 100000 in
theorem jX12_set_66 {X : VX} {E : VE} {l : Launch} (h0 : Nat) (a0 : Nat → Nat)  (Q : Md → Prop) (C : VC X cX12_set 3 RX12 (rmL 5 0 0) E l) (hret : RetV X cX12_set 0 0 (fun (U : Md) => [wX12 E h0 a0 U].flatten) (fun (U : Md) => Q U))  : ∀ (u0 : Md) (y1 : Int32), qX12_set_66 Q u0 y1 → VV X 0 0 ([wX12 E h0 a0 u0].flatten) [(0, .ref h0), (1, .int y1)] 66 [] := by
  intro u0 y1 hw
  unfold qX12_set_66 at hw
  refine v_aload_n C dX12_set_66 0 rfl ?_
  refine v_callFi (st := []) (ci := 12) (qb := 0) C (kX12_good h0 a0 _ hw) mM_X12_209 mI_X12 mC_X12_good mN_X12_good mS_X12_good rfl rfl hd_X12_good ⟨Nat.le_of_ble_eq_true rfl, Nat.le_of_ble_eq_true rfl⟩ ⟨Nat.le_of_ble_eq_true rfl, Nat.le_of_ble_eq_true rfl⟩ rfl (Nat.le_of_ble_eq_true rfl) dX12_set_67 (fun r67 v67_0 hw => ?_)
  obtain ⟨h01_67, hw⟩ := hw
  have hw := hw h01_67
  refine v_if_ne (tgt := 74) C dX12_set_70 (by decide) (fun hc => ?_) (fun hc => ?_)
  · have hw := hw.1 hc
    refine v_aload_n C dX12_set_74 0 rfl ?_
    refine v_get (ci := 12) C inT12 0 18 rfl rfl (by decide) mF_X12_41_X12_18 rfl dX12_set_75 ?_
    refine v_iload_n C dX12_set_78 1 rfl ?_
    refine v_iconst (v := 2) C dX12_set_79 (by decide) ?_
    obtain ⟨hi80, hw⟩ := hw
    obtain ⟨w80, e80⟩ : ∃ z : Md, z = tA v67_0 18 y1 2 := ⟨_, rfl⟩
    have hw := hw w80 e80
    refine v_iast (ws' := [wX12 E h0 a0 w80].flatten) C 9 rfl hi80 (by rw [e80]; rfl) dX12_set_80 ?_
    refine v_aload_n C dX12_set_81 0 rfl ?_
    refine v_get (ci := 12) C inT12 0 12 rfl rfl (by decide) mF_X12_185_X12_12 rfl dX12_set_82 ?_
    refine v_istore_n (lv' := [(2, .int (gF w80 12)), (0, .ref h0), (1, .int y1)]) C dX12_set_85 (by decide) rfl ?_
    refine v_lv C (lv' := [(0, .ref h0), (1, .int y1), (2, .int (gF w80 12))]) [1, 2, 0] rfl ?_
    obtain ⟨n', hw⟩ := hw
    exact jX12_set_86 h0 a0 Q C hret n' w80 y1 (gF w80 12) hw
  · have hw := hw.2 hc
    exact hret _ _ _ _ v67_0 dX12_set_73 hw (Nat.le_of_ble_eq_true rfl) (Nat.le_of_ble_eq_true rfl)
set_option maxHeartbeats 4000000 in
set_option maxRecDepth 100000 in
theorem jX12_set_61 {X : VX} {E : VE} {l : Launch} (h0 : Nat) (a0 : Nat → Nat)  (Q : Md → Prop) (C : VC X cX12_set 3 RX12 (rmL 5 0 0) E l) (hret : RetV X cX12_set 0 0 (fun (U : Md) => [wX12 E h0 a0 U].flatten) (fun (U : Md) => Q U))  : ∀ (u0 : Md) (y1 : Int32), qX12_set_61 Q u0 y1 → VV X 0 0 ([wX12 E h0 a0 u0].flatten) [(0, .ref h0), (1, .int y1)] 61 [] := by
  intro u0 y1 hw
  unfold qX12_set_61 at hw
  refine v_aload_n C dX12_set_61 0 rfl ?_
  refine v_iconst (v := 1) C dX12_set_62 (by decide) ?_
  refine v_callFv (st := []) (ci := 12) (qb := 0) C (kX12_wrong h0 a0 _ _ hw) mM_X12_225 mI_X12 mC_X12_wrong mN_X12_wrong mS_X12_wrong rfl rfl hd_X12_wrong ⟨Nat.le_of_ble_eq_true rfl, Nat.le_of_ble_eq_true rfl⟩ ⟨Nat.le_of_ble_eq_true rfl, Nat.le_of_ble_eq_true rfl⟩ rfl (Nat.le_of_ble_eq_true rfl) dX12_set_63 (fun v63_0 hw => ?_)
  exact jX12_set_66 h0 a0 Q C hret v63_0 y1 hw
set_option maxHeartbeats 4000000 in
set_option maxRecDepth 100000 in
theorem kX12_set {l : Launch} {E : VE} (h0 : Nat) (a0 : Nat → Nat) (u0 : Md) (x1 : Int32) {Q : Md → Prop} (hw : qX12_set u0 x1 Q) : MV l yX12_set cX12_set 3 5 0 0 E [.ref h0, .int x1] ([wX12 E h0 a0 u0].flatten) (fun (U : Md) => [wX12 E h0 a0 U].flatten) (fun (U : Md) => Q U) := by
  refine MV.of (own := RX12) (by decide) rfl (Nat.le_of_ble_eq_true rfl) ?_
  intro X C hini hret
  show VV X 0 0 ([wX12 E h0 a0 u0].flatten) [(0, .ref h0), (1, .int x1)] 0 []
  unfold qX12_set at hw
  refine v_aload_n C dX12_set_0 0 rfl ?_
  refine v_bipush (v := 35) C dX12_set_1 (by decide) ?_
  refine v_callFi (st := []) (ci := 12) (qb := 0) C (kX12_isSign h0 a0 _ _ hw) mM_X12_222 mI_X12 mC_X12_isSign mN_X12_isSign mS_X12_isSign rfl rfl hd_X12_isSign ⟨Nat.le_of_ble_eq_true rfl, Nat.le_of_ble_eq_true rfl⟩ ⟨Nat.le_of_ble_eq_true rfl, Nat.le_of_ble_eq_true rfl⟩ rfl (Nat.le_of_ble_eq_true rfl) dX12_set_3 (fun r3 v3_0 hw => ?_)
  obtain ⟨h01_3, hw⟩ := hw
  have hw := hw h01_3
  refine v_if_eq (tgt := 21) C dX12_set_6 (by decide) (fun hc => ?_) (fun hc => ?_)
  · have hw := hw.1 hc
    refine v_aload_n C dX12_set_21 0 rfl ?_
    refine v_get (ci := 12) C inT12 0 13 rfl rfl (by decide) mF_X12_188_X12_13 rfl dX12_set_22 ?_
    refine v_iconst (v := 1) C dX12_set_25 (by decide) ?_
    refine v_icmp_ne (tgt := 61) C dX12_set_26 (by decide) (fun hc => ?_) (fun hc => ?_)
    · have hw := hw.1 hc
      exact jX12_set_61 h0 a0 Q C hret v3_0 x1 hw
    · have hw := hw.2 hc
      refine v_aload_n C dX12_set_29 0 rfl ?_
      refine v_get (ci := 12) C inT12 0 11 rfl rfl (by decide) mF_X12_179_X12_11 rfl dX12_set_30 ?_
      refine v_aload_n C dX12_set_33 0 rfl ?_
      refine v_get (ci := 12) C inT12 0 12 rfl rfl (by decide) mF_X12_185_X12_12 rfl dX12_set_34 ?_
      refine v_isub C dX12_set_37 ?_
      refine v_bipush (v := 26) C dX12_set_38 (by decide) ?_
      refine v_icmp_gt (tgt := 61) C dX12_set_40 (by decide) (fun hc => ?_) (fun hc => ?_)
      · have hw := hw.1 hc
        exact jX12_set_61 h0 a0 Q C hret v3_0 x1 hw
      · have hw := hw.2 hc
        refine v_aload_n C dX12_set_43 0 rfl ?_
        refine v_ldcS C (tx := "after") 0 (by decide) dX12_set_44 ?_
        refine v_callFi (st := []) (ci := 12) (qb := 0) C (kX12_is h0 a0 _ _ (by decide) hw) mM_X12_228 mI_X12 mC_X12_is mN_X12_is mS_X12_is rfl rfl hd_X12_is ⟨Nat.le_of_ble_eq_true rfl, Nat.le_of_ble_eq_true rfl⟩ ⟨Nat.le_of_ble_eq_true rfl, Nat.le_of_ble_eq_true rfl⟩ rfl (Nat.le_of_ble_eq_true rfl) dX12_set_46 (fun r46 v46_0 hw => ?_)
        obtain ⟨h01_46, hw⟩ := hw
        have hw := hw h01_46
        refine v_if_ne (tgt := 61) C dX12_set_49 (by decide) (fun hc => ?_) (fun hc => ?_)
        · have hw := hw.1 hc
          exact jX12_set_61 h0 a0 Q C hret v46_0 x1 hw
        · have hw := hw.2 hc
          refine v_aload_n C dX12_set_52 0 rfl ?_
          refine v_ldcS C (tx := "before") 1 (by decide) dX12_set_53 ?_
          refine v_callFi (st := []) (ci := 12) (qb := 0) C (kX12_is h0 a0 _ _ (by decide) hw) mM_X12_228 mI_X12 mC_X12_is mN_X12_is mS_X12_is rfl rfl hd_X12_is ⟨Nat.le_of_ble_eq_true rfl, Nat.le_of_ble_eq_true rfl⟩ ⟨Nat.le_of_ble_eq_true rfl, Nat.le_of_ble_eq_true rfl⟩ rfl (Nat.le_of_ble_eq_true rfl) dX12_set_55 (fun r55 v55_0 hw => ?_)
          obtain ⟨h01_55, hw⟩ := hw
          have hw := hw h01_55
          refine v_if_eq (tgt := 66) C dX12_set_58 (by decide) (fun hc => ?_) (fun hc => ?_)
          · have hw := hw.1 hc
            exact jX12_set_66 h0 a0 Q C hret v55_0 x1 hw
          · have hw := hw.2 hc
            exact jX12_set_61 h0 a0 Q C hret v55_0 x1 hw
  · have hw := hw.2 hc
    refine v_aload_n C dX12_set_9 0 rfl ?_
    refine v_get (ci := 12) C inT12 0 18 rfl rfl (by decide) mF_X12_41_X12_18 rfl dX12_set_10 ?_
    refine v_iload_n C dX12_set_13 1 rfl ?_
    refine v_iconst (v := 1) C dX12_set_14 (by decide) ?_
    obtain ⟨hi15, hw⟩ := hw
    obtain ⟨w15, e15⟩ : ∃ z : Md, z = tA v3_0 18 x1 1 := ⟨_, rfl⟩
    have hw := hw w15 e15
    refine v_iast (ws' := [wX12 E h0 a0 w15].flatten) C 9 rfl hi15 (by rw [e15]; rfl) dX12_set_15 ?_
    refine v_aload_n C dX12_set_16 0 rfl ?_
    refine v_callFv (st := []) (ci := 12) (qb := 0) C (kX12_next_ h0 a0 _ hw) mM_X12_206 mI_X12 mC_X12_next_ mN_X12_next_ mS_X12_next_ rfl rfl hd_X12_next_ ⟨Nat.le_of_ble_eq_true rfl, Nat.le_of_ble_eq_true rfl⟩ ⟨Nat.le_of_ble_eq_true rfl, Nat.le_of_ble_eq_true rfl⟩ rfl (Nat.le_of_ble_eq_true rfl) dX12_set_17 (fun v17_0 hw => ?_)
    exact hret _ _ _ _ v17_0 dX12_set_20 hw (Nat.le_of_ble_eq_true rfl) (Nat.le_of_ble_eq_true rfl)
set_option maxHeartbeats 4000000 in
set_option maxRecDepth 100000 in
theorem jX12_ruleWord_40 {X : VX} {E : VE} {l : Launch} (h0 : Nat) (a0 : Nat → Nat)  (Q : Md → Prop) (C : VC X cX12_ruleWord 3 RX12 (rmL 2 0 0) E l) (hret : RetV X cX12_ruleWord 0 0 (fun (U : Md) => [wX12 E h0 a0 U].flatten) (fun (U : Md) => Q U))  : ∀ (n : Nat), ∀ (u0 : Md) (y1 : Int32) (y2 : Int32), qX12_ruleWord_40 Q n u0 y1 y2 → VV X 0 0 ([wX12 E h0 a0 u0].flatten) [(0, .ref h0), (1, .int y1), (2, .int y2)] 40 [] := by
  intro n
  induction n with
  | zero =>
    intro u0 y1 y2 hw
    exact hw.elim
  | succ n ih =>
    intro u0 y1 y2 hw
    unfold qX12_ruleWord_40 at hw
    refine v_iload_n C dX12_ruleWord_40 2 rfl ?_
    refine v_aload_n C dX12_ruleWord_41 0 rfl ?_
    refine v_get (ci := 12) C inT12 0 11 rfl rfl (by decide) mF_X12_179_X12_11 rfl dX12_ruleWord_42 ?_
    refine v_icmp_ge (tgt := 75) C dX12_ruleWord_45 (by decide) (fun hc => ?_) (fun hc => ?_)
    · have hw := hw.1 hc
      refine v_aload_n C dX12_ruleWord_75 0 rfl ?_
      refine v_callFv (st := []) (ci := 12) (qb := 0) C (kX12_next_ h0 a0 _ hw) mM_X12_206 mI_X12 mC_X12_next_ mN_X12_next_ mS_X12_next_ rfl rfl hd_X12_next_ ⟨Nat.le_of_ble_eq_true rfl, Nat.le_of_ble_eq_true rfl⟩ ⟨Nat.le_of_ble_eq_true rfl, Nat.le_of_ble_eq_true rfl⟩ rfl (Nat.le_of_ble_eq_true rfl) dX12_ruleWord_76 (fun v76_0 hw => ?_)
      exact hret _ _ _ _ v76_0 dX12_ruleWord_79 hw (Nat.le_of_ble_eq_true rfl) (Nat.le_of_ble_eq_true rfl)
    · have hw := hw.2 hc
      refine v_aload_n C dX12_ruleWord_48 0 rfl ?_
      refine v_get (ci := 12) C inT12 0 18 rfl rfl (by decide) mF_X12_41_X12_18 rfl dX12_ruleWord_49 ?_
      refine v_iload_n C dX12_ruleWord_52 1 rfl ?_
      refine v_iconst (v := 1) C dX12_ruleWord_53 (by decide) ?_
      refine v_iadd C dX12_ruleWord_54 ?_
      refine v_iload_n C dX12_ruleWord_55 2 rfl ?_
      refine v_iadd C dX12_ruleWord_56 ?_
      refine v_aload_n C dX12_ruleWord_57 0 rfl ?_
      refine v_get (ci := 12) C inT12 0 12 rfl rfl (by decide) mF_X12_185_X12_12 rfl dX12_ruleWord_58 ?_
      refine v_isub C dX12_ruleWord_61 ?_
      refine v_aload_n C dX12_ruleWord_62 0 rfl ?_
      refine v_get (ci := 12) C inT12 0 4 rfl rfl (by decide) mF_X12_21_X12_4 rfl dX12_ruleWord_63 ?_
      refine v_iload_n C dX12_ruleWord_66 2 rfl ?_
      obtain ⟨hi67, hw⟩ := hw
      refine v_bald C 4 rfl hi67 dX12_ruleWord_67 ?_
      obtain ⟨hi68, hw⟩ := hw
      obtain ⟨w68, e68⟩ : ∃ z : Md, z = tA u0 18 (((y1 + 1) + y2) - (gF u0 12)) ((gB u0 4 y2.toNatClampNeg).toInt32) := ⟨_, rfl⟩
      have hw := hw w68 e68
      refine v_iast (ws' := [wX12 E h0 a0 w68].flatten) C 9 rfl hi68 (by rw [e68]; rfl) dX12_ruleWord_68 ?_
      refine v_iinc (lv' := [(2, .int (y2 + Int32.ofInt 1)), (0, .ref h0), (1, .int y1)]) C dX12_ruleWord_69 2 rfl (by decide) rfl ?_
      refine v_goto (tgt := 40) C dX12_ruleWord_72 (by decide) ?_
      refine v_lv C (lv' := [(0, .ref h0), (1, .int y1), (2, .int (y2 + Int32.ofInt 1))]) [1, 2, 0] rfl ?_
      exact ih w68 y1 (y2 + Int32.ofInt 1) hw
set_option maxHeartbeats 4000000 in
set_option maxRecDepth 100000 in
theorem jX12_ruleWord_12 {X : VX} {E : VE} {l : Launch} (h0 : Nat) (a0 : Nat → Nat)  (Q : Md → Prop) (C : VC X cX12_ruleWord 3 RX12 (rmL 2 0 0) E l) (hret : RetV X cX12_ruleWord 0 0 (fun (U : Md) => [wX12 E h0 a0 U].flatten) (fun (U : Md) => Q U))  : ∀ (u0 : Md) (y1 : Int32), qX12_ruleWord_12 Q u0 y1 → VV X 0 0 ([wX12 E h0 a0 u0].flatten) [(0, .ref h0), (1, .int y1)] 12 [] := by
  intro u0 y1 hw
  unfold qX12_ruleWord_12 at hw
  refine v_aload_n C dX12_ruleWord_12 0 rfl ?_
  refine v_callFi (st := []) (ci := 12) (qb := 0) C (kX12_good h0 a0 _ hw) mM_X12_209 mI_X12 mC_X12_good mN_X12_good mS_X12_good rfl rfl hd_X12_good ⟨Nat.le_of_ble_eq_true rfl, Nat.le_of_ble_eq_true rfl⟩ ⟨Nat.le_of_ble_eq_true rfl, Nat.le_of_ble_eq_true rfl⟩ rfl (Nat.le_of_ble_eq_true rfl) dX12_ruleWord_13 (fun r13 v13_0 hw => ?_)
  obtain ⟨h01_13, hw⟩ := hw
  have hw := hw h01_13
  refine v_if_ne (tgt := 20) C dX12_ruleWord_16 (by decide) (fun hc => ?_) (fun hc => ?_)
  · have hw := hw.1 hc
    refine v_aload_n C dX12_ruleWord_20 0 rfl ?_
    refine v_get (ci := 12) C inT12 0 18 rfl rfl (by decide) mF_X12_41_X12_18 rfl dX12_ruleWord_21 ?_
    refine v_iload_n C dX12_ruleWord_24 1 rfl ?_
    refine v_aload_n C dX12_ruleWord_25 0 rfl ?_
    refine v_get (ci := 12) C inT12 0 11 rfl rfl (by decide) mF_X12_179_X12_11 rfl dX12_ruleWord_26 ?_
    refine v_aload_n C dX12_ruleWord_29 0 rfl ?_
    refine v_get (ci := 12) C inT12 0 12 rfl rfl (by decide) mF_X12_185_X12_12 rfl dX12_ruleWord_30 ?_
    refine v_isub C dX12_ruleWord_33 ?_
    obtain ⟨hi34, hw⟩ := hw
    obtain ⟨w34, e34⟩ : ∃ z : Md, z = tA v13_0 18 y1 ((gF v13_0 11) - (gF v13_0 12)) := ⟨_, rfl⟩
    have hw := hw w34 e34
    refine v_iast (ws' := [wX12 E h0 a0 w34].flatten) C 9 rfl hi34 (by rw [e34]; rfl) dX12_ruleWord_34 ?_
    refine v_aload_n C dX12_ruleWord_35 0 rfl ?_
    refine v_get (ci := 12) C inT12 0 12 rfl rfl (by decide) mF_X12_185_X12_12 rfl dX12_ruleWord_36 ?_
    refine v_istore_n (lv' := [(2, .int (gF w34 12)), (0, .ref h0), (1, .int y1)]) C dX12_ruleWord_39 (by decide) rfl ?_
    refine v_lv C (lv' := [(0, .ref h0), (1, .int y1), (2, .int (gF w34 12))]) [1, 2, 0] rfl ?_
    obtain ⟨n', hw⟩ := hw
    exact jX12_ruleWord_40 h0 a0 Q C hret n' w34 y1 (gF w34 12) hw
  · have hw := hw.2 hc
    exact hret _ _ _ _ v13_0 dX12_ruleWord_19 hw (Nat.le_of_ble_eq_true rfl) (Nat.le_of_ble_eq_true rfl)
set_option maxHeartbeats 4000000 in
set_option maxRecDepth 100000 in
theorem kX12_ruleWord {l : Launch} {E : VE} (h0 : Nat) (a0 : Nat → Nat) (u0 : Md) (x1 : Int32) {Q : Md → Prop} (hw : qX12_ruleWord u0 x1 Q) : MV l yX12_ruleWord cX12_ruleWord 3 2 0 0 E [.ref h0, .int x1] ([wX12 E h0 a0 u0].flatten) (fun (U : Md) => [wX12 E h0 a0 U].flatten) (fun (U : Md) => Q U) := by
  refine MV.of (own := RX12) (by decide) rfl (Nat.le_of_ble_eq_true rfl) ?_
  intro X C hini hret
  show VV X 0 0 ([wX12 E h0 a0 u0].flatten) [(0, .ref h0), (1, .int x1)] 0 []
  unfold qX12_ruleWord at hw
  refine v_aload_n C dX12_ruleWord_0 0 rfl ?_
  refine v_callFi (st := []) (ci := 12) (qb := 0) C (kX12_isRuleWord h0 a0 _ hw) mM_X12_236 mI_X12 mC_X12_isRuleWord mN_X12_isRuleWord mS_X12_isRuleWord rfl rfl hd_X12_isRuleWord ⟨Nat.le_of_ble_eq_true rfl, Nat.le_of_ble_eq_true rfl⟩ ⟨Nat.le_of_ble_eq_true rfl, Nat.le_of_ble_eq_true rfl⟩ rfl (Nat.le_of_ble_eq_true rfl) dX12_ruleWord_1 (fun r1 v1_0 hw => ?_)
  obtain ⟨h01_1, hw⟩ := hw
  have hw := hw h01_1
  refine v_if_ne (tgt := 12) C dX12_ruleWord_4 (by decide) (fun hc => ?_) (fun hc => ?_)
  · have hw := hw.1 hc
    exact jX12_ruleWord_12 h0 a0 Q C hret v1_0 x1 hw
  · have hw := hw.2 hc
    refine v_aload_n C dX12_ruleWord_7 0 rfl ?_
    refine v_iconst (v := 1) C dX12_ruleWord_8 (by decide) ?_
    refine v_callFv (st := []) (ci := 12) (qb := 0) C (kX12_wrong h0 a0 _ _ hw) mM_X12_225 mI_X12 mC_X12_wrong mN_X12_wrong mS_X12_wrong rfl rfl hd_X12_wrong ⟨Nat.le_of_ble_eq_true rfl, Nat.le_of_ble_eq_true rfl⟩ ⟨Nat.le_of_ble_eq_true rfl, Nat.le_of_ble_eq_true rfl⟩ rfl (Nat.le_of_ble_eq_true rfl) dX12_ruleWord_9 (fun v9_0 hw => ?_)
    exact jX12_ruleWord_12 h0 a0 Q C hret v9_0 x1 hw
set_option maxHeartbeats 4000000 in
set_option maxRecDepth 100000 in
theorem jX12_rule_105 {X : VX} {E : VE} {l : Launch} (h0 : Nat) (a0 : Nat → Nat)  (Q : Md → Prop) (C : VC X cX12_rule 3 RX12 (rmL 6 0 0) E l) (hret : RetV X cX12_rule 0 0 (fun (U : Md) => [wX12 E h0 a0 U].flatten) (fun (U : Md) => Q U))  : ∀ (u0 : Md), qX12_rule_105 Q u0 → VV X 0 0 ([wX12 E h0 a0 u0].flatten) [(0, .ref h0)] 105 [] := by
  intro u0 hw
  unfold qX12_rule_105 at hw
  refine v_aload_n C dX12_rule_105 0 rfl ?_
  refine v_bipush (v := 59) C dX12_rule_106 (by decide) ?_
  refine v_callFv (st := []) (ci := 12) (qb := 0) C (kX12_needSign h0 a0 _ _ hw) mM_X12_248 mI_X12 mC_X12_needSign mN_X12_needSign mS_X12_needSign rfl rfl hd_X12_needSign ⟨Nat.le_of_ble_eq_true rfl, Nat.le_of_ble_eq_true rfl⟩ ⟨Nat.le_of_ble_eq_true rfl, Nat.le_of_ble_eq_true rfl⟩ rfl (Nat.le_of_ble_eq_true rfl) dX12_rule_108 (fun v108_0 hw => ?_)
  exact hret _ _ _ _ v108_0 dX12_rule_111 hw (Nat.le_of_ble_eq_true rfl) (Nat.le_of_ble_eq_true rfl)
set_option maxHeartbeats 4000000 in
set_option maxRecDepth 100000 in
theorem jX12_rule_88 {X : VX} {E : VE} {l : Launch} (h0 : Nat) (a0 : Nat → Nat)  (Q : Md → Prop) (C : VC X cX12_rule 3 RX12 (rmL 6 0 0) E l) (hret : RetV X cX12_rule 0 0 (fun (U : Md) => [wX12 E h0 a0 U].flatten) (fun (U : Md) => Q U))  : ∀ (u0 : Md) (y1 : Int32), qX12_rule_88 Q u0 y1 → VV X 0 0 ([wX12 E h0 a0 u0].flatten) [(0, .ref h0), (1, .int y1)] 88 [] := by
  intro u0 y1 hw
  unfold qX12_rule_88 at hw
  refine v_aload_n C dX12_rule_88 0 rfl ?_
  refine v_ldcS C (tx := "before") 1 (by decide) dX12_rule_89 ?_
  refine v_callFi (st := []) (ci := 12) (qb := 0) C (kX12_takes h0 a0 _ _ (by decide) hw) mM_X12_239 mI_X12 mC_X12_takes mN_X12_takes mS_X12_takes rfl rfl hd_X12_takes ⟨Nat.le_of_ble_eq_true rfl, Nat.le_of_ble_eq_true rfl⟩ ⟨Nat.le_of_ble_eq_true rfl, Nat.le_of_ble_eq_true rfl⟩ rfl (Nat.le_of_ble_eq_true rfl) dX12_rule_91 (fun r91 v91_0 hw => ?_)
  obtain ⟨h01_91, hw⟩ := hw
  have hw := hw h01_91
  refine v_if_eq (tgt := 105) C dX12_rule_94 (by decide) (fun hc => ?_) (fun hc => ?_)
  · have hw := hw.1 hc
    refine v_lv C (lv' := [(0, .ref h0)]) [0] rfl ?_
    exact jX12_rule_105 h0 a0 Q C hret v91_0 hw
  · have hw := hw.2 hc
    refine v_aload_n C dX12_rule_97 0 rfl ?_
    refine v_iload_n C dX12_rule_98 1 rfl ?_
    refine v_bipush (v := 10) C dX12_rule_99 (by decide) ?_
    refine v_iadd C dX12_rule_101 ?_
    refine v_callFv (st := []) (ci := 12) (qb := 0) C (kX12_set h0 a0 _ _ hw) mM_X12_242 mI_X12 mC_X12_set mN_X12_set mS_X12_set rfl rfl hd_X12_set ⟨Nat.le_of_ble_eq_true rfl, Nat.le_of_ble_eq_true rfl⟩ ⟨Nat.le_of_ble_eq_true rfl, Nat.le_of_ble_eq_true rfl⟩ rfl (Nat.le_of_ble_eq_true rfl) dX12_rule_102 (fun v102_0 hw => ?_)
    refine v_lv C (lv' := [(0, .ref h0)]) [0] rfl ?_
    exact jX12_rule_105 h0 a0 Q C hret v102_0 hw
set_option maxHeartbeats 4000000 in
set_option maxRecDepth 100000 in
theorem jX12_rule_51 {X : VX} {E : VE} {l : Launch} (h0 : Nat) (a0 : Nat → Nat)  (Q : Md → Prop) (C : VC X cX12_rule 3 RX12 (rmL 6 0 0) E l) (hret : RetV X cX12_rule 0 0 (fun (U : Md) => [wX12 E h0 a0 U].flatten) (fun (U : Md) => Q U))  : ∀ (u0 : Md) (y1 : Int32), qX12_rule_51 Q u0 y1 → VV X 0 0 ([wX12 E h0 a0 u0].flatten) [(0, .ref h0), (1, .int y1)] 51 [] := by
  intro u0 y1 hw
  unfold qX12_rule_51 at hw
  refine v_aload_n C dX12_rule_51 0 rfl ?_
  refine v_bipush (v := 62) C dX12_rule_52 (by decide) ?_
  refine v_callFv (st := []) (ci := 12) (qb := 0) C (kX12_needSign h0 a0 _ _ hw) mM_X12_248 mI_X12 mC_X12_needSign mN_X12_needSign mS_X12_needSign rfl rfl hd_X12_needSign ⟨Nat.le_of_ble_eq_true rfl, Nat.le_of_ble_eq_true rfl⟩ ⟨Nat.le_of_ble_eq_true rfl, Nat.le_of_ble_eq_true rfl⟩ rfl (Nat.le_of_ble_eq_true rfl) dX12_rule_54 (fun v54_0 hw => ?_)
  refine v_aload_n C dX12_rule_57 0 rfl ?_
  refine v_bipush (v := 45) C dX12_rule_58 (by decide) ?_
  refine v_callFi (st := []) (ci := 12) (qb := 0) C (kX12_isSign h0 a0 _ _ hw) mM_X12_222 mI_X12 mC_X12_isSign mN_X12_isSign mS_X12_isSign rfl rfl hd_X12_isSign ⟨Nat.le_of_ble_eq_true rfl, Nat.le_of_ble_eq_true rfl⟩ ⟨Nat.le_of_ble_eq_true rfl, Nat.le_of_ble_eq_true rfl⟩ rfl (Nat.le_of_ble_eq_true rfl) dX12_rule_60 (fun r60 v60_0 hw => ?_)
  obtain ⟨h01_60, hw⟩ := hw
  have hw := hw h01_60
  refine v_if_eq (tgt := 73) C dX12_rule_63 (by decide) (fun hc => ?_) (fun hc => ?_)
  · have hw := hw.1 hc
    refine v_aload_n C dX12_rule_73 0 rfl ?_
    refine v_callFi (st := []) (ci := 12) (qb := 0) C (kX12_good h0 a0 _ hw) mM_X12_209 mI_X12 mC_X12_good mN_X12_good mS_X12_good rfl rfl hd_X12_good ⟨Nat.le_of_ble_eq_true rfl, Nat.le_of_ble_eq_true rfl⟩ ⟨Nat.le_of_ble_eq_true rfl, Nat.le_of_ble_eq_true rfl⟩ rfl (Nat.le_of_ble_eq_true rfl) dX12_rule_74 (fun r74 v74_0 hw => ?_)
    obtain ⟨h01_74, hw⟩ := hw
    have hw := hw h01_74
    refine v_if_eq (tgt := 88) C dX12_rule_77 (by decide) (fun hc => ?_) (fun hc => ?_)
    · have hw := hw.1 hc
      exact jX12_rule_88 h0 a0 Q C hret v74_0 y1 hw
    · have hw := hw.2 hc
      refine v_aload_n C dX12_rule_80 0 rfl ?_
      refine v_iload_n C dX12_rule_81 1 rfl ?_
      refine v_bipush (v := 6) C dX12_rule_82 (by decide) ?_
      refine v_iadd C dX12_rule_84 ?_
      refine v_callFv (st := []) (ci := 12) (qb := 0) C (kX12_ruleWord h0 a0 _ _ hw) mM_X12_245 mI_X12 mC_X12_ruleWord mN_X12_ruleWord mS_X12_ruleWord rfl rfl hd_X12_ruleWord ⟨Nat.le_of_ble_eq_true rfl, Nat.le_of_ble_eq_true rfl⟩ ⟨Nat.le_of_ble_eq_true rfl, Nat.le_of_ble_eq_true rfl⟩ rfl (Nat.le_of_ble_eq_true rfl) dX12_rule_85 (fun v85_0 hw => ?_)
      exact jX12_rule_88 h0 a0 Q C hret v85_0 y1 hw
  · have hw := hw.2 hc
    refine v_aload_n C dX12_rule_66 0 rfl ?_
    refine v_callFv (st := []) (ci := 12) (qb := 0) C (kX12_next_ h0 a0 _ hw) mM_X12_206 mI_X12 mC_X12_next_ mN_X12_next_ mS_X12_next_ rfl rfl hd_X12_next_ ⟨Nat.le_of_ble_eq_true rfl, Nat.le_of_ble_eq_true rfl⟩ ⟨Nat.le_of_ble_eq_true rfl, Nat.le_of_ble_eq_true rfl⟩ rfl (Nat.le_of_ble_eq_true rfl) dX12_rule_67 (fun v67_0 hw => ?_)
    refine v_goto (tgt := 88) C dX12_rule_70 (by decide) ?_
    exact jX12_rule_88 h0 a0 Q C hret v67_0 y1 hw
set_option maxHeartbeats 4000000 in
set_option maxRecDepth 100000 in
theorem jX12_rule_37 {X : VX} {E : VE} {l : Launch} (h0 : Nat) (a0 : Nat → Nat)  (Q : Md → Prop) (C : VC X cX12_rule 3 RX12 (rmL 6 0 0) E l) (hret : RetV X cX12_rule 0 0 (fun (U : Md) => [wX12 E h0 a0 U].flatten) (fun (U : Md) => Q U))  : ∀ (u0 : Md) (y1 : Int32), qX12_rule_37 Q u0 y1 → VV X 0 0 ([wX12 E h0 a0 u0].flatten) [(0, .ref h0), (1, .int y1)] 37 [] := by
  intro u0 y1 hw
  unfold qX12_rule_37 at hw
  refine v_aload_n C dX12_rule_37 0 rfl ?_
  refine v_callFi (st := []) (ci := 12) (qb := 0) C (kX12_good h0 a0 _ hw) mM_X12_209 mI_X12 mC_X12_good mN_X12_good mS_X12_good rfl rfl hd_X12_good ⟨Nat.le_of_ble_eq_true rfl, Nat.le_of_ble_eq_true rfl⟩ ⟨Nat.le_of_ble_eq_true rfl, Nat.le_of_ble_eq_true rfl⟩ rfl (Nat.le_of_ble_eq_true rfl) dX12_rule_38 (fun r38 v38_0 hw => ?_)
  obtain ⟨h01_38, hw⟩ := hw
  have hw := hw h01_38
  refine v_if_eq (tgt := 51) C dX12_rule_41 (by decide) (fun hc => ?_) (fun hc => ?_)
  · have hw := hw.1 hc
    exact jX12_rule_51 h0 a0 Q C hret v38_0 y1 hw
  · have hw := hw.2 hc
    refine v_aload_n C dX12_rule_44 0 rfl ?_
    refine v_iload_n C dX12_rule_45 1 rfl ?_
    refine v_iconst (v := 2) C dX12_rule_46 (by decide) ?_
    refine v_iadd C dX12_rule_47 ?_
    refine v_callFv (st := []) (ci := 12) (qb := 0) C (kX12_ruleWord h0 a0 _ _ hw) mM_X12_245 mI_X12 mC_X12_ruleWord mN_X12_ruleWord mS_X12_ruleWord rfl rfl hd_X12_ruleWord ⟨Nat.le_of_ble_eq_true rfl, Nat.le_of_ble_eq_true rfl⟩ ⟨Nat.le_of_ble_eq_true rfl, Nat.le_of_ble_eq_true rfl⟩ rfl (Nat.le_of_ble_eq_true rfl) dX12_rule_48 (fun v48_0 hw => ?_)
    exact jX12_rule_51 h0 a0 Q C hret v48_0 y1 hw
set_option maxHeartbeats 4000000 in
set_option maxRecDepth 100000 in
theorem jX12_rule_2 {X : VX} {E : VE} {l : Launch} (h0 : Nat) (a0 : Nat → Nat)  (Q : Md → Prop) (C : VC X cX12_rule 3 RX12 (rmL 6 0 0) E l) (hret : RetV X cX12_rule 0 0 (fun (U : Md) => [wX12 E h0 a0 U].flatten) (fun (U : Md) => Q U))  : ∀ (n : Nat), ∀ (u0 : Md) (y1 : Int32) (y2 : Int32), qX12_rule_2 Q n u0 y1 y2 → VV X 0 0 ([wX12 E h0 a0 u0].flatten) [(0, .ref h0), (1, .int y1), (2, .int y2)] 2 [] := by
  intro n
  induction n with
  | zero =>
    intro u0 y1 y2 hw
    exact hw.elim
  | succ n ih =>
    intro u0 y1 y2 hw
    unfold qX12_rule_2 at hw
    refine v_iload_n C dX12_rule_2 2 rfl ?_
    refine v_bipush (v := 12) C dX12_rule_3 (by decide) ?_
    refine v_icmp_ge (tgt := 23) C dX12_rule_5 (by decide) (fun hc => ?_) (fun hc => ?_)
    · have hw := hw.1 hc
      refine v_aload_n C dX12_rule_23 0 rfl ?_
      refine v_ldcS C (tx := "after") 0 (by decide) dX12_rule_24 ?_
      refine v_callFi (st := []) (ci := 12) (qb := 0) C (kX12_takes h0 a0 _ _ (by decide) hw) mM_X12_239 mI_X12 mC_X12_takes mN_X12_takes mS_X12_takes rfl rfl hd_X12_takes ⟨Nat.le_of_ble_eq_true rfl, Nat.le_of_ble_eq_true rfl⟩ ⟨Nat.le_of_ble_eq_true rfl, Nat.le_of_ble_eq_true rfl⟩ rfl (Nat.le_of_ble_eq_true rfl) dX12_rule_26 (fun r26 v26_0 hw => ?_)
      obtain ⟨h01_26, hw⟩ := hw
      have hw := hw h01_26
      refine v_if_eq (tgt := 37) C dX12_rule_29 (by decide) (fun hc => ?_) (fun hc => ?_)
      · have hw := hw.1 hc
        refine v_lv C (lv' := [(0, .ref h0), (1, .int y1)]) [0, 1] rfl ?_
        exact jX12_rule_37 h0 a0 Q C hret v26_0 y1 hw
      · have hw := hw.2 hc
        refine v_aload_n C dX12_rule_32 0 rfl ?_
        refine v_iload_n C dX12_rule_33 1 rfl ?_
        refine v_callFv (st := []) (ci := 12) (qb := 0) C (kX12_set h0 a0 _ _ hw) mM_X12_242 mI_X12 mC_X12_set mN_X12_set mS_X12_set rfl rfl hd_X12_set ⟨Nat.le_of_ble_eq_true rfl, Nat.le_of_ble_eq_true rfl⟩ ⟨Nat.le_of_ble_eq_true rfl, Nat.le_of_ble_eq_true rfl⟩ rfl (Nat.le_of_ble_eq_true rfl) dX12_rule_34 (fun v34_0 hw => ?_)
        refine v_lv C (lv' := [(0, .ref h0), (1, .int y1)]) [0, 1] rfl ?_
        exact jX12_rule_37 h0 a0 Q C hret v34_0 y1 hw
    · have hw := hw.2 hc
      refine v_aload_n C dX12_rule_8 0 rfl ?_
      refine v_get (ci := 12) C inT12 0 18 rfl rfl (by decide) mF_X12_41_X12_18 rfl dX12_rule_9 ?_
      refine v_iload_n C dX12_rule_12 1 rfl ?_
      refine v_iload_n C dX12_rule_13 2 rfl ?_
      refine v_iadd C dX12_rule_14 ?_
      refine v_iconst (v := 0) C dX12_rule_15 (by decide) ?_
      obtain ⟨hi16, hw⟩ := hw
      obtain ⟨w16, e16⟩ : ∃ z : Md, z = tA u0 18 (y1 + y2) 0 := ⟨_, rfl⟩
      have hw := hw w16 e16
      refine v_iast (ws' := [wX12 E h0 a0 w16].flatten) C 9 rfl hi16 (by rw [e16]; rfl) dX12_rule_16 ?_
      refine v_iinc (lv' := [(2, .int (y2 + Int32.ofInt 1)), (0, .ref h0), (1, .int y1)]) C dX12_rule_17 2 rfl (by decide) rfl ?_
      refine v_goto (tgt := 2) C dX12_rule_20 (by decide) ?_
      refine v_lv C (lv' := [(0, .ref h0), (1, .int y1), (2, .int (y2 + Int32.ofInt 1))]) [1, 2, 0] rfl ?_
      exact ih w16 y1 (y2 + Int32.ofInt 1) hw
set_option maxHeartbeats 4000000 in
set_option maxRecDepth 100000 in
theorem kX12_rule {l : Launch} {E : VE} (h0 : Nat) (a0 : Nat → Nat) (u0 : Md) (x1 : Int32) {Q : Md → Prop} (hw : qX12_rule u0 x1 Q) : MV l yX12_rule cX12_rule 3 6 0 0 E [.ref h0, .int x1] ([wX12 E h0 a0 u0].flatten) (fun (U : Md) => [wX12 E h0 a0 U].flatten) (fun (U : Md) => Q U) := by
  refine MV.of (own := RX12) (by decide) rfl (Nat.le_of_ble_eq_true rfl) ?_
  intro X C hini hret
  show VV X 0 0 ([wX12 E h0 a0 u0].flatten) [(0, .ref h0), (1, .int x1)] 0 []
  unfold qX12_rule at hw
  refine v_iconst (v := 0) C dX12_rule_0 (by decide) ?_
  refine v_istore_n (lv' := [(2, .int 0), (0, .ref h0), (1, .int x1)]) C dX12_rule_1 (by decide) rfl ?_
  refine v_lv C (lv' := [(0, .ref h0), (1, .int x1), (2, .int 0)]) [1, 2, 0] rfl ?_
  obtain ⟨n', hw⟩ := hw
  exact jX12_rule_2 h0 a0 Q C hret n' u0 x1 0 hw
set_option maxHeartbeats 4000000 in
set_option maxRecDepth 100000 in
theorem jX12_spelling_158 {X : VX} {E : VE} {l : Launch} (h0 : Nat) (a0 : Nat → Nat)  (Q : Int32 → Md → Prop) (C : VC X cX12_spelling 5 RX12 (rmL 7 0 0) E l) (hret : RetI X cX12_spelling .int 0 0 (fun (U : Md) => [wX12 E h0 a0 U].flatten) (fun (r : Int32) (U : Md) => Q r U))  : ∀ (n : Nat), ∀ (u0 : Md) (y2 : Int32) (y3 : Int32) (y4 : Int32), qX12_spelling_158 Q n u0 y2 y3 y4 → VV X 0 0 ([wX12 E h0 a0 u0].flatten) [(0, .ref h0), (2, .int y2), (3, .int y3), (4, .int y4)] 158 [] := by
  intro n
  induction n with
  | zero =>
    intro u0 y2 y3 y4 hw
    exact hw.elim
  | succ n ih =>
    intro u0 y2 y3 y4 hw
    unfold qX12_spelling_158 at hw
    refine v_iload C dX12_spelling_158 3 rfl ?_
    refine v_sipush (v := 195) C dX12_spelling_160 (by decide) ?_
    refine v_icmp_ge (tgt := 188) C dX12_spelling_163 (by decide) (fun hc => ?_) (fun hc => ?_)
    · have hw := hw.1 hc
      refine v_aload_n C dX12_spelling_188 0 rfl ?_
      refine v_get (ci := 12) C inT12 0 1 rfl rfl (by decide) mF_X12_9_X12_1 rfl dX12_spelling_189 ?_
      refine v_iconst (v := 3) C dX12_spelling_192 (by decide) ?_
      refine v_dup2 C dX12_spelling_193 rfl rfl ?_
      obtain ⟨hi194, hw⟩ := hw
      refine v_iald C 1 rfl hi194 dX12_spelling_194 ?_
      refine v_iconst (v := 1) C dX12_spelling_195 (by decide) ?_
      refine v_iadd C dX12_spelling_196 ?_
      obtain ⟨hi197, hw⟩ := hw
      obtain ⟨w197, e197⟩ : ∃ z : Md, z = tA u0 1 3 ((gA u0 1 (3 : Int32).toNatClampNeg) + 1) := ⟨_, rfl⟩
      have hw := hw w197 e197
      refine v_iast (ws' := [wX12 E h0 a0 w197].flatten) C 1 rfl hi197 (by rw [e197]; rfl) dX12_spelling_197 ?_
      refine v_iload_n C dX12_spelling_198 1 rfl ?_
      exact hret _ _ _ _ y2 w197 dX12_spelling_199 rfl hw (Nat.le_of_ble_eq_true rfl) (Nat.le_of_ble_eq_true rfl)
    · have hw := hw.2 hc
      refine v_aload_n C dX12_spelling_166 0 rfl ?_
      refine v_get (ci := 12) C inT12 0 1 rfl rfl (by decide) mF_X12_9_X12_1 rfl dX12_spelling_167 ?_
      refine v_iload_n C dX12_spelling_170 2 rfl ?_
      refine v_iload C dX12_spelling_171 3 rfl ?_
      refine v_iadd C dX12_spelling_173 ?_
      refine v_aload_n C dX12_spelling_174 0 rfl ?_
      refine v_get (ci := 12) C inT12 0 18 rfl rfl (by decide) mF_X12_41_X12_18 rfl dX12_spelling_175 ?_
      refine v_iload C dX12_spelling_178 3 rfl ?_
      obtain ⟨hi180, hw⟩ := hw
      refine v_iald C 9 rfl hi180 dX12_spelling_180 ?_
      obtain ⟨hi181, hw⟩ := hw
      obtain ⟨w181, e181⟩ : ∃ z : Md, z = tA u0 1 (y3 + y4) (gA u0 18 y4.toNatClampNeg) := ⟨_, rfl⟩
      have hw := hw w181 e181
      refine v_iast (ws' := [wX12 E h0 a0 w181].flatten) C 1 rfl hi181 (by rw [e181]; rfl) dX12_spelling_181 ?_
      refine v_iinc (lv' := [(4, .int (y4 + Int32.ofInt 1)), (0, .ref h0), (2, .int y2), (3, .int y3)]) C dX12_spelling_182 3 rfl (by decide) rfl ?_
      refine v_goto (tgt := 158) C dX12_spelling_185 (by decide) ?_
      refine v_lv C (lv' := [(0, .ref h0), (2, .int y2), (3, .int y3), (4, .int (y4 + Int32.ofInt 1))]) [1, 2, 3, 0] rfl ?_
      exact ih w181 y2 y3 (y4 + Int32.ofInt 1) hw
set_option maxHeartbeats 4000000 in
set_option maxRecDepth 100000 in
theorem jX12_spelling_106 {X : VX} {E : VE} {l : Launch} (h0 : Nat) (a0 : Nat → Nat)  (Q : Int32 → Md → Prop) (C : VC X cX12_spelling 5 RX12 (rmL 7 0 0) E l) (hret : RetI X cX12_spelling .int 0 0 (fun (U : Md) => [wX12 E h0 a0 U].flatten) (fun (r : Int32) (U : Md) => Q r U))  : ∀ (u0 : Md) (y1 : Int32) (y2 : Int32), qX12_spelling_106 Q u0 y1 y2 → VV X 0 0 ([wX12 E h0 a0 u0].flatten) [(0, .ref h0), (1, .int y1), (2, .int y2)] 106 [] := by
  intro u0 y1 y2 hw
  unfold qX12_spelling_106 at hw
  refine v_aload_n C dX12_spelling_106 0 rfl ?_
  refine v_callFi (st := []) (ci := 12) (qb := 0) C (kX12_good h0 a0 _ hw) mM_X12_209 mI_X12 mC_X12_good mN_X12_good mS_X12_good rfl rfl hd_X12_good ⟨Nat.le_of_ble_eq_true rfl, Nat.le_of_ble_eq_true rfl⟩ ⟨Nat.le_of_ble_eq_true rfl, Nat.le_of_ble_eq_true rfl⟩ rfl (Nat.le_of_ble_eq_true rfl) dX12_spelling_107 (fun r107 v107_0 hw => ?_)
  obtain ⟨h01_107, hw⟩ := hw
  have hw := hw h01_107
  refine v_if_ne (tgt := 116) C dX12_spelling_110 (by decide) (fun hc => ?_) (fun hc => ?_)
  · have hw := hw.1 hc
    refine v_aload_n C dX12_spelling_116 0 rfl ?_
    refine v_get (ci := 12) C inT12 0 18 rfl rfl (by decide) mF_X12_41_X12_18 rfl dX12_spelling_117 ?_
    refine v_iconst (v := 0) C dX12_spelling_120 (by decide) ?_
    refine v_iload_n C dX12_spelling_121 1 rfl ?_
    obtain ⟨hi122, hw⟩ := hw
    obtain ⟨w122, e122⟩ : ∃ z : Md, z = tA v107_0 18 0 y1 := ⟨_, rfl⟩
    have hw := hw w122 e122
    refine v_iast (ws' := [wX12 E h0 a0 w122].flatten) C 9 rfl hi122 (by rw [e122]; rfl) dX12_spelling_122 ?_
    refine v_aload_n C dX12_spelling_123 0 rfl ?_
    refine v_get (ci := 12) C inT12 0 18 rfl rfl (by decide) mF_X12_41_X12_18 rfl dX12_spelling_124 ?_
    refine v_iconst (v := 1) C dX12_spelling_127 (by decide) ?_
    refine v_aload_n C dX12_spelling_128 0 rfl ?_
    refine v_callFi (st := [.int 1, .ref ((a0 18))]) (ci := 12) (qb := 0) C (kX12_now h0 a0 _ hw) mM_X12_138 mI_X12 mC_X12_now mN_X12_now mS_X12_now rfl rfl hd_X12_now ⟨Nat.le_of_ble_eq_true rfl, Nat.le_of_ble_eq_true rfl⟩ ⟨Nat.le_of_ble_eq_true rfl, Nat.le_of_ble_eq_true rfl⟩ rfl (Nat.le_of_ble_eq_true rfl) dX12_spelling_129 (fun r129 v129_0 hw => ?_)
    obtain ⟨hi132, hw⟩ := hw
    obtain ⟨w132, e132⟩ : ∃ z : Md, z = tA v129_0 18 1 r129 := ⟨_, rfl⟩
    have hw := hw w132 e132
    refine v_iast (ws' := [wX12 E h0 a0 w132].flatten) C 9 rfl hi132 (by rw [e132]; rfl) dX12_spelling_132 ?_
    refine v_aload_n C dX12_spelling_133 0 rfl ?_
    refine v_get (ci := 12) C inT12 0 18 rfl rfl (by decide) mF_X12_41_X12_18 rfl dX12_spelling_134 ?_
    refine v_iconst (v := 2) C dX12_spelling_137 (by decide) ?_
    refine v_iload_n C dX12_spelling_138 2 rfl ?_
    obtain ⟨hi139, hw⟩ := hw
    obtain ⟨w139, e139⟩ : ∃ z : Md, z = tA w132 18 2 y2 := ⟨_, rfl⟩
    have hw := hw w139 e139
    refine v_iast (ws' := [wX12 E h0 a0 w139].flatten) C 9 rfl hi139 (by rw [e139]; rfl) dX12_spelling_139 ?_
    refine v_sipush (v := 1370) C dX12_spelling_140 (by decide) ?_
    refine v_sipush (v := 195) C dX12_spelling_143 (by decide) ?_
    refine v_aload_n C dX12_spelling_146 0 rfl ?_
    refine v_get (ci := 12) C inT12 0 1 rfl rfl (by decide) mF_X12_9_X12_1 rfl dX12_spelling_147 ?_
    refine v_iconst (v := 3) C dX12_spelling_150 (by decide) ?_
    obtain ⟨hi151, hw⟩ := hw
    refine v_iald C 1 rfl hi151 dX12_spelling_151 ?_
    refine v_imul C dX12_spelling_152 ?_
    refine v_iadd C dX12_spelling_153 ?_
    refine v_istore_n (lv' := [(3, .int (1370 + (195 * (gA w139 1 (3 : Int32).toNatClampNeg)))), (0, .ref h0), (1, .int y1), (2, .int y2)]) C dX12_spelling_154 (by decide) rfl ?_
    refine v_iconst (v := 0) C dX12_spelling_155 (by decide) ?_
    refine v_istore (lv' := [(4, .int 0), (3, .int (1370 + (195 * (gA w139 1 (3 : Int32).toNatClampNeg)))), (0, .ref h0), (1, .int y1), (2, .int y2)]) C dX12_spelling_156 (by decide) rfl ?_
    refine v_lv C (lv' := [(0, .ref h0), (2, .int y2), (3, .int (1370 + (195 * (gA w139 1 (3 : Int32).toNatClampNeg)))), (4, .int 0)]) [2, 4, 1, 0] rfl ?_
    obtain ⟨n', hw⟩ := hw
    exact jX12_spelling_158 h0 a0 Q C hret n' w139 y2 (1370 + (195 * (gA w139 1 (3 : Int32).toNatClampNeg))) 0 hw
  · have hw := hw.2 hc
    refine v_bipush (v := (-4)) C dX12_spelling_113 (by decide) ?_
    exact hret _ _ _ _ ((-4)) v107_0 dX12_spelling_115 rfl hw (Nat.le_of_ble_eq_true rfl) (Nat.le_of_ble_eq_true rfl)
set_option maxHeartbeats 4000000 in
set_option maxRecDepth 100000 in
theorem jX12_spelling_80 {X : VX} {E : VE} {l : Launch} (h0 : Nat) (a0 : Nat → Nat)  (Q : Int32 → Md → Prop) (C : VC X cX12_spelling 5 RX12 (rmL 7 0 0) E l) (hret : RetI X cX12_spelling .int 0 0 (fun (U : Md) => [wX12 E h0 a0 U].flatten) (fun (r : Int32) (U : Md) => Q r U)) (K31 : Md → Int32 → Int32 → Prop) (hK31 : ∀ (u0 : Md) (y1 : Int32) (y2 : Int32), K31 u0 y1 y2 → VV X 0 0 ([wX12 E h0 a0 u0].flatten) [(0, .ref h0), (1, .int y1), (2, .int y2)] 31 []) : ∀ (u0 : Md) (y1 : Int32) (y2 : Int32), qX12_spelling_80 Q K31 u0 y1 y2 → VV X 0 0 ([wX12 E h0 a0 u0].flatten) [(0, .ref h0), (1, .int y1), (2, .int y2)] 80 [] := by
  intro u0 y1 y2 hw
  unfold qX12_spelling_80 at hw
  refine v_aload_n C dX12_spelling_80 0 rfl ?_
  refine v_callFi (st := []) (ci := 12) (qb := 0) C (kX12_good h0 a0 _ hw) mM_X12_209 mI_X12 mC_X12_good mN_X12_good mS_X12_good rfl rfl hd_X12_good ⟨Nat.le_of_ble_eq_true rfl, Nat.le_of_ble_eq_true rfl⟩ ⟨Nat.le_of_ble_eq_true rfl, Nat.le_of_ble_eq_true rfl⟩ rfl (Nat.le_of_ble_eq_true rfl) dX12_spelling_81 (fun r81 v81_0 hw => ?_)
  obtain ⟨h01_81, hw⟩ := hw
  have hw := hw h01_81
  refine v_if_ne (tgt := 90) C dX12_spelling_84 (by decide) (fun hc => ?_) (fun hc => ?_)
  · have hw := hw.1 hc
    refine v_aload_n C dX12_spelling_90 0 rfl ?_
    refine v_iconst (v := 3) C dX12_spelling_91 (by decide) ?_
    refine v_bipush (v := 12) C dX12_spelling_92 (by decide) ?_
    refine v_iload_n C dX12_spelling_94 2 rfl ?_
    refine v_imul C dX12_spelling_95 ?_
    refine v_iadd C dX12_spelling_96 ?_
    refine v_callFv (st := []) (ci := 12) (qb := 0) C (kX12_rule h0 a0 _ _ hw) mM_X12_255 mI_X12 mC_X12_rule mN_X12_rule mS_X12_rule rfl rfl hd_X12_rule ⟨Nat.le_of_ble_eq_true rfl, Nat.le_of_ble_eq_true rfl⟩ ⟨Nat.le_of_ble_eq_true rfl, Nat.le_of_ble_eq_true rfl⟩ rfl (Nat.le_of_ble_eq_true rfl) dX12_spelling_97 (fun v97_0 hw => ?_)
    refine v_iinc (lv' := [(2, .int (y2 + Int32.ofInt 1)), (0, .ref h0), (1, .int y1)]) C dX12_spelling_100 2 rfl (by decide) rfl ?_
    refine v_goto (tgt := 31) C dX12_spelling_103 (by decide) ?_
    refine v_lv C (lv' := [(0, .ref h0), (1, .int y1), (2, .int (y2 + Int32.ofInt 1))]) [1, 2, 0] rfl ?_
    exact hK31 v97_0 y1 (y2 + Int32.ofInt 1) hw
  · have hw := hw.2 hc
    refine v_goto (tgt := 106) C dX12_spelling_87 (by decide) ?_
    exact jX12_spelling_106 h0 a0 Q C hret v81_0 y1 y2 hw
set_option maxHeartbeats 4000000 in
set_option maxRecDepth 100000 in
theorem jX12_spelling_69 {X : VX} {E : VE} {l : Launch} (h0 : Nat) (a0 : Nat → Nat)  (Q : Int32 → Md → Prop) (C : VC X cX12_spelling 5 RX12 (rmL 7 0 0) E l) (hret : RetI X cX12_spelling .int 0 0 (fun (U : Md) => [wX12 E h0 a0 U].flatten) (fun (r : Int32) (U : Md) => Q r U)) (K31 : Md → Int32 → Int32 → Prop) (hK31 : ∀ (u0 : Md) (y1 : Int32) (y2 : Int32), K31 u0 y1 y2 → VV X 0 0 ([wX12 E h0 a0 u0].flatten) [(0, .ref h0), (1, .int y1), (2, .int y2)] 31 []) : ∀ (u0 : Md) (y1 : Int32) (y2 : Int32), qX12_spelling_69 Q K31 u0 y1 y2 → VV X 0 0 ([wX12 E h0 a0 u0].flatten) [(0, .ref h0), (1, .int y1), (2, .int y2)] 69 [] := by
  intro u0 y1 y2 hw
  unfold qX12_spelling_69 at hw
  refine v_iload_n C dX12_spelling_69 2 rfl ?_
  refine v_bipush (v := 16) C dX12_spelling_70 (by decide) ?_
  refine v_icmp_ne (tgt := 80) C dX12_spelling_72 (by decide) (fun hc => ?_) (fun hc => ?_)
  · have hw := hw.1 hc
    exact jX12_spelling_80 h0 a0 Q C hret K31 hK31 u0 y1 y2 hw
  · have hw := hw.2 hc
    refine v_aload_n C dX12_spelling_75 0 rfl ?_
    refine v_iconst (v := 3) C dX12_spelling_76 (by decide) ?_
    refine v_callFv (st := []) (ci := 12) (qb := 0) C (kX12_wrong h0 a0 _ _ hw) mM_X12_225 mI_X12 mC_X12_wrong mN_X12_wrong mS_X12_wrong rfl rfl hd_X12_wrong ⟨Nat.le_of_ble_eq_true rfl, Nat.le_of_ble_eq_true rfl⟩ ⟨Nat.le_of_ble_eq_true rfl, Nat.le_of_ble_eq_true rfl⟩ rfl (Nat.le_of_ble_eq_true rfl) dX12_spelling_77 (fun v77_0 hw => ?_)
    exact jX12_spelling_80 h0 a0 Q C hret K31 hK31 v77_0 y1 y2 hw
set_option maxHeartbeats 4000000 in
set_option maxRecDepth 100000 in
theorem jX12_spelling_31 {X : VX} {E : VE} {l : Launch} (h0 : Nat) (a0 : Nat → Nat)  (Q : Int32 → Md → Prop) (C : VC X cX12_spelling 5 RX12 (rmL 7 0 0) E l) (hret : RetI X cX12_spelling .int 0 0 (fun (U : Md) => [wX12 E h0 a0 U].flatten) (fun (r : Int32) (U : Md) => Q r U))  : ∀ (n : Nat), ∀ (u0 : Md) (y1 : Int32) (y2 : Int32), qX12_spelling_31 Q n u0 y1 y2 → VV X 0 0 ([wX12 E h0 a0 u0].flatten) [(0, .ref h0), (1, .int y1), (2, .int y2)] 31 [] := by
  intro n
  induction n with
  | zero =>
    intro u0 y1 y2 hw
    exact hw.elim
  | succ n ih =>
    intro u0 y1 y2 hw
    unfold qX12_spelling_31 at hw
    refine v_aload_n C dX12_spelling_31 0 rfl ?_
    refine v_callFi (st := []) (ci := 12) (qb := 0) C (kX12_good h0 a0 _ hw) mM_X12_209 mI_X12 mC_X12_good mN_X12_good mS_X12_good rfl rfl hd_X12_good ⟨Nat.le_of_ble_eq_true rfl, Nat.le_of_ble_eq_true rfl⟩ ⟨Nat.le_of_ble_eq_true rfl, Nat.le_of_ble_eq_true rfl⟩ rfl (Nat.le_of_ble_eq_true rfl) dX12_spelling_32 (fun r32 v32_0 hw => ?_)
    obtain ⟨h01_32, hw⟩ := hw
    have hw := hw h01_32
    refine v_if_eq (tgt := 106) C dX12_spelling_35 (by decide) (fun hc => ?_) (fun hc => ?_)
    · have hw := hw.1 hc
      exact jX12_spelling_106 h0 a0 Q C hret v32_0 y1 y2 hw
    · have hw := hw.2 hc
      refine v_aload_n C dX12_spelling_38 0 rfl ?_
      refine v_get (ci := 12) C inT12 0 13 rfl rfl (by decide) mF_X12_188_X12_13 rfl dX12_spelling_39 ?_
      refine v_if_eq (tgt := 106) C dX12_spelling_42 (by decide) (fun hc => ?_) (fun hc => ?_)
      · have hw := hw.1 hc
        exact jX12_spelling_106 h0 a0 Q C hret v32_0 y1 y2 hw
      · have hw := hw.2 hc
        refine v_aload_n C dX12_spelling_45 0 rfl ?_
        refine v_ldcS C (tx := "after") 0 (by decide) dX12_spelling_46 ?_
        refine v_callFi (st := []) (ci := 12) (qb := 0) C (kX12_is h0 a0 _ _ (by decide) hw) mM_X12_228 mI_X12 mC_X12_is mN_X12_is mS_X12_is rfl rfl hd_X12_is ⟨Nat.le_of_ble_eq_true rfl, Nat.le_of_ble_eq_true rfl⟩ ⟨Nat.le_of_ble_eq_true rfl, Nat.le_of_ble_eq_true rfl⟩ rfl (Nat.le_of_ble_eq_true rfl) dX12_spelling_48 (fun r48 v48_0 hw => ?_)
        obtain ⟨h01_48, hw⟩ := hw
        have hw := hw h01_48
        refine v_if_ne (tgt := 69) C dX12_spelling_51 (by decide) (fun hc => ?_) (fun hc => ?_)
        · have hw := hw.1 hc
          exact jX12_spelling_69 h0 a0 Q C hret (qX12_spelling_31 Q n) ih v48_0 y1 y2 hw
        · have hw := hw.2 hc
          refine v_aload_n C dX12_spelling_54 0 rfl ?_
          refine v_callFi (st := []) (ci := 12) (qb := 0) C (kX12_isRuleWord h0 a0 _ hw) mM_X12_236 mI_X12 mC_X12_isRuleWord mN_X12_isRuleWord mS_X12_isRuleWord rfl rfl hd_X12_isRuleWord ⟨Nat.le_of_ble_eq_true rfl, Nat.le_of_ble_eq_true rfl⟩ ⟨Nat.le_of_ble_eq_true rfl, Nat.le_of_ble_eq_true rfl⟩ rfl (Nat.le_of_ble_eq_true rfl) dX12_spelling_55 (fun r55 v55_0 hw => ?_)
          obtain ⟨h01_55, hw⟩ := hw
          have hw := hw h01_55
          refine v_if_ne (tgt := 69) C dX12_spelling_58 (by decide) (fun hc => ?_) (fun hc => ?_)
          · have hw := hw.1 hc
            exact jX12_spelling_69 h0 a0 Q C hret (qX12_spelling_31 Q n) ih v55_0 y1 y2 hw
          · have hw := hw.2 hc
            refine v_aload_n C dX12_spelling_61 0 rfl ?_
            refine v_iconst (v := 1) C dX12_spelling_62 (by decide) ?_
            refine v_callFv (st := []) (ci := 12) (qb := 0) C (kX12_wrong h0 a0 _ _ hw) mM_X12_225 mI_X12 mC_X12_wrong mN_X12_wrong mS_X12_wrong rfl rfl hd_X12_wrong ⟨Nat.le_of_ble_eq_true rfl, Nat.le_of_ble_eq_true rfl⟩ ⟨Nat.le_of_ble_eq_true rfl, Nat.le_of_ble_eq_true rfl⟩ rfl (Nat.le_of_ble_eq_true rfl) dX12_spelling_63 (fun v63_0 hw => ?_)
            refine v_goto (tgt := 80) C dX12_spelling_66 (by decide) ?_
            exact jX12_spelling_80 h0 a0 Q C hret (qX12_spelling_31 Q n) ih v63_0 y1 y2 hw
set_option maxHeartbeats 4000000 in
set_option maxRecDepth 100000 in
theorem kX12_spelling {l : Launch} {E : VE} (h0 : Nat) (a0 : Nat → Nat) (u0 : Md) (x1 : Int32) {Q : Int32 → Md → Prop} (hw : qX12_spelling u0 x1 Q) : MI l yX12_spelling cX12_spelling 5 .int 7 0 0 E [.ref h0, .int x1] ([wX12 E h0 a0 u0].flatten) (fun (U : Md) => [wX12 E h0 a0 U].flatten) (fun (r : Int32) (U : Md) => Q r U) := by
  refine MI.of (own := RX12) (by decide) rfl (Nat.le_of_ble_eq_true rfl) ?_
  intro X C hini hret
  show VV X 0 0 ([wX12 E h0 a0 u0].flatten) [(0, .ref h0), (1, .int x1)] 0 []
  unfold qX12_spelling at hw
  refine v_iload_n C dX12_spelling_0 1 rfl ?_
  refine v_callSPi (st := []) C (kX12_isTongue _ hw) mM_X12_155 mI_X12 mC_X12_isTongue mT_X12_isTongue hd_X12_isTongue ⟨Nat.le_of_ble_eq_true rfl, Nat.le_of_ble_eq_true rfl⟩ ⟨Nat.le_of_ble_eq_true rfl, Nat.le_of_ble_eq_true rfl⟩ rfl (Nat.le_of_ble_eq_true rfl) dX12_spelling_1 (fun r1 U1 hw => ?_)
  obtain ⟨h01_1, hw⟩ := hw
  have hw := hw h01_1
  refine v_if_ne (tgt := 10) C dX12_spelling_4 (by decide) (fun hc => ?_) (fun hc => ?_)
  · have hw := hw.1 hc
    refine v_aload_n C dX12_spelling_10 0 rfl ?_
    refine v_get (ci := 12) C inT12 0 1 rfl rfl (by decide) mF_X12_9_X12_1 rfl dX12_spelling_11 ?_
    refine v_iconst (v := 3) C dX12_spelling_14 (by decide) ?_
    obtain ⟨hi15, hw⟩ := hw
    refine v_iald C 1 rfl hi15 dX12_spelling_15 ?_
    refine v_bipush (v := 12) C dX12_spelling_16 (by decide) ?_
    refine v_icmp_ne (tgt := 24) C dX12_spelling_18 (by decide) (fun hc => ?_) (fun hc => ?_)
    · have hw := hw.1 hc
      refine v_aload_n C dX12_spelling_24 0 rfl ?_
      refine v_iconst (v := 0) C dX12_spelling_25 (by decide) ?_
      refine v_callFv (st := []) (ci := 12) (qb := 0) C (kX12_begins h0 a0 _ _ hw) mM_X12_251 mI_X12 mC_X12_begins mN_X12_begins mS_X12_begins rfl rfl hd_X12_begins ⟨Nat.le_of_ble_eq_true rfl, Nat.le_of_ble_eq_true rfl⟩ ⟨Nat.le_of_ble_eq_true rfl, Nat.le_of_ble_eq_true rfl⟩ rfl (Nat.le_of_ble_eq_true rfl) dX12_spelling_26 (fun v26_0 hw => ?_)
      refine v_iconst (v := 0) C dX12_spelling_29 (by decide) ?_
      refine v_istore_n (lv' := [(2, .int 0), (0, .ref h0), (1, .int x1)]) C dX12_spelling_30 (by decide) rfl ?_
      refine v_lv C (lv' := [(0, .ref h0), (1, .int x1), (2, .int 0)]) [1, 2, 0] rfl ?_
      obtain ⟨n', hw⟩ := hw
      exact jX12_spelling_31 h0 a0 Q C hret n' v26_0 x1 0 hw
    · have hw := hw.2 hc
      refine v_bipush (v := (-3)) C dX12_spelling_21 (by decide) ?_
      exact hret _ _ _ _ ((-3)) u0 dX12_spelling_23 rfl hw (Nat.le_of_ble_eq_true rfl) (Nat.le_of_ble_eq_true rfl)
  · have hw := hw.2 hc
    refine v_bipush (v := (-2)) C dX12_spelling_7 (by decide) ?_
    exact hret _ _ _ _ ((-2)) u0 dX12_spelling_9 rfl hw (Nat.le_of_ble_eq_true rfl) (Nat.le_of_ble_eq_true rfl)
set_option maxHeartbeats 4000000 in
set_option maxRecDepth 100000 in
theorem jX12_spellingOf_5 {X : VX} {E : VE} {l : Launch} (h0 : Nat) (a0 : Nat → Nat)  (Q : Int32 → Md → Prop) (C : VC X cX12_spellingOf 5 RX12 (rmL 0 0 0) E l) (hret : RetI X cX12_spellingOf .int 0 0 (fun (U : Md) => [wX12 E h0 a0 U].flatten) (fun (r : Int32) (U : Md) => Q r U))  : ∀ (n : Nat), ∀ (u0 : Md) (y1 : Int32) (y2 : Int32) (y3 : Int32) (y4 : Int32), qX12_spellingOf_5 Q n u0 y1 y2 y3 y4 → VV X 0 0 ([wX12 E h0 a0 u0].flatten) [(0, .ref h0), (1, .int y1), (2, .int y2), (3, .int y3), (4, .int y4)] 5 [] := by
  intro n
  induction n with
  | zero =>
    intro u0 y1 y2 y3 y4 hw
    exact hw.elim
  | succ n ih =>
    intro u0 y1 y2 y3 y4 hw
    unfold qX12_spellingOf_5 at hw
    refine v_iload C dX12_spellingOf_5 4 rfl ?_
    refine v_aload_n C dX12_spellingOf_7 0 rfl ?_
    refine v_get (ci := 12) C inT12 0 1 rfl rfl (by decide) mF_X12_9_X12_1 rfl dX12_spellingOf_8 ?_
    refine v_iconst (v := 3) C dX12_spellingOf_11 (by decide) ?_
    obtain ⟨hi12, hw⟩ := hw
    refine v_iald C 1 rfl hi12 dX12_spellingOf_12 ?_
    refine v_icmp_ge (tgt := 65) C dX12_spellingOf_13 (by decide) (fun hc => ?_) (fun hc => ?_)
    · have hw := hw.1 hc
      refine v_iload_n C dX12_spellingOf_65 3 rfl ?_
      exact hret _ _ _ _ y3 u0 dX12_spellingOf_66 rfl hw (Nat.le_of_ble_eq_true rfl) (Nat.le_of_ble_eq_true rfl)
    · have hw := hw.2 hc
      refine v_aload_n C dX12_spellingOf_16 0 rfl ?_
      refine v_get (ci := 12) C inT12 0 1 rfl rfl (by decide) mF_X12_9_X12_1 rfl dX12_spellingOf_17 ?_
      refine v_sipush (v := 1370) C dX12_spellingOf_20 (by decide) ?_
      refine v_sipush (v := 195) C dX12_spellingOf_23 (by decide) ?_
      refine v_iload C dX12_spellingOf_26 4 rfl ?_
      refine v_imul C dX12_spellingOf_28 ?_
      refine v_iadd C dX12_spellingOf_29 ?_
      obtain ⟨hi30, hw⟩ := hw
      refine v_iald C 1 rfl hi30 dX12_spellingOf_30 ?_
      refine v_iload_n C dX12_spellingOf_31 1 rfl ?_
      refine v_icmp_ne (tgt := 59) C dX12_spellingOf_32 (by decide) (fun hc => ?_) (fun hc => ?_)
      · have hw := hw.1 hc
        refine v_iinc (lv' := [(4, .int (y4 + Int32.ofInt 1)), (0, .ref h0), (1, .int y1), (2, .int y2), (3, .int y3)]) C dX12_spellingOf_59 4 rfl (by decide) rfl ?_
        refine v_goto (tgt := 5) C dX12_spellingOf_62 (by decide) ?_
        refine v_lv C (lv' := [(0, .ref h0), (1, .int y1), (2, .int y2), (3, .int y3), (4, .int (y4 + Int32.ofInt 1))]) [1, 2, 3, 4, 0] rfl ?_
        exact ih u0 y1 y2 y3 (y4 + Int32.ofInt 1) hw
      · have hw := hw.2 hc
        refine v_aload_n C dX12_spellingOf_35 0 rfl ?_
        refine v_get (ci := 12) C inT12 0 1 rfl rfl (by decide) mF_X12_9_X12_1 rfl dX12_spellingOf_36 ?_
        refine v_sipush (v := 1370) C dX12_spellingOf_39 (by decide) ?_
        refine v_sipush (v := 195) C dX12_spellingOf_42 (by decide) ?_
        refine v_iload C dX12_spellingOf_45 4 rfl ?_
        refine v_imul C dX12_spellingOf_47 ?_
        refine v_iadd C dX12_spellingOf_48 ?_
        refine v_iconst (v := 1) C dX12_spellingOf_49 (by decide) ?_
        refine v_iadd C dX12_spellingOf_50 ?_
        obtain ⟨hi51, hw⟩ := hw
        refine v_iald C 1 rfl hi51 dX12_spellingOf_51 ?_
        refine v_iload_n C dX12_spellingOf_52 2 rfl ?_
        refine v_icmp_gt (tgt := 59) C dX12_spellingOf_53 (by decide) (fun hc => ?_) (fun hc => ?_)
        · have hw := hw.1 hc
          refine v_iinc (lv' := [(4, .int (y4 + Int32.ofInt 1)), (0, .ref h0), (1, .int y1), (2, .int y2), (3, .int y3)]) C dX12_spellingOf_59 4 rfl (by decide) rfl ?_
          refine v_goto (tgt := 5) C dX12_spellingOf_62 (by decide) ?_
          refine v_lv C (lv' := [(0, .ref h0), (1, .int y1), (2, .int y2), (3, .int y3), (4, .int (y4 + Int32.ofInt 1))]) [1, 2, 3, 4, 0] rfl ?_
          exact ih u0 y1 y2 y3 (y4 + Int32.ofInt 1) hw
        · have hw := hw.2 hc
          refine v_iload C dX12_spellingOf_56 4 rfl ?_
          refine v_istore_n (lv' := [(3, .int y4), (0, .ref h0), (1, .int y1), (2, .int y2), (4, .int y4)]) C dX12_spellingOf_58 (by decide) rfl ?_
          refine v_iinc (lv' := [(4, .int (y4 + Int32.ofInt 1)), (3, .int y4), (0, .ref h0), (1, .int y1), (2, .int y2)]) C dX12_spellingOf_59 4 rfl (by decide) rfl ?_
          refine v_goto (tgt := 5) C dX12_spellingOf_62 (by decide) ?_
          refine v_lv C (lv' := [(0, .ref h0), (1, .int y1), (2, .int y2), (3, .int y4), (4, .int (y4 + Int32.ofInt 1))]) [2, 3, 4, 1, 0] rfl ?_
          exact ih u0 y1 y2 y4 (y4 + Int32.ofInt 1) hw
set_option maxHeartbeats 4000000 in
set_option maxRecDepth 100000 in
theorem kX12_spellingOf {l : Launch} {E : VE} (h0 : Nat) (a0 : Nat → Nat) (u0 : Md) (x1 : Int32) (x2 : Int32) {Q : Int32 → Md → Prop} (hw : qX12_spellingOf u0 x1 x2 Q) : MI l yX12_spellingOf cX12_spellingOf 5 .int 0 0 0 E [.ref h0, .int x1, .int x2] ([wX12 E h0 a0 u0].flatten) (fun (U : Md) => [wX12 E h0 a0 U].flatten) (fun (r : Int32) (U : Md) => Q r U) := by
  refine MI.of (own := RX12) (by decide) rfl (Nat.le_of_ble_eq_true rfl) ?_
  intro X C hini hret
  show VV X 0 0 ([wX12 E h0 a0 u0].flatten) [(0, .ref h0), (1, .int x1), (2, .int x2)] 0 []
  unfold qX12_spellingOf at hw
  refine v_iconst (v := (-1)) C dX12_spellingOf_0 (by decide) ?_
  refine v_istore_n (lv' := [(3, .int ((-1))), (0, .ref h0), (1, .int x1), (2, .int x2)]) C dX12_spellingOf_1 (by decide) rfl ?_
  refine v_iconst (v := 0) C dX12_spellingOf_2 (by decide) ?_
  refine v_istore (lv' := [(4, .int 0), (3, .int ((-1))), (0, .ref h0), (1, .int x1), (2, .int x2)]) C dX12_spellingOf_3 (by decide) rfl ?_
  refine v_lv C (lv' := [(0, .ref h0), (1, .int x1), (2, .int x2), (3, .int ((-1))), (4, .int 0)]) [2, 3, 4, 1, 0] rfl ?_
  obtain ⟨n', hw⟩ := hw
  exact jX12_spellingOf_5 h0 a0 Q C hret n' u0 x1 x2 ((-1)) 0 hw
set_option maxHeartbeats 4000000 in
set_option maxRecDepth 100000 in
theorem kX12_lays {l : Launch} {E : VE} (h0 : Nat) (a0 : Nat → Nat) (u0 : Md) (x1 : Int32) (x2 : Int32) {Q : Md → Prop} (hw : qX12_lays u0 x1 x2 Q) : MV l yX12_lays cX12_lays 3 0 0 0 E [.ref h0, .int x1, .int x2] ([wX12 E h0 a0 u0].flatten) (fun (U : Md) => [wX12 E h0 a0 U].flatten) (fun (U : Md) => Q U) := by
  refine MV.of (own := RX12) (by decide) rfl (Nat.le_of_ble_eq_true rfl) ?_
  intro X C hini hret
  show VV X 0 0 ([wX12 E h0 a0 u0].flatten) [(0, .ref h0), (1, .int x1), (2, .int x2)] 0 []
  unfold qX12_lays at hw
  refine v_aload_n C dX12_lays_0 0 rfl ?_
  refine v_get (ci := 12) C inT12 0 19 rfl rfl (by decide) mF_X12_44_X12_19 rfl dX12_lays_1 ?_
  refine v_aload_n C dX12_lays_4 0 rfl ?_
  refine v_get (ci := 12) C inT12 0 21 rfl rfl (by decide) mF_X12_258_X12_21 rfl dX12_lays_5 ?_
  refine v_iload_n C dX12_lays_8 1 rfl ?_
  obtain ⟨hi9, hw⟩ := hw
  obtain ⟨w9, e9⟩ : ∃ z : Md, z = tA u0 19 (gF u0 21) x1 := ⟨_, rfl⟩
  have hw := hw w9 e9
  refine v_iast (ws' := [wX12 E h0 a0 w9].flatten) C 10 rfl hi9 (by rw [e9]; rfl) dX12_lays_9 ?_
  refine v_aload_n C dX12_lays_10 0 rfl ?_
  refine v_get (ci := 12) C inT12 0 20 rfl rfl (by decide) mF_X12_47_X12_20 rfl dX12_lays_11 ?_
  refine v_aload_n C dX12_lays_14 0 rfl ?_
  refine v_get (ci := 12) C inT12 0 21 rfl rfl (by decide) mF_X12_258_X12_21 rfl dX12_lays_15 ?_
  refine v_iload_n C dX12_lays_18 2 rfl ?_
  obtain ⟨hi19, hw⟩ := hw
  obtain ⟨w19, e19⟩ : ∃ z : Md, z = tA w9 20 (gF w9 21) x2 := ⟨_, rfl⟩
  have hw := hw w19 e19
  refine v_iast (ws' := [wX12 E h0 a0 w19].flatten) C 11 rfl hi19 (by rw [e19]; rfl) dX12_lays_19 ?_
  refine v_aload_n C dX12_lays_20 0 rfl ?_
  refine v_dup C dX12_lays_21 rfl ?_
  refine v_get (ci := 12) C inT12 0 21 rfl rfl (by decide) mF_X12_258_X12_21 rfl dX12_lays_22 ?_
  refine v_iconst (v := 1) C dX12_lays_25 (by decide) ?_
  refine v_iadd C dX12_lays_26 ?_
  obtain ⟨w27, e27⟩ : ∃ z : Md, z = sF w19 21 ((gF w19 21) + 1) := ⟨_, rfl⟩
  have hw := hw w27 e27
  refine v_put (ci := 12) (ws' := [wX12 E h0 a0 w27].flatten) C tyX12 tyX12_ok nmX12 inT12 0 21 rfl rfl (by decide) mF_X12_258_X12_21 rfl rfl rfl rfl (Nat.le_of_ble_eq_true rfl) (by rw [e27]; rfl) dX12_lays_27 ?_
  exact hret _ _ _ _ w27 dX12_lays_30 hw (Nat.le_of_ble_eq_true rfl) (Nat.le_of_ble_eq_true rfl)
set_option maxHeartbeats 4000000 in
set_option maxRecDepth 100000 in
theorem kX12_isOf {l : Launch} {E : VE} (x0 : Int32) (x1 : Int32) {Q : Int32 → Prop} (hw : qX12_isOf x0 x1 Q) : MI l yX12_isOf cX12_isOf 2 .boolean 0 0 0 E [.int x0, .int x1] ([]) (fun (_ : Unit) => ([] : va_W)) (fun (r : Int32) (_ : Unit) => (r = 0 ∨ r = 1) ∧ Q r) := by
  refine MI.of (own := RX12) (by decide) rfl (Nat.le_of_ble_eq_true rfl) ?_
  intro X C hini hret
  show VV X 0 0 ([]) [(0, .int x0), (1, .int x1)] 0 []
  unfold qX12_isOf at hw
  refine v_iload_n C dX12_isOf_0 0 rfl ?_
  refine v_iload_n C dX12_isOf_1 1 rfl ?_
  refine v_bipush (v := 97) C dX12_isOf_2 (by decide) ?_
  refine v_isub C dX12_isOf_4 ?_
  refine v_ishr C dX12_isOf_5 ?_
  refine v_iconst (v := 1) C dX12_isOf_6 (by decide) ?_
  refine v_iand C dX12_isOf_7 ?_
  refine v_iconst (v := 1) C dX12_isOf_8 (by decide) ?_
  refine v_icmp_ne (tgt := 16) C dX12_isOf_9 (by decide) (fun hc => ?_) (fun hc => ?_)
  · have hw := hw.1 hc
    refine v_iconst (v := 0) C dX12_isOf_16 (by decide) ?_
    exact hret _ _ _ _ 0 () dX12_isOf_17 rfl ⟨Or.inl rfl, hw⟩ (Nat.le_of_ble_eq_true rfl) (Nat.le_of_ble_eq_true rfl)
  · have hw := hw.2 hc
    refine v_iconst (v := 1) C dX12_isOf_12 (by decide) ?_
    refine v_goto (tgt := 17) C dX12_isOf_13 (by decide) ?_
    exact hret _ _ _ _ 1 () dX12_isOf_17 rfl ⟨Or.inr rfl, hw⟩ (Nat.le_of_ble_eq_true rfl) (Nat.le_of_ble_eq_true rfl)
set_option maxHeartbeats 4000000 in
set_option maxRecDepth 100000 in
theorem jX12_fits_122 {X : VX} {E : VE} {l : Launch} (h0 : Nat) (a0 : Nat → Nat)  (Q : Int32 → Md → Prop) (C : VC X cX12_fits 7 RX12 (rmL 1 0 0) E l) (hret : RetI X cX12_fits .boolean 0 0 (fun (U : Md) => [wX12 E h0 a0 U].flatten) (fun (r : Int32) (U : Md) => (r = 0 ∨ r = 1) ∧ Q r U))  : ∀ (u0 : Md) (y1 : Int32) (y2 : Int32) (y3 : Int32) (y4 : Int32) (y5 : Int32), qX12_fits_122 Q u0 y1 y2 y3 y4 y5 → VV X 0 0 ([wX12 E h0 a0 u0].flatten) [(0, .ref h0), (1, .int y1), (2, .int y2), (3, .int y3), (4, .int y4), (5, .int y5)] 122 [] := by
  intro u0 y1 y2 y3 y4 y5 hw
  unfold qX12_fits_122 at hw
  refine v_aload_n C dX12_fits_122 0 rfl ?_
  refine v_get (ci := 12) C inT12 0 1 rfl rfl (by decide) mF_X12_9_X12_1 rfl dX12_fits_123 ?_
  refine v_iload_n C dX12_fits_126 1 rfl ?_
  refine v_bipush (v := 10) C dX12_fits_127 (by decide) ?_
  refine v_iadd C dX12_fits_129 ?_
  obtain ⟨hi130, hw⟩ := hw
  refine v_iald C 1 rfl hi130 dX12_fits_130 ?_
  refine v_if_eq (tgt := 195) C dX12_fits_131 (by decide) (fun hc => ?_) (fun hc => ?_)
  · have hw := hw.1 hc
    refine v_iconst (v := 1) C dX12_fits_195 (by decide) ?_
    refine v_goto (tgt := 200) C dX12_fits_196 (by decide) ?_
    exact hret _ _ _ _ 1 u0 dX12_fits_200 rfl ⟨Or.inr rfl, hw⟩ (Nat.le_of_ble_eq_true rfl) (Nat.le_of_ble_eq_true rfl)
  · have hw := hw.2 hc
    refine v_aload_n C dX12_fits_134 0 rfl ?_
    refine v_get (ci := 12) C inT12 0 1 rfl rfl (by decide) mF_X12_9_X12_1 rfl dX12_fits_135 ?_
    refine v_iload_n C dX12_fits_138 1 rfl ?_
    refine v_bipush (v := 10) C dX12_fits_139 (by decide) ?_
    refine v_iadd C dX12_fits_141 ?_
    obtain ⟨hi142, hw⟩ := hw
    refine v_iald C 1 rfl hi142 dX12_fits_142 ?_
    refine v_iconst (v := 1) C dX12_fits_143 (by decide) ?_
    refine v_icmp_ne (tgt := 159) C dX12_fits_144 (by decide) (fun hc => ?_) (fun hc => ?_)
    · have hw := hw.1 hc
      refine v_iload C dX12_fits_159 4 rfl ?_
      refine v_iload C dX12_fits_161 5 rfl ?_
      refine v_iadd C dX12_fits_163 ?_
      refine v_iload_n C dX12_fits_164 3 rfl ?_
      refine v_icmp_ge (tgt := 199) C dX12_fits_165 (by decide) (fun hc => ?_) (fun hc => ?_)
      · have hw := hw.1 hc
        refine v_iconst (v := 0) C dX12_fits_199 (by decide) ?_
        exact hret _ _ _ _ 0 u0 dX12_fits_200 rfl ⟨Or.inl rfl, hw⟩ (Nat.le_of_ble_eq_true rfl) (Nat.le_of_ble_eq_true rfl)
      · have hw := hw.2 hc
        refine v_aload_n C dX12_fits_168 0 rfl ?_
        refine v_get (ci := 12) C inT12 0 1 rfl rfl (by decide) mF_X12_9_X12_1 rfl dX12_fits_169 ?_
        refine v_iload_n C dX12_fits_172 1 rfl ?_
        refine v_bipush (v := 11) C dX12_fits_173 (by decide) ?_
        refine v_iadd C dX12_fits_175 ?_
        obtain ⟨hi176, hw⟩ := hw
        refine v_iald C 1 rfl hi176 dX12_fits_176 ?_
        refine v_aload_n C dX12_fits_177 0 rfl ?_
        refine v_get (ci := 12) C inT12 0 1 rfl rfl (by decide) mF_X12_9_X12_1 rfl dX12_fits_178 ?_
        refine v_iload_n C dX12_fits_181 2 rfl ?_
        refine v_iload C dX12_fits_182 4 rfl ?_
        refine v_iadd C dX12_fits_184 ?_
        refine v_iload C dX12_fits_185 5 rfl ?_
        refine v_iadd C dX12_fits_187 ?_
        obtain ⟨hi188, hw⟩ := hw
        refine v_iald C 1 rfl hi188 dX12_fits_188 ?_
        refine v_callSPi (st := []) C (kX12_isOf _ _ hw) mM_X12_261 mI_X12 mC_X12_isOf mT_X12_isOf hd_X12_isOf ⟨Nat.le_of_ble_eq_true rfl, Nat.le_of_ble_eq_true rfl⟩ ⟨Nat.le_of_ble_eq_true rfl, Nat.le_of_ble_eq_true rfl⟩ rfl (Nat.le_of_ble_eq_true rfl) dX12_fits_189 (fun r189 U189 hw => ?_)
        obtain ⟨h01_189, hw⟩ := hw
        have hw := hw h01_189
        refine v_if_eq (tgt := 199) C dX12_fits_192 (by decide) (fun hc => ?_) (fun hc => ?_)
        · have hw := hw.1 hc
          refine v_iconst (v := 0) C dX12_fits_199 (by decide) ?_
          exact hret _ _ _ _ 0 u0 dX12_fits_200 rfl ⟨Or.inl rfl, hw⟩ (Nat.le_of_ble_eq_true rfl) (Nat.le_of_ble_eq_true rfl)
        · have hw := hw.2 hc
          refine v_iconst (v := 1) C dX12_fits_195 (by decide) ?_
          refine v_goto (tgt := 200) C dX12_fits_196 (by decide) ?_
          exact hret _ _ _ _ 1 u0 dX12_fits_200 rfl ⟨Or.inr rfl, hw⟩ (Nat.le_of_ble_eq_true rfl) (Nat.le_of_ble_eq_true rfl)
    · have hw := hw.2 hc
      refine v_iload C dX12_fits_147 4 rfl ?_
      refine v_iload C dX12_fits_149 5 rfl ?_
      refine v_iadd C dX12_fits_151 ?_
      refine v_iload_n C dX12_fits_152 3 rfl ?_
      refine v_icmp_ne (tgt := 199) C dX12_fits_153 (by decide) (fun hc => ?_) (fun hc => ?_)
      · have hw := hw.1 hc
        refine v_iconst (v := 0) C dX12_fits_199 (by decide) ?_
        exact hret _ _ _ _ 0 u0 dX12_fits_200 rfl ⟨Or.inl rfl, hw⟩ (Nat.le_of_ble_eq_true rfl) (Nat.le_of_ble_eq_true rfl)
      · have hw := hw.2 hc
        refine v_goto (tgt := 195) C dX12_fits_156 (by decide) ?_
        refine v_iconst (v := 1) C dX12_fits_195 (by decide) ?_
        refine v_goto (tgt := 200) C dX12_fits_196 (by decide) ?_
        exact hret _ _ _ _ 1 u0 dX12_fits_200 rfl ⟨Or.inr rfl, hw⟩ (Nat.le_of_ble_eq_true rfl) (Nat.le_of_ble_eq_true rfl)
set_option maxHeartbeats 4000000 in
set_option maxRecDepth 100000 in
theorem jX12_fits_80 {X : VX} {E : VE} {l : Launch} (h0 : Nat) (a0 : Nat → Nat)  (Q : Int32 → Md → Prop) (C : VC X cX12_fits 7 RX12 (rmL 1 0 0) E l) (hret : RetI X cX12_fits .boolean 0 0 (fun (U : Md) => [wX12 E h0 a0 U].flatten) (fun (r : Int32) (U : Md) => (r = 0 ∨ r = 1) ∧ Q r U))  : ∀ (u0 : Md) (y1 : Int32) (y2 : Int32) (y3 : Int32) (y4 : Int32) (y5 : Int32), qX12_fits_80 Q u0 y1 y2 y3 y4 y5 → VV X 0 0 ([wX12 E h0 a0 u0].flatten) [(0, .ref h0), (1, .int y1), (2, .int y2), (3, .int y3), (4, .int y4), (5, .int y5)] 80 [] := by
  intro u0 y1 y2 y3 y4 y5 hw
  unfold qX12_fits_80 at hw
  refine v_aload_n C dX12_fits_80 0 rfl ?_
  refine v_get (ci := 12) C inT12 0 1 rfl rfl (by decide) mF_X12_9_X12_1 rfl dX12_fits_81 ?_
  refine v_iload_n C dX12_fits_84 1 rfl ?_
  obtain ⟨hi85, hw⟩ := hw
  refine v_iald C 1 rfl hi85 dX12_fits_85 ?_
  refine v_iconst (v := 2) C dX12_fits_86 (by decide) ?_
  refine v_icmp_ne (tgt := 122) C dX12_fits_87 (by decide) (fun hc => ?_) (fun hc => ?_)
  · have hw := hw.1 hc
    exact jX12_fits_122 h0 a0 Q C hret u0 y1 y2 y3 y4 y5 hw
  · have hw := hw.2 hc
    refine v_iload C dX12_fits_90 4 rfl ?_
    refine v_if_eq (tgt := 120) C dX12_fits_92 (by decide) (fun hc => ?_) (fun hc => ?_)
    · have hw := hw.1 hc
      refine v_iconst (v := 0) C dX12_fits_120 (by decide) ?_
      exact hret _ _ _ _ 0 u0 dX12_fits_121 rfl ⟨Or.inl rfl, hw⟩ (Nat.le_of_ble_eq_true rfl) (Nat.le_of_ble_eq_true rfl)
    · have hw := hw.2 hc
      refine v_aload_n C dX12_fits_95 0 rfl ?_
      refine v_get (ci := 12) C inT12 0 1 rfl rfl (by decide) mF_X12_9_X12_1 rfl dX12_fits_96 ?_
      refine v_iload_n C dX12_fits_99 1 rfl ?_
      refine v_iconst (v := 1) C dX12_fits_100 (by decide) ?_
      refine v_iadd C dX12_fits_101 ?_
      obtain ⟨hi102, hw⟩ := hw
      refine v_iald C 1 rfl hi102 dX12_fits_102 ?_
      refine v_aload_n C dX12_fits_103 0 rfl ?_
      refine v_get (ci := 12) C inT12 0 1 rfl rfl (by decide) mF_X12_9_X12_1 rfl dX12_fits_104 ?_
      refine v_iload_n C dX12_fits_107 2 rfl ?_
      refine v_iload C dX12_fits_108 4 rfl ?_
      refine v_iadd C dX12_fits_110 ?_
      refine v_iconst (v := 1) C dX12_fits_111 (by decide) ?_
      refine v_isub C dX12_fits_112 ?_
      obtain ⟨hi113, hw⟩ := hw
      refine v_iald C 1 rfl hi113 dX12_fits_113 ?_
      refine v_callSPi (st := []) C (kX12_isOf _ _ hw) mM_X12_261 mI_X12 mC_X12_isOf mT_X12_isOf hd_X12_isOf ⟨Nat.le_of_ble_eq_true rfl, Nat.le_of_ble_eq_true rfl⟩ ⟨Nat.le_of_ble_eq_true rfl, Nat.le_of_ble_eq_true rfl⟩ rfl (Nat.le_of_ble_eq_true rfl) dX12_fits_114 (fun r114 U114 hw => ?_)
      obtain ⟨h01_114, hw⟩ := hw
      have hw := hw h01_114
      refine v_if_ne (tgt := 122) C dX12_fits_117 (by decide) (fun hc => ?_) (fun hc => ?_)
      · have hw := hw.1 hc
        exact jX12_fits_122 h0 a0 Q C hret u0 y1 y2 y3 y4 y5 hw
      · have hw := hw.2 hc
        refine v_iconst (v := 0) C dX12_fits_120 (by decide) ?_
        exact hret _ _ _ _ 0 u0 dX12_fits_121 rfl ⟨Or.inl rfl, hw⟩ (Nat.le_of_ble_eq_true rfl) (Nat.le_of_ble_eq_true rfl)
set_option maxHeartbeats 4000000 in
set_option maxRecDepth 100000 in
theorem jX12_fits_24 {X : VX} {E : VE} {l : Launch} (h0 : Nat) (a0 : Nat → Nat)  (Q : Int32 → Md → Prop) (C : VC X cX12_fits 7 RX12 (rmL 1 0 0) E l) (hret : RetI X cX12_fits .boolean 0 0 (fun (U : Md) => [wX12 E h0 a0 U].flatten) (fun (r : Int32) (U : Md) => (r = 0 ∨ r = 1) ∧ Q r U))  : ∀ (n : Nat), ∀ (u0 : Md) (y1 : Int32) (y2 : Int32) (y3 : Int32) (y4 : Int32) (y5 : Int32) (y6 : Int32), qX12_fits_24 Q n u0 y1 y2 y3 y4 y5 y6 → VV X 0 0 ([wX12 E h0 a0 u0].flatten) [(0, .ref h0), (1, .int y1), (2, .int y2), (3, .int y3), (4, .int y4), (5, .int y5), (6, .int y6)] 24 [] := by
  intro n
  induction n with
  | zero =>
    intro u0 y1 y2 y3 y4 y5 y6 hw
    exact hw.elim
  | succ n ih =>
    intro u0 y1 y2 y3 y4 y5 y6 hw
    unfold qX12_fits_24 at hw
    refine v_iload C dX12_fits_24 6 rfl ?_
    refine v_iload C dX12_fits_26 5 rfl ?_
    refine v_icmp_ge (tgt := 65) C dX12_fits_28 (by decide) (fun hc => ?_) (fun hc => ?_)
    · have hw := hw.1 hc
      refine v_aload_n C dX12_fits_65 0 rfl ?_
      refine v_get (ci := 12) C inT12 0 1 rfl rfl (by decide) mF_X12_9_X12_1 rfl dX12_fits_66 ?_
      refine v_iload_n C dX12_fits_69 1 rfl ?_
      obtain ⟨hi70, hw⟩ := hw
      refine v_iald C 1 rfl hi70 dX12_fits_70 ?_
      refine v_iconst (v := 1) C dX12_fits_71 (by decide) ?_
      refine v_icmp_ne (tgt := 80) C dX12_fits_72 (by decide) (fun hc => ?_) (fun hc => ?_)
      · have hw := hw.1 hc
        refine v_lv C (lv' := [(0, .ref h0), (1, .int y1), (2, .int y2), (3, .int y3), (4, .int y4), (5, .int y5)]) [0, 1, 2, 3, 4, 5] rfl ?_
        exact jX12_fits_80 h0 a0 Q C hret u0 y1 y2 y3 y4 y5 hw
      · have hw := hw.2 hc
        refine v_iload C dX12_fits_75 4 rfl ?_
        refine v_if_gt (tgt := 120) C dX12_fits_77 (by decide) (fun hc => ?_) (fun hc => ?_)
        · have hw := hw.1 hc
          refine v_iconst (v := 0) C dX12_fits_120 (by decide) ?_
          exact hret _ _ _ _ 0 u0 dX12_fits_121 rfl ⟨Or.inl rfl, hw⟩ (Nat.le_of_ble_eq_true rfl) (Nat.le_of_ble_eq_true rfl)
        · have hw := hw.2 hc
          refine v_lv C (lv' := [(0, .ref h0), (1, .int y1), (2, .int y2), (3, .int y3), (4, .int y4), (5, .int y5)]) [0, 1, 2, 3, 4, 5] rfl ?_
          exact jX12_fits_80 h0 a0 Q C hret u0 y1 y2 y3 y4 y5 hw
    · have hw := hw.2 hc
      refine v_aload_n C dX12_fits_31 0 rfl ?_
      refine v_get (ci := 12) C inT12 0 1 rfl rfl (by decide) mF_X12_9_X12_1 rfl dX12_fits_32 ?_
      refine v_iload_n C dX12_fits_35 2 rfl ?_
      refine v_iload C dX12_fits_36 4 rfl ?_
      refine v_iadd C dX12_fits_38 ?_
      refine v_iload C dX12_fits_39 6 rfl ?_
      refine v_iadd C dX12_fits_41 ?_
      obtain ⟨hi42, hw⟩ := hw
      refine v_iald C 1 rfl hi42 dX12_fits_42 ?_
      refine v_aload_n C dX12_fits_43 0 rfl ?_
      refine v_get (ci := 12) C inT12 0 1 rfl rfl (by decide) mF_X12_9_X12_1 rfl dX12_fits_44 ?_
      refine v_iload_n C dX12_fits_47 1 rfl ?_
      refine v_iconst (v := 3) C dX12_fits_48 (by decide) ?_
      refine v_iadd C dX12_fits_49 ?_
      refine v_iload C dX12_fits_50 6 rfl ?_
      refine v_iadd C dX12_fits_52 ?_
      obtain ⟨hi53, hw⟩ := hw
      refine v_iald C 1 rfl hi53 dX12_fits_53 ?_
      refine v_icmp_eq (tgt := 59) C dX12_fits_54 (by decide) (fun hc => ?_) (fun hc => ?_)
      · have hw := hw.1 hc
        refine v_iinc (lv' := [(6, .int (y6 + Int32.ofInt 1)), (0, .ref h0), (1, .int y1), (2, .int y2), (3, .int y3), (4, .int y4), (5, .int y5)]) C dX12_fits_59 6 rfl (by decide) rfl ?_
        refine v_goto (tgt := 24) C dX12_fits_62 (by decide) ?_
        refine v_lv C (lv' := [(0, .ref h0), (1, .int y1), (2, .int y2), (3, .int y3), (4, .int y4), (5, .int y5), (6, .int (y6 + Int32.ofInt 1))]) [1, 2, 3, 4, 5, 6, 0] rfl ?_
        exact ih u0 y1 y2 y3 y4 y5 (y6 + Int32.ofInt 1) hw
      · have hw := hw.2 hc
        refine v_iconst (v := 0) C dX12_fits_57 (by decide) ?_
        exact hret _ _ _ _ 0 u0 dX12_fits_58 rfl ⟨Or.inl rfl, hw⟩ (Nat.le_of_ble_eq_true rfl) (Nat.le_of_ble_eq_true rfl)
set_option maxHeartbeats 4000000 in
set_option maxRecDepth 100000 in
theorem kX12_fits {l : Launch} {E : VE} (h0 : Nat) (a0 : Nat → Nat) (u0 : Md) (x1 : Int32) (x2 : Int32) (x3 : Int32) (x4 : Int32) {Q : Int32 → Md → Prop} (hw : qX12_fits u0 x1 x2 x3 x4 Q) : MI l yX12_fits cX12_fits 7 .boolean 1 0 0 E [.ref h0, .int x1, .int x2, .int x3, .int x4] ([wX12 E h0 a0 u0].flatten) (fun (U : Md) => [wX12 E h0 a0 U].flatten) (fun (r : Int32) (U : Md) => (r = 0 ∨ r = 1) ∧ Q r U) := by
  refine MI.of (own := RX12) (by decide) rfl (Nat.le_of_ble_eq_true rfl) ?_
  intro X C hini hret
  show VV X 0 0 ([wX12 E h0 a0 u0].flatten) [(0, .ref h0), (1, .int x1), (2, .int x2), (3, .int x3), (4, .int x4)] 0 []
  unfold qX12_fits at hw
  refine v_aload_n C dX12_fits_0 0 rfl ?_
  refine v_get (ci := 12) C inT12 0 1 rfl rfl (by decide) mF_X12_9_X12_1 rfl dX12_fits_1 ?_
  refine v_iload_n C dX12_fits_4 1 rfl ?_
  refine v_iconst (v := 2) C dX12_fits_5 (by decide) ?_
  refine v_iadd C dX12_fits_6 ?_
  obtain ⟨hi7, hw⟩ := hw
  refine v_iald C 1 rfl hi7 dX12_fits_7 ?_
  refine v_istore (lv' := [(5, .int (gA u0 1 (x1 + 2).toNatClampNeg)), (0, .ref h0), (1, .int x1), (2, .int x2), (3, .int x3), (4, .int x4)]) C dX12_fits_8 (by decide) rfl ?_
  refine v_iload C dX12_fits_10 5 rfl ?_
  refine v_iload C dX12_fits_12 0 rfl ?_
  refine v_iadd C dX12_fits_14 ?_
  refine v_iload_n C dX12_fits_15 4 rfl ?_
  refine v_icmp_le (tgt := 21) C dX12_fits_16 (by decide) (fun hc => ?_) (fun hc => ?_)
  · have hw := hw.1 hc
    refine v_iconst (v := 0) C dX12_fits_21 (by decide) ?_
    refine v_istore (lv' := [(6, .int 0), (5, .int (gA u0 1 (x1 + 2).toNatClampNeg)), (0, .ref h0), (1, .int x1), (2, .int x2), (3, .int x3), (4, .int x4)]) C dX12_fits_22 (by decide) rfl ?_
    refine v_lv C (lv' := [(0, .ref h0), (1, .int x1), (2, .int x2), (3, .int x3), (4, .int x4), (5, .int (gA u0 1 (x1 + 2).toNatClampNeg)), (6, .int 0)]) [2, 3, 4, 5, 6, 1, 0] rfl ?_
    obtain ⟨n', hw⟩ := hw
    exact jX12_fits_24 h0 a0 Q C hret n' u0 x1 x2 x3 x4 (gA u0 1 (x1 + 2).toNatClampNeg) 0 hw
  · have hw := hw.2 hc
    refine v_iconst (v := 0) C dX12_fits_19 (by decide) ?_
    exact hret _ _ _ _ 0 u0 dX12_fits_20 rfl ⟨Or.inl rfl, hw⟩ (Nat.le_of_ble_eq_true rfl) (Nat.le_of_ble_eq_true rfl)
set_option maxHeartbeats 4000000 in
set_option maxRecDepth 100000 in
theorem jX12_spells_165 {X : VX} {E : VE} {l : Launch} (h0 : Nat) (a0 : Nat → Nat)  (Q : Md → Prop) (C : VC X cX12_spells 11 RX12 (rmL 2 0 0) E l) (hret : RetV X cX12_spells 0 0 (fun (U : Md) => [wX12 E h0 a0 U].flatten) (fun (U : Md) => Q U)) (K61 : Md → Int32 → Int32 → Int32 → Int32 → Int32 → Prop) (hK61 : ∀ (u0 : Md) (y3 : Int32) (y4 : Int32) (y5 : Int32) (y6 : Int32) (y7 : Int32), K61 u0 y3 y4 y5 y6 y7 → VV X 0 0 ([wX12 E h0 a0 u0].flatten) [(0, .ref h0), (3, .int y3), (4, .int y4), (5, .int y5), (6, .int y6), (7, .int y7)] 61 []) : ∀ (n : Nat), ∀ (u0 : Md) (y3 : Int32) (y4 : Int32) (y5 : Int32) (y6 : Int32) (y7 : Int32) (y8 : Int32) (y9 : Int32) (y10 : Int32), qX12_spells_165 Q K61 n u0 y3 y4 y5 y6 y7 y8 y9 y10 → VV X 0 0 ([wX12 E h0 a0 u0].flatten) [(0, .ref h0), (3, .int y3), (4, .int y4), (5, .int y5), (6, .int y6), (7, .int y7), (8, .int y8), (9, .int y9), (10, .int y10)] 165 [] := by
  intro n
  induction n with
  | zero =>
    intro u0 y3 y4 y5 y6 y7 y8 y9 y10 hw
    exact hw.elim
  | succ n ih =>
    intro u0 y3 y4 y5 y6 y7 y8 y9 y10 hw
    unfold qX12_spells_165 at hw
    refine v_iload C dX12_spells_165 8 rfl ?_
    refine v_aload_n C dX12_spells_167 0 rfl ?_
    refine v_get (ci := 12) C inT12 0 1 rfl rfl (by decide) mF_X12_9_X12_1 rfl dX12_spells_168 ?_
    refine v_iload C dX12_spells_171 7 rfl ?_
    refine v_bipush (v := 6) C dX12_spells_173 (by decide) ?_
    refine v_iadd C dX12_spells_175 ?_
    obtain ⟨hi176, hw⟩ := hw
    refine v_iald C 1 rfl hi176 dX12_spells_176 ?_
    refine v_icmp_ge (tgt := 210) C dX12_spells_177 (by decide) (fun hc => ?_) (fun hc => ?_)
    · have hw := hw.1 hc
      refine v_iload C dX12_spells_210 5 rfl ?_
      refine v_aload_n C dX12_spells_212 0 rfl ?_
      refine v_get (ci := 12) C inT12 0 1 rfl rfl (by decide) mF_X12_9_X12_1 rfl dX12_spells_213 ?_
      refine v_iload C dX12_spells_216 7 rfl ?_
      refine v_iconst (v := 2) C dX12_spells_218 (by decide) ?_
      refine v_iadd C dX12_spells_219 ?_
      obtain ⟨hi220, hw⟩ := hw
      refine v_iald C 1 rfl hi220 dX12_spells_220 ?_
      refine v_iadd C dX12_spells_221 ?_
      refine v_istore (lv' := [(7, .int (y7 + (gA u0 1 (y9 + 2).toNatClampNeg))), (0, .ref h0), (3, .int y3), (4, .int y4), (5, .int y5), (6, .int y6), (8, .int y8), (9, .int y9), (10, .int y10)]) C dX12_spells_222 (by decide) rfl ?_
      refine v_goto (tgt := 61) C dX12_spells_224 (by decide) ?_
      refine v_lv C (lv' := [(0, .ref h0), (3, .int y3), (4, .int y4), (5, .int y5), (6, .int y6), (7, .int (y7 + (gA u0 1 (y9 + 2).toNatClampNeg)))]) [1, 2, 3, 4, 5, 0] rfl ?_
      exact hK61 u0 y3 y4 y5 y6 (y7 + (gA u0 1 (y9 + 2).toNatClampNeg)) hw
    · have hw := hw.2 hc
      refine v_aload_n C dX12_spells_180 0 rfl ?_
      refine v_aload_n C dX12_spells_181 0 rfl ?_
      refine v_get (ci := 12) C inT12 0 1 rfl rfl (by decide) mF_X12_9_X12_1 rfl dX12_spells_182 ?_
      refine v_iload C dX12_spells_185 7 rfl ?_
      refine v_bipush (v := 7) C dX12_spells_187 (by decide) ?_
      refine v_iadd C dX12_spells_189 ?_
      refine v_iload C dX12_spells_190 8 rfl ?_
      refine v_iadd C dX12_spells_192 ?_
      obtain ⟨hi193, hw⟩ := hw
      refine v_iald C 1 rfl hi193 dX12_spells_193 ?_
      refine v_bipush (v := 100) C dX12_spells_194 (by decide) ?_
      refine v_iload_n C dX12_spells_196 1 rfl ?_
      refine v_imul C dX12_spells_197 ?_
      refine v_iload C dX12_spells_198 6 rfl ?_
      refine v_iadd C dX12_spells_200 ?_
      refine v_callFv (st := []) (ci := 12) (qb := 0) C (kX12_lays h0 a0 _ _ _ hw) mM_X12_275 mI_X12 mC_X12_lays mN_X12_lays mS_X12_lays rfl rfl hd_X12_lays ⟨Nat.le_of_ble_eq_true rfl, Nat.le_of_ble_eq_true rfl⟩ ⟨Nat.le_of_ble_eq_true rfl, Nat.le_of_ble_eq_true rfl⟩ rfl (Nat.le_of_ble_eq_true rfl) dX12_spells_201 (fun v201_0 hw => ?_)
      refine v_iinc (lv' := [(10, .int (y10 + Int32.ofInt 1)), (0, .ref h0), (3, .int y3), (4, .int y4), (5, .int y5), (6, .int y6), (7, .int y7), (8, .int y8), (9, .int y9)]) C dX12_spells_204 8 rfl (by decide) rfl ?_
      refine v_goto (tgt := 165) C dX12_spells_207 (by decide) ?_
      refine v_lv C (lv' := [(0, .ref h0), (3, .int y3), (4, .int y4), (5, .int y5), (6, .int y6), (7, .int y7), (8, .int y8), (9, .int y9), (10, .int (y10 + Int32.ofInt 1))]) [1, 2, 3, 4, 5, 6, 7, 8, 0] rfl ?_
      exact ih v201_0 y3 y4 y5 y6 y7 y8 y9 (y10 + Int32.ofInt 1) hw
set_option maxHeartbeats 4000000 in
set_option maxRecDepth 100000 in
theorem jX12_spells_114 {X : VX} {E : VE} {l : Launch} (h0 : Nat) (a0 : Nat → Nat)  (Q : Md → Prop) (C : VC X cX12_spells 11 RX12 (rmL 2 0 0) E l) (hret : RetV X cX12_spells 0 0 (fun (U : Md) => [wX12 E h0 a0 U].flatten) (fun (U : Md) => Q U)) (K61 : Md → Int32 → Int32 → Int32 → Int32 → Int32 → Prop) (hK61 : ∀ (u0 : Md) (y3 : Int32) (y4 : Int32) (y5 : Int32) (y6 : Int32) (y7 : Int32), K61 u0 y3 y4 y5 y6 y7 → VV X 0 0 ([wX12 E h0 a0 u0].flatten) [(0, .ref h0), (3, .int y3), (4, .int y4), (5, .int y5), (6, .int y6), (7, .int y7)] 61 []) : ∀ (u0 : Md) (y3 : Int32) (y4 : Int32) (y5 : Int32) (y6 : Int32) (y7 : Int32) (y8 : Int32), qX12_spells_114 Q K61 u0 y3 y4 y5 y6 y7 y8 → VV X 0 0 ([wX12 E h0 a0 u0].flatten) [(0, .ref h0), (3, .int y3), (4, .int y4), (5, .int y5), (6, .int y6), (7, .int y7), (8, .int y8)] 114 [] := by
  intro u0 y3 y4 y5 y6 y7 y8 hw
  unfold qX12_spells_114 at hw
  refine v_iload C dX12_spells_114 6 rfl ?_
  refine v_iload C dX12_spells_116 2 rfl ?_
  refine v_icmp_ne (tgt := 143) C dX12_spells_118 (by decide) (fun hc => ?_) (fun hc => ?_)
  · have hw := hw.1 hc
    refine v_sipush (v := 1370) C dX12_spells_143 (by decide) ?_
    refine v_sipush (v := 195) C dX12_spells_146 (by decide) ?_
    refine v_iload_n C dX12_spells_149 1 rfl ?_
    refine v_imul C dX12_spells_150 ?_
    refine v_iadd C dX12_spells_151 ?_
    refine v_iconst (v := 3) C dX12_spells_152 (by decide) ?_
    refine v_iadd C dX12_spells_153 ?_
    refine v_bipush (v := 12) C dX12_spells_154 (by decide) ?_
    refine v_iload C dX12_spells_156 6 rfl ?_
    refine v_imul C dX12_spells_158 ?_
    refine v_iadd C dX12_spells_159 ?_
    refine v_istore (lv' := [(9, .int (((1370 + (195 * y3)) + 3) + (12 * y8))), (0, .ref h0), (3, .int y3), (4, .int y4), (5, .int y5), (6, .int y6), (7, .int y7), (8, .int y8)]) C dX12_spells_160 (by decide) rfl ?_
    refine v_iconst (v := 0) C dX12_spells_162 (by decide) ?_
    refine v_istore (lv' := [(10, .int 0), (9, .int (((1370 + (195 * y3)) + 3) + (12 * y8))), (0, .ref h0), (3, .int y3), (4, .int y4), (5, .int y5), (6, .int y6), (7, .int y7), (8, .int y8)]) C dX12_spells_163 (by decide) rfl ?_
    refine v_lv C (lv' := [(0, .ref h0), (3, .int y3), (4, .int y4), (5, .int y5), (6, .int y6), (7, .int y7), (8, .int y8), (9, .int (((1370 + (195 * y3)) + 3) + (12 * y8))), (10, .int 0)]) [2, 3, 4, 5, 6, 7, 8, 1, 0] rfl ?_
    obtain ⟨n', hw⟩ := hw
    exact jX12_spells_165 h0 a0 Q C hret K61 hK61 n' u0 y3 y4 y5 y6 y7 y8 (((1370 + (195 * y3)) + 3) + (12 * y8)) 0 hw
  · have hw := hw.2 hc
    refine v_aload_n C dX12_spells_121 0 rfl ?_
    refine v_aload_n C dX12_spells_122 0 rfl ?_
    refine v_get (ci := 12) C inT12 0 1 rfl rfl (by decide) mF_X12_9_X12_1 rfl dX12_spells_123 ?_
    refine v_iload C dX12_spells_126 3 rfl ?_
    refine v_iload C dX12_spells_128 5 rfl ?_
    refine v_iadd C dX12_spells_130 ?_
    obtain ⟨hi131, hw⟩ := hw
    refine v_iald C 1 rfl hi131 dX12_spells_131 ?_
    refine v_bipush (v := (-3)) C dX12_spells_132 (by decide) ?_
    refine v_callFv (st := []) (ci := 12) (qb := 0) C (kX12_lays h0 a0 _ _ _ hw) mM_X12_275 mI_X12 mC_X12_lays mN_X12_lays mS_X12_lays rfl rfl hd_X12_lays ⟨Nat.le_of_ble_eq_true rfl, Nat.le_of_ble_eq_true rfl⟩ ⟨Nat.le_of_ble_eq_true rfl, Nat.le_of_ble_eq_true rfl⟩ rfl (Nat.le_of_ble_eq_true rfl) dX12_spells_134 (fun v134_0 hw => ?_)
    refine v_iinc (lv' := [(7, .int (y7 + Int32.ofInt 1)), (0, .ref h0), (3, .int y3), (4, .int y4), (5, .int y5), (6, .int y6), (8, .int y8)]) C dX12_spells_137 5 rfl (by decide) rfl ?_
    refine v_goto (tgt := 61) C dX12_spells_140 (by decide) ?_
    refine v_lv C (lv' := [(0, .ref h0), (3, .int y3), (4, .int y4), (5, .int y5), (6, .int y6), (7, .int (y7 + Int32.ofInt 1))]) [1, 2, 3, 4, 5, 0] rfl ?_
    exact hK61 v134_0 y3 y4 y5 y6 (y7 + Int32.ofInt 1) hw
set_option maxHeartbeats 4000000 in
set_option maxRecDepth 100000 in
theorem jX12_spells_71 {X : VX} {E : VE} {l : Launch} (h0 : Nat) (a0 : Nat → Nat)  (Q : Md → Prop) (C : VC X cX12_spells 11 RX12 (rmL 2 0 0) E l) (hret : RetV X cX12_spells 0 0 (fun (U : Md) => [wX12 E h0 a0 U].flatten) (fun (U : Md) => Q U)) (K61 : Md → Int32 → Int32 → Int32 → Int32 → Int32 → Prop) (hK61 : ∀ (u0 : Md) (y3 : Int32) (y4 : Int32) (y5 : Int32) (y6 : Int32) (y7 : Int32), K61 u0 y3 y4 y5 y6 y7 → VV X 0 0 ([wX12 E h0 a0 u0].flatten) [(0, .ref h0), (3, .int y3), (4, .int y4), (5, .int y5), (6, .int y6), (7, .int y7)] 61 []) : ∀ (n : Nat), ∀ (u0 : Md) (y3 : Int32) (y4 : Int32) (y5 : Int32) (y6 : Int32) (y7 : Int32) (y8 : Int32), qX12_spells_71 Q K61 n u0 y3 y4 y5 y6 y7 y8 → VV X 0 0 ([wX12 E h0 a0 u0].flatten) [(0, .ref h0), (3, .int y3), (4, .int y4), (5, .int y5), (6, .int y6), (7, .int y7), (8, .int y8)] 71 [] := by
  intro n
  induction n with
  | zero =>
    intro u0 y3 y4 y5 y6 y7 y8 hw
    exact hw.elim
  | succ n ih =>
    intro u0 y3 y4 y5 y6 y7 y8 hw
    unfold qX12_spells_71 at hw
    refine v_iload C dX12_spells_71 6 rfl ?_
    refine v_iload C dX12_spells_73 2 rfl ?_
    refine v_icmp_ge (tgt := 114) C dX12_spells_75 (by decide) (fun hc => ?_) (fun hc => ?_)
    · have hw := hw.1 hc
      exact jX12_spells_114 h0 a0 Q C hret K61 hK61 u0 y3 y4 y5 y6 y7 y8 hw
    · have hw := hw.2 hc
      refine v_aload_n C dX12_spells_78 0 rfl ?_
      refine v_sipush (v := 1370) C dX12_spells_79 (by decide) ?_
      refine v_sipush (v := 195) C dX12_spells_82 (by decide) ?_
      refine v_iload_n C dX12_spells_85 1 rfl ?_
      refine v_imul C dX12_spells_86 ?_
      refine v_iadd C dX12_spells_87 ?_
      refine v_iconst (v := 3) C dX12_spells_88 (by decide) ?_
      refine v_iadd C dX12_spells_89 ?_
      refine v_bipush (v := 12) C dX12_spells_90 (by decide) ?_
      refine v_iload C dX12_spells_92 6 rfl ?_
      refine v_imul C dX12_spells_94 ?_
      refine v_iadd C dX12_spells_95 ?_
      refine v_iload C dX12_spells_96 3 rfl ?_
      refine v_iload C dX12_spells_98 4 rfl ?_
      refine v_iload C dX12_spells_100 5 rfl ?_
      refine v_callFi (st := []) (ci := 12) (qb := 0) C (kX12_fits h0 a0 _ _ _ _ _ hw) mM_X12_271 mI_X12 mC_X12_fits mN_X12_fits mS_X12_fits rfl rfl hd_X12_fits ⟨Nat.le_of_ble_eq_true rfl, Nat.le_of_ble_eq_true rfl⟩ ⟨Nat.le_of_ble_eq_true rfl, Nat.le_of_ble_eq_true rfl⟩ rfl (Nat.le_of_ble_eq_true rfl) dX12_spells_102 (fun r102 v102_0 hw => ?_)
      obtain ⟨h01_102, hw⟩ := hw
      have hw := hw h01_102
      refine v_if_ne (tgt := 114) C dX12_spells_105 (by decide) (fun hc => ?_) (fun hc => ?_)
      · have hw := hw.1 hc
        exact jX12_spells_114 h0 a0 Q C hret K61 hK61 v102_0 y3 y4 y5 y6 y7 y8 hw
      · have hw := hw.2 hc
        refine v_iinc (lv' := [(8, .int (y8 + Int32.ofInt 1)), (0, .ref h0), (3, .int y3), (4, .int y4), (5, .int y5), (6, .int y6), (7, .int y7)]) C dX12_spells_108 6 rfl (by decide) rfl ?_
        refine v_goto (tgt := 71) C dX12_spells_111 (by decide) ?_
        refine v_lv C (lv' := [(0, .ref h0), (3, .int y3), (4, .int y4), (5, .int y5), (6, .int y6), (7, .int y7), (8, .int (y8 + Int32.ofInt 1))]) [1, 2, 3, 4, 5, 6, 0] rfl ?_
        exact ih v102_0 y3 y4 y5 y6 y7 (y8 + Int32.ofInt 1) hw
set_option maxHeartbeats 4000000 in
set_option maxRecDepth 100000 in
theorem jX12_spells_61 {X : VX} {E : VE} {l : Launch} (h0 : Nat) (a0 : Nat → Nat)  (Q : Md → Prop) (C : VC X cX12_spells 11 RX12 (rmL 2 0 0) E l) (hret : RetV X cX12_spells 0 0 (fun (U : Md) => [wX12 E h0 a0 U].flatten) (fun (U : Md) => Q U))  : ∀ (n : Nat), ∀ (u0 : Md) (y3 : Int32) (y4 : Int32) (y5 : Int32) (y6 : Int32) (y7 : Int32), qX12_spells_61 Q n u0 y3 y4 y5 y6 y7 → VV X 0 0 ([wX12 E h0 a0 u0].flatten) [(0, .ref h0), (3, .int y3), (4, .int y4), (5, .int y5), (6, .int y6), (7, .int y7)] 61 [] := by
  intro n
  induction n with
  | zero =>
    intro u0 y3 y4 y5 y6 y7 hw
    exact hw.elim
  | succ n ih =>
    intro u0 y3 y4 y5 y6 y7 hw
    unfold qX12_spells_61 at hw
    refine v_iload C dX12_spells_61 5 rfl ?_
    refine v_iload C dX12_spells_63 4 rfl ?_
    refine v_icmp_ge (tgt := 227) C dX12_spells_65 (by decide) (fun hc => ?_) (fun hc => ?_)
    · have hw := hw.1 hc
      exact hret _ _ _ _ u0 dX12_spells_227 hw (Nat.le_of_ble_eq_true rfl) (Nat.le_of_ble_eq_true rfl)
    · have hw := hw.2 hc
      refine v_iconst (v := 0) C dX12_spells_68 (by decide) ?_
      refine v_istore (lv' := [(8, .int 0), (0, .ref h0), (3, .int y3), (4, .int y4), (5, .int y5), (6, .int y6), (7, .int y7)]) C dX12_spells_69 (by decide) rfl ?_
      refine v_lv C (lv' := [(0, .ref h0), (3, .int y3), (4, .int y4), (5, .int y5), (6, .int y6), (7, .int y7), (8, .int 0)]) [1, 2, 3, 4, 5, 6, 0] rfl ?_
      obtain ⟨n', hw⟩ := hw
      exact jX12_spells_71 h0 a0 Q C hret (qX12_spells_61 Q n) ih n' u0 y3 y4 y5 y6 y7 0 hw
set_option maxHeartbeats 4000000 in
set_option maxRecDepth 100000 in
theorem jX12_spells_37 {X : VX} {E : VE} {l : Launch} (h0 : Nat) (a0 : Nat → Nat)  (Q : Md → Prop) (C : VC X cX12_spells 11 RX12 (rmL 2 0 0) E l) (hret : RetV X cX12_spells 0 0 (fun (U : Md) => [wX12 E h0 a0 U].flatten) (fun (U : Md) => Q U))  : ∀ (u0 : Md) (y1 : Int32) (y3 : Int32) (z0 : Int32), qX12_spells_37 Q u0 y1 y3 z0 → VV X 0 0 ([wX12 E h0 a0 u0].flatten) [(0, .ref h0), (1, .int y1), (3, .int y3)] 37 [.int z0] := by
  intro u0 y1 y3 z0 hw
  unfold qX12_spells_37 at hw
  refine v_istore (lv' := [(4, .int z0), (0, .ref h0), (1, .int y1), (3, .int y3)]) C dX12_spells_37 (by decide) rfl ?_
  refine v_bipush (v := 90) C dX12_spells_39 (by decide) ?_
  refine v_bipush (v := 16) C dX12_spells_41 (by decide) ?_
  refine v_iload_n C dX12_spells_43 2 rfl ?_
  refine v_imul C dX12_spells_44 ?_
  refine v_iadd C dX12_spells_45 ?_
  refine v_iconst (v := 4) C dX12_spells_46 (by decide) ?_
  refine v_iadd C dX12_spells_47 ?_
  refine v_istore (lv' := [(5, .int ((90 + (16 * y1)) + 4)), (4, .int z0), (0, .ref h0), (1, .int y1), (3, .int y3)]) C dX12_spells_48 (by decide) rfl ?_
  refine v_aload_n C dX12_spells_50 2 rfl ?_
  refine v_iload_n C dX12_spells_51 3 rfl ?_
  refine v_iconst (v := 3) C dX12_spells_52 (by decide) ?_
  refine v_callFi (st := []) (ci := 12) (qb := 0) C (kX12_nameIs h0 a0 _ _ _ hw) mM_X12_265 mI_X12 mC_X12_nameIs mN_X12_nameIs mS_X12_nameIs rfl rfl hd_X12_nameIs ⟨Nat.le_of_ble_eq_true rfl, Nat.le_of_ble_eq_true rfl⟩ ⟨Nat.le_of_ble_eq_true rfl, Nat.le_of_ble_eq_true rfl⟩ rfl (Nat.le_of_ble_eq_true rfl) dX12_spells_53 (fun r53 v53_0 hw => ?_)
  refine v_istore (lv' := [(6, .int r53), (5, .int ((90 + (16 * y1)) + 4)), (4, .int z0), (0, .ref h0), (1, .int y1), (3, .int y3)]) C dX12_spells_56 (by decide) rfl ?_
  refine v_iconst (v := 0) C dX12_spells_58 (by decide) ?_
  refine v_istore (lv' := [(7, .int 0), (6, .int r53), (5, .int ((90 + (16 * y1)) + 4)), (4, .int z0), (0, .ref h0), (1, .int y1), (3, .int y3)]) C dX12_spells_59 (by decide) rfl ?_
  refine v_lv C (lv' := [(0, .ref h0), (3, .int y3), (4, .int z0), (5, .int ((90 + (16 * y1)) + 4)), (6, .int r53), (7, .int 0)]) [4, 6, 3, 2, 1, 0] rfl ?_
  obtain ⟨n', hw⟩ := hw
  exact jX12_spells_61 h0 a0 Q C hret n' v53_0 y3 z0 ((90 + (16 * y1)) + 4) r53 0 hw
set_option maxHeartbeats 4000000 in
set_option maxRecDepth 100000 in
theorem kX12_spells {l : Launch} {E : VE} (h0 : Nat) (a0 : Nat → Nat) (u0 : Md) (x1 : Int32) (x2 : Int32) {Q : Md → Prop} (hw : qX12_spells u0 x1 x2 Q) : MV l yX12_spells cX12_spells 11 2 0 0 E [.ref h0, .int x1, .int x2] ([wX12 E h0 a0 u0].flatten) (fun (U : Md) => [wX12 E h0 a0 U].flatten) (fun (U : Md) => Q U) := by
  refine MV.of (own := RX12) (by decide) rfl (Nat.le_of_ble_eq_true rfl) ?_
  intro X C hini hret
  show VV X 0 0 ([wX12 E h0 a0 u0].flatten) [(0, .ref h0), (1, .int x1), (2, .int x2)] 0 []
  unfold qX12_spells at hw
  refine v_aload_n C dX12_spells_0 0 rfl ?_
  refine v_aload_n C dX12_spells_1 0 rfl ?_
  refine v_iload_n C dX12_spells_2 1 rfl ?_
  refine v_iconst (v := 1) C dX12_spells_3 (by decide) ?_
  refine v_callFi (st := [.ref h0]) (ci := 12) (qb := 0) C (kX12_nameIs h0 a0 _ _ _ hw) mM_X12_265 mI_X12 mC_X12_nameIs mN_X12_nameIs mS_X12_nameIs rfl rfl hd_X12_nameIs ⟨Nat.le_of_ble_eq_true rfl, Nat.le_of_ble_eq_true rfl⟩ ⟨Nat.le_of_ble_eq_true rfl, Nat.le_of_ble_eq_true rfl⟩ rfl (Nat.le_of_ble_eq_true rfl) dX12_spells_4 (fun r4 v4_0 hw => ?_)
  refine v_iload_n C dX12_spells_7 2 rfl ?_
  refine v_callFi (st := []) (ci := 12) (qb := 0) C (kX12_spellingOf h0 a0 _ _ _ hw) mM_X12_268 mI_X12 mC_X12_spellingOf mN_X12_spellingOf mS_X12_spellingOf rfl rfl hd_X12_spellingOf ⟨Nat.le_of_ble_eq_true rfl, Nat.le_of_ble_eq_true rfl⟩ ⟨Nat.le_of_ble_eq_true rfl, Nat.le_of_ble_eq_true rfl⟩ rfl (Nat.le_of_ble_eq_true rfl) dX12_spells_8 (fun r8 v8_0 hw => ?_)
  refine v_istore_n (lv' := [(3, .int r8), (0, .ref h0), (1, .int x1), (2, .int x2)]) C dX12_spells_11 (by decide) rfl ?_
  refine v_iload_n C dX12_spells_12 0 rfl ?_
  refine v_iconst (v := (-1)) C dX12_spells_13 (by decide) ?_
  refine v_icmp_ne (tgt := 21) C dX12_spells_14 (by decide) (fun hc => ?_) (fun hc => ?_)
  · have hw := hw.1 hc
    refine v_aload_n C dX12_spells_21 1 rfl ?_
    refine v_get (ci := 12) C inT12 0 1 rfl rfl (by decide) mF_X12_9_X12_1 rfl dX12_spells_22 ?_
    refine v_sipush (v := 1370) C dX12_spells_25 (by decide) ?_
    refine v_sipush (v := 195) C dX12_spells_28 (by decide) ?_
    refine v_iload_n C dX12_spells_31 0 rfl ?_
    refine v_imul C dX12_spells_32 ?_
    refine v_iadd C dX12_spells_33 ?_
    refine v_iconst (v := 2) C dX12_spells_34 (by decide) ?_
    refine v_iadd C dX12_spells_35 ?_
    obtain ⟨hi36, hw⟩ := hw
    refine v_iald C 1 rfl hi36 dX12_spells_36 ?_
    refine v_lv C (lv' := [(0, .ref h0), (1, .int x1), (3, .int r8)]) [1, 2, 0] rfl ?_
    exact jX12_spells_37 h0 a0 Q C hret v8_0 x1 r8 (gA v8_0 1 ((1370 + (195 * r8)) + 2).toNatClampNeg) hw
  · have hw := hw.2 hc
    refine v_iconst (v := 0) C dX12_spells_17 (by decide) ?_
    refine v_goto (tgt := 37) C dX12_spells_18 (by decide) ?_
    refine v_lv C (lv' := [(0, .ref h0), (1, .int x1), (3, .int r8)]) [1, 2, 0] rfl ?_
    exact jX12_spells_37 h0 a0 Q C hret v8_0 x1 r8 0 hw
set_option maxHeartbeats 4000000 in
set_option maxRecDepth 100000 in
theorem jX12_takesInHand_10 {X : VX} {E : VE} {l : Launch} (h0 : Nat) (a0 : Nat → Nat)  (Q : Int32 → Md → Prop) (C : VC X cX12_takesInHand 2 RX12 (rmL 0 0 0) E l) (hret : RetI X cX12_takesInHand .int 0 0 (fun (U : Md) => [wX12 E h0 a0 U].flatten) (fun (r : Int32) (U : Md) => Q r U))  : ∀ (n : Nat), ∀ (u0 : Md) (y1 : Int32), qX12_takesInHand_10 Q n u0 y1 → VV X 0 0 ([wX12 E h0 a0 u0].flatten) [(0, .ref h0), (1, .int y1)] 10 [] := by
  intro n
  induction n with
  | zero =>
    intro u0 y1 hw
    exact hw.elim
  | succ n ih =>
    intro u0 y1 hw
    unfold qX12_takesInHand_10 at hw
    refine v_iload_n C dX12_takesInHand_10 1 rfl ?_
    refine v_aload_n C dX12_takesInHand_11 0 rfl ?_
    refine v_get (ci := 12) C inT12 0 21 rfl rfl (by decide) mF_X12_258_X12_21 rfl dX12_takesInHand_12 ?_
    refine v_icmp_ge (tgt := 48) C dX12_takesInHand_15 (by decide) (fun hc => ?_) (fun hc => ?_)
    · have hw := hw.1 hc
      refine v_aload_n C dX12_takesInHand_48 0 rfl ?_
      refine v_get (ci := 12) C inT12 0 24 rfl rfl (by decide) mF_X12_279_X12_24 rfl dX12_takesInHand_49 ?_
      exact hret _ _ _ _ (gF u0 24) u0 dX12_takesInHand_52 rfl hw (Nat.le_of_ble_eq_true rfl) (Nat.le_of_ble_eq_true rfl)
    · have hw := hw.2 hc
      refine v_aload_n C dX12_takesInHand_18 0 rfl ?_
      refine v_get (ci := 12) C inT12 0 22 rfl rfl (by decide) mF_X12_50_X12_22 rfl dX12_takesInHand_19 ?_
      refine v_iload_n C dX12_takesInHand_22 1 rfl ?_
      refine v_aload_n C dX12_takesInHand_23 0 rfl ?_
      refine v_get (ci := 12) C inT12 0 19 rfl rfl (by decide) mF_X12_44_X12_19 rfl dX12_takesInHand_24 ?_
      refine v_iload_n C dX12_takesInHand_27 1 rfl ?_
      obtain ⟨hi28, hw⟩ := hw
      refine v_iald C 10 rfl hi28 dX12_takesInHand_28 ?_
      obtain ⟨hi29, hw⟩ := hw
      obtain ⟨w29, e29⟩ : ∃ z : Md, z = tA u0 22 y1 (gA u0 19 y1.toNatClampNeg) := ⟨_, rfl⟩
      have hw := hw w29 e29
      refine v_iast (ws' := [wX12 E h0 a0 w29].flatten) C 12 rfl hi29 (by rw [e29]; rfl) dX12_takesInHand_29 ?_
      refine v_aload_n C dX12_takesInHand_30 0 rfl ?_
      refine v_get (ci := 12) C inT12 0 23 rfl rfl (by decide) mF_X12_53_X12_23 rfl dX12_takesInHand_31 ?_
      refine v_iload_n C dX12_takesInHand_34 1 rfl ?_
      refine v_aload_n C dX12_takesInHand_35 0 rfl ?_
      refine v_get (ci := 12) C inT12 0 20 rfl rfl (by decide) mF_X12_47_X12_20 rfl dX12_takesInHand_36 ?_
      refine v_iload_n C dX12_takesInHand_39 1 rfl ?_
      obtain ⟨hi40, hw⟩ := hw
      refine v_iald C 11 rfl hi40 dX12_takesInHand_40 ?_
      obtain ⟨hi41, hw⟩ := hw
      obtain ⟨w41, e41⟩ : ∃ z : Md, z = tA w29 23 y1 (gA w29 20 y1.toNatClampNeg) := ⟨_, rfl⟩
      have hw := hw w41 e41
      refine v_iast (ws' := [wX12 E h0 a0 w41].flatten) C 13 rfl hi41 (by rw [e41]; rfl) dX12_takesInHand_41 ?_
      refine v_iinc (lv' := [(1, .int (y1 + Int32.ofInt 1)), (0, .ref h0)]) C dX12_takesInHand_42 1 rfl (by decide) rfl ?_
      refine v_goto (tgt := 10) C dX12_takesInHand_45 (by decide) ?_
      refine v_lv C (lv' := [(0, .ref h0), (1, .int (y1 + Int32.ofInt 1))]) [1, 0] rfl ?_
      exact ih w41 (y1 + Int32.ofInt 1) hw
set_option maxHeartbeats 4000000 in
set_option maxRecDepth 100000 in
theorem kX12_takesInHand {l : Launch} {E : VE} (h0 : Nat) (a0 : Nat → Nat) (u0 : Md) {Q : Int32 → Md → Prop} (hw : qX12_takesInHand u0 Q) : MI l yX12_takesInHand cX12_takesInHand 2 .int 0 0 0 E [.ref h0] ([wX12 E h0 a0 u0].flatten) (fun (U : Md) => [wX12 E h0 a0 U].flatten) (fun (r : Int32) (U : Md) => Q r U) := by
  refine MI.of (own := RX12) (by decide) rfl (Nat.le_of_ble_eq_true rfl) ?_
  intro X C hini hret
  show VV X 0 0 ([wX12 E h0 a0 u0].flatten) [(0, .ref h0)] 0 []
  unfold qX12_takesInHand at hw
  refine v_aload_n C dX12_takesInHand_0 0 rfl ?_
  refine v_aload_n C dX12_takesInHand_1 0 rfl ?_
  refine v_get (ci := 12) C inT12 0 21 rfl rfl (by decide) mF_X12_258_X12_21 rfl dX12_takesInHand_2 ?_
  obtain ⟨w5, e5⟩ : ∃ z : Md, z = sF u0 24 (gF u0 21) := ⟨_, rfl⟩
  have hw := hw w5 e5
  refine v_put (ci := 12) (ws' := [wX12 E h0 a0 w5].flatten) C tyX12 tyX12_ok nmX12 inT12 0 24 rfl rfl (by decide) mF_X12_279_X12_24 rfl rfl rfl rfl (Nat.le_of_ble_eq_true rfl) (by rw [e5]; rfl) dX12_takesInHand_5 ?_
  refine v_iconst (v := 0) C dX12_takesInHand_8 (by decide) ?_
  refine v_istore_n (lv' := [(1, .int 0), (0, .ref h0)]) C dX12_takesInHand_9 (by decide) rfl ?_
  refine v_lv C (lv' := [(0, .ref h0), (1, .int 0)]) [1, 0] rfl ?_
  obtain ⟨n', hw⟩ := hw
  exact jX12_takesInHand_10 h0 a0 Q C hret n' w5 0 hw
set_option maxHeartbeats 4000000 in
set_option maxRecDepth 100000 in
theorem kX12_spell {l : Launch} {E : VE} (h0 : Nat) (a0 : Nat → Nat) (u0 : Md) (x1 : Int32) (x2 : Int32) {Q : Int32 → Md → Prop} (hw : qX12_spell u0 x1 x2 Q) : MI l yX12_spell cX12_spell 3 .int 3 0 0 E [.ref h0, .int x1, .int x2] ([wX12 E h0 a0 u0].flatten) (fun (U : Md) => [wX12 E h0 a0 U].flatten) (fun (r : Int32) (U : Md) => Q r U) := by
  refine MI.of (own := RX12) (by decide) rfl (Nat.le_of_ble_eq_true rfl) ?_
  intro X C hini hret
  show VV X 0 0 ([wX12 E h0 a0 u0].flatten) [(0, .ref h0), (1, .int x1), (2, .int x2)] 0 []
  unfold qX12_spell at hw
  refine v_aload_n C dX12_spell_0 0 rfl ?_
  refine v_iload_n C dX12_spell_1 1 rfl ?_
  refine v_callFi (st := []) (ci := 12) (qb := 0) C (kX12_isName h0 a0 _ _ hw) mM_X12_282 mI_X12 mC_X12_isName mN_X12_isName mS_X12_isName rfl rfl hd_X12_isName ⟨Nat.le_of_ble_eq_true rfl, Nat.le_of_ble_eq_true rfl⟩ ⟨Nat.le_of_ble_eq_true rfl, Nat.le_of_ble_eq_true rfl⟩ rfl (Nat.le_of_ble_eq_true rfl) dX12_spell_2 (fun r2 v2_0 hw => ?_)
  obtain ⟨h01_2, hw⟩ := hw
  have hw := hw h01_2
  refine v_if_eq (tgt := 15) C dX12_spell_5 (by decide) (fun hc => ?_) (fun hc => ?_)
  · have hw := hw.1 hc
    refine v_bipush (v := (-2)) C dX12_spell_15 (by decide) ?_
    exact hret _ _ _ _ ((-2)) v2_0 dX12_spell_17 rfl hw (Nat.le_of_ble_eq_true rfl) (Nat.le_of_ble_eq_true rfl)
  · have hw := hw.2 hc
    refine v_iload_n C dX12_spell_8 2 rfl ?_
    refine v_callSPi (st := []) C (kX12_isYear _ hw) mM_X12_160 mI_X12 mC_X12_isYear mT_X12_isYear hd_X12_isYear ⟨Nat.le_of_ble_eq_true rfl, Nat.le_of_ble_eq_true rfl⟩ ⟨Nat.le_of_ble_eq_true rfl, Nat.le_of_ble_eq_true rfl⟩ rfl (Nat.le_of_ble_eq_true rfl) dX12_spell_9 (fun r9 U9 hw => ?_)
    obtain ⟨h01_9, hw⟩ := hw
    have hw := hw h01_9
    refine v_if_ne (tgt := 18) C dX12_spell_12 (by decide) (fun hc => ?_) (fun hc => ?_)
    · have hw := hw.1 hc
      refine v_aload_n C dX12_spell_18 0 rfl ?_
      refine v_iconst (v := 0) C dX12_spell_19 (by decide) ?_
      obtain ⟨w20, e20⟩ : ∃ z : Md, z = sF v2_0 21 0 := ⟨_, rfl⟩
      have hw := hw w20 e20
      refine v_put (ci := 12) (ws' := [wX12 E h0 a0 w20].flatten) C tyX12 tyX12_ok nmX12 inT12 0 21 rfl rfl (by decide) mF_X12_258_X12_21 rfl rfl rfl rfl (Nat.le_of_ble_eq_true rfl) (by rw [e20]; rfl) dX12_spell_20 ?_
      refine v_aload_n C dX12_spell_23 0 rfl ?_
      refine v_iload_n C dX12_spell_24 1 rfl ?_
      refine v_iload_n C dX12_spell_25 2 rfl ?_
      refine v_callFv (st := []) (ci := 12) (qb := 0) C (kX12_spells h0 a0 _ _ _ hw) mM_X12_285 mI_X12 mC_X12_spells mN_X12_spells mS_X12_spells rfl rfl hd_X12_spells ⟨Nat.le_of_ble_eq_true rfl, Nat.le_of_ble_eq_true rfl⟩ ⟨Nat.le_of_ble_eq_true rfl, Nat.le_of_ble_eq_true rfl⟩ rfl (Nat.le_of_ble_eq_true rfl) dX12_spell_26 (fun v26_0 hw => ?_)
      refine v_aload_n C dX12_spell_29 0 rfl ?_
      refine v_callFi (st := []) (ci := 12) (qb := 0) C (kX12_takesInHand h0 a0 _ hw) mM_X12_288 mI_X12 mC_X12_takesInHand mN_X12_takesInHand mS_X12_takesInHand rfl rfl hd_X12_takesInHand ⟨Nat.le_of_ble_eq_true rfl, Nat.le_of_ble_eq_true rfl⟩ ⟨Nat.le_of_ble_eq_true rfl, Nat.le_of_ble_eq_true rfl⟩ rfl (Nat.le_of_ble_eq_true rfl) dX12_spell_30 (fun r30 v30_0 hw => ?_)
      exact hret _ _ _ _ r30 v30_0 dX12_spell_33 rfl hw (Nat.le_of_ble_eq_true rfl) (Nat.le_of_ble_eq_true rfl)
    · have hw := hw.2 hc
      refine v_bipush (v := (-2)) C dX12_spell_15 (by decide) ?_
      exact hret _ _ _ _ ((-2)) v2_0 dX12_spell_17 rfl hw (Nat.le_of_ble_eq_true rfl) (Nat.le_of_ble_eq_true rfl)
set_option maxHeartbeats 4000000 in
set_option maxRecDepth 100000 in
theorem kX12_letter {l : Launch} {E : VE} (h0 : Nat) (a0 : Nat → Nat) (u0 : Md) (x1 : Int32) {Q : Int32 → Md → Prop} (hw : qX12_letter u0 x1 Q) : MI l yX12_letter cX12_letter 2 .int 1 0 0 E [.ref h0, .int x1] ([wX12 E h0 a0 u0].flatten) (fun (U : Md) => [wX12 E h0 a0 U].flatten) (fun (r : Int32) (U : Md) => Q r U) := by
  refine MI.of (own := RX12) (by decide) rfl (Nat.le_of_ble_eq_true rfl) ?_
  intro X C hini hret
  show VV X 0 0 ([wX12 E h0 a0 u0].flatten) [(0, .ref h0), (1, .int x1)] 0 []
  unfold qX12_letter at hw
  refine v_iload_n C dX12_letter_0 1 rfl ?_
  refine v_i2l C dX12_letter_1 ?_
  refine v_lconst (v := 0) C dX12_letter_2 (by decide) ?_
  refine v_aload_n C dX12_letter_3 0 rfl ?_
  refine v_get (ci := 12) C inT12 0 24 rfl rfl (by decide) mF_X12_279_X12_24 rfl dX12_letter_4 ?_
  refine v_iconst (v := 1) C dX12_letter_7 (by decide) ?_
  refine v_isub C dX12_letter_8 ?_
  refine v_i2l C dX12_letter_9 ?_
  refine v_callSPi (st := []) C (kX12_in _ _ _ hw) mM_X12_125 mI_X12 mC_X12_in mT_X12_in hd_X12_in ⟨Nat.le_of_ble_eq_true rfl, Nat.le_of_ble_eq_true rfl⟩ ⟨Nat.le_of_ble_eq_true rfl, Nat.le_of_ble_eq_true rfl⟩ rfl (Nat.le_of_ble_eq_true rfl) dX12_letter_10 (fun r10 U10 hw => ?_)
  obtain ⟨h01_10, hw⟩ := hw
  have hw := hw h01_10
  refine v_if_eq (tgt := 25) C dX12_letter_13 (by decide) (fun hc => ?_) (fun hc => ?_)
  · have hw := hw.1 hc
    refine v_iconst (v := (-1)) C dX12_letter_25 (by decide) ?_
    exact hret _ _ _ _ ((-1)) u0 dX12_letter_26 rfl hw (Nat.le_of_ble_eq_true rfl) (Nat.le_of_ble_eq_true rfl)
  · have hw := hw.2 hc
    refine v_aload_n C dX12_letter_16 0 rfl ?_
    refine v_get (ci := 12) C inT12 0 22 rfl rfl (by decide) mF_X12_50_X12_22 rfl dX12_letter_17 ?_
    refine v_iload_n C dX12_letter_20 1 rfl ?_
    obtain ⟨hi21, hw⟩ := hw
    refine v_iald C 12 rfl hi21 dX12_letter_21 ?_
    refine v_goto (tgt := 26) C dX12_letter_22 (by decide) ?_
    exact hret _ _ _ _ (gA u0 22 x1.toNatClampNeg) u0 dX12_letter_26 rfl hw (Nat.le_of_ble_eq_true rfl) (Nat.le_of_ble_eq_true rfl)
set_option maxHeartbeats 4000000 in
set_option maxRecDepth 100000 in
theorem kX12_led {l : Launch} {E : VE} (h0 : Nat) (a0 : Nat → Nat) (u0 : Md) (x1 : Int32) {Q : Int32 → Md → Prop} (hw : qX12_led u0 x1 Q) : MI l yX12_led cX12_led 2 .int 1 0 0 E [.ref h0, .int x1] ([wX12 E h0 a0 u0].flatten) (fun (U : Md) => [wX12 E h0 a0 U].flatten) (fun (r : Int32) (U : Md) => Q r U) := by
  refine MI.of (own := RX12) (by decide) rfl (Nat.le_of_ble_eq_true rfl) ?_
  intro X C hini hret
  show VV X 0 0 ([wX12 E h0 a0 u0].flatten) [(0, .ref h0), (1, .int x1)] 0 []
  unfold qX12_led at hw
  refine v_iload_n C dX12_led_0 1 rfl ?_
  refine v_i2l C dX12_led_1 ?_
  refine v_lconst (v := 0) C dX12_led_2 (by decide) ?_
  refine v_aload_n C dX12_led_3 0 rfl ?_
  refine v_get (ci := 12) C inT12 0 24 rfl rfl (by decide) mF_X12_279_X12_24 rfl dX12_led_4 ?_
  refine v_iconst (v := 1) C dX12_led_7 (by decide) ?_
  refine v_isub C dX12_led_8 ?_
  refine v_i2l C dX12_led_9 ?_
  refine v_callSPi (st := []) C (kX12_in _ _ _ hw) mM_X12_125 mI_X12 mC_X12_in mT_X12_in hd_X12_in ⟨Nat.le_of_ble_eq_true rfl, Nat.le_of_ble_eq_true rfl⟩ ⟨Nat.le_of_ble_eq_true rfl, Nat.le_of_ble_eq_true rfl⟩ rfl (Nat.le_of_ble_eq_true rfl) dX12_led_10 (fun r10 U10 hw => ?_)
  obtain ⟨h01_10, hw⟩ := hw
  have hw := hw h01_10
  refine v_if_eq (tgt := 25) C dX12_led_13 (by decide) (fun hc => ?_) (fun hc => ?_)
  · have hw := hw.1 hc
    refine v_iconst (v := (-1)) C dX12_led_25 (by decide) ?_
    exact hret _ _ _ _ ((-1)) u0 dX12_led_26 rfl hw (Nat.le_of_ble_eq_true rfl) (Nat.le_of_ble_eq_true rfl)
  · have hw := hw.2 hc
    refine v_aload_n C dX12_led_16 0 rfl ?_
    refine v_get (ci := 12) C inT12 0 23 rfl rfl (by decide) mF_X12_53_X12_23 rfl dX12_led_17 ?_
    refine v_iload_n C dX12_led_20 1 rfl ?_
    obtain ⟨hi21, hw⟩ := hw
    refine v_iald C 13 rfl hi21 dX12_led_21 ?_
    refine v_goto (tgt := 26) C dX12_led_22 (by decide) ?_
    exact hret _ _ _ _ (gA u0 23 x1.toNatClampNeg) u0 dX12_led_26 rfl hw (Nat.le_of_ble_eq_true rfl) (Nat.le_of_ble_eq_true rfl)
set_option maxHeartbeats 4000000 in
set_option maxRecDepth 100000 in
theorem jX12_holds_10 {X : VX} {E : VE} {l : Launch} (h0 : Nat) (a0 : Nat → Nat)  (Q : Md → Prop) (C : VC X cX12_holds 2 RX12 (rmL 0 0 0) E l) (hret : RetV X cX12_holds 0 0 (fun (U : Md) => [wX12 E h0 a0 U].flatten) (fun (U : Md) => Q U))  : ∀ (n : Nat), ∀ (u0 : Md) (y1 : Int32), qX12_holds_10 Q n u0 y1 → VV X 0 0 ([wX12 E h0 a0 u0].flatten) [(0, .ref h0), (1, .int y1)] 10 [] := by
  intro n
  induction n with
  | zero =>
    intro u0 y1 hw
    exact hw.elim
  | succ n ih =>
    intro u0 y1 hw
    unfold qX12_holds_10 at hw
    refine v_iload_n C dX12_holds_10 1 rfl ?_
    refine v_aload_n C dX12_holds_11 0 rfl ?_
    refine v_get (ci := 12) C inT12 0 21 rfl rfl (by decide) mF_X12_258_X12_21 rfl dX12_holds_12 ?_
    refine v_icmp_ge (tgt := 36) C dX12_holds_15 (by decide) (fun hc => ?_) (fun hc => ?_)
    · have hw := hw.1 hc
      exact hret _ _ _ _ u0 dX12_holds_36 hw (Nat.le_of_ble_eq_true rfl) (Nat.le_of_ble_eq_true rfl)
    · have hw := hw.2 hc
      refine v_aload_n C dX12_holds_18 0 rfl ?_
      refine v_get (ci := 12) C inT12 0 25 rfl rfl (by decide) mF_X12_56_X12_25 rfl dX12_holds_19 ?_
      refine v_iload_n C dX12_holds_22 1 rfl ?_
      refine v_aload_n C dX12_holds_23 0 rfl ?_
      refine v_get (ci := 12) C inT12 0 19 rfl rfl (by decide) mF_X12_44_X12_19 rfl dX12_holds_24 ?_
      refine v_iload_n C dX12_holds_27 1 rfl ?_
      obtain ⟨hi28, hw⟩ := hw
      refine v_iald C 10 rfl hi28 dX12_holds_28 ?_
      obtain ⟨hi29, hw⟩ := hw
      obtain ⟨w29, e29⟩ : ∃ z : Md, z = tA u0 25 y1 (gA u0 19 y1.toNatClampNeg) := ⟨_, rfl⟩
      have hw := hw w29 e29
      refine v_iast (ws' := [wX12 E h0 a0 w29].flatten) C 14 rfl hi29 (by rw [e29]; rfl) dX12_holds_29 ?_
      refine v_iinc (lv' := [(1, .int (y1 + Int32.ofInt 1)), (0, .ref h0)]) C dX12_holds_30 1 rfl (by decide) rfl ?_
      refine v_goto (tgt := 10) C dX12_holds_33 (by decide) ?_
      refine v_lv C (lv' := [(0, .ref h0), (1, .int (y1 + Int32.ofInt 1))]) [1, 0] rfl ?_
      exact ih w29 (y1 + Int32.ofInt 1) hw
set_option maxHeartbeats 4000000 in
set_option maxRecDepth 100000 in
theorem kX12_holds {l : Launch} {E : VE} (h0 : Nat) (a0 : Nat → Nat) (u0 : Md) {Q : Md → Prop} (hw : qX12_holds u0 Q) : MV l yX12_holds cX12_holds 2 0 0 0 E [.ref h0] ([wX12 E h0 a0 u0].flatten) (fun (U : Md) => [wX12 E h0 a0 U].flatten) (fun (U : Md) => Q U) := by
  refine MV.of (own := RX12) (by decide) rfl (Nat.le_of_ble_eq_true rfl) ?_
  intro X C hini hret
  show VV X 0 0 ([wX12 E h0 a0 u0].flatten) [(0, .ref h0)] 0 []
  unfold qX12_holds at hw
  refine v_aload_n C dX12_holds_0 0 rfl ?_
  refine v_aload_n C dX12_holds_1 0 rfl ?_
  refine v_get (ci := 12) C inT12 0 21 rfl rfl (by decide) mF_X12_258_X12_21 rfl dX12_holds_2 ?_
  obtain ⟨w5, e5⟩ : ∃ z : Md, z = sF u0 26 (gF u0 21) := ⟨_, rfl⟩
  have hw := hw w5 e5
  refine v_put (ci := 12) (ws' := [wX12 E h0 a0 w5].flatten) C tyX12 tyX12_ok nmX12 inT12 0 26 rfl rfl (by decide) mF_X12_291_X12_26 rfl rfl rfl rfl (Nat.le_of_ble_eq_true rfl) (by rw [e5]; rfl) dX12_holds_5 ?_
  refine v_iconst (v := 0) C dX12_holds_8 (by decide) ?_
  refine v_istore_n (lv' := [(1, .int 0), (0, .ref h0)]) C dX12_holds_9 (by decide) rfl ?_
  refine v_lv C (lv' := [(0, .ref h0), (1, .int 0)]) [1, 0] rfl ?_
  obtain ⟨n', hw⟩ := hw
  exact jX12_holds_10 h0 a0 Q C hret n' w5 0 hw
set_option maxHeartbeats 4000000 in
set_option maxRecDepth 100000 in
theorem jX12_isAlike_19 {X : VX} {E : VE} {l : Launch} (h0 : Nat) (a0 : Nat → Nat)  (Q : Int32 → Md → Prop) (C : VC X cX12_isAlike 3 RX12 (rmL 0 0 0) E l) (hret : RetI X cX12_isAlike .boolean 0 0 (fun (U : Md) => [wX12 E h0 a0 U].flatten) (fun (r : Int32) (U : Md) => (r = 0 ∨ r = 1) ∧ Q r U))  : ∀ (n : Nat), ∀ (u0 : Md) (y1 : Int32) (y2 : Int32), qX12_isAlike_19 Q n u0 y1 y2 → VV X 0 0 ([wX12 E h0 a0 u0].flatten) [(0, .ref h0), (1, .int y1), (2, .int y2)] 19 [] := by
  intro n
  induction n with
  | zero =>
    intro u0 y1 y2 hw
    exact hw.elim
  | succ n ih =>
    intro u0 y1 y2 hw
    unfold qX12_isAlike_19 at hw
    refine v_iload_n C dX12_isAlike_19 2 rfl ?_
    refine v_aload_n C dX12_isAlike_20 0 rfl ?_
    refine v_get (ci := 12) C inT12 0 21 rfl rfl (by decide) mF_X12_258_X12_21 rfl dX12_isAlike_21 ?_
    refine v_icmp_ge (tgt := 58) C dX12_isAlike_24 (by decide) (fun hc => ?_) (fun hc => ?_)
    · have hw := hw.1 hc
      refine v_iload_n C dX12_isAlike_58 1 rfl ?_
      obtain ⟨h01, hw⟩ := hw
      exact hret _ _ _ _ y1 u0 dX12_isAlike_59 (nz01 h01) ⟨h01, hw⟩ (Nat.le_of_ble_eq_true rfl) (Nat.le_of_ble_eq_true rfl)
    · have hw := hw.2 hc
      refine v_iload_n C dX12_isAlike_27 1 rfl ?_
      refine v_if_eq (tgt := 58) C dX12_isAlike_28 (by decide) (fun hc => ?_) (fun hc => ?_)
      · have hw := hw.1 hc
        refine v_iload_n C dX12_isAlike_58 1 rfl ?_
        obtain ⟨h01, hw⟩ := hw
        exact hret _ _ _ _ y1 u0 dX12_isAlike_59 (nz01 h01) ⟨h01, hw⟩ (Nat.le_of_ble_eq_true rfl) (Nat.le_of_ble_eq_true rfl)
      · have hw := hw.2 hc
        refine v_aload_n C dX12_isAlike_31 0 rfl ?_
        refine v_get (ci := 12) C inT12 0 25 rfl rfl (by decide) mF_X12_56_X12_25 rfl dX12_isAlike_32 ?_
        refine v_iload_n C dX12_isAlike_35 2 rfl ?_
        obtain ⟨hi36, hw⟩ := hw
        refine v_iald C 14 rfl hi36 dX12_isAlike_36 ?_
        refine v_aload_n C dX12_isAlike_37 0 rfl ?_
        refine v_get (ci := 12) C inT12 0 19 rfl rfl (by decide) mF_X12_44_X12_19 rfl dX12_isAlike_38 ?_
        refine v_iload_n C dX12_isAlike_41 2 rfl ?_
        obtain ⟨hi42, hw⟩ := hw
        refine v_iald C 10 rfl hi42 dX12_isAlike_42 ?_
        refine v_icmp_ne (tgt := 50) C dX12_isAlike_43 (by decide) (fun hc => ?_) (fun hc => ?_)
        · have hw := hw.1 hc
          refine v_iconst (v := 0) C dX12_isAlike_50 (by decide) ?_
          refine v_istore_n (lv' := [(1, .int 0), (0, .ref h0), (2, .int y2)]) C dX12_isAlike_51 (by decide) rfl ?_
          refine v_iinc (lv' := [(2, .int (y2 + Int32.ofInt 1)), (1, .int 0), (0, .ref h0)]) C dX12_isAlike_52 2 rfl (by decide) rfl ?_
          refine v_goto (tgt := 19) C dX12_isAlike_55 (by decide) ?_
          refine v_lv C (lv' := [(0, .ref h0), (1, .int 0), (2, .int (y2 + Int32.ofInt 1))]) [2, 1, 0] rfl ?_
          exact ih u0 0 (y2 + Int32.ofInt 1) hw
        · have hw := hw.2 hc
          refine v_iconst (v := 1) C dX12_isAlike_46 (by decide) ?_
          refine v_goto (tgt := 51) C dX12_isAlike_47 (by decide) ?_
          refine v_istore_n (lv' := [(1, .int 1), (0, .ref h0), (2, .int y2)]) C dX12_isAlike_51 (by decide) rfl ?_
          refine v_iinc (lv' := [(2, .int (y2 + Int32.ofInt 1)), (1, .int 1), (0, .ref h0)]) C dX12_isAlike_52 2 rfl (by decide) rfl ?_
          refine v_goto (tgt := 19) C dX12_isAlike_55 (by decide) ?_
          refine v_lv C (lv' := [(0, .ref h0), (1, .int 1), (2, .int (y2 + Int32.ofInt 1))]) [2, 1, 0] rfl ?_
          exact ih u0 1 (y2 + Int32.ofInt 1) hw
set_option maxHeartbeats 4000000 in
set_option maxRecDepth 100000 in
theorem kX12_isAlike {l : Launch} {E : VE} (h0 : Nat) (a0 : Nat → Nat) (u0 : Md) {Q : Int32 → Md → Prop} (hw : qX12_isAlike u0 Q) : MI l yX12_isAlike cX12_isAlike 3 .boolean 0 0 0 E [.ref h0] ([wX12 E h0 a0 u0].flatten) (fun (U : Md) => [wX12 E h0 a0 U].flatten) (fun (r : Int32) (U : Md) => (r = 0 ∨ r = 1) ∧ Q r U) := by
  refine MI.of (own := RX12) (by decide) rfl (Nat.le_of_ble_eq_true rfl) ?_
  intro X C hini hret
  show VV X 0 0 ([wX12 E h0 a0 u0].flatten) [(0, .ref h0)] 0 []
  unfold qX12_isAlike at hw
  refine v_aload_n C dX12_isAlike_0 0 rfl ?_
  refine v_get (ci := 12) C inT12 0 26 rfl rfl (by decide) mF_X12_291_X12_26 rfl dX12_isAlike_1 ?_
  refine v_aload_n C dX12_isAlike_4 0 rfl ?_
  refine v_get (ci := 12) C inT12 0 21 rfl rfl (by decide) mF_X12_258_X12_21 rfl dX12_isAlike_5 ?_
  refine v_icmp_ne (tgt := 15) C dX12_isAlike_8 (by decide) (fun hc => ?_) (fun hc => ?_)
  · have hw := hw.1 hc
    refine v_iconst (v := 0) C dX12_isAlike_15 (by decide) ?_
    refine v_istore_n (lv' := [(1, .int 0), (0, .ref h0)]) C dX12_isAlike_16 (by decide) rfl ?_
    refine v_iconst (v := 0) C dX12_isAlike_17 (by decide) ?_
    refine v_istore_n (lv' := [(2, .int 0), (1, .int 0), (0, .ref h0)]) C dX12_isAlike_18 (by decide) rfl ?_
    refine v_lv C (lv' := [(0, .ref h0), (1, .int 0), (2, .int 0)]) [2, 1, 0] rfl ?_
    obtain ⟨n', hw⟩ := hw
    exact jX12_isAlike_19 h0 a0 Q C hret n' u0 0 0 hw
  · have hw := hw.2 hc
    refine v_iconst (v := 1) C dX12_isAlike_11 (by decide) ?_
    refine v_goto (tgt := 16) C dX12_isAlike_12 (by decide) ?_
    refine v_istore_n (lv' := [(1, .int 1), (0, .ref h0)]) C dX12_isAlike_16 (by decide) rfl ?_
    refine v_iconst (v := 0) C dX12_isAlike_17 (by decide) ?_
    refine v_istore_n (lv' := [(2, .int 0), (1, .int 1), (0, .ref h0)]) C dX12_isAlike_18 (by decide) rfl ?_
    refine v_lv C (lv' := [(0, .ref h0), (1, .int 1), (2, .int 0)]) [2, 1, 0] rfl ?_
    obtain ⟨n', hw⟩ := hw
    exact jX12_isAlike_19 h0 a0 Q C hret n' u0 1 0 hw
set_option maxHeartbeats 4000000 in
set_option maxRecDepth 100000 in
theorem jX12_alikes_99 {X : VX} {E : VE} {l : Launch} (h0 : Nat) (a0 : Nat → Nat)  (Q : Int32 → Md → Prop) (C : VC X cX12_alikes 5 RX12 (rmL 3 0 0) E l) (hret : RetI X cX12_alikes .int 0 0 (fun (U : Md) => [wX12 E h0 a0 U].flatten) (fun (r : Int32) (U : Md) => Q r U)) (K14 : Md → Int32 → Int32 → Int32 → Prop) (K44 : Md → Int32 → Int32 → Int32 → Int32 → Prop) (hK14 : ∀ (u0 : Md) (y1 : Int32) (y2 : Int32) (y3 : Int32), K14 u0 y1 y2 y3 → VV X 0 0 ([wX12 E h0 a0 u0].flatten) [(0, .ref h0), (1, .int y1), (2, .int y2), (3, .int y3)] 14 []) (hK44 : ∀ (u0 : Md) (y1 : Int32) (y2 : Int32) (y3 : Int32) (y4 : Int32), K44 u0 y1 y2 y3 y4 → VV X 0 0 ([wX12 E h0 a0 u0].flatten) [(0, .ref h0), (1, .int y1), (2, .int y2), (3, .int y3), (4, .int y4)] 44 []) : ∀ (u0 : Md) (y1 : Int32) (y3 : Int32) (y4 : Int32) (z0 : Int32) (z1 : Int32), qX12_alikes_99 Q K14 K44 u0 y1 y3 y4 z0 z1 → VV X 0 0 ([wX12 E h0 a0 u0].flatten) [(0, .ref h0), (1, .int y1), (3, .int y3), (4, .int y4)] 99 [.int z0, .int z1] := by
  intro u0 y1 y3 y4 z0 z1 hw
  unfold qX12_alikes_99 at hw
  refine v_iadd C dX12_alikes_99 ?_
  refine v_istore_n (lv' := [(2, .int (z1 + z0)), (0, .ref h0), (1, .int y1), (3, .int y3), (4, .int y4)]) C dX12_alikes_100 (by decide) rfl ?_
  refine v_iinc (lv' := [(4, .int (y4 + Int32.ofInt 1)), (2, .int (z1 + z0)), (0, .ref h0), (1, .int y1), (3, .int y3)]) C dX12_alikes_101 4 rfl (by decide) rfl ?_
  refine v_goto (tgt := 44) C dX12_alikes_104 (by decide) ?_
  refine v_lv C (lv' := [(0, .ref h0), (1, .int y1), (2, .int (z1 + z0)), (3, .int y3), (4, .int (y4 + Int32.ofInt 1))]) [2, 3, 1, 4, 0] rfl ?_
  exact hK44 u0 y1 (z1 + z0) y3 (y4 + Int32.ofInt 1) hw
set_option maxHeartbeats 4000000 in
set_option maxRecDepth 100000 in
theorem jX12_alikes_44 {X : VX} {E : VE} {l : Launch} (h0 : Nat) (a0 : Nat → Nat)  (Q : Int32 → Md → Prop) (C : VC X cX12_alikes 5 RX12 (rmL 3 0 0) E l) (hret : RetI X cX12_alikes .int 0 0 (fun (U : Md) => [wX12 E h0 a0 U].flatten) (fun (r : Int32) (U : Md) => Q r U)) (K14 : Md → Int32 → Int32 → Int32 → Prop) (hK14 : ∀ (u0 : Md) (y1 : Int32) (y2 : Int32) (y3 : Int32), K14 u0 y1 y2 y3 → VV X 0 0 ([wX12 E h0 a0 u0].flatten) [(0, .ref h0), (1, .int y1), (2, .int y2), (3, .int y3)] 14 []) : ∀ (n : Nat), ∀ (u0 : Md) (y1 : Int32) (y2 : Int32) (y3 : Int32) (y4 : Int32), qX12_alikes_44 Q K14 n u0 y1 y2 y3 y4 → VV X 0 0 ([wX12 E h0 a0 u0].flatten) [(0, .ref h0), (1, .int y1), (2, .int y2), (3, .int y3), (4, .int y4)] 44 [] := by
  intro n
  induction n with
  | zero =>
    intro u0 y1 y2 y3 y4 hw
    exact hw.elim
  | succ n ih =>
    intro u0 y1 y2 y3 y4 hw
    unfold qX12_alikes_44 at hw
    refine v_iload C dX12_alikes_44 4 rfl ?_
    refine v_aload_n C dX12_alikes_46 0 rfl ?_
    refine v_get (ci := 12) C inT12 0 1 rfl rfl (by decide) mF_X12_9_X12_1 rfl dX12_alikes_47 ?_
    refine v_iconst (v := 2) C dX12_alikes_50 (by decide) ?_
    obtain ⟨hi51, hw⟩ := hw
    refine v_iald C 1 rfl hi51 dX12_alikes_51 ?_
    refine v_icmp_ge (tgt := 107) C dX12_alikes_52 (by decide) (fun hc => ?_) (fun hc => ?_)
    · have hw := hw.1 hc
      refine v_iinc (lv' := [(3, .int (y3 + Int32.ofInt 1)), (0, .ref h0), (1, .int y1), (2, .int y2), (4, .int y4)]) C dX12_alikes_107 3 rfl (by decide) rfl ?_
      refine v_goto (tgt := 14) C dX12_alikes_110 (by decide) ?_
      refine v_lv C (lv' := [(0, .ref h0), (1, .int y1), (2, .int y2), (3, .int (y3 + Int32.ofInt 1))]) [1, 2, 3, 0] rfl ?_
      exact hK14 u0 y1 y2 (y3 + Int32.ofInt 1) hw
    · have hw := hw.2 hc
      refine v_aload_n C dX12_alikes_55 0 rfl ?_
      refine v_iload_n C dX12_alikes_56 3 rfl ?_
      refine v_iconst (v := 0) C dX12_alikes_57 (by decide) ?_
      refine v_callFi (st := []) (ci := 12) (qb := 0) C (kX12_nameIs h0 a0 _ _ _ hw) mM_X12_265 mI_X12 mC_X12_nameIs mN_X12_nameIs mS_X12_nameIs rfl rfl hd_X12_nameIs ⟨Nat.le_of_ble_eq_true rfl, Nat.le_of_ble_eq_true rfl⟩ ⟨Nat.le_of_ble_eq_true rfl, Nat.le_of_ble_eq_true rfl⟩ rfl (Nat.le_of_ble_eq_true rfl) dX12_alikes_58 (fun r58 v58_0 hw => ?_)
      refine v_aload_n C dX12_alikes_61 0 rfl ?_
      refine v_iload C dX12_alikes_62 4 rfl ?_
      refine v_iconst (v := 0) C dX12_alikes_64 (by decide) ?_
      refine v_callFi (st := [.int r58]) (ci := 12) (qb := 0) C (kX12_nameIs h0 a0 _ _ _ hw) mM_X12_265 mI_X12 mC_X12_nameIs mN_X12_nameIs mS_X12_nameIs rfl rfl hd_X12_nameIs ⟨Nat.le_of_ble_eq_true rfl, Nat.le_of_ble_eq_true rfl⟩ ⟨Nat.le_of_ble_eq_true rfl, Nat.le_of_ble_eq_true rfl⟩ rfl (Nat.le_of_ble_eq_true rfl) dX12_alikes_65 (fun r65 v65_0 hw => ?_)
      refine v_icmp_ne (tgt := 74) C dX12_alikes_68 (by decide) (fun hc => ?_) (fun hc => ?_)
      · have hw := hw.1 hc
        refine v_aload_n C dX12_alikes_74 0 rfl ?_
        refine v_iconst (v := 0) C dX12_alikes_75 (by decide) ?_
        obtain ⟨w76, e76⟩ : ∃ z : Md, z = sF v65_0 21 0 := ⟨_, rfl⟩
        have hw := hw w76 e76
        refine v_put (ci := 12) (ws' := [wX12 E h0 a0 w76].flatten) C tyX12 tyX12_ok nmX12 inT12 0 21 rfl rfl (by decide) mF_X12_258_X12_21 rfl rfl rfl rfl (Nat.le_of_ble_eq_true rfl) (by rw [e76]; rfl) dX12_alikes_76 ?_
        refine v_aload_n C dX12_alikes_79 0 rfl ?_
        refine v_iload C dX12_alikes_80 4 rfl ?_
        refine v_iload_n C dX12_alikes_82 1 rfl ?_
        refine v_callFv (st := []) (ci := 12) (qb := 0) C (kX12_spells h0 a0 _ _ _ hw) mM_X12_285 mI_X12 mC_X12_spells mN_X12_spells mS_X12_spells rfl rfl hd_X12_spells ⟨Nat.le_of_ble_eq_true rfl, Nat.le_of_ble_eq_true rfl⟩ ⟨Nat.le_of_ble_eq_true rfl, Nat.le_of_ble_eq_true rfl⟩ rfl (Nat.le_of_ble_eq_true rfl) dX12_alikes_83 (fun v83_0 hw => ?_)
        refine v_iload_n C dX12_alikes_86 2 rfl ?_
        refine v_aload_n C dX12_alikes_87 0 rfl ?_
        refine v_callFi (st := [.int y2]) (ci := 12) (qb := 0) C (kX12_isAlike h0 a0 _ hw) mM_X12_297 mI_X12 mC_X12_isAlike mN_X12_isAlike mS_X12_isAlike rfl rfl hd_X12_isAlike ⟨Nat.le_of_ble_eq_true rfl, Nat.le_of_ble_eq_true rfl⟩ ⟨Nat.le_of_ble_eq_true rfl, Nat.le_of_ble_eq_true rfl⟩ rfl (Nat.le_of_ble_eq_true rfl) dX12_alikes_88 (fun r88 v88_0 hw => ?_)
        obtain ⟨h01_88, hw⟩ := hw
        have hw := hw h01_88
        refine v_if_eq (tgt := 98) C dX12_alikes_91 (by decide) (fun hc => ?_) (fun hc => ?_)
        · have hw := hw.1 hc
          refine v_iconst (v := 0) C dX12_alikes_98 (by decide) ?_
          refine v_lv C (lv' := [(0, .ref h0), (1, .int y1), (3, .int y3), (4, .int y4)]) [0, 1, 3, 4] rfl ?_
          exact jX12_alikes_99 h0 a0 Q C hret K14 (qX12_alikes_44 Q K14 n) hK14 ih v88_0 y1 y3 y4 0 y2 hw
        · have hw := hw.2 hc
          refine v_iconst (v := 1) C dX12_alikes_94 (by decide) ?_
          refine v_goto (tgt := 99) C dX12_alikes_95 (by decide) ?_
          refine v_lv C (lv' := [(0, .ref h0), (1, .int y1), (3, .int y3), (4, .int y4)]) [0, 1, 3, 4] rfl ?_
          exact jX12_alikes_99 h0 a0 Q C hret K14 (qX12_alikes_44 Q K14 n) hK14 ih v88_0 y1 y3 y4 1 y2 hw
      · have hw := hw.2 hc
        refine v_goto (tgt := 101) C dX12_alikes_71 (by decide) ?_
        refine v_iinc (lv' := [(4, .int (y4 + Int32.ofInt 1)), (0, .ref h0), (1, .int y1), (2, .int y2), (3, .int y3)]) C dX12_alikes_101 4 rfl (by decide) rfl ?_
        refine v_goto (tgt := 44) C dX12_alikes_104 (by decide) ?_
        refine v_lv C (lv' := [(0, .ref h0), (1, .int y1), (2, .int y2), (3, .int y3), (4, .int (y4 + Int32.ofInt 1))]) [1, 2, 3, 4, 0] rfl ?_
        exact ih v65_0 y1 y2 y3 (y4 + Int32.ofInt 1) hw
set_option maxHeartbeats 4000000 in
set_option maxRecDepth 100000 in
theorem jX12_alikes_14 {X : VX} {E : VE} {l : Launch} (h0 : Nat) (a0 : Nat → Nat)  (Q : Int32 → Md → Prop) (C : VC X cX12_alikes 5 RX12 (rmL 3 0 0) E l) (hret : RetI X cX12_alikes .int 0 0 (fun (U : Md) => [wX12 E h0 a0 U].flatten) (fun (r : Int32) (U : Md) => Q r U))  : ∀ (n : Nat), ∀ (u0 : Md) (y1 : Int32) (y2 : Int32) (y3 : Int32), qX12_alikes_14 Q n u0 y1 y2 y3 → VV X 0 0 ([wX12 E h0 a0 u0].flatten) [(0, .ref h0), (1, .int y1), (2, .int y2), (3, .int y3)] 14 [] := by
  intro n
  induction n with
  | zero =>
    intro u0 y1 y2 y3 hw
    exact hw.elim
  | succ n ih =>
    intro u0 y1 y2 y3 hw
    unfold qX12_alikes_14 at hw
    refine v_iload_n C dX12_alikes_14 3 rfl ?_
    refine v_aload_n C dX12_alikes_15 0 rfl ?_
    refine v_get (ci := 12) C inT12 0 1 rfl rfl (by decide) mF_X12_9_X12_1 rfl dX12_alikes_16 ?_
    refine v_iconst (v := 2) C dX12_alikes_19 (by decide) ?_
    obtain ⟨hi20, hw⟩ := hw
    refine v_iald C 1 rfl hi20 dX12_alikes_20 ?_
    refine v_icmp_ge (tgt := 113) C dX12_alikes_21 (by decide) (fun hc => ?_) (fun hc => ?_)
    · have hw := hw.1 hc
      refine v_iload_n C dX12_alikes_113 2 rfl ?_
      exact hret _ _ _ _ y2 u0 dX12_alikes_114 rfl hw (Nat.le_of_ble_eq_true rfl) (Nat.le_of_ble_eq_true rfl)
    · have hw := hw.2 hc
      refine v_aload_n C dX12_alikes_24 0 rfl ?_
      refine v_iconst (v := 0) C dX12_alikes_25 (by decide) ?_
      obtain ⟨w26, e26⟩ : ∃ z : Md, z = sF u0 21 0 := ⟨_, rfl⟩
      have hw := hw w26 e26
      refine v_put (ci := 12) (ws' := [wX12 E h0 a0 w26].flatten) C tyX12 tyX12_ok nmX12 inT12 0 21 rfl rfl (by decide) mF_X12_258_X12_21 rfl rfl rfl rfl (Nat.le_of_ble_eq_true rfl) (by rw [e26]; rfl) dX12_alikes_26 ?_
      refine v_aload_n C dX12_alikes_29 0 rfl ?_
      refine v_iload_n C dX12_alikes_30 3 rfl ?_
      refine v_iload_n C dX12_alikes_31 1 rfl ?_
      refine v_callFv (st := []) (ci := 12) (qb := 0) C (kX12_spells h0 a0 _ _ _ hw) mM_X12_285 mI_X12 mC_X12_spells mN_X12_spells mS_X12_spells rfl rfl hd_X12_spells ⟨Nat.le_of_ble_eq_true rfl, Nat.le_of_ble_eq_true rfl⟩ ⟨Nat.le_of_ble_eq_true rfl, Nat.le_of_ble_eq_true rfl⟩ rfl (Nat.le_of_ble_eq_true rfl) dX12_alikes_32 (fun v32_0 hw => ?_)
      refine v_aload_n C dX12_alikes_35 0 rfl ?_
      refine v_callFv (st := []) (ci := 12) (qb := 0) C (kX12_holds h0 a0 _ hw) mM_X12_294 mI_X12 mC_X12_holds mN_X12_holds mS_X12_holds rfl rfl hd_X12_holds ⟨Nat.le_of_ble_eq_true rfl, Nat.le_of_ble_eq_true rfl⟩ ⟨Nat.le_of_ble_eq_true rfl, Nat.le_of_ble_eq_true rfl⟩ rfl (Nat.le_of_ble_eq_true rfl) dX12_alikes_36 (fun v36_0 hw => ?_)
      refine v_iload_n C dX12_alikes_39 3 rfl ?_
      refine v_iconst (v := 1) C dX12_alikes_40 (by decide) ?_
      refine v_iadd C dX12_alikes_41 ?_
      refine v_istore (lv' := [(4, .int (y3 + 1)), (0, .ref h0), (1, .int y1), (2, .int y2), (3, .int y3)]) C dX12_alikes_42 (by decide) rfl ?_
      refine v_lv C (lv' := [(0, .ref h0), (1, .int y1), (2, .int y2), (3, .int y3), (4, .int (y3 + 1))]) [1, 2, 3, 4, 0] rfl ?_
      obtain ⟨n', hw⟩ := hw
      exact jX12_alikes_44 h0 a0 Q C hret (qX12_alikes_14 Q n) ih n' v36_0 y1 y2 y3 (y3 + 1) hw
set_option maxHeartbeats 4000000 in
set_option maxRecDepth 100000 in
theorem kX12_alikes {l : Launch} {E : VE} (h0 : Nat) (a0 : Nat → Nat) (u0 : Md) (x1 : Int32) {Q : Int32 → Md → Prop} (hw : qX12_alikes u0 x1 Q) : MI l yX12_alikes cX12_alikes 5 .int 3 0 0 E [.ref h0, .int x1] ([wX12 E h0 a0 u0].flatten) (fun (U : Md) => [wX12 E h0 a0 U].flatten) (fun (r : Int32) (U : Md) => Q r U) := by
  refine MI.of (own := RX12) (by decide) rfl (Nat.le_of_ble_eq_true rfl) ?_
  intro X C hini hret
  show VV X 0 0 ([wX12 E h0 a0 u0].flatten) [(0, .ref h0), (1, .int x1)] 0 []
  unfold qX12_alikes at hw
  refine v_iload_n C dX12_alikes_0 1 rfl ?_
  refine v_callSPi (st := []) C (kX12_isYear _ hw) mM_X12_160 mI_X12 mC_X12_isYear mT_X12_isYear hd_X12_isYear ⟨Nat.le_of_ble_eq_true rfl, Nat.le_of_ble_eq_true rfl⟩ ⟨Nat.le_of_ble_eq_true rfl, Nat.le_of_ble_eq_true rfl⟩ rfl (Nat.le_of_ble_eq_true rfl) dX12_alikes_1 (fun r1 U1 hw => ?_)
  obtain ⟨h01_1, hw⟩ := hw
  have hw := hw h01_1
  refine v_if_ne (tgt := 10) C dX12_alikes_4 (by decide) (fun hc => ?_) (fun hc => ?_)
  · have hw := hw.1 hc
    refine v_iconst (v := 0) C dX12_alikes_10 (by decide) ?_
    refine v_istore_n (lv' := [(2, .int 0), (0, .ref h0), (1, .int x1)]) C dX12_alikes_11 (by decide) rfl ?_
    refine v_iconst (v := 0) C dX12_alikes_12 (by decide) ?_
    refine v_istore_n (lv' := [(3, .int 0), (2, .int 0), (0, .ref h0), (1, .int x1)]) C dX12_alikes_13 (by decide) rfl ?_
    refine v_lv C (lv' := [(0, .ref h0), (1, .int x1), (2, .int 0), (3, .int 0)]) [2, 3, 1, 0] rfl ?_
    obtain ⟨n', hw⟩ := hw
    exact jX12_alikes_14 h0 a0 Q C hret n' u0 x1 0 0 hw
  · have hw := hw.2 hc
    refine v_bipush (v := (-2)) C dX12_alikes_7 (by decide) ?_
    exact hret _ _ _ _ ((-2)) u0 dX12_alikes_9 rfl hw (Nat.le_of_ble_eq_true rfl) (Nat.le_of_ble_eq_true rfl)
