set_option maxHeartbeats 4000000 in
set_option maxRecDepth 100000 in
theorem jX12_looks_112 {X : VX} {E : VE} {l : Launch} (h0 : Nat) (a0 : Nat → Nat)  (Q : Md → Prop) (C : VC X cX12_looks 3 RX12 (rmL 1 0 0) E l) (hret : RetV X cX12_looks 0 0 (fun (U : Md) => [wX12 E h0 a0 U].flatten) (fun (U : Md) => Q U))  : ∀ (n : Nat), ∀ (u0 : Md) (y1 : Int32) (y2 : Int32), qX12_looks_112 Q n u0 y1 y2 → VV X 0 0 ([wX12 E h0 a0 u0].flatten) [(0, .ref h0), (1, .int y1), (2, .int y2)] 112 [] := by
  intro n
  induction n with
  | zero =>
    intro u0 y1 y2 hw
    exact hw.elim
  | succ n ih =>
    intro u0 y1 y2 hw
    unfold qX12_looks_112 at hw
    refine v_iload_n C dX12_looks_112 2 rfl ?_
    refine v_aload_n C dX12_looks_113 0 rfl ?_
    refine v_get (ci := 12) C inT12 0 1 rfl rfl (by decide) mF_X12_9_X12_1 rfl dX12_looks_114 ?_
    refine v_bipush (v := 6) C dX12_looks_117 (by decide) ?_
    obtain ⟨hi119, hw⟩ := hw
    refine v_iald C 1 rfl hi119 dX12_looks_119 ?_
    refine v_icmp_ge (tgt := 195) C dX12_looks_120 (by decide) (fun hc => ?_) (fun hc => ?_)
    · have hw := hw.1 hc
      refine v_aload_n C dX12_looks_195 0 rfl ?_
      refine v_callFv (st := []) (ci := 12) (qb := 0) C (kX12_addsUp h0 a0 _ hw) mM_X12_144 mI_X12 mC_X12_addsUp mN_X12_addsUp mS_X12_addsUp rfl rfl hd_X12_addsUp ⟨Nat.le_of_ble_eq_true rfl, Nat.le_of_ble_eq_true rfl⟩ ⟨Nat.le_of_ble_eq_true rfl, Nat.le_of_ble_eq_true rfl⟩ rfl (Nat.le_of_ble_eq_true rfl) dX12_looks_196 (fun v196_0 hw => ?_)
      exact hret _ _ _ _ v196_0 dX12_looks_199 hw (Nat.le_of_ble_eq_true rfl) (Nat.le_of_ble_eq_true rfl)
    · have hw := hw.2 hc
      refine v_aload_n C dX12_looks_123 0 rfl ?_
      refine v_get (ci := 12) C inT12 0 1 rfl rfl (by decide) mF_X12_9_X12_1 rfl dX12_looks_124 ?_
      refine v_sipush (v := 6690) C dX12_looks_127 (by decide) ?_
      refine v_iconst (v := 4) C dX12_looks_130 (by decide) ?_
      refine v_iload_n C dX12_looks_131 2 rfl ?_
      refine v_imul C dX12_looks_132 ?_
      refine v_iadd C dX12_looks_133 ?_
      refine v_iconst (v := 3) C dX12_looks_134 (by decide) ?_
      refine v_iadd C dX12_looks_135 ?_
      obtain ⟨hi136, hw⟩ := hw
      refine v_iald C 1 rfl hi136 dX12_looks_136 ?_
      refine v_iload_n C dX12_looks_137 1 rfl ?_
      refine v_icmp_gt (tgt := 189) C dX12_looks_138 (by decide) (fun hc => ?_) (fun hc => ?_)
      · have hw := hw.1 hc
        refine v_iinc (lv' := [(2, .int (y2 + Int32.ofInt 1)), (0, .ref h0), (1, .int y1)]) C dX12_looks_189 2 rfl (by decide) rfl ?_
        refine v_goto (tgt := 112) C dX12_looks_192 (by decide) ?_
        refine v_lv C (lv' := [(0, .ref h0), (1, .int y1), (2, .int (y2 + Int32.ofInt 1))]) [1, 2, 0] rfl ?_
        exact ih u0 y1 (y2 + Int32.ofInt 1) hw
      · have hw := hw.2 hc
        refine v_aload_n C dX12_looks_141 0 rfl ?_
        refine v_get (ci := 12) C inT12 0 8 rfl rfl (by decide) mF_X12_31_X12_8 rfl dX12_looks_142 ?_
        refine v_iconst (v := 3) C dX12_looks_145 (by decide) ?_
        refine v_aload_n C dX12_looks_146 0 rfl ?_
        refine v_get (ci := 12) C inT12 0 1 rfl rfl (by decide) mF_X12_9_X12_1 rfl dX12_looks_147 ?_
        refine v_sipush (v := 6690) C dX12_looks_150 (by decide) ?_
        refine v_iconst (v := 4) C dX12_looks_153 (by decide) ?_
        refine v_iload_n C dX12_looks_154 2 rfl ?_
        refine v_imul C dX12_looks_155 ?_
        refine v_iadd C dX12_looks_156 ?_
        obtain ⟨hi157, hw⟩ := hw
        refine v_iald C 1 rfl hi157 dX12_looks_157 ?_
        refine v_imul C dX12_looks_158 ?_
        refine v_aload_n C dX12_looks_159 0 rfl ?_
        refine v_get (ci := 12) C inT12 0 1 rfl rfl (by decide) mF_X12_9_X12_1 rfl dX12_looks_160 ?_
        refine v_sipush (v := 6690) C dX12_looks_163 (by decide) ?_
        refine v_iconst (v := 4) C dX12_looks_166 (by decide) ?_
        refine v_iload_n C dX12_looks_167 2 rfl ?_
        refine v_imul C dX12_looks_168 ?_
        refine v_iadd C dX12_looks_169 ?_
        refine v_iconst (v := 1) C dX12_looks_170 (by decide) ?_
        refine v_iadd C dX12_looks_171 ?_
        obtain ⟨hi172, hw⟩ := hw
        refine v_iald C 1 rfl hi172 dX12_looks_172 ?_
        refine v_iadd C dX12_looks_173 ?_
        refine v_aload_n C dX12_looks_174 0 rfl ?_
        refine v_get (ci := 12) C inT12 0 1 rfl rfl (by decide) mF_X12_9_X12_1 rfl dX12_looks_175 ?_
        refine v_sipush (v := 6690) C dX12_looks_178 (by decide) ?_
        refine v_iconst (v := 4) C dX12_looks_181 (by decide) ?_
        refine v_iload_n C dX12_looks_182 2 rfl ?_
        refine v_imul C dX12_looks_183 ?_
        refine v_iadd C dX12_looks_184 ?_
        refine v_iconst (v := 2) C dX12_looks_185 (by decide) ?_
        refine v_iadd C dX12_looks_186 ?_
        obtain ⟨hi187, hw⟩ := hw
        refine v_iald C 1 rfl hi187 dX12_looks_187 ?_
        obtain ⟨hi188, hw⟩ := hw
        obtain ⟨w188, e188⟩ : ∃ z : Md, z = tA u0 8 ((3 * (gA u0 1 (6690 + (4 * y2)).toNatClampNeg)) + (gA u0 1 ((6690 + (4 * y2)) + 1).toNatClampNeg)) (gA u0 1 ((6690 + (4 * y2)) + 2).toNatClampNeg) := ⟨_, rfl⟩
        have hw := hw w188 e188
        refine v_iast (ws' := [wX12 E h0 a0 w188].flatten) C 7 rfl hi188 (by rw [e188]; rfl) dX12_looks_188 ?_
        refine v_iinc (lv' := [(2, .int (y2 + Int32.ofInt 1)), (0, .ref h0), (1, .int y1)]) C dX12_looks_189 2 rfl (by decide) rfl ?_
        refine v_goto (tgt := 112) C dX12_looks_192 (by decide) ?_
        refine v_lv C (lv' := [(0, .ref h0), (1, .int y1), (2, .int (y2 + Int32.ofInt 1))]) [1, 2, 0] rfl ?_
        exact ih w188 y1 (y2 + Int32.ofInt 1) hw
set_option maxHeartbeats 4000000 in
set_option maxRecDepth 100000 in
theorem jX12_looks_44 {X : VX} {E : VE} {l : Launch} (h0 : Nat) (a0 : Nat → Nat)  (Q : Md → Prop) (C : VC X cX12_looks 3 RX12 (rmL 1 0 0) E l) (hret : RetV X cX12_looks 0 0 (fun (U : Md) => [wX12 E h0 a0 U].flatten) (fun (U : Md) => Q U))  : ∀ (n : Nat), ∀ (u0 : Md) (y1 : Int32) (y2 : Int32), qX12_looks_44 Q n u0 y1 y2 → VV X 0 0 ([wX12 E h0 a0 u0].flatten) [(0, .ref h0), (1, .int y1), (2, .int y2)] 44 [] := by
  intro n
  induction n with
  | zero =>
    intro u0 y1 y2 hw
    exact hw.elim
  | succ n ih =>
    intro u0 y1 y2 hw
    unfold qX12_looks_44 at hw
    refine v_iload_n C dX12_looks_44 2 rfl ?_
    refine v_aload_n C dX12_looks_45 0 rfl ?_
    refine v_get (ci := 12) C inT12 0 1 rfl rfl (by decide) mF_X12_9_X12_1 rfl dX12_looks_46 ?_
    refine v_bipush (v := 8) C dX12_looks_49 (by decide) ?_
    obtain ⟨hi51, hw⟩ := hw
    refine v_iald C 1 rfl hi51 dX12_looks_51 ?_
    refine v_icmp_ge (tgt := 110) C dX12_looks_52 (by decide) (fun hc => ?_) (fun hc => ?_)
    · have hw := hw.1 hc
      refine v_iconst (v := 0) C dX12_looks_110 (by decide) ?_
      refine v_istore_n (lv' := [(2, .int 0), (0, .ref h0), (1, .int y1)]) C dX12_looks_111 (by decide) rfl ?_
      refine v_lv C (lv' := [(0, .ref h0), (1, .int y1), (2, .int 0)]) [1, 2, 0] rfl ?_
      obtain ⟨n', hw⟩ := hw
      exact jX12_looks_112 h0 a0 Q C hret n' u0 y1 0 hw
    · have hw := hw.2 hc
      refine v_aload_n C dX12_looks_55 0 rfl ?_
      refine v_get (ci := 12) C inT12 0 1 rfl rfl (by decide) mF_X12_9_X12_1 rfl dX12_looks_56 ?_
      refine v_sipush (v := 7610) C dX12_looks_59 (by decide) ?_
      refine v_iconst (v := 3) C dX12_looks_62 (by decide) ?_
      refine v_iload_n C dX12_looks_63 2 rfl ?_
      refine v_imul C dX12_looks_64 ?_
      refine v_iadd C dX12_looks_65 ?_
      refine v_iconst (v := 2) C dX12_looks_66 (by decide) ?_
      refine v_iadd C dX12_looks_67 ?_
      obtain ⟨hi68, hw⟩ := hw
      refine v_iald C 1 rfl hi68 dX12_looks_68 ?_
      refine v_iload_n C dX12_looks_69 1 rfl ?_
      refine v_icmp_gt (tgt := 104) C dX12_looks_70 (by decide) (fun hc => ?_) (fun hc => ?_)
      · have hw := hw.1 hc
        refine v_iinc (lv' := [(2, .int (y2 + Int32.ofInt 1)), (0, .ref h0), (1, .int y1)]) C dX12_looks_104 2 rfl (by decide) rfl ?_
        refine v_goto (tgt := 44) C dX12_looks_107 (by decide) ?_
        refine v_lv C (lv' := [(0, .ref h0), (1, .int y1), (2, .int (y2 + Int32.ofInt 1))]) [1, 2, 0] rfl ?_
        exact ih u0 y1 (y2 + Int32.ofInt 1) hw
      · have hw := hw.2 hc
        refine v_aload_n C dX12_looks_73 0 rfl ?_
        refine v_get (ci := 12) C inT12 0 7 rfl rfl (by decide) mF_X12_28_X12_7 rfl dX12_looks_74 ?_
        refine v_aload_n C dX12_looks_77 0 rfl ?_
        refine v_get (ci := 12) C inT12 0 1 rfl rfl (by decide) mF_X12_9_X12_1 rfl dX12_looks_78 ?_
        refine v_sipush (v := 7610) C dX12_looks_81 (by decide) ?_
        refine v_iconst (v := 3) C dX12_looks_84 (by decide) ?_
        refine v_iload_n C dX12_looks_85 2 rfl ?_
        refine v_imul C dX12_looks_86 ?_
        refine v_iadd C dX12_looks_87 ?_
        obtain ⟨hi88, hw⟩ := hw
        refine v_iald C 1 rfl hi88 dX12_looks_88 ?_
        refine v_aload_n C dX12_looks_89 0 rfl ?_
        refine v_get (ci := 12) C inT12 0 1 rfl rfl (by decide) mF_X12_9_X12_1 rfl dX12_looks_90 ?_
        refine v_sipush (v := 7610) C dX12_looks_93 (by decide) ?_
        refine v_iconst (v := 3) C dX12_looks_96 (by decide) ?_
        refine v_iload_n C dX12_looks_97 2 rfl ?_
        refine v_imul C dX12_looks_98 ?_
        refine v_iadd C dX12_looks_99 ?_
        refine v_iconst (v := 1) C dX12_looks_100 (by decide) ?_
        refine v_iadd C dX12_looks_101 ?_
        obtain ⟨hi102, hw⟩ := hw
        refine v_iald C 1 rfl hi102 dX12_looks_102 ?_
        obtain ⟨hi103, hw⟩ := hw
        obtain ⟨w103, e103⟩ : ∃ z : Md, z = tA u0 7 (gA u0 1 (7610 + (3 * y2)).toNatClampNeg) (gA u0 1 ((7610 + (3 * y2)) + 1).toNatClampNeg) := ⟨_, rfl⟩
        have hw := hw w103 e103
        refine v_iast (ws' := [wX12 E h0 a0 w103].flatten) C 6 rfl hi103 (by rw [e103]; rfl) dX12_looks_103 ?_
        refine v_iinc (lv' := [(2, .int (y2 + Int32.ofInt 1)), (0, .ref h0), (1, .int y1)]) C dX12_looks_104 2 rfl (by decide) rfl ?_
        refine v_goto (tgt := 44) C dX12_looks_107 (by decide) ?_
        refine v_lv C (lv' := [(0, .ref h0), (1, .int y1), (2, .int (y2 + Int32.ofInt 1))]) [1, 2, 0] rfl ?_
        exact ih w103 y1 (y2 + Int32.ofInt 1) hw
set_option maxHeartbeats 4000000 in
set_option maxRecDepth 100000 in
theorem jX12_looks_23 {X : VX} {E : VE} {l : Launch} (h0 : Nat) (a0 : Nat → Nat)  (Q : Md → Prop) (C : VC X cX12_looks 3 RX12 (rmL 1 0 0) E l) (hret : RetV X cX12_looks 0 0 (fun (U : Md) => [wX12 E h0 a0 U].flatten) (fun (U : Md) => Q U))  : ∀ (n : Nat), ∀ (u0 : Md) (y1 : Int32) (y2 : Int32), qX12_looks_23 Q n u0 y1 y2 → VV X 0 0 ([wX12 E h0 a0 u0].flatten) [(0, .ref h0), (1, .int y1), (2, .int y2)] 23 [] := by
  intro n
  induction n with
  | zero =>
    intro u0 y1 y2 hw
    exact hw.elim
  | succ n ih =>
    intro u0 y1 y2 hw
    unfold qX12_looks_23 at hw
    refine v_iload_n C dX12_looks_23 2 rfl ?_
    refine v_bipush (v := 120) C dX12_looks_24 (by decide) ?_
    refine v_icmp_ge (tgt := 42) C dX12_looks_26 (by decide) (fun hc => ?_) (fun hc => ?_)
    · have hw := hw.1 hc
      refine v_iconst (v := 0) C dX12_looks_42 (by decide) ?_
      refine v_istore_n (lv' := [(2, .int 0), (0, .ref h0), (1, .int y1)]) C dX12_looks_43 (by decide) rfl ?_
      refine v_lv C (lv' := [(0, .ref h0), (1, .int y1), (2, .int 0)]) [1, 2, 0] rfl ?_
      obtain ⟨n', hw⟩ := hw
      exact jX12_looks_44 h0 a0 Q C hret n' u0 y1 0 hw
    · have hw := hw.2 hc
      refine v_aload_n C dX12_looks_29 0 rfl ?_
      refine v_get (ci := 12) C inT12 0 8 rfl rfl (by decide) mF_X12_31_X12_8 rfl dX12_looks_30 ?_
      refine v_iload_n C dX12_looks_33 2 rfl ?_
      refine v_iconst (v := 0) C dX12_looks_34 (by decide) ?_
      obtain ⟨hi35, hw⟩ := hw
      obtain ⟨w35, e35⟩ : ∃ z : Md, z = tA u0 8 y2 0 := ⟨_, rfl⟩
      have hw := hw w35 e35
      refine v_iast (ws' := [wX12 E h0 a0 w35].flatten) C 7 rfl hi35 (by rw [e35]; rfl) dX12_looks_35 ?_
      refine v_iinc (lv' := [(2, .int (y2 + Int32.ofInt 1)), (0, .ref h0), (1, .int y1)]) C dX12_looks_36 2 rfl (by decide) rfl ?_
      refine v_goto (tgt := 23) C dX12_looks_39 (by decide) ?_
      refine v_lv C (lv' := [(0, .ref h0), (1, .int y1), (2, .int (y2 + Int32.ofInt 1))]) [1, 2, 0] rfl ?_
      exact ih w35 y1 (y2 + Int32.ofInt 1) hw
set_option maxHeartbeats 4000000 in
set_option maxRecDepth 100000 in
theorem jX12_looks_2 {X : VX} {E : VE} {l : Launch} (h0 : Nat) (a0 : Nat → Nat)  (Q : Md → Prop) (C : VC X cX12_looks 3 RX12 (rmL 1 0 0) E l) (hret : RetV X cX12_looks 0 0 (fun (U : Md) => [wX12 E h0 a0 U].flatten) (fun (U : Md) => Q U))  : ∀ (n : Nat), ∀ (u0 : Md) (y1 : Int32) (y2 : Int32), qX12_looks_2 Q n u0 y1 y2 → VV X 0 0 ([wX12 E h0 a0 u0].flatten) [(0, .ref h0), (1, .int y1), (2, .int y2)] 2 [] := by
  intro n
  induction n with
  | zero =>
    intro u0 y1 y2 hw
    exact hw.elim
  | succ n ih =>
    intro u0 y1 y2 hw
    unfold qX12_looks_2 at hw
    refine v_iload_n C dX12_looks_2 2 rfl ?_
    refine v_bipush (v := 40) C dX12_looks_3 (by decide) ?_
    refine v_icmp_ge (tgt := 21) C dX12_looks_5 (by decide) (fun hc => ?_) (fun hc => ?_)
    · have hw := hw.1 hc
      refine v_iconst (v := 0) C dX12_looks_21 (by decide) ?_
      refine v_istore_n (lv' := [(2, .int 0), (0, .ref h0), (1, .int y1)]) C dX12_looks_22 (by decide) rfl ?_
      refine v_lv C (lv' := [(0, .ref h0), (1, .int y1), (2, .int 0)]) [1, 2, 0] rfl ?_
      obtain ⟨n', hw⟩ := hw
      exact jX12_looks_23 h0 a0 Q C hret n' u0 y1 0 hw
    · have hw := hw.2 hc
      refine v_aload_n C dX12_looks_8 0 rfl ?_
      refine v_get (ci := 12) C inT12 0 7 rfl rfl (by decide) mF_X12_28_X12_7 rfl dX12_looks_9 ?_
      refine v_iload_n C dX12_looks_12 2 rfl ?_
      refine v_iconst (v := (-1)) C dX12_looks_13 (by decide) ?_
      obtain ⟨hi14, hw⟩ := hw
      obtain ⟨w14, e14⟩ : ∃ z : Md, z = tA u0 7 y2 ((-1)) := ⟨_, rfl⟩
      have hw := hw w14 e14
      refine v_iast (ws' := [wX12 E h0 a0 w14].flatten) C 6 rfl hi14 (by rw [e14]; rfl) dX12_looks_14 ?_
      refine v_iinc (lv' := [(2, .int (y2 + Int32.ofInt 1)), (0, .ref h0), (1, .int y1)]) C dX12_looks_15 2 rfl (by decide) rfl ?_
      refine v_goto (tgt := 2) C dX12_looks_18 (by decide) ?_
      refine v_lv C (lv' := [(0, .ref h0), (1, .int y1), (2, .int (y2 + Int32.ofInt 1))]) [1, 2, 0] rfl ?_
      exact ih w14 y1 (y2 + Int32.ofInt 1) hw
set_option maxHeartbeats 4000000 in
set_option maxRecDepth 100000 in
theorem kX12_looks {l : Launch} {E : VE} (h0 : Nat) (a0 : Nat → Nat) (u0 : Md) (x1 : Int32) {Q : Md → Prop} (hw : qX12_looks u0 x1 Q) : MV l yX12_looks cX12_looks 3 1 0 0 E [.ref h0, .int x1] ([wX12 E h0 a0 u0].flatten) (fun (U : Md) => [wX12 E h0 a0 U].flatten) (fun (U : Md) => Q U) := by
  refine MV.of (own := RX12) (by decide) rfl (Nat.le_of_ble_eq_true rfl) ?_
  intro X C hini hret
  show VV X 0 0 ([wX12 E h0 a0 u0].flatten) [(0, .ref h0), (1, .int x1)] 0 []
  unfold qX12_looks at hw
  refine v_iconst (v := 0) C dX12_looks_0 (by decide) ?_
  refine v_istore_n (lv' := [(2, .int 0), (0, .ref h0), (1, .int x1)]) C dX12_looks_1 (by decide) rfl ?_
  refine v_lv C (lv' := [(0, .ref h0), (1, .int x1), (2, .int 0)]) [1, 2, 0] rfl ?_
  obtain ⟨n', hw⟩ := hw
  exact jX12_looks_2 h0 a0 Q C hret n' u0 x1 0 hw
set_option maxHeartbeats 4000000 in
set_option maxRecDepth 100000 in
theorem jX12_part_39 {X : VX} {E : VE} {l : Launch} (h0 : Nat) (a0 : Nat → Nat)  (Q : Int32 → Md → Prop) (C : VC X cX12_part 4 RX12 (rmL 2 0 0) E l) (hret : RetI X cX12_part .int 0 0 (fun (U : Md) => [wX12 E h0 a0 U].flatten) (fun (r : Int32) (U : Md) => Q r U))  : ∀ (n : Nat), ∀ (u0 : Md) (y1 : Int32) (y2 : Int32) (y3 : Int32), qX12_part_39 Q n u0 y1 y2 y3 → VV X 0 0 ([wX12 E h0 a0 u0].flatten) [(0, .ref h0), (1, .int y1), (2, .int y2), (3, .int y3)] 39 [] := by
  intro n
  induction n with
  | zero =>
    intro u0 y1 y2 y3 hw
    exact hw.elim
  | succ n ih =>
    intro u0 y1 y2 y3 hw
    unfold qX12_part_39 at hw
    refine v_iload_n C dX12_part_39 3 rfl ?_
    refine v_iconst (v := (-1)) C dX12_part_40 (by decide) ?_
    refine v_icmp_eq (tgt := 62) C dX12_part_41 (by decide) (fun hc => ?_) (fun hc => ?_)
    · have hw := hw.1 hc
      refine v_sipush (v := 7610) C dX12_part_62 (by decide) ?_
      refine v_iconst (v := 3) C dX12_part_65 (by decide) ?_
      refine v_aload_n C dX12_part_66 0 rfl ?_
      refine v_get (ci := 12) C inT12 0 1 rfl rfl (by decide) mF_X12_9_X12_1 rfl dX12_part_67 ?_
      refine v_bipush (v := 8) C dX12_part_70 (by decide) ?_
      obtain ⟨hi72, hw⟩ := hw
      refine v_iald C 1 rfl hi72 dX12_part_72 ?_
      refine v_imul C dX12_part_73 ?_
      refine v_iadd C dX12_part_74 ?_
      refine v_istore_n (lv' := [(3, .int (7610 + (3 * (gA u0 1 (8 : Int32).toNatClampNeg)))), (0, .ref h0), (1, .int y1), (2, .int y2)]) C dX12_part_75 (by decide) rfl ?_
      refine v_aload_n C dX12_part_76 1 rfl ?_
      refine v_get (ci := 12) C inT12 0 1 rfl rfl (by decide) mF_X12_9_X12_1 rfl dX12_part_77 ?_
      refine v_iload_n C dX12_part_80 0 rfl ?_
      refine v_iload_n C dX12_part_81 2 rfl ?_
      obtain ⟨hi82, hw⟩ := hw
      obtain ⟨w82, e82⟩ : ∃ z : Md, z = tA u0 1 (7610 + (3 * (gA u0 1 (8 : Int32).toNatClampNeg))) y1 := ⟨_, rfl⟩
      have hw := hw w82 e82
      refine v_iast (ws' := [wX12 E h0 a0 w82].flatten) C 1 rfl hi82 (by rw [e82]; rfl) dX12_part_82 ?_
      refine v_aload_n C dX12_part_83 1 rfl ?_
      refine v_get (ci := 12) C inT12 0 1 rfl rfl (by decide) mF_X12_9_X12_1 rfl dX12_part_84 ?_
      refine v_iload_n C dX12_part_87 0 rfl ?_
      refine v_iconst (v := 1) C dX12_part_88 (by decide) ?_
      refine v_iadd C dX12_part_89 ?_
      refine v_iload_n C dX12_part_90 3 rfl ?_
      obtain ⟨hi91, hw⟩ := hw
      obtain ⟨w91, e91⟩ : ∃ z : Md, z = tA w82 1 ((7610 + (3 * (gA u0 1 (8 : Int32).toNatClampNeg))) + 1) y2 := ⟨_, rfl⟩
      have hw := hw w91 e91
      refine v_iast (ws' := [wX12 E h0 a0 w91].flatten) C 1 rfl hi91 (by rw [e91]; rfl) dX12_part_91 ?_
      refine v_aload_n C dX12_part_92 1 rfl ?_
      refine v_get (ci := 12) C inT12 0 1 rfl rfl (by decide) mF_X12_9_X12_1 rfl dX12_part_93 ?_
      refine v_iload_n C dX12_part_96 0 rfl ?_
      refine v_iconst (v := 2) C dX12_part_97 (by decide) ?_
      refine v_iadd C dX12_part_98 ?_
      refine v_aload_n C dX12_part_99 1 rfl ?_
      refine v_callFi (st := [.int ((7610 + (3 * (gA u0 1 (8 : Int32).toNatClampNeg))) + 2), .ref ((a0 1))]) (ci := 12) (qb := 0) C (kX12_now h0 a0 _ hw) mM_X12_138 mI_X12 mC_X12_now mN_X12_now mS_X12_now rfl rfl hd_X12_now ⟨Nat.le_of_ble_eq_true rfl, Nat.le_of_ble_eq_true rfl⟩ ⟨Nat.le_of_ble_eq_true rfl, Nat.le_of_ble_eq_true rfl⟩ rfl (Nat.le_of_ble_eq_true rfl) dX12_part_100 (fun r100 v100_0 hw => ?_)
      obtain ⟨hi103, hw⟩ := hw
      obtain ⟨w103, e103⟩ : ∃ z : Md, z = tA v100_0 1 ((7610 + (3 * (gA u0 1 (8 : Int32).toNatClampNeg))) + 2) r100 := ⟨_, rfl⟩
      have hw := hw w103 e103
      refine v_iast (ws' := [wX12 E h0 a0 w103].flatten) C 1 rfl hi103 (by rw [e103]; rfl) dX12_part_103 ?_
      refine v_aload_n C dX12_part_104 1 rfl ?_
      refine v_get (ci := 12) C inT12 0 1 rfl rfl (by decide) mF_X12_9_X12_1 rfl dX12_part_105 ?_
      refine v_bipush (v := 8) C dX12_part_108 (by decide) ?_
      refine v_dup2 C dX12_part_110 rfl rfl ?_
      obtain ⟨hi111, hw⟩ := hw
      refine v_iald C 1 rfl hi111 dX12_part_111 ?_
      refine v_iconst (v := 1) C dX12_part_112 (by decide) ?_
      refine v_iadd C dX12_part_113 ?_
      obtain ⟨hi114, hw⟩ := hw
      obtain ⟨w114, e114⟩ : ∃ z : Md, z = tA w103 1 8 ((gA w103 1 (8 : Int32).toNatClampNeg) + 1) := ⟨_, rfl⟩
      have hw := hw w114 e114
      refine v_iast (ws' := [wX12 E h0 a0 w114].flatten) C 1 rfl hi114 (by rw [e114]; rfl) dX12_part_114 ?_
      refine v_iconst (v := 0) C dX12_part_115 (by decide) ?_
      exact hret _ _ _ _ 0 w114 dX12_part_116 rfl hw (Nat.le_of_ble_eq_true rfl) (Nat.le_of_ble_eq_true rfl)
    · have hw := hw.2 hc
      refine v_iload_n C dX12_part_44 3 rfl ?_
      refine v_iload_n C dX12_part_45 1 rfl ?_
      refine v_icmp_ne (tgt := 52) C dX12_part_46 (by decide) (fun hc => ?_) (fun hc => ?_)
      · have hw := hw.1 hc
        refine v_aload_n C dX12_part_52 0 rfl ?_
        refine v_get (ci := 12) C inT12 0 7 rfl rfl (by decide) mF_X12_28_X12_7 rfl dX12_part_53 ?_
        refine v_iload_n C dX12_part_56 3 rfl ?_
        obtain ⟨hi57, hw⟩ := hw
        refine v_iald C 6 rfl hi57 dX12_part_57 ?_
        refine v_istore_n (lv' := [(3, .int (gA u0 7 y3.toNatClampNeg)), (0, .ref h0), (1, .int y1), (2, .int y2)]) C dX12_part_58 (by decide) rfl ?_
        refine v_goto (tgt := 39) C dX12_part_59 (by decide) ?_
        refine v_lv C (lv' := [(0, .ref h0), (1, .int y1), (2, .int y2), (3, .int (gA u0 7 y3.toNatClampNeg))]) [1, 2, 3, 0] rfl ?_
        exact ih u0 y1 y2 (gA u0 7 y3.toNatClampNeg) hw
      · have hw := hw.2 hc
        refine v_bipush (v := (-5)) C dX12_part_49 (by decide) ?_
        exact hret _ _ _ _ ((-5)) u0 dX12_part_51 rfl hw (Nat.le_of_ble_eq_true rfl) (Nat.le_of_ble_eq_true rfl)
set_option maxHeartbeats 4000000 in
set_option maxRecDepth 100000 in
theorem jX12_part_21 {X : VX} {E : VE} {l : Launch} (h0 : Nat) (a0 : Nat → Nat)  (Q : Int32 → Md → Prop) (C : VC X cX12_part 4 RX12 (rmL 2 0 0) E l) (hret : RetI X cX12_part .int 0 0 (fun (U : Md) => [wX12 E h0 a0 U].flatten) (fun (r : Int32) (U : Md) => Q r U))  : ∀ (u0 : Md) (y1 : Int32) (y2 : Int32), qX12_part_21 Q u0 y1 y2 → VV X 0 0 ([wX12 E h0 a0 u0].flatten) [(0, .ref h0), (1, .int y1), (2, .int y2)] 21 [] := by
  intro u0 y1 y2 hw
  unfold qX12_part_21 at hw
  refine v_iload_n C dX12_part_21 1 rfl ?_
  refine v_iload_n C dX12_part_22 2 rfl ?_
  refine v_icmp_ne (tgt := 29) C dX12_part_23 (by decide) (fun hc => ?_) (fun hc => ?_)
  · have hw := hw.1 hc
    refine v_aload_n C dX12_part_29 0 rfl ?_
    refine v_aload_n C dX12_part_30 0 rfl ?_
    refine v_callFi (st := [.ref h0]) (ci := 12) (qb := 0) C (kX12_now h0 a0 _ hw) mM_X12_138 mI_X12 mC_X12_now mN_X12_now mS_X12_now rfl rfl hd_X12_now ⟨Nat.le_of_ble_eq_true rfl, Nat.le_of_ble_eq_true rfl⟩ ⟨Nat.le_of_ble_eq_true rfl, Nat.le_of_ble_eq_true rfl⟩ rfl (Nat.le_of_ble_eq_true rfl) dX12_part_31 (fun r31 v31_0 hw => ?_)
    refine v_callFv (st := []) (ci := 12) (qb := 0) C (kX12_looks h0 a0 _ _ hw) mM_X12_151 mI_X12 mC_X12_looks mN_X12_looks mS_X12_looks rfl rfl hd_X12_looks ⟨Nat.le_of_ble_eq_true rfl, Nat.le_of_ble_eq_true rfl⟩ ⟨Nat.le_of_ble_eq_true rfl, Nat.le_of_ble_eq_true rfl⟩ rfl (Nat.le_of_ble_eq_true rfl) dX12_part_34 (fun v34_0 hw => ?_)
    refine v_iload_n C dX12_part_37 2 rfl ?_
    refine v_istore_n (lv' := [(3, .int y2), (0, .ref h0), (1, .int y1), (2, .int y2)]) C dX12_part_38 (by decide) rfl ?_
    refine v_lv C (lv' := [(0, .ref h0), (1, .int y1), (2, .int y2), (3, .int y2)]) [1, 2, 3, 0] rfl ?_
    obtain ⟨n', hw⟩ := hw
    exact jX12_part_39 h0 a0 Q C hret n' v34_0 y1 y2 y2 hw
  · have hw := hw.2 hc
    refine v_bipush (v := (-2)) C dX12_part_26 (by decide) ?_
    exact hret _ _ _ _ ((-2)) u0 dX12_part_28 rfl hw (Nat.le_of_ble_eq_true rfl) (Nat.le_of_ble_eq_true rfl)
set_option maxHeartbeats 4000000 in
set_option maxRecDepth 100000 in
theorem kX12_part {l : Launch} {E : VE} (h0 : Nat) (a0 : Nat → Nat) (u0 : Md) (x1 : Int32) (x2 : Int32) {Q : Int32 → Md → Prop} (hw : qX12_part u0 x1 x2 Q) : MI l yX12_part cX12_part 4 .int 2 0 0 E [.ref h0, .int x1, .int x2] ([wX12 E h0 a0 u0].flatten) (fun (U : Md) => [wX12 E h0 a0 U].flatten) (fun (r : Int32) (U : Md) => Q r U) := by
  refine MI.of (own := RX12) (by decide) rfl (Nat.le_of_ble_eq_true rfl) ?_
  intro X C hini hret
  show VV X 0 0 ([wX12 E h0 a0 u0].flatten) [(0, .ref h0), (1, .int x1), (2, .int x2)] 0 []
  unfold qX12_part at hw
  refine v_aload_n C dX12_part_0 0 rfl ?_
  refine v_iload_n C dX12_part_1 1 rfl ?_
  refine v_callFi (st := []) (ci := 12) (qb := 0) C (kX12_isPlace h0 a0 _ _ hw) mM_X12_147 mI_X12 mC_X12_isPlace mN_X12_isPlace mS_X12_isPlace rfl rfl hd_X12_isPlace ⟨Nat.le_of_ble_eq_true rfl, Nat.le_of_ble_eq_true rfl⟩ ⟨Nat.le_of_ble_eq_true rfl, Nat.le_of_ble_eq_true rfl⟩ rfl (Nat.le_of_ble_eq_true rfl) dX12_part_2 (fun r2 v2_0 hw => ?_)
  obtain ⟨h01_2, hw⟩ := hw
  have hw := hw h01_2
  refine v_if_eq (tgt := 26) C dX12_part_5 (by decide) (fun hc => ?_) (fun hc => ?_)
  · have hw := hw.1 hc
    refine v_bipush (v := (-2)) C dX12_part_26 (by decide) ?_
    exact hret _ _ _ _ ((-2)) v2_0 dX12_part_28 rfl hw (Nat.le_of_ble_eq_true rfl) (Nat.le_of_ble_eq_true rfl)
  · have hw := hw.2 hc
    refine v_iload_n C dX12_part_8 2 rfl ?_
    refine v_iconst (v := (-1)) C dX12_part_9 (by decide) ?_
    refine v_icmp_eq (tgt := 21) C dX12_part_10 (by decide) (fun hc => ?_) (fun hc => ?_)
    · have hw := hw.1 hc
      exact jX12_part_21 h0 a0 Q C hret v2_0 x1 x2 hw
    · have hw := hw.2 hc
      refine v_aload_n C dX12_part_13 0 rfl ?_
      refine v_iload_n C dX12_part_14 2 rfl ?_
      refine v_callFi (st := []) (ci := 12) (qb := 0) C (kX12_isPlace h0 a0 _ _ hw) mM_X12_147 mI_X12 mC_X12_isPlace mN_X12_isPlace mS_X12_isPlace rfl rfl hd_X12_isPlace ⟨Nat.le_of_ble_eq_true rfl, Nat.le_of_ble_eq_true rfl⟩ ⟨Nat.le_of_ble_eq_true rfl, Nat.le_of_ble_eq_true rfl⟩ rfl (Nat.le_of_ble_eq_true rfl) dX12_part_15 (fun r15 v15_0 hw => ?_)
      obtain ⟨h01_15, hw⟩ := hw
      have hw := hw h01_15
      refine v_if_eq (tgt := 26) C dX12_part_18 (by decide) (fun hc => ?_) (fun hc => ?_)
      · have hw := hw.1 hc
        refine v_bipush (v := (-2)) C dX12_part_26 (by decide) ?_
        exact hret _ _ _ _ ((-2)) v15_0 dX12_part_28 rfl hw (Nat.le_of_ble_eq_true rfl) (Nat.le_of_ble_eq_true rfl)
      · have hw := hw.2 hc
        exact jX12_part_21 h0 a0 Q C hret v15_0 x1 x2 hw
set_option maxHeartbeats 4000000 in
set_option maxRecDepth 100000 in
theorem jX12_people_35 {X : VX} {E : VE} {l : Launch} (h0 : Nat) (a0 : Nat → Nat)  (Q : Int32 → Md → Prop) (C : VC X cX12_people 5 RX12 (rmL 2 0 0) E l) (hret : RetI X cX12_people .int 0 0 (fun (U : Md) => [wX12 E h0 a0 U].flatten) (fun (r : Int32) (U : Md) => Q r U))  : ∀ (n : Nat), ∀ (u0 : Md) (y1 : Int32) (y2 : Int32) (y3 : Int32) (y4 : Int32), qX12_people_35 Q n u0 y1 y2 y3 y4 → VV X 0 0 ([wX12 E h0 a0 u0].flatten) [(0, .ref h0), (1, .int y1), (2, .int y2), (3, .int y3), (4, .int y4)] 35 [] := by
  intro n
  induction n with
  | zero =>
    intro u0 y1 y2 y3 y4 hw
    exact hw.elim
  | succ n ih =>
    intro u0 y1 y2 y3 y4 hw
    unfold qX12_people_35 at hw
    refine v_iload C dX12_people_35 4 rfl ?_
    refine v_sipush (v := 6690) C dX12_people_37 (by decide) ?_
    refine v_iconst (v := 4) C dX12_people_40 (by decide) ?_
    refine v_aload_n C dX12_people_41 0 rfl ?_
    refine v_get (ci := 12) C inT12 0 1 rfl rfl (by decide) mF_X12_9_X12_1 rfl dX12_people_42 ?_
    refine v_bipush (v := 6) C dX12_people_45 (by decide) ?_
    obtain ⟨hi47, hw⟩ := hw
    refine v_iald C 1 rfl hi47 dX12_people_47 ?_
    refine v_imul C dX12_people_48 ?_
    refine v_iadd C dX12_people_49 ?_
    refine v_icmp_ge (tgt := 114) C dX12_people_50 (by decide) (fun hc => ?_) (fun hc => ?_)
    · have hw := hw.1 hc
      refine v_aload_n C dX12_people_114 0 rfl ?_
      refine v_get (ci := 12) C inT12 0 1 rfl rfl (by decide) mF_X12_9_X12_1 rfl dX12_people_115 ?_
      refine v_bipush (v := 6) C dX12_people_118 (by decide) ?_
      obtain ⟨hi120, hw⟩ := hw
      refine v_iald C 1 rfl hi120 dX12_people_120 ?_
      refine v_sipush (v := 200) C dX12_people_121 (by decide) ?_
      refine v_icmp_ne (tgt := 130) C dX12_people_124 (by decide) (fun hc => ?_) (fun hc => ?_)
      · have hw := hw.1 hc
        refine v_sipush (v := 6690) C dX12_people_130 (by decide) ?_
        refine v_iconst (v := 4) C dX12_people_133 (by decide) ?_
        refine v_aload_n C dX12_people_134 0 rfl ?_
        refine v_get (ci := 12) C inT12 0 1 rfl rfl (by decide) mF_X12_9_X12_1 rfl dX12_people_135 ?_
        refine v_bipush (v := 6) C dX12_people_138 (by decide) ?_
        obtain ⟨hi140, hw⟩ := hw
        refine v_iald C 1 rfl hi140 dX12_people_140 ?_
        refine v_imul C dX12_people_141 ?_
        refine v_iadd C dX12_people_142 ?_
        refine v_istore (lv' := [(4, .int (6690 + (4 * (gA u0 1 (6 : Int32).toNatClampNeg)))), (0, .ref h0), (1, .int y1), (2, .int y2), (3, .int y3)]) C dX12_people_143 (by decide) rfl ?_
        refine v_aload_n C dX12_people_145 1 rfl ?_
        refine v_get (ci := 12) C inT12 0 1 rfl rfl (by decide) mF_X12_9_X12_1 rfl dX12_people_146 ?_
        refine v_iload C dX12_people_149 0 rfl ?_
        refine v_iload_n C dX12_people_151 2 rfl ?_
        obtain ⟨hi152, hw⟩ := hw
        obtain ⟨w152, e152⟩ : ∃ z : Md, z = tA u0 1 (6690 + (4 * (gA u0 1 (6 : Int32).toNatClampNeg))) y1 := ⟨_, rfl⟩
        have hw := hw w152 e152
        refine v_iast (ws' := [wX12 E h0 a0 w152].flatten) C 1 rfl hi152 (by rw [e152]; rfl) dX12_people_152 ?_
        refine v_aload_n C dX12_people_153 1 rfl ?_
        refine v_get (ci := 12) C inT12 0 1 rfl rfl (by decide) mF_X12_9_X12_1 rfl dX12_people_154 ?_
        refine v_iload C dX12_people_157 0 rfl ?_
        refine v_iconst (v := 1) C dX12_people_159 (by decide) ?_
        refine v_iadd C dX12_people_160 ?_
        refine v_iload_n C dX12_people_161 3 rfl ?_
        obtain ⟨hi162, hw⟩ := hw
        obtain ⟨w162, e162⟩ : ∃ z : Md, z = tA w152 1 ((6690 + (4 * (gA u0 1 (6 : Int32).toNatClampNeg))) + 1) y2 := ⟨_, rfl⟩
        have hw := hw w162 e162
        refine v_iast (ws' := [wX12 E h0 a0 w162].flatten) C 1 rfl hi162 (by rw [e162]; rfl) dX12_people_162 ?_
        refine v_aload_n C dX12_people_163 1 rfl ?_
        refine v_get (ci := 12) C inT12 0 1 rfl rfl (by decide) mF_X12_9_X12_1 rfl dX12_people_164 ?_
        refine v_iload C dX12_people_167 0 rfl ?_
        refine v_iconst (v := 2) C dX12_people_169 (by decide) ?_
        refine v_iadd C dX12_people_170 ?_
        refine v_iload_n C dX12_people_171 4 rfl ?_
        obtain ⟨hi172, hw⟩ := hw
        obtain ⟨w172, e172⟩ : ∃ z : Md, z = tA w162 1 ((6690 + (4 * (gA u0 1 (6 : Int32).toNatClampNeg))) + 2) y3 := ⟨_, rfl⟩
        have hw := hw w172 e172
        refine v_iast (ws' := [wX12 E h0 a0 w172].flatten) C 1 rfl hi172 (by rw [e172]; rfl) dX12_people_172 ?_
        refine v_aload_n C dX12_people_173 1 rfl ?_
        refine v_get (ci := 12) C inT12 0 1 rfl rfl (by decide) mF_X12_9_X12_1 rfl dX12_people_174 ?_
        refine v_iload C dX12_people_177 0 rfl ?_
        refine v_iconst (v := 3) C dX12_people_179 (by decide) ?_
        refine v_iadd C dX12_people_180 ?_
        refine v_aload_n C dX12_people_181 1 rfl ?_
        refine v_callFi (st := [.int ((6690 + (4 * (gA u0 1 (6 : Int32).toNatClampNeg))) + 3), .ref ((a0 1))]) (ci := 12) (qb := 0) C (kX12_now h0 a0 _ hw) mM_X12_138 mI_X12 mC_X12_now mN_X12_now mS_X12_now rfl rfl hd_X12_now ⟨Nat.le_of_ble_eq_true rfl, Nat.le_of_ble_eq_true rfl⟩ ⟨Nat.le_of_ble_eq_true rfl, Nat.le_of_ble_eq_true rfl⟩ rfl (Nat.le_of_ble_eq_true rfl) dX12_people_182 (fun r182 v182_0 hw => ?_)
        obtain ⟨hi185, hw⟩ := hw
        obtain ⟨w185, e185⟩ : ∃ z : Md, z = tA v182_0 1 ((6690 + (4 * (gA u0 1 (6 : Int32).toNatClampNeg))) + 3) r182 := ⟨_, rfl⟩
        have hw := hw w185 e185
        refine v_iast (ws' := [wX12 E h0 a0 w185].flatten) C 1 rfl hi185 (by rw [e185]; rfl) dX12_people_185 ?_
        refine v_aload_n C dX12_people_186 1 rfl ?_
        refine v_get (ci := 12) C inT12 0 1 rfl rfl (by decide) mF_X12_9_X12_1 rfl dX12_people_187 ?_
        refine v_bipush (v := 6) C dX12_people_190 (by decide) ?_
        refine v_dup2 C dX12_people_192 rfl rfl ?_
        obtain ⟨hi193, hw⟩ := hw
        refine v_iald C 1 rfl hi193 dX12_people_193 ?_
        refine v_iconst (v := 1) C dX12_people_194 (by decide) ?_
        refine v_iadd C dX12_people_195 ?_
        obtain ⟨hi196, hw⟩ := hw
        obtain ⟨w196, e196⟩ : ∃ z : Md, z = tA w185 1 6 ((gA w185 1 (6 : Int32).toNatClampNeg) + 1) := ⟨_, rfl⟩
        have hw := hw w196 e196
        refine v_iast (ws' := [wX12 E h0 a0 w196].flatten) C 1 rfl hi196 (by rw [e196]; rfl) dX12_people_196 ?_
        refine v_iconst (v := 0) C dX12_people_197 (by decide) ?_
        exact hret _ _ _ _ 0 w196 dX12_people_198 rfl hw (Nat.le_of_ble_eq_true rfl) (Nat.le_of_ble_eq_true rfl)
      · have hw := hw.2 hc
        refine v_bipush (v := (-3)) C dX12_people_127 (by decide) ?_
        exact hret _ _ _ _ ((-3)) u0 dX12_people_129 rfl hw (Nat.le_of_ble_eq_true rfl) (Nat.le_of_ble_eq_true rfl)
    · have hw := hw.2 hc
      refine v_aload_n C dX12_people_53 0 rfl ?_
      refine v_get (ci := 12) C inT12 0 1 rfl rfl (by decide) mF_X12_9_X12_1 rfl dX12_people_54 ?_
      refine v_iload C dX12_people_57 4 rfl ?_
      obtain ⟨hi59, hw⟩ := hw
      refine v_iald C 1 rfl hi59 dX12_people_59 ?_
      refine v_iload_n C dX12_people_60 1 rfl ?_
      refine v_icmp_ne (tgt := 108) C dX12_people_61 (by decide) (fun hc => ?_) (fun hc => ?_)
      · have hw := hw.1 hc
        refine v_iinc (lv' := [(4, .int (y4 + Int32.ofInt 4)), (0, .ref h0), (1, .int y1), (2, .int y2), (3, .int y3)]) C dX12_people_108 4 rfl (by decide) rfl ?_
        refine v_goto (tgt := 35) C dX12_people_111 (by decide) ?_
        refine v_lv C (lv' := [(0, .ref h0), (1, .int y1), (2, .int y2), (3, .int y3), (4, .int (y4 + Int32.ofInt 4))]) [1, 2, 3, 4, 0] rfl ?_
        exact ih u0 y1 y2 y3 (y4 + Int32.ofInt 4) hw
      · have hw := hw.2 hc
        refine v_aload_n C dX12_people_64 0 rfl ?_
        refine v_get (ci := 12) C inT12 0 1 rfl rfl (by decide) mF_X12_9_X12_1 rfl dX12_people_65 ?_
        refine v_iload C dX12_people_68 4 rfl ?_
        refine v_iconst (v := 1) C dX12_people_70 (by decide) ?_
        refine v_iadd C dX12_people_71 ?_
        obtain ⟨hi72, hw⟩ := hw
        refine v_iald C 1 rfl hi72 dX12_people_72 ?_
        refine v_iload_n C dX12_people_73 2 rfl ?_
        refine v_icmp_ne (tgt := 108) C dX12_people_74 (by decide) (fun hc => ?_) (fun hc => ?_)
        · have hw := hw.1 hc
          refine v_iinc (lv' := [(4, .int (y4 + Int32.ofInt 4)), (0, .ref h0), (1, .int y1), (2, .int y2), (3, .int y3)]) C dX12_people_108 4 rfl (by decide) rfl ?_
          refine v_goto (tgt := 35) C dX12_people_111 (by decide) ?_
          refine v_lv C (lv' := [(0, .ref h0), (1, .int y1), (2, .int y2), (3, .int y3), (4, .int (y4 + Int32.ofInt 4))]) [1, 2, 3, 4, 0] rfl ?_
          exact ih u0 y1 y2 y3 (y4 + Int32.ofInt 4) hw
        · have hw := hw.2 hc
          refine v_aload_n C dX12_people_77 0 rfl ?_
          refine v_get (ci := 12) C inT12 0 1 rfl rfl (by decide) mF_X12_9_X12_1 rfl dX12_people_78 ?_
          refine v_iload C dX12_people_81 4 rfl ?_
          refine v_iconst (v := 3) C dX12_people_83 (by decide) ?_
          refine v_iadd C dX12_people_84 ?_
          obtain ⟨hi85, hw⟩ := hw
          refine v_iald C 1 rfl hi85 dX12_people_85 ?_
          refine v_aload_n C dX12_people_86 0 rfl ?_
          refine v_callFi (st := [.int (gA u0 1 (y4 + 3).toNatClampNeg)]) (ci := 12) (qb := 0) C (kX12_now h0 a0 _ hw) mM_X12_138 mI_X12 mC_X12_now mN_X12_now mS_X12_now rfl rfl hd_X12_now ⟨Nat.le_of_ble_eq_true rfl, Nat.le_of_ble_eq_true rfl⟩ ⟨Nat.le_of_ble_eq_true rfl, Nat.le_of_ble_eq_true rfl⟩ rfl (Nat.le_of_ble_eq_true rfl) dX12_people_87 (fun r87 v87_0 hw => ?_)
          refine v_icmp_eq (tgt := 96) C dX12_people_90 (by decide) (fun hc => ?_) (fun hc => ?_)
          · have hw := hw.1 hc
            refine v_aload_n C dX12_people_96 0 rfl ?_
            refine v_get (ci := 12) C inT12 0 1 rfl rfl (by decide) mF_X12_9_X12_1 rfl dX12_people_97 ?_
            refine v_iload C dX12_people_100 4 rfl ?_
            refine v_iconst (v := 2) C dX12_people_102 (by decide) ?_
            refine v_iadd C dX12_people_103 ?_
            refine v_iload_n C dX12_people_104 3 rfl ?_
            obtain ⟨hi105, hw⟩ := hw
            obtain ⟨w105, e105⟩ : ∃ z : Md, z = tA v87_0 1 (y4 + 2) y3 := ⟨_, rfl⟩
            have hw := hw w105 e105
            refine v_iast (ws' := [wX12 E h0 a0 w105].flatten) C 1 rfl hi105 (by rw [e105]; rfl) dX12_people_105 ?_
            refine v_iconst (v := 0) C dX12_people_106 (by decide) ?_
            exact hret _ _ _ _ 0 w105 dX12_people_107 rfl hw (Nat.le_of_ble_eq_true rfl) (Nat.le_of_ble_eq_true rfl)
          · have hw := hw.2 hc
            refine v_goto (tgt := 108) C dX12_people_93 (by decide) ?_
            refine v_iinc (lv' := [(4, .int (y4 + Int32.ofInt 4)), (0, .ref h0), (1, .int y1), (2, .int y2), (3, .int y3)]) C dX12_people_108 4 rfl (by decide) rfl ?_
            refine v_goto (tgt := 35) C dX12_people_111 (by decide) ?_
            refine v_lv C (lv' := [(0, .ref h0), (1, .int y1), (2, .int y2), (3, .int y3), (4, .int (y4 + Int32.ofInt 4))]) [1, 2, 3, 4, 0] rfl ?_
            exact ih v87_0 y1 y2 y3 (y4 + Int32.ofInt 4) hw
set_option maxHeartbeats 4000000 in
set_option maxRecDepth 100000 in
theorem kX12_people {l : Launch} {E : VE} (h0 : Nat) (a0 : Nat → Nat) (u0 : Md) (x1 : Int32) (x2 : Int32) (x3 : Int32) {Q : Int32 → Md → Prop} (hw : qX12_people u0 x1 x2 x3 Q) : MI l yX12_people cX12_people 5 .int 2 0 0 E [.ref h0, .int x1, .int x2, .int x3] ([wX12 E h0 a0 u0].flatten) (fun (U : Md) => [wX12 E h0 a0 U].flatten) (fun (r : Int32) (U : Md) => Q r U) := by
  refine MI.of (own := RX12) (by decide) rfl (Nat.le_of_ble_eq_true rfl) ?_
  intro X C hini hret
  show VV X 0 0 ([wX12 E h0 a0 u0].flatten) [(0, .ref h0), (1, .int x1), (2, .int x2), (3, .int x3)] 0 []
  unfold qX12_people at hw
  refine v_aload_n C dX12_people_0 0 rfl ?_
  refine v_iload_n C dX12_people_1 1 rfl ?_
  refine v_callFi (st := []) (ci := 12) (qb := 0) C (kX12_isPlace h0 a0 _ _ hw) mM_X12_147 mI_X12 mC_X12_isPlace mN_X12_isPlace mS_X12_isPlace rfl rfl hd_X12_isPlace ⟨Nat.le_of_ble_eq_true rfl, Nat.le_of_ble_eq_true rfl⟩ ⟨Nat.le_of_ble_eq_true rfl, Nat.le_of_ble_eq_true rfl⟩ rfl (Nat.le_of_ble_eq_true rfl) dX12_people_2 (fun r2 v2_0 hw => ?_)
  obtain ⟨h01_2, hw⟩ := hw
  have hw := hw h01_2
  refine v_if_eq (tgt := 27) C dX12_people_5 (by decide) (fun hc => ?_) (fun hc => ?_)
  · have hw := hw.1 hc
    refine v_bipush (v := (-2)) C dX12_people_27 (by decide) ?_
    exact hret _ _ _ _ ((-2)) v2_0 dX12_people_29 rfl hw (Nat.le_of_ble_eq_true rfl) (Nat.le_of_ble_eq_true rfl)
  · have hw := hw.2 hc
    refine v_iload_n C dX12_people_8 2 rfl ?_
    refine v_callSPi (st := []) C (kX12_isTongue _ hw) mM_X12_155 mI_X12 mC_X12_isTongue mT_X12_isTongue hd_X12_isTongue ⟨Nat.le_of_ble_eq_true rfl, Nat.le_of_ble_eq_true rfl⟩ ⟨Nat.le_of_ble_eq_true rfl, Nat.le_of_ble_eq_true rfl⟩ rfl (Nat.le_of_ble_eq_true rfl) dX12_people_9 (fun r9 U9 hw => ?_)
    obtain ⟨h01_9, hw⟩ := hw
    have hw := hw h01_9
    refine v_if_eq (tgt := 27) C dX12_people_12 (by decide) (fun hc => ?_) (fun hc => ?_)
    · have hw := hw.1 hc
      refine v_bipush (v := (-2)) C dX12_people_27 (by decide) ?_
      exact hret _ _ _ _ ((-2)) v2_0 dX12_people_29 rfl hw (Nat.le_of_ble_eq_true rfl) (Nat.le_of_ble_eq_true rfl)
    · have hw := hw.2 hc
      refine v_iload_n C dX12_people_15 3 rfl ?_
      refine v_i2l C dX12_people_16 ?_
      refine v_lconst (v := 0) C dX12_people_17 (by decide) ?_
      refine v_ldc2 C mJ_X12_158 dX12_people_18 ?_
      refine v_callSPi (st := []) C (kX12_in _ _ _ hw) mM_X12_125 mI_X12 mC_X12_in mT_X12_in hd_X12_in ⟨Nat.le_of_ble_eq_true rfl, Nat.le_of_ble_eq_true rfl⟩ ⟨Nat.le_of_ble_eq_true rfl, Nat.le_of_ble_eq_true rfl⟩ rfl (Nat.le_of_ble_eq_true rfl) dX12_people_21 (fun r21 U21 hw => ?_)
      obtain ⟨h01_21, hw⟩ := hw
      have hw := hw h01_21
      refine v_if_ne (tgt := 30) C dX12_people_24 (by decide) (fun hc => ?_) (fun hc => ?_)
      · have hw := hw.1 hc
        refine v_sipush (v := 6690) C dX12_people_30 (by decide) ?_
        refine v_istore (lv' := [(4, .int 6690), (0, .ref h0), (1, .int x1), (2, .int x2), (3, .int x3)]) C dX12_people_33 (by decide) rfl ?_
        refine v_lv C (lv' := [(0, .ref h0), (1, .int x1), (2, .int x2), (3, .int x3), (4, .int 6690)]) [1, 2, 3, 4, 0] rfl ?_
        obtain ⟨n', hw⟩ := hw
        exact jX12_people_35 h0 a0 Q C hret n' v2_0 x1 x2 x3 6690 hw
      · have hw := hw.2 hc
        refine v_bipush (v := (-2)) C dX12_people_27 (by decide) ?_
        exact hret _ _ _ _ ((-2)) v2_0 dX12_people_29 rfl hw (Nat.le_of_ble_eq_true rfl) (Nat.le_of_ble_eq_true rfl)
set_option maxHeartbeats 4000000 in
set_option maxRecDepth 100000 in
theorem kX12_allOf {l : Launch} {E : VE} (h0 : Nat) (a0 : Nat → Nat) (u0 : Md) (x1 : Int32) {Q : Int32 → Md → Prop} (hw : qX12_allOf u0 x1 Q) : MI l yX12_allOf cX12_allOf 2 .int 0 0 0 E [.ref h0, .int x1] ([wX12 E h0 a0 u0].flatten) (fun (U : Md) => [wX12 E h0 a0 U].flatten) (fun (r : Int32) (U : Md) => Q r U) := by
  refine MI.of (own := RX12) (by decide) rfl (Nat.le_of_ble_eq_true rfl) ?_
  intro X C hini hret
  show VV X 0 0 ([wX12 E h0 a0 u0].flatten) [(0, .ref h0), (1, .int x1)] 0 []
  unfold qX12_allOf at hw
  refine v_aload_n C dX12_allOf_0 0 rfl ?_
  refine v_get (ci := 12) C inT12 0 9 rfl rfl (by decide) mF_X12_34_X12_9 rfl dX12_allOf_1 ?_
  refine v_iconst (v := 3) C dX12_allOf_4 (by decide) ?_
  refine v_iload_n C dX12_allOf_5 1 rfl ?_
  refine v_imul C dX12_allOf_6 ?_
  obtain ⟨hi7, hw⟩ := hw
  refine v_iald C 8 rfl hi7 dX12_allOf_7 ?_
  refine v_aload_n C dX12_allOf_8 0 rfl ?_
  refine v_get (ci := 12) C inT12 0 9 rfl rfl (by decide) mF_X12_34_X12_9 rfl dX12_allOf_9 ?_
  refine v_iconst (v := 3) C dX12_allOf_12 (by decide) ?_
  refine v_iload_n C dX12_allOf_13 1 rfl ?_
  refine v_imul C dX12_allOf_14 ?_
  refine v_iconst (v := 1) C dX12_allOf_15 (by decide) ?_
  refine v_iadd C dX12_allOf_16 ?_
  obtain ⟨hi17, hw⟩ := hw
  refine v_iald C 8 rfl hi17 dX12_allOf_17 ?_
  refine v_iadd C dX12_allOf_18 ?_
  refine v_aload_n C dX12_allOf_19 0 rfl ?_
  refine v_get (ci := 12) C inT12 0 9 rfl rfl (by decide) mF_X12_34_X12_9 rfl dX12_allOf_20 ?_
  refine v_iconst (v := 3) C dX12_allOf_23 (by decide) ?_
  refine v_iload_n C dX12_allOf_24 1 rfl ?_
  refine v_imul C dX12_allOf_25 ?_
  refine v_iconst (v := 2) C dX12_allOf_26 (by decide) ?_
  refine v_iadd C dX12_allOf_27 ?_
  obtain ⟨hi28, hw⟩ := hw
  refine v_iald C 8 rfl hi28 dX12_allOf_28 ?_
  refine v_iadd C dX12_allOf_29 ?_
  exact hret _ _ _ _ (((gA u0 9 (3 * x1).toNatClampNeg) + (gA u0 9 ((3 * x1) + 1).toNatClampNeg)) + (gA u0 9 ((3 * x1) + 2).toNatClampNeg)) u0 dX12_allOf_30 rfl hw (Nat.le_of_ble_eq_true rfl) (Nat.le_of_ble_eq_true rfl)
set_option maxHeartbeats 4000000 in
set_option maxRecDepth 100000 in
theorem jX12_live_20 {X : VX} {E : VE} {l : Launch} (h0 : Nat) (a0 : Nat → Nat)  (Q : Int32 → Md → Prop) (C : VC X cX12_live 5 RX12 (rmL 2 0 0) E l) (hret : RetI X cX12_live .int 0 0 (fun (U : Md) => [wX12 E h0 a0 U].flatten) (fun (r : Int32) (U : Md) => Q r U))  : ∀ (u0 : Md) (y1 : Int32) (y2 : Int32) (y3 : Int32) (y4 : Int32), qX12_live_20 Q u0 y1 y2 y3 y4 → VV X 0 0 ([wX12 E h0 a0 u0].flatten) [(0, .ref h0), (1, .int y1), (2, .int y2), (3, .int y3), (4, .int y4)] 20 [] := by
  intro u0 y1 y2 y3 y4 hw
  unfold qX12_live_20 at hw
  refine v_iload_n C dX12_live_20 3 rfl ?_
  refine v_callSPi (st := []) C (kX12_isYear _ hw) mM_X12_160 mI_X12 mC_X12_isYear mT_X12_isYear hd_X12_isYear ⟨Nat.le_of_ble_eq_true rfl, Nat.le_of_ble_eq_true rfl⟩ ⟨Nat.le_of_ble_eq_true rfl, Nat.le_of_ble_eq_true rfl⟩ rfl (Nat.le_of_ble_eq_true rfl) dX12_live_21 (fun r21 U21 hw => ?_)
  obtain ⟨h01_21, hw⟩ := hw
  have hw := hw h01_21
  refine v_if_eq (tgt := 35) C dX12_live_24 (by decide) (fun hc => ?_) (fun hc => ?_)
  · have hw := hw.1 hc
    refine v_bipush (v := (-2)) C dX12_live_35 (by decide) ?_
    exact hret _ _ _ _ ((-2)) u0 dX12_live_37 rfl hw (Nat.le_of_ble_eq_true rfl) (Nat.le_of_ble_eq_true rfl)
  · have hw := hw.2 hc
    refine v_iload C dX12_live_27 4 rfl ?_
    refine v_callSPi (st := []) C (kX12_isYear _ hw) mM_X12_160 mI_X12 mC_X12_isYear mT_X12_isYear hd_X12_isYear ⟨Nat.le_of_ble_eq_true rfl, Nat.le_of_ble_eq_true rfl⟩ ⟨Nat.le_of_ble_eq_true rfl, Nat.le_of_ble_eq_true rfl⟩ rfl (Nat.le_of_ble_eq_true rfl) dX12_live_29 (fun r29 U29 hw => ?_)
    obtain ⟨h01_29, hw⟩ := hw
    have hw := hw h01_29
    refine v_if_ne (tgt := 38) C dX12_live_32 (by decide) (fun hc => ?_) (fun hc => ?_)
    · have hw := hw.1 hc
      refine v_aload_n C dX12_live_38 0 rfl ?_
      refine v_iload_n C dX12_live_39 3 rfl ?_
      refine v_iload C dX12_live_40 4 rfl ?_
      refine v_imin C mM_X12_163 ⟨Nat.le_of_ble_eq_true rfl, Nat.le_of_ble_eq_true rfl, Nat.le_of_ble_eq_true rfl, Nat.le_of_ble_eq_true rfl⟩ dX12_live_42 ?_
      refine v_callFv (st := []) (ci := 12) (qb := 0) C (kX12_looks h0 a0 _ _ hw) mM_X12_151 mI_X12 mC_X12_looks mN_X12_looks mS_X12_looks rfl rfl hd_X12_looks ⟨Nat.le_of_ble_eq_true rfl, Nat.le_of_ble_eq_true rfl⟩ ⟨Nat.le_of_ble_eq_true rfl, Nat.le_of_ble_eq_true rfl⟩ rfl (Nat.le_of_ble_eq_true rfl) dX12_live_45 (fun v45_0 hw => ?_)
      refine v_iload_n C dX12_live_48 2 rfl ?_
      refine v_iconst (v := (-1)) C dX12_live_49 (by decide) ?_
      refine v_icmp_ne (tgt := 61) C dX12_live_50 (by decide) (fun hc => ?_) (fun hc => ?_)
      · have hw := hw.1 hc
        refine v_aload_n C dX12_live_61 0 rfl ?_
        refine v_get (ci := 12) C inT12 0 9 rfl rfl (by decide) mF_X12_34_X12_9 rfl dX12_live_62 ?_
        refine v_iconst (v := 3) C dX12_live_65 (by decide) ?_
        refine v_iload_n C dX12_live_66 1 rfl ?_
        refine v_imul C dX12_live_67 ?_
        refine v_iload_n C dX12_live_68 2 rfl ?_
        refine v_iadd C dX12_live_69 ?_
        obtain ⟨hi70, hw⟩ := hw
        refine v_iald C 8 rfl hi70 dX12_live_70 ?_
        exact hret _ _ _ _ (gA v45_0 9 ((3 * y1) + y2).toNatClampNeg) v45_0 dX12_live_71 rfl hw (Nat.le_of_ble_eq_true rfl) (Nat.le_of_ble_eq_true rfl)
      · have hw := hw.2 hc
        refine v_aload_n C dX12_live_53 0 rfl ?_
        refine v_iload_n C dX12_live_54 1 rfl ?_
        refine v_callFi (st := []) (ci := 12) (qb := 0) C (kX12_allOf h0 a0 _ _ hw) mM_X12_169 mI_X12 mC_X12_allOf mN_X12_allOf mS_X12_allOf rfl rfl hd_X12_allOf ⟨Nat.le_of_ble_eq_true rfl, Nat.le_of_ble_eq_true rfl⟩ ⟨Nat.le_of_ble_eq_true rfl, Nat.le_of_ble_eq_true rfl⟩ rfl (Nat.le_of_ble_eq_true rfl) dX12_live_55 (fun r55 v55_0 hw => ?_)
        refine v_goto (tgt := 71) C dX12_live_58 (by decide) ?_
        exact hret _ _ _ _ r55 v55_0 dX12_live_71 rfl hw (Nat.le_of_ble_eq_true rfl) (Nat.le_of_ble_eq_true rfl)
    · have hw := hw.2 hc
      refine v_bipush (v := (-2)) C dX12_live_35 (by decide) ?_
      exact hret _ _ _ _ ((-2)) u0 dX12_live_37 rfl hw (Nat.le_of_ble_eq_true rfl) (Nat.le_of_ble_eq_true rfl)
set_option maxHeartbeats 4000000 in
set_option maxRecDepth 100000 in
theorem kX12_live {l : Launch} {E : VE} (h0 : Nat) (a0 : Nat → Nat) (u0 : Md) (x1 : Int32) (x2 : Int32) (x3 : Int32) (x4 : Int32) {Q : Int32 → Md → Prop} (hw : qX12_live u0 x1 x2 x3 x4 Q) : MI l yX12_live cX12_live 5 .int 2 0 0 E [.ref h0, .int x1, .int x2, .int x3, .int x4] ([wX12 E h0 a0 u0].flatten) (fun (U : Md) => [wX12 E h0 a0 U].flatten) (fun (r : Int32) (U : Md) => Q r U) := by
  refine MI.of (own := RX12) (by decide) rfl (Nat.le_of_ble_eq_true rfl) ?_
  intro X C hini hret
  show VV X 0 0 ([wX12 E h0 a0 u0].flatten) [(0, .ref h0), (1, .int x1), (2, .int x2), (3, .int x3), (4, .int x4)] 0 []
  unfold qX12_live at hw
  refine v_aload_n C dX12_live_0 0 rfl ?_
  refine v_iload_n C dX12_live_1 1 rfl ?_
  refine v_callFi (st := []) (ci := 12) (qb := 0) C (kX12_isPlace h0 a0 _ _ hw) mM_X12_147 mI_X12 mC_X12_isPlace mN_X12_isPlace mS_X12_isPlace rfl rfl hd_X12_isPlace ⟨Nat.le_of_ble_eq_true rfl, Nat.le_of_ble_eq_true rfl⟩ ⟨Nat.le_of_ble_eq_true rfl, Nat.le_of_ble_eq_true rfl⟩ rfl (Nat.le_of_ble_eq_true rfl) dX12_live_2 (fun r2 v2_0 hw => ?_)
  obtain ⟨h01_2, hw⟩ := hw
  have hw := hw h01_2
  refine v_if_eq (tgt := 35) C dX12_live_5 (by decide) (fun hc => ?_) (fun hc => ?_)
  · have hw := hw.1 hc
    refine v_bipush (v := (-2)) C dX12_live_35 (by decide) ?_
    exact hret _ _ _ _ ((-2)) v2_0 dX12_live_37 rfl hw (Nat.le_of_ble_eq_true rfl) (Nat.le_of_ble_eq_true rfl)
  · have hw := hw.2 hc
    refine v_iload_n C dX12_live_8 2 rfl ?_
    refine v_iconst (v := (-1)) C dX12_live_9 (by decide) ?_
    refine v_icmp_eq (tgt := 20) C dX12_live_10 (by decide) (fun hc => ?_) (fun hc => ?_)
    · have hw := hw.1 hc
      exact jX12_live_20 h0 a0 Q C hret v2_0 x1 x2 x3 x4 hw
    · have hw := hw.2 hc
      refine v_iload_n C dX12_live_13 2 rfl ?_
      refine v_callSPi (st := []) C (kX12_isTongue _ hw) mM_X12_155 mI_X12 mC_X12_isTongue mT_X12_isTongue hd_X12_isTongue ⟨Nat.le_of_ble_eq_true rfl, Nat.le_of_ble_eq_true rfl⟩ ⟨Nat.le_of_ble_eq_true rfl, Nat.le_of_ble_eq_true rfl⟩ rfl (Nat.le_of_ble_eq_true rfl) dX12_live_14 (fun r14 U14 hw => ?_)
      obtain ⟨h01_14, hw⟩ := hw
      have hw := hw h01_14
      refine v_if_eq (tgt := 35) C dX12_live_17 (by decide) (fun hc => ?_) (fun hc => ?_)
      · have hw := hw.1 hc
        refine v_bipush (v := (-2)) C dX12_live_35 (by decide) ?_
        exact hret _ _ _ _ ((-2)) v2_0 dX12_live_37 rfl hw (Nat.le_of_ble_eq_true rfl) (Nat.le_of_ble_eq_true rfl)
      · have hw := hw.2 hc
        exact jX12_live_20 h0 a0 Q C hret v2_0 x1 x2 x3 x4 hw
set_option maxHeartbeats 4000000 in
set_option maxRecDepth 100000 in
theorem jX12_name_124 {X : VX} {E : VE} {l : Launch} (h0 : Nat) (a0 : Nat → Nat)  (Q : Int32 → Md → Prop) (C : VC X cX12_name 7 RX12 (rmL 2 0 0) E l) (hret : RetI X cX12_name .int 0 0 (fun (U : Md) => [wX12 E h0 a0 U].flatten) (fun (r : Int32) (U : Md) => Q r U))  : ∀ (n : Nat), ∀ (u0 : Md) (y4 : Int32) (y5 : Int32) (y6 : Int32), qX12_name_124 Q n u0 y4 y5 y6 → VV X 0 0 ([wX12 E h0 a0 u0].flatten) [(0, .ref h0), (4, .int y4), (5, .int y5), (6, .int y6)] 124 [] := by
  intro n
  induction n with
  | zero =>
    intro u0 y4 y5 y6 hw
    exact hw.elim
  | succ n ih =>
    intro u0 y4 y5 y6 hw
    unfold qX12_name_124 at hw
    refine v_iload C dX12_name_124 3 rfl ?_
    refine v_aload_n C dX12_name_126 0 rfl ?_
    refine v_get (ci := 12) C inT12 0 5 rfl rfl (by decide) mF_X12_131_X12_5 rfl dX12_name_127 ?_
    refine v_icmp_ge (tgt := 158) C dX12_name_130 (by decide) (fun hc => ?_) (fun hc => ?_)
    · have hw := hw.1 hc
      refine v_aload_n C dX12_name_158 0 rfl ?_
      refine v_iconst (v := 0) C dX12_name_159 (by decide) ?_
      obtain ⟨w160, e160⟩ : ∃ z : Md, z = sF u0 5 0 := ⟨_, rfl⟩
      have hw := hw w160 e160
      refine v_put (ci := 12) (ws' := [wX12 E h0 a0 w160].flatten) C tyX12 tyX12_ok nmX12 inT12 0 5 rfl rfl (by decide) mF_X12_131_X12_5 rfl rfl rfl rfl (Nat.le_of_ble_eq_true rfl) (by rw [e160]; rfl) dX12_name_160 ?_
      refine v_aload_n C dX12_name_163 0 rfl ?_
      refine v_get (ci := 12) C inT12 0 1 rfl rfl (by decide) mF_X12_9_X12_1 rfl dX12_name_164 ?_
      refine v_iconst (v := 2) C dX12_name_167 (by decide) ?_
      refine v_dup2 C dX12_name_168 rfl rfl ?_
      obtain ⟨hi169, hw⟩ := hw
      refine v_iald C 1 rfl hi169 dX12_name_169 ?_
      refine v_iconst (v := 1) C dX12_name_170 (by decide) ?_
      refine v_iadd C dX12_name_171 ?_
      obtain ⟨hi172, hw⟩ := hw
      obtain ⟨w172, e172⟩ : ∃ z : Md, z = tA w160 1 2 ((gA w160 1 (2 : Int32).toNatClampNeg) + 1) := ⟨_, rfl⟩
      have hw := hw w172 e172
      refine v_iast (ws' := [wX12 E h0 a0 w172].flatten) C 1 rfl hi172 (by rw [e172]; rfl) dX12_name_172 ?_
      refine v_iload C dX12_name_173 1 rfl ?_
      exact hret _ _ _ _ y4 w172 dX12_name_175 rfl hw (Nat.le_of_ble_eq_true rfl) (Nat.le_of_ble_eq_true rfl)
    · have hw := hw.2 hc
      refine v_aload_n C dX12_name_133 0 rfl ?_
      refine v_get (ci := 12) C inT12 0 1 rfl rfl (by decide) mF_X12_9_X12_1 rfl dX12_name_134 ?_
      refine v_iload C dX12_name_137 2 rfl ?_
      refine v_iconst (v := 4) C dX12_name_139 (by decide) ?_
      refine v_iadd C dX12_name_140 ?_
      refine v_iload C dX12_name_141 3 rfl ?_
      refine v_iadd C dX12_name_143 ?_
      refine v_aload_n C dX12_name_144 0 rfl ?_
      refine v_get (ci := 12) C inT12 0 4 rfl rfl (by decide) mF_X12_21_X12_4 rfl dX12_name_145 ?_
      refine v_iload C dX12_name_148 3 rfl ?_
      obtain ⟨hi150, hw⟩ := hw
      refine v_bald C 4 rfl hi150 dX12_name_150 ?_
      obtain ⟨hi151, hw⟩ := hw
      obtain ⟨w151, e151⟩ : ∃ z : Md, z = tA u0 1 ((y5 + 4) + y6) ((gB u0 4 y6.toNatClampNeg).toInt32) := ⟨_, rfl⟩
      have hw := hw w151 e151
      refine v_iast (ws' := [wX12 E h0 a0 w151].flatten) C 1 rfl hi151 (by rw [e151]; rfl) dX12_name_151 ?_
      refine v_iinc (lv' := [(6, .int (y6 + Int32.ofInt 1)), (0, .ref h0), (4, .int y4), (5, .int y5)]) C dX12_name_152 3 rfl (by decide) rfl ?_
      refine v_goto (tgt := 124) C dX12_name_155 (by decide) ?_
      refine v_lv C (lv' := [(0, .ref h0), (4, .int y4), (5, .int y5), (6, .int (y6 + Int32.ofInt 1))]) [1, 2, 3, 0] rfl ?_
      exact ih w151 y4 y5 (y6 + Int32.ofInt 1) hw
set_option maxHeartbeats 4000000 in
set_option maxRecDepth 100000 in
theorem jX12_name_40 {X : VX} {E : VE} {l : Launch} (h0 : Nat) (a0 : Nat → Nat)  (Q : Int32 → Md → Prop) (C : VC X cX12_name 7 RX12 (rmL 2 0 0) E l) (hret : RetI X cX12_name .int 0 0 (fun (U : Md) => [wX12 E h0 a0 U].flatten) (fun (r : Int32) (U : Md) => Q r U))  : ∀ (u0 : Md) (y1 : Int32) (y2 : Int32) (y3 : Int32), qX12_name_40 Q u0 y1 y2 y3 → VV X 0 0 ([wX12 E h0 a0 u0].flatten) [(0, .ref h0), (1, .int y1), (2, .int y2), (3, .int y3)] 40 [] := by
  intro u0 y1 y2 y3 hw
  unfold qX12_name_40 at hw
  refine v_aload_n C dX12_name_40 0 rfl ?_
  refine v_bipush (v := 12) C dX12_name_41 (by decide) ?_
  refine v_callFi (st := []) (ci := 12) (qb := 0) C (kX12_isLetters h0 a0 _ _ hw) mM_X12_173 mI_X12 mC_X12_isLetters mN_X12_isLetters mS_X12_isLetters rfl rfl hd_X12_isLetters ⟨Nat.le_of_ble_eq_true rfl, Nat.le_of_ble_eq_true rfl⟩ ⟨Nat.le_of_ble_eq_true rfl, Nat.le_of_ble_eq_true rfl⟩ rfl (Nat.le_of_ble_eq_true rfl) dX12_name_43 (fun r43 v43_0 hw => ?_)
  obtain ⟨h01_43, hw⟩ := hw
  have hw := hw h01_43
  refine v_if_ne (tgt := 52) C dX12_name_46 (by decide) (fun hc => ?_) (fun hc => ?_)
  · have hw := hw.1 hc
    refine v_aload_n C dX12_name_52 0 rfl ?_
    refine v_get (ci := 12) C inT12 0 1 rfl rfl (by decide) mF_X12_9_X12_1 rfl dX12_name_53 ?_
    refine v_iconst (v := 2) C dX12_name_56 (by decide) ?_
    obtain ⟨hi57, hw⟩ := hw
    refine v_iald C 1 rfl hi57 dX12_name_57 ?_
    refine v_istore (lv' := [(4, .int (gA v43_0 1 (2 : Int32).toNatClampNeg)), (0, .ref h0), (1, .int y1), (2, .int y2), (3, .int y3)]) C dX12_name_58 (by decide) rfl ?_
    refine v_iload C dX12_name_60 0 rfl ?_
    refine v_bipush (v := 80) C dX12_name_62 (by decide) ?_
    refine v_icmp_ne (tgt := 70) C dX12_name_64 (by decide) (fun hc => ?_) (fun hc => ?_)
    · have hw := hw.1 hc
      refine v_bipush (v := 90) C dX12_name_70 (by decide) ?_
      refine v_bipush (v := 16) C dX12_name_72 (by decide) ?_
      refine v_iload C dX12_name_74 0 rfl ?_
      refine v_imul C dX12_name_76 ?_
      refine v_iadd C dX12_name_77 ?_
      refine v_istore (lv' := [(5, .int (90 + (16 * (gA v43_0 1 (2 : Int32).toNatClampNeg)))), (4, .int (gA v43_0 1 (2 : Int32).toNatClampNeg)), (0, .ref h0), (1, .int y1), (2, .int y2), (3, .int y3)]) C dX12_name_78 (by decide) rfl ?_
      refine v_aload_n C dX12_name_80 2 rfl ?_
      refine v_get (ci := 12) C inT12 0 1 rfl rfl (by decide) mF_X12_9_X12_1 rfl dX12_name_81 ?_
      refine v_iload C dX12_name_84 0 rfl ?_
      refine v_iload_n C dX12_name_86 3 rfl ?_
      obtain ⟨hi87, hw⟩ := hw
      obtain ⟨w87, e87⟩ : ∃ z : Md, z = tA v43_0 1 (90 + (16 * (gA v43_0 1 (2 : Int32).toNatClampNeg))) y1 := ⟨_, rfl⟩
      have hw := hw w87 e87
      refine v_iast (ws' := [wX12 E h0 a0 w87].flatten) C 1 rfl hi87 (by rw [e87]; rfl) dX12_name_87 ?_
      refine v_aload_n C dX12_name_88 2 rfl ?_
      refine v_get (ci := 12) C inT12 0 1 rfl rfl (by decide) mF_X12_9_X12_1 rfl dX12_name_89 ?_
      refine v_iload C dX12_name_92 0 rfl ?_
      refine v_iconst (v := 1) C dX12_name_94 (by decide) ?_
      refine v_iadd C dX12_name_95 ?_
      refine v_iload_n C dX12_name_96 4 rfl ?_
      obtain ⟨hi97, hw⟩ := hw
      obtain ⟨w97, e97⟩ : ∃ z : Md, z = tA w87 1 ((90 + (16 * (gA v43_0 1 (2 : Int32).toNatClampNeg))) + 1) y2 := ⟨_, rfl⟩
      have hw := hw w97 e97
      refine v_iast (ws' := [wX12 E h0 a0 w97].flatten) C 1 rfl hi97 (by rw [e97]; rfl) dX12_name_97 ?_
      refine v_aload_n C dX12_name_98 2 rfl ?_
      refine v_get (ci := 12) C inT12 0 1 rfl rfl (by decide) mF_X12_9_X12_1 rfl dX12_name_99 ?_
      refine v_iload C dX12_name_102 0 rfl ?_
      refine v_iconst (v := 2) C dX12_name_104 (by decide) ?_
      refine v_iadd C dX12_name_105 ?_
      refine v_iload_n C dX12_name_106 5 rfl ?_
      obtain ⟨hi107, hw⟩ := hw
      obtain ⟨w107, e107⟩ : ∃ z : Md, z = tA w97 1 ((90 + (16 * (gA v43_0 1 (2 : Int32).toNatClampNeg))) + 2) y3 := ⟨_, rfl⟩
      have hw := hw w107 e107
      refine v_iast (ws' := [wX12 E h0 a0 w107].flatten) C 1 rfl hi107 (by rw [e107]; rfl) dX12_name_107 ?_
      refine v_aload_n C dX12_name_108 2 rfl ?_
      refine v_get (ci := 12) C inT12 0 1 rfl rfl (by decide) mF_X12_9_X12_1 rfl dX12_name_109 ?_
      refine v_iload C dX12_name_112 0 rfl ?_
      refine v_iconst (v := 3) C dX12_name_114 (by decide) ?_
      refine v_iadd C dX12_name_115 ?_
      refine v_aload_n C dX12_name_116 2 rfl ?_
      refine v_get (ci := 12) C inT12 0 5 rfl rfl (by decide) mF_X12_131_X12_5 rfl dX12_name_117 ?_
      obtain ⟨hi120, hw⟩ := hw
      obtain ⟨w120, e120⟩ : ∃ z : Md, z = tA w107 1 ((90 + (16 * (gA v43_0 1 (2 : Int32).toNatClampNeg))) + 3) (gF w107 5) := ⟨_, rfl⟩
      have hw := hw w120 e120
      refine v_iast (ws' := [wX12 E h0 a0 w120].flatten) C 1 rfl hi120 (by rw [e120]; rfl) dX12_name_120 ?_
      refine v_iconst (v := 0) C dX12_name_121 (by decide) ?_
      refine v_istore (lv' := [(6, .int 0), (5, .int (90 + (16 * (gA v43_0 1 (2 : Int32).toNatClampNeg)))), (4, .int (gA v43_0 1 (2 : Int32).toNatClampNeg)), (0, .ref h0), (1, .int y1), (2, .int y2), (3, .int y3)]) C dX12_name_122 (by decide) rfl ?_
      refine v_lv C (lv' := [(0, .ref h0), (4, .int (gA v43_0 1 (2 : Int32).toNatClampNeg)), (5, .int (90 + (16 * (gA v43_0 1 (2 : Int32).toNatClampNeg)))), (6, .int 0)]) [3, 2, 1, 0] rfl ?_
      obtain ⟨n', hw⟩ := hw
      exact jX12_name_124 h0 a0 Q C hret n' w120 (gA v43_0 1 (2 : Int32).toNatClampNeg) (90 + (16 * (gA v43_0 1 (2 : Int32).toNatClampNeg))) 0 hw
    · have hw := hw.2 hc
      refine v_bipush (v := (-3)) C dX12_name_67 (by decide) ?_
      exact hret _ _ _ _ ((-3)) v43_0 dX12_name_69 rfl hw (Nat.le_of_ble_eq_true rfl) (Nat.le_of_ble_eq_true rfl)
  · have hw := hw.2 hc
    refine v_bipush (v := (-2)) C dX12_name_49 (by decide) ?_
    exact hret _ _ _ _ ((-2)) v43_0 dX12_name_51 rfl hw (Nat.le_of_ble_eq_true rfl) (Nat.le_of_ble_eq_true rfl)
set_option maxHeartbeats 4000000 in
set_option maxRecDepth 100000 in
theorem kX12_name {l : Launch} {E : VE} (h0 : Nat) (a0 : Nat → Nat) (u0 : Md) (x1 : Int32) (x2 : Int32) (x3 : Int32) {Q : Int32 → Md → Prop} (hw : qX12_name u0 x1 x2 x3 Q) : MI l yX12_name cX12_name 7 .int 2 0 0 E [.ref h0, .int x1, .int x2, .int x3] ([wX12 E h0 a0 u0].flatten) (fun (U : Md) => [wX12 E h0 a0 U].flatten) (fun (r : Int32) (U : Md) => Q r U) := by
  refine MI.of (own := RX12) (by decide) rfl (Nat.le_of_ble_eq_true rfl) ?_
  intro X C hini hret
  show VV X 0 0 ([wX12 E h0 a0 u0].flatten) [(0, .ref h0), (1, .int x1), (2, .int x2), (3, .int x3)] 0 []
  unfold qX12_name at hw
  refine v_aload_n C dX12_name_0 0 rfl ?_
  refine v_iload_n C dX12_name_1 1 rfl ?_
  refine v_callFi (st := []) (ci := 12) (qb := 0) C (kX12_isPlace h0 a0 _ _ hw) mM_X12_147 mI_X12 mC_X12_isPlace mN_X12_isPlace mS_X12_isPlace rfl rfl hd_X12_isPlace ⟨Nat.le_of_ble_eq_true rfl, Nat.le_of_ble_eq_true rfl⟩ ⟨Nat.le_of_ble_eq_true rfl, Nat.le_of_ble_eq_true rfl⟩ rfl (Nat.le_of_ble_eq_true rfl) dX12_name_2 (fun r2 v2_0 hw => ?_)
  obtain ⟨h01_2, hw⟩ := hw
  have hw := hw h01_2
  refine v_if_eq (tgt := 49) C dX12_name_5 (by decide) (fun hc => ?_) (fun hc => ?_)
  · have hw := hw.1 hc
    refine v_bipush (v := (-2)) C dX12_name_49 (by decide) ?_
    exact hret _ _ _ _ ((-2)) v2_0 dX12_name_51 rfl hw (Nat.le_of_ble_eq_true rfl) (Nat.le_of_ble_eq_true rfl)
  · have hw := hw.2 hc
    refine v_iload_n C dX12_name_8 2 rfl ?_
    refine v_callSPi (st := []) C (kX12_isTongue _ hw) mM_X12_155 mI_X12 mC_X12_isTongue mT_X12_isTongue hd_X12_isTongue ⟨Nat.le_of_ble_eq_true rfl, Nat.le_of_ble_eq_true rfl⟩ ⟨Nat.le_of_ble_eq_true rfl, Nat.le_of_ble_eq_true rfl⟩ rfl (Nat.le_of_ble_eq_true rfl) dX12_name_9 (fun r9 U9 hw => ?_)
    obtain ⟨h01_9, hw⟩ := hw
    have hw := hw h01_9
    refine v_if_eq (tgt := 49) C dX12_name_12 (by decide) (fun hc => ?_) (fun hc => ?_)
    · have hw := hw.1 hc
      refine v_bipush (v := (-2)) C dX12_name_49 (by decide) ?_
      exact hret _ _ _ _ ((-2)) v2_0 dX12_name_51 rfl hw (Nat.le_of_ble_eq_true rfl) (Nat.le_of_ble_eq_true rfl)
    · have hw := hw.2 hc
      refine v_iload_n C dX12_name_15 3 rfl ?_
      refine v_iconst (v := (-1)) C dX12_name_16 (by decide) ?_
      refine v_icmp_eq (tgt := 40) C dX12_name_17 (by decide) (fun hc => ?_) (fun hc => ?_)
      · have hw := hw.1 hc
        exact jX12_name_40 h0 a0 Q C hret v2_0 x1 x2 x3 hw
      · have hw := hw.2 hc
        refine v_iload_n C dX12_name_20 3 rfl ?_
        refine v_bipush (v := (-9)) C dX12_name_21 (by decide) ?_
        refine v_icmp_eq (tgt := 40) C dX12_name_23 (by decide) (fun hc => ?_) (fun hc => ?_)
        · have hw := hw.1 hc
          exact jX12_name_40 h0 a0 Q C hret v2_0 x1 x2 x3 hw
        · have hw := hw.2 hc
          refine v_iload_n C dX12_name_26 3 rfl ?_
          refine v_i2l C dX12_name_27 ?_
          refine v_lconst (v := 0) C dX12_name_28 (by decide) ?_
          refine v_aload_n C dX12_name_29 0 rfl ?_
          refine v_callFi (st := [.long 0, .long x3.toInt64]) (ci := 12) (qb := 0) C (kX12_now h0 a0 _ hw) mM_X12_138 mI_X12 mC_X12_now mN_X12_now mS_X12_now rfl rfl hd_X12_now ⟨Nat.le_of_ble_eq_true rfl, Nat.le_of_ble_eq_true rfl⟩ ⟨Nat.le_of_ble_eq_true rfl, Nat.le_of_ble_eq_true rfl⟩ rfl (Nat.le_of_ble_eq_true rfl) dX12_name_30 (fun r30 v30_0 hw => ?_)
          refine v_i2l C dX12_name_33 ?_
          refine v_callSPi (st := []) C (kX12_in _ _ _ hw) mM_X12_125 mI_X12 mC_X12_in mT_X12_in hd_X12_in ⟨Nat.le_of_ble_eq_true rfl, Nat.le_of_ble_eq_true rfl⟩ ⟨Nat.le_of_ble_eq_true rfl, Nat.le_of_ble_eq_true rfl⟩ rfl (Nat.le_of_ble_eq_true rfl) dX12_name_34 (fun r34 U34 hw => ?_)
          obtain ⟨h01_34, hw⟩ := hw
          have hw := hw h01_34
          refine v_if_eq (tgt := 49) C dX12_name_37 (by decide) (fun hc => ?_) (fun hc => ?_)
          · have hw := hw.1 hc
            refine v_bipush (v := (-2)) C dX12_name_49 (by decide) ?_
            exact hret _ _ _ _ ((-2)) v30_0 dX12_name_51 rfl hw (Nat.le_of_ble_eq_true rfl) (Nat.le_of_ble_eq_true rfl)
          · have hw := hw.2 hc
            exact jX12_name_40 h0 a0 Q C hret v30_0 x1 x2 x3 hw
set_option maxHeartbeats 4000000 in
set_option maxRecDepth 100000 in
theorem kX12_see {l : Launch} {E : VE} (h0 : Nat) (a0 : Nat → Nat) (u0 : Md) (x1 : Int32) {Q : Int32 → Md → Prop} (hw : qX12_see u0 x1 Q) : MI l yX12_see cX12_see 2 .int 0 0 0 E [.ref h0, .int x1] ([wX12 E h0 a0 u0].flatten) (fun (U : Md) => [wX12 E h0 a0 U].flatten) (fun (r : Int32) (U : Md) => Q r U) := by
  refine MI.of (own := RX12) (by decide) rfl (Nat.le_of_ble_eq_true rfl) ?_
  intro X C hini hret
  show VV X 0 0 ([wX12 E h0 a0 u0].flatten) [(0, .ref h0), (1, .int x1)] 0 []
  unfold qX12_see at hw
  refine v_iload_n C dX12_see_0 1 rfl ?_
  refine v_aload_n C dX12_see_1 0 rfl ?_
  refine v_get (ci := 12) C inT12 0 10 rfl rfl (by decide) mF_X12_176_X12_10 rfl dX12_see_2 ?_
  refine v_icmp_ge (tgt := 21) C dX12_see_5 (by decide) (fun hc => ?_) (fun hc => ?_)
  · have hw := hw.1 hc
    refine v_iconst (v := (-1)) C dX12_see_21 (by decide) ?_
    exact hret _ _ _ _ ((-1)) u0 dX12_see_22 rfl hw (Nat.le_of_ble_eq_true rfl) (Nat.le_of_ble_eq_true rfl)
  · have hw := hw.2 hc
    refine v_aload_n C dX12_see_8 0 rfl ?_
    refine v_get (ci := 12) C inT12 0 4 rfl rfl (by decide) mF_X12_21_X12_4 rfl dX12_see_9 ?_
    refine v_iload_n C dX12_see_12 1 rfl ?_
    obtain ⟨hi13, hw⟩ := hw
    refine v_bald C 4 rfl hi13 dX12_see_13 ?_
    refine v_sipush (v := 255) C dX12_see_14 (by decide) ?_
    refine v_iand C dX12_see_17 ?_
    refine v_goto (tgt := 22) C dX12_see_18 (by decide) ?_
    exact hret _ _ _ _ (((gB u0 4 x1.toNatClampNeg).toInt32) &&& 255) u0 dX12_see_22 rfl hw (Nat.le_of_ble_eq_true rfl) (Nat.le_of_ble_eq_true rfl)
set_option maxHeartbeats 4000000 in
set_option maxRecDepth 100000 in
theorem jX12_next__26 {X : VX} {E : VE} {l : Launch} (h0 : Nat) (a0 : Nat → Nat)  (Q : Md → Prop) (C : VC X cX12_next_ 3 RX12 (rmL 1 0 0) E l) (hret : RetV X cX12_next_ 0 0 (fun (U : Md) => [wX12 E h0 a0 U].flatten) (fun (U : Md) => Q U)) (K0 : Md → Prop) (hK0 : ∀ (u0 : Md), K0 u0 → VV X 0 0 ([wX12 E h0 a0 u0].flatten) [(0, .ref h0)] 0 []) : ∀ (u0 : Md), qX12_next__26 Q K0 u0 → VV X 0 0 ([wX12 E h0 a0 u0].flatten) [(0, .ref h0)] 26 [] := by
  intro u0 hw
  unfold qX12_next__26 at hw
  refine v_aload_n C dX12_next__26 0 rfl ?_
  refine v_dup C dX12_next__27 rfl ?_
  refine v_get (ci := 12) C inT12 0 11 rfl rfl (by decide) mF_X12_179_X12_11 rfl dX12_next__28 ?_
  refine v_iconst (v := 1) C dX12_next__31 (by decide) ?_
  refine v_iadd C dX12_next__32 ?_
  obtain ⟨w33, e33⟩ : ∃ z : Md, z = sF u0 11 ((gF u0 11) + 1) := ⟨_, rfl⟩
  have hw := hw w33 e33
  refine v_put (ci := 12) (ws' := [wX12 E h0 a0 w33].flatten) C tyX12 tyX12_ok nmX12 inT12 0 11 rfl rfl (by decide) mF_X12_179_X12_11 rfl rfl rfl rfl (Nat.le_of_ble_eq_true rfl) (by rw [e33]; rfl) dX12_next__33 ?_
  refine v_goto (tgt := 0) C dX12_next__36 (by decide) ?_
  exact hK0 w33 hw
set_option maxHeartbeats 4000000 in
set_option maxRecDepth 100000 in
theorem jX12_next__285 {X : VX} {E : VE} {l : Launch} (h0 : Nat) (a0 : Nat → Nat)  (Q : Md → Prop) (C : VC X cX12_next_ 3 RX12 (rmL 1 0 0) E l) (hret : RetV X cX12_next_ 0 0 (fun (U : Md) => [wX12 E h0 a0 U].flatten) (fun (U : Md) => Q U))  : ∀ (u0 : Md) (z0 : Int32), qX12_next__285 Q u0 z0 → VV X 0 0 ([wX12 E h0 a0 u0].flatten) [(0, .ref h0)] 285 [.int z0, .ref h0] := by
  intro u0 z0 hw
  unfold qX12_next__285 at hw
  obtain ⟨w285, e285⟩ : ∃ z : Md, z = sF u0 13 z0 := ⟨_, rfl⟩
  have hw := hw w285 e285
  refine v_put (ci := 12) (ws' := [wX12 E h0 a0 w285].flatten) C tyX12 tyX12_ok nmX12 inT12 0 13 rfl rfl (by decide) mF_X12_188_X12_13 rfl rfl rfl rfl (Nat.le_of_ble_eq_true rfl) (by rw [e285]; rfl) dX12_next__285 ?_
  refine v_aload_n C dX12_next__288 0 rfl ?_
  refine v_dup C dX12_next__289 rfl ?_
  refine v_get (ci := 12) C inT12 0 11 rfl rfl (by decide) mF_X12_179_X12_11 rfl dX12_next__290 ?_
  refine v_iconst (v := 1) C dX12_next__293 (by decide) ?_
  refine v_iadd C dX12_next__294 ?_
  obtain ⟨w295, e295⟩ : ∃ z : Md, z = sF w285 11 ((gF w285 11) + 1) := ⟨_, rfl⟩
  have hw := hw w295 e295
  refine v_put (ci := 12) (ws' := [wX12 E h0 a0 w295].flatten) C tyX12 tyX12_ok nmX12 inT12 0 11 rfl rfl (by decide) mF_X12_179_X12_11 rfl rfl rfl rfl (Nat.le_of_ble_eq_true rfl) (by rw [e295]; rfl) dX12_next__295 ?_
  exact hret _ _ _ _ w295 dX12_next__298 hw (Nat.le_of_ble_eq_true rfl) (Nat.le_of_ble_eq_true rfl)
set_option maxHeartbeats 4000000 in
set_option maxRecDepth 100000 in
theorem jX12_next__280 {X : VX} {E : VE} {l : Launch} (h0 : Nat) (a0 : Nat → Nat)  (Q : Md → Prop) (C : VC X cX12_next_ 3 RX12 (rmL 1 0 0) E l) (hret : RetV X cX12_next_ 0 0 (fun (U : Md) => [wX12 E h0 a0 U].flatten) (fun (U : Md) => Q U))  : ∀ (u0 : Md), qX12_next__280 Q u0 → VV X 0 0 ([wX12 E h0 a0 u0].flatten) [(0, .ref h0)] 280 [.ref h0] := by
  intro u0 hw
  unfold qX12_next__280 at hw
  refine v_iconst (v := 3) C dX12_next__280 (by decide) ?_
  refine v_goto (tgt := 285) C dX12_next__281 (by decide) ?_
  exact jX12_next__285 h0 a0 Q C hret u0 3 hw
set_option maxHeartbeats 4000000 in
set_option maxRecDepth 100000 in
theorem jX12_next__284 {X : VX} {E : VE} {l : Launch} (h0 : Nat) (a0 : Nat → Nat)  (Q : Md → Prop) (C : VC X cX12_next_ 3 RX12 (rmL 1 0 0) E l) (hret : RetV X cX12_next_ 0 0 (fun (U : Md) => [wX12 E h0 a0 U].flatten) (fun (U : Md) => Q U))  : ∀ (u0 : Md), qX12_next__284 Q u0 → VV X 0 0 ([wX12 E h0 a0 u0].flatten) [(0, .ref h0)] 284 [.ref h0] := by
  intro u0 hw
  unfold qX12_next__284 at hw
  refine v_iconst (v := 4) C dX12_next__284 (by decide) ?_
  exact jX12_next__285 h0 a0 Q C hret u0 4 hw
set_option maxHeartbeats 4000000 in
set_option maxRecDepth 100000 in
theorem jX12_next__250 {X : VX} {E : VE} {l : Launch} (h0 : Nat) (a0 : Nat → Nat)  (Q : Md → Prop) (C : VC X cX12_next_ 3 RX12 (rmL 1 0 0) E l) (hret : RetV X cX12_next_ 0 0 (fun (U : Md) => [wX12 E h0 a0 U].flatten) (fun (U : Md) => Q U))  : ∀ (u0 : Md) (y1 : Int32) (z0 : Int32), qX12_next__250 Q u0 y1 z0 → VV X 0 0 ([wX12 E h0 a0 u0].flatten) [(0, .ref h0), (1, .int y1)] 250 [.int z0] := by
  intro u0 y1 z0 hw
  unfold qX12_next__250 at hw
  refine v_istore_n (lv' := [(2, .int z0), (0, .ref h0), (1, .int y1)]) C dX12_next__250 (by decide) rfl ?_
  refine v_aload_n C dX12_next__251 1 rfl ?_
  refine v_iload_n C dX12_next__252 2 rfl ?_
  obtain ⟨w253, e253⟩ : ∃ z : Md, z = sF u0 14 y1 := ⟨_, rfl⟩
  have hw := hw w253 e253
  refine v_put (ci := 12) (ws' := [wX12 E h0 a0 w253].flatten) C tyX12 tyX12_ok nmX12 inT12 0 14 rfl rfl (by decide) mF_X12_199_X12_14 rfl rfl rfl rfl (Nat.le_of_ble_eq_true rfl) (by rw [e253]; rfl) dX12_next__253 ?_
  refine v_aload_n C dX12_next__256 1 rfl ?_
  refine v_iload_n C dX12_next__257 0 rfl ?_
  refine v_if_ne (tgt := 280) C dX12_next__258 (by decide) (fun hc => ?_) (fun hc => ?_)
  · have hw := hw.1 hc
    refine v_lv C (lv' := [(0, .ref h0)]) [1] rfl ?_
    exact jX12_next__280 h0 a0 Q C hret w253 hw
  · have hw := hw.2 hc
    refine v_aload_n C dX12_next__261 1 rfl ?_
    refine v_get (ci := 12) C inT12 0 17 rfl rfl (by decide) mF_X12_191_X12_17 rfl dX12_next__262 ?_
    refine v_if_eq (tgt := 284) C dX12_next__265 (by decide) (fun hc => ?_) (fun hc => ?_)
    · have hw := hw.1 hc
      refine v_lv C (lv' := [(0, .ref h0)]) [1] rfl ?_
      exact jX12_next__284 h0 a0 Q C hret w253 hw
    · have hw := hw.2 hc
      refine v_iload_n C dX12_next__268 2 rfl ?_
      refine v_bipush (v := 60) C dX12_next__269 (by decide) ?_
      refine v_icmp_eq (tgt := 280) C dX12_next__271 (by decide) (fun hc => ?_) (fun hc => ?_)
      · have hw := hw.1 hc
        refine v_lv C (lv' := [(0, .ref h0)]) [1] rfl ?_
        exact jX12_next__280 h0 a0 Q C hret w253 hw
      · have hw := hw.2 hc
        refine v_iload_n C dX12_next__274 2 rfl ?_
        refine v_bipush (v := 61) C dX12_next__275 (by decide) ?_
        refine v_icmp_ne (tgt := 284) C dX12_next__277 (by decide) (fun hc => ?_) (fun hc => ?_)
        · have hw := hw.1 hc
          refine v_lv C (lv' := [(0, .ref h0)]) [1] rfl ?_
          exact jX12_next__284 h0 a0 Q C hret w253 hw
        · have hw := hw.2 hc
          refine v_lv C (lv' := [(0, .ref h0)]) [1] rfl ?_
          exact jX12_next__280 h0 a0 Q C hret w253 hw
set_option maxHeartbeats 4000000 in
set_option maxRecDepth 100000 in
theorem jX12_next__245 {X : VX} {E : VE} {l : Launch} (h0 : Nat) (a0 : Nat → Nat)  (Q : Md → Prop) (C : VC X cX12_next_ 3 RX12 (rmL 1 0 0) E l) (hret : RetV X cX12_next_ 0 0 (fun (U : Md) => [wX12 E h0 a0 U].flatten) (fun (U : Md) => Q U))  : ∀ (u0 : Md) (y1 : Int32), qX12_next__245 Q u0 y1 → VV X 0 0 ([wX12 E h0 a0 u0].flatten) [(0, .ref h0), (1, .int y1)] 245 [] := by
  intro u0 y1 hw
  unfold qX12_next__245 at hw
  refine v_iconst (v := 1) C dX12_next__245 (by decide) ?_
  refine v_goto (tgt := 250) C dX12_next__246 (by decide) ?_
  exact jX12_next__250 h0 a0 Q C hret u0 y1 1 hw
set_option maxHeartbeats 4000000 in
set_option maxRecDepth 100000 in
theorem jX12_next__221 {X : VX} {E : VE} {l : Launch} (h0 : Nat) (a0 : Nat → Nat)  (Q : Md → Prop) (C : VC X cX12_next_ 3 RX12 (rmL 1 0 0) E l) (hret : RetV X cX12_next_ 0 0 (fun (U : Md) => [wX12 E h0 a0 U].flatten) (fun (U : Md) => Q U))  : ∀ (u0 : Md) (y1 : Int32), qX12_next__221 Q u0 y1 → VV X 0 0 ([wX12 E h0 a0 u0].flatten) [(0, .ref h0), (1, .int y1)] 221 [] := by
  intro u0 y1 hw
  unfold qX12_next__221 at hw
  refine v_iload_n C dX12_next__221 1 rfl ?_
  refine v_bipush (v := 62) C dX12_next__222 (by decide) ?_
  refine v_icmp_eq (tgt := 245) C dX12_next__224 (by decide) (fun hc => ?_) (fun hc => ?_)
  · have hw := hw.1 hc
    exact jX12_next__245 h0 a0 Q C hret u0 y1 hw
  · have hw := hw.2 hc
    refine v_iload_n C dX12_next__227 1 rfl ?_
    refine v_bipush (v := 59) C dX12_next__228 (by decide) ?_
    refine v_icmp_eq (tgt := 245) C dX12_next__230 (by decide) (fun hc => ?_) (fun hc => ?_)
    · have hw := hw.1 hc
      exact jX12_next__245 h0 a0 Q C hret u0 y1 hw
    · have hw := hw.2 hc
      refine v_iload_n C dX12_next__233 1 rfl ?_
      refine v_bipush (v := 35) C dX12_next__234 (by decide) ?_
      refine v_icmp_eq (tgt := 245) C dX12_next__236 (by decide) (fun hc => ?_) (fun hc => ?_)
      · have hw := hw.1 hc
        exact jX12_next__245 h0 a0 Q C hret u0 y1 hw
      · have hw := hw.2 hc
        refine v_iload_n C dX12_next__239 1 rfl ?_
        refine v_bipush (v := 45) C dX12_next__240 (by decide) ?_
        refine v_icmp_ne (tgt := 249) C dX12_next__242 (by decide) (fun hc => ?_) (fun hc => ?_)
        · have hw := hw.1 hc
          refine v_iconst (v := 0) C dX12_next__249 (by decide) ?_
          exact jX12_next__250 h0 a0 Q C hret u0 y1 0 hw
        · have hw := hw.2 hc
          exact jX12_next__245 h0 a0 Q C hret u0 y1 hw
set_option maxHeartbeats 4000000 in
set_option maxRecDepth 100000 in
theorem jX12_next__151 {X : VX} {E : VE} {l : Launch} (h0 : Nat) (a0 : Nat → Nat)  (Q : Md → Prop) (C : VC X cX12_next_ 3 RX12 (rmL 1 0 0) E l) (hret : RetV X cX12_next_ 0 0 (fun (U : Md) => [wX12 E h0 a0 U].flatten) (fun (U : Md) => Q U))  : ∀ (n : Nat), ∀ (u0 : Md), qX12_next__151 Q n u0 → VV X 0 0 ([wX12 E h0 a0 u0].flatten) [(0, .ref h0)] 151 [] := by
  intro n
  induction n with
  | zero =>
    intro u0 hw
    exact hw.elim
  | succ n ih =>
    intro u0 hw
    unfold qX12_next__151 at hw
    refine v_aload_n C dX12_next__151 0 rfl ?_
    refine v_aload_n C dX12_next__152 0 rfl ?_
    refine v_get (ci := 12) C inT12 0 11 rfl rfl (by decide) mF_X12_179_X12_11 rfl dX12_next__153 ?_
    refine v_callFi (st := []) (ci := 12) (qb := 0) C (kX12_see h0 a0 _ _ hw) mM_X12_182 mI_X12 mC_X12_see mN_X12_see mS_X12_see rfl rfl hd_X12_see ⟨Nat.le_of_ble_eq_true rfl, Nat.le_of_ble_eq_true rfl⟩ ⟨Nat.le_of_ble_eq_true rfl, Nat.le_of_ble_eq_true rfl⟩ rfl (Nat.le_of_ble_eq_true rfl) dX12_next__156 (fun r156 v156_0 hw => ?_)
    refine v_i2l C dX12_next__159 ?_
    refine v_ldc2 C mJ_X12_195 dX12_next__160 ?_
    refine v_ldc2 C mJ_X12_197 dX12_next__163 ?_
    refine v_callSPi (st := []) C (kX12_in _ _ _ hw) mM_X12_125 mI_X12 mC_X12_in mT_X12_in hd_X12_in ⟨Nat.le_of_ble_eq_true rfl, Nat.le_of_ble_eq_true rfl⟩ ⟨Nat.le_of_ble_eq_true rfl, Nat.le_of_ble_eq_true rfl⟩ rfl (Nat.le_of_ble_eq_true rfl) dX12_next__166 (fun r166 U166 hw => ?_)
    obtain ⟨h01_166, hw⟩ := hw
    have hw := hw h01_166
    refine v_if_eq (tgt := 213) C dX12_next__169 (by decide) (fun hc => ?_) (fun hc => ?_)
    · have hw := hw.1 hc
      refine v_aload_n C dX12_next__213 0 rfl ?_
      refine v_iconst (v := 2) C dX12_next__214 (by decide) ?_
      obtain ⟨w215, e215⟩ : ∃ z : Md, z = sF v156_0 13 2 := ⟨_, rfl⟩
      have hw := hw w215 e215
      refine v_put (ci := 12) (ws' := [wX12 E h0 a0 w215].flatten) C tyX12 tyX12_ok nmX12 inT12 0 13 rfl rfl (by decide) mF_X12_188_X12_13 rfl rfl rfl rfl (Nat.le_of_ble_eq_true rfl) (by rw [e215]; rfl) dX12_next__215 ?_
      refine v_goto (tgt := 298) C dX12_next__218 (by decide) ?_
      exact hret _ _ _ _ w215 dX12_next__298 hw (Nat.le_of_ble_eq_true rfl) (Nat.le_of_ble_eq_true rfl)
    · have hw := hw.2 hc
      refine v_aload_n C dX12_next__172 0 rfl ?_
      refine v_ldc C mK_X12_202 dX12_next__173 ?_
      refine v_bipush (v := 10) C dX12_next__175 (by decide) ?_
      refine v_aload_n C dX12_next__177 0 rfl ?_
      refine v_get (ci := 12) C inT12 0 14 rfl rfl (by decide) mF_X12_199_X12_14 rfl dX12_next__178 ?_
      refine v_imul C dX12_next__181 ?_
      refine v_aload_n C dX12_next__182 0 rfl ?_
      refine v_aload_n C dX12_next__183 0 rfl ?_
      refine v_get (ci := 12) C inT12 0 11 rfl rfl (by decide) mF_X12_179_X12_11 rfl dX12_next__184 ?_
      refine v_callFi (st := [.int (10 * (gF v156_0 14)), .int 99999, .ref h0]) (ci := 12) (qb := 0) C (kX12_see h0 a0 _ _ hw) mM_X12_182 mI_X12 mC_X12_see mN_X12_see mS_X12_see rfl rfl hd_X12_see ⟨Nat.le_of_ble_eq_true rfl, Nat.le_of_ble_eq_true rfl⟩ ⟨Nat.le_of_ble_eq_true rfl, Nat.le_of_ble_eq_true rfl⟩ rfl (Nat.le_of_ble_eq_true rfl) dX12_next__187 (fun r187 v187_0 hw => ?_)
      refine v_iadd C dX12_next__190 ?_
      refine v_bipush (v := 48) C dX12_next__191 (by decide) ?_
      refine v_isub C dX12_next__193 ?_
      refine v_imin C mM_X12_163 ⟨Nat.le_of_ble_eq_true rfl, Nat.le_of_ble_eq_true rfl, Nat.le_of_ble_eq_true rfl, Nat.le_of_ble_eq_true rfl⟩ dX12_next__194 ?_
      obtain ⟨w197, e197⟩ : ∃ z : Md, z = sF v187_0 14 (imin 99999 (((10 * (gF v156_0 14)) + r187) - 48)) := ⟨_, rfl⟩
      have hw := hw w197 e197
      refine v_put (ci := 12) (ws' := [wX12 E h0 a0 w197].flatten) C tyX12 tyX12_ok nmX12 inT12 0 14 rfl rfl (by decide) mF_X12_199_X12_14 rfl rfl rfl rfl (Nat.le_of_ble_eq_true rfl) (by rw [e197]; rfl) dX12_next__197 ?_
      refine v_aload_n C dX12_next__200 0 rfl ?_
      refine v_dup C dX12_next__201 rfl ?_
      refine v_get (ci := 12) C inT12 0 11 rfl rfl (by decide) mF_X12_179_X12_11 rfl dX12_next__202 ?_
      refine v_iconst (v := 1) C dX12_next__205 (by decide) ?_
      refine v_iadd C dX12_next__206 ?_
      obtain ⟨w207, e207⟩ : ∃ z : Md, z = sF w197 11 ((gF w197 11) + 1) := ⟨_, rfl⟩
      have hw := hw w207 e207
      refine v_put (ci := 12) (ws' := [wX12 E h0 a0 w207].flatten) C tyX12 tyX12_ok nmX12 inT12 0 11 rfl rfl (by decide) mF_X12_179_X12_11 rfl rfl rfl rfl (Nat.le_of_ble_eq_true rfl) (by rw [e207]; rfl) dX12_next__207 ?_
      refine v_goto (tgt := 151) C dX12_next__210 (by decide) ?_
      exact ih w207 hw
set_option maxHeartbeats 4000000 in
set_option maxRecDepth 100000 in
theorem jX12_next__83 {X : VX} {E : VE} {l : Launch} (h0 : Nat) (a0 : Nat → Nat)  (Q : Md → Prop) (C : VC X cX12_next_ 3 RX12 (rmL 1 0 0) E l) (hret : RetV X cX12_next_ 0 0 (fun (U : Md) => [wX12 E h0 a0 U].flatten) (fun (U : Md) => Q U))  : ∀ (n : Nat), ∀ (u0 : Md), qX12_next__83 Q n u0 → VV X 0 0 ([wX12 E h0 a0 u0].flatten) [(0, .ref h0)] 83 [] := by
  intro n
  induction n with
  | zero =>
    intro u0 hw
    exact hw.elim
  | succ n ih =>
    intro u0 hw
    unfold qX12_next__83 at hw
    refine v_aload_n C dX12_next__83 0 rfl ?_
    refine v_aload_n C dX12_next__84 0 rfl ?_
    refine v_get (ci := 12) C inT12 0 11 rfl rfl (by decide) mF_X12_179_X12_11 rfl dX12_next__85 ?_
    refine v_callFi (st := []) (ci := 12) (qb := 0) C (kX12_see h0 a0 _ _ hw) mM_X12_182 mI_X12 mC_X12_see mN_X12_see mS_X12_see rfl rfl hd_X12_see ⟨Nat.le_of_ble_eq_true rfl, Nat.le_of_ble_eq_true rfl⟩ ⟨Nat.le_of_ble_eq_true rfl, Nat.le_of_ble_eq_true rfl⟩ rfl (Nat.le_of_ble_eq_true rfl) dX12_next__88 (fun r88 v88_0 hw => ?_)
    refine v_i2l C dX12_next__91 ?_
    refine v_ldc2 C mJ_X12_134 dX12_next__92 ?_
    refine v_ldc2 C mJ_X12_136 dX12_next__95 ?_
    refine v_callSPi (st := []) C (kX12_in _ _ _ hw) mM_X12_125 mI_X12 mC_X12_in mT_X12_in hd_X12_in ⟨Nat.le_of_ble_eq_true rfl, Nat.le_of_ble_eq_true rfl⟩ ⟨Nat.le_of_ble_eq_true rfl, Nat.le_of_ble_eq_true rfl⟩ rfl (Nat.le_of_ble_eq_true rfl) dX12_next__98 (fun r98 U98 hw => ?_)
    obtain ⟨h01_98, hw⟩ := hw
    have hw := hw h01_98
    refine v_if_eq (tgt := 117) C dX12_next__101 (by decide) (fun hc => ?_) (fun hc => ?_)
    · have hw := hw.1 hc
      refine v_aload_n C dX12_next__117 0 rfl ?_
      refine v_iconst (v := 1) C dX12_next__118 (by decide) ?_
      obtain ⟨w119, e119⟩ : ∃ z : Md, z = sF v88_0 13 1 := ⟨_, rfl⟩
      have hw := hw w119 e119
      refine v_put (ci := 12) (ws' := [wX12 E h0 a0 w119].flatten) C tyX12 tyX12_ok nmX12 inT12 0 13 rfl rfl (by decide) mF_X12_188_X12_13 rfl rfl rfl rfl (Nat.le_of_ble_eq_true rfl) (by rw [e119]; rfl) dX12_next__119 ?_
      refine v_goto (tgt := 298) C dX12_next__122 (by decide) ?_
      exact hret _ _ _ _ w119 dX12_next__298 hw (Nat.le_of_ble_eq_true rfl) (Nat.le_of_ble_eq_true rfl)
    · have hw := hw.2 hc
      refine v_aload_n C dX12_next__104 0 rfl ?_
      refine v_dup C dX12_next__105 rfl ?_
      refine v_get (ci := 12) C inT12 0 11 rfl rfl (by decide) mF_X12_179_X12_11 rfl dX12_next__106 ?_
      refine v_iconst (v := 1) C dX12_next__109 (by decide) ?_
      refine v_iadd C dX12_next__110 ?_
      obtain ⟨w111, e111⟩ : ∃ z : Md, z = sF v88_0 11 ((gF v88_0 11) + 1) := ⟨_, rfl⟩
      have hw := hw w111 e111
      refine v_put (ci := 12) (ws' := [wX12 E h0 a0 w111].flatten) C tyX12 tyX12_ok nmX12 inT12 0 11 rfl rfl (by decide) mF_X12_179_X12_11 rfl rfl rfl rfl (Nat.le_of_ble_eq_true rfl) (by rw [e111]; rfl) dX12_next__111 ?_
      refine v_goto (tgt := 83) C dX12_next__114 (by decide) ?_
      exact ih w111 hw
set_option maxHeartbeats 4000000 in
set_option maxRecDepth 100000 in
theorem jX12_next__0 {X : VX} {E : VE} {l : Launch} (h0 : Nat) (a0 : Nat → Nat)  (Q : Md → Prop) (C : VC X cX12_next_ 3 RX12 (rmL 1 0 0) E l) (hret : RetV X cX12_next_ 0 0 (fun (U : Md) => [wX12 E h0 a0 U].flatten) (fun (U : Md) => Q U))  : ∀ (n : Nat), ∀ (u0 : Md), qX12_next__0 Q n u0 → VV X 0 0 ([wX12 E h0 a0 u0].flatten) [(0, .ref h0)] 0 [] := by
  intro n
  induction n with
  | zero =>
    intro u0 hw
    exact hw.elim
  | succ n ih =>
    intro u0 hw
    unfold qX12_next__0 at hw
    refine v_aload_n C dX12_next__0 0 rfl ?_
    refine v_aload_n C dX12_next__1 0 rfl ?_
    refine v_get (ci := 12) C inT12 0 11 rfl rfl (by decide) mF_X12_179_X12_11 rfl dX12_next__2 ?_
    refine v_callFi (st := []) (ci := 12) (qb := 0) C (kX12_see h0 a0 _ _ hw) mM_X12_182 mI_X12 mC_X12_see mN_X12_see mS_X12_see rfl rfl hd_X12_see ⟨Nat.le_of_ble_eq_true rfl, Nat.le_of_ble_eq_true rfl⟩ ⟨Nat.le_of_ble_eq_true rfl, Nat.le_of_ble_eq_true rfl⟩ rfl (Nat.le_of_ble_eq_true rfl) dX12_next__5 (fun r5 v5_0 hw => ?_)
    refine v_bipush (v := 32) C dX12_next__8 (by decide) ?_
    refine v_icmp_eq (tgt := 26) C dX12_next__10 (by decide) (fun hc => ?_) (fun hc => ?_)
    · have hw := hw.1 hc
      exact jX12_next__26 h0 a0 Q C hret (qX12_next__0 Q n) ih v5_0 hw
    · have hw := hw.2 hc
      refine v_aload_n C dX12_next__13 0 rfl ?_
      refine v_aload_n C dX12_next__14 0 rfl ?_
      refine v_get (ci := 12) C inT12 0 11 rfl rfl (by decide) mF_X12_179_X12_11 rfl dX12_next__15 ?_
      refine v_callFi (st := []) (ci := 12) (qb := 0) C (kX12_see h0 a0 _ _ hw) mM_X12_182 mI_X12 mC_X12_see mN_X12_see mS_X12_see rfl rfl hd_X12_see ⟨Nat.le_of_ble_eq_true rfl, Nat.le_of_ble_eq_true rfl⟩ ⟨Nat.le_of_ble_eq_true rfl, Nat.le_of_ble_eq_true rfl⟩ rfl (Nat.le_of_ble_eq_true rfl) dX12_next__18 (fun r18 v18_0 hw => ?_)
      refine v_bipush (v := 10) C dX12_next__21 (by decide) ?_
      refine v_icmp_ne (tgt := 39) C dX12_next__23 (by decide) (fun hc => ?_) (fun hc => ?_)
      · have hw := hw.1 hc
        refine v_aload_n C dX12_next__39 0 rfl ?_
        refine v_aload_n C dX12_next__40 0 rfl ?_
        refine v_get (ci := 12) C inT12 0 11 rfl rfl (by decide) mF_X12_179_X12_11 rfl dX12_next__41 ?_
        obtain ⟨w44, e44⟩ : ∃ z : Md, z = sF v18_0 12 (gF v18_0 11) := ⟨_, rfl⟩
        have hw := hw w44 e44
        refine v_put (ci := 12) (ws' := [wX12 E h0 a0 w44].flatten) C tyX12 tyX12_ok nmX12 inT12 0 12 rfl rfl (by decide) mF_X12_185_X12_12 rfl rfl rfl rfl (Nat.le_of_ble_eq_true rfl) (by rw [e44]; rfl) dX12_next__44 ?_
        refine v_aload_n C dX12_next__47 0 rfl ?_
        refine v_aload_n C dX12_next__48 0 rfl ?_
        refine v_get (ci := 12) C inT12 0 11 rfl rfl (by decide) mF_X12_179_X12_11 rfl dX12_next__49 ?_
        refine v_callFi (st := []) (ci := 12) (qb := 0) C (kX12_see h0 a0 _ _ hw) mM_X12_182 mI_X12 mC_X12_see mN_X12_see mS_X12_see rfl rfl hd_X12_see ⟨Nat.le_of_ble_eq_true rfl, Nat.le_of_ble_eq_true rfl⟩ ⟨Nat.le_of_ble_eq_true rfl, Nat.le_of_ble_eq_true rfl⟩ rfl (Nat.le_of_ble_eq_true rfl) dX12_next__52 (fun r52 v52_0 hw => ?_)
        refine v_istore_n (lv' := [(1, .int r52), (0, .ref h0)]) C dX12_next__55 (by decide) rfl ?_
        refine v_iload_n C dX12_next__56 0 rfl ?_
        refine v_iconst (v := (-1)) C dX12_next__57 (by decide) ?_
        refine v_icmp_ne (tgt := 69) C dX12_next__58 (by decide) (fun hc => ?_) (fun hc => ?_)
        · have hw := hw.1 hc
          refine v_iload_n C dX12_next__69 0 rfl ?_
          refine v_i2l C dX12_next__70 ?_
          refine v_ldc2 C mJ_X12_134 dX12_next__71 ?_
          refine v_ldc2 C mJ_X12_136 dX12_next__74 ?_
          refine v_callSPi (st := []) C (kX12_in _ _ _ hw) mM_X12_125 mI_X12 mC_X12_in mT_X12_in hd_X12_in ⟨Nat.le_of_ble_eq_true rfl, Nat.le_of_ble_eq_true rfl⟩ ⟨Nat.le_of_ble_eq_true rfl, Nat.le_of_ble_eq_true rfl⟩ rfl (Nat.le_of_ble_eq_true rfl) dX12_next__77 (fun r77 U77 hw => ?_)
          obtain ⟨h01_77, hw⟩ := hw
          have hw := hw h01_77
          refine v_if_eq (tgt := 125) C dX12_next__80 (by decide) (fun hc => ?_) (fun hc => ?_)
          · have hw := hw.1 hc
            refine v_aload_n C dX12_next__125 1 rfl ?_
            refine v_get (ci := 12) C inT12 0 17 rfl rfl (by decide) mF_X12_191_X12_17 rfl dX12_next__126 ?_
            refine v_if_eq (tgt := 221) C dX12_next__129 (by decide) (fun hc => ?_) (fun hc => ?_)
            · have hw := hw.1 hc
              refine v_lv C (lv' := [(0, .ref h0), (1, .int r52)]) [1, 0] rfl ?_
              exact jX12_next__221 h0 a0 Q C hret v52_0 r52 hw
            · have hw := hw.2 hc
              refine v_iload_n C dX12_next__132 0 rfl ?_
              refine v_i2l C dX12_next__133 ?_
              refine v_ldc2 C mJ_X12_195 dX12_next__134 ?_
              refine v_ldc2 C mJ_X12_197 dX12_next__137 ?_
              refine v_callSPi (st := []) C (kX12_in _ _ _ hw) mM_X12_125 mI_X12 mC_X12_in mT_X12_in hd_X12_in ⟨Nat.le_of_ble_eq_true rfl, Nat.le_of_ble_eq_true rfl⟩ ⟨Nat.le_of_ble_eq_true rfl, Nat.le_of_ble_eq_true rfl⟩ rfl (Nat.le_of_ble_eq_true rfl) dX12_next__140 (fun r140 U140 hw => ?_)
              obtain ⟨h01_140, hw⟩ := hw
              have hw := hw h01_140
              refine v_if_eq (tgt := 221) C dX12_next__143 (by decide) (fun hc => ?_) (fun hc => ?_)
              · have hw := hw.1 hc
                refine v_lv C (lv' := [(0, .ref h0), (1, .int r52)]) [1, 0] rfl ?_
                exact jX12_next__221 h0 a0 Q C hret v52_0 r52 hw
              · have hw := hw.2 hc
                refine v_aload_n C dX12_next__146 1 rfl ?_
                refine v_iconst (v := 0) C dX12_next__147 (by decide) ?_
                obtain ⟨w148, e148⟩ : ∃ z : Md, z = sF v52_0 14 0 := ⟨_, rfl⟩
                have hw := hw w148 e148
                refine v_put (ci := 12) (ws' := [wX12 E h0 a0 w148].flatten) C tyX12 tyX12_ok nmX12 inT12 0 14 rfl rfl (by decide) mF_X12_199_X12_14 rfl rfl rfl rfl (Nat.le_of_ble_eq_true rfl) (by rw [e148]; rfl) dX12_next__148 ?_
                refine v_lv C (lv' := [(0, .ref h0)]) [1] rfl ?_
                obtain ⟨n', hw⟩ := hw
                exact jX12_next__151 h0 a0 Q C hret n' w148 hw
          · have hw := hw.2 hc
            refine v_lv C (lv' := [(0, .ref h0)]) [1] rfl ?_
            obtain ⟨n', hw⟩ := hw
            exact jX12_next__83 h0 a0 Q C hret n' v52_0 hw
        · have hw := hw.2 hc
          refine v_aload_n C dX12_next__61 1 rfl ?_
          refine v_iconst (v := 0) C dX12_next__62 (by decide) ?_
          obtain ⟨w63, e63⟩ : ∃ z : Md, z = sF v52_0 13 0 := ⟨_, rfl⟩
          have hw := hw w63 e63
          refine v_put (ci := 12) (ws' := [wX12 E h0 a0 w63].flatten) C tyX12 tyX12_ok nmX12 inT12 0 13 rfl rfl (by decide) mF_X12_188_X12_13 rfl rfl rfl rfl (Nat.le_of_ble_eq_true rfl) (by rw [e63]; rfl) dX12_next__63 ?_
          refine v_goto (tgt := 298) C dX12_next__66 (by decide) ?_
          exact hret _ _ _ _ w63 dX12_next__298 hw (Nat.le_of_ble_eq_true rfl) (Nat.le_of_ble_eq_true rfl)
      · have hw := hw.2 hc
        exact jX12_next__26 h0 a0 Q C hret (qX12_next__0 Q n) ih v18_0 hw
set_option maxHeartbeats 4000000 in
set_option maxRecDepth 100000 in
theorem kX12_next_ {l : Launch} {E : VE} (h0 : Nat) (a0 : Nat → Nat) (u0 : Md) {Q : Md → Prop} (hw : qX12_next_ u0 Q) : MV l yX12_next_ cX12_next_ 3 1 0 0 E [.ref h0] ([wX12 E h0 a0 u0].flatten) (fun (U : Md) => [wX12 E h0 a0 U].flatten) (fun (U : Md) => Q U) := by
  refine MV.of (own := RX12) (by decide) rfl (Nat.le_of_ble_eq_true rfl) ?_
  intro X C hini hret
  show VV X 0 0 ([wX12 E h0 a0 u0].flatten) [(0, .ref h0)] 0 []
  unfold qX12_next_ at hw
  obtain ⟨n', hw⟩ := hw
  exact jX12_next__0 h0 a0 Q C hret n' u0 hw
set_option maxHeartbeats 4000000 in
set_option maxRecDepth 100000 in
theorem kX12_begins {l : Launch} {E : VE} (h0 : Nat) (a0 : Nat → Nat) (u0 : Md) (x1 : Int32) {Q : Md → Prop} (hw : qX12_begins u0 x1 Q) : MV l yX12_begins cX12_begins 2 2 0 0 E [.ref h0, .int x1] ([wX12 E h0 a0 u0].flatten) (fun (U : Md) => [wX12 E h0 a0 U].flatten) (fun (U : Md) => Q U) := by
  refine MV.of (own := RX12) (by decide) rfl (Nat.le_of_ble_eq_true rfl) ?_
  intro X C hini hret
  show VV X 0 0 ([wX12 E h0 a0 u0].flatten) [(0, .ref h0), (1, .int x1)] 0 []
  unfold qX12_begins at hw
  refine v_aload_n C dX12_begins_0 0 rfl ?_
  refine v_iload_n C dX12_begins_1 1 rfl ?_
  obtain ⟨h01, hw⟩ := hw
  obtain ⟨w2, e2⟩ : ∃ z : Md, z = sF u0 17 x1 := ⟨_, rfl⟩
  have hw := hw w2 e2
  refine v_put (ci := 12) (ws' := [wX12 E h0 a0 w2].flatten) C tyX12 tyX12_ok nmX12 inT12 0 17 rfl rfl (by decide) mF_X12_191_X12_17 rfl rfl (nz01 h01) (fz01 h01) (Nat.le_of_ble_eq_true rfl) (by rw [e2]; rfl) dX12_begins_2 ?_
  refine v_aload_n C dX12_begins_5 0 rfl ?_
  refine v_aload_n C dX12_begins_6 0 rfl ?_
  refine v_get (ci := 12) C inT12 0 5 rfl rfl (by decide) mF_X12_131_X12_5 rfl dX12_begins_7 ?_
  obtain ⟨w10, e10⟩ : ∃ z : Md, z = sF w2 10 (gF w2 5) := ⟨_, rfl⟩
  have hw := hw w10 e10
  refine v_put (ci := 12) (ws' := [wX12 E h0 a0 w10].flatten) C tyX12 tyX12_ok nmX12 inT12 0 10 rfl rfl (by decide) mF_X12_176_X12_10 rfl rfl rfl rfl (Nat.le_of_ble_eq_true rfl) (by rw [e10]; rfl) dX12_begins_10 ?_
  refine v_aload_n C dX12_begins_13 0 rfl ?_
  refine v_iconst (v := 0) C dX12_begins_14 (by decide) ?_
  obtain ⟨w15, e15⟩ : ∃ z : Md, z = sF w10 5 0 := ⟨_, rfl⟩
  have hw := hw w15 e15
  refine v_put (ci := 12) (ws' := [wX12 E h0 a0 w15].flatten) C tyX12 tyX12_ok nmX12 inT12 0 5 rfl rfl (by decide) mF_X12_131_X12_5 rfl rfl rfl rfl (Nat.le_of_ble_eq_true rfl) (by rw [e15]; rfl) dX12_begins_15 ?_
  refine v_aload_n C dX12_begins_18 0 rfl ?_
  refine v_iconst (v := 0) C dX12_begins_19 (by decide) ?_
  obtain ⟨w20, e20⟩ : ∃ z : Md, z = sF w15 11 0 := ⟨_, rfl⟩
  have hw := hw w20 e20
  refine v_put (ci := 12) (ws' := [wX12 E h0 a0 w20].flatten) C tyX12 tyX12_ok nmX12 inT12 0 11 rfl rfl (by decide) mF_X12_179_X12_11 rfl rfl rfl rfl (Nat.le_of_ble_eq_true rfl) (by rw [e20]; rfl) dX12_begins_20 ?_
  refine v_aload_n C dX12_begins_23 0 rfl ?_
  refine v_iconst (v := 0) C dX12_begins_24 (by decide) ?_
  obtain ⟨w25, e25⟩ : ∃ z : Md, z = sF w20 15 0 := ⟨_, rfl⟩
  have hw := hw w25 e25
  refine v_put (ci := 12) (ws' := [wX12 E h0 a0 w25].flatten) C tyX12 tyX12_ok nmX12 inT12 0 15 rfl rfl (by decide) mF_X12_203_X12_15 rfl rfl rfl rfl (Nat.le_of_ble_eq_true rfl) (by rw [e25]; rfl) dX12_begins_25 ?_
  refine v_aload_n C dX12_begins_28 0 rfl ?_
  refine v_iconst (v := (-1)) C dX12_begins_29 (by decide) ?_
  obtain ⟨w30, e30⟩ : ∃ z : Md, z = sF w25 16 ((-1)) := ⟨_, rfl⟩
  have hw := hw w30 e30
  refine v_put (ci := 12) (ws' := [wX12 E h0 a0 w30].flatten) C tyX12 tyX12_ok nmX12 inT12 0 16 rfl rfl (by decide) mF_X12_37_X12_16 rfl rfl rfl rfl (Nat.le_of_ble_eq_true rfl) (by rw [e30]; rfl) dX12_begins_30 ?_
  refine v_aload_n C dX12_begins_33 0 rfl ?_
  refine v_callFv (st := []) (ci := 12) (qb := 0) C (kX12_next_ h0 a0 _ hw) mM_X12_206 mI_X12 mC_X12_next_ mN_X12_next_ mS_X12_next_ rfl rfl hd_X12_next_ ⟨Nat.le_of_ble_eq_true rfl, Nat.le_of_ble_eq_true rfl⟩ ⟨Nat.le_of_ble_eq_true rfl, Nat.le_of_ble_eq_true rfl⟩ rfl (Nat.le_of_ble_eq_true rfl) dX12_begins_34 (fun v34_0 hw => ?_)
  exact hret _ _ _ _ v34_0 dX12_begins_37 hw (Nat.le_of_ble_eq_true rfl) (Nat.le_of_ble_eq_true rfl)
set_option maxHeartbeats 4000000 in
set_option maxRecDepth 100000 in
theorem kX12_good {l : Launch} {E : VE} (h0 : Nat) (a0 : Nat → Nat) (u0 : Md) {Q : Int32 → Md → Prop} (hw : qX12_good u0 Q) : MI l yX12_good cX12_good 1 .boolean 0 0 0 E [.ref h0] ([wX12 E h0 a0 u0].flatten) (fun (U : Md) => [wX12 E h0 a0 U].flatten) (fun (r : Int32) (U : Md) => (r = 0 ∨ r = 1) ∧ Q r U) := by
  refine MI.of (own := RX12) (by decide) rfl (Nat.le_of_ble_eq_true rfl) ?_
  intro X C hini hret
  show VV X 0 0 ([wX12 E h0 a0 u0].flatten) [(0, .ref h0)] 0 []
  unfold qX12_good at hw
  refine v_aload_n C dX12_good_0 0 rfl ?_
  refine v_get (ci := 12) C inT12 0 15 rfl rfl (by decide) mF_X12_203_X12_15 rfl dX12_good_1 ?_
  refine v_if_ne (tgt := 11) C dX12_good_4 (by decide) (fun hc => ?_) (fun hc => ?_)
  · have hw := hw.1 hc
    refine v_iconst (v := 0) C dX12_good_11 (by decide) ?_
    exact hret _ _ _ _ 0 u0 dX12_good_12 rfl ⟨Or.inl rfl, hw⟩ (Nat.le_of_ble_eq_true rfl) (Nat.le_of_ble_eq_true rfl)
  · have hw := hw.2 hc
    refine v_iconst (v := 1) C dX12_good_7 (by decide) ?_
    refine v_goto (tgt := 12) C dX12_good_8 (by decide) ?_
    exact hret _ _ _ _ 1 u0 dX12_good_12 rfl ⟨Or.inr rfl, hw⟩ (Nat.le_of_ble_eq_true rfl) (Nat.le_of_ble_eq_true rfl)
set_option maxHeartbeats 4000000 in
set_option maxRecDepth 100000 in
theorem kX12_wrong {l : Launch} {E : VE} (h0 : Nat) (a0 : Nat → Nat) (u0 : Md) (x1 : Int32) {Q : Md → Prop} (hw : qX12_wrong u0 x1 Q) : MV l yX12_wrong cX12_wrong 2 1 0 0 E [.ref h0, .int x1] ([wX12 E h0 a0 u0].flatten) (fun (U : Md) => [wX12 E h0 a0 U].flatten) (fun (U : Md) => Q U) := by
  refine MV.of (own := RX12) (by decide) rfl (Nat.le_of_ble_eq_true rfl) ?_
  intro X C hini hret
  show VV X 0 0 ([wX12 E h0 a0 u0].flatten) [(0, .ref h0), (1, .int x1)] 0 []
  unfold qX12_wrong at hw
  refine v_aload_n C dX12_wrong_0 0 rfl ?_
  refine v_callFi (st := []) (ci := 12) (qb := 0) C (kX12_good h0 a0 _ hw) mM_X12_209 mI_X12 mC_X12_good mN_X12_good mS_X12_good rfl rfl hd_X12_good ⟨Nat.le_of_ble_eq_true rfl, Nat.le_of_ble_eq_true rfl⟩ ⟨Nat.le_of_ble_eq_true rfl, Nat.le_of_ble_eq_true rfl⟩ rfl (Nat.le_of_ble_eq_true rfl) dX12_wrong_1 (fun r1 v1_0 hw => ?_)
  obtain ⟨h01_1, hw⟩ := hw
  have hw := hw h01_1
  refine v_if_ne (tgt := 8) C dX12_wrong_4 (by decide) (fun hc => ?_) (fun hc => ?_)
  · have hw := hw.1 hc
    refine v_aload_n C dX12_wrong_8 0 rfl ?_
    refine v_iload_n C dX12_wrong_9 1 rfl ?_
    obtain ⟨w10, e10⟩ : ∃ z : Md, z = sF v1_0 15 x1 := ⟨_, rfl⟩
    have hw := hw w10 e10
    refine v_put (ci := 12) (ws' := [wX12 E h0 a0 w10].flatten) C tyX12 tyX12_ok nmX12 inT12 0 15 rfl rfl (by decide) mF_X12_203_X12_15 rfl rfl rfl rfl (Nat.le_of_ble_eq_true rfl) (by rw [e10]; rfl) dX12_wrong_10 ?_
    refine v_aload_n C dX12_wrong_13 0 rfl ?_
    refine v_aload_n C dX12_wrong_14 0 rfl ?_
    refine v_get (ci := 12) C inT12 0 12 rfl rfl (by decide) mF_X12_185_X12_12 rfl dX12_wrong_15 ?_
    obtain ⟨w18, e18⟩ : ∃ z : Md, z = sF w10 16 (gF w10 12) := ⟨_, rfl⟩
    have hw := hw w18 e18
    refine v_put (ci := 12) (ws' := [wX12 E h0 a0 w18].flatten) C tyX12 tyX12_ok nmX12 inT12 0 16 rfl rfl (by decide) mF_X12_37_X12_16 rfl rfl rfl rfl (Nat.le_of_ble_eq_true rfl) (by rw [e18]; rfl) dX12_wrong_18 ?_
    exact hret _ _ _ _ w18 dX12_wrong_21 hw (Nat.le_of_ble_eq_true rfl) (Nat.le_of_ble_eq_true rfl)
  · have hw := hw.2 hc
    exact hret _ _ _ _ v1_0 dX12_wrong_7 hw (Nat.le_of_ble_eq_true rfl) (Nat.le_of_ble_eq_true rfl)
set_option maxHeartbeats 4000000 in
set_option maxRecDepth 100000 in
theorem jX12_is_39 {X : VX} {E : VE} {l : Launch} (h0 : Nat) (a0 : Nat → Nat) (k1 : Nat) (hk1 : k1 < 16) (Q : Int32 → Md → Prop) (C : VC X cX12_is 4 RX12 (rmL 4 0 0) E l) (hret : RetI X cX12_is .boolean 0 0 (fun (U : Md) => [wX12 E h0 a0 U].flatten) (fun (r : Int32) (U : Md) => (r = 0 ∨ r = 1) ∧ Q r U))  : ∀ (n : Nat), ∀ (u0 : Md) (y2 : Int32) (y3 : Int32), qX12_is_39 k1 Q n u0 y2 y3 → VV X 0 0 ([wX12 E h0 a0 u0].flatten) [(0, .ref h0), (1, .ref ((E.2.2.1 k1))), (2, .int y2), (3, .int y3)] 39 [] := by
  intro n
  induction n with
  | zero =>
    intro u0 y2 y3 hw
    exact hw.elim
  | succ n ih =>
    intro u0 y2 y3 hw
    unfold qX12_is_39 at hw
    refine v_iload_n C dX12_is_39 3 rfl ?_
    refine v_aload_n C dX12_is_40 1 rfl ?_
    refine v_slen C k1 hk1 mM_X12_213 ⟨Nat.le_of_ble_eq_true rfl, Nat.le_of_ble_eq_true rfl⟩ ⟨Nat.le_of_ble_eq_true rfl, Nat.le_of_ble_eq_true rfl⟩ (Nat.le_of_ble_eq_true rfl) dX12_is_41 ?_
    refine v_icmp_ge (tgt := 82) C dX12_is_44 (by decide) (fun hc => ?_) (fun hc => ?_)
    · have hw := hw.1 hc
      refine v_iload_n C dX12_is_82 2 rfl ?_
      obtain ⟨h01, hw⟩ := hw
      exact hret _ _ _ _ y2 u0 dX12_is_83 (nz01 h01) ⟨h01, hw⟩ (Nat.le_of_ble_eq_true rfl) (Nat.le_of_ble_eq_true rfl)
    · have hw := hw.2 hc
      refine v_iload_n C dX12_is_47 2 rfl ?_
      refine v_if_eq (tgt := 82) C dX12_is_48 (by decide) (fun hc => ?_) (fun hc => ?_)
      · have hw := hw.1 hc
        refine v_iload_n C dX12_is_82 2 rfl ?_
        obtain ⟨h01, hw⟩ := hw
        exact hret _ _ _ _ y2 u0 dX12_is_83 (nz01 h01) ⟨h01, hw⟩ (Nat.le_of_ble_eq_true rfl) (Nat.le_of_ble_eq_true rfl)
      · have hw := hw.2 hc
        refine v_aload_n C dX12_is_51 0 rfl ?_
        refine v_get (ci := 12) C inT12 0 4 rfl rfl (by decide) mF_X12_21_X12_4 rfl dX12_is_52 ?_
        refine v_aload_n C dX12_is_55 0 rfl ?_
        refine v_get (ci := 12) C inT12 0 12 rfl rfl (by decide) mF_X12_185_X12_12 rfl dX12_is_56 ?_
        refine v_iload_n C dX12_is_59 3 rfl ?_
        refine v_iadd C dX12_is_60 ?_
        obtain ⟨hi61, hw⟩ := hw
        refine v_bald C 4 rfl hi61 dX12_is_61 ?_
        refine v_aload_n C dX12_is_62 1 rfl ?_
        refine v_iload_n C dX12_is_63 3 rfl ?_
        obtain ⟨hi64, hw⟩ := hw
        refine v_schar C k1 hk1 mM_X12_218 hi64 ⟨Nat.le_of_ble_eq_true rfl, Nat.le_of_ble_eq_true rfl⟩ ⟨Nat.le_of_ble_eq_true rfl, Nat.le_of_ble_eq_true rfl⟩ (Nat.le_of_ble_eq_true rfl) dX12_is_64 ?_
        refine v_icmp_ne (tgt := 74) C dX12_is_67 (by decide) (fun hc => ?_) (fun hc => ?_)
        · have hw := hw.1 hc
          refine v_iconst (v := 0) C dX12_is_74 (by decide) ?_
          refine v_istore_n (lv' := [(2, .int 0), (0, .ref h0), (1, .ref ((E.2.2.1 k1))), (3, .int y3)]) C dX12_is_75 (by decide) rfl ?_
          refine v_iinc (lv' := [(3, .int (y3 + Int32.ofInt 1)), (2, .int 0), (0, .ref h0), (1, .ref ((E.2.2.1 k1)))]) C dX12_is_76 3 rfl (by decide) rfl ?_
          refine v_goto (tgt := 39) C dX12_is_79 (by decide) ?_
          refine v_lv C (lv' := [(0, .ref h0), (1, .ref ((E.2.2.1 k1))), (2, .int 0), (3, .int (y3 + Int32.ofInt 1))]) [2, 3, 1, 0] rfl ?_
          exact ih u0 0 (y3 + Int32.ofInt 1) hw
        · have hw := hw.2 hc
          refine v_iconst (v := 1) C dX12_is_70 (by decide) ?_
          refine v_goto (tgt := 75) C dX12_is_71 (by decide) ?_
          refine v_istore_n (lv' := [(2, .int 1), (0, .ref h0), (1, .ref ((E.2.2.1 k1))), (3, .int y3)]) C dX12_is_75 (by decide) rfl ?_
          refine v_iinc (lv' := [(3, .int (y3 + Int32.ofInt 1)), (2, .int 1), (0, .ref h0), (1, .ref ((E.2.2.1 k1)))]) C dX12_is_76 3 rfl (by decide) rfl ?_
          refine v_goto (tgt := 39) C dX12_is_79 (by decide) ?_
          refine v_lv C (lv' := [(0, .ref h0), (1, .ref ((E.2.2.1 k1))), (2, .int 1), (3, .int (y3 + Int32.ofInt 1))]) [2, 3, 1, 0] rfl ?_
          exact ih u0 1 (y3 + Int32.ofInt 1) hw
set_option maxHeartbeats 4000000 in
set_option maxRecDepth 100000 in
theorem jX12_is_35 {X : VX} {E : VE} {l : Launch} (h0 : Nat) (a0 : Nat → Nat) (k1 : Nat) (hk1 : k1 < 16) (Q : Int32 → Md → Prop) (C : VC X cX12_is 4 RX12 (rmL 4 0 0) E l) (hret : RetI X cX12_is .boolean 0 0 (fun (U : Md) => [wX12 E h0 a0 U].flatten) (fun (r : Int32) (U : Md) => (r = 0 ∨ r = 1) ∧ Q r U))  : ∀ (u0 : Md), qX12_is_35 k1 Q u0 → VV X 0 0 ([wX12 E h0 a0 u0].flatten) [(0, .ref h0), (1, .ref ((E.2.2.1 k1)))] 35 [] := by
  intro u0 hw
  unfold qX12_is_35 at hw
  refine v_iconst (v := 0) C dX12_is_35 (by decide) ?_
  refine v_istore_n (lv' := [(2, .int 0), (0, .ref h0), (1, .ref ((E.2.2.1 k1)))]) C dX12_is_36 (by decide) rfl ?_
  refine v_iconst (v := 0) C dX12_is_37 (by decide) ?_
  refine v_istore_n (lv' := [(3, .int 0), (2, .int 0), (0, .ref h0), (1, .ref ((E.2.2.1 k1)))]) C dX12_is_38 (by decide) rfl ?_
  refine v_lv C (lv' := [(0, .ref h0), (1, .ref ((E.2.2.1 k1))), (2, .int 0), (3, .int 0)]) [2, 3, 1, 0] rfl ?_
  obtain ⟨n', hw⟩ := hw
  exact jX12_is_39 h0 a0 k1 hk1 Q C hret n' u0 0 0 hw
set_option maxHeartbeats 4000000 in
set_option maxRecDepth 100000 in
theorem kX12_is {l : Launch} {E : VE} (h0 : Nat) (a0 : Nat → Nat) (u0 : Md) (k1 : Nat) (hk1 : k1 < 16) {Q : Int32 → Md → Prop} (hw : qX12_is u0 k1 Q) : MI l yX12_is cX12_is 4 .boolean 4 0 0 E [.ref h0, .ref ((E.2.2.1 k1))] ([wX12 E h0 a0 u0].flatten) (fun (U : Md) => [wX12 E h0 a0 U].flatten) (fun (r : Int32) (U : Md) => (r = 0 ∨ r = 1) ∧ Q r U) := by
  refine MI.of (own := RX12) (by decide) rfl (Nat.le_of_ble_eq_true rfl) ?_
  intro X C hini hret
  show VV X 0 0 ([wX12 E h0 a0 u0].flatten) [(0, .ref h0), (1, .ref ((E.2.2.1 k1)))] 0 []
  unfold qX12_is at hw
  refine v_aload_n C dX12_is_0 0 rfl ?_
  refine v_callFi (st := []) (ci := 12) (qb := 0) C (kX12_good h0 a0 _ hw) mM_X12_209 mI_X12 mC_X12_good mN_X12_good mS_X12_good rfl rfl hd_X12_good ⟨Nat.le_of_ble_eq_true rfl, Nat.le_of_ble_eq_true rfl⟩ ⟨Nat.le_of_ble_eq_true rfl, Nat.le_of_ble_eq_true rfl⟩ rfl (Nat.le_of_ble_eq_true rfl) dX12_is_1 (fun r1 v1_0 hw => ?_)
  obtain ⟨h01_1, hw⟩ := hw
  have hw := hw h01_1
  refine v_if_eq (tgt := 35) C dX12_is_4 (by decide) (fun hc => ?_) (fun hc => ?_)
  · have hw := hw.1 hc
    exact jX12_is_35 h0 a0 k1 hk1 Q C hret v1_0 hw
  · have hw := hw.2 hc
    refine v_aload_n C dX12_is_7 0 rfl ?_
    refine v_get (ci := 12) C inT12 0 13 rfl rfl (by decide) mF_X12_188_X12_13 rfl dX12_is_8 ?_
    refine v_iconst (v := 1) C dX12_is_11 (by decide) ?_
    refine v_icmp_ne (tgt := 35) C dX12_is_12 (by decide) (fun hc => ?_) (fun hc => ?_)
    · have hw := hw.1 hc
      exact jX12_is_35 h0 a0 k1 hk1 Q C hret v1_0 hw
    · have hw := hw.2 hc
      refine v_aload_n C dX12_is_15 0 rfl ?_
      refine v_get (ci := 12) C inT12 0 11 rfl rfl (by decide) mF_X12_179_X12_11 rfl dX12_is_16 ?_
      refine v_aload_n C dX12_is_19 0 rfl ?_
      refine v_get (ci := 12) C inT12 0 12 rfl rfl (by decide) mF_X12_185_X12_12 rfl dX12_is_20 ?_
      refine v_isub C dX12_is_23 ?_
      refine v_aload_n C dX12_is_24 1 rfl ?_
      refine v_slen C k1 hk1 mM_X12_213 ⟨Nat.le_of_ble_eq_true rfl, Nat.le_of_ble_eq_true rfl⟩ ⟨Nat.le_of_ble_eq_true rfl, Nat.le_of_ble_eq_true rfl⟩ (Nat.le_of_ble_eq_true rfl) dX12_is_25 ?_
      refine v_icmp_ne (tgt := 35) C dX12_is_28 (by decide) (fun hc => ?_) (fun hc => ?_)
      · have hw := hw.1 hc
        exact jX12_is_35 h0 a0 k1 hk1 Q C hret v1_0 hw
      · have hw := hw.2 hc
        refine v_iconst (v := 1) C dX12_is_31 (by decide) ?_
        refine v_goto (tgt := 36) C dX12_is_32 (by decide) ?_
        refine v_istore_n (lv' := [(2, .int 1), (0, .ref h0), (1, .ref ((E.2.2.1 k1)))]) C dX12_is_36 (by decide) rfl ?_
        refine v_iconst (v := 0) C dX12_is_37 (by decide) ?_
        refine v_istore_n (lv' := [(3, .int 0), (2, .int 1), (0, .ref h0), (1, .ref ((E.2.2.1 k1)))]) C dX12_is_38 (by decide) rfl ?_
        refine v_lv C (lv' := [(0, .ref h0), (1, .ref ((E.2.2.1 k1))), (2, .int 1), (3, .int 0)]) [2, 3, 1, 0] rfl ?_
        obtain ⟨n', hw⟩ := hw
        exact jX12_is_39 h0 a0 k1 hk1 Q C hret n' v1_0 1 0 hw
set_option maxHeartbeats 4000000 in
set_option maxRecDepth 100000 in
theorem kX12_isSign {l : Launch} {E : VE} (h0 : Nat) (a0 : Nat → Nat) (u0 : Md) (x1 : Int32) {Q : Int32 → Md → Prop} (hw : qX12_isSign u0 x1 Q) : MI l yX12_isSign cX12_isSign 2 .boolean 1 0 0 E [.ref h0, .int x1] ([wX12 E h0 a0 u0].flatten) (fun (U : Md) => [wX12 E h0 a0 U].flatten) (fun (r : Int32) (U : Md) => (r = 0 ∨ r = 1) ∧ Q r U) := by
  refine MI.of (own := RX12) (by decide) rfl (Nat.le_of_ble_eq_true rfl) ?_
  intro X C hini hret
  show VV X 0 0 ([wX12 E h0 a0 u0].flatten) [(0, .ref h0), (1, .int x1)] 0 []
  unfold qX12_isSign at hw
  refine v_aload_n C dX12_isSign_0 0 rfl ?_
  refine v_callFi (st := []) (ci := 12) (qb := 0) C (kX12_good h0 a0 _ hw) mM_X12_209 mI_X12 mC_X12_good mN_X12_good mS_X12_good rfl rfl hd_X12_good ⟨Nat.le_of_ble_eq_true rfl, Nat.le_of_ble_eq_true rfl⟩ ⟨Nat.le_of_ble_eq_true rfl, Nat.le_of_ble_eq_true rfl⟩ rfl (Nat.le_of_ble_eq_true rfl) dX12_isSign_1 (fun r1 v1_0 hw => ?_)
  obtain ⟨h01_1, hw⟩ := hw
  have hw := hw h01_1
  refine v_if_eq (tgt := 27) C dX12_isSign_4 (by decide) (fun hc => ?_) (fun hc => ?_)
  · have hw := hw.1 hc
    refine v_iconst (v := 0) C dX12_isSign_27 (by decide) ?_
    exact hret _ _ _ _ 0 v1_0 dX12_isSign_28 rfl ⟨Or.inl rfl, hw⟩ (Nat.le_of_ble_eq_true rfl) (Nat.le_of_ble_eq_true rfl)
  · have hw := hw.2 hc
    refine v_aload_n C dX12_isSign_7 0 rfl ?_
    refine v_get (ci := 12) C inT12 0 13 rfl rfl (by decide) mF_X12_188_X12_13 rfl dX12_isSign_8 ?_
    refine v_iconst (v := 3) C dX12_isSign_11 (by decide) ?_
    refine v_icmp_ne (tgt := 27) C dX12_isSign_12 (by decide) (fun hc => ?_) (fun hc => ?_)
    · have hw := hw.1 hc
      refine v_iconst (v := 0) C dX12_isSign_27 (by decide) ?_
      exact hret _ _ _ _ 0 v1_0 dX12_isSign_28 rfl ⟨Or.inl rfl, hw⟩ (Nat.le_of_ble_eq_true rfl) (Nat.le_of_ble_eq_true rfl)
    · have hw := hw.2 hc
      refine v_aload_n C dX12_isSign_15 0 rfl ?_
      refine v_get (ci := 12) C inT12 0 14 rfl rfl (by decide) mF_X12_199_X12_14 rfl dX12_isSign_16 ?_
      refine v_iload_n C dX12_isSign_19 1 rfl ?_
      refine v_icmp_ne (tgt := 27) C dX12_isSign_20 (by decide) (fun hc => ?_) (fun hc => ?_)
      · have hw := hw.1 hc
        refine v_iconst (v := 0) C dX12_isSign_27 (by decide) ?_
        exact hret _ _ _ _ 0 v1_0 dX12_isSign_28 rfl ⟨Or.inl rfl, hw⟩ (Nat.le_of_ble_eq_true rfl) (Nat.le_of_ble_eq_true rfl)
      · have hw := hw.2 hc
        refine v_iconst (v := 1) C dX12_isSign_23 (by decide) ?_
        refine v_goto (tgt := 28) C dX12_isSign_24 (by decide) ?_
        exact hret _ _ _ _ 1 v1_0 dX12_isSign_28 rfl ⟨Or.inr rfl, hw⟩ (Nat.le_of_ble_eq_true rfl) (Nat.le_of_ble_eq_true rfl)
set_option maxHeartbeats 4000000 in
set_option maxRecDepth 100000 in
theorem jX12_needSign_13 {X : VX} {E : VE} {l : Launch} (h0 : Nat) (a0 : Nat → Nat)  (Q : Md → Prop) (C : VC X cX12_needSign 2 RX12 (rmL 2 0 0) E l) (hret : RetV X cX12_needSign 0 0 (fun (U : Md) => [wX12 E h0 a0 U].flatten) (fun (U : Md) => Q U))  : ∀ (u0 : Md), qX12_needSign_13 Q u0 → VV X 0 0 ([wX12 E h0 a0 u0].flatten) [(0, .ref h0)] 13 [] := by
  intro u0 hw
  unfold qX12_needSign_13 at hw
  refine v_aload_n C dX12_needSign_13 0 rfl ?_
  refine v_callFi (st := []) (ci := 12) (qb := 0) C (kX12_good h0 a0 _ hw) mM_X12_209 mI_X12 mC_X12_good mN_X12_good mS_X12_good rfl rfl hd_X12_good ⟨Nat.le_of_ble_eq_true rfl, Nat.le_of_ble_eq_true rfl⟩ ⟨Nat.le_of_ble_eq_true rfl, Nat.le_of_ble_eq_true rfl⟩ rfl (Nat.le_of_ble_eq_true rfl) dX12_needSign_14 (fun r14 v14_0 hw => ?_)
  obtain ⟨h01_14, hw⟩ := hw
  have hw := hw h01_14
  refine v_if_eq (tgt := 24) C dX12_needSign_17 (by decide) (fun hc => ?_) (fun hc => ?_)
  · have hw := hw.1 hc
    exact hret _ _ _ _ v14_0 dX12_needSign_24 hw (Nat.le_of_ble_eq_true rfl) (Nat.le_of_ble_eq_true rfl)
  · have hw := hw.2 hc
    refine v_aload_n C dX12_needSign_20 0 rfl ?_
    refine v_callFv (st := []) (ci := 12) (qb := 0) C (kX12_next_ h0 a0 _ hw) mM_X12_206 mI_X12 mC_X12_next_ mN_X12_next_ mS_X12_next_ rfl rfl hd_X12_next_ ⟨Nat.le_of_ble_eq_true rfl, Nat.le_of_ble_eq_true rfl⟩ ⟨Nat.le_of_ble_eq_true rfl, Nat.le_of_ble_eq_true rfl⟩ rfl (Nat.le_of_ble_eq_true rfl) dX12_needSign_21 (fun v21_0 hw => ?_)
    exact hret _ _ _ _ v21_0 dX12_needSign_24 hw (Nat.le_of_ble_eq_true rfl) (Nat.le_of_ble_eq_true rfl)
set_option maxHeartbeats 4000000 in
set_option maxRecDepth 100000 in
theorem kX12_needSign {l : Launch} {E : VE} (h0 : Nat) (a0 : Nat → Nat) (u0 : Md) (x1 : Int32) {Q : Md → Prop} (hw : qX12_needSign u0 x1 Q) : MV l yX12_needSign cX12_needSign 2 2 0 0 E [.ref h0, .int x1] ([wX12 E h0 a0 u0].flatten) (fun (U : Md) => [wX12 E h0 a0 U].flatten) (fun (U : Md) => Q U) := by
  refine MV.of (own := RX12) (by decide) rfl (Nat.le_of_ble_eq_true rfl) ?_
  intro X C hini hret
  show VV X 0 0 ([wX12 E h0 a0 u0].flatten) [(0, .ref h0), (1, .int x1)] 0 []
  unfold qX12_needSign at hw
  refine v_aload_n C dX12_needSign_0 0 rfl ?_
  refine v_iload_n C dX12_needSign_1 1 rfl ?_
  refine v_callFi (st := []) (ci := 12) (qb := 0) C (kX12_isSign h0 a0 _ _ hw) mM_X12_222 mI_X12 mC_X12_isSign mN_X12_isSign mS_X12_isSign rfl rfl hd_X12_isSign ⟨Nat.le_of_ble_eq_true rfl, Nat.le_of_ble_eq_true rfl⟩ ⟨Nat.le_of_ble_eq_true rfl, Nat.le_of_ble_eq_true rfl⟩ rfl (Nat.le_of_ble_eq_true rfl) dX12_needSign_2 (fun r2 v2_0 hw => ?_)
  obtain ⟨h01_2, hw⟩ := hw
  have hw := hw h01_2
  refine v_if_ne (tgt := 13) C dX12_needSign_5 (by decide) (fun hc => ?_) (fun hc => ?_)
  · have hw := hw.1 hc
    refine v_lv C (lv' := [(0, .ref h0)]) [0] rfl ?_
    exact jX12_needSign_13 h0 a0 Q C hret v2_0 hw
  · have hw := hw.2 hc
    refine v_aload_n C dX12_needSign_8 0 rfl ?_
    refine v_iconst (v := 1) C dX12_needSign_9 (by decide) ?_
    refine v_callFv (st := []) (ci := 12) (qb := 0) C (kX12_wrong h0 a0 _ _ hw) mM_X12_225 mI_X12 mC_X12_wrong mN_X12_wrong mS_X12_wrong rfl rfl hd_X12_wrong ⟨Nat.le_of_ble_eq_true rfl, Nat.le_of_ble_eq_true rfl⟩ ⟨Nat.le_of_ble_eq_true rfl, Nat.le_of_ble_eq_true rfl⟩ rfl (Nat.le_of_ble_eq_true rfl) dX12_needSign_10 (fun v10_0 hw => ?_)
    refine v_lv C (lv' := [(0, .ref h0)]) [0] rfl ?_
    exact jX12_needSign_13 h0 a0 Q C hret v10_0 hw
set_option maxHeartbeats 4000000 in
set_option maxRecDepth 100000 in
theorem kX12_takes {l : Launch} {E : VE} (h0 : Nat) (a0 : Nat → Nat) (u0 : Md) (k1 : Nat) (hk1 : k1 < 16) {Q : Int32 → Md → Prop} (hw : qX12_takes u0 k1 Q) : MI l yX12_takes cX12_takes 3 .boolean 5 0 0 E [.ref h0, .ref ((E.2.2.1 k1))] ([wX12 E h0 a0 u0].flatten) (fun (U : Md) => [wX12 E h0 a0 U].flatten) (fun (r : Int32) (U : Md) => (r = 0 ∨ r = 1) ∧ Q r U) := by
  refine MI.of (own := RX12) (by decide) rfl (Nat.le_of_ble_eq_true rfl) ?_
  intro X C hini hret
  show VV X 0 0 ([wX12 E h0 a0 u0].flatten) [(0, .ref h0), (1, .ref ((E.2.2.1 k1)))] 0 []
  unfold qX12_takes at hw
  refine v_aload_n C dX12_takes_0 0 rfl ?_
  refine v_aload_n C dX12_takes_1 1 rfl ?_
  refine v_callFi (st := []) (ci := 12) (qb := 0) C (kX12_is h0 a0 _ _ hk1 hw) mM_X12_228 mI_X12 mC_X12_is mN_X12_is mS_X12_is rfl rfl hd_X12_is ⟨Nat.le_of_ble_eq_true rfl, Nat.le_of_ble_eq_true rfl⟩ ⟨Nat.le_of_ble_eq_true rfl, Nat.le_of_ble_eq_true rfl⟩ rfl (Nat.le_of_ble_eq_true rfl) dX12_takes_2 (fun r2 v2_0 hw => ?_)
  obtain ⟨h01_2, hw⟩ := hw
  have hw := hw h01_2
  refine v_istore_n (lv' := [(2, .int r2), (0, .ref h0), (1, .ref ((E.2.2.1 k1)))]) C dX12_takes_5 (by decide) rfl ?_
  refine v_iload_n C dX12_takes_6 0 rfl ?_
  refine v_if_eq (tgt := 14) C dX12_takes_7 (by decide) (fun hc => ?_) (fun hc => ?_)
  · have hw := hw.1 hc
    refine v_iload_n C dX12_takes_14 0 rfl ?_
    exact hret _ _ _ _ r2 v2_0 dX12_takes_15 (nz01 h01_2) ⟨h01_2, hw⟩ (Nat.le_of_ble_eq_true rfl) (Nat.le_of_ble_eq_true rfl)
  · have hw := hw.2 hc
    refine v_aload_n C dX12_takes_10 1 rfl ?_
    refine v_callFv (st := []) (ci := 12) (qb := 0) C (kX12_next_ h0 a0 _ hw) mM_X12_206 mI_X12 mC_X12_next_ mN_X12_next_ mS_X12_next_ rfl rfl hd_X12_next_ ⟨Nat.le_of_ble_eq_true rfl, Nat.le_of_ble_eq_true rfl⟩ ⟨Nat.le_of_ble_eq_true rfl, Nat.le_of_ble_eq_true rfl⟩ rfl (Nat.le_of_ble_eq_true rfl) dX12_takes_11 (fun v11_0 hw => ?_)
    refine v_iload_n C dX12_takes_14 0 rfl ?_
    exact hret _ _ _ _ r2 v11_0 dX12_takes_15 (nz01 h01_2) ⟨h01_2, hw⟩ (Nat.le_of_ble_eq_true rfl) (Nat.le_of_ble_eq_true rfl)
set_option maxHeartbeats 4000000 in
set_option maxRecDepth 100000 in
theorem jX12_number_29 {X : VX} {E : VE} {l : Launch} (h0 : Nat) (a0 : Nat → Nat)  (Q : Int32 → Md → Prop) (C : VC X cX12_number 3 RX12 (rmL 2 0 0) E l) (hret : RetI X cX12_number .int 0 0 (fun (U : Md) => [wX12 E h0 a0 U].flatten) (fun (r : Int32) (U : Md) => Q r U))  : ∀ (u0 : Md), qX12_number_29 Q u0 → VV X 0 0 ([wX12 E h0 a0 u0].flatten) [(0, .ref h0)] 29 [] := by
  intro u0 hw
  unfold qX12_number_29 at hw
  refine v_aload_n C dX12_number_29 0 rfl ?_
  refine v_callFi (st := []) (ci := 12) (qb := 0) C (kX12_good h0 a0 _ hw) mM_X12_209 mI_X12 mC_X12_good mN_X12_good mS_X12_good rfl rfl hd_X12_good ⟨Nat.le_of_ble_eq_true rfl, Nat.le_of_ble_eq_true rfl⟩ ⟨Nat.le_of_ble_eq_true rfl, Nat.le_of_ble_eq_true rfl⟩ rfl (Nat.le_of_ble_eq_true rfl) dX12_number_30 (fun r30 v30_0 hw => ?_)
  obtain ⟨h01_30, hw⟩ := hw
  have hw := hw h01_30
  refine v_if_ne (tgt := 38) C dX12_number_33 (by decide) (fun hc => ?_) (fun hc => ?_)
  · have hw := hw.1 hc
    refine v_aload_n C dX12_number_38 0 rfl ?_
    refine v_get (ci := 12) C inT12 0 14 rfl rfl (by decide) mF_X12_199_X12_14 rfl dX12_number_39 ?_
    refine v_istore_n (lv' := [(2, .int (gF v30_0 14)), (0, .ref h0)]) C dX12_number_42 (by decide) rfl ?_
    refine v_aload_n C dX12_number_43 1 rfl ?_
    refine v_callFv (st := []) (ci := 12) (qb := 0) C (kX12_next_ h0 a0 _ hw) mM_X12_206 mI_X12 mC_X12_next_ mN_X12_next_ mS_X12_next_ rfl rfl hd_X12_next_ ⟨Nat.le_of_ble_eq_true rfl, Nat.le_of_ble_eq_true rfl⟩ ⟨Nat.le_of_ble_eq_true rfl, Nat.le_of_ble_eq_true rfl⟩ rfl (Nat.le_of_ble_eq_true rfl) dX12_number_44 (fun v44_0 hw => ?_)
    refine v_iload_n C dX12_number_47 0 rfl ?_
    exact hret _ _ _ _ (gF v30_0 14) v44_0 dX12_number_48 rfl hw (Nat.le_of_ble_eq_true rfl) (Nat.le_of_ble_eq_true rfl)
  · have hw := hw.2 hc
    refine v_iconst (v := 0) C dX12_number_36 (by decide) ?_
    exact hret _ _ _ _ 0 v30_0 dX12_number_37 rfl hw (Nat.le_of_ble_eq_true rfl) (Nat.le_of_ble_eq_true rfl)
set_option maxHeartbeats 4000000 in
set_option maxRecDepth 100000 in
theorem kX12_number {l : Launch} {E : VE} (h0 : Nat) (a0 : Nat → Nat) (u0 : Md) (x1 : Int32) {Q : Int32 → Md → Prop} (hw : qX12_number u0 x1 Q) : MI l yX12_number cX12_number 3 .int 2 0 0 E [.ref h0, .int x1] ([wX12 E h0 a0 u0].flatten) (fun (U : Md) => [wX12 E h0 a0 U].flatten) (fun (r : Int32) (U : Md) => Q r U) := by
  refine MI.of (own := RX12) (by decide) rfl (Nat.le_of_ble_eq_true rfl) ?_
  intro X C hini hret
  show VV X 0 0 ([wX12 E h0 a0 u0].flatten) [(0, .ref h0), (1, .int x1)] 0 []
  unfold qX12_number at hw
  refine v_aload_n C dX12_number_0 0 rfl ?_
  refine v_get (ci := 12) C inT12 0 13 rfl rfl (by decide) mF_X12_188_X12_13 rfl dX12_number_1 ?_
  refine v_iconst (v := 2) C dX12_number_4 (by decide) ?_
  refine v_icmp_eq (tgt := 16) C dX12_number_5 (by decide) (fun hc => ?_) (fun hc => ?_)
  · have hw := hw.1 hc
    refine v_aload_n C dX12_number_16 0 rfl ?_
    refine v_get (ci := 12) C inT12 0 14 rfl rfl (by decide) mF_X12_199_X12_14 rfl dX12_number_17 ?_
    refine v_iload_n C dX12_number_20 1 rfl ?_
    refine v_icmp_le (tgt := 29) C dX12_number_21 (by decide) (fun hc => ?_) (fun hc => ?_)
    · have hw := hw.1 hc
      refine v_lv C (lv' := [(0, .ref h0)]) [0] rfl ?_
      exact jX12_number_29 h0 a0 Q C hret u0 hw
    · have hw := hw.2 hc
      refine v_aload_n C dX12_number_24 0 rfl ?_
      refine v_iconst (v := 2) C dX12_number_25 (by decide) ?_
      refine v_callFv (st := []) (ci := 12) (qb := 0) C (kX12_wrong h0 a0 _ _ hw) mM_X12_225 mI_X12 mC_X12_wrong mN_X12_wrong mS_X12_wrong rfl rfl hd_X12_wrong ⟨Nat.le_of_ble_eq_true rfl, Nat.le_of_ble_eq_true rfl⟩ ⟨Nat.le_of_ble_eq_true rfl, Nat.le_of_ble_eq_true rfl⟩ rfl (Nat.le_of_ble_eq_true rfl) dX12_number_26 (fun v26_0 hw => ?_)
      refine v_lv C (lv' := [(0, .ref h0)]) [0] rfl ?_
      exact jX12_number_29 h0 a0 Q C hret v26_0 hw
  · have hw := hw.2 hc
    refine v_aload_n C dX12_number_8 0 rfl ?_
    refine v_iconst (v := 1) C dX12_number_9 (by decide) ?_
    refine v_callFv (st := []) (ci := 12) (qb := 0) C (kX12_wrong h0 a0 _ _ hw) mM_X12_225 mI_X12 mC_X12_wrong mN_X12_wrong mS_X12_wrong rfl rfl hd_X12_wrong ⟨Nat.le_of_ble_eq_true rfl, Nat.le_of_ble_eq_true rfl⟩ ⟨Nat.le_of_ble_eq_true rfl, Nat.le_of_ble_eq_true rfl⟩ rfl (Nat.le_of_ble_eq_true rfl) dX12_number_10 (fun v10_0 hw => ?_)
    refine v_goto (tgt := 29) C dX12_number_13 (by decide) ?_
    refine v_lv C (lv' := [(0, .ref h0)]) [0] rfl ?_
    exact jX12_number_29 h0 a0 Q C hret v10_0 hw
set_option maxHeartbeats 4000000 in
set_option maxRecDepth 100000 in
theorem kX12_fault {l : Launch} {E : VE} (h0 : Nat) (a0 : Nat → Nat) (u0 : Md) (x1 : Int32) {Q : Int32 → Md → Prop} (hw : qX12_fault u0 x1 Q) : MI l yX12_fault cX12_fault 2 .int 0 0 0 E [.ref h0, .int x1] ([wX12 E h0 a0 u0].flatten) (fun (U : Md) => [wX12 E h0 a0 U].flatten) (fun (r : Int32) (U : Md) => Q r U) := by
  refine MI.of (own := RX12) (by decide) rfl (Nat.le_of_ble_eq_true rfl) ?_
  intro X C hini hret
  show VV X 0 0 ([wX12 E h0 a0 u0].flatten) [(0, .ref h0), (1, .int x1)] 0 []
  unfold qX12_fault at hw
  refine v_iload_n C dX12_fault_0 1 rfl ?_
  refine v_if_ne (tgt := 11) C dX12_fault_1 (by decide) (fun hc => ?_) (fun hc => ?_)
  · have hw := hw.1 hc
    refine v_iload_n C dX12_fault_11 1 rfl ?_
    refine v_iconst (v := 1) C dX12_fault_12 (by decide) ?_
    refine v_icmp_ne (tgt := 23) C dX12_fault_13 (by decide) (fun hc => ?_) (fun hc => ?_)
    · have hw := hw.1 hc
      refine v_iconst (v := (-1)) C dX12_fault_23 (by decide) ?_
      exact hret _ _ _ _ ((-1)) u0 dX12_fault_24 rfl hw (Nat.le_of_ble_eq_true rfl) (Nat.le_of_ble_eq_true rfl)
    · have hw := hw.2 hc
      refine v_aload_n C dX12_fault_16 0 rfl ?_
      refine v_get (ci := 12) C inT12 0 16 rfl rfl (by decide) mF_X12_37_X12_16 rfl dX12_fault_17 ?_
      refine v_goto (tgt := 24) C dX12_fault_20 (by decide) ?_
      exact hret _ _ _ _ (gF u0 16) u0 dX12_fault_24 rfl hw (Nat.le_of_ble_eq_true rfl) (Nat.le_of_ble_eq_true rfl)
  · have hw := hw.2 hc
    refine v_aload_n C dX12_fault_4 0 rfl ?_
    refine v_get (ci := 12) C inT12 0 15 rfl rfl (by decide) mF_X12_203_X12_15 rfl dX12_fault_5 ?_
    refine v_goto (tgt := 24) C dX12_fault_8 (by decide) ?_
    exact hret _ _ _ _ (gF u0 15) u0 dX12_fault_24 rfl hw (Nat.le_of_ble_eq_true rfl) (Nat.le_of_ble_eq_true rfl)
set_option maxHeartbeats 4000000 in
set_option maxRecDepth 100000 in
theorem kX12_isRuleWord {l : Launch} {E : VE} (h0 : Nat) (a0 : Nat → Nat) (u0 : Md) {Q : Int32 → Md → Prop} (hw : qX12_isRuleWord u0 Q) : MI l yX12_isRuleWord cX12_isRuleWord 1 .boolean 1 0 0 E [.ref h0] ([wX12 E h0 a0 u0].flatten) (fun (U : Md) => [wX12 E h0 a0 U].flatten) (fun (r : Int32) (U : Md) => (r = 0 ∨ r = 1) ∧ Q r U) := by
  refine MI.of (own := RX12) (by decide) rfl (Nat.le_of_ble_eq_true rfl) ?_
  intro X C hini hret
  show VV X 0 0 ([wX12 E h0 a0 u0].flatten) [(0, .ref h0)] 0 []
  unfold qX12_isRuleWord at hw
  refine v_aload_n C dX12_isRuleWord_0 0 rfl ?_
  refine v_callFi (st := []) (ci := 12) (qb := 0) C (kX12_good h0 a0 _ hw) mM_X12_209 mI_X12 mC_X12_good mN_X12_good mS_X12_good rfl rfl hd_X12_good ⟨Nat.le_of_ble_eq_true rfl, Nat.le_of_ble_eq_true rfl⟩ ⟨Nat.le_of_ble_eq_true rfl, Nat.le_of_ble_eq_true rfl⟩ rfl (Nat.le_of_ble_eq_true rfl) dX12_isRuleWord_1 (fun r1 v1_0 hw => ?_)
  obtain ⟨h01_1, hw⟩ := hw
  have hw := hw h01_1
  refine v_if_eq (tgt := 32) C dX12_isRuleWord_4 (by decide) (fun hc => ?_) (fun hc => ?_)
  · have hw := hw.1 hc
    refine v_iconst (v := 0) C dX12_isRuleWord_32 (by decide) ?_
    exact hret _ _ _ _ 0 v1_0 dX12_isRuleWord_33 rfl ⟨Or.inl rfl, hw⟩ (Nat.le_of_ble_eq_true rfl) (Nat.le_of_ble_eq_true rfl)
  · have hw := hw.2 hc
    refine v_aload_n C dX12_isRuleWord_7 0 rfl ?_
    refine v_get (ci := 12) C inT12 0 13 rfl rfl (by decide) mF_X12_188_X12_13 rfl dX12_isRuleWord_8 ?_
    refine v_iconst (v := 1) C dX12_isRuleWord_11 (by decide) ?_
    refine v_icmp_ne (tgt := 32) C dX12_isRuleWord_12 (by decide) (fun hc => ?_) (fun hc => ?_)
    · have hw := hw.1 hc
      refine v_iconst (v := 0) C dX12_isRuleWord_32 (by decide) ?_
      exact hret _ _ _ _ 0 v1_0 dX12_isRuleWord_33 rfl ⟨Or.inl rfl, hw⟩ (Nat.le_of_ble_eq_true rfl) (Nat.le_of_ble_eq_true rfl)
    · have hw := hw.2 hc
      refine v_aload_n C dX12_isRuleWord_15 0 rfl ?_
      refine v_get (ci := 12) C inT12 0 11 rfl rfl (by decide) mF_X12_179_X12_11 rfl dX12_isRuleWord_16 ?_
      refine v_aload_n C dX12_isRuleWord_19 0 rfl ?_
      refine v_get (ci := 12) C inT12 0 12 rfl rfl (by decide) mF_X12_185_X12_12 rfl dX12_isRuleWord_20 ?_
      refine v_isub C dX12_isRuleWord_23 ?_
      refine v_iconst (v := 3) C dX12_isRuleWord_24 (by decide) ?_
      refine v_icmp_gt (tgt := 32) C dX12_isRuleWord_25 (by decide) (fun hc => ?_) (fun hc => ?_)
      · have hw := hw.1 hc
        refine v_iconst (v := 0) C dX12_isRuleWord_32 (by decide) ?_
        exact hret _ _ _ _ 0 v1_0 dX12_isRuleWord_33 rfl ⟨Or.inl rfl, hw⟩ (Nat.le_of_ble_eq_true rfl) (Nat.le_of_ble_eq_true rfl)
      · have hw := hw.2 hc
        refine v_iconst (v := 1) C dX12_isRuleWord_28 (by decide) ?_
        refine v_goto (tgt := 33) C dX12_isRuleWord_29 (by decide) ?_
        exact hret _ _ _ _ 1 v1_0 dX12_isRuleWord_33 rfl ⟨Or.inr rfl, hw⟩ (Nat.le_of_ble_eq_true rfl) (Nat.le_of_ble_eq_true rfl)
