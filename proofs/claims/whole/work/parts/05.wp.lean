def qX9_kindOf_14 (Q : Int32 → Prop) (y0 : Int32) : Prop :=
  (y0 < 48 → Q 3) ∧ (¬ y0 < 48 → (57 < y0 → Q 3) ∧ (¬ 57 < y0 → Q 2))
def qX9_kindOf (x0 : Int32) (Q : Int32 → Prop) : Prop :=
  (x0 < 97 → qX9_kindOf_14 Q x0) ∧ (¬ x0 < 97 → (122 < x0 → qX9_kindOf_14 Q x0) ∧ (¬ 122 < x0 → Q 1))
def qX9_advance_191 (Q : Md → Prop) (K123 : Md → Prop) (u0 : Md) : Prop :=
  ∀ w198 : Md, w198 = sF u0 5 ((gF u0 5) + 1) → K123 w198
def qX9_advance_123 (Q : Md → Prop) : Nat → Md → Prop
  | 0 => fun _ => False
  | n + 1 => fun u0 =>
  ((gF u0 1) ≤ (gF u0 5) → Q u0) ∧ (¬ (gF u0 1) ≤ (gF u0 5) → vp_in (gF u0 5) 500 ∧ (qX9_kindOf ((gB u0 0 (gF u0 5).toNatClampNeg).toInt32) (fun r143 => (¬ r143 = (gF u0 6) → Q u0) ∧ (r143 = (gF u0 6) → (¬ (gF u0 6) = 2 → qX9_advance_191 Q (qX9_advance_123 Q n) u0) ∧ ((gF u0 6) = 2 → vp_in (gF u0 5) 500 ∧ (∀ w188 : Md, w188 = sF u0 7 (imin 10000 ((((gF u0 7) * 10) + ((gB u0 0 (gF u0 5).toNatClampNeg).toInt32)) - 48)) → qX9_advance_191 Q (qX9_advance_123 Q n) w188))))))
def qX9_advance_101 (Q : Md → Prop) (u0 : Md) (z0 : Int32) : Prop :=
  ∀ w101 : Md, w101 = sF u0 6 z0 → (¬ (gF w101 6) = 3 → ∃ n' : Nat, qX9_advance_123 Q n' w101) ∧ ((gF w101 6) = 3 → ∀ w119 : Md, w119 = sF w101 5 ((gF w101 5) + 1) → Q w119)
def qX9_advance_60 (Q : Md → Prop) (u0 : Md) : Prop :=
  ∀ w65 : Md, w65 = sF u0 5 (gF u0 4) → ∀ w70 : Md, w70 = sF w65 7 0 → ((gF w70 1) ≤ (gF w70 4) → qX9_advance_101 Q w70 0) ∧ (¬ (gF w70 1) ≤ (gF w70 4) → vp_in (gF w70 4) 500 ∧ (qX9_kindOf ((gB w70 0 (gF w70 4).toNatClampNeg).toInt32) (fun r94 => qX9_advance_101 Q w70 r94)))
def qX9_advance_47 (Q : Md → Prop) (K8 : Md → Prop) (u0 : Md) : Prop :=
  ∀ w54 : Md, w54 = sF u0 4 ((gF u0 4) + 1) → K8 w54
def qX9_advance_8 (Q : Md → Prop) : Nat → Md → Prop
  | 0 => fun _ => False
  | n + 1 => fun u0 =>
  ((gF u0 1) ≤ (gF u0 4) → qX9_advance_60 Q u0) ∧ (¬ (gF u0 1) ≤ (gF u0 4) → vp_in (gF u0 4) 500 ∧ ((((gB u0 0 (gF u0 4).toNatClampNeg).toInt32) = 32 → qX9_advance_47 Q (qX9_advance_8 Q n) u0) ∧ (¬ ((gB u0 0 (gF u0 4).toNatClampNeg).toInt32) = 32 → vp_in (gF u0 4) 500 ∧ ((¬ ((gB u0 0 (gF u0 4).toNatClampNeg).toInt32) = 10 → qX9_advance_60 Q u0) ∧ (((gB u0 0 (gF u0 4).toNatClampNeg).toInt32) = 10 → qX9_advance_47 Q (qX9_advance_8 Q n) u0)))))
def qX9_advance (u0 : Md) (Q : Md → Prop) : Prop :=
  ∀ w5 : Md, w5 = sF u0 4 (gF u0 5) → ∃ n' : Nat, qX9_advance_8 Q n' w5
def qX9_begin (u0 : Md) (Q : Md → Prop) : Prop :=
  ∀ w2 : Md, w2 = sF u0 2 0 → ∀ w7 : Md, w7 = sF w2 3 ((-1)) → ∀ w12 : Md, w12 = sF w7 5 0 → qX9_advance w12 (fun v16_0 => Q v16_0)
def qX9_goesOn (u0 : Md) (Q : Int32 → Md → Prop) : Prop :=
  ((gF u0 6) = 0 → Q 0 u0) ∧ (¬ (gF u0 6) = 0 → (¬ (gF u0 2) = 0 → Q 0 u0) ∧ ((gF u0 2) = 0 → Q 1 u0))
def qX9_isWord_31 (k1 : Nat) (Q : Int32 → Md → Prop) : Nat → Md → Int32 → Prop
  | 0 => fun _ _ => False
  | n + 1 => fun u0 y2 =>
  ((gF u0 5) ≤ y2 → Q 1 u0) ∧ (¬ (gF u0 5) ≤ y2 → vp_in y2 500 ∧ (vp_in (y2 - (gF u0 4)) (s_len.getD k1 0) ∧ ((((gB u0 0 y2.toNatClampNeg).toInt32) = ((s_byt.getD k1 []).getD (y2 - (gF u0 4)).toNatClampNeg 0) → qX9_isWord_31 k1 Q n u0 (y2 + Int32.ofInt 1)) ∧ (¬ ((gB u0 0 y2.toNatClampNeg).toInt32) = ((s_byt.getD k1 []).getD (y2 - (gF u0 4)).toNatClampNeg 0) → Q 0 u0))))
def qX9_isWord (u0 : Md) (k1 : Nat) (Q : Int32 → Md → Prop) : Prop :=
  (¬ (gF u0 6) = 1 → Q 0 u0) ∧ ((gF u0 6) = 1 → (((gF u0 5) - (gF u0 4)) = (Int32.ofNat (s_len.getD k1 0)) → ∃ n' : Nat, qX9_isWord_31 k1 Q n' u0 (gF u0 4)) ∧ (¬ ((gF u0 5) - (gF u0 4)) = (Int32.ofNat (s_len.getD k1 0)) → Q 0 u0))
def qX0_kindOfLine (u0 : Md) (Q : Int32 → Md → Prop) : Prop :=
  qX9_isWord u0 2 (fun r3 v3_0 => (r3 = 0 ∨ r3 = 1) → (r3 = 0 → qX9_isWord v3_0 3 (fun r14 v14_0 => (r14 = 0 ∨ r14 = 1) → (r14 = 0 → qX9_isWord v14_0 4 (fun r25 v25_0 => (r25 = 0 ∨ r25 = 1) → (r25 = 0 → qX9_isWord v25_0 5 (fun r36 v36_0 => (r36 = 0 ∨ r36 = 1) → (r36 = 0 → qX9_isWord v36_0 6 (fun r47 v47_0 => (r47 = 0 ∨ r47 = 1) → (r47 = 0 → qX9_isWord v47_0 7 (fun r58 v58_0 => (r58 = 0 ∨ r58 = 1) → (r58 = 0 → Q ((-1)) v58_0) ∧ (¬ r58 = 0 → Q 5 v58_0))) ∧ (¬ r47 = 0 → Q 4 v47_0))) ∧ (¬ r36 = 0 → Q 3 v36_0))) ∧ (¬ r25 = 0 → Q 2 v25_0))) ∧ (¬ r14 = 0 → Q 1 v14_0))) ∧ (¬ r3 = 0 → Q 0 v3_0))
def qX9_blame (u0 : Md) (x1 : Int32) (Q : Md → Prop) : Prop :=
  (¬ (gF u0 2) = 0 → Q u0) ∧ ((gF u0 2) = 0 → ∀ w9 : Md, w9 = sF u0 2 x1 → ∀ w17 : Md, w17 = sF w9 3 (gF w9 4) → Q w17)
def qX9_takeWord (u0 : Md) (k1 : Nat) (Q : Md → Prop) : Prop :=
  qX9_isWord u0 k1 (fun r2 v2_0 => (r2 = 0 ∨ r2 = 1) → (r2 = 0 → qX9_blame v2_0 1 (fun v17_0 => Q v17_0)) ∧ (¬ r2 = 0 → qX9_advance v2_0 (fun v9_0 => Q v9_0)))
def qX9_takeNumber (u0 : Md) (x1 : Int32) (Q : Int32 → Md → Prop) : Prop :=
  ((gF u0 6) = 2 → ((gF u0 7) ≤ x1 → qX9_advance u0 (fun v36_0 => Q (gF u0 7) v36_0)) ∧ (¬ (gF u0 7) ≤ x1 → qX9_blame u0 2 (fun v25_0 => Q 0 v25_0))) ∧ (¬ (gF u0 6) = 2 → qX9_blame u0 1 (fun v10_0 => Q 0 v10_0))
def qX0_readHead_68 (Q : Md → Md → Prop) (u0 : Md) (u1 : Md) (y2 : Int32) (y3 : Int32) : Prop :=
  (¬ y3 = 2 → Q u0 u1) ∧ (y3 = 2 → qX9_takeWord u1 8 (fun v76_0 => qX9_takeNumber v76_0 9999 (fun r88 v88_0 => vp_in y2 96 ∧ (∀ w91 : Md, w91 = tA u0 6 y2 r88 → Q w91 v88_0))))
def qX0_readHead (u0 : Md) (u1 : Md) (x2 : Int32) (x3 : Int32) (Q : Md → Md → Prop) : Prop :=
  qX9_advance u1 (fun v1_0 => vp_in x2 96 ∧ (∀ w10 : Md, w10 = tA u0 4 x2 x3 → vp_in x2 96 ∧ (∀ w17 : Md, w17 = tA w10 5 x2 0 → vp_in x2 96 ∧ (∀ w24 : Md, w24 = tA w17 6 x2 0 → vp_in x2 96 ∧ (∀ w31 : Md, w31 = tA w24 7 x2 0 → (¬ x3 = 0 → (x3 = 1 → qX0_readHead_68 Q w31 v1_0 x2 x3) ∧ (¬ x3 = 1 → qX9_takeNumber v1_0 9999 (fun r64 v64_0 => vp_in x2 96 ∧ (∀ w67 : Md, w67 = tA w31 5 x2 r64 → qX0_readHead_68 Q w67 v64_0 x2 x3)))) ∧ (x3 = 0 → qX9_takeNumber v1_0 2 (fun r43 v43_0 => vp_in x2 96 ∧ (∀ w46 : Md, w46 = tA w31 5 x2 r43 → qX0_readHead_68 Q w46 v43_0 x2 x3))))))))
def qX9_isSign (u0 : Md) (x1 : Int32) (Q : Int32 → Md → Prop) : Prop :=
  (¬ (gF u0 6) = 3 → Q 0 u0) ∧ ((gF u0 6) = 3 → ((gF u0 1) ≤ (gF u0 4) → Q 0 u0) ∧ (¬ (gF u0 1) ≤ (gF u0 4) → vp_in (gF u0 4) 500 ∧ ((¬ ((gB u0 0 (gF u0 4).toNatClampNeg).toInt32) = x1 → Q 0 u0) ∧ (((gB u0 0 (gF u0 4).toNatClampNeg).toInt32) = x1 → Q 1 u0))))
def qX9_takeSign (u0 : Md) (x1 : Int32) (Q : Md → Prop) : Prop :=
  qX9_isSign u0 x1 (fun r2 v2_0 => (r2 = 0 ∨ r2 = 1) → (r2 = 0 → qX9_blame v2_0 1 (fun v17_0 => Q v17_0)) ∧ (¬ r2 = 0 → qX9_advance v2_0 (fun v9_0 => Q v9_0)))
def qX0_factOf (u0 : Md) (Q : Int32 → Md → Prop) : Prop :=
  qX9_isWord u0 12 (fun r3 v3_0 => (r3 = 0 ∨ r3 = 1) → (r3 = 0 → qX9_isWord v3_0 13 (fun r14 v14_0 => (r14 = 0 ∨ r14 = 1) → (r14 = 0 → qX9_isWord v14_0 14 (fun r25 v25_0 => (r25 = 0 ∨ r25 = 1) → (r25 = 0 → qX9_isWord v25_0 15 (fun r36 v36_0 => (r36 = 0 ∨ r36 = 1) → (r36 = 0 → Q ((-1)) v36_0) ∧ (¬ r36 = 0 → Q 5 v36_0))) ∧ (¬ r25 = 0 → Q 4 v25_0))) ∧ (¬ r14 = 0 → Q 3 v14_0))) ∧ (¬ r3 = 0 → Q 0 v3_0))
def qX0_readCond_141 (Q : Md → Md → Prop) (u0 : Md) (u1 : Md) (y2 : Int32) (z0 : Int32) : Prop :=
  qX9_takeSign u1 z0 (fun v141_0 => qX9_takeNumber v141_0 9999 (fun r153 v153_0 => vp_in y2 384 ∧ (∀ w156 : Md, w156 = tA u0 11 y2 r153 → Q w156 v153_0)))
def qX0_readCond_109 (Q : Md → Md → Prop) (u0 : Md) (u1 : Md) (y2 : Int32) (z0 : Int32) (z1 : Int32) : Prop :=
  vp_in z1 384 ∧ (∀ w109 : Md, w109 = tA u0 10 z1 z0 → vp_in y2 384 ∧ ((0 ≤ (gA w109 10 y2.toNatClampNeg) → vp_in y2 384 ∧ (((gA w109 10 y2.toNatClampNeg) ≤ 0 → qX0_readCond_141 Q w109 u1 y2 61) ∧ (¬ (gA w109 10 y2.toNatClampNeg) ≤ 0 → qX0_readCond_141 Q w109 u1 y2 62))) ∧ (¬ 0 ≤ (gA w109 10 y2.toNatClampNeg) → qX0_readCond_141 Q w109 u1 y2 60)))
def qX0_readCond_70 (Q : Md → Md → Prop) (u0 : Md) (u1 : Md) (y2 : Int32) (y3 : Int32) : Prop :=
  vp_in y2 384 ∧ (∀ w76 : Md, w76 = tA u0 9 y2 y3 → qX9_isSign u1 60 (fun r85 v85_0 => (r85 = 0 ∨ r85 = 1) → (r85 = 0 → qX9_isSign v85_0 62 (fun r98 v98_0 => (r98 = 0 ∨ r98 = 1) → (r98 = 0 → qX0_readCond_109 Q w76 v98_0 y2 0 y2) ∧ (¬ r98 = 0 → qX0_readCond_109 Q w76 v98_0 y2 1 y2))) ∧ (¬ r85 = 0 → qX0_readCond_109 Q w76 v85_0 y2 ((-1)) y2)))
def qX0_readCond_55 (Q : Md → Md → Prop) (u0 : Md) (u1 : Md) (y2 : Int32) (y3 : Int32) : Prop :=
  (¬ y3 = 5 → qX0_readCond_70 Q u0 u1 y2 y3) ∧ (y3 = 5 → vp_in (gF u0 0) 8 ∧ (∀ w69 : Md, w69 = tZ u0 3 (gF u0 0) 1 → qX0_readCond_70 Q w69 u1 y2 y3))
def qX0_readCond_25 (Q : Md → Md → Prop) (u0 : Md) (u1 : Md) (y2 : Int32) : Prop :=
  qX0_factOf u1 (fun r26 v26_0 => (¬ r26 = ((-1)) → qX9_advance v26_0 (fun v42_0 => (¬ r26 = 0 → qX0_readCond_55 Q u0 v42_0 y2 r26) ∧ (r26 = 0 → qX9_takeNumber v42_0 2 (fun r51 v51_0 => qX0_readCond_55 Q u0 v51_0 y2 r51)))) ∧ (r26 = ((-1)) → qX9_blame v26_0 1 (fun v37_0 => Q u0 v37_0)))
def qX0_readCond (u0 : Md) (u1 : Md) (x2 : Int32) (Q : Md → Md → Prop) : Prop :=
  qX9_isWord u1 11 (fun r8 v8_0 => (r8 = 0 ∨ r8 = 1) → vp_in x2 384 ∧ (∀ w11 : Md, w11 = tZ u0 8 x2 r8 → vp_in x2 384 ∧ (((if gZ w11 8 x2.toNatClampNeg then (1 : Int32) else 0) = 0 → qX0_readCond_25 Q w11 v8_0 x2) ∧ (¬ (if gZ w11 8 x2.toNatClampNeg then (1 : Int32) else 0) = 0 → qX9_advance v8_0 (fun v22_0 => qX0_readCond_25 Q w11 v22_0 x2)))))
def qX0_readLine_131 (Q : Md → Md → Prop) (u0 : Md) (u1 : Md) : Prop :=
  qX9_takeSign u1 59 (fun v134_0 => Q u0 v134_0)
def qX0_readLine_117 (Q : Md → Md → Prop) (K35 : Md → Md → Int32 → Int32 → Int32 → Prop) (u0 : Md) (u1 : Md) (y2 : Int32) (y5 : Int32) : Prop :=
  qX9_isWord u1 10 (fun r120 v120_0 => (r120 = 0 ∨ r120 = 1) → K35 u0 v120_0 y2 r120 (y5 + Int32.ofInt 1))
def qX0_readLine_82 (Q : Md → Md → Prop) (K35 : Md → Md → Int32 → Int32 → Int32 → Prop) (u0 : Md) (u1 : Md) (y2 : Int32) (y5 : Int32) : Prop :=
  (y5 < 4 → qX0_readCond u0 u1 ((y2 * 4) + y5) (fun v104_0 v104_1 => vp_in y2 96 ∧ (∀ w116 : Md, w116 = tA v104_0 7 y2 (y5 + 1) → qX0_readLine_117 Q K35 w116 v104_1 y2 y5))) ∧ (¬ y5 < 4 → qX9_blame u1 3 (fun v90_0 => qX0_readLine_117 Q K35 u0 v90_0 y2 y5))
def qX0_readLine_35 (Q : Md → Md → Prop) : Nat → Md → Md → Int32 → Int32 → Int32 → Prop
  | 0 => fun _ _ _ _ _ => False
  | n + 1 => fun u0 u1 y2 y4 y5 =>
  (4 < y5 → qX0_readLine_131 Q u0 u1) ∧ (¬ 4 < y5 → (y4 = 0 → qX0_readLine_131 Q u0 u1) ∧ (¬ y4 = 0 → (¬ (gF u1 2) = 0 → qX0_readLine_131 Q u0 u1) ∧ ((gF u1 2) = 0 → qX9_advance u1 (fun v54_0 => qX9_isWord v54_0 11 (fun r60 v60_0 => (r60 = 0 ∨ r60 = 1) → (¬ r60 = 0 → qX0_readLine_82 Q (qX0_readLine_35 Q n) u0 v60_0 y2 y5) ∧ (r60 = 0 → qX0_factOf v60_0 (fun r67 v67_0 => (¬ r67 = ((-1)) → qX0_readLine_82 Q (qX0_readLine_35 Q n) u0 v67_0 y2 y5) ∧ (r67 = ((-1)) → qX9_blame v67_0 1 (fun v76_0 => qX0_readLine_117 Q (qX0_readLine_35 Q n) u0 v76_0 y2 y5)))))))))
def qX0_readLine_29 (Q : Md → Md → Prop) (u0 : Md) (u1 : Md) (y2 : Int32) : Prop :=
  ∃ n' : Nat, qX0_readLine_35 Q n' u0 u1 y2 0 0
def qX0_readLine_16 (Q : Md → Md → Prop) (u0 : Md) (u1 : Md) (y2 : Int32) : Prop :=
  qX9_isWord u1 9 (fun r19 v19_0 => (r19 = 0 ∨ r19 = 1) → (r19 = 0 → qX0_readLine_29 Q u0 v19_0 y2) ∧ (¬ r19 = 0 → ∃ n' : Nat, qX0_readLine_35 Q n' u0 v19_0 y2 1 0))
def qX0_readLine (u0 : Md) (u1 : Md) (x2 : Int32) (x3 : Int32) (Q : Md → Md → Prop) : Prop :=
  qX0_readHead u0 u1 x2 x3 (fun v4_0 v4_1 => (x3 = 0 → qX0_readLine_16 Q v4_0 v4_1 x2) ∧ (¬ x3 = 0 → (¬ x3 = 1 → qX0_readLine_29 Q v4_0 v4_1 x2) ∧ (x3 = 1 → qX0_readLine_16 Q v4_0 v4_1 x2)))
def qX0_readAct_92 (Q : Int32 → Md → Md → Prop) (u0 : Md) (u1 : Md) (y2 : Int32) (y3 : Int32) : Prop :=
  (¬ (gF u1 2) = 0 → Q y3 u0 u1) ∧ ((gF u1 2) = 0 → vp_in (gF u0 0) 8 ∧ (∀ w108 : Md, w108 = tA u0 1 (gF u0 0) y2 → vp_in (gF w108 0) 8 ∧ (∀ w118 : Md, w118 = tA w108 2 (gF w108 0) y3 → ∀ w126 : Md, w126 = sF w118 0 ((gF w118 0) + 1) → Q y3 w126 u1)))
def qX0_readAct_19 (Q : Int32 → Md → Md → Prop) : Nat → Md → Md → Int32 → Int32 → Int32 → Prop
  | 0 => fun _ _ _ _ _ => False
  | n + 1 => fun u0 u1 y2 y3 y4 =>
  (12 < y4 → qX0_readAct_92 Q u0 u1 y2 y3) ∧ (¬ 12 < y4 → qX9_goesOn u1 (fun r27 v27_0 => (r27 = 0 ∨ r27 = 1) → (r27 = 0 → qX0_readAct_92 Q u0 v27_0 y2 y3) ∧ (¬ r27 = 0 → qX0_kindOfLine v27_0 (fun r34 v34_0 => (¬ r34 = ((-1)) → (y3 < 12 → qX0_readLine u0 v34_0 (((gF u0 0) * 12) + y3) r34 (fun v80_0 v80_1 => qX0_readAct_19 Q n v80_0 v80_1 y2 (y3 + Int32.ofInt 1) (y4 + Int32.ofInt 1))) ∧ (¬ y3 < 12 → qX9_blame v34_0 3 (fun v61_0 => qX0_readAct_19 Q n u0 v61_0 y2 y3 (y4 + Int32.ofInt 1)))) ∧ (r34 = ((-1)) → qX9_blame v34_0 1 (fun v47_0 => qX0_readAct_19 Q n u0 v47_0 y2 y3 (y4 + Int32.ofInt 1)))))))
def qX0_readAct (u0 : Md) (u1 : Md) (x2 : Int32) (Q : Int32 → Md → Md → Prop) : Prop :=
  qX9_begin u1 (fun v1_0 => vp_in (gF u0 0) 8 ∧ (∀ w13 : Md, w13 = tZ u0 3 (gF u0 0) 0 → ∃ n' : Nat, qX0_readAct_19 Q n' w13 v1_0 x2 0 0))
def qX0_inForce_7 (Q : Int32 → Md → Prop) : Nat → Md → Int32 → Int32 → Prop
  | 0 => fun _ _ _ => False
  | n + 1 => fun u0 y1 y2 =>
  (y2 < 0 → Q ((-1)) u0) ∧ (¬ y2 < 0 → vp_in y2 8 ∧ ((y1 < (gA u0 1 y2.toNatClampNeg) → qX0_inForce_7 Q n u0 y1 (y2 + Int32.ofInt (-1))) ∧ (¬ y1 < (gA u0 1 y2.toNatClampNeg) → Q y2 u0)))
def qX0_inForce (u0 : Md) (x1 : Int32) (Q : Int32 → Md → Prop) : Prop :=
  ∃ n' : Nat, qX0_inForce_7 Q n' u0 x1 ((gF u0 0) - 1)
def qX0_dependsOnYear (u0 : Md) (x1 : Int32) (Q : Int32 → Md → Prop) : Prop :=
  (x1 = ((-1)) → Q 0 u0) ∧ (¬ x1 = ((-1)) → vp_in x1 8 ∧ (((if gZ u0 3 x1.toNatClampNeg then (1 : Int32) else 0) = 0 → Q 0 u0) ∧ (¬ (if gZ u0 3 x1.toNatClampNeg then (1 : Int32) else 0) = 0 → Q 1 u0)))
def qX0_holds_83 (n2 : Nat) (Q : Int32 → Md → (Nat → Int32) → Prop) (K7 : Md → (Nat → Int32) → Int32 → Int32 → Int32 → Prop) (u0 : Md) (f2 : Nat → Int32) (y1 : Int32) (y3 : Int32) (y4 : Int32) (z0 : Int32) : Prop :=
  vp_in y4 384 ∧ ((¬ z0 = (if gZ u0 8 y4.toNatClampNeg then (1 : Int32) else 0) → K7 u0 f2 y1 y3 (y4 + Int32.ofInt 1)) ∧ (z0 = (if gZ u0 8 y4.toNatClampNeg then (1 : Int32) else 0) → Q 0 u0 f2))
def qX0_holds_64 (n2 : Nat) (Q : Int32 → Md → (Nat → Int32) → Prop) (K7 : Md → (Nat → Int32) → Int32 → Int32 → Int32 → Prop) (u0 : Md) (f2 : Nat → Int32) (y1 : Int32) (y3 : Int32) (y4 : Int32) (z0 : Int32) : Prop :=
  vp_in y4 384 ∧ ((¬ z0 = (gA u0 10 y4.toNatClampNeg) → qX0_holds_83 n2 Q K7 u0 f2 y1 y3 y4 0) ∧ (z0 = (gA u0 10 y4.toNatClampNeg) → qX0_holds_83 n2 Q K7 u0 f2 y1 y3 y4 1))
def qX0_holds_7 (n2 : Nat) (Q : Int32 → Md → (Nat → Int32) → Prop) : Nat → Md → (Nat → Int32) → Int32 → Int32 → Int32 → Prop
  | 0 => fun _ _ _ _ _ => False
  | n + 1 => fun u0 f2 y1 y3 y4 =>
  vp_in y1 96 ∧ (((y3 + (gA u0 7 y1.toNatClampNeg)) ≤ y4 → Q 1 u0 f2) ∧ (¬ (y3 + (gA u0 7 y1.toNatClampNeg)) ≤ y4 → vp_in y4 384 ∧ (vp_in (gA u0 9 y4.toNatClampNeg) n2 ∧ (vp_in y4 384 ∧ (((gA u0 11 y4.toNatClampNeg) ≤ (f2 (gA u0 9 y4.toNatClampNeg).toNatClampNeg) → vp_in y4 384 ∧ (((f2 (gA u0 9 y4.toNatClampNeg).toNatClampNeg) ≤ (gA u0 11 y4.toNatClampNeg) → qX0_holds_64 n2 Q (qX0_holds_7 n2 Q n) u0 f2 y1 y3 y4 0) ∧ (¬ (f2 (gA u0 9 y4.toNatClampNeg).toNatClampNeg) ≤ (gA u0 11 y4.toNatClampNeg) → qX0_holds_64 n2 Q (qX0_holds_7 n2 Q n) u0 f2 y1 y3 y4 1))) ∧ (¬ (gA u0 11 y4.toNatClampNeg) ≤ (f2 (gA u0 9 y4.toNatClampNeg).toNatClampNeg) → qX0_holds_64 n2 Q (qX0_holds_7 n2 Q n) u0 f2 y1 y3 y4 ((-1))))))))
def qX0_holds (n2 : Nat) (u0 : Md) (f2 : Nat → Int32) (x1 : Int32) (Q : Int32 → Md → (Nat → Int32) → Prop) : Prop :=
  ∃ n' : Nat, qX0_holds_7 n2 Q n' u0 f2 x1 (x1 * 4) (x1 * 4)
def qX0_firstHolding_17 (n3 : Nat) (Q : Int32 → Md → (Nat → Int32) → Prop) : Nat → Md → (Nat → Int32) → Int32 → Int32 → Int32 → Int32 → Prop
  | 0 => fun _ _ _ _ _ _ => False
  | n + 1 => fun u0 f3 y1 y2 y4 y5 =>
  vp_in y1 8 ∧ (((y4 + (gA u0 2 y1.toNatClampNeg)) ≤ y5 → Q ((-1)) u0 f3) ∧ (¬ (y4 + (gA u0 2 y1.toNatClampNeg)) ≤ y5 → vp_in y5 96 ∧ ((¬ (gA u0 4 y5.toNatClampNeg) = y2 → qX0_firstHolding_17 n3 Q n u0 f3 y1 y2 y4 (y5 + Int32.ofInt 1)) ∧ ((gA u0 4 y5.toNatClampNeg) = y2 → qX0_holds n3 u0 f3 y5 (fun r46 v46_0 v46_1 => (r46 = 0 ∨ r46 = 1) → (r46 = 0 → qX0_firstHolding_17 n3 Q n v46_0 v46_1 y1 y2 y4 (y5 + Int32.ofInt 1)) ∧ (¬ r46 = 0 → Q y5 v46_0 v46_1))))))
def qX0_firstHolding (n3 : Nat) (u0 : Md) (f3 : Nat → Int32) (x1 : Int32) (x2 : Int32) (Q : Int32 → Md → (Nat → Int32) → Prop) : Prop :=
  (¬ x1 = ((-1)) → ∃ n' : Nat, qX0_firstHolding_17 n3 Q n' u0 f3 x1 x2 (x1 * 12) (x1 * 12)) ∧ (x1 = ((-1)) → Q ((-1)) u0 f3)
def qX0_lastLine_21 (Q : Int32 → Md → Prop) : Nat → Md → Int32 → Int32 → Int32 → Prop
  | 0 => fun _ _ _ _ => False
  | n + 1 => fun u0 y1 y2 y3 =>
  (y3 < (y1 * 12) → Q ((-1)) u0) ∧ (¬ y3 < (y1 * 12) → vp_in y3 96 ∧ ((¬ (gA u0 4 y3.toNatClampNeg) = y2 → qX0_lastLine_21 Q n u0 y1 y2 (y3 + Int32.ofInt (-1))) ∧ ((gA u0 4 y3.toNatClampNeg) = y2 → Q y3 u0)))
def qX0_lastLine (u0 : Md) (x1 : Int32) (x2 : Int32) (Q : Int32 → Md → Prop) : Prop :=
  (¬ x1 = ((-1)) → vp_in x1 8 ∧ (∃ n' : Nat, qX0_lastLine_21 Q n' u0 x1 x2 (((x1 * 12) + (gA u0 2 x1.toNatClampNeg)) - 1))) ∧ (x1 = ((-1)) → Q ((-1)) u0)
def qX0_numberOf (u0 : Md) (x1 : Int32) (x2 : Int32) (x3 : Int32) (Q : Int32 → Md → Prop) : Prop :=
  qX0_lastLine u0 x1 x2 (fun r3 v3_0 => (¬ r3 = ((-1)) → vp_in r3 96 ∧ (Q (gA v3_0 5 r3.toNatClampNeg) v3_0)) ∧ (r3 = ((-1)) → Q x3 v3_0))
def qX11_copyFlags_2 (n0 : Nat) (n1 : Nat) (Q : (Nat → Bool) → (Nat → Bool) → Prop) : Nat → (Nat → Bool) → (Nat → Bool) → Int32 → Int32 → Prop
  | 0 => fun _ _ _ _ => False
  | n + 1 => fun f0 f1 y2 y3 =>
  (y2 ≤ y3 → Q f0 f1) ∧ (¬ y2 ≤ y3 → ((Int32.ofNat n0) ≤ y3 → Q f0 f1) ∧ (¬ (Int32.ofNat n0) ≤ y3 → ((Int32.ofNat n1) ≤ y3 → Q f0 f1) ∧ (¬ (Int32.ofNat n1) ≤ y3 → vp_in y3 n0 ∧ (vp_in y3 n1 ∧ (qX11_copyFlags_2 n0 n1 Q n f0 (va_up f1 y3.toNatClampNeg (i2z (if f0 y3.toNatClampNeg then (1 : Int32) else 0))) y2 (y3 + Int32.ofInt 1))))))
def qX11_copyFlags (n0 : Nat) (n1 : Nat) (f0 : Nat → Bool) (f1 : Nat → Bool) (x2 : Int32) (Q : (Nat → Bool) → (Nat → Bool) → Prop) : Prop :=
  ∃ n' : Nat, qX11_copyFlags_2 n0 n1 Q n' f0 f1 x2 0
def qX0_copyFrom (u0 : Md) (u1 : Md) (Q : Md → Md → Prop) : Prop :=
  ∀ w5 : Md, w5 = sF u0 0 (gF u1 0) → cpyOK 0 0 (gF w5 0) 8 8 ∧ (∀ w22 : Md, w22 = sA w5 1 (va_cpy (gA u1 1) (gA w5 1) (0 : Int32).toNatClampNeg (0 : Int32).toNatClampNeg (gF w5 0).toNatClampNeg) → cpyOK 0 0 (gF w22 0) 8 8 ∧ (∀ w39 : Md, w39 = sA w22 2 (va_cpy (gA u1 2) (gA w22 2) (0 : Int32).toNatClampNeg (0 : Int32).toNatClampNeg (gF w22 0).toNatClampNeg) → qX11_copyFlags 8 8 (gZ u1 3) (gZ w39 3) (gF w39 0) (fun v54_0 v54_1 => cpyOK 0 0 ((gF w39 0) * 12) 96 96 ∧ (∀ w76 : Md, w76 = sA (sZ w39 3 v54_1) 4 (va_cpy (gA u1 4) (gA w39 4) (0 : Int32).toNatClampNeg (0 : Int32).toNatClampNeg ((gF w39 0) * 12).toNatClampNeg) → cpyOK 0 0 ((gF w39 0) * 12) 96 96 ∧ (∀ w90 : Md, w90 = sA w76 5 (va_cpy (gA u1 5) (gA w76 5) (0 : Int32).toNatClampNeg (0 : Int32).toNatClampNeg ((gF w39 0) * 12).toNatClampNeg) → cpyOK 0 0 ((gF w39 0) * 12) 96 96 ∧ (∀ w104 : Md, w104 = sA w90 6 (va_cpy (gA u1 6) (gA w90 6) (0 : Int32).toNatClampNeg (0 : Int32).toNatClampNeg ((gF w39 0) * 12).toNatClampNeg) → cpyOK 0 0 ((gF w39 0) * 12) 96 96 ∧ (∀ w118 : Md, w118 = sA w104 7 (va_cpy (gA u1 7) (gA w104 7) (0 : Int32).toNatClampNeg (0 : Int32).toNatClampNeg ((gF w39 0) * 12).toNatClampNeg) → qX11_copyFlags 384 384 (gZ u1 8) (gZ w118 8) (((gF w39 0) * 12) * 4) (fun v132_0 v132_1 => cpyOK 0 0 (((gF w39 0) * 12) * 4) 384 384 ∧ (∀ w148 : Md, w148 = sA (sZ w118 8 v132_1) 9 (va_cpy (gA u1 9) (gA w118 9) (0 : Int32).toNatClampNeg (0 : Int32).toNatClampNeg (((gF w39 0) * 12) * 4).toNatClampNeg) → cpyOK 0 0 (((gF w39 0) * 12) * 4) 384 384 ∧ (∀ w164 : Md, w164 = sA w148 10 (va_cpy (gA u1 10) (gA w148 10) (0 : Int32).toNatClampNeg (0 : Int32).toNatClampNeg (((gF w39 0) * 12) * 4).toNatClampNeg) → cpyOK 0 0 (((gF w39 0) * 12) * 4) 384 384 ∧ (∀ w180 : Md, w180 = sA w164 11 (va_cpy (gA u1 11) (gA w164 11) (0 : Int32).toNatClampNeg (0 : Int32).toNatClampNeg (((gF w39 0) * 12) * 4).toNatClampNeg) → Q w180 (sZ (sZ u1 3 v54_0) 8 v132_0))))))))))))
def qX1_has (u0 : Md) (x1 : Int32) (Q : Int32 → Md → Prop) : Prop :=
  (x1 < 0 → Q 0 u0) ∧ (¬ x1 < 0 → ((gF u0 0) ≤ x1 → Q 0 u0) ∧ (¬ (gF u0 0) ≤ x1 → Q 1 u0))
def qX1_open_14 (Q : Int32 → Md → Prop) : Nat → Md → Int32 → Int32 → Int32 → Prop
  | 0 => fun _ _ _ _ => False
  | n + 1 => fun u0 y1 y2 y3 =>
  ((gF u0 0) ≤ y3 → vp_in (gF u0 0) 60 ∧ (∀ w59 : Md, w59 = tA u0 1 (gF u0 0) y1 → vp_in (gF w59 0) 60 ∧ (∀ w69 : Md, w69 = tA w59 2 (gF w59 0) y2 → vp_in (gF w69 0) 60 ∧ (∀ w79 : Md, w79 = tZ w69 3 (gF w69 0) 1 → vp_in (gF w79 0) 60 ∧ (∀ w89 : Md, w89 = tA w79 4 (gF w79 0) 0 → vp_in (gF w89 0) 60 ∧ (∀ w99 : Md, w99 = tA w89 5 (gF w89 0) 0 → ∀ w107 : Md, w107 = sF w99 0 ((gF w99 0) + 1) → Q ((gF w107 0) - 1) w107)))))) ∧ (¬ (gF u0 0) ≤ y3 → vp_in y3 60 ∧ (((if gZ u0 3 y3.toNatClampNeg then (1 : Int32) else 0) = 0 → qX1_open_14 Q n u0 y1 y2 (y3 + Int32.ofInt 1)) ∧ (¬ (if gZ u0 3 y3.toNatClampNeg then (1 : Int32) else 0) = 0 → vp_in y3 60 ∧ ((¬ (gA u0 2 y3.toNatClampNeg) = y2 → qX1_open_14 Q n u0 y1 y2 (y3 + Int32.ofInt 1)) ∧ ((gA u0 2 y3.toNatClampNeg) = y2 → Q ((-5)) u0)))))
def qX1_open (u0 : Md) (x1 : Int32) (x2 : Int32) (Q : Int32 → Md → Prop) : Prop :=
  ((gF u0 0) < 60 → ∃ n' : Nat, qX1_open_14 Q n' u0 x1 x2 0) ∧ (¬ (gF u0 0) < 60 → Q ((-3)) u0)
def qX1_cast (u0 : Md) (x1 : Int32) (x2 : Int32) (x3 : Int32) (Q : Md → Prop) : Prop :=
  vp_in x1 60 ∧ (vp_in x1 60 ∧ (∀ w15 : Md, w15 = tA u0 4 x1 ((gA u0 4 x1.toNatClampNeg) ||| ((1 : Int32) <<< (x2 &&& 31))) → (x3 = 0 → vp_in x1 60 ∧ (vp_in x1 60 ∧ (∀ w48 : Md, w48 = tA w15 5 x1 ((gA w15 5 x1.toNatClampNeg) &&& (((1 : Int32) <<< (x2 &&& 31)) ^^^ ((-1)))) → Q w48))) ∧ (¬ x3 = 0 → vp_in x1 60 ∧ (vp_in x1 60 ∧ (∀ w48 : Md, w48 = tA w15 5 x1 ((gA w15 5 x1.toNatClampNeg) ||| ((1 : Int32) <<< (x2 &&& 31))) → Q w48)))))
def qJ6_bitCount_0f7a4 (x0 : Int32) (Q : Int32 → Prop) : Prop :=
  Q ((((((((x0 - ((((x0 : Int32).toUInt32 >>> ((1 : Int32).toUInt32 &&& Int32.toUInt32 31)).toInt32) &&& 1431655765)) &&& 858993459) + (((((x0 - ((((x0 : Int32).toUInt32 >>> ((1 : Int32).toUInt32 &&& Int32.toUInt32 31)).toInt32) &&& 1431655765)) : Int32).toUInt32 >>> ((2 : Int32).toUInt32 &&& Int32.toUInt32 31)).toInt32) &&& 858993459)) + ((((((x0 - ((((x0 : Int32).toUInt32 >>> ((1 : Int32).toUInt32 &&& Int32.toUInt32 31)).toInt32) &&& 1431655765)) &&& 858993459) + (((((x0 - ((((x0 : Int32).toUInt32 >>> ((1 : Int32).toUInt32 &&& Int32.toUInt32 31)).toInt32) &&& 1431655765)) : Int32).toUInt32 >>> ((2 : Int32).toUInt32 &&& Int32.toUInt32 31)).toInt32) &&& 858993459)) : Int32).toUInt32 >>> ((4 : Int32).toUInt32 &&& Int32.toUInt32 31)).toInt32)) &&& 252645135) + ((((((((x0 - ((((x0 : Int32).toUInt32 >>> ((1 : Int32).toUInt32 &&& Int32.toUInt32 31)).toInt32) &&& 1431655765)) &&& 858993459) + (((((x0 - ((((x0 : Int32).toUInt32 >>> ((1 : Int32).toUInt32 &&& Int32.toUInt32 31)).toInt32) &&& 1431655765)) : Int32).toUInt32 >>> ((2 : Int32).toUInt32 &&& Int32.toUInt32 31)).toInt32) &&& 858993459)) + ((((((x0 - ((((x0 : Int32).toUInt32 >>> ((1 : Int32).toUInt32 &&& Int32.toUInt32 31)).toInt32) &&& 1431655765)) &&& 858993459) + (((((x0 - ((((x0 : Int32).toUInt32 >>> ((1 : Int32).toUInt32 &&& Int32.toUInt32 31)).toInt32) &&& 1431655765)) : Int32).toUInt32 >>> ((2 : Int32).toUInt32 &&& Int32.toUInt32 31)).toInt32) &&& 858993459)) : Int32).toUInt32 >>> ((4 : Int32).toUInt32 &&& Int32.toUInt32 31)).toInt32)) &&& 252645135) : Int32).toUInt32 >>> ((8 : Int32).toUInt32 &&& Int32.toUInt32 31)).toInt32)) + (((((((((x0 - ((((x0 : Int32).toUInt32 >>> ((1 : Int32).toUInt32 &&& Int32.toUInt32 31)).toInt32) &&& 1431655765)) &&& 858993459) + (((((x0 - ((((x0 : Int32).toUInt32 >>> ((1 : Int32).toUInt32 &&& Int32.toUInt32 31)).toInt32) &&& 1431655765)) : Int32).toUInt32 >>> ((2 : Int32).toUInt32 &&& Int32.toUInt32 31)).toInt32) &&& 858993459)) + ((((((x0 - ((((x0 : Int32).toUInt32 >>> ((1 : Int32).toUInt32 &&& Int32.toUInt32 31)).toInt32) &&& 1431655765)) &&& 858993459) + (((((x0 - ((((x0 : Int32).toUInt32 >>> ((1 : Int32).toUInt32 &&& Int32.toUInt32 31)).toInt32) &&& 1431655765)) : Int32).toUInt32 >>> ((2 : Int32).toUInt32 &&& Int32.toUInt32 31)).toInt32) &&& 858993459)) : Int32).toUInt32 >>> ((4 : Int32).toUInt32 &&& Int32.toUInt32 31)).toInt32)) &&& 252645135) + ((((((((x0 - ((((x0 : Int32).toUInt32 >>> ((1 : Int32).toUInt32 &&& Int32.toUInt32 31)).toInt32) &&& 1431655765)) &&& 858993459) + (((((x0 - ((((x0 : Int32).toUInt32 >>> ((1 : Int32).toUInt32 &&& Int32.toUInt32 31)).toInt32) &&& 1431655765)) : Int32).toUInt32 >>> ((2 : Int32).toUInt32 &&& Int32.toUInt32 31)).toInt32) &&& 858993459)) + ((((((x0 - ((((x0 : Int32).toUInt32 >>> ((1 : Int32).toUInt32 &&& Int32.toUInt32 31)).toInt32) &&& 1431655765)) &&& 858993459) + (((((x0 - ((((x0 : Int32).toUInt32 >>> ((1 : Int32).toUInt32 &&& Int32.toUInt32 31)).toInt32) &&& 1431655765)) : Int32).toUInt32 >>> ((2 : Int32).toUInt32 &&& Int32.toUInt32 31)).toInt32) &&& 858993459)) : Int32).toUInt32 >>> ((4 : Int32).toUInt32 &&& Int32.toUInt32 31)).toInt32)) &&& 252645135) : Int32).toUInt32 >>> ((8 : Int32).toUInt32 &&& Int32.toUInt32 31)).toInt32)) : Int32).toUInt32 >>> ((16 : Int32).toUInt32 &&& Int32.toUInt32 31)).toInt32)) &&& 63)
def qX1_tooFew (u0 : Md) (x1 : Int32) (x2 : Int32) (Q : Int32 → Md → Prop) : Prop :=
  vp_in x1 60 ∧ (qJ6_bitCount_0f7a4 (gA u0 4 x1.toNatClampNeg) (fun r6 => (r6 = 0 → Q 1 u0) ∧ (¬ r6 = 0 → vp_in x1 60 ∧ (qJ6_bitCount_0f7a4 (gA u0 5 x1.toNatClampNeg) (fun r20 => ((x2 * r6) ≤ (r20 * 100) → Q 0 u0) ∧ (¬ (x2 * r6) ≤ (r20 * 100) → Q 1 u0))))))
def qX1_settle (u0 : Md) (x1 : Int32) (x2 : Int32) (x3 : Int32) (x4 : Int32) (Q : Md → Prop) : Prop :=
  ((gF u0 6) < 60 → vp_in (gF u0 6) 60 ∧ (∀ w19 : Md, w19 = tA u0 7 (gF u0 6) x1 → vp_in (gF w19 6) 60 ∧ (∀ w29 : Md, w29 = tA w19 8 (gF w19 6) x2 → vp_in (gF w29 6) 60 ∧ (∀ w39 : Md, w39 = tA w29 9 (gF w29 6) x3 → vp_in (gF w39 6) 60 ∧ (∀ w50 : Md, w50 = tA w39 10 (gF w39 6) x4 → vp_in (gF w50 6) 60 ∧ (∀ w62 : Md, w62 = tA w50 11 (gF w50 6) 400 → ∀ w70 : Md, w70 = sF w62 6 ((gF w62 6) + 1) → Q w70)))))) ∧ (¬ (gF u0 6) < 60 → Q u0)
def qX1_settlingAt_40 (Q : Int32 → Md → Prop) (K8 : Md → Int32 → Int32 → Int32 → Int32 → Prop) (u0 : Md) (y1 : Int32) (y2 : Int32) (y3 : Int32) (y4 : Int32) (z0 : Int32) : Prop :=
  (z0 = 0 → K8 u0 y1 y2 y3 (y4 + Int32.ofInt (-1))) ∧ (¬ z0 = 0 → vp_in y4 60 ∧ ((y3 < (gA u0 10 y4.toNatClampNeg) → K8 u0 y1 y2 y3 (y4 + Int32.ofInt (-1))) ∧ (¬ y3 < (gA u0 10 y4.toNatClampNeg) → vp_in y4 60 ∧ (((gA u0 11 y4.toNatClampNeg) ≤ y3 → K8 u0 y1 y2 y3 (y4 + Int32.ofInt (-1))) ∧ (¬ (gA u0 11 y4.toNatClampNeg) ≤ y3 → Q y4 u0)))))
def qX1_settlingAt_39 (Q : Int32 → Md → Prop) (K8 : Md → Int32 → Int32 → Int32 → Int32 → Prop) (u0 : Md) (y1 : Int32) (y2 : Int32) (y3 : Int32) (y4 : Int32) : Prop :=
  qX1_settlingAt_40 Q K8 u0 y1 y2 y3 y4 0
def qX1_settlingAt_8 (Q : Int32 → Md → Prop) : Nat → Md → Int32 → Int32 → Int32 → Int32 → Prop
  | 0 => fun _ _ _ _ _ => False
  | n + 1 => fun u0 y1 y2 y3 y4 =>
  (y4 < 0 → Q ((-1)) u0) ∧ (¬ y4 < 0 → vp_in y4 60 ∧ ((¬ (gA u0 8 y4.toNatClampNeg) = y1 → qX1_settlingAt_39 Q (qX1_settlingAt_8 Q n) u0 y1 y2 y3 y4) ∧ ((gA u0 8 y4.toNatClampNeg) = y1 → vp_in y4 60 ∧ ((¬ (gA u0 9 y4.toNatClampNeg) = y2 → qX1_settlingAt_39 Q (qX1_settlingAt_8 Q n) u0 y1 y2 y3 y4) ∧ ((gA u0 9 y4.toNatClampNeg) = y2 → qX1_settlingAt_40 Q (qX1_settlingAt_8 Q n) u0 y1 y2 y3 y4 1)))))
def qX1_settlingAt (u0 : Md) (x1 : Int32) (x2 : Int32) (x3 : Int32) (Q : Int32 → Md → Prop) : Prop :=
  ∃ n' : Nat, qX1_settlingAt_8 Q n' u0 x1 x2 x3 ((gF u0 6) - 1)
def qX1_nameAt (u0 : Md) (x1 : Int32) (x2 : Int32) (x3 : Int32) (Q : Int32 → Md → Prop) : Prop :=
  qX1_settlingAt u0 x1 x2 x3 (fun r4 v4_0 => (¬ r4 = ((-1)) → vp_in r4 60 ∧ (Q (gA v4_0 7 r4.toNatClampNeg) v4_0)) ∧ (r4 = ((-1)) → Q ((-1)) v4_0))
def qX1_namesAt_14 (Q : Int32 → Md → Prop) (K5 : Md → Int32 → Int32 → Int32 → Int32 → Prop) : Nat → Md → Int32 → Int32 → Int32 → Int32 → Int32 → Prop
  | 0 => fun _ _ _ _ _ _ => False
  | n + 1 => fun u0 y1 y2 y3 y4 y5 =>
  (3 ≤ y5 → K5 u0 y1 y2 y3 (y4 + Int32.ofInt 1)) ∧ (¬ 3 ≤ y5 → qX1_settlingAt u0 y4 y5 y2 (fun r26 v26_0 => (r26 = ((-1)) → qX1_namesAt_14 Q K5 n v26_0 y1 y2 y3 y4 (y5 + Int32.ofInt 1)) ∧ (¬ r26 = ((-1)) → qX1_namesAt_14 Q K5 n v26_0 y1 y2 (y3 + Int32.ofInt 1) y4 (y5 + Int32.ofInt 1))))
def qX1_namesAt_5 (Q : Int32 → Md → Prop) : Nat → Md → Int32 → Int32 → Int32 → Int32 → Prop
  | 0 => fun _ _ _ _ _ => False
  | n + 1 => fun u0 y1 y2 y3 y4 =>
  (y1 ≤ y4 → Q y3 u0) ∧ (¬ y1 ≤ y4 → ∃ n' : Nat, qX1_namesAt_14 Q (qX1_namesAt_5 Q n) n' u0 y1 y2 y3 y4 0)
def qX1_namesAt (u0 : Md) (x1 : Int32) (x2 : Int32) (Q : Int32 → Md → Prop) : Prop :=
  ∃ n' : Nat, qX1_namesAt_5 Q n' u0 x1 x2 0 0
def qX1_undoLast (u0 : Md) (x1 : Int32) (x2 : Int32) (x3 : Int32) (Q : Int32 → Md → Prop) : Prop :=
  qX1_settlingAt u0 x1 x2 x3 (fun r4 v4_0 => (¬ r4 = ((-1)) → vp_in r4 60 ∧ (∀ w24 : Md, w24 = tA v4_0 11 r4 x3 → Q 1 w24)) ∧ (r4 = ((-1)) → Q 0 v4_0))
def qX1_copyFrom (u0 : Md) (u1 : Md) (Q : Md → Md → Prop) : Prop :=
  ∀ w5 : Md, w5 = sF u0 0 (gF u1 0) → cpyOK 0 0 (gF w5 0) 60 60 ∧ (∀ w22 : Md, w22 = sA w5 1 (va_cpy (gA u1 1) (gA w5 1) (0 : Int32).toNatClampNeg (0 : Int32).toNatClampNeg (gF w5 0).toNatClampNeg) → cpyOK 0 0 (gF w22 0) 60 60 ∧ (∀ w39 : Md, w39 = sA w22 2 (va_cpy (gA u1 2) (gA w22 2) (0 : Int32).toNatClampNeg (0 : Int32).toNatClampNeg (gF w22 0).toNatClampNeg) → qX11_copyFlags 60 60 (gZ u1 3) (gZ w39 3) (gF w39 0) (fun v54_0 v54_1 => cpyOK 0 0 (gF w39 0) 60 60 ∧ (∀ w71 : Md, w71 = sA (sZ w39 3 v54_1) 4 (va_cpy (gA u1 4) (gA w39 4) (0 : Int32).toNatClampNeg (0 : Int32).toNatClampNeg (gF w39 0).toNatClampNeg) → cpyOK 0 0 (gF w71 0) 60 60 ∧ (∀ w88 : Md, w88 = sA w71 5 (va_cpy (gA u1 5) (gA w71 5) (0 : Int32).toNatClampNeg (0 : Int32).toNatClampNeg (gF w71 0).toNatClampNeg) → ∀ w96 : Md, w96 = sF w88 6 (gF u1 6) → cpyOK 0 0 (gF w96 6) 60 60 ∧ (∀ w113 : Md, w113 = sA w96 7 (va_cpy (gA u1 7) (gA w96 7) (0 : Int32).toNatClampNeg (0 : Int32).toNatClampNeg (gF w96 6).toNatClampNeg) → cpyOK 0 0 (gF w113 6) 60 60 ∧ (∀ w130 : Md, w130 = sA w113 8 (va_cpy (gA u1 8) (gA w113 8) (0 : Int32).toNatClampNeg (0 : Int32).toNatClampNeg (gF w113 6).toNatClampNeg) → cpyOK 0 0 (gF w130 6) 60 60 ∧ (∀ w147 : Md, w147 = sA w130 9 (va_cpy (gA u1 9) (gA w130 9) (0 : Int32).toNatClampNeg (0 : Int32).toNatClampNeg (gF w130 6).toNatClampNeg) → cpyOK 0 0 (gF w147 6) 60 60 ∧ (∀ w164 : Md, w164 = sA w147 10 (va_cpy (gA u1 10) (gA w147 10) (0 : Int32).toNatClampNeg (0 : Int32).toNatClampNeg (gF w147 6).toNatClampNeg) → cpyOK 0 0 (gF w164 6) 60 60 ∧ (∀ w181 : Md, w181 = sA w164 11 (va_cpy (gA u1 11) (gA w164 11) (0 : Int32).toNatClampNeg (0 : Int32).toNatClampNeg (gF w164 6).toNatClampNeg) → Q w181 (sZ u1 3 v54_0)))))))))))
def qX2_has (u0 : Md) (x1 : Int32) (Q : Int32 → Md → Prop) : Prop :=
  (x1 < 0 → Q 0 u0) ∧ (¬ x1 < 0 → ((gF u0 0) ≤ x1 → Q 0 u0) ∧ (¬ (gF u0 0) ≤ x1 → Q 1 u0))
def qX2_addPlace (u0 : Md) (x1 : Int32) (x2 : Int32) (Q : Int32 → Md → Prop) : Prop :=
  ((gF u0 0) < 40 → vp_in (gF u0 0) 40 ∧ (∀ w21 : Md, w21 = tA u0 1 (gF u0 0) x1 → vp_in (gF w21 0) 40 ∧ (∀ w31 : Md, w31 = tA w21 2 (gF w21 0) x2 → ∀ w39 : Md, w39 = sF w31 0 ((gF w31 0) + 1) → Q ((gF w39 0) - 1) w39))) ∧ (¬ (gF u0 0) < 40 → Q ((-3)) u0)
def qX2_tellPart_51 (Q : Int32 → Md → Prop) (u0 : Md) (y1 : Int32) (y2 : Int32) (y3 : Int32) (y4 : Int32) : Prop :=
  (y4 < 520 → vp_in y4 520 ∧ (∀ w68 : Md, w68 = tA u0 4 y4 y1 → vp_in y4 520 ∧ (∀ w76 : Md, w76 = tA w68 5 y4 y2 → vp_in y4 520 ∧ (∀ w84 : Md, w84 = tA w76 6 y4 y3 → ∀ w97 : Md, w97 = sF w84 3 (imax (gF w84 3) (y4 + 1)) → Q 1 w97)))) ∧ (¬ y4 < 520 → Q 0 u0)
def qX2_tellPart_14 (Q : Int32 → Md → Prop) : Nat → Md → Int32 → Int32 → Int32 → Int32 → Int32 → Prop
  | 0 => fun _ _ _ _ _ _ => False
  | n + 1 => fun u0 y1 y2 y3 y4 y5 =>
  (y5 < 0 → qX2_tellPart_51 Q u0 y1 y2 y3 y4) ∧ (¬ y5 < 0 → vp_in y5 520 ∧ ((¬ (gA u0 6 y5.toNatClampNeg) = y3 → qX2_tellPart_51 Q u0 y1 y2 y3 y4) ∧ ((gA u0 6 y5.toNatClampNeg) = y3 → vp_in y5 520 ∧ ((¬ (gA u0 4 y5.toNatClampNeg) = y1 → qX2_tellPart_14 Q n u0 y1 y2 y3 y4 (y5 + Int32.ofInt (-1))) ∧ ((gA u0 4 y5.toNatClampNeg) = y1 → qX2_tellPart_14 Q n u0 y1 y2 y3 y5 (y5 + Int32.ofInt (-1)))))))
def qX2_tellPart (u0 : Md) (x1 : Int32) (x2 : Int32) (x3 : Int32) (Q : Int32 → Md → Prop) : Prop :=
  ∃ n' : Nat, qX2_tellPart_14 Q n' u0 x1 x2 x3 (gF u0 3) ((gF u0 3) - 1)
def qX2_tellCount_60 (Q : Int32 → Md → Prop) (u0 : Md) (y3 : Int32) (y4 : Int32) (y5 : Int32) (y6 : Int32) : Prop :=
  (y6 < 200 → vp_in y6 200 ∧ (∀ w78 : Md, w78 = tA u0 8 y6 y5 → vp_in y6 200 ∧ (∀ w86 : Md, w86 = tA w78 9 y6 y3 → vp_in y6 200 ∧ (∀ w95 : Md, w95 = tA w86 10 y6 y4 → ∀ w108 : Md, w108 = sF w95 7 (imax (gF w95 7) (y6 + 1)) → Q 1 w108)))) ∧ (¬ y6 < 200 → Q 0 u0)
def qX2_tellCount_21 (Q : Int32 → Md → Prop) : Nat → Md → Int32 → Int32 → Int32 → Int32 → Int32 → Prop
  | 0 => fun _ _ _ _ _ _ => False
  | n + 1 => fun u0 y3 y4 y5 y6 y7 =>
  (y7 < 0 → qX2_tellCount_60 Q u0 y3 y4 y5 y6) ∧ (¬ y7 < 0 → vp_in y7 200 ∧ ((¬ (gA u0 10 y7.toNatClampNeg) = y4 → qX2_tellCount_60 Q u0 y3 y4 y5 y6) ∧ ((gA u0 10 y7.toNatClampNeg) = y4 → vp_in y7 200 ∧ ((¬ (gA u0 8 y7.toNatClampNeg) = y5 → qX2_tellCount_21 Q n u0 y3 y4 y5 y6 (y7 + Int32.ofInt (-1))) ∧ ((gA u0 8 y7.toNatClampNeg) = y5 → qX2_tellCount_21 Q n u0 y3 y4 y5 y7 (y7 + Int32.ofInt (-1)))))))
def qX2_tellCount (u0 : Md) (x1 : Int32) (x2 : Int32) (x3 : Int32) (x4 : Int32) (Q : Int32 → Md → Prop) : Prop :=
  ∃ n' : Nat, qX2_tellCount_21 Q n' u0 x3 x4 ((x1 * 3) + x2) (gF u0 7) ((gF u0 7) - 1)
def qJ7_fill_53178_5 (n0 : Nat) (Q : (Nat → Int32) → Prop) : Nat → (Nat → Int32) → Int32 → Int32 → Int32 → Prop
  | 0 => fun _ _ _ _ => False
  | n + 1 => fun f0 y1 y2 y3 =>
  (y3 ≤ y2 → Q f0) ∧ (¬ y3 ≤ y2 → vp_in y2 n0 ∧ (qJ7_fill_53178_5 n0 Q n (va_up f0 y2.toNatClampNeg y1) y1 (y2 + Int32.ofInt 1) y3))
def qJ7_fill_53178 (n0 : Nat) (f0 : Nat → Int32) (x1 : Int32) (Q : (Nat → Int32) → Prop) : Prop :=
  ∃ n' : Nat, qJ7_fill_53178_5 n0 Q n' f0 x1 0 (Int32.ofNat n0)
def qX2_fillParents_7 (n1 : Nat) (Q : Md → (Nat → Int32) → Prop) : Nat → Md → (Nat → Int32) → Int32 → Int32 → Prop
  | 0 => fun _ _ _ _ => False
  | n + 1 => fun u0 f1 y2 y3 =>
  ((gF u0 3) ≤ y3 → Q u0 f1) ∧ (¬ (gF u0 3) ≤ y3 → vp_in y3 520 ∧ ((y2 < (gA u0 6 y3.toNatClampNeg) → Q u0 f1) ∧ (¬ y2 < (gA u0 6 y3.toNatClampNeg) → vp_in y3 520 ∧ (vp_in y3 520 ∧ (vp_in (gA u0 4 y3.toNatClampNeg) n1 ∧ (qX2_fillParents_7 n1 Q n u0 (va_up f1 (gA u0 4 y3.toNatClampNeg).toNatClampNeg (gA u0 5 y3.toNatClampNeg)) y2 (y3 + Int32.ofInt 1)))))))
def qX2_fillParents (n1 : Nat) (u0 : Md) (f1 : Nat → Int32) (x2 : Int32) (Q : Md → (Nat → Int32) → Prop) : Prop :=
  qJ7_fill_53178 n1 f1 ((-1)) (fun v2_0 => ∃ n' : Nat, qX2_fillParents_7 n1 Q n' u0 v2_0 x2 0)
def qX2_fillOwn_7 (n1 : Nat) (Q : Md → (Nat → Int32) → Prop) : Nat → Md → (Nat → Int32) → Int32 → Int32 → Prop
  | 0 => fun _ _ _ _ => False
  | n + 1 => fun u0 f1 y2 y3 =>
  ((gF u0 7) ≤ y3 → Q u0 f1) ∧ (¬ (gF u0 7) ≤ y3 → vp_in y3 200 ∧ ((y2 < (gA u0 10 y3.toNatClampNeg) → Q u0 f1) ∧ (¬ y2 < (gA u0 10 y3.toNatClampNeg) → vp_in y3 200 ∧ (vp_in y3 200 ∧ (vp_in (gA u0 8 y3.toNatClampNeg) n1 ∧ (qX2_fillOwn_7 n1 Q n u0 (va_up f1 (gA u0 8 y3.toNatClampNeg).toNatClampNeg (gA u0 9 y3.toNatClampNeg)) y2 (y3 + Int32.ofInt 1)))))))
def qX2_fillOwn (n1 : Nat) (u0 : Md) (f1 : Nat → Int32) (x2 : Int32) (Q : Md → (Nat → Int32) → Prop) : Prop :=
  qJ7_fill_53178 n1 f1 0 (fun v2_0 => ∃ n' : Nat, qX2_fillOwn_7 n1 Q n' u0 v2_0 x2 0)
def qX2_areNear (u0 : Md) (x1 : Int32) (x2 : Int32) (x3 : Int32) (Q : Int32 → Md → Prop) : Prop :=
  vp_in x1 40 ∧ (vp_in x2 40 ∧ (vp_in x1 40 ∧ (vp_in x2 40 ∧ (((x3 * x3) < ((((gA u0 1 x1.toNatClampNeg) - (gA u0 1 x2.toNatClampNeg)) * ((gA u0 1 x1.toNatClampNeg) - (gA u0 1 x2.toNatClampNeg))) + (((gA u0 2 x1.toNatClampNeg) - (gA u0 2 x2.toNatClampNeg)) * ((gA u0 2 x1.toNatClampNeg) - (gA u0 2 x2.toNatClampNeg)))) → Q 0 u0) ∧ (¬ (x3 * x3) < ((((gA u0 1 x1.toNatClampNeg) - (gA u0 1 x2.toNatClampNeg)) * ((gA u0 1 x1.toNatClampNeg) - (gA u0 1 x2.toNatClampNeg))) + (((gA u0 2 x1.toNatClampNeg) - (gA u0 2 x2.toNatClampNeg)) * ((gA u0 2 x1.toNatClampNeg) - (gA u0 2 x2.toNatClampNeg)))) → Q 1 u0)))))
def qX2_copyFrom (u0 : Md) (u1 : Md) (Q : Md → Md → Prop) : Prop :=
  ∀ w5 : Md, w5 = sF u0 0 (gF u1 0) → cpyOK 0 0 (gF w5 0) 40 40 ∧ (∀ w22 : Md, w22 = sA w5 1 (va_cpy (gA u1 1) (gA w5 1) (0 : Int32).toNatClampNeg (0 : Int32).toNatClampNeg (gF w5 0).toNatClampNeg) → cpyOK 0 0 (gF w22 0) 40 40 ∧ (∀ w39 : Md, w39 = sA w22 2 (va_cpy (gA u1 2) (gA w22 2) (0 : Int32).toNatClampNeg (0 : Int32).toNatClampNeg (gF w22 0).toNatClampNeg) → ∀ w47 : Md, w47 = sF w39 3 (gF u1 3) → cpyOK 0 0 (gF w47 3) 520 520 ∧ (∀ w64 : Md, w64 = sA w47 4 (va_cpy (gA u1 4) (gA w47 4) (0 : Int32).toNatClampNeg (0 : Int32).toNatClampNeg (gF w47 3).toNatClampNeg) → cpyOK 0 0 (gF w64 3) 520 520 ∧ (∀ w81 : Md, w81 = sA w64 5 (va_cpy (gA u1 5) (gA w64 5) (0 : Int32).toNatClampNeg (0 : Int32).toNatClampNeg (gF w64 3).toNatClampNeg) → cpyOK 0 0 (gF w81 3) 520 520 ∧ (∀ w98 : Md, w98 = sA w81 6 (va_cpy (gA u1 6) (gA w81 6) (0 : Int32).toNatClampNeg (0 : Int32).toNatClampNeg (gF w81 3).toNatClampNeg) → ∀ w106 : Md, w106 = sF w98 7 (gF u1 7) → cpyOK 0 0 (gF w106 7) 200 200 ∧ (∀ w123 : Md, w123 = sA w106 8 (va_cpy (gA u1 8) (gA w106 8) (0 : Int32).toNatClampNeg (0 : Int32).toNatClampNeg (gF w106 7).toNatClampNeg) → cpyOK 0 0 (gF w123 7) 200 200 ∧ (∀ w140 : Md, w140 = sA w123 9 (va_cpy (gA u1 9) (gA w123 9) (0 : Int32).toNatClampNeg (0 : Int32).toNatClampNeg (gF w123 7).toNatClampNeg) → cpyOK 0 0 (gF w140 7) 200 200 ∧ (∀ w157 : Md, w157 = sA w140 10 (va_cpy (gA u1 10) (gA w140 10) (0 : Int32).toNatClampNeg (0 : Int32).toNatClampNeg (gF w140 7).toNatClampNeg) → Q w157 u1))))))))
def qX3_add (u0 : Md) (u1 : Md) (Q : Int32 → Md → Md → Prop) : Prop :=
  (7 ≤ (gF u0 1) → Q 0 u0 u1) ∧ (¬ 7 ≤ (gF u0 1) → ((gF u1 1) ≤ 24 → vp_in (gF u0 1) 7 ∧ (∀ w32 : Md, w32 = tA u0 2 (gF u0 1) (gF u1 1) → cpyOK 0 ((gF w32 1) * 24) (gF u1 1) 500 168 ∧ (∀ w53 : Md, w53 = sB w32 3 (va_cpy (gB u1 0) (gB w32 3) (0 : Int32).toNatClampNeg ((gF w32 1) * 24).toNatClampNeg (gF u1 1).toNatClampNeg) → ∀ w63 : Md, w63 = sF w53 1 ((gF w53 1) + 1) → Q 1 w63 u1))) ∧ (¬ (gF u1 1) ≤ 24 → Q 0 u0 u1))
def qX3_choosePlaces_80 (Q : Int32 → Md → Md → Md → Md → Prop) (K7 : Md → Md → Md → Md → Int32 → Prop) (u0 : Md) (u1 : Md) (u1_2 : Md) (u1_3 : Md) (y2 : Int32) (y3 : Int32) : Prop :=
  (y3 = 0 → K7 u0 u1 u1_2 u1_3 (y2 + Int32.ofInt 1)) ∧ (¬ y3 = 0 → vp_in (gF u0 6) 10 ∧ (∀ w93 : Md, w93 = tA u0 7 (gF u0 6) y2 → ∀ w101 : Md, w101 = sF w93 6 ((gF w93 6) + 1) → K7 w101 u1 u1_2 u1_3 (y2 + Int32.ofInt 1)))
def qX3_choosePlaces_65 (Q : Int32 → Md → Md → Md → Md → Prop) (K7 : Md → Md → Md → Md → Int32 → Prop) (u0 : Md) (u1 : Md) (u1_2 : Md) (u1_3 : Md) (y2 : Int32) (y3 : Int32) : Prop :=
  (y3 = 0 → qX3_choosePlaces_80 Q K7 u0 u1 u1_2 u1_3 y2 y3) ∧ (¬ y3 = 0 → ((gF u0 6) < 10 → qX3_choosePlaces_80 Q K7 u0 u1 u1_2 u1_3 y2 y3) ∧ (¬ (gF u0 6) < 10 → Q 0 u0 u1 u1_2 u1_3))
def qX3_choosePlaces_23 (Q : Int32 → Md → Md → Md → Md → Prop) (K7 : Md → Md → Md → Md → Int32 → Prop) : Nat → Md → Md → Md → Md → Int32 → Int32 → Int32 → Prop
  | 0 => fun _ _ _ _ _ _ _ => False
  | n + 1 => fun u0 u1 u1_2 u1_3 y2 y3 y4 =>
  ((gF u1_3 0) ≤ y4 → qX3_choosePlaces_65 Q K7 u0 u1 u1_2 u1_3 y2 y3) ∧ (¬ (gF u1_3 0) ≤ y4 → (¬ y3 = 0 → qX3_choosePlaces_65 Q K7 u0 u1 u1_2 u1_3 y2 y3) ∧ (y3 = 0 → vp_in y4 80 ∧ ((¬ (gA u1_3 1 y4.toNatClampNeg) = y2 → qX3_choosePlaces_23 Q K7 n u0 u1 u1_2 u1_3 y2 0 (y4 + Int32.ofInt 1)) ∧ ((gA u1_3 1 y4.toNatClampNeg) = y2 → qX3_choosePlaces_23 Q K7 n u0 u1 u1_2 u1_3 y2 1 (y4 + Int32.ofInt 1)))))
def qX3_choosePlaces_7 (Q : Int32 → Md → Md → Md → Md → Prop) : Nat → Md → Md → Md → Md → Int32 → Prop
  | 0 => fun _ _ _ _ _ => False
  | n + 1 => fun u0 u1 u1_2 u1_3 y2 =>
  ((gF u1_2 0) ≤ y2 → Q 1 u0 u1 u1_2 u1_3) ∧ (¬ (gF u1_2 0) ≤ y2 → ∃ n' : Nat, qX3_choosePlaces_23 Q (qX3_choosePlaces_7 Q n) n' u0 u1 u1_2 u1_3 y2 0 0)
def qX3_choosePlaces (u0 : Md) (u1 : Md) (u1_2 : Md) (u1_3 : Md) (Q : Int32 → Md → Md → Md → Md → Prop) : Prop :=
  ∀ w2 : Md, w2 = sF u0 6 0 → ∃ n' : Nat, qX3_choosePlaces_7 Q n' w2 u1 u1_2 u1_3 0
def qX7_spellingAt_7 (Q : Int32 → Md → Prop) : Nat → Md → Int32 → Int32 → Int32 → Prop
  | 0 => fun _ _ _ _ => False
  | n + 1 => fun u0 y1 y2 y3 =>
  (y3 < 0 → Q ((-1)) u0) ∧ (¬ y3 < 0 → vp_in y3 12 ∧ ((¬ (gA u0 7 y3.toNatClampNeg) = y1 → qX7_spellingAt_7 Q n u0 y1 y2 (y3 + Int32.ofInt (-1))) ∧ ((gA u0 7 y3.toNatClampNeg) = y1 → vp_in y3 12 ∧ ((y2 < (gA u0 8 y3.toNatClampNeg) → qX7_spellingAt_7 Q n u0 y1 y2 (y3 + Int32.ofInt (-1))) ∧ (¬ y2 < (gA u0 8 y3.toNatClampNeg) → Q y3 u0)))))
def qX7_spellingAt (u0 : Md) (x1 : Int32) (x2 : Int32) (Q : Int32 → Md → Prop) : Prop :=
  ∃ n' : Nat, qX7_spellingAt_7 Q n' u0 x1 x2 ((gF u0 6) - 1)
def qX7_fits_88 (Q : Int32 → Md → Prop) (u0 : Md) (y1 : Int32) (y4 : Int32) (z0 : Int32) : Prop :=
  (z0 = 0 → Q 0 u0) ∧ (¬ z0 = 0 → vp_in y1 192 ∧ (vp_in y4 1120 ∧ ((¬ (((gA u0 11 y1.toNatClampNeg) >>> ((((gB u0 5 y4.toNatClampNeg).toInt32) - 97) &&& 31)) &&& 1) = 1 → Q 0 u0) ∧ ((((gA u0 11 y1.toNatClampNeg) >>> ((((gB u0 5 y4.toNatClampNeg).toInt32) - 97) &&& 31)) &&& 1) = 1 → Q 1 u0))))
def qX7_fits_21 (Q : Int32 → Md → Prop) : Nat → Md → Int32 → Int32 → Int32 → Int32 → Prop
  | 0 => fun _ _ _ _ _ => False
  | n + 1 => fun u0 y1 y2 y4 y5 =>
  (y4 ≤ y5 → vp_in y1 192 ∧ (vp_in (y2 - 1) 1120 ∧ ((¬ (((gA u0 10 y1.toNatClampNeg) >>> ((((gB u0 5 (y2 - 1).toNatClampNeg).toInt32) - 97) &&& 31)) &&& 1) = 1 → qX7_fits_88 Q u0 y1 y4 0) ∧ ((((gA u0 10 y1.toNatClampNeg) >>> ((((gB u0 5 (y2 - 1).toNatClampNeg).toInt32) - 97) &&& 31)) &&& 1) = 1 → qX7_fits_88 Q u0 y1 y4 1)))) ∧ (¬ y4 ≤ y5 → vp_in y5 1120 ∧ (vp_in (((y1 * 3) + y5) - y2) 576 ∧ ((((gB u0 5 y5.toNatClampNeg).toInt32) = ((gB u0 14 (((y1 * 3) + y5) - y2).toNatClampNeg).toInt32) → qX7_fits_21 Q n u0 y1 y2 y4 (y5 + Int32.ofInt 1)) ∧ (¬ ((gB u0 5 y5.toNatClampNeg).toInt32) = ((gB u0 14 (((y1 * 3) + y5) - y2).toNatClampNeg).toInt32) → Q 0 u0))))
def qX7_fits (u0 : Md) (x1 : Int32) (x2 : Int32) (x3 : Int32) (Q : Int32 → Md → Prop) : Prop :=
  vp_in x1 192 ∧ (((x2 + (gA u0 12 x1.toNatClampNeg)) ≤ x3 → ∃ n' : Nat, qX7_fits_21 Q n' u0 x1 x2 (x2 + (gA u0 12 x1.toNatClampNeg)) x2) ∧ (¬ (x2 + (gA u0 12 x1.toNatClampNeg)) ≤ x3 → Q 0 u0))
def qX7_ruleFor_17 (Q : Int32 → Md → Prop) : Nat → Md → Int32 → Int32 → Int32 → Int32 → Int32 → Prop
  | 0 => fun _ _ _ _ _ _ => False
  | n + 1 => fun u0 y1 y2 y3 y4 y5 =>
  vp_in y1 12 ∧ (((y4 + (gA u0 9 y1.toNatClampNeg)) ≤ y5 → Q ((-1)) u0) ∧ (¬ (y4 + (gA u0 9 y1.toNatClampNeg)) ≤ y5 → qX7_fits u0 y5 y2 y3 (fun r36 v36_0 => (r36 = 0 ∨ r36 = 1) → (r36 = 0 → qX7_ruleFor_17 Q n v36_0 y1 y2 y3 y4 (y5 + Int32.ofInt 1)) ∧ (¬ r36 = 0 → Q y5 v36_0))))
def qX7_ruleFor (u0 : Md) (x1 : Int32) (x2 : Int32) (x3 : Int32) (Q : Int32 → Md → Prop) : Prop :=
  (¬ x1 = ((-1)) → ∃ n' : Nat, qX7_ruleFor_17 Q n' u0 x1 x2 x3 (x1 * 16) (x1 * 16)) ∧ (x1 = ((-1)) → Q ((-1)) u0)
def qX5_add (u0 : Md) (x1 : Int32) (x2 : Int32) (Q : Md → Prop) : Prop :=
  (73 ≤ (gF u0 0) → Q u0) ∧ (¬ 73 ≤ (gF u0 0) → vp_in (gF u0 0) 73 ∧ (∀ w19 : Md, w19 = tB u0 1 (gF u0 0) x1.toInt8.toInt32 → vp_in (gF w19 0) 73 ∧ (∀ w29 : Md, w29 = tA w19 2 (gF w19 0) x2 → ∀ w37 : Md, w37 = sF w29 0 ((gF w29 0) + 1) → Q w37)))
def qX7_spellInto_105 (Q : Md → Md → Prop) (K35 : Md → Md → Int32 → Int32 → Int32 → Int32 → Prop) : Nat → Md → Md → Int32 → Int32 → Int32 → Int32 → Int32 → Int32 → Int32 → Prop
  | 0 => fun _ _ _ _ _ _ _ _ _ => False
  | n + 1 => fun u0 u1 y4 y5 y6 y7 y8 y9 y10 =>
  vp_in y8 192 ∧ (((gA u0 13 y8.toNatClampNeg) ≤ y10 → vp_in y8 192 ∧ (K35 u0 u1 y4 (y5 + (gA u0 12 y8.toNatClampNeg)) y6 (y7 + Int32.ofInt 1))) ∧ (¬ (gA u0 13 y8.toNatClampNeg) ≤ y10 → vp_in ((y8 * 3) + y10) 576 ∧ (qX5_add u1 ((gB u0 15 ((y8 * 3) + y10).toNatClampNeg).toInt32) y9 (fun v132_0 => qX7_spellInto_105 Q K35 n u0 v132_0 y4 y5 y6 y7 y8 y9 (y10 + Int32.ofInt 1)))))
def qX7_spellInto_35 (Q : Md → Md → Prop) : Nat → Md → Md → Int32 → Int32 → Int32 → Int32 → Prop
  | 0 => fun _ _ _ _ _ _ => False
  | n + 1 => fun u0 u1 y4 y5 y6 y7 =>
  (12 ≤ y7 → Q u0 u1) ∧ (¬ 12 ≤ y7 → (y6 ≤ y5 → Q u0 u1) ∧ (¬ y6 ≤ y5 → qX7_ruleFor u0 y4 y5 y6 (fun r56 v56_0 => (¬ r56 = ((-1)) → ∃ n' : Nat, qX7_spellInto_105 Q (qX7_spellInto_35 Q n) n' v56_0 u1 y4 y5 y6 y7 r56 (((100 * y4) + r56) - (y4 * 16)) 0) ∧ (r56 = ((-1)) → vp_in y5 1120 ∧ (qX5_add u1 ((gB v56_0 5 y5.toNatClampNeg).toInt32) ((-3)) (fun v77_0 => qX7_spellInto_35 Q n v56_0 v77_0 y4 (y5 + Int32.ofInt 1) y6 (y7 + Int32.ofInt 1)))))))
def qX7_spellInto (u0 : Md) (u1 : Md) (x2 : Int32) (x3 : Int32) (Q : Md → Md → Prop) : Prop :=
  vp_in x2 80 ∧ (qX7_spellingAt u0 (gA u0 2 x2.toNatClampNeg) x3 (fun r8 v8_0 => vp_in x2 80 ∧ (∃ n' : Nat, qX7_spellInto_35 Q n' v8_0 u1 r8 ((x2 * 14) + 1) (((x2 * 14) + 1) + (gA v8_0 4 x2.toNatClampNeg)) 0)))
def qX10_editsOfRows_87 (Q : Int32 → Md → Md → Md → Prop) (K25 : Md → Md → Md → Int32 → Prop) (K53 : Md → Md → Md → Int32 → Int32 → Int32 → Prop) (u0 : Md) (u1 : Md) (u2 : Md) (y3 : Int32) (y5 : Int32) (z0 : Int32) : Prop :=
  vp_in (y5 + 1) 74 ∧ (vp_in y5 74 ∧ (vp_in (y5 + 1) 74 ∧ (∀ w127 : Md, w127 = tA u0 8 (y5 + 1) (imin z0 ((imin (gA u0 8 (y5 + 1).toNatClampNeg) (gA u0 8 y5.toNatClampNeg)) + 1)) → K53 w127 u1 u2 y3 (gA u0 8 (y5 + 1).toNatClampNeg) (y5 + Int32.ofInt 1))))
def qX10_editsOfRows_53 (Q : Int32 → Md → Md → Md → Prop) (K25 : Md → Md → Md → Int32 → Prop) : Nat → Md → Md → Md → Int32 → Int32 → Int32 → Prop
  | 0 => fun _ _ _ _ _ _ => False
  | n + 1 => fun u0 u1 u2 y3 y4 y5 =>
  ((gF u2 0) ≤ y5 → K25 u0 u1 u2 (y3 + Int32.ofInt 1)) ∧ (¬ (gF u2 0) ≤ y5 → vp_in y3 73 ∧ (vp_in y5 73 ∧ ((¬ ((gB u1 1 y3.toNatClampNeg).toInt32) = ((gB u2 1 y5.toNatClampNeg).toInt32) → qX10_editsOfRows_87 Q K25 (qX10_editsOfRows_53 Q K25 n) u0 u1 u2 y3 y5 (y4 + 1)) ∧ (((gB u1 1 y3.toNatClampNeg).toInt32) = ((gB u2 1 y5.toNatClampNeg).toInt32) → qX10_editsOfRows_87 Q K25 (qX10_editsOfRows_53 Q K25 n) u0 u1 u2 y3 y5 y4))))
def qX10_editsOfRows_25 (Q : Int32 → Md → Md → Md → Prop) : Nat → Md → Md → Md → Int32 → Prop
  | 0 => fun _ _ _ _ => False
  | n + 1 => fun u0 u1 u2 y3 =>
  ((gF u1 0) ≤ y3 → vp_in (gF u2 0) 74 ∧ (Q (gA u0 8 (gF u2 0).toNatClampNeg) u0 u1 u2)) ∧ (¬ (gF u1 0) ≤ y3 → vp_in 0 74 ∧ (vp_in 0 74 ∧ (∀ w49 : Md, w49 = tA u0 8 0 (y3 + 1) → ∃ n' : Nat, qX10_editsOfRows_53 Q (qX10_editsOfRows_25 Q n) n' w49 u1 u2 y3 (gA u0 8 (0 : Int32).toNatClampNeg) 0)))
def qX10_editsOfRows_2 (Q : Int32 → Md → Md → Md → Prop) : Nat → Md → Md → Md → Int32 → Prop
  | 0 => fun _ _ _ _ => False
  | n + 1 => fun u0 u1 u2 y3 =>
  ((gF u2 0) < y3 → ∃ n' : Nat, qX10_editsOfRows_25 Q n' u0 u1 u2 0) ∧ (¬ (gF u2 0) < y3 → vp_in y3 74 ∧ (∀ w16 : Md, w16 = tA u0 8 y3 y3 → qX10_editsOfRows_2 Q n w16 u1 u2 (y3 + Int32.ofInt 1)))
def qX10_editsOfRows (u0 : Md) (u1 : Md) (u2 : Md) (Q : Int32 → Md → Md → Md → Prop) : Prop :=
  ∃ n' : Nat, qX10_editsOfRows_2 Q n' u0 u1 u2 0
def qX3_fewestEdits_7 (Q : Int32 → Md → Md → Md → Md → Md → Md → Prop) : Nat → Md → Md → Md → Md → Md → Md → Int32 → Int32 → Int32 → Prop
  | 0 => fun _ _ _ _ _ _ _ _ _ => False
  | n + 1 => fun u0 u1 u1_3 u2 u2_6 u2_7 y3 y4 y5 =>
  ((gF u1_3 0) ≤ y5 → Q y4 u0 u1 u1_3 u2 u2_6 u2_7) ∧ (¬ (gF u1_3 0) ≤ y5 → vp_in y5 80 ∧ ((¬ (gA u1_3 1 y5.toNatClampNeg) = y3 → qX3_fewestEdits_7 Q n u0 u1 u1_3 u2 u2_6 u2_7 y3 y4 (y5 + Int32.ofInt 1)) ∧ ((gA u1_3 1 y5.toNatClampNeg) = y3 → ∀ w38 : Md, w38 = sF u2_7 0 0 → qX7_spellInto u1_3 w38 y5 (gF u0 0) (fun v55_0 v55_1 => qX10_editsOfRows u2 u2_6 v55_1 (fun r69 v69_0 v69_1 v69_2 => qX3_fewestEdits_7 Q n u0 u1 v55_0 v69_0 v69_1 v69_2 y3 (imin y4 r69) (y5 + Int32.ofInt 1))))))
def qX3_fewestEdits (u0 : Md) (u1 : Md) (u1_3 : Md) (u2 : Md) (u2_6 : Md) (u2_7 : Md) (x3 : Int32) (Q : Int32 → Md → Md → Md → Md → Md → Md → Prop) : Prop :=
  ∃ n' : Nat, qX3_fewestEdits_7 Q n' u0 u1 u1_3 u2 u2_6 u2_7 x3 73 0
def qX3_fillGains_62 (Q : Md → Md → Md → Md → Md → Md → Prop) (K2 : Md → Md → Md → Md → Md → Md → Int32 → Prop) : Nat → Md → Md → Md → Md → Md → Md → Int32 → Int32 → Prop
  | 0 => fun _ _ _ _ _ _ _ _ => False
  | n + 1 => fun u0 u1 u1_3 u2 u2_6 u2_7 y3 y4 =>
  ((gF u0 6) ≤ y4 → K2 u0 u1 u1_3 u2 u2_6 u2_7 (y3 + Int32.ofInt 1)) ∧ (¬ (gF u0 6) ≤ y4 → vp_in y4 10 ∧ (qX3_fewestEdits u0 u1 u1_3 u2 u2_6 u2_7 (gA u0 7 y4.toNatClampNeg) (fun r94 v94_0 v94_1 v94_2 v94_3 v94_4 v94_5 => vp_in ((y3 * 10) + y4) 70 ∧ (∀ w98 : Md, w98 = tA v94_0 8 ((y3 * 10) + y4) (20 - r94) → qX3_fillGains_62 Q K2 n w98 v94_1 v94_2 v94_3 v94_4 v94_5 y3 (y4 + Int32.ofInt 1)))))
def qX3_fillGains_21 (Q : Md → Md → Md → Md → Md → Md → Prop) (K2 : Md → Md → Md → Md → Md → Md → Int32 → Prop) : Nat → Md → Md → Md → Md → Md → Md → Int32 → Int32 → Prop
  | 0 => fun _ _ _ _ _ _ _ _ => False
  | n + 1 => fun u0 u1 u1_3 u2 u2_6 u2_7 y3 y4 =>
  vp_in y3 7 ∧ (((gA u0 2 y3.toNatClampNeg) ≤ y4 → ∃ n' : Nat, qX3_fillGains_62 Q K2 n' u0 u1 u1_3 u2 u2_6 u2_7 y3 0) ∧ (¬ (gA u0 2 y3.toNatClampNeg) ≤ y4 → vp_in ((y3 * 24) + y4) 168 ∧ (qX5_add u2_6 ((gB u0 3 ((y3 * 24) + y4).toNatClampNeg).toInt32) ((-3)) (fun v50_0 => qX3_fillGains_21 Q K2 n u0 u1 u1_3 u2 v50_0 u2_7 y3 (y4 + Int32.ofInt 1)))))
def qX3_fillGains_2 (Q : Md → Md → Md → Md → Md → Md → Prop) : Nat → Md → Md → Md → Md → Md → Md → Int32 → Prop
  | 0 => fun _ _ _ _ _ _ _ => False
  | n + 1 => fun u0 u1 u1_3 u2 u2_6 u2_7 y3 =>
  ((gF u0 1) ≤ y3 → Q u0 u1 u1_3 u2 u2_6 u2_7) ∧ (¬ (gF u0 1) ≤ y3 → ∀ w15 : Md, w15 = sF u2_6 0 0 → ∃ n' : Nat, qX3_fillGains_21 Q (qX3_fillGains_2 Q n) n' u0 u1 u1_3 u2 w15 u2_7 y3 0)
def qX3_fillGains (u0 : Md) (u1 : Md) (u1_3 : Md) (u2 : Md) (u2_6 : Md) (u2_7 : Md) (Q : Md → Md → Md → Md → Md → Md → Prop) : Prop :=
  ∃ n' : Nat, qX3_fillGains_2 Q n' u0 u1 u1_3 u2 u2_6 u2_7 0
def qX3_sumWith_47 (Q : Int32 → Md → Md → Prop) (u0 : Md) (u1 : Md) (y2 : Int32) (y4 : Int32) (y5 : Int32) : Prop :=
  vp_in (((y2 ||| ((1 : Int32) <<< (y4 &&& 31))) * 10) + y4) (gX u0 1) ∧ (Q (y5 + (gA u0 9 (((y2 ||| ((1 : Int32) <<< (y4 &&& 31))) * 10) + y4).toNatClampNeg)) u0 u1)
def qX3_sumWith (u0 : Md) (u1 : Md) (x2 : Int32) (x3 : Int32) (x4 : Int32) (Q : Int32 → Md → Md → Prop) : Prop :=
  qJ6_bitCount_0f7a4 x2 (fun r5 => vp_in ((r5 * 10) + x4) 70 ∧ ((x3 = ((-1)) → qX3_sumWith_47 Q u0 u1 x2 x4 (gA u0 8 ((r5 * 10) + x4).toNatClampNeg)) ∧ (¬ x3 = ((-1)) → vp_in x3 10 ∧ (vp_in x4 10 ∧ (qX2_areNear u1 (gA u0 7 x3.toNatClampNeg) (gA u0 7 x4.toNatClampNeg) 30 (fun r38 v38_0 => (r38 = 0 ∨ r38 = 1) → (r38 = 0 → qX3_sumWith_47 Q u0 v38_0 x2 x4 (gA u0 8 ((r5 * 10) + x4).toNatClampNeg)) ∧ (¬ r38 = 0 → qX3_sumWith_47 Q u0 v38_0 x2 x4 ((gA u0 8 ((r5 * 10) + x4).toNatClampNeg) + Int32.ofInt 3))))))))
def qX3_mostBehind_24 (Q : Int32 → Md → Md → Prop) : Nat → Md → Md → Int32 → Int32 → Int32 → Int32 → Prop
  | 0 => fun _ _ _ _ _ _ => False
  | n + 1 => fun u0 u1 y2 y3 y5 y6 =>
  ((gF u0 6) ≤ y6 → Q y5 u0 u1) ∧ (¬ (gF u0 6) ≤ y6 → (¬ ((y2 >>> (y6 &&& 31)) &&& 1) = 0 → qX3_mostBehind_24 Q n u0 u1 y2 y3 y5 (y6 + Int32.ofInt 1)) ∧ (((y2 >>> (y6 &&& 31)) &&& 1) = 0 → qX3_sumWith u0 u1 y2 y3 y6 (fun r50 v50_0 v50_1 => qX3_mostBehind_24 Q n v50_0 v50_1 y2 y3 (imax y5 r50) (y6 + Int32.ofInt 1))))
def qX3_mostBehind (u0 : Md) (u1 : Md) (x2 : Int32) (x3 : Int32) (Q : Int32 → Md → Md → Prop) : Prop :=
  qJ6_bitCount_0f7a4 x2 (fun r1 => (r1 < (gF u0 1) → ∃ n' : Nat, qX3_mostBehind_24 Q n' u0 u1 x2 x3 ((-2147483648)) 0) ∧ (¬ r1 < (gF u0 1) → Q 0 u0 u1))
def qX3_fillMost_46 (Q : Md → Md → Prop) (K33 : Md → Md → Int32 → Prop) : Nat → Md → Md → Int32 → Int32 → Prop
  | 0 => fun _ _ _ _ => False
  | n + 1 => fun u0 u1 y2 y3 =>
  ((gF u0 6) ≤ y3 → K33 u0 u1 (y2 + Int32.ofInt (-1))) ∧ (¬ (gF u0 6) ≤ y3 → qJ6_bitCount_0f7a4 y2 (fun r55 => ((gF u0 1) < r55 → K33 u0 u1 (y2 + Int32.ofInt (-1))) ∧ (¬ (gF u0 1) < r55 → (¬ ((y2 >>> (y3 &&& 31)) &&& 1) = 1 → qX3_fillMost_46 Q K33 n u0 u1 y2 (y3 + Int32.ofInt 1)) ∧ (((y2 >>> (y3 &&& 31)) &&& 1) = 1 → qX3_mostBehind u0 u1 y2 y3 (fun r88 v88_0 v88_1 => (gX v88_0 0) = (gX u0 0) ∧ (vp_in ((y2 * 10) + y3) (gX v88_0 1) ∧ (∀ w91 : Md, w91 = tA v88_0 9 ((y2 * 10) + y3) r88 → qX3_fillMost_46 Q K33 n w91 v88_1 y2 (y3 + Int32.ofInt 1))))))))
def qX3_fillMost_33 (Q : Md → Md → Prop) : Nat → Md → Md → Int32 → Prop
  | 0 => fun _ _ _ => False
  | n + 1 => fun u0 u1 y2 =>
  (y2 ≤ 0 → Q u0 u1) ∧ (¬ y2 ≤ 0 → ((gF u0 1) ≤ 0 → Q u0 u1) ∧ (¬ (gF u0 1) ≤ 0 → ∃ n' : Nat, qX3_fillMost_46 Q (qX3_fillMost_33 Q n) n' u0 u1 y2 0))
def qX3_fillMost_24 (Q : Md → Md → Prop) (u0 : Md) (u1 : Md) : Prop :=
  ∃ n' : Nat, qX3_fillMost_33 Q n' u0 u1 (((1 : Int32) <<< ((gF u0 6) &&& 31)) - 1)
def qX3_fillMost (u0 : Md) (u1 : Md) (Q : Md → Md → Prop) : Prop :=
  (¬ (Int32.ofNat (gX u0 1)) = 0 → qX3_fillMost_24 Q u0 u1) ∧ ((Int32.ofNat (gX u0 1)) = 0 → ((gF u0 1) ≤ 0 → qX3_fillMost_24 Q u0 u1) ∧ (¬ (gF u0 1) ≤ 0 → ∀ q19 : Nat, qX3_fillMost_24 Q (sX (sX (sA u0 9 (fun _ => 0)) 0 q19) 1 10240) u1))
def qX3_reaches (u0 : Md) (u1 : Md) (x2 : Int32) (x3 : Int32) (x4 : Int32) (x5 : Int32) (Q : Int32 → Md → Md → Prop) : Prop :=
  (¬ ((x2 >>> (x4 &&& 31)) &&& 1) = 0 → Q 0 u0 u1) ∧ (((x2 >>> (x4 &&& 31)) &&& 1) = 0 → qX3_sumWith u0 u1 x2 x3 x4 (fun r15 v15_0 v15_1 => (¬ r15 = x5 → Q 0 v15_0 v15_1) ∧ (r15 = x5 → Q 1 v15_0 v15_1)))
def qX3_takeFirst_67 (Q : Md → Md → Prop) (K15 : Md → Md → Int32 → Int32 → Int32 → Prop) (u0 : Md) (u1 : Md) (y2 : Int32) (y4 : Int32) (y6 : Int32) : Prop :=
  vp_in y6 10 ∧ (vp_in y4 7 ∧ (∀ w80 : Md, w80 = tA u0 5 y4 (gA u0 7 y6.toNatClampNeg) → K15 w80 u1 (y2 ||| ((1 : Int32) <<< (y6 &&& 31))) y6 (y4 + Int32.ofInt 1)))
def qX3_takeFirst_36 (Q : Md → Md → Prop) (K15 : Md → Md → Int32 → Int32 → Int32 → Prop) : Nat → Md → Md → Int32 → Int32 → Int32 → Int32 → Int32 → Prop
  | 0 => fun _ _ _ _ _ _ _ => False
  | n + 1 => fun u0 u1 y2 y3 y4 y5 y6 =>
  (((gF u0 6) - 1) ≤ y6 → qX3_takeFirst_67 Q K15 u0 u1 y2 y4 y6) ∧ (¬ ((gF u0 6) - 1) ≤ y6 → qX3_reaches u0 u1 y2 y3 y6 y5 (fun r55 v55_0 v55_1 => (r55 = 0 ∨ r55 = 1) → (¬ r55 = 0 → qX3_takeFirst_67 Q K15 v55_0 v55_1 y2 y4 y6) ∧ (r55 = 0 → qX3_takeFirst_36 Q K15 n v55_0 v55_1 y2 y3 y4 y5 (y6 + Int32.ofInt 1))))
def qX3_takeFirst_15 (Q : Md → Md → Prop) : Nat → Md → Md → Int32 → Int32 → Int32 → Prop
  | 0 => fun _ _ _ _ _ => False
  | n + 1 => fun u0 u1 y2 y3 y4 =>
  ((gF u0 1) ≤ y4 → Q u0 u1) ∧ (¬ (gF u0 1) ≤ y4 → qX3_mostBehind u0 u1 y2 y3 (fun r28 v28_0 v28_1 => ∃ n' : Nat, qX3_takeFirst_36 Q (qX3_takeFirst_15 Q n) n' v28_0 v28_1 y2 y3 y4 r28 0))
def qX3_takeFirst (u0 : Md) (u1 : Md) (Q : Md → Md → Prop) : Prop :=
  ∀ w5 : Md, w5 = sF u0 4 (gF u0 1) → ∃ n' : Nat, qX3_takeFirst_15 Q n' w5 u1 0 ((-1)) 0
def qX3_greatestSum (u0 : Md) (u1 : Md) (u1_2 : Md) (u1_3 : Md) (u2 : Md) (u2_6 : Md) (u2_7 : Md) (Q : Int32 → Md → Md → Md → Md → Md → Md → Md → Prop) : Prop :=
  qX3_choosePlaces u0 u1 u1_2 u1_3 (fun r2 v2_0 v2_1 v2_2 v2_3 => (r2 = 0 ∨ r2 = 1) → (r2 = 0 → Q ((-1)) v2_0 v2_1 v2_2 v2_3 u2 u2_6 u2_7) ∧ (¬ r2 = 0 → ((gF v2_0 1) ≤ (gF v2_0 6) → qX3_fillGains v2_0 v2_1 v2_3 u2 u2_6 u2_7 (fun v24_0 v24_1 v24_2 v24_3 v24_4 v24_5 => qX3_fillMost v24_0 v2_2 (fun v32_0 v32_1 => qX3_mostBehind v32_0 v32_1 0 ((-1)) (fun r42 v42_0 v42_1 => qX3_takeFirst v42_0 v42_1 (fun v51_0 v51_1 => Q r42 v51_0 v24_1 v51_1 v24_2 v24_3 v24_4 v24_5))))) ∧ (¬ (gF v2_0 1) ≤ (gF v2_0 6) → Q ((-1)) v2_0 v2_1 v2_2 v2_3 u2 u2_6 u2_7)))
def qX4_begin (u0 : Md) (Q : Md → Prop) : Prop :=
  ∀ w2 : Md, w2 = sF u0 1 0 → Q w2
def qX4_take_54 (Q : Int32 → Md → Prop) : Nat → Md → Int32 → Int32 → Int64 → Int32 → Prop
  | 0 => fun _ _ _ _ _ => False
  | n + 1 => fun u0 y2 y4 y5 y7 =>
  (y4 ≤ y7 → ∀ w113 : Md, w113 = sF u0 1 ((gF u0 1) + 1) → Q 1 w113) ∧ (¬ y4 ≤ y7 → vp_in y7 512 ∧ (vp_in (y4 + y7) 512 ∧ (∀ w79 : Md, w79 = tA u0 3 (y4 + y7) ((gA u0 3 y7.toNatClampNeg) + y2) → vp_in y7 512 ∧ (vp_in (y4 + y7) 512 ∧ (∀ w99 : Md, w99 = tL w79 4 (y4 + y7) ((gL w79 4 y7.toNatClampNeg) + y5) → qX4_take_54 Q n w99 y2 y4 y5 (y7 + Int32.ofInt 1))))))
def qX4_take (u0 : Md) (x1 : Int32) (x2 : Int32) (x3 : Int32) (Q : Int32 → Md → Prop) : Prop :=
  (9 ≤ (gF u0 1) → Q 0 u0) ∧ (¬ 9 ≤ (gF u0 1) → (x2 ≤ x3 → vp_in (gF u0 1) 9 ∧ (∀ w25 : Md, w25 = tA u0 2 (gF u0 1) x1 → ∃ n' : Nat, qX4_take_54 Q n' w25 x2 ((1 : Int32) <<< ((gF w25 1) &&& 31)) (68719476736 + ((1 : Int64) <<< ((4 * (8 - (gF w25 1))).toInt64 &&& 63))) 0)) ∧ (¬ x2 ≤ x3 → Q 0 u0))
def qX4_leastKey_49 (Q : Int64 → Md → Prop) (K7 : Md → Int32 → Int32 → Int64 → Int32 → Prop) (u0 : Md) (y1 : Int32) (y2 : Int32) (y3 : Int64) (y5 : Int32) : Prop :=
  K7 u0 y1 y2 y3 ((y5 - 1) &&& y1)
def qX4_leastKey_7 (Q : Int64 → Md → Prop) : Nat → Md → Int32 → Int32 → Int64 → Int32 → Prop
  | 0 => fun _ _ _ _ _ => False
  | n + 1 => fun u0 y1 y2 y3 y5 =>
  (y5 ≤ 0 → Q y3 u0) ∧ (¬ y5 ≤ 0 → vp_in y5 512 ∧ ((y2 < (gA u0 3 y5.toNatClampNeg) → qX4_leastKey_49 Q (qX4_leastKey_7 Q n) u0 y1 y2 y3 y5) ∧ (¬ y2 < (gA u0 3 y5.toNatClampNeg) → vp_in (y1 - y5) 512 ∧ (vp_in (y1 - y5) 512 ∧ (qX4_leastKey_49 Q (qX4_leastKey_7 Q n) u0 y1 y2 (lmin y3 ((gL u0 5 (y1 - y5).toNatClampNeg) + (gL u0 4 (y1 - y5).toNatClampNeg))) y5)))))
def qX4_leastKey (u0 : Md) (x1 : Int32) (x2 : Int32) (Q : Int64 → Md → Prop) : Prop :=
  ∃ n' : Nat, qX4_leastKey_7 Q n' u0 x1 x2 9223372036854775807 x1
def qX4_leastSum_52 (Q : Int32 → Md → Prop) : Nat → Md → Int64 → Int32 → Prop
  | 0 => fun _ _ _ => False
  | n + 1 => fun u0 y3 y5 =>
  ((gF u0 1) ≤ y5 → Q ((y3 >>> ((36 : Int32).toInt64 &&& 63)).toInt32) u0) ∧ (¬ (gF u0 1) ≤ y5 → vp_in y5 9 ∧ (vp_in (gA u0 2 y5.toNatClampNeg) 40 ∧ (∀ w85 : Md, w85 = tA u0 0 (gA u0 2 y5.toNatClampNeg) (((y3 >>> ((4 * (8 - y5)).toInt64 &&& 63)).toInt32) &&& 15) → qX4_leastSum_52 Q n w85 y3 (y5 + Int32.ofInt 1))))
def qX4_leastSum_9 (Q : Int32 → Md → Prop) : Nat → Md → Int32 → Int32 → Int32 → Prop
  | 0 => fun _ _ _ _ => False
  | n + 1 => fun u0 y1 y2 y3 =>
  (y2 ≤ y3 → vp_in (y2 - 1) 512 ∧ (qJ7_fill_53178 40 (gA u0 0) ((-1)) (fun v46_0 => ∃ n' : Nat, qX4_leastSum_52 Q n' (sA u0 0 v46_0) (gL u0 5 (y2 - 1).toNatClampNeg) 0))) ∧ (¬ y2 ≤ y3 → qX4_leastKey u0 y3 y1 (fun r22 v22_0 => vp_in y3 512 ∧ (∀ w25 : Md, w25 = tL v22_0 5 y3 r22 → qX4_leastSum_9 Q n w25 y1 y2 (y3 + Int32.ofInt 1))))
def qX4_leastSum (u0 : Md) (x1 : Int32) (Q : Int32 → Md → Prop) : Prop :=
  ∃ n' : Nat, qX4_leastSum_9 Q n' u0 x1 ((1 : Int32) <<< ((gF u0 1) &&& 31)) 1
def qX5_has (u0 : Md) (x1 : Int32) (Q : Int32 → Md → Prop) : Prop :=
  (x1 < 0 → Q 0 u0) ∧ (¬ x1 < 0 → ((gF u0 0) ≤ x1 → Q 0 u0) ∧ (¬ (gF u0 0) ≤ x1 → Q 1 u0))
def qX5_readsAs_15 (Q : Int32 → Md → Md → Prop) : Nat → Md → Md → Int32 → Prop
  | 0 => fun _ _ _ => False
  | n + 1 => fun u0 u1 y2 =>
  ((gF u0 0) ≤ y2 → Q 1 u0 u1) ∧ (¬ (gF u0 0) ≤ y2 → vp_in y2 73 ∧ (vp_in y2 73 ∧ ((((gB u0 1 y2.toNatClampNeg).toInt32) = ((gB u1 1 y2.toNatClampNeg).toInt32) → qX5_readsAs_15 Q n u0 u1 (y2 + Int32.ofInt 1)) ∧ (¬ ((gB u0 1 y2.toNatClampNeg).toInt32) = ((gB u1 1 y2.toNatClampNeg).toInt32) → Q 0 u0 u1))))
def qX5_readsAs (u0 : Md) (u1 : Md) (Q : Int32 → Md → Md → Prop) : Prop :=
  ((gF u0 0) = (gF u1 0) → ∃ n' : Nat, qX5_readsAs_15 Q n' u0 u1 0) ∧ (¬ (gF u0 0) = (gF u1 0) → Q 0 u0 u1)
def qX6_has (u0 : Md) (x1 : Int32) (Q : Int32 → Md → Prop) : Prop :=
  (x1 < 0 → Q 0 u0) ∧ (¬ x1 < 0 → ((gF u0 0) ≤ x1 → Q 0 u0) ∧ (¬ (gF u0 0) ≤ x1 → Q 1 u0))
def qX6_make (u0 : Md) (x1 : Int32) (x2 : Int32) (x3 : Int32) (Q : Int32 → Md → Prop) : Prop :=
  ((gF u0 0) < 40 → vp_in (gF u0 0) 40 ∧ (∀ w21 : Md, w21 = tA u0 1 (gF u0 0) x1 → vp_in (gF w21 0) 40 ∧ (∀ w31 : Md, w31 = tA w21 2 (gF w21 0) x2 → vp_in (gF w31 0) 40 ∧ (∀ w41 : Md, w41 = tA w31 3 (gF w31 0) x3 → ∀ w49 : Md, w49 = sF w41 0 ((gF w41 0) + 1) → Q ((gF w49 0) - 1) w49)))) ∧ (¬ (gF u0 0) < 40 → Q ((-3)) u0)
def qX6_copyFrom (u0 : Md) (u1 : Md) (Q : Md → Md → Prop) : Prop :=
  ∀ w5 : Md, w5 = sF u0 0 (gF u1 0) → cpyOK 0 0 (gF w5 0) 40 40 ∧ (∀ w22 : Md, w22 = sA w5 1 (va_cpy (gA u1 1) (gA w5 1) (0 : Int32).toNatClampNeg (0 : Int32).toNatClampNeg (gF w5 0).toNatClampNeg) → cpyOK 0 0 (gF w22 0) 40 40 ∧ (∀ w39 : Md, w39 = sA w22 2 (va_cpy (gA u1 2) (gA w22 2) (0 : Int32).toNatClampNeg (0 : Int32).toNatClampNeg (gF w22 0).toNatClampNeg) → cpyOK 0 0 (gF w39 0) 40 40 ∧ (∀ w56 : Md, w56 = sA w39 3 (va_cpy (gA u1 3) (gA w39 3) (0 : Int32).toNatClampNeg (0 : Int32).toNatClampNeg (gF w39 0).toNatClampNeg) → Q w56 u1)))
def qX7_hasName (u0 : Md) (x1 : Int32) (Q : Int32 → Md → Prop) : Prop :=
  (x1 < 0 → Q 0 u0) ∧ (¬ x1 < 0 → ((gF u0 0) ≤ x1 → Q 0 u0) ∧ (¬ (gF u0 0) ≤ x1 → Q 1 u0))
def qX7_addName (u0 : Md) (u1 : Md) (x2 : Int32) (x3 : Int32) (x4 : Int32) (Q : Int32 → Md → Md → Prop) : Prop :=
  (80 ≤ (gF u0 0) → Q ((-3)) u0 u1) ∧ (¬ 80 ≤ (gF u0 0) → ((gF u1 1) ≤ 12 → vp_in (gF u0 0) 80 ∧ (∀ w30 : Md, w30 = tA u0 1 (gF u0 0) x2 → vp_in (gF w30 0) 80 ∧ (∀ w40 : Md, w40 = tA w30 2 (gF w30 0) x3 → vp_in (gF w40 0) 80 ∧ (∀ w51 : Md, w51 = tA w40 3 (gF w40 0) x4 → vp_in (gF w51 0) 80 ∧ (∀ w64 : Md, w64 = tA w51 4 (gF w51 0) (gF u1 1) → vp_in ((gF w64 0) * 14) 1120 ∧ (∀ w82 : Md, w82 = tB w64 5 ((gF w64 0) * 14) 123 → cpyOK 0 (((gF w64 0) * 14) + 1) (gF u1 1) 500 1120 ∧ (∀ w100 : Md, w100 = sB w82 5 (va_cpy (gB u1 0) (gB w82 5) (0 : Int32).toNatClampNeg (((gF w64 0) * 14) + 1).toNatClampNeg (gF u1 1).toNatClampNeg) → vp_in ((((gF w64 0) * 14) + 1) + (gF u1 1)) 1120 ∧ (∀ w118 : Md, w118 = tB w100 5 ((((gF w64 0) * 14) + 1) + (gF u1 1)) 123 → ∀ w126 : Md, w126 = sF w118 0 ((gF w118 0) + 1) → Q ((gF w126 0) - 1) w126 u1)))))))) ∧ (¬ (gF u1 1) ≤ 12 → Q ((-3)) u0 u1))
def qX9_isWordOf (u0 : Md) (x1 : Int32) (Q : Int32 → Md → Prop) : Prop :=
  (¬ (gF u0 6) = 1 → Q 0 u0) ∧ ((gF u0 6) = 1 → (x1 < ((gF u0 5) - (gF u0 4)) → Q 0 u0) ∧ (¬ x1 < ((gF u0 5) - (gF u0 4)) → Q 1 u0))
def qX7_readWord (n2 : Nat) (u1 : Md) (f2 : Nat → Int8) (x3 : Int32) (Q : Int32 → Md → (Nat → Int8) → Prop) : Prop :=
  qX9_isWordOf u1 3 (fun r2 v2_0 => (r2 = 0 ∨ r2 = 1) → (¬ r2 = 0 → cpyOK (gF v2_0 4) x3 ((gF v2_0 5) - (gF v2_0 4)) 500 n2 ∧ (qX9_advance v2_0 (fun v42_0 => Q ((gF v2_0 5) - (gF v2_0 4)) v42_0 (va_cpy (gB v2_0 0) f2 (gF v2_0 4).toNatClampNeg x3.toNatClampNeg ((gF v2_0 5) - (gF v2_0 4)).toNatClampNeg)))) ∧ (r2 = 0 → qX9_blame v2_0 1 (fun v10_0 => Q 0 v10_0 f2)))
def qX7_readSet_88 (Q : Int32 → Md → Prop) (u1 : Md) (y2 : Int32) : Prop :=
  qX9_blame u1 1 (fun v90_0 => Q y2 v90_0)
def qX7_readSet_53 (Q : Int32 → Md → Prop) : Nat → Md → Int32 → Int32 → Prop
  | 0 => fun _ _ _ => False
  | n + 1 => fun u1 y2 y3 =>
  ((gF u1 5) ≤ y3 → qX9_advance u1 (fun v82_0 => Q y2 v82_0)) ∧ (¬ (gF u1 5) ≤ y3 → vp_in y3 500 ∧ (qX7_readSet_53 Q n u1 (y2 ||| ((1 : Int32) <<< ((((gB u1 0 y3.toNatClampNeg).toInt32) - 97) &&& 31))) (y3 + Int32.ofInt 1)))
def qX7_readSet (u1 : Md) (Q : Int32 → Md → Prop) : Prop :=
  qX9_isSign u1 35 (fun r5 v5_0 => (r5 = 0 ∨ r5 = 1) → (r5 = 0 → qX9_isWordOf v5_0 26 (fun r24 v24_0 => (r24 = 0 ∨ r24 = 1) → (r24 = 0 → qX7_readSet_88 Q v24_0 0) ∧ (¬ r24 = 0 → qX9_isWord v24_0 0 (fun r33 v33_0 => (r33 = 0 ∨ r33 = 1) → (¬ r33 = 0 → qX7_readSet_88 Q v33_0 0) ∧ (r33 = 0 → qX9_isWord v33_0 1 (fun r42 v42_0 => (r42 = 0 ∨ r42 = 1) → (¬ r42 = 0 → qX7_readSet_88 Q v42_0 0) ∧ (r42 = 0 → ∃ n' : Nat, qX7_readSet_53 Q n' v42_0 0 (gF v42_0 4)))))))) ∧ (¬ r5 = 0 → qX9_advance v5_0 (fun v15_0 => Q 67108864 v15_0)))
def qX7_readRule_129 (Q : Md → Md → Prop) (u0 : Md) (u1 : Md) : Prop :=
  qX9_takeSign u1 59 (fun v132_0 => Q u0 v132_0)
def qX7_readRule_105 (Q : Md → Md → Prop) (u0 : Md) (u1 : Md) (y2 : Int32) : Prop :=
  qX9_isWord u1 1 (fun r108 v108_0 => (r108 = 0 ∨ r108 = 1) → (r108 = 0 → qX7_readRule_129 Q u0 v108_0) ∧ (¬ r108 = 0 → qX9_advance v108_0 (fun v115_0 => qX7_readSet v115_0 (fun r125 v125_0 => vp_in y2 192 ∧ (∀ w128 : Md, w128 = tA u0 11 y2 r125 → qX7_readRule_129 Q w128 v125_0)))))
def qX7_readRule_47 (Q : Md → Md → Prop) (u0 : Md) (u1 : Md) (y2 : Int32) : Prop :=
  qX7_readWord 576 u1 (gB u0 14) (y2 * 3) (fun r61 v61_0 v61_1 => vp_in y2 192 ∧ (∀ w64 : Md, w64 = tA (sB u0 14 v61_1) 12 y2 r61 → qX9_takeSign v61_0 62 (fun v68_0 => qX9_isSign v68_0 45 (fun r74 v74_0 => (r74 = 0 ∨ r74 = 1) → (r74 = 0 → qX7_readWord 576 v74_0 (gB w64 15) (y2 * 3) (fun r101 v101_0 v101_1 => vp_in y2 192 ∧ (∀ w104 : Md, w104 = tA (sB w64 15 v101_1) 13 y2 r101 → qX7_readRule_105 Q w104 v101_0 y2))) ∧ (¬ r74 = 0 → qX9_advance v74_0 (fun v81_0 => qX7_readRule_105 Q w64 v81_0 y2))))))
def qX7_readRule (u0 : Md) (u1 : Md) (x2 : Int32) (Q : Md → Md → Prop) : Prop :=
  vp_in x2 192 ∧ (∀ w7 : Md, w7 = tA u0 10 x2 134217727 → vp_in x2 192 ∧ (∀ w15 : Md, w15 = tA w7 11 x2 134217727 → vp_in x2 192 ∧ (∀ w22 : Md, w22 = tA w15 13 x2 0 → qX9_isWord u1 0 (fun r26 v26_0 => (r26 = 0 ∨ r26 = 1) → (r26 = 0 → qX7_readRule_47 Q w22 v26_0 x2) ∧ (¬ r26 = 0 → qX9_advance v26_0 (fun v33_0 => qX7_readSet v33_0 (fun r43 v43_0 => vp_in x2 192 ∧ (∀ w46 : Md, w46 = tA w22 10 x2 r43 → qX7_readRule_47 Q w46 v43_0 x2))))))))
def qX7_readSpelling_88 (Q : Int32 → Md → Md → Prop) (u0 : Md) (u1 : Md) (y2 : Int32) (y3 : Int32) (y4 : Int32) : Prop :=
  (¬ (gF u1 2) = 0 → Q y4 u0 u1) ∧ ((gF u1 2) = 0 → vp_in (gF u0 6) 12 ∧ (∀ w104 : Md, w104 = tA u0 7 (gF u0 6) y2 → vp_in (gF w104 6) 12 ∧ (∀ w114 : Md, w114 = tA w104 8 (gF w104 6) y3 → vp_in (gF w114 6) 12 ∧ (∀ w125 : Md, w125 = tA w114 9 (gF w114 6) y4 → ∀ w133 : Md, w133 = sF w125 6 ((gF w125 6) + 1) → Q y4 w133 u1))))
def qX7_readSpelling_49 (Q : Int32 → Md → Md → Prop) (K10 : Md → Md → Int32 → Int32 → Int32 → Int32 → Prop) (u0 : Md) (u1 : Md) (y2 : Int32) (y3 : Int32) (y4 : Int32) (y5 : Int32) : Prop :=
  (y4 < 16 → qX7_readRule u0 u1 (((gF u0 6) * 16) + y4) (fun v76_0 v76_1 => K10 v76_0 v76_1 y2 y3 (y4 + Int32.ofInt 1) (y5 + Int32.ofInt 1))) ∧ (¬ y4 < 16 → qX9_blame u1 3 (fun v58_0 => K10 u0 v58_0 y2 y3 y4 (y5 + Int32.ofInt 1)))
def qX7_readSpelling_10 (Q : Int32 → Md → Md → Prop) : Nat → Md → Md → Int32 → Int32 → Int32 → Int32 → Prop
  | 0 => fun _ _ _ _ _ _ => False
  | n + 1 => fun u0 u1 y2 y3 y4 y5 =>
  (16 < y5 → qX7_readSpelling_88 Q u0 u1 y2 y3 y4) ∧ (¬ 16 < y5 → qX9_goesOn u1 (fun r18 v18_0 => (r18 = 0 ∨ r18 = 1) → (r18 = 0 → qX7_readSpelling_88 Q u0 v18_0 y2 y3 y4) ∧ (¬ r18 = 0 → qX9_isWord v18_0 0 (fun r27 v27_0 => (r27 = 0 ∨ r27 = 1) → (¬ r27 = 0 → qX7_readSpelling_49 Q (qX7_readSpelling_10 Q n) u0 v27_0 y2 y3 y4 y5) ∧ (r27 = 0 → qX9_isWordOf v27_0 3 (fun r35 v35_0 => (r35 = 0 ∨ r35 = 1) → (¬ r35 = 0 → qX7_readSpelling_49 Q (qX7_readSpelling_10 Q n) u0 v35_0 y2 y3 y4 y5) ∧ (r35 = 0 → qX9_blame v35_0 1 (fun v43_0 => qX7_readSpelling_10 Q n u0 v43_0 y2 y3 y4 (y5 + Int32.ofInt 1)))))))))
def qX7_readSpelling (u0 : Md) (u1 : Md) (x2 : Int32) (x3 : Int32) (Q : Int32 → Md → Md → Prop) : Prop :=
  qX9_begin u1 (fun v1_0 => ∃ n' : Nat, qX7_readSpelling_10 Q n' u0 v1_0 x2 x3 0 0)
def qX7_copyFrom (u0 : Md) (u1 : Md) (Q : Md → Md → Prop) : Prop :=
  ∀ w5 : Md, w5 = sF u0 0 (gF u1 0) → cpyOK 0 0 (gF w5 0) 80 80 ∧ (∀ w22 : Md, w22 = sA w5 1 (va_cpy (gA u1 1) (gA w5 1) (0 : Int32).toNatClampNeg (0 : Int32).toNatClampNeg (gF w5 0).toNatClampNeg) → cpyOK 0 0 (gF w22 0) 80 80 ∧ (∀ w39 : Md, w39 = sA w22 2 (va_cpy (gA u1 2) (gA w22 2) (0 : Int32).toNatClampNeg (0 : Int32).toNatClampNeg (gF w22 0).toNatClampNeg) → cpyOK 0 0 (gF w39 0) 80 80 ∧ (∀ w56 : Md, w56 = sA w39 3 (va_cpy (gA u1 3) (gA w39 3) (0 : Int32).toNatClampNeg (0 : Int32).toNatClampNeg (gF w39 0).toNatClampNeg) → cpyOK 0 0 (gF w56 0) 80 80 ∧ (∀ w73 : Md, w73 = sA w56 4 (va_cpy (gA u1 4) (gA w56 4) (0 : Int32).toNatClampNeg (0 : Int32).toNatClampNeg (gF w56 0).toNatClampNeg) → cpyOK 0 0 ((gF w73 0) * 14) 1120 1120 ∧ (∀ w93 : Md, w93 = sB w73 5 (va_cpy (gB u1 5) (gB w73 5) (0 : Int32).toNatClampNeg (0 : Int32).toNatClampNeg ((gF w73 0) * 14).toNatClampNeg) → ∀ w101 : Md, w101 = sF w93 6 (gF u1 6) → cpyOK 0 0 (gF w101 6) 12 12 ∧ (∀ w118 : Md, w118 = sA w101 7 (va_cpy (gA u1 7) (gA w101 7) (0 : Int32).toNatClampNeg (0 : Int32).toNatClampNeg (gF w101 6).toNatClampNeg) → cpyOK 0 0 (gF w118 6) 12 12 ∧ (∀ w135 : Md, w135 = sA w118 8 (va_cpy (gA u1 8) (gA w118 8) (0 : Int32).toNatClampNeg (0 : Int32).toNatClampNeg (gF w118 6).toNatClampNeg) → cpyOK 0 0 (gF w135 6) 12 12 ∧ (∀ w152 : Md, w152 = sA w135 9 (va_cpy (gA u1 9) (gA w135 9) (0 : Int32).toNatClampNeg (0 : Int32).toNatClampNeg (gF w135 6).toNatClampNeg) → cpyOK 0 0 ((gF w152 6) * 16) 192 192 ∧ (∀ w174 : Md, w174 = sA w152 10 (va_cpy (gA u1 10) (gA w152 10) (0 : Int32).toNatClampNeg (0 : Int32).toNatClampNeg ((gF w152 6) * 16).toNatClampNeg) → cpyOK 0 0 ((gF w152 6) * 16) 192 192 ∧ (∀ w188 : Md, w188 = sA w174 11 (va_cpy (gA u1 11) (gA w174 11) (0 : Int32).toNatClampNeg (0 : Int32).toNatClampNeg ((gF w152 6) * 16).toNatClampNeg) → cpyOK 0 0 ((gF w152 6) * 16) 192 192 ∧ (∀ w202 : Md, w202 = sA w188 12 (va_cpy (gA u1 12) (gA w188 12) (0 : Int32).toNatClampNeg (0 : Int32).toNatClampNeg ((gF w152 6) * 16).toNatClampNeg) → cpyOK 0 0 ((gF w152 6) * 16) 192 192 ∧ (∀ w216 : Md, w216 = sA w202 13 (va_cpy (gA u1 13) (gA w202 13) (0 : Int32).toNatClampNeg (0 : Int32).toNatClampNeg ((gF w152 6) * 16).toNatClampNeg) → cpyOK 0 0 (((gF w152 6) * 16) * 3) 576 576 ∧ (∀ w232 : Md, w232 = sB w216 14 (va_cpy (gB u1 14) (gB w216 14) (0 : Int32).toNatClampNeg (0 : Int32).toNatClampNeg (((gF w152 6) * 16) * 3).toNatClampNeg) → cpyOK 0 0 (((gF w152 6) * 16) * 3) 576 576 ∧ (∀ w248 : Md, w248 = sB w232 15 (va_cpy (gB u1 15) (gB w232 15) (0 : Int32).toNatClampNeg (0 : Int32).toNatClampNeg (((gF w152 6) * 16) * 3).toNatClampNeg) → Q w248 u1))))))))))))))
def qX8_mark (u0 : Md) (Q : Md → Prop) : Prop :=
  vp_in (gF u0 0) 400 ∧ (∀ w9 : Md, w9 = tZ u0 1 (gF u0 0) 1 → Q w9)
def qX8_copyFrom (u0 : Md) (u0_2 : Md) (u0_3 : Md) (u0_4 : Md) (u0_5 : Md) (u0_6 : Md) (u1 : Md) (u1_2 : Md) (u1_3 : Md) (u1_4 : Md) (u1_5 : Md) (u1_6 : Md) (Q : Md → Md → Md → Md → Md → Md → Md → Md → Md → Md → Md → Md → Prop) : Prop :=
  ∀ w5 : Md, w5 = sF u0 0 (gF u1 0) → qX11_copyFlags 400 400 (gZ u1 1) (gZ w5 1) 400 (fun v19_0 v19_1 => qX2_copyFrom u0_2 u1_2 (fun v30_0 v30_1 => qX7_copyFrom u0_3 u1_3 (fun v41_0 v41_1 => qX0_copyFrom u0_4 u1_4 (fun v52_0 v52_1 => qX1_copyFrom u0_5 u1_5 (fun v63_0 v63_1 => qX6_copyFrom u0_6 u1_6 (fun v74_0 v74_1 => Q (sZ w5 1 v19_1) v30_0 v41_0 v52_0 v63_0 v74_0 (sZ u1 1 v19_0) v30_1 v41_1 v52_1 v63_1 v74_1))))))
def qX9_push_3 (Q : Md → Prop) : Nat → Md → Int32 → Int32 → Prop
  | 0 => fun _ _ _ => False
  | n + 1 => fun u0 y1 y2 =>
  (y2 < 0 → Q u0) ∧ (¬ y2 < 0 → (500 ≤ (gF u0 1) → Q u0) ∧ (¬ 500 ≤ (gF u0 1) → vp_in (gF u0 1) 500 ∧ (∀ w29 : Md, w29 = tB u0 0 (gF u0 1) ((y1 >>> (y2 &&& 31)).toInt8.toInt32) → ∀ w37 : Md, w37 = sF w29 1 ((gF w29 1) + 1) → qX9_push_3 Q n w37 y1 (y2 + Int32.ofInt (-8)))))
def qX9_push (u0 : Md) (x1 : Int32) (Q : Md → Prop) : Prop :=
  ∃ n' : Nat, qX9_push_3 Q n' u0 x1 24
def qX9_isLetters_20 (Q : Int32 → Md → Prop) : Nat → Md → Int32 → Prop
  | 0 => fun _ _ => False
  | n + 1 => fun u0 y2 =>
  ((gF u0 1) ≤ y2 → Q 1 u0) ∧ (¬ (gF u0 1) ≤ y2 → vp_in y2 500 ∧ (qX9_kindOf ((gB u0 0 y2.toNatClampNeg).toInt32) (fun r34 => (r34 = 1 → qX9_isLetters_20 Q n u0 (y2 + Int32.ofInt 1)) ∧ (¬ r34 = 1 → Q 0 u0))))
def qX9_isLetters (u0 : Md) (x1 : Int32) (Q : Int32 → Md → Prop) : Prop :=
  ((gF u0 1) < 1 → Q 0 u0) ∧ (¬ (gF u0 1) < 1 → ((gF u0 1) ≤ x1 → ∃ n' : Nat, qX9_isLetters_20 Q n' u0 0) ∧ (¬ (gF u0 1) ≤ x1 → Q 0 u0))
def qX10_isUnder_5 (Q : Int32 → Md → Prop) : Nat → Md → Int32 → Int32 → Int32 → Prop
  | 0 => fun _ _ _ _ => False
  | n + 1 => fun u0 y2 y3 y4 =>
  (40 < y4 → Q 0 u0) ∧ (¬ 40 < y4 → (y3 < 0 → Q 0 u0) ∧ (¬ y3 < 0 → (40 ≤ y3 → Q 0 u0) ∧ (¬ 40 ≤ y3 → (¬ y3 = y2 → vp_in y3 40 ∧ (qX10_isUnder_5 Q n u0 y2 (gA u0 0 y3.toNatClampNeg) (y4 + Int32.ofInt 1))) ∧ (y3 = y2 → Q 1 u0))))
def qX10_isUnder (u0 : Md) (x1 : Int32) (x2 : Int32) (Q : Int32 → Md → Prop) : Prop :=
  ∃ n' : Nat, qX10_isUnder_5 Q n' u0 x2 x1 0
def qX10_liesWithin (u0 : Md) (u1 : Md) (x2 : Int32) (x3 : Int32) (x4 : Int32) (Q : Int32 → Md → Md → Prop) : Prop :=
  qX2_fillParents 40 u1 (gA u0 0) x4 (fun v7_0 v7_1 => qX10_isUnder (sA u0 0 v7_1) x2 x3 (fun r13 v13_0 => (r13 = 0 ∨ r13 = 1) → Q r13 v13_0 v7_0))
def qX10_addOwn_2 (Q : Md → Prop) : Nat → Md → Int32 → Int32 → Prop
  | 0 => fun _ _ _ => False
  | n + 1 => fun u0 y1 y2 =>
  (3 ≤ y2 → Q u0) ∧ (¬ 3 ≤ y2 → vp_in y2 3 ∧ (vp_in ((y1 * 3) + y2) 120 ∧ (vp_in y2 3 ∧ (∀ w25 : Md, w25 = tA u0 2 y2 ((gA u0 2 y2.toNatClampNeg) + (gA u0 1 ((y1 * 3) + y2).toNatClampNeg)) → qX10_addOwn_2 Q n w25 y1 (y2 + Int32.ofInt 1)))))
def qX10_addOwn (u0 : Md) (x1 : Int32) (Q : Md → Prop) : Prop :=
  ∃ n' : Nat, qX10_addOwn_2 Q n' u0 x1 0
def qX10_gather_55 (Q : Md → Md → Prop) (K32 : Md → Md → Int32 → Int32 → Int32 → Prop) (u0 : Md) (u1 : Md) (y2 : Int32) (y4 : Int32) (y5 : Int32) : Prop :=
  qX10_isUnder u0 y5 y2 (fun r59 v59_0 => (r59 = 0 ∨ r59 = 1) → (r59 = 0 → K32 v59_0 u1 y2 y4 (y5 + Int32.ofInt 1)) ∧ (¬ r59 = 0 → qX10_addOwn v59_0 y5 (fun v68_0 => K32 v68_0 u1 y2 y4 (y5 + Int32.ofInt 1))))
def qX10_gather_32 (Q : Md → Md → Prop) : Nat → Md → Md → Int32 → Int32 → Int32 → Prop
  | 0 => fun _ _ _ _ _ => False
  | n + 1 => fun u0 u1 y2 y4 y5 =>
  ((gF u1 0) ≤ y5 → vp_in 4 6 ∧ (∀ w84 : Md, w84 = tA u0 3 4 y4 → Q w84 u1)) ∧ (¬ (gF u1 0) ≤ y5 → vp_in y5 40 ∧ ((¬ (gA u0 0 y5.toNatClampNeg) = y2 → qX10_gather_55 Q (qX10_gather_32 Q n) u0 u1 y2 y4 y5) ∧ ((gA u0 0 y5.toNatClampNeg) = y2 → qX10_gather_55 Q (qX10_gather_32 Q n) u0 u1 y2 (y4 + Int32.ofInt 1) y5)))
def qX10_gather (u0 : Md) (u1 : Md) (x2 : Int32) (x3 : Int32) (Q : Md → Md → Prop) : Prop :=
  qX2_fillParents 40 u1 (gA u0 0) x3 (fun v6_0 v6_1 => qX2_fillOwn 120 v6_0 (gA u0 1) x3 (fun v15_0 v15_1 => qJ7_fill_53178 3 (gA u0 2) 0 (fun v23_0 => ∃ n' : Nat, qX10_gather_32 Q n' (sA (sA (sA u0 0 v6_1) 1 v15_1) 2 v23_0) v15_0 x2 0 0)))
def qX10_everyone_4 (Q : Int32 → Md → Prop) : Nat → Md → Int32 → Int32 → Prop
  | 0 => fun _ _ _ => False
  | n + 1 => fun u0 y1 y2 =>
  (3 ≤ y2 → Q y1 u0) ∧ (¬ 3 ≤ y2 → vp_in y2 3 ∧ (qX10_everyone_4 Q n u0 (y1 + (gA u0 2 y2.toNatClampNeg)) (y2 + Int32.ofInt 1)))
def qX10_everyone (u0 : Md) (Q : Int32 → Md → Prop) : Prop :=
  ∃ n' : Nat, qX10_everyone_4 Q n' u0 0 0
def qX10_setShares_14 (Q : Md → Prop) : Nat → Md → Int32 → Int32 → Prop
  | 0 => fun _ _ _ => False
  | n + 1 => fun u0 y1 y2 =>
  (3 ≤ y2 → Q u0) ∧ (¬ 3 ≤ y2 → (y1 ≤ 0 → vp_in (0 + y2) 6 ∧ (∀ w45 : Md, w45 = tA u0 3 (0 + y2) 0 → qX10_setShares_14 Q n w45 y1 (y2 + Int32.ofInt 1))) ∧ (¬ y1 ≤ 0 → vp_in y2 3 ∧ (¬ y1 = 0 ∧ (vp_in (0 + y2) 6 ∧ (∀ w45 : Md, w45 = tA u0 3 (0 + y2) (((gA u0 2 y2.toNatClampNeg) * 100) / y1) → qX10_setShares_14 Q n w45 y1 (y2 + Int32.ofInt 1))))))
def qX10_setShares (u0 : Md) (Q : Md → Prop) : Prop :=
  qX10_everyone u0 (fun r1 v1_0 => vp_in 3 6 ∧ (∀ w11 : Md, w11 = tA v1_0 3 3 r1 → ∃ n' : Nat, qX10_setShares_14 Q n' w11 r1 0))
def qX10_mostPeople_14 (Q : Int32 → Md → Prop) : Nat → Md → Int32 → Int32 → Int32 → Prop
  | 0 => fun _ _ _ _ => False
  | n + 1 => fun u0 y1 y2 y3 =>
  (3 ≤ y3 → Q y2 u0) ∧ (¬ 3 ≤ y3 → (y3 = y1 → qX10_mostPeople_14 Q n u0 y1 y2 (y3 + Int32.ofInt 1)) ∧ (¬ y3 = y1 → vp_in y3 3 ∧ (vp_in y2 3 ∧ (((gA u0 2 y3.toNatClampNeg) ≤ (gA u0 2 y2.toNatClampNeg) → qX10_mostPeople_14 Q n u0 y1 y2 (y3 + Int32.ofInt 1)) ∧ (¬ (gA u0 2 y3.toNatClampNeg) ≤ (gA u0 2 y2.toNatClampNeg) → qX10_mostPeople_14 Q n u0 y1 y3 (y3 + Int32.ofInt 1))))))
def qX10_mostPeople_9 (Q : Int32 → Md → Prop) (u0 : Md) (y1 : Int32) (z0 : Int32) : Prop :=
  ∃ n' : Nat, qX10_mostPeople_14 Q n' u0 y1 z0 (z0 + 1)
def qX10_mostPeople (u0 : Md) (x1 : Int32) (Q : Int32 → Md → Prop) : Prop :=
  (¬ x1 = 0 → qX10_mostPeople_9 Q u0 x1 0) ∧ (x1 = 0 → qX10_mostPeople_9 Q u0 x1 1)
def qX10_firstBy (u0 : Md) (u1 : Md) (x2 : Int32) (Q : Int32 → Md → Md → Prop) : Prop :=
  qX0_firstHolding 6 u1 (gA u0 3) x2 0 (fun r7 v7_0 v7_1 => (¬ r7 = ((-1)) → vp_in r7 96 ∧ (Q (gA v7_0 5 r7.toNatClampNeg) (sA u0 3 v7_1) v7_0)) ∧ (r7 = ((-1)) → qX10_mostPeople (sA u0 3 v7_1) ((-1)) (fun r18 v18_0 => Q r18 v18_0 v7_0)))
def qX10_look (u0 : Md) (u1 : Md) (u1_2 : Md) (u1_4 : Md) (x2 : Int32) (x3 : Int32) (x4 : Int32) (Q : Md → Md → Md → Md → Prop) : Prop :=
  qX10_gather u0 u1_2 x2 (imin x3 x4) (fun v16_0 v16_1 => qX10_setShares v16_0 (fun v20_0 => vp_in 5 6 ∧ (∀ w29 : Md, w29 = tA v20_0 3 5 x3 → qX0_inForce u1_4 (imin x3 x4) (fun r36 v36_0 => qX10_firstBy w29 v36_0 r36 (fun r49 v49_0 v49_1 => ∀ w52 : Md, w52 = sF v49_0 4 r49 → ∀ w57 : Md, w57 = sF w52 5 ((-1)) → qX0_firstHolding 6 v49_1 (gA w57 3) r36 1 (fun r71 v71_0 v71_1 => (r71 = ((-1)) → Q (sA w57 3 v71_1) u1 v16_1 v71_0) ∧ (¬ r71 = ((-1)) → qX10_mostPeople (sA w57 3 v71_1) (gF w57 4) (fun r83 v83_0 => vp_in r83 3 ∧ (((gA v83_0 2 r83.toNatClampNeg) ≤ 0 → ∀ w105 : Md, w105 = sF v83_0 5 ((-1)) → Q w105 u1 v16_1 v71_0) ∧ (¬ (gA v83_0 2 r83.toNatClampNeg) ≤ 0 → ∀ w105 : Md, w105 = sF v83_0 5 r83 → Q w105 u1 v16_1 v71_0))))))))))
def qX10_swungBy_45 (Q : Int32 → Md → Md → Prop) (u0 : Md) (u1 : Md) (y3 : Int32) (y4 : Int32) (y5 : Int32) (z0 : Int32) : Prop :=
  vp_in y3 3 ∧ (vp_in y3 3 ∧ (∀ w57 : Md, w57 = tA u0 2 y3 ((gA u0 2 y3.toNatClampNeg) + y5) → vp_in y4 3 ∧ (vp_in y4 3 ∧ (∀ w69 : Md, w69 = tA w57 2 y4 ((gA w57 2 y4.toNatClampNeg) - y5) → (z0 = 0 ∨ z0 = 1) ∧ (Q z0 w69 u1)))))
def qX10_swungBy (u0 : Md) (u1 : Md) (x2 : Int32) (x3 : Int32) (x4 : Int32) (x5 : Int32) (Q : Int32 → Md → Md → Prop) : Prop :=
  vp_in x3 3 ∧ (vp_in x3 3 ∧ (∀ w10 : Md, w10 = tA u0 2 x3 ((gA u0 2 x3.toNatClampNeg) - x5) → vp_in x4 3 ∧ (vp_in x4 3 ∧ (∀ w22 : Md, w22 = tA w10 2 x4 ((gA w10 2 x4.toNatClampNeg) + x5) → qX10_setShares w22 (fun v24_0 => qX10_firstBy v24_0 u1 x2 (fun r30 v30_0 v30_1 => (r30 = (gF v30_0 4) → qX10_swungBy_45 Q v30_0 v30_1 x3 x4 x5 0) ∧ (¬ r30 = (gF v30_0 4) → qX10_swungBy_45 Q v30_0 v30_1 x3 x4 x5 1)))))))
def qX10_swingsBy_12 (Q : Int32 → Md → Md → Prop) (K3 : Md → Md → Int32 → Int32 → Int32 → Int32 → Prop) : Nat → Md → Md → Int32 → Int32 → Int32 → Int32 → Int32 → Prop
  | 0 => fun _ _ _ _ _ _ _ => False
  | n + 1 => fun u0 u1 y2 y3 y4 y5 y6 =>
  (3 ≤ y6 → K3 u0 u1 y2 y3 y4 (y5 + Int32.ofInt 1)) ∧ (¬ 3 ≤ y6 → vp_in (y3 + y5) 120 ∧ (((gA u0 1 (y3 + y5).toNatClampNeg) < y4 → K3 u0 u1 y2 y3 y4 (y5 + Int32.ofInt 1)) ∧ (¬ (gA u0 1 (y3 + y5).toNatClampNeg) < y4 → (y5 = y6 → qX10_swingsBy_12 Q K3 n u0 u1 y2 y3 y4 y5 (y6 + Int32.ofInt 1)) ∧ (¬ y5 = y6 → qX10_swungBy u0 u1 y2 y5 y6 y4 (fun r48 v48_0 v48_1 => (r48 = 0 ∨ r48 = 1) → (r48 = 0 → qX10_swingsBy_12 Q K3 n v48_0 v48_1 y2 y3 y4 y5 (y6 + Int32.ofInt 1)) ∧ (¬ r48 = 0 → Q 1 v48_0 v48_1))))))
def qX10_swingsBy_3 (Q : Int32 → Md → Md → Prop) : Nat → Md → Md → Int32 → Int32 → Int32 → Int32 → Prop
  | 0 => fun _ _ _ _ _ _ => False
  | n + 1 => fun u0 u1 y2 y3 y4 y5 =>
  (3 ≤ y5 → Q 0 u0 u1) ∧ (¬ 3 ≤ y5 → ∃ n' : Nat, qX10_swingsBy_12 Q (qX10_swingsBy_3 Q n) n' u0 u1 y2 y3 y4 y5 0)
def qX10_swingsBy (u0 : Md) (u1 : Md) (x2 : Int32) (x3 : Int32) (x4 : Int32) (Q : Int32 → Md → Md → Prop) : Prop :=
  ∃ n' : Nat, qX10_swingsBy_3 Q n' u0 u1 x2 x3 x4 0
def qX10_fewestToSwing_67 (Q : Int32 → Md → Md → Md → Md → Prop) : Nat → Md → Md → Md → Md → Int32 → Int32 → Int32 → Int32 → Prop
  | 0 => fun _ _ _ _ _ _ _ _ => False
  | n + 1 => fun u0 u1 u1_2 u1_4 y3 y4 y5 y6 =>
  (y5 < y6 → Q ((-1)) u0 u1 u1_2 u1_4) ∧ (¬ y5 < y6 → qX10_swingsBy u0 u1_4 y3 y4 y6 (fun r84 v84_0 v84_1 => (r84 = 0 ∨ r84 = 1) → (r84 = 0 → qX10_fewestToSwing_67 Q n v84_0 u1 u1_2 v84_1 y3 y4 y5 (y6 + Int32.ofInt 1)) ∧ (¬ r84 = 0 → Q y6 v84_0 u1 u1_2 v84_1)))
def qX10_fewestToSwing (u0 : Md) (u1 : Md) (u1_2 : Md) (u1_4 : Md) (x2 : Int32) (Q : Int32 → Md → Md → Md → Md → Prop) : Prop :=
  qX10_look u0 u1 u1_2 u1_4 x2 (gF u1 0) (gF u1 0) (fun v11_0 v11_1 v11_2 v11_3 => qX0_inForce v11_3 (gF v11_1 0) (fun r22 v22_0 => vp_in (x2 * 3) 120 ∧ (vp_in ((x2 * 3) + 1) 120 ∧ (vp_in ((x2 * 3) + 2) 120 ∧ (∃ n' : Nat, qX10_fewestToSwing_67 Q n' v11_0 v11_1 v11_2 v22_0 r22 (x2 * 3) (imax (gA v11_0 1 (x2 * 3).toNatClampNeg) (imax (gA v11_0 1 ((x2 * 3) + 1).toNatClampNeg) (gA v11_0 1 ((x2 * 3) + 2).toNatClampNeg))) 1)))))
def qX10_spellAside (u0 : Md) (u0_6 : Md) (u1 : Md) (x2 : Int32) (x3 : Int32) (Q : Md → Md → Md → Prop) : Prop :=
  ∀ w5 : Md, w5 = sF u0_6 0 0 → qX7_spellInto u1 w5 x2 x3 (fun v15_0 v15_1 => vp_in x2 80 ∧ (∀ w35 : Md, w35 = tA u0 9 x2 (imin (gF v15_1 0) 36) → vp_in x2 80 ∧ (cpyOK 0 (x2 * 36) (gA w35 9 x2.toNatClampNeg) 73 2880 ∧ (∀ w58 : Md, w58 = sB w35 10 (va_cpy (gB v15_1 1) (gB w35 10) (0 : Int32).toNatClampNeg (x2 * 36).toNatClampNeg (gA w35 9 x2.toNatClampNeg).toNatClampNeg) → Q w58 v15_1 v15_0))))
def qX10_areSpelledAlike_22 (Q : Int32 → Md → Prop) : Nat → Md → Int32 → Int32 → Int32 → Int32 → Prop
  | 0 => fun _ _ _ _ _ => False
  | n + 1 => fun u0 y1 y2 y3 y4 =>
  (y3 ≤ y4 → Q 1 u0) ∧ (¬ y3 ≤ y4 → vp_in ((y1 * 36) + y4) 2880 ∧ (vp_in ((y2 * 36) + y4) 2880 ∧ ((((gB u0 10 ((y1 * 36) + y4).toNatClampNeg).toInt32) = ((gB u0 10 ((y2 * 36) + y4).toNatClampNeg).toInt32) → qX10_areSpelledAlike_22 Q n u0 y1 y2 y3 (y4 + Int32.ofInt 1)) ∧ (¬ ((gB u0 10 ((y1 * 36) + y4).toNatClampNeg).toInt32) = ((gB u0 10 ((y2 * 36) + y4).toNatClampNeg).toInt32) → Q 0 u0))))
def qX10_areSpelledAlike (u0 : Md) (x1 : Int32) (x2 : Int32) (Q : Int32 → Md → Prop) : Prop :=
  vp_in x1 80 ∧ (vp_in x2 80 ∧ (((gA u0 9 x1.toNatClampNeg) = (gA u0 9 x2.toNatClampNeg) → ∃ n' : Nat, qX10_areSpelledAlike_22 Q n' u0 x1 x2 (gA u0 9 x1.toNatClampNeg) 0) ∧ (¬ (gA u0 9 x1.toNatClampNeg) = (gA u0 9 x2.toNatClampNeg) → Q 0 u0)))
def qX10_alikePairs_25 (Q : Int32 → Md → Md → Md → Prop) (K5 : Md → Md → Md → Int32 → Int32 → Int32 → Prop) : Nat → Md → Md → Md → Int32 → Int32 → Int32 → Int32 → Prop
  | 0 => fun _ _ _ _ _ _ _ => False
  | n + 1 => fun u0 u0_6 u1 y2 y3 y4 y5 =>
  (y4 ≤ y5 → K5 u0 u0_6 u1 y2 y3 (y4 + Int32.ofInt 1)) ∧ (¬ y4 ≤ y5 → vp_in y4 80 ∧ (vp_in y5 80 ∧ (((gA u1 1 y4.toNatClampNeg) = (gA u1 1 y5.toNatClampNeg) → qX10_alikePairs_25 Q K5 n u0 u0_6 u1 y2 y3 y4 (y5 + Int32.ofInt 1)) ∧ (¬ (gA u1 1 y4.toNatClampNeg) = (gA u1 1 y5.toNatClampNeg) → qX10_areSpelledAlike u0 y4 y5 (fun r54 v54_0 => (r54 = 0 ∨ r54 = 1) → (r54 = 0 → qX10_alikePairs_25 Q K5 n v54_0 u0_6 u1 y2 y3 y4 (y5 + Int32.ofInt 1)) ∧ (¬ r54 = 0 → qX10_alikePairs_25 Q K5 n v54_0 u0_6 u1 y2 (y3 + Int32.ofInt 1) y4 (y5 + Int32.ofInt 1)))))))
def qX10_alikePairs_5 (Q : Int32 → Md → Md → Md → Prop) : Nat → Md → Md → Md → Int32 → Int32 → Int32 → Prop
  | 0 => fun _ _ _ _ _ _ => False
  | n + 1 => fun u0 u0_6 u1 y2 y3 y4 =>
  ((gF u1 0) ≤ y4 → Q y3 u0 u0_6 u1) ∧ (¬ (gF u1 0) ≤ y4 → qX10_spellAside u0 u0_6 u1 y4 y2 (fun v19_0 v19_1 v19_2 => ∃ n' : Nat, qX10_alikePairs_25 Q (qX10_alikePairs_5 Q n) n' v19_0 v19_1 v19_2 y2 y3 y4 0))
def qX10_alikePairs (u0 : Md) (u0_6 : Md) (u1 : Md) (x2 : Int32) (Q : Int32 → Md → Md → Md → Prop) : Prop :=
  ∃ n' : Nat, qX10_alikePairs_5 Q n' u0 u0_6 u1 x2 0 0
def qX10_editsOfNames (u0 : Md) (u0_6 : Md) (u0_7 : Md) (u1 : Md) (x2 : Int32) (x3 : Int32) (x4 : Int32) (Q : Int32 → Md → Md → Md → Md → Prop) : Prop :=
  ∀ w5 : Md, w5 = sF u0_6 0 0 → ∀ w13 : Md, w13 = sF u0_7 0 0 → qX7_spellInto u1 w5 x2 x4 (fun v24_0 v24_1 => qX7_spellInto v24_0 w13 x3 x4 (fun v35_0 v35_1 => qX10_editsOfRows u0 v24_1 v35_1 (fun r47 v47_0 v47_1 v47_2 => Q r47 v47_0 v47_1 v47_2 v35_0)))
def qX10_isAlike_58 (Q : Int32 → Md → Md → Md → Md → Md → Md → Md → Prop) (K14 : Md → Md → Md → Md → Md → Md → Md → Int32 → Int32 → Int32 → Int32 → Int32 → Prop) : Nat → Md → Md → Md → Md → Md → Md → Md → Int32 → Int32 → Int32 → Int32 → Int32 → Int32 → Int32 → Prop
  | 0 => fun _ _ _ _ _ _ _ _ _ _ _ _ _ _ => False
  | n + 1 => fun u0 u0_6 u0_7 u1 u1_2 u1_3 u1_5 y2 y3 y4 y5 y6 y7 y8 =>
  (y7 = 0 → K14 u0 u0_6 u0_7 u1 u1_2 u1_3 u1_5 y2 y3 y4 y5 (y6 + Int32.ofInt 1)) ∧ (¬ y7 = 0 → (3 ≤ y8 → K14 u0 u0_6 u0_7 u1 u1_2 u1_3 u1_5 y2 y3 y4 y5 (y6 + Int32.ofInt 1)) ∧ (¬ 3 ≤ y8 → qX1_nameAt u1_5 y6 y8 (gF u1 0) (fun r81 v81_0 => (r81 = ((-1)) → qX10_isAlike_58 Q K14 n u0 u0_6 u0_7 u1 u1_2 u1_3 v81_0 y2 y3 y4 y5 y6 y7 (y8 + Int32.ofInt 1)) ∧ (¬ r81 = ((-1)) → qX10_editsOfNames u0 u0_6 u0_7 u1_3 y2 r81 (gF u1 0) (fun r104 v104_0 v104_1 v104_2 v104_3 => (y4 < r104 → qX10_isAlike_58 Q K14 n v104_0 v104_1 v104_2 u1 u1_2 v104_3 v81_0 y2 y3 y4 y5 y6 y7 (y8 + Int32.ofInt 1)) ∧ (¬ y4 < r104 → Q 1 v104_0 v104_1 v104_2 u1 u1_2 v104_3 v81_0))))))
def qX10_isAlike_52 (Q : Int32 → Md → Md → Md → Md → Md → Md → Md → Prop) (K14 : Md → Md → Md → Md → Md → Md → Md → Int32 → Int32 → Int32 → Int32 → Int32 → Prop) (u0 : Md) (u0_6 : Md) (u0_7 : Md) (u1 : Md) (u1_2 : Md) (u1_3 : Md) (u1_5 : Md) (y2 : Int32) (y3 : Int32) (y4 : Int32) (y5 : Int32) (y6 : Int32) : Prop :=
  ∃ n' : Nat, qX10_isAlike_58 Q K14 n' u0 u0_6 u0_7 u1 u1_2 u1_3 u1_5 y2 y3 y4 y5 y6 0 0
def qX10_isAlike_14 (Q : Int32 → Md → Md → Md → Md → Md → Md → Md → Prop) : Nat → Md → Md → Md → Md → Md → Md → Md → Int32 → Int32 → Int32 → Int32 → Int32 → Prop
  | 0 => fun _ _ _ _ _ _ _ _ _ _ _ _ => False
  | n + 1 => fun u0 u0_6 u0_7 u1 u1_2 u1_3 u1_5 y2 y3 y4 y5 y6 =>
  ((gF u1_2 0) ≤ y6 → Q 0 u0 u0_6 u0_7 u1 u1_2 u1_3 u1_5) ∧ (¬ (gF u1_2 0) ≤ y6 → (y6 = y5 → qX10_isAlike_52 Q (qX10_isAlike_14 Q n) u0 u0_6 u0_7 u1 u1_2 u1_3 u1_5 y2 y3 y4 y5 y6) ∧ (¬ y6 = y5 → qX2_areNear u1_2 y6 y5 y3 (fun r42 v42_0 => (r42 = 0 ∨ r42 = 1) → (r42 = 0 → qX10_isAlike_52 Q (qX10_isAlike_14 Q n) u0 u0_6 u0_7 u1 v42_0 u1_3 u1_5 y2 y3 y4 y5 y6) ∧ (¬ r42 = 0 → ∃ n' : Nat, qX10_isAlike_58 Q (qX10_isAlike_14 Q n) n' u0 u0_6 u0_7 u1 v42_0 u1_3 u1_5 y2 y3 y4 y5 y6 1 0))))
def qX10_isAlike (u0 : Md) (u0_6 : Md) (u0_7 : Md) (u1 : Md) (u1_2 : Md) (u1_3 : Md) (u1_5 : Md) (x2 : Int32) (x3 : Int32) (x4 : Int32) (Q : Int32 → Md → Md → Md → Md → Md → Md → Md → Prop) : Prop :=
  vp_in x2 80 ∧ (∃ n' : Nat, qX10_isAlike_14 Q n' u0 u0_6 u0_7 u1 u1_2 u1_3 u1_5 x2 x3 x4 (gA u1_3 1 x2.toNatClampNeg) 0)
def qX10_whyRefused_89 (Q : Int32 → Md → Md → Md → Md → Md → Md → Md → Md → Prop) (u0 : Md) (u0_6 : Md) (u0_7 : Md) (u1 : Md) (u1_2 : Md) (u1_3 : Md) (u1_4 : Md) (u1_5 : Md) (y3 : Int32) (y4 : Int32) : Prop :=
  qX0_lastLine u1_4 y4 2 (fun r96 v96_0 => (r96 = ((-1)) → Q 0 u0 u0_6 u0_7 u1 u1_2 u1_3 v96_0 u1_5) ∧ (¬ r96 = ((-1)) → vp_in r96 96 ∧ (vp_in r96 96 ∧ (qX10_isAlike u0 u0_6 u0_7 u1 u1_2 u1_3 u1_5 y3 (gA v96_0 5 r96.toNatClampNeg) (gA v96_0 6 r96.toNatClampNeg) (fun r130 v130_0 v130_1 v130_2 v130_3 v130_4 v130_5 v130_6 => (r130 = 0 ∨ r130 = 1) → (r130 = 0 → Q 0 v130_0 v130_1 v130_2 v130_3 v130_4 v130_5 v96_0 v130_6) ∧ (¬ r130 = 0 → Q 3 v130_0 v130_1 v130_2 v130_3 v130_4 v130_5 v96_0 v130_6))))))
def qX10_whyRefused (u0 : Md) (u0_6 : Md) (u0_7 : Md) (u1 : Md) (u1_2 : Md) (u1_3 : Md) (u1_4 : Md) (u1_5 : Md) (x2 : Int32) (x3 : Int32) (Q : Int32 → Md → Md → Md → Md → Md → Md → Md → Md → Prop) : Prop :=
  qX0_inForce u1_4 (gF u1 0) (fun r8 v8_0 => qX0_numberOf v8_0 r8 5 50 (fun r27 v27_0 => qX1_tooFew u1_5 x2 r27 (fun r30 v30_0 => (r30 = 0 ∨ r30 = 1) → (r30 = 0 → vp_in x3 80 ∧ (qX0_numberOf v27_0 r8 3 0 (fun r57 v57_0 => ((gA u1_3 3 x3.toNatClampNeg) = ((-9)) → Q 2 u0 u0_6 u0_7 u1 u1_2 u1_3 v57_0 v30_0) ∧ (¬ (gA u1_3 3 x3.toNatClampNeg) = ((-9)) → ((gA u1_3 3 x3.toNatClampNeg) = ((-1)) → qX10_whyRefused_89 Q u0 u0_6 u0_7 u1 u1_2 u1_3 v57_0 v30_0 x3 r8) ∧ (¬ (gA u1_3 3 x3.toNatClampNeg) = ((-1)) → (r57 ≤ ((gF u1 0) - (gA u1_3 3 x3.toNatClampNeg)) → qX10_whyRefused_89 Q u0 u0_6 u0_7 u1 u1_2 u1_3 v57_0 v30_0 x3 r8) ∧ (¬ r57 ≤ ((gF u1 0) - (gA u1_3 3 x3.toNatClampNeg)) → Q 2 u0 u0_6 u0_7 u1 u1_2 u1_3 v57_0 v30_0)))))) ∧ (¬ r30 = 0 → Q 1 u0 u0_6 u0_7 u1 u1_2 u1_3 v27_0 v30_0))))
def qX10_show_107 (Q : Md → Md → Md → Md → Md → Md → Md → Prop) (u0 : Md) (u1 : Md) (u1_2 : Md) (u1_3 : Md) (u1_4 : Md) (u1_5 : Md) (u5 : Md) (y6 : Int32) (y8 : Int32) : Prop :=
  (y8 = ((-1)) → Q u0 u1 u1_2 u1_3 u1_4 u1_5 u5) ∧ (¬ y8 = ((-1)) → qX7_spellInto u1_3 u5 y8 y6 (fun v123_0 v123_1 => Q u0 u1 u1_2 v123_0 u1_4 u1_5 v123_1))
def qX10_show_86 (Q : Md → Md → Md → Md → Md → Md → Md → Prop) (u0 : Md) (u1 : Md) (u1_2 : Md) (u1_3 : Md) (u1_4 : Md) (u1_5 : Md) (u5 : Md) (y6 : Int32) (y7 : Int32) (y8 : Int32) : Prop :=
  (y7 = ((-1)) → qX10_show_107 Q u0 u1 u1_2 u1_3 u1_4 u1_5 u5 y6 y8) ∧ (¬ y7 = ((-1)) → (y8 = ((-1)) → qX10_show_107 Q u0 u1 u1_2 u1_3 u1_4 u1_5 u5 y6 y8) ∧ (¬ y8 = ((-1)) → qX5_add u5 32 ((-4)) (fun v104_0 => qX10_show_107 Q u0 u1 u1_2 u1_3 u1_4 u1_5 v104_0 y6 y8)))
def qX10_show_59 (Q : Md → Md → Md → Md → Md → Md → Md → Prop) (u0 : Md) (u1 : Md) (u1_2 : Md) (u1_3 : Md) (u1_4 : Md) (u1_5 : Md) (u5 : Md) (y6 : Int32) (y7 : Int32) (z0 : Int32) : Prop :=
  ∀ w64 : Md, w64 = sF u5 0 0 → (y7 = ((-1)) → qX10_show_86 Q u0 u1 u1_2 u1_3 u1_4 u1_5 w64 y6 y7 z0) ∧ (¬ y7 = ((-1)) → qX7_spellInto u1_3 w64 y7 y6 (fun v83_0 v83_1 => qX10_show_86 Q u0 u1 u1_2 v83_0 u1_4 u1_5 v83_1 y6 y7 z0))
def qX10_show (u0 : Md) (u1 : Md) (u1_2 : Md) (u1_3 : Md) (u1_4 : Md) (u1_5 : Md) (u5 : Md) (x2 : Int32) (x3 : Int32) (x4 : Int32) (Q : Md → Md → Md → Md → Md → Md → Md → Prop) : Prop :=
  qX10_look u0 u1 u1_2 u1_4 x2 x3 x4 (fun v6_0 v6_1 v6_2 v6_3 => qX1_nameAt u1_5 x2 (gF v6_0 4) (imin x3 x4) (fun r28 v28_0 => (¬ (gF v6_0 5) = ((-1)) → qX1_nameAt v28_0 x2 (gF v6_0 5) (imin x3 x4) (fun r56 v56_0 => qX10_show_59 Q v6_0 v6_1 v6_2 u1_3 v6_3 v56_0 u5 (imin x3 x4) r28 r56)) ∧ ((gF v6_0 5) = ((-1)) → qX10_show_59 Q v6_0 v6_1 v6_2 u1_3 v6_3 v28_0 u5 (imin x3 x4) r28 ((-1)))))
def qX10_isLame (u0 : Md) (u0_6 : Md) (u0_7 : Md) (u1 : Md) (u1_2 : Md) (u1_3 : Md) (u1_4 : Md) (u1_5 : Md) (u1_6 : Md) (x2 : Int32) (Q : Int32 → Md → Md → Md → Md → Md → Md → Md → Md → Md → Prop) : Prop :=
  vp_in x2 40 ∧ (vp_in x2 40 ∧ (qX10_show u0 u1 u1_2 u1_3 u1_4 u1_5 u0_6 (gA u1_6 1 x2.toNatClampNeg) (gA u1_6 3 x2.toNatClampNeg) (gA u1_6 3 x2.toNatClampNeg) (fun v32_0 v32_1 v32_2 v32_3 v32_4 v32_5 v32_6 => qX10_show v32_0 v32_1 v32_2 v32_3 v32_4 v32_5 u0_7 (gA u1_6 1 x2.toNatClampNeg) (gF v32_1 0) (gF v32_1 0) (fun v50_0 v50_1 v50_2 v50_3 v50_4 v50_5 v50_6 => qX5_readsAs v32_6 v50_6 (fun r61 v61_0 v61_1 => (r61 = 0 ∨ r61 = 1) → (¬ r61 = 0 → Q 0 v50_0 v61_0 v61_1 v50_1 v50_2 v50_3 v50_4 v50_5 u1_6) ∧ (r61 = 0 → Q 1 v50_0 v61_0 v61_1 v50_1 v50_2 v50_3 v50_4 v50_5 u1_6))))))
def qX10_lameSigns_30 (Q : Int32 → Md → Md → Md → Md → Md → Md → Md → Md → Md → Prop) (K4 : Md → Md → Md → Md → Md → Md → Md → Md → Md → Int32 → Int32 → Prop) (u0 : Md) (u0_6 : Md) (u0_7 : Md) (u1 : Md) (u1_2 : Md) (u1_3 : Md) (u1_4 : Md) (u1_5 : Md) (u1_6 : Md) (y3 : Int32) (z0 : Int32) (z1 : Int32) : Prop :=
  K4 u0 u0_6 u0_7 u1 u1_2 u1_3 u1_4 u1_5 u1_6 (z1 + z0) (y3 + Int32.ofInt 1)
def qX10_lameSigns_4 (Q : Int32 → Md → Md → Md → Md → Md → Md → Md → Md → Md → Prop) : Nat → Md → Md → Md → Md → Md → Md → Md → Md → Md → Int32 → Int32 → Prop
  | 0 => fun _ _ _ _ _ _ _ _ _ _ _ => False
  | n + 1 => fun u0 u0_6 u0_7 u1 u1_2 u1_3 u1_4 u1_5 u1_6 y2 y3 =>
  ((gF u1_6 0) ≤ y3 → Q y2 u0 u0_6 u0_7 u1 u1_2 u1_3 u1_4 u1_5 u1_6) ∧ (¬ (gF u1_6 0) ≤ y3 → qX10_isLame u0 u0_6 u0_7 u1 u1_2 u1_3 u1_4 u1_5 u1_6 y3 (fun r19 v19_0 v19_1 v19_2 v19_3 v19_4 v19_5 v19_6 v19_7 v19_8 => (r19 = 0 ∨ r19 = 1) → (r19 = 0 → qX10_lameSigns_30 Q (qX10_lameSigns_4 Q n) v19_0 v19_1 v19_2 v19_3 v19_4 v19_5 v19_6 v19_7 v19_8 y3 0 y2) ∧ (¬ r19 = 0 → qX10_lameSigns_30 Q (qX10_lameSigns_4 Q n) v19_0 v19_1 v19_2 v19_3 v19_4 v19_5 v19_6 v19_7 v19_8 y3 1 y2)))
def qX10_lameSigns (u0 : Md) (u0_6 : Md) (u0_7 : Md) (u1 : Md) (u1_2 : Md) (u1_3 : Md) (u1_4 : Md) (u1_5 : Md) (u1_6 : Md) (Q : Int32 → Md → Md → Md → Md → Md → Md → Md → Md → Md → Prop) : Prop :=
  ∃ n' : Nat, qX10_lameSigns_4 Q n' u0 u0_6 u0_7 u1 u1_2 u1_3 u1_4 u1_5 u1_6 0 0
def qX10_dueYear_145 (Q : Int32 → Md → Md → Md → Md → Md → Md → Md → Md → Md → Prop) (u0 : Md) (u0_6 : Md) (u0_7 : Md) (u1 : Md) (u1_2 : Md) (u1_3 : Md) (u1_4 : Md) (u1_5 : Md) (u1_6 : Md) (y5 : Int32) : Prop :=
  qX0_inForce u1_4 (gF u1 0) (fun r159 v159_0 => qX0_numberOf v159_0 r159 4 10 (fun r165 v165_0 => Q (y5 + r165) u0 u0_6 u0_7 u1 u1_2 u1_3 v165_0 u1_5 u1_6))
def qX10_dueYear_130 (Q : Int32 → Md → Md → Md → Md → Md → Md → Md → Md → Md → Prop) (K52 : Md → Md → Md → Md → Md → Md → Md → Md → Md → Int32 → Int32 → Int32 → Int32 → Int32 → Prop) (u0 : Md) (u0_6 : Md) (u0_7 : Md) (u1 : Md) (u1_2 : Md) (u1_3 : Md) (u1_4 : Md) (u1_5 : Md) (u1_6 : Md) (y3 : Int32) (y4 : Int32) (y5 : Int32) (y6 : Int32) (y7 : Int32) : Prop :=
  (y6 = 0 → K52 u0 u0_6 u0_7 u1 u1_2 u1_3 u1_4 u1_5 u1_6 y3 y4 y5 y6 (y7 + Int32.ofInt (-1))) ∧ (¬ y6 = 0 → K52 u0 u0_6 u0_7 u1 u1_2 u1_3 u1_4 u1_5 u1_6 y3 y4 y7 y6 (y7 + Int32.ofInt (-1)))
def qX10_dueYear_128 (Q : Int32 → Md → Md → Md → Md → Md → Md → Md → Md → Md → Prop) (K52 : Md → Md → Md → Md → Md → Md → Md → Md → Md → Int32 → Int32 → Int32 → Int32 → Int32 → Prop) (u0 : Md) (u0_6 : Md) (u0_7 : Md) (u1 : Md) (u1_2 : Md) (u1_3 : Md) (u1_4 : Md) (u1_5 : Md) (u1_6 : Md) (y3 : Int32) (y4 : Int32) (y5 : Int32) (y7 : Int32) (z0 : Int32) : Prop :=
  qX10_dueYear_130 Q K52 u0 u0_6 u0_7 u1 u1_2 u1_3 u1_4 u1_5 u1_6 y3 y4 y5 z0 y7
def qX10_dueYear_95 (Q : Int32 → Md → Md → Md → Md → Md → Md → Md → Md → Md → Prop) (K52 : Md → Md → Md → Md → Md → Md → Md → Md → Md → Int32 → Int32 → Int32 → Int32 → Int32 → Prop) (u0 : Md) (u0_6 : Md) (u0_7 : Md) (u1 : Md) (u1_2 : Md) (u1_3 : Md) (u1_4 : Md) (u1_5 : Md) (u1_6 : Md) (y3 : Int32) (y4 : Int32) (y5 : Int32) (y7 : Int32) : Prop :=
  qX10_show u0 u1 u1_2 u1_3 u1_4 u1_5 u0_7 y3 y7 y7 (fun v106_0 v106_1 v106_2 v106_3 v106_4 v106_5 v106_6 => qX5_readsAs u0_6 v106_6 (fun r117 v117_0 v117_1 => (r117 = 0 ∨ r117 = 1) → (¬ r117 = 0 → qX10_dueYear_128 Q K52 v106_0 v117_0 v117_1 v106_1 v106_2 v106_3 v106_4 v106_5 u1_6 y3 y4 y5 y7 0) ∧ (r117 = 0 → qX10_dueYear_128 Q K52 v106_0 v117_0 v117_1 v106_1 v106_2 v106_3 v106_4 v106_5 u1_6 y3 y4 y5 y7 1)))
def qX10_dueYear_52 (Q : Int32 → Md → Md → Md → Md → Md → Md → Md → Md → Md → Prop) : Nat → Md → Md → Md → Md → Md → Md → Md → Md → Md → Int32 → Int32 → Int32 → Int32 → Int32 → Prop
  | 0 => fun _ _ _ _ _ _ _ _ _ _ _ _ _ _ => False
  | n + 1 => fun u0 u0_6 u0_7 u1 u1_2 u1_3 u1_4 u1_5 u1_6 y3 y4 y5 y6 y7 =>
  (y7 < y4 → qX10_dueYear_145 Q u0 u0_6 u0_7 u1 u1_2 u1_3 u1_4 u1_5 u1_6 y5) ∧ (¬ y7 < y4 → (y6 = 0 → qX10_dueYear_145 Q u0 u0_6 u0_7 u1 u1_2 u1_3 u1_4 u1_5 u1_6 y5) ∧ (¬ y6 = 0 → vp_in (y7 + 1) 400 ∧ ((¬ (if gZ u1 1 (y7 + 1).toNatClampNeg then (1 : Int32) else 0) = 0 → qX10_dueYear_95 Q (qX10_dueYear_52 Q n) u0 u0_6 u0_7 u1 u1_2 u1_3 u1_4 u1_5 u1_6 y3 y4 y5 y7) ∧ ((if gZ u1 1 (y7 + 1).toNatClampNeg then (1 : Int32) else 0) = 0 → qX0_inForce u1_4 y7 (fun r86 v86_0 => qX0_dependsOnYear v86_0 r86 (fun r89 v89_0 => (r89 = 0 ∨ r89 = 1) → (r89 = 0 → qX10_dueYear_130 Q (qX10_dueYear_52 Q n) u0 u0_6 u0_7 u1 u1_2 u1_3 v89_0 u1_5 u1_6 y3 y4 y5 y6 y7) ∧ (¬ r89 = 0 → qX10_dueYear_95 Q (qX10_dueYear_52 Q n) u0 u0_6 u0_7 u1 u1_2 u1_3 v89_0 u1_5 u1_6 y3 y4 y5 y7)))))))
def qX10_dueYear (u0 : Md) (u0_6 : Md) (u0_7 : Md) (u1 : Md) (u1_2 : Md) (u1_3 : Md) (u1_4 : Md) (u1_5 : Md) (u1_6 : Md) (x2 : Int32) (Q : Int32 → Md → Md → Md → Md → Md → Md → Md → Md → Md → Prop) : Prop :=
  vp_in x2 40 ∧ (vp_in x2 40 ∧ (qX10_show u0 u1 u1_2 u1_3 u1_4 u1_5 u0_6 (gA u1_6 1 x2.toNatClampNeg) (gA u1_6 3 x2.toNatClampNeg) (gA u1_6 3 x2.toNatClampNeg) (fun v32_0 v32_1 v32_2 v32_3 v32_4 v32_5 v32_6 => ∃ n' : Nat, qX10_dueYear_52 Q n' v32_0 v32_6 u0_7 v32_1 v32_2 v32_3 v32_4 v32_5 u1_6 (gA u1_6 1 x2.toNatClampNeg) (gA u1_6 3 x2.toNatClampNeg) (gF v32_1 0) 1 ((gF v32_1 0) - 1))))
def qX11_feed (u0 : Md) (u0_2 : Md) (x1 : Int32) (x2 : Int32) (x3 : Int32) (x4 : Int32) (x5 : Int32) (Q : Int32 → Md → Md → Prop) : Prop :=
  (((gF u0_2 1) + 20) ≤ 500 → qX9_push u0_2 x1 (fun v23_0 => qX9_push v23_0 x2 (fun v31_0 => qX9_push v31_0 x3 (fun v39_0 => qX9_push v39_0 x4 (fun v48_0 => qX9_push v48_0 x5 (fun v57_0 => Q (gF v57_0 1) u0 v57_0)))))) ∧ (¬ ((gF u0_2 1) + 20) ≤ 500 → Q ((-1)) u0 u0_2)
def qX11_end (u0 : Md) (u0_2 : Md) (x1 : Int32) (Q : Int32 → Md → Md → Prop) : Prop :=
  (x1 < 0 → Q ((-1)) u0 u0_2) ∧ (¬ x1 < 0 → (x1 ≤ (gF u0_2 1) → ∀ w22 : Md, w22 = sF u0_2 1 x1 → Q x1 u0 w22) ∧ (¬ x1 ≤ (gF u0_2 1) → Q ((-1)) u0 u0_2))
def qX11_isYear (x0 : Int32) (Q : Int32 → Prop) : Prop :=
  (x0 < 0 → Q 0) ∧ (¬ x0 < 0 → (400 ≤ x0 → Q 0) ∧ (¬ 400 ≤ x0 → Q 1))
def qX11_next (u0 : Md) (u0_0 : Md) (x1 : Int32) (Q : Int32 → Md → Md → Prop) : Prop :=
  qX11_isYear x1 (fun r1 => (r1 = 0 ∨ r1 = 1) → (r1 = 0 → Q ((-1)) u0 u0_0) ∧ (¬ r1 = 0 → qX11_isYear ((gF u0_0 0) + x1) (fun r16 => (r16 = 0 ∨ r16 = 1) → (¬ r16 = 0 → ∀ w34 : Md, w34 = sF u0_0 0 ((gF u0_0 0) + x1) → Q (gF w34 0) u0 w34) ∧ (r16 = 0 → Q ((-1)) u0 u0_0))))
def qX11_place (u0 : Md) (u0_0 : Md) (u0_0_2 : Md) (x1 : Int32) (x2 : Int32) (Q : Int32 → Md → Md → Md → Prop) : Prop :=
  (x1 < 0 → Q ((-2)) u0 u0_0 u0_0_2) ∧ (¬ x1 < 0 → (999 < x1 → Q ((-2)) u0 u0_0 u0_0_2) ∧ (¬ 999 < x1 → (x2 < 0 → Q ((-2)) u0 u0_0 u0_0_2) ∧ (¬ x2 < 0 → (x2 ≤ 999 → qX2_addPlace u0_0_2 x1 x2 (fun r34 v34_0 => Q r34 u0 u0_0 v34_0)) ∧ (¬ x2 ≤ 999 → Q ((-2)) u0 u0_0 u0_0_2))))
def qX11_part_37 (Q : Int32 → Md → Md → Md → Md → Prop) (u0 : Md) (u0_0 : Md) (u0_0_2 : Md) (u0_4 : Md) (y1 : Int32) (y2 : Int32) : Prop :=
  qX10_liesWithin u0_4 u0_0_2 y2 y1 (gF u0_0 0) (fun r51 v51_0 v51_1 => (r51 = 0 ∨ r51 = 1) → (r51 = 0 → qX2_tellPart v51_1 y1 y2 (gF u0_0 0) (fun r70 v70_0 => (r70 = 0 ∨ r70 = 1) → (¬ r70 = 0 → qX8_mark u0_0 (fun v83_0 => Q 0 u0 v83_0 v70_0 v51_0)) ∧ (r70 = 0 → Q ((-3)) u0 u0_0 v70_0 v51_0))) ∧ (¬ r51 = 0 → Q ((-5)) u0 u0_0 v51_1 v51_0))
def qX11_part (u0 : Md) (u0_0 : Md) (u0_0_2 : Md) (u0_4 : Md) (x1 : Int32) (x2 : Int32) (Q : Int32 → Md → Md → Md → Md → Prop) : Prop :=
  qX2_has u0_0_2 x1 (fun r10 v10_0 => (r10 = 0 ∨ r10 = 1) → (r10 = 0 → Q ((-2)) u0 u0_0 v10_0 u0_4) ∧ (¬ r10 = 0 → (x2 = x1 → Q ((-2)) u0 u0_0 v10_0 u0_4) ∧ (¬ x2 = x1 → (x2 = ((-1)) → qX11_part_37 Q u0 u0_0 v10_0 u0_4 x1 x2) ∧ (¬ x2 = ((-1)) → qX2_has v10_0 x2 (fun r28 v28_0 => (r28 = 0 ∨ r28 = 1) → (¬ r28 = 0 → qX11_part_37 Q u0 u0_0 v28_0 u0_4 x1 x2) ∧ (r28 = 0 → Q ((-2)) u0 u0_0 v28_0 u0_4))))))
def qX11_countPeople (u0 : Md) (u0_0 : Md) (u0_0_2 : Md) (x1 : Int64) (x2 : Int64) (x3 : Int64) (Q : Int32 → Md → Md → Md → Prop) : Prop :=
  ((lg_cmp x1 0) < 0 → Q ((-2)) u0 u0_0 u0_0_2) ∧ (¬ (lg_cmp x1 0) < 0 → (0 ≤ (lg_cmp x1 ((gF u0_0_2 0).toInt64)) → Q ((-2)) u0 u0_0 u0_0_2) ∧ (¬ 0 ≤ (lg_cmp x1 ((gF u0_0_2 0).toInt64)) → ((lg_cmp x2 0) < 0 → Q ((-2)) u0 u0_0 u0_0_2) ∧ (¬ (lg_cmp x2 0) < 0 → ((lg_cmp x2 3) < 0 → ((lg_cmp x3 0) < 0 → Q ((-2)) u0 u0_0 u0_0_2) ∧ (¬ (lg_cmp x3 0) < 0 → ((lg_cmp x3 2000) ≤ 0 → qX2_tellCount u0_0_2 x1.toInt32 x2.toInt32 x3.toInt32 (gF u0_0 0) (fun r79 v79_0 => (r79 = 0 ∨ r79 = 1) → (¬ r79 = 0 → qX8_mark u0_0 (fun v92_0 => Q 0 u0 v92_0 v79_0)) ∧ (r79 = 0 → Q ((-3)) u0 u0_0 v79_0))) ∧ (¬ (lg_cmp x3 2000) ≤ 0 → Q ((-2)) u0 u0_0 u0_0_2))) ∧ (¬ (lg_cmp x2 3) < 0 → Q ((-2)) u0 u0_0 u0_0_2))))
def qX11_people (u0 : Md) (u0_0 : Md) (u0_0_2 : Md) (x1 : Int32) (x2 : Int32) (x3 : Int32) (Q : Int32 → Md → Md → Md → Prop) : Prop :=
  qX11_countPeople u0 u0_0 u0_0_2 x1.toInt64 x2.toInt64 x3.toInt64 (fun r7 v7_0 v7_1 v7_2 => Q r7 v7_0 v7_1 v7_2)
def qX11_isSlot (x0 : Int32) (Q : Int32 → Prop) : Prop :=
  (x0 < 0 → Q 0) ∧ (¬ x0 < 0 → (4 ≤ x0 → Q 0) ∧ (¬ 4 ≤ x0 → Q 1))
def qX11_counted_40 (Q : Int32 → Md → Md → Md → Prop) : Nat → Md → Md → Md → Int32 → Int32 → Int32 → Prop
  | 0 => fun _ _ _ _ _ _ => False
  | n + 1 => fun u0 u0_0 u0_0_2 y2 y3 y4 =>
  (y2 ≤ y3 → Q y3 u0 u0_0 u0_0_2) ∧ (¬ y2 ≤ y3 → vp_in y4 240 ∧ (vp_in (y4 + 1) 240 ∧ (vp_in (y4 + 2) 240 ∧ (qX11_countPeople u0 u0_0 u0_0_2 (gL u0 7 y4.toNatClampNeg) (gL u0 7 (y4 + 1).toNatClampNeg) (gL u0 7 (y4 + 2).toNatClampNeg) (fun r71 v71_0 v71_1 v71_2 => (¬ r71 = 0 → Q y3 v71_0 v71_1 v71_2) ∧ (r71 = 0 → qX11_counted_40 Q n v71_0 v71_1 v71_2 y2 (y3 + Int32.ofInt 1) (y4 + Int32.ofInt 3)))))))
def qX11_counted (u0 : Md) (u0_0 : Md) (u0_0_2 : Md) (x1 : Int32) (Q : Int32 → Md → Md → Md → Prop) : Prop :=
  qX11_isSlot x1 (fun r1 => (r1 = 0 ∨ r1 = 1) → (¬ r1 = 0 → vp_in x1 4 ∧ ((¬ (gA u0 9 x1.toNatClampNeg) = ((-1)) → vp_in x1 4 ∧ (∃ n' : Nat, qX11_counted_40 Q n' u0 u0_0 u0_0_2 ((gA u0 9 x1.toNatClampNeg) / 3) 0 (x1 * 60))) ∧ ((gA u0 9 x1.toNatClampNeg) = ((-1)) → Q ((-6)) u0 u0_0 u0_0_2))) ∧ (r1 = 0 → Q ((-2)) u0 u0_0 u0_0_2))
def qX11_isTongue (x0 : Int32) (Q : Int32 → Prop) : Prop :=
  (x0 < 0 → Q 0) ∧ (¬ x0 < 0 → (3 ≤ x0 → Q 0) ∧ (¬ 3 ≤ x0 → Q 1))
def qX11_live_47 (Q : Int32 → Md → Md → Md → Md → Prop) (u0 : Md) (u0_0 : Md) (u0_0_2 : Md) (u0_4 : Md) (y1 : Int32) (y2 : Int32) (y3 : Int32) (y4 : Int32) : Prop :=
  qX10_gather u0_4 u0_0_2 y1 (imin y3 y4) (fun v65_0 v65_1 => (¬ y2 = ((-1)) → vp_in y2 3 ∧ (Q (gA v65_0 2 y2.toNatClampNeg) u0 u0_0 v65_1 v65_0)) ∧ (y2 = ((-1)) → qX10_everyone v65_0 (fun r77 v77_0 => Q r77 u0 u0_0 v65_1 v77_0)))
def qX11_live (u0 : Md) (u0_0 : Md) (u0_0_2 : Md) (u0_4 : Md) (x1 : Int32) (x2 : Int32) (x3 : Int32) (x4 : Int32) (Q : Int32 → Md → Md → Md → Md → Prop) : Prop :=
  qX2_has u0_0_2 x1 (fun r8 v8_0 => (r8 = 0 ∨ r8 = 1) → (r8 = 0 → Q ((-2)) u0 u0_0 v8_0 u0_4) ∧ (¬ r8 = 0 → qX11_isYear x3 (fun r15 => (r15 = 0 ∨ r15 = 1) → (r15 = 0 → Q ((-2)) u0 u0_0 v8_0 u0_4) ∧ (¬ r15 = 0 → qX11_isYear x4 (fun r23 => (r23 = 0 ∨ r23 = 1) → (¬ r23 = 0 → (x2 = ((-1)) → qX11_live_47 Q u0 u0_0 v8_0 u0_4 x1 x2 x3 x4) ∧ (¬ x2 = ((-1)) → qX11_isTongue x2 (fun r38 => (r38 = 0 ∨ r38 = 1) → (¬ r38 = 0 → qX11_live_47 Q u0 u0_0 v8_0 u0_4 x1 x2 x3 x4) ∧ (r38 = 0 → Q ((-2)) u0 u0_0 v8_0 u0_4)))) ∧ (r23 = 0 → Q ((-2)) u0 u0_0 v8_0 u0_4))))))
def qX11_name_31 (Q : Int32 → Md → Md → Md → Md → Md → Prop) (u0 : Md) (u0_0 : Md) (u0_0_2 : Md) (u0_0_3 : Md) (u0_2 : Md) (y1 : Int32) (y2 : Int32) (y3 : Int32) (z0 : Int32) : Prop :=
  (z0 = 0 → Q ((-2)) u0 u0_0 u0_0_2 u0_0_3 u0_2) ∧ (¬ z0 = 0 → qX2_has u0_0_2 y1 (fun r46 v46_0 => (r46 = 0 ∨ r46 = 1) → (r46 = 0 → Q ((-2)) u0 u0_0 v46_0 u0_0_3 u0_2) ∧ (¬ r46 = 0 → qX11_isTongue y2 (fun r53 => (r53 = 0 ∨ r53 = 1) → (r53 = 0 → Q ((-2)) u0 u0_0 v46_0 u0_0_3 u0_2) ∧ (¬ r53 = 0 → qX9_isLetters u0_2 12 (fun r65 v65_0 => (r65 = 0 ∨ r65 = 1) → (¬ r65 = 0 → qX7_addName u0_0_3 v65_0 y1 y2 y3 (fun r88 v88_0 v88_1 => (r88 < 0 → Q r88 u0 u0_0 v46_0 v88_0 v88_1) ∧ (¬ r88 < 0 → ∀ w103 : Md, w103 = sF v88_1 1 0 → Q r88 u0 u0_0 v46_0 v88_0 w103))) ∧ (r65 = 0 → Q ((-2)) u0 u0_0 v46_0 u0_0_3 v65_0)))))))
def qX11_name_26 (Q : Int32 → Md → Md → Md → Md → Md → Prop) (u0 : Md) (u0_0 : Md) (u0_0_2 : Md) (u0_0_3 : Md) (u0_2 : Md) (y1 : Int32) (y2 : Int32) (y3 : Int32) : Prop :=
  qX11_name_31 Q u0 u0_0 u0_0_2 u0_0_3 u0_2 y1 y2 y3 1
def qX11_name_30 (Q : Int32 → Md → Md → Md → Md → Md → Prop) (u0 : Md) (u0_0 : Md) (u0_0_2 : Md) (u0_0_3 : Md) (u0_2 : Md) (y1 : Int32) (y2 : Int32) (y3 : Int32) : Prop :=
  qX11_name_31 Q u0 u0_0 u0_0_2 u0_0_3 u0_2 y1 y2 y3 0
def qX11_name (u0 : Md) (u0_0 : Md) (u0_0_2 : Md) (u0_0_3 : Md) (u0_2 : Md) (x1 : Int32) (x2 : Int32) (x3 : Int32) (Q : Int32 → Md → Md → Md → Md → Md → Prop) : Prop :=
  (x3 = ((-1)) → qX11_name_26 Q u0 u0_0 u0_0_2 u0_0_3 u0_2 x1 x2 x3) ∧ (¬ x3 = ((-1)) → (x3 = ((-9)) → qX11_name_26 Q u0 u0_0 u0_0_2 u0_0_3 u0_2 x1 x2 x3) ∧ (¬ x3 = ((-9)) → (x3 < 0 → qX11_name_30 Q u0 u0_0 u0_0_2 u0_0_3 u0_2 x1 x2 x3) ∧ (¬ x3 < 0 → ((gF u0_0 0) < x3 → qX11_name_30 Q u0 u0_0 u0_0_2 u0_0_3 u0_2 x1 x2 x3) ∧ (¬ (gF u0_0 0) < x3 → qX11_name_26 Q u0 u0_0 u0_0_2 u0_0_3 u0_2 x1 x2 x3))))
def qX11_taken (u0 : Md) (u0_0 : Md) (u0_2 : Md) (x1 : Int32) (Q : Int32 → Md → Md → Md → Prop) : Prop :=
  ∀ w5 : Md, w5 = sF u0_2 1 0 → ((gF w5 2) = 0 → qX8_mark u0_0 (fun v25_0 => Q x1 u0 v25_0 w5)) ∧ (¬ (gF w5 2) = 0 → Q ((-4)) u0 u0_0 w5)
def qX11_spelling (u0 : Md) (u0_0 : Md) (u0_0_3 : Md) (u0_2 : Md) (x1 : Int32) (Q : Int32 → Md → Md → Md → Md → Prop) : Prop :=
  qX11_isTongue x1 (fun r1 => (r1 = 0 ∨ r1 = 1) → (¬ r1 = 0 → ((gF u0_0_3 6) < 12 → qX7_readSpelling u0_0_3 u0_2 x1 (gF u0_0 0) (fun r47 v47_0 v47_1 => qX11_taken u0 u0_0 v47_1 r47 (fun r53 v53_0 v53_1 v53_2 => Q r53 v53_0 v53_1 v47_0 v53_2))) ∧ (¬ (gF u0_0_3 6) < 12 → Q ((-3)) u0 u0_0 u0_0_3 u0_2)) ∧ (r1 = 0 → Q ((-2)) u0 u0_0 u0_0_3 u0_2))
def qX11_act (u0 : Md) (u0_0 : Md) (u0_0_4 : Md) (u0_2 : Md) (Q : Int32 → Md → Md → Md → Md → Prop) : Prop :=
  ((gF u0_0_4 0) < 8 → qX0_readAct u0_0_4 u0_2 (gF u0_0 0) (fun r36 v36_0 v36_1 => qX11_taken u0 u0_0 v36_1 r36 (fun r42 v42_0 v42_1 v42_2 => Q r42 v42_0 v42_1 v36_0 v42_2))) ∧ (¬ (gF u0_0_4 0) < 8 → Q ((-3)) u0 u0_0 u0_0_4 u0_2)
def qX11_fault (u0 : Md) (u0_2 : Md) (x1 : Int32) (Q : Int32 → Md → Md → Prop) : Prop :=
  (¬ x1 = 0 → (¬ x1 = 1 → Q ((-1)) u0 u0_2) ∧ (x1 = 1 → Q (gF u0_2 3) u0 u0_2)) ∧ (x1 = 0 → Q (gF u0_2 2) u0 u0_2)
def qX11_spell (u0 : Md) (u0_0 : Md) (u0_0_3 : Md) (u0_3 : Md) (x1 : Int32) (x2 : Int32) (Q : Int32 → Md → Md → Md → Md → Prop) : Prop :=
  qX7_hasName u0_0_3 x1 (fun r8 v8_0 => (r8 = 0 ∨ r8 = 1) → (r8 = 0 → Q ((-2)) u0 u0_0 v8_0 u0_3) ∧ (¬ r8 = 0 → qX11_isYear x2 (fun r15 => (r15 = 0 ∨ r15 = 1) → (¬ r15 = 0 → ∀ w29 : Md, w29 = sF u0_3 0 0 → qX7_spellInto v8_0 w29 x1 x2 (fun v45_0 v45_1 => Q (gF v45_1 0) u0 u0_0 v45_0 v45_1)) ∧ (r15 = 0 → Q ((-2)) u0 u0_0 v8_0 u0_3))))
def qX11_letter (u0 : Md) (u0_3 : Md) (x1 : Int32) (Q : Int32 → Md → Md → Prop) : Prop :=
  qX5_has u0_3 x1 (fun r5 v5_0 => (r5 = 0 ∨ r5 = 1) → (r5 = 0 → Q ((-1)) u0 v5_0) ∧ (¬ r5 = 0 → vp_in x1 73 ∧ (Q ((gB v5_0 1 x1.toNatClampNeg).toInt32) u0 v5_0)))
def qX11_led (u0 : Md) (u0_3 : Md) (x1 : Int32) (Q : Int32 → Md → Md → Prop) : Prop :=
  qX5_has u0_3 x1 (fun r5 v5_0 => (r5 = 0 ∨ r5 = 1) → (r5 = 0 → Q ((-1)) u0 v5_0) ∧ (¬ r5 = 0 → vp_in x1 73 ∧ (Q (gA v5_0 2 x1.toNatClampNeg) u0 v5_0)))
def qX11_alikes (u0 : Md) (u0_0 : Md) (u0_0_3 : Md) (u0_4 : Md) (u0_4_6 : Md) (x1 : Int32) (Q : Int32 → Md → Md → Md → Md → Md → Prop) : Prop :=
  qX11_isYear x1 (fun r1 => (r1 = 0 ∨ r1 = 1) → (r1 = 0 → Q ((-2)) u0 u0_0 u0_0_3 u0_4 u0_4_6) ∧ (¬ r1 = 0 → qX10_alikePairs u0_4 u0_4_6 u0_0_3 x1 (fun r19 v19_0 v19_1 v19_2 => Q r19 u0 u0_0 v19_2 v19_0 v19_1)))
def qX11_edits (u0 : Md) (u0_0 : Md) (u0_0_3 : Md) (u0_4 : Md) (u0_4_6 : Md) (u0_4_7 : Md) (x1 : Int32) (x2 : Int32) (x3 : Int32) (Q : Int32 → Md → Md → Md → Md → Md → Md → Prop) : Prop :=
  qX7_hasName u0_0_3 x1 (fun r8 v8_0 => (r8 = 0 ∨ r8 = 1) → (r8 = 0 → Q ((-2)) u0 u0_0 v8_0 u0_4 u0_4_6 u0_4_7) ∧ (¬ r8 = 0 → qX7_hasName v8_0 x2 (fun r22 v22_0 => (r22 = 0 ∨ r22 = 1) → (r22 = 0 → Q ((-2)) u0 u0_0 v22_0 u0_4 u0_4_6 u0_4_7) ∧ (¬ r22 = 0 → qX11_isYear x3 (fun r29 => (r29 = 0 ∨ r29 = 1) → (¬ r29 = 0 → qX10_editsOfNames u0_4 u0_4_6 u0_4_7 v22_0 x1 x2 x3 (fun r52 v52_0 v52_1 v52_2 v52_3 => Q r52 u0 u0_0 v52_3 v52_0 v52_1 v52_2)) ∧ (r29 = 0 → Q ((-2)) u0 u0_0 v22_0 u0_4 u0_4_6 u0_4_7))))))
def qX11_first (u0 : Md) (u0_0 : Md) (u0_0_2 : Md) (u0_0_4 : Md) (u0_4 : Md) (x1 : Int32) (x2 : Int32) (x3 : Int32) (Q : Int32 → Md → Md → Md → Md → Md → Prop) : Prop :=
  qX2_has u0_0_2 x1 (fun r8 v8_0 => (r8 = 0 ∨ r8 = 1) → (r8 = 0 → Q ((-2)) u0 u0_0 v8_0 u0_0_4 u0_4) ∧ (¬ r8 = 0 → qX11_isYear x2 (fun r15 => (r15 = 0 ∨ r15 = 1) → (r15 = 0 → Q ((-2)) u0 u0_0 v8_0 u0_0_4 u0_4) ∧ (¬ r15 = 0 → qX11_isYear x3 (fun r22 => (r22 = 0 ∨ r22 = 1) → (¬ r22 = 0 → qX10_look u0_4 u0_0 v8_0 u0_0_4 x1 x2 x3 (fun v42_0 v42_1 v42_2 v42_3 => Q (gF v42_0 4) u0 v42_1 v42_2 v42_3 v42_0)) ∧ (r22 = 0 → Q ((-2)) u0 u0_0 v8_0 u0_0_4 u0_4))))))
def qX11_beside (u0 : Md) (u0_0 : Md) (u0_0_2 : Md) (u0_0_4 : Md) (u0_4 : Md) (x1 : Int32) (x2 : Int32) (x3 : Int32) (Q : Int32 → Md → Md → Md → Md → Md → Prop) : Prop :=
  qX2_has u0_0_2 x1 (fun r8 v8_0 => (r8 = 0 ∨ r8 = 1) → (r8 = 0 → Q ((-2)) u0 u0_0 v8_0 u0_0_4 u0_4) ∧ (¬ r8 = 0 → qX11_isYear x2 (fun r15 => (r15 = 0 ∨ r15 = 1) → (r15 = 0 → Q ((-2)) u0 u0_0 v8_0 u0_0_4 u0_4) ∧ (¬ r15 = 0 → qX11_isYear x3 (fun r22 => (r22 = 0 ∨ r22 = 1) → (¬ r22 = 0 → qX10_look u0_4 u0_0 v8_0 u0_0_4 x1 x2 x3 (fun v42_0 v42_1 v42_2 v42_3 => Q (gF v42_0 5) u0 v42_1 v42_2 v42_3 v42_0)) ∧ (r22 = 0 → Q ((-2)) u0 u0_0 v8_0 u0_0_4 u0_4))))))
def qX11_swings (u0 : Md) (u0_0 : Md) (u0_0_2 : Md) (u0_0_4 : Md) (u0_4 : Md) (x1 : Int32) (Q : Int32 → Md → Md → Md → Md → Md → Prop) : Prop :=
  qX2_has u0_0_2 x1 (fun r8 v8_0 => (r8 = 0 ∨ r8 = 1) → (r8 = 0 → Q ((-2)) u0 u0_0 v8_0 u0_0_4 u0_4) ∧ (¬ r8 = 0 → qX10_fewestToSwing u0_4 u0_0 v8_0 u0_0_4 x1 (fun r23 v23_0 v23_1 v23_2 v23_3 => Q r23 u0 v23_1 v23_2 v23_3 v23_0)))
def qX11_ask (u0 : Md) (u0_0 : Md) (u0_0_3 : Md) (u0_0_5 : Md) (x1 : Int32) (Q : Int32 → Md → Md → Md → Md → Prop) : Prop :=
  qX7_hasName u0_0_3 x1 (fun r8 v8_0 => (r8 = 0 ∨ r8 = 1) → (¬ r8 = 0 → vp_in x1 80 ∧ (qX1_open u0_0_5 x1 (gA v8_0 1 x1.toNatClampNeg) (fun r37 v37_0 => Q r37 u0 u0_0 v8_0 v37_0))) ∧ (r8 = 0 → Q ((-2)) u0 u0_0 v8_0 u0_0_5))
def qX11_vote (u0 : Md) (u0_0 : Md) (u0_0_5 : Md) (x1 : Int32) (x2 : Int32) (x3 : Int32) (Q : Int32 → Md → Md → Md → Prop) : Prop :=
  qX1_has u0_0_5 x1 (fun r12 v12_0 => (r12 = 0 ∨ r12 = 1) → (r12 = 0 → Q ((-2)) u0 u0_0 v12_0) ∧ (¬ r12 = 0 → (x2 < 0 → Q ((-2)) u0 u0_0 v12_0) ∧ (¬ x2 < 0 → (x2 < 9 → vp_in x1 60 ∧ ((¬ (if gZ v12_0 3 x1.toNatClampNeg then (1 : Int32) else 0) = 0 → qX1_cast v12_0 x1 x2 x3 (fun v49_0 => Q 0 u0 u0_0 v49_0)) ∧ ((if gZ v12_0 3 x1.toNatClampNeg then (1 : Int32) else 0) = 0 → Q ((-5)) u0 u0_0 v12_0))) ∧ (¬ x2 < 9 → Q ((-2)) u0 u0_0 v12_0))))
def qX11_close (u0 : Md) (u0_0 : Md) (u0_0_2 : Md) (u0_0_3 : Md) (u0_0_4 : Md) (u0_0_5 : Md) (u0_4 : Md) (u0_4_6 : Md) (u0_4_7 : Md) (x1 : Int32) (Q : Int32 → Md → Md → Md → Md → Md → Md → Md → Md → Md → Prop) : Prop :=
  qX1_has u0_0_5 x1 (fun r10 v10_0 => (r10 = 0 ∨ r10 = 1) → (¬ r10 = 0 → vp_in x1 60 ∧ ((¬ (if gZ v10_0 3 x1.toNatClampNeg then (1 : Int32) else 0) = 0 → vp_in x1 60 ∧ (∀ w37 : Md, w37 = tZ v10_0 3 x1 0 → vp_in x1 60 ∧ (qX10_whyRefused u0_4 u0_4_6 u0_4_7 u0_0 u0_0_2 u0_0_3 u0_0_4 w37 x1 (gA w37 1 x1.toNatClampNeg) (fun r55 v55_0 v55_1 v55_2 v55_3 v55_4 v55_5 v55_6 v55_7 => (¬ r55 = 0 → Q r55 u0 v55_3 v55_4 v55_5 v55_6 v55_7 v55_0 v55_1 v55_2) ∧ (r55 = 0 → vp_in (gA w37 1 x1.toNatClampNeg) 80 ∧ (vp_in (gA w37 1 x1.toNatClampNeg) 80 ∧ (qX1_settle v55_7 (gA w37 1 x1.toNatClampNeg) (gA v55_5 1 (gA w37 1 x1.toNatClampNeg).toNatClampNeg) (gA v55_5 2 (gA w37 1 x1.toNatClampNeg).toNatClampNeg) (gF v55_3 0) (fun v98_0 => qX8_mark v55_3 (fun v105_0 => Q r55 u0 v105_0 v55_4 v55_5 v55_6 v98_0 v55_0 v55_1 v55_2))))))))) ∧ ((if gZ v10_0 3 x1.toNatClampNeg then (1 : Int32) else 0) = 0 → Q ((-5)) u0 u0_0 u0_0_2 u0_0_3 u0_0_4 v10_0 u0_4 u0_4_6 u0_4_7))) ∧ (r10 = 0 → Q ((-2)) u0 u0_0 u0_0_2 u0_0_3 u0_0_4 v10_0 u0_4 u0_4_6 u0_4_7))
def qX11_settled (u0 : Md) (u0_0 : Md) (u0_0_2 : Md) (u0_0_5 : Md) (x1 : Int32) (x2 : Int32) (x3 : Int32) (x4 : Int32) (Q : Int32 → Md → Md → Md → Md → Prop) : Prop :=
  qX2_has u0_0_2 x1 (fun r8 v8_0 => (r8 = 0 ∨ r8 = 1) → (r8 = 0 → Q ((-2)) u0 u0_0 v8_0 u0_0_5) ∧ (¬ r8 = 0 → qX11_isTongue x2 (fun r15 => (r15 = 0 ∨ r15 = 1) → (r15 = 0 → Q ((-2)) u0 u0_0 v8_0 u0_0_5) ∧ (¬ r15 = 0 → qX11_isYear x3 (fun r22 => (r22 = 0 ∨ r22 = 1) → (r22 = 0 → Q ((-2)) u0 u0_0 v8_0 u0_0_5) ∧ (¬ r22 = 0 → qX11_isYear x4 (fun r30 => (r30 = 0 ∨ r30 = 1) → (¬ r30 = 0 → qX1_nameAt u0_0_5 x1 x2 (imin x3 x4) (fun r54 v54_0 => Q r54 u0 u0_0 v8_0 v54_0)) ∧ (r30 = 0 → Q ((-2)) u0 u0_0 v8_0 u0_0_5))))))))
def qX11_undo (u0 : Md) (u0_0 : Md) (u0_0_2 : Md) (u0_0_5 : Md) (x1 : Int32) (x2 : Int32) (Q : Int32 → Md → Md → Md → Md → Prop) : Prop :=
  qX2_has u0_0_2 x1 (fun r8 v8_0 => (r8 = 0 ∨ r8 = 1) → (r8 = 0 → Q ((-2)) u0 u0_0 v8_0 u0_0_5) ∧ (¬ r8 = 0 → qX11_isTongue x2 (fun r15 => (r15 = 0 ∨ r15 = 1) → (¬ r15 = 0 → qX1_undoLast u0_0_5 x1 x2 (gF u0_0 0) (fun r40 v40_0 => (r40 = 0 ∨ r40 = 1) → (¬ r40 = 0 → qX8_mark u0_0 (fun v53_0 => qX1_nameAt v40_0 x1 x2 (gF v53_0 0) (fun r72 v72_0 => Q r72 u0 v53_0 v8_0 v72_0))) ∧ (r40 = 0 → Q ((-5)) u0 u0_0 v8_0 v40_0))) ∧ (r15 = 0 → Q ((-2)) u0 u0_0 v8_0 u0_0_5))))
def qX11_shown (u0 : Md) (u0_0 : Md) (u0_0_2 : Md) (u0_0_3 : Md) (u0_0_4 : Md) (u0_0_5 : Md) (u0_3 : Md) (u0_4 : Md) (x1 : Int32) (x2 : Int32) (x3 : Int32) (Q : Int32 → Md → Md → Md → Md → Md → Md → Md → Md → Prop) : Prop :=
  qX2_has u0_0_2 x1 (fun r8 v8_0 => (r8 = 0 ∨ r8 = 1) → (r8 = 0 → Q ((-2)) u0 u0_0 v8_0 u0_0_3 u0_0_4 u0_0_5 u0_3 u0_4) ∧ (¬ r8 = 0 → qX11_isYear x2 (fun r15 => (r15 = 0 ∨ r15 = 1) → (r15 = 0 → Q ((-2)) u0 u0_0 v8_0 u0_0_3 u0_0_4 u0_0_5 u0_3 u0_4) ∧ (¬ r15 = 0 → qX11_isYear x3 (fun r22 => (r22 = 0 ∨ r22 = 1) → (¬ r22 = 0 → qX10_show u0_4 u0_0 v8_0 u0_0_3 u0_0_4 u0_0_5 u0_3 x1 x2 x3 (fun v46_0 v46_1 v46_2 v46_3 v46_4 v46_5 v46_6 => Q (gF v46_6 0) u0 v46_1 v46_2 v46_3 v46_4 v46_5 v46_6 v46_0)) ∧ (r22 = 0 → Q ((-2)) u0 u0_0 v8_0 u0_0_3 u0_0_4 u0_0_5 u0_3 u0_4))))))
def qX11_isNumber (x0 : Int32) (Q : Int32 → Prop) : Prop :=
  (x0 < 0 → Q 0) ∧ (¬ x0 < 0 → (9999 < x0 → Q 0) ∧ (¬ 9999 < x0 → Q 1))
def qX11_sign (u0 : Md) (u0_0 : Md) (u0_0_2 : Md) (u0_0_6 : Md) (x1 : Int32) (x2 : Int32) (Q : Int32 → Md → Md → Md → Md → Prop) : Prop :=
  qX2_has u0_0_2 x1 (fun r8 v8_0 => (r8 = 0 ∨ r8 = 1) → (r8 = 0 → Q ((-2)) u0 u0_0 v8_0 u0_0_6) ∧ (¬ r8 = 0 → qX11_isNumber x2 (fun r15 => (r15 = 0 ∨ r15 = 1) → (¬ r15 = 0 → qX6_make u0_0_6 x1 x2 (gF u0_0 0) (fun r40 v40_0 => Q r40 u0 u0_0 v8_0 v40_0)) ∧ (r15 = 0 → Q ((-2)) u0 u0_0 v8_0 u0_0_6))))
def qX11_anew (u0 : Md) (u0_0 : Md) (u0_0_6 : Md) (x1 : Int32) (Q : Int32 → Md → Md → Md → Prop) : Prop :=
  qX6_has u0_0_6 x1 (fun r8 v8_0 => (r8 = 0 ∨ r8 = 1) → (¬ r8 = 0 → vp_in x1 40 ∧ (∀ w35 : Md, w35 = tA v8_0 3 x1 (gF u0_0 0) → Q 0 u0 u0_0 w35)) ∧ (r8 = 0 → Q ((-2)) u0 u0_0 v8_0))
def qX11_signOf (u0 : Md) (u0_0 : Md) (u0_0_2 : Md) (u0_0_3 : Md) (u0_0_4 : Md) (u0_0_5 : Md) (u0_0_6 : Md) (u0_4 : Md) (u0_4_6 : Md) (u0_4_7 : Md) (x1 : Int32) (x2 : Int32) (Q : Int32 → Md → Md → Md → Md → Md → Md → Md → Md → Md → Md → Prop) : Prop :=
  qX6_has u0_0_6 x1 (fun r10 v10_0 => (r10 = 0 ∨ r10 = 1) → (¬ r10 = 0 → (x2 = 0 → qX10_isLame u0_4 u0_4_6 u0_4_7 u0_0 u0_0_2 u0_0_3 u0_0_4 u0_0_5 v10_0 x1 (fun r69 v69_0 v69_1 v69_2 v69_3 v69_4 v69_5 v69_6 v69_7 v69_8 => (r69 = 0 ∨ r69 = 1) → (r69 = 0 → Q 0 u0 v69_3 v69_4 v69_5 v69_6 v69_7 v69_8 v69_0 v69_1 v69_2) ∧ (¬ r69 = 0 → Q 1 u0 v69_3 v69_4 v69_5 v69_6 v69_7 v69_8 v69_0 v69_1 v69_2))) ∧ (¬ x2 = 0 → (x2 = 1 → qX10_isLame u0_4 u0_4_6 u0_4_7 u0_0 u0_0_2 u0_0_3 u0_0_4 u0_0_5 v10_0 x1 (fun r90 v90_0 v90_1 v90_2 v90_3 v90_4 v90_5 v90_6 v90_7 v90_8 => (r90 = 0 ∨ r90 = 1) → (r90 = 0 → Q ((-1)) u0 v90_3 v90_4 v90_5 v90_6 v90_7 v90_8 v90_0 v90_1 v90_2) ∧ (¬ r90 = 0 → qX10_dueYear v90_0 v90_1 v90_2 v90_3 v90_4 v90_5 v90_6 v90_7 v90_8 x1 (fun r105 v105_0 v105_1 v105_2 v105_3 v105_4 v105_5 v105_6 v105_7 v105_8 => Q r105 u0 v105_3 v105_4 v105_5 v105_6 v105_7 v105_8 v105_0 v105_1 v105_2)))) ∧ (¬ x2 = 1 → (x2 = 2 → qX10_isLame u0_4 u0_4_6 u0_4_7 u0_0 u0_0_2 u0_0_3 u0_0_4 u0_0_5 v10_0 x1 (fun r122 v122_0 v122_1 v122_2 v122_3 v122_4 v122_5 v122_6 v122_7 v122_8 => (r122 = 0 ∨ r122 = 1) → (r122 = 0 → Q 0 u0 v122_3 v122_4 v122_5 v122_6 v122_7 v122_8 v122_0 v122_1 v122_2) ∧ (¬ r122 = 0 → qX10_dueYear v122_0 v122_1 v122_2 v122_3 v122_4 v122_5 v122_6 v122_7 v122_8 x1 (fun r145 v145_0 v145_1 v145_2 v145_3 v145_4 v145_5 v145_6 v145_7 v145_8 => Q (imax 0 ((gF v122_3 0) - r145)) u0 v145_3 v145_4 v145_5 v145_6 v145_7 v145_8 v145_0 v145_1 v145_2)))) ∧ (¬ x2 = 2 → (x2 = 3 → vp_in x1 40 ∧ (Q (gA v10_0 3 x1.toNatClampNeg) u0 u0_0 u0_0_2 u0_0_3 u0_0_4 u0_0_5 v10_0 u0_4 u0_4_6 u0_4_7)) ∧ (¬ x2 = 3 → (x2 = 4 → vp_in x1 40 ∧ (Q (gA v10_0 1 x1.toNatClampNeg) u0 u0_0 u0_0_2 u0_0_3 u0_0_4 u0_0_5 v10_0 u0_4 u0_4_6 u0_4_7)) ∧ (¬ x2 = 4 → (x2 = 5 → vp_in x1 40 ∧ (Q (gA v10_0 2 x1.toNatClampNeg) u0 u0_0 u0_0_2 u0_0_3 u0_0_4 u0_0_5 v10_0 u0_4 u0_4_6 u0_4_7)) ∧ (¬ x2 = 5 → Q ((-2)) u0 u0_0 u0_0_2 u0_0_3 u0_0_4 u0_0_5 v10_0 u0_4 u0_4_6 u0_4_7))))))) ∧ (r10 = 0 → Q ((-2)) u0 u0_0 u0_0_2 u0_0_3 u0_0_4 u0_0_5 v10_0 u0_4 u0_4_6 u0_4_7))
def qX11_plan_19 (Q : Int32 → Md → Md → Md → Md → Md → Md → Md → Md → Md → Md → Md → Prop) : Nat → Md → Md → Md → Md → Md → Md → Md → Md → Md → Md → Md → Int32 → Int32 → Prop
  | 0 => fun _ _ _ _ _ _ _ _ _ _ _ _ _ => False
  | n + 1 => fun u0 u0_0 u0_0_2 u0_0_3 u0_0_4 u0_0_5 u0_0_6 u0_4 u0_4_6 u0_4_7 u0_5 y1 y2 =>
  ((gF u0_0_6 0) ≤ y2 → qX4_leastSum u0_5 y1 (fun r85 v85_0 => Q r85 u0 u0_0 u0_0_2 u0_0_3 u0_0_4 u0_0_5 u0_0_6 u0_4 u0_4_6 u0_4_7 v85_0)) ∧ (¬ (gF u0_0_6 0) ≤ y2 → qX10_isLame u0_4 u0_4_6 u0_4_7 u0_0 u0_0_2 u0_0_3 u0_0_4 u0_0_5 u0_0_6 y2 (fun r42 v42_0 v42_1 v42_2 v42_3 v42_4 v42_5 v42_6 v42_7 v42_8 => (r42 = 0 ∨ r42 = 1) → (r42 = 0 → qX11_plan_19 Q n u0 v42_3 v42_4 v42_5 v42_6 v42_7 v42_8 v42_0 v42_1 v42_2 u0_5 y1 (y2 + Int32.ofInt 1)) ∧ (¬ r42 = 0 → vp_in y2 40 ∧ (qX4_take u0_5 y2 (gA v42_8 2 y2.toNatClampNeg) y1 (fun r66 v66_0 => (r66 = 0 ∨ r66 = 1) → (¬ r66 = 0 → qX11_plan_19 Q n u0 v42_3 v42_4 v42_5 v42_6 v42_7 v42_8 v42_0 v42_1 v42_2 v66_0 y1 (y2 + Int32.ofInt 1)) ∧ (r66 = 0 → Q ((-1)) u0 v42_3 v42_4 v42_5 v42_6 v42_7 v42_8 v42_0 v42_1 v42_2 v66_0))))))
def qX11_plan (u0 : Md) (u0_0 : Md) (u0_0_2 : Md) (u0_0_3 : Md) (u0_0_4 : Md) (u0_0_5 : Md) (u0_0_6 : Md) (u0_4 : Md) (u0_4_6 : Md) (u0_4_7 : Md) (u0_5 : Md) (x1 : Int32) (Q : Int32 → Md → Md → Md → Md → Md → Md → Md → Md → Md → Md → Md → Prop) : Prop :=
  qX11_isNumber x1 (fun r1 => (r1 = 0 ∨ r1 = 1) → (¬ r1 = 0 → qX4_begin u0_5 (fun v14_0 => ∃ n' : Nat, qX11_plan_19 Q n' u0 u0_0 u0_0_2 u0_0_3 u0_0_4 u0_0_5 u0_0_6 u0_4 u0_4_6 u0_4_7 v14_0 x1 0)) ∧ (r1 = 0 → Q ((-2)) u0 u0_0 u0_0_2 u0_0_3 u0_0_4 u0_0_5 u0_0_6 u0_4 u0_4_6 u0_4_7 u0_5))
def qX11_planned (u0 : Md) (u0_5 : Md) (x1 : Int32) (Q : Int32 → Md → Md → Prop) : Prop :=
  (x1 < 0 → Q ((-1)) u0 u0_5) ∧ (¬ x1 < 0 → (40 ≤ x1 → Q ((-1)) u0 u0_5) ∧ (¬ 40 ≤ x1 → vp_in x1 40 ∧ (Q (gA u0_5 0 x1.toNatClampNeg) u0 u0_5)))
def qX11_paper (u0 : Md) (u0_0 : Md) (u0_6 : Md) (x1 : Int32) (Q : Int32 → Md → Md → Md → Prop) : Prop :=
  (x1 < 0 → Q ((-2)) u0 u0_0 u0_6) ∧ (¬ x1 < 0 → (x1 ≤ (gF u0_0 0) → ∀ w23 : Md, w23 = sF u0_6 0 x1 → ∀ w31 : Md, w31 = sF w23 1 0 → Q 0 u0 u0_0 w31) ∧ (¬ x1 ≤ (gF u0_0 0) → Q ((-2)) u0 u0_0 u0_6))
def qX11_written (u0 : Md) (u0_2 : Md) (u0_6 : Md) (Q : Int32 → Md → Md → Md → Prop) : Prop :=
  ((gF u0_6 0) = ((-1)) → Q ((-2)) u0 u0_2 u0_6) ∧ (¬ (gF u0_6 0) = ((-1)) → qX9_isLetters u0_2 24 (fun r17 v17_0 => (r17 = 0 ∨ r17 = 1) → (¬ r17 = 0 → qX3_add u0_6 v17_0 (fun r34 v34_0 v34_1 => (r34 = 0 ∨ r34 = 1) → (¬ r34 = 0 → ∀ w48 : Md, w48 = sF v34_1 1 0 → Q (gF v34_0 1) u0 w48 v34_0) ∧ (r34 = 0 → Q ((-3)) u0 v34_1 v34_0))) ∧ (r17 = 0 → Q ((-2)) u0 v17_0 u0_6)))
def qX11_join (u0 : Md) (u0_0 : Md) (u0_0_2 : Md) (u0_0_3 : Md) (u0_4 : Md) (u0_4_6 : Md) (u0_4_7 : Md) (u0_6 : Md) (Q : Int32 → Md → Md → Md → Md → Md → Md → Md → Md → Prop) : Prop :=
  (¬ (gF u0_6 0) = ((-1)) → qX3_greatestSum u0_6 u0_0 u0_0_2 u0_0_3 u0_4 u0_4_6 u0_4_7 (fun r27 v27_0 v27_1 v27_2 v27_3 v27_4 v27_5 v27_6 => Q r27 u0 v27_1 v27_2 v27_3 v27_4 v27_5 v27_6 v27_0)) ∧ ((gF u0_6 0) = ((-1)) → Q ((-1)) u0 u0_0 u0_0_2 u0_0_3 u0_4 u0_4_6 u0_4_7 u0_6)
def qX11_joined (u0 : Md) (u0_6 : Md) (x1 : Int32) (Q : Int32 → Md → Md → Prop) : Prop :=
  (x1 < 0 → Q ((-1)) u0 u0_6) ∧ (¬ x1 < 0 → ((gF u0_6 4) ≤ x1 → Q ((-1)) u0 u0_6) ∧ (¬ (gF u0_6 4) ≤ x1 → vp_in x1 7 ∧ (Q (gA u0_6 5 x1.toNatClampNeg) u0 u0_6)))
def qX11_rowsHad_4 (Q : Int32 → Md → Prop) : Nat → Md → Int32 → Int32 → Prop
  | 0 => fun _ _ _ => False
  | n + 1 => fun u0 y1 y2 =>
  (4 ≤ y2 → Q y1 u0) ∧ (¬ 4 ≤ y2 → vp_in y2 4 ∧ (((gA u0 9 y2.toNatClampNeg) = ((-1)) → qX11_rowsHad_4 Q n u0 y1 (y2 + Int32.ofInt 1)) ∧ (¬ (gA u0 9 y2.toNatClampNeg) = ((-1)) → qX11_rowsHad_4 Q n u0 (y1 + Int32.ofInt 1) (y2 + Int32.ofInt 1))))
def qX11_rowsHad (u0 : Md) (Q : Int32 → Md → Prop) : Prop :=
  ∃ n' : Nat, qX11_rowsHad_4 Q n' u0 0 0
def qX11_count (u0 : Md) (u0_0 : Md) (u0_0_2 : Md) (u0_0_3 : Md) (u0_0_4 : Md) (u0_0_5 : Md) (u0_0_6 : Md) (u0_2 : Md) (u0_4 : Md) (u0_4_6 : Md) (u0_4_7 : Md) (u0_6 : Md) (x1 : Int32) (Q : Int32 → Md → Md → Md → Md → Md → Md → Md → Md → Md → Md → Md → Md → Prop) : Prop :=
  (x1 = 0 → Q (gF u0_0 0) u0 u0_0 u0_0_2 u0_0_3 u0_0_4 u0_0_5 u0_0_6 u0_2 u0_4 u0_4_6 u0_4_7 u0_6) ∧ (¬ x1 = 0 → (x1 = 1 → Q (gF u0_0_2 0) u0 u0_0 u0_0_2 u0_0_3 u0_0_4 u0_0_5 u0_0_6 u0_2 u0_4 u0_4_6 u0_4_7 u0_6) ∧ (¬ x1 = 1 → (x1 = 2 → Q (gF u0_0_3 0) u0 u0_0 u0_0_2 u0_0_3 u0_0_4 u0_0_5 u0_0_6 u0_2 u0_4 u0_4_6 u0_4_7 u0_6) ∧ (¬ x1 = 2 → (x1 = 3 → Q (gF u0_0_3 6) u0 u0_0 u0_0_2 u0_0_3 u0_0_4 u0_0_5 u0_0_6 u0_2 u0_4 u0_4_6 u0_4_7 u0_6) ∧ (¬ x1 = 3 → (x1 = 4 → Q (gF u0_0_4 0) u0 u0_0 u0_0_2 u0_0_3 u0_0_4 u0_0_5 u0_0_6 u0_2 u0_4 u0_4_6 u0_4_7 u0_6) ∧ (¬ x1 = 4 → (x1 = 5 → Q (gF u0_0_5 0) u0 u0_0 u0_0_2 u0_0_3 u0_0_4 u0_0_5 u0_0_6 u0_2 u0_4 u0_4_6 u0_4_7 u0_6) ∧ (¬ x1 = 5 → (x1 = 6 → Q (gF u0_0_2 7) u0 u0_0 u0_0_2 u0_0_3 u0_0_4 u0_0_5 u0_0_6 u0_2 u0_4 u0_4_6 u0_4_7 u0_6) ∧ (¬ x1 = 6 → (x1 = 7 → Q (gF u0_0_6 0) u0 u0_0 u0_0_2 u0_0_3 u0_0_4 u0_0_5 u0_0_6 u0_2 u0_4 u0_4_6 u0_4_7 u0_6) ∧ (¬ x1 = 7 → (x1 = 8 → qX10_lameSigns u0_4 u0_4_6 u0_4_7 u0_0 u0_0_2 u0_0_3 u0_0_4 u0_0_5 u0_0_6 (fun r161 v161_0 v161_1 v161_2 v161_3 v161_4 v161_5 v161_6 v161_7 v161_8 => Q r161 u0 v161_3 v161_4 v161_5 v161_6 v161_7 v161_8 u0_2 v161_0 v161_1 v161_2 u0_6)) ∧ (¬ x1 = 8 → (x1 = 9 → Q (gF u0_2 1) u0 u0_0 u0_0_2 u0_0_3 u0_0_4 u0_0_5 u0_0_6 u0_2 u0_4 u0_4_6 u0_4_7 u0_6) ∧ (¬ x1 = 9 → (x1 = 10 → Q (gF u0_6 1) u0 u0_0 u0_0_2 u0_0_3 u0_0_4 u0_0_5 u0_0_6 u0_2 u0_4 u0_4_6 u0_4_7 u0_6) ∧ (¬ x1 = 10 → (x1 = 11 → qX1_namesAt u0_0_5 (gF u0_0_2 0) (gF u0_0 0) (fun r205 v205_0 => Q r205 u0 u0_0 u0_0_2 u0_0_3 u0_0_4 v205_0 u0_0_6 u0_2 u0_4 u0_4_6 u0_4_7 u0_6)) ∧ (¬ x1 = 11 → (x1 = 12 → qX11_rowsHad u0 (fun r210 v210_0 => Q r210 v210_0 u0_0 u0_0_2 u0_0_3 u0_0_4 u0_0_5 u0_0_6 u0_2 u0_4 u0_4_6 u0_4_7 u0_6)) ∧ (¬ x1 = 12 → Q ((-1)) u0 u0_0 u0_0_2 u0_0_3 u0_0_4 u0_0_5 u0_0_6 u0_2 u0_4 u0_4_6 u0_4_7 u0_6)))))))))))))
def qX11_row_49 (Q : Int32 → Md → Prop) : Nat → Md → Int32 → Int32 → Int32 → Prop
  | 0 => fun _ _ _ _ => False
  | n + 1 => fun u0 y1 y3 y4 =>
  (y3 ≤ y4 → Q 0 u0) ∧ (¬ y3 ≤ y4 → vp_in ((y1 * 60) + y4) 240 ∧ (∀ w67 : Md, w67 = tL u0 7 ((y1 * 60) + y4) 0 → qX11_row_49 Q n w67 y1 y3 (y4 + Int32.ofInt 1)))
def qX11_row (u0 : Md) (x1 : Int32) (x2 : Int32) (x3 : Int32) (Q : Int32 → Md → Prop) : Prop :=
  qX11_isSlot x1 (fun r1 => (r1 = 0 ∨ r1 = 1) → (r1 = 0 → Q ((-2)) u0) ∧ (¬ r1 = 0 → (x2 < 0 → Q ((-2)) u0) ∧ (¬ x2 < 0 → (4 ≤ x2 → Q ((-2)) u0) ∧ (¬ 4 ≤ x2 → (x3 ≤ 60 → (0 ≤ x3 → vp_in x1 4 ∧ (∀ w38 : Md, w38 = tA u0 8 x1 x2 → vp_in x1 4 ∧ (∀ w45 : Md, w45 = tA w38 9 x1 x3 → ∃ n' : Nat, qX11_row_49 Q n' w45 x1 x3 0))) ∧ (¬ 0 ≤ x3 → Q ((-3)) u0)) ∧ (¬ x3 ≤ 60 → Q ((-2)) u0)))))
def qX11_tear (u0 : Md) (x1 : Int32) (Q : Int32 → Md → Prop) : Prop :=
  qX11_isSlot x1 (fun r1 => (r1 = 0 ∨ r1 = 1) → (r1 = 0 → Q 0 u0) ∧ (¬ r1 = 0 → vp_in x1 4 ∧ ((¬ (gA u0 9 x1.toNatClampNeg) = ((-1)) → vp_in x1 4 ∧ (∀ w25 : Md, w25 = tA u0 9 x1 ((-1)) → Q 1 w25)) ∧ ((gA u0 9 x1.toNatClampNeg) = ((-1)) → Q 0 u0))))
def qX11_cut (x0 : Int64) (x1 : Int32) (Q : Int64 → Prop) : Prop :=
  (x1 = 0 → Q x0.toInt32.toInt8.toInt32.toInt64) ∧ (¬ x1 = 0 → (x1 = 1 → Q x0.toInt32.toInt16.toInt32.toInt64) ∧ (¬ x1 = 1 → (x1 = 2 → Q x0.toInt32.toInt64) ∧ (¬ x1 = 2 → Q x0)))
def qX11_write (u0 : Md) (x1 : Int32) (x2 : Int32) (x3 : Int64) (Q : Int32 → Md → Prop) : Prop :=
  qX11_isSlot x1 (fun r1 => (r1 = 0 ∨ r1 = 1) → (¬ r1 = 0 → vp_in x1 4 ∧ ((¬ (gA u0 9 x1.toNatClampNeg) = ((-1)) → (x2 < 0 → Q ((-7)) u0) ∧ (¬ x2 < 0 → vp_in x1 4 ∧ ((x2 < (gA u0 9 x1.toNatClampNeg) → vp_in x1 4 ∧ (qX11_cut x3 (gA u0 8 x1.toNatClampNeg) (fun r57 => vp_in ((x1 * 60) + x2) 240 ∧ (∀ w60 : Md, w60 = tL u0 7 ((x1 * 60) + x2) r57 → Q 0 w60)))) ∧ (¬ x2 < (gA u0 9 x1.toNatClampNeg) → Q ((-7)) u0)))) ∧ ((gA u0 9 x1.toNatClampNeg) = ((-1)) → Q ((-6)) u0))) ∧ (r1 = 0 → Q ((-2)) u0))
def qX11_liesInRow (u0 : Md) (x1 : Int32) (x2 : Int32) (x3 : Int32) (Q : Int32 → Md → Prop) : Prop :=
  (x2 < 0 → Q 0 u0) ∧ (¬ x2 < 0 → (x3 < 0 → Q 0 u0) ∧ (¬ x3 < 0 → vp_in x1 4 ∧ (((gA u0 9 x1.toNatClampNeg) < x3 → Q 0 u0) ∧ (¬ (gA u0 9 x1.toNatClampNeg) < x3 → vp_in x1 4 ∧ ((((gA u0 9 x1.toNatClampNeg) - x3) < x2 → Q 0 u0) ∧ (¬ ((gA u0 9 x1.toNatClampNeg) - x3) < x2 → Q 1 u0))))))
def qX11_paste (u0 : Md) (x1 : Int32) (x2 : Int32) (x3 : Int32) (x4 : Int32) (x5 : Int32) (Q : Int32 → Md → Prop) : Prop :=
  qX11_isSlot x1 (fun r1 => (r1 = 0 ∨ r1 = 1) → (r1 = 0 → Q ((-2)) u0) ∧ (¬ r1 = 0 → qX11_isSlot x3 (fun r8 => (r8 = 0 ∨ r8 = 1) → (¬ r8 = 0 → vp_in x1 4 ∧ (((gA u0 9 x1.toNatClampNeg) = ((-1)) → Q ((-6)) u0) ∧ (¬ (gA u0 9 x1.toNatClampNeg) = ((-1)) → vp_in x3 4 ∧ ((¬ (gA u0 9 x3.toNatClampNeg) = ((-1)) → vp_in x1 4 ∧ (vp_in x3 4 ∧ (((gA u0 8 x1.toNatClampNeg) = (gA u0 8 x3.toNatClampNeg) → qX11_liesInRow u0 x1 x2 x5 (fun r63 v63_0 => (r63 = 0 ∨ r63 = 1) → (r63 = 0 → Q ((-7)) v63_0) ∧ (¬ r63 = 0 → qX11_liesInRow v63_0 x3 x4 x5 (fun r75 v75_0 => (r75 = 0 ∨ r75 = 1) → (¬ r75 = 0 → cpyOK ((x1 * 60) + x2) ((x3 * 60) + x4) x5 240 240 ∧ (∀ w107 : Md, w107 = sL v75_0 7 (va_cpy (gL v75_0 7) (gL v75_0 7) ((x1 * 60) + x2).toNatClampNeg ((x3 * 60) + x4).toNatClampNeg x5.toNatClampNeg) → Q 0 w107)) ∧ (r75 = 0 → Q ((-7)) v75_0))))) ∧ (¬ (gA u0 8 x1.toNatClampNeg) = (gA u0 8 x3.toNatClampNeg) → Q ((-8)) u0)))) ∧ ((gA u0 9 x3.toNatClampNeg) = ((-1)) → Q ((-6)) u0))))) ∧ (r8 = 0 → Q ((-2)) u0))))
def qX12_in (x0 : Int64) (x1 : Int64) (x2 : Int64) (Q : Int32 → Prop) : Prop :=
  ((lg_cmp x0 x1) < 0 → Q 0) ∧ (¬ (lg_cmp x0 x1) < 0 → (0 < (lg_cmp x0 x2) → Q 0) ∧ (¬ 0 < (lg_cmp x0 x2) → Q 1))
def qX12_keep_17 (Q : Int32 → Md → Prop) : Nat → Md → Int32 → Int32 → Prop
  | 0 => fun _ _ _ => False
  | n + 1 => fun u0 y1 y2 =>
  (11570 ≤ y2 → vp_in y1 3 ∧ (∀ w54 : Md, w54 = tZ u0 3 y1 1 → Q 0 w54)) ∧ (¬ 11570 ≤ y2 → vp_in y2 11570 ∧ (vp_in ((11570 * y1) + y2) 34710 ∧ (∀ w41 : Md, w41 = tA u0 2 ((11570 * y1) + y2) (gA u0 1 y2.toNatClampNeg) → qX12_keep_17 Q n w41 y1 (y2 + Int32.ofInt 1))))
def qX12_keep (u0 : Md) (x1 : Int32) (Q : Int32 → Md → Prop) : Prop :=
  qX12_in x1.toInt64 0 2 (fun r6 => (r6 = 0 ∨ r6 = 1) → (¬ r6 = 0 → ∃ n' : Nat, qX12_keep_17 Q n' u0 x1 0) ∧ (r6 = 0 → Q ((-2)) u0))
def qX12_back_29 (Q : Int32 → Md → Prop) : Nat → Md → Int32 → Int32 → Prop
  | 0 => fun _ _ _ => False
  | n + 1 => fun u0 y1 y2 =>
  (11570 ≤ y2 → Q 0 u0) ∧ (¬ 11570 ≤ y2 → vp_in ((11570 * y1) + y2) 34710 ∧ (vp_in y2 11570 ∧ (∀ w53 : Md, w53 = tA u0 1 y2 (gA u0 2 ((11570 * y1) + y2).toNatClampNeg) → qX12_back_29 Q n w53 y1 (y2 + Int32.ofInt 1))))
def qX12_back (u0 : Md) (x1 : Int32) (Q : Int32 → Md → Prop) : Prop :=
  qX12_in x1.toInt64 0 2 (fun r6 => (r6 = 0 ∨ r6 = 1) → (¬ r6 = 0 → vp_in x1 3 ∧ ((¬ (if gZ u0 3 x1.toNatClampNeg then (1 : Int32) else 0) = 0 → ∃ n' : Nat, qX12_back_29 Q n' u0 x1 0) ∧ ((if gZ u0 3 x1.toNatClampNeg then (1 : Int32) else 0) = 0 → Q ((-6)) u0))) ∧ (r6 = 0 → Q ((-2)) u0))
def qX12_now (u0 : Md) (Q : Int32 → Md → Prop) : Prop :=
  vp_in 0 11570 ∧ (Q (gA u0 1 (0 : Int32).toNatClampNeg) u0)
def qX12_isPlace (u0 : Md) (x1 : Int32) (Q : Int32 → Md → Prop) : Prop :=
  vp_in 1 11570 ∧ (qX12_in x1.toInt64 0 (((gA u0 1 (1 : Int32).toNatClampNeg) - 1).toInt64) (fun r12 => (r12 = 0 ∨ r12 = 1) → Q r12 u0))
def qX12_isName (u0 : Md) (x1 : Int32) (Q : Int32 → Md → Prop) : Prop :=
  vp_in 2 11570 ∧ (qX12_in x1.toInt64 0 (((gA u0 1 (2 : Int32).toNatClampNeg) - 1).toInt64) (fun r12 => (r12 = 0 ∨ r12 = 1) → Q r12 u0))
def qX12_isTongue (x0 : Int32) (Q : Int32 → Prop) : Prop :=
  qX12_in x0.toInt64 0 2 (fun r6 => (r6 = 0 ∨ r6 = 1) → Q r6)
def qX12_isYear (x0 : Int32) (Q : Int32 → Prop) : Prop :=
  qX12_in x0.toInt64 0 399 (fun r6 => (r6 = 0 ∨ r6 = 1) → Q r6)
def qX12_nameIs (u0 : Md) (x1 : Int32) (x2 : Int32) (Q : Int32 → Md → Prop) : Prop :=
  vp_in ((90 + (16 * x1)) + x2) 11570 ∧ (Q (gA u0 1 ((90 + (16 * x1)) + x2).toNatClampNeg) u0)
def qX12_feed_55 (Q : Int32 → Md → Prop) : Nat → Md → Int32 → Prop
  | 0 => fun _ _ => False
  | n + 1 => fun u0 y6 =>
  (20 ≤ y6 → ∀ w109 : Md, w109 = sF u0 5 ((gF u0 5) + 20) → Q (gF w109 5) w109) ∧ (¬ 20 ≤ y6 → vp_in (y6 / 4) 5 ∧ (vp_in ((gF u0 5) + y6) 500 ∧ (∀ w94 : Md, w94 = tB u0 4 ((gF u0 5) + y6) (((gA u0 6 (y6 / 4).toNatClampNeg) >>> ((24 - (8 * (y6 - y6 / 4 * 4))) &&& 31)).toInt8.toInt32) → qX12_feed_55 Q n w94 (y6 + Int32.ofInt 1))))
def qX12_feed (u0 : Md) (x1 : Int32) (x2 : Int32) (x3 : Int32) (x4 : Int32) (x5 : Int32) (Q : Int32 → Md → Prop) : Prop :=
  (((gF u0 5) + 20) ≤ 500 → vp_in 0 5 ∧ (∀ w21 : Md, w21 = tA u0 6 0 x1 → vp_in 1 5 ∧ (∀ w28 : Md, w28 = tA w21 6 1 x2 → vp_in 2 5 ∧ (∀ w35 : Md, w35 = tA w28 6 2 x3 → vp_in 3 5 ∧ (∀ w43 : Md, w43 = tA w35 6 3 x4 → vp_in 4 5 ∧ (∀ w51 : Md, w51 = tA w43 6 4 x5 → ∃ n' : Nat, qX12_feed_55 Q n' w51 0)))))) ∧ (¬ ((gF u0 5) + 20) ≤ 500 → Q ((-1)) u0)
def qX12_end (u0 : Md) (x1 : Int32) (Q : Int32 → Md → Prop) : Prop :=
  qX12_in x1.toInt64 0 ((gF u0 5).toInt64) (fun r8 => (r8 = 0 ∨ r8 = 1) → (¬ r8 = 0 → ∀ w18 : Md, w18 = sF u0 5 x1 → Q x1 w18) ∧ (r8 = 0 → Q ((-1)) u0))
def qX12_isLetters_18 (Q : Int32 → Md → Prop) : Nat → Md → Int32 → Prop
  | 0 => fun _ _ => False
  | n + 1 => fun u0 y2 =>
  ((gF u0 5) ≤ y2 → Q 1 u0) ∧ (¬ (gF u0 5) ≤ y2 → vp_in y2 500 ∧ (qX12_in (((gB u0 4 y2.toNatClampNeg).toInt32).toInt64) 97 122 (fun r39 => (r39 = 0 ∨ r39 = 1) → (¬ r39 = 0 → qX12_isLetters_18 Q n u0 (y2 + Int32.ofInt 1)) ∧ (r39 = 0 → Q 0 u0))))
def qX12_isLetters (u0 : Md) (x1 : Int32) (Q : Int32 → Md → Prop) : Prop :=
  qX12_in ((gF u0 5).toInt64) 1 x1.toInt64 (fun r8 => (r8 = 0 ∨ r8 = 1) → (¬ r8 = 0 → ∃ n' : Nat, qX12_isLetters_18 Q n' u0 0) ∧ (r8 = 0 → Q 0 u0))
def qX12_next (u0 : Md) (x1 : Int32) (Q : Int32 → Md → Prop) : Prop :=
  qX12_in x1.toInt64 0 399 (fun r6 => (r6 = 0 ∨ r6 = 1) → (r6 = 0 → Q ((-1)) u0) ∧ (¬ r6 = 0 → qX12_now u0 (fun r13 v13_0 => ((r13 + x1) ≤ 399 → vp_in 0 11570 ∧ (vp_in 0 11570 ∧ (∀ w35 : Md, w35 = tA v13_0 1 0 ((gA v13_0 1 (0 : Int32).toNatClampNeg) + x1) → qX12_now w35 (fun r37 v37_0 => Q r37 v37_0)))) ∧ (¬ (r13 + x1) ≤ 399 → Q ((-1)) v13_0))))
def qX12_place (u0 : Md) (x1 : Int32) (x2 : Int32) (Q : Int32 → Md → Prop) : Prop :=
  qX12_in x1.toInt64 0 999 (fun r6 => (r6 = 0 ∨ r6 = 1) → (r6 = 0 → Q ((-2)) u0) ∧ (¬ r6 = 0 → qX12_in x2.toInt64 0 999 (fun r18 => (r18 = 0 ∨ r18 = 1) → (¬ r18 = 0 → vp_in 1 11570 ∧ ((¬ (gA u0 1 (1 : Int32).toNatClampNeg) = 40 → vp_in (10 + (2 * (gA u0 1 (1 : Int32).toNatClampNeg))) 11570 ∧ (∀ w54 : Md, w54 = tA u0 1 (10 + (2 * (gA u0 1 (1 : Int32).toNatClampNeg))) x1 → vp_in ((10 + (2 * (gA u0 1 (1 : Int32).toNatClampNeg))) + 1) 11570 ∧ (∀ w68 : Md, w68 = tA w54 1 ((10 + (2 * (gA u0 1 (1 : Int32).toNatClampNeg))) + 1) x2 → vp_in 1 11570 ∧ (vp_in 1 11570 ∧ (∀ w78 : Md, w78 = tA w68 1 1 ((gA w68 1 (1 : Int32).toNatClampNeg) + 1) → Q (gA u0 1 (1 : Int32).toNatClampNeg) w78))))) ∧ ((gA u0 1 (1 : Int32).toNatClampNeg) = 40 → Q ((-3)) u0))) ∧ (r18 = 0 → Q ((-2)) u0))))
def qX12_addsUp_42 (Q : Md → Prop) (K23 : Md → Int32 → Prop) (K35 : Md → Int32 → Int32 → Prop) : Nat → Md → Int32 → Int32 → Int32 → Prop
  | 0 => fun _ _ _ _ => False
  | n + 1 => fun u0 y1 y2 y3 =>
  (3 ≤ y3 → vp_in y2 40 ∧ (K35 u0 y1 (gA u0 7 y2.toNatClampNeg))) ∧ (¬ 3 ≤ y3 → vp_in ((3 * y2) + y3) 120 ∧ (vp_in ((3 * y1) + y3) 120 ∧ (vp_in ((3 * y2) + y3) 120 ∧ (∀ w69 : Md, w69 = tA u0 9 ((3 * y2) + y3) ((gA u0 9 ((3 * y2) + y3).toNatClampNeg) + (gA u0 8 ((3 * y1) + y3).toNatClampNeg)) → qX12_addsUp_42 Q K23 K35 n w69 y1 y2 (y3 + Int32.ofInt 1)))))
def qX12_addsUp_35 (Q : Md → Prop) (K23 : Md → Int32 → Prop) : Nat → Md → Int32 → Int32 → Prop
  | 0 => fun _ _ _ => False
  | n + 1 => fun u0 y1 y2 =>
  (y2 = ((-1)) → K23 u0 (y1 + Int32.ofInt 1)) ∧ (¬ y2 = ((-1)) → ∃ n' : Nat, qX12_addsUp_42 Q K23 (qX12_addsUp_35 Q K23 n) n' u0 y1 y2 0)
def qX12_addsUp_23 (Q : Md → Prop) : Nat → Md → Int32 → Prop
  | 0 => fun _ _ => False
  | n + 1 => fun u0 y1 =>
  vp_in 1 11570 ∧ (((gA u0 1 (1 : Int32).toNatClampNeg) ≤ y1 → Q u0) ∧ (¬ (gA u0 1 (1 : Int32).toNatClampNeg) ≤ y1 → ∃ n' : Nat, qX12_addsUp_35 Q (qX12_addsUp_23 Q n) n' u0 y1 y1))
def qX12_addsUp_2 (Q : Md → Prop) : Nat → Md → Int32 → Prop
  | 0 => fun _ _ => False
  | n + 1 => fun u0 y1 =>
  (120 ≤ y1 → ∃ n' : Nat, qX12_addsUp_23 Q n' u0 0) ∧ (¬ 120 ≤ y1 → vp_in y1 120 ∧ (∀ w14 : Md, w14 = tA u0 9 y1 0 → qX12_addsUp_2 Q n w14 (y1 + Int32.ofInt 1)))
def qX12_addsUp (u0 : Md) (Q : Md → Prop) : Prop :=
  ∃ n' : Nat, qX12_addsUp_2 Q n' u0 0
def qX12_looks_112 (Q : Md → Prop) : Nat → Md → Int32 → Int32 → Prop
  | 0 => fun _ _ _ => False
  | n + 1 => fun u0 y1 y2 =>
  vp_in 6 11570 ∧ (((gA u0 1 (6 : Int32).toNatClampNeg) ≤ y2 → qX12_addsUp u0 (fun v196_0 => Q v196_0)) ∧ (¬ (gA u0 1 (6 : Int32).toNatClampNeg) ≤ y2 → vp_in ((6690 + (4 * y2)) + 3) 11570 ∧ ((y1 < (gA u0 1 ((6690 + (4 * y2)) + 3).toNatClampNeg) → qX12_looks_112 Q n u0 y1 (y2 + Int32.ofInt 1)) ∧ (¬ y1 < (gA u0 1 ((6690 + (4 * y2)) + 3).toNatClampNeg) → vp_in (6690 + (4 * y2)) 11570 ∧ (vp_in ((6690 + (4 * y2)) + 1) 11570 ∧ (vp_in ((6690 + (4 * y2)) + 2) 11570 ∧ (vp_in ((3 * (gA u0 1 (6690 + (4 * y2)).toNatClampNeg)) + (gA u0 1 ((6690 + (4 * y2)) + 1).toNatClampNeg)) 120 ∧ (∀ w188 : Md, w188 = tA u0 8 ((3 * (gA u0 1 (6690 + (4 * y2)).toNatClampNeg)) + (gA u0 1 ((6690 + (4 * y2)) + 1).toNatClampNeg)) (gA u0 1 ((6690 + (4 * y2)) + 2).toNatClampNeg) → qX12_looks_112 Q n w188 y1 (y2 + Int32.ofInt 1)))))))))
def qX12_looks_44 (Q : Md → Prop) : Nat → Md → Int32 → Int32 → Prop
  | 0 => fun _ _ _ => False
  | n + 1 => fun u0 y1 y2 =>
  vp_in 8 11570 ∧ (((gA u0 1 (8 : Int32).toNatClampNeg) ≤ y2 → ∃ n' : Nat, qX12_looks_112 Q n' u0 y1 0) ∧ (¬ (gA u0 1 (8 : Int32).toNatClampNeg) ≤ y2 → vp_in ((7610 + (3 * y2)) + 2) 11570 ∧ ((y1 < (gA u0 1 ((7610 + (3 * y2)) + 2).toNatClampNeg) → qX12_looks_44 Q n u0 y1 (y2 + Int32.ofInt 1)) ∧ (¬ y1 < (gA u0 1 ((7610 + (3 * y2)) + 2).toNatClampNeg) → vp_in (7610 + (3 * y2)) 11570 ∧ (vp_in ((7610 + (3 * y2)) + 1) 11570 ∧ (vp_in (gA u0 1 (7610 + (3 * y2)).toNatClampNeg) 40 ∧ (∀ w103 : Md, w103 = tA u0 7 (gA u0 1 (7610 + (3 * y2)).toNatClampNeg) (gA u0 1 ((7610 + (3 * y2)) + 1).toNatClampNeg) → qX12_looks_44 Q n w103 y1 (y2 + Int32.ofInt 1))))))))
def qX12_looks_23 (Q : Md → Prop) : Nat → Md → Int32 → Int32 → Prop
  | 0 => fun _ _ _ => False
  | n + 1 => fun u0 y1 y2 =>
  (120 ≤ y2 → ∃ n' : Nat, qX12_looks_44 Q n' u0 y1 0) ∧ (¬ 120 ≤ y2 → vp_in y2 120 ∧ (∀ w35 : Md, w35 = tA u0 8 y2 0 → qX12_looks_23 Q n w35 y1 (y2 + Int32.ofInt 1)))
def qX12_looks_2 (Q : Md → Prop) : Nat → Md → Int32 → Int32 → Prop
  | 0 => fun _ _ _ => False
  | n + 1 => fun u0 y1 y2 =>
  (40 ≤ y2 → ∃ n' : Nat, qX12_looks_23 Q n' u0 y1 0) ∧ (¬ 40 ≤ y2 → vp_in y2 40 ∧ (∀ w14 : Md, w14 = tA u0 7 y2 ((-1)) → qX12_looks_2 Q n w14 y1 (y2 + Int32.ofInt 1)))
def qX12_looks (u0 : Md) (x1 : Int32) (Q : Md → Prop) : Prop :=
  ∃ n' : Nat, qX12_looks_2 Q n' u0 x1 0
def qX12_part_39 (Q : Int32 → Md → Prop) : Nat → Md → Int32 → Int32 → Int32 → Prop
  | 0 => fun _ _ _ _ => False
  | n + 1 => fun u0 y1 y2 y3 =>
  (y3 = ((-1)) → vp_in 8 11570 ∧ (vp_in (7610 + (3 * (gA u0 1 (8 : Int32).toNatClampNeg))) 11570 ∧ (∀ w82 : Md, w82 = tA u0 1 (7610 + (3 * (gA u0 1 (8 : Int32).toNatClampNeg))) y1 → vp_in ((7610 + (3 * (gA u0 1 (8 : Int32).toNatClampNeg))) + 1) 11570 ∧ (∀ w91 : Md, w91 = tA w82 1 ((7610 + (3 * (gA u0 1 (8 : Int32).toNatClampNeg))) + 1) y2 → qX12_now w91 (fun r100 v100_0 => vp_in ((7610 + (3 * (gA u0 1 (8 : Int32).toNatClampNeg))) + 2) 11570 ∧ (∀ w103 : Md, w103 = tA v100_0 1 ((7610 + (3 * (gA u0 1 (8 : Int32).toNatClampNeg))) + 2) r100 → vp_in 8 11570 ∧ (vp_in 8 11570 ∧ (∀ w114 : Md, w114 = tA w103 1 8 ((gA w103 1 (8 : Int32).toNatClampNeg) + 1) → Q 0 w114)))))))) ∧ (¬ y3 = ((-1)) → (¬ y3 = y1 → vp_in y3 40 ∧ (qX12_part_39 Q n u0 y1 y2 (gA u0 7 y3.toNatClampNeg))) ∧ (y3 = y1 → Q ((-5)) u0))
def qX12_part_21 (Q : Int32 → Md → Prop) (u0 : Md) (y1 : Int32) (y2 : Int32) : Prop :=
  (¬ y1 = y2 → qX12_now u0 (fun r31 v31_0 => qX12_looks v31_0 r31 (fun v34_0 => ∃ n' : Nat, qX12_part_39 Q n' v34_0 y1 y2 y2))) ∧ (y1 = y2 → Q ((-2)) u0)
def qX12_part (u0 : Md) (x1 : Int32) (x2 : Int32) (Q : Int32 → Md → Prop) : Prop :=
  qX12_isPlace u0 x1 (fun r2 v2_0 => (r2 = 0 ∨ r2 = 1) → (r2 = 0 → Q ((-2)) v2_0) ∧ (¬ r2 = 0 → (x2 = ((-1)) → qX12_part_21 Q v2_0 x1 x2) ∧ (¬ x2 = ((-1)) → qX12_isPlace v2_0 x2 (fun r15 v15_0 => (r15 = 0 ∨ r15 = 1) → (r15 = 0 → Q ((-2)) v15_0) ∧ (¬ r15 = 0 → qX12_part_21 Q v15_0 x1 x2)))))
def qX12_people_35 (Q : Int32 → Md → Prop) : Nat → Md → Int32 → Int32 → Int32 → Int32 → Prop
  | 0 => fun _ _ _ _ _ => False
  | n + 1 => fun u0 y1 y2 y3 y4 =>
  vp_in 6 11570 ∧ (((6690 + (4 * (gA u0 1 (6 : Int32).toNatClampNeg))) ≤ y4 → vp_in 6 11570 ∧ ((¬ (gA u0 1 (6 : Int32).toNatClampNeg) = 200 → vp_in 6 11570 ∧ (vp_in (6690 + (4 * (gA u0 1 (6 : Int32).toNatClampNeg))) 11570 ∧ (∀ w152 : Md, w152 = tA u0 1 (6690 + (4 * (gA u0 1 (6 : Int32).toNatClampNeg))) y1 → vp_in ((6690 + (4 * (gA u0 1 (6 : Int32).toNatClampNeg))) + 1) 11570 ∧ (∀ w162 : Md, w162 = tA w152 1 ((6690 + (4 * (gA u0 1 (6 : Int32).toNatClampNeg))) + 1) y2 → vp_in ((6690 + (4 * (gA u0 1 (6 : Int32).toNatClampNeg))) + 2) 11570 ∧ (∀ w172 : Md, w172 = tA w162 1 ((6690 + (4 * (gA u0 1 (6 : Int32).toNatClampNeg))) + 2) y3 → qX12_now w172 (fun r182 v182_0 => vp_in ((6690 + (4 * (gA u0 1 (6 : Int32).toNatClampNeg))) + 3) 11570 ∧ (∀ w185 : Md, w185 = tA v182_0 1 ((6690 + (4 * (gA u0 1 (6 : Int32).toNatClampNeg))) + 3) r182 → vp_in 6 11570 ∧ (vp_in 6 11570 ∧ (∀ w196 : Md, w196 = tA w185 1 6 ((gA w185 1 (6 : Int32).toNatClampNeg) + 1) → Q 0 w196))))))))) ∧ ((gA u0 1 (6 : Int32).toNatClampNeg) = 200 → Q ((-3)) u0))) ∧ (¬ (6690 + (4 * (gA u0 1 (6 : Int32).toNatClampNeg))) ≤ y4 → vp_in y4 11570 ∧ ((¬ (gA u0 1 y4.toNatClampNeg) = y1 → qX12_people_35 Q n u0 y1 y2 y3 (y4 + Int32.ofInt 4)) ∧ ((gA u0 1 y4.toNatClampNeg) = y1 → vp_in (y4 + 1) 11570 ∧ ((¬ (gA u0 1 (y4 + 1).toNatClampNeg) = y2 → qX12_people_35 Q n u0 y1 y2 y3 (y4 + Int32.ofInt 4)) ∧ ((gA u0 1 (y4 + 1).toNatClampNeg) = y2 → vp_in (y4 + 3) 11570 ∧ (qX12_now u0 (fun r87 v87_0 => ((gA u0 1 (y4 + 3).toNatClampNeg) = r87 → vp_in (y4 + 2) 11570 ∧ (∀ w105 : Md, w105 = tA v87_0 1 (y4 + 2) y3 → Q 0 w105)) ∧ (¬ (gA u0 1 (y4 + 3).toNatClampNeg) = r87 → qX12_people_35 Q n v87_0 y1 y2 y3 (y4 + Int32.ofInt 4))))))))))
def qX12_people (u0 : Md) (x1 : Int32) (x2 : Int32) (x3 : Int32) (Q : Int32 → Md → Prop) : Prop :=
  qX12_isPlace u0 x1 (fun r2 v2_0 => (r2 = 0 ∨ r2 = 1) → (r2 = 0 → Q ((-2)) v2_0) ∧ (¬ r2 = 0 → qX12_isTongue x2 (fun r9 => (r9 = 0 ∨ r9 = 1) → (r9 = 0 → Q ((-2)) v2_0) ∧ (¬ r9 = 0 → qX12_in x3.toInt64 0 2000 (fun r21 => (r21 = 0 ∨ r21 = 1) → (¬ r21 = 0 → ∃ n' : Nat, qX12_people_35 Q n' v2_0 x1 x2 x3 6690) ∧ (r21 = 0 → Q ((-2)) v2_0))))))
def qX12_allOf (u0 : Md) (x1 : Int32) (Q : Int32 → Md → Prop) : Prop :=
  vp_in (3 * x1) 120 ∧ (vp_in ((3 * x1) + 1) 120 ∧ (vp_in ((3 * x1) + 2) 120 ∧ (Q (((gA u0 9 (3 * x1).toNatClampNeg) + (gA u0 9 ((3 * x1) + 1).toNatClampNeg)) + (gA u0 9 ((3 * x1) + 2).toNatClampNeg)) u0)))
def qX12_live_20 (Q : Int32 → Md → Prop) (u0 : Md) (y1 : Int32) (y2 : Int32) (y3 : Int32) (y4 : Int32) : Prop :=
  qX12_isYear y3 (fun r21 => (r21 = 0 ∨ r21 = 1) → (r21 = 0 → Q ((-2)) u0) ∧ (¬ r21 = 0 → qX12_isYear y4 (fun r29 => (r29 = 0 ∨ r29 = 1) → (¬ r29 = 0 → qX12_looks u0 (imin y3 y4) (fun v45_0 => (¬ y2 = ((-1)) → vp_in ((3 * y1) + y2) 120 ∧ (Q (gA v45_0 9 ((3 * y1) + y2).toNatClampNeg) v45_0)) ∧ (y2 = ((-1)) → qX12_allOf v45_0 y1 (fun r55 v55_0 => Q r55 v55_0)))) ∧ (r29 = 0 → Q ((-2)) u0))))
def qX12_live (u0 : Md) (x1 : Int32) (x2 : Int32) (x3 : Int32) (x4 : Int32) (Q : Int32 → Md → Prop) : Prop :=
  qX12_isPlace u0 x1 (fun r2 v2_0 => (r2 = 0 ∨ r2 = 1) → (r2 = 0 → Q ((-2)) v2_0) ∧ (¬ r2 = 0 → (x2 = ((-1)) → qX12_live_20 Q v2_0 x1 x2 x3 x4) ∧ (¬ x2 = ((-1)) → qX12_isTongue x2 (fun r14 => (r14 = 0 ∨ r14 = 1) → (r14 = 0 → Q ((-2)) v2_0) ∧ (¬ r14 = 0 → qX12_live_20 Q v2_0 x1 x2 x3 x4)))))
def qX12_name_124 (Q : Int32 → Md → Prop) : Nat → Md → Int32 → Int32 → Int32 → Prop
  | 0 => fun _ _ _ _ => False
  | n + 1 => fun u0 y4 y5 y6 =>
  ((gF u0 5) ≤ y6 → ∀ w160 : Md, w160 = sF u0 5 0 → vp_in 2 11570 ∧ (vp_in 2 11570 ∧ (∀ w172 : Md, w172 = tA w160 1 2 ((gA w160 1 (2 : Int32).toNatClampNeg) + 1) → Q y4 w172))) ∧ (¬ (gF u0 5) ≤ y6 → vp_in y6 500 ∧ (vp_in ((y5 + 4) + y6) 11570 ∧ (∀ w151 : Md, w151 = tA u0 1 ((y5 + 4) + y6) ((gB u0 4 y6.toNatClampNeg).toInt32) → qX12_name_124 Q n w151 y4 y5 (y6 + Int32.ofInt 1))))
def qX12_name_40 (Q : Int32 → Md → Prop) (u0 : Md) (y1 : Int32) (y2 : Int32) (y3 : Int32) : Prop :=
  qX12_isLetters u0 12 (fun r43 v43_0 => (r43 = 0 ∨ r43 = 1) → (¬ r43 = 0 → vp_in 2 11570 ∧ ((¬ (gA v43_0 1 (2 : Int32).toNatClampNeg) = 80 → vp_in (90 + (16 * (gA v43_0 1 (2 : Int32).toNatClampNeg))) 11570 ∧ (∀ w87 : Md, w87 = tA v43_0 1 (90 + (16 * (gA v43_0 1 (2 : Int32).toNatClampNeg))) y1 → vp_in ((90 + (16 * (gA v43_0 1 (2 : Int32).toNatClampNeg))) + 1) 11570 ∧ (∀ w97 : Md, w97 = tA w87 1 ((90 + (16 * (gA v43_0 1 (2 : Int32).toNatClampNeg))) + 1) y2 → vp_in ((90 + (16 * (gA v43_0 1 (2 : Int32).toNatClampNeg))) + 2) 11570 ∧ (∀ w107 : Md, w107 = tA w97 1 ((90 + (16 * (gA v43_0 1 (2 : Int32).toNatClampNeg))) + 2) y3 → vp_in ((90 + (16 * (gA v43_0 1 (2 : Int32).toNatClampNeg))) + 3) 11570 ∧ (∀ w120 : Md, w120 = tA w107 1 ((90 + (16 * (gA v43_0 1 (2 : Int32).toNatClampNeg))) + 3) (gF w107 5) → ∃ n' : Nat, qX12_name_124 Q n' w120 (gA v43_0 1 (2 : Int32).toNatClampNeg) (90 + (16 * (gA v43_0 1 (2 : Int32).toNatClampNeg))) 0))))) ∧ ((gA v43_0 1 (2 : Int32).toNatClampNeg) = 80 → Q ((-3)) v43_0))) ∧ (r43 = 0 → Q ((-2)) v43_0))
def qX12_name (u0 : Md) (x1 : Int32) (x2 : Int32) (x3 : Int32) (Q : Int32 → Md → Prop) : Prop :=
  qX12_isPlace u0 x1 (fun r2 v2_0 => (r2 = 0 ∨ r2 = 1) → (r2 = 0 → Q ((-2)) v2_0) ∧ (¬ r2 = 0 → qX12_isTongue x2 (fun r9 => (r9 = 0 ∨ r9 = 1) → (r9 = 0 → Q ((-2)) v2_0) ∧ (¬ r9 = 0 → (x3 = ((-1)) → qX12_name_40 Q v2_0 x1 x2 x3) ∧ (¬ x3 = ((-1)) → (x3 = ((-9)) → qX12_name_40 Q v2_0 x1 x2 x3) ∧ (¬ x3 = ((-9)) → qX12_now v2_0 (fun r30 v30_0 => qX12_in x3.toInt64 0 r30.toInt64 (fun r34 => (r34 = 0 ∨ r34 = 1) → (r34 = 0 → Q ((-2)) v30_0) ∧ (¬ r34 = 0 → qX12_name_40 Q v30_0 x1 x2 x3)))))))))
def qX12_see (u0 : Md) (x1 : Int32) (Q : Int32 → Md → Prop) : Prop :=
  ((gF u0 10) ≤ x1 → Q ((-1)) u0) ∧ (¬ (gF u0 10) ≤ x1 → vp_in x1 500 ∧ (Q (((gB u0 4 x1.toNatClampNeg).toInt32) &&& 255) u0))
def qX12_next__26 (Q : Md → Prop) (K0 : Md → Prop) (u0 : Md) : Prop :=
  ∀ w33 : Md, w33 = sF u0 11 ((gF u0 11) + 1) → K0 w33
def qX12_next__285 (Q : Md → Prop) (u0 : Md) (z0 : Int32) : Prop :=
  ∀ w285 : Md, w285 = sF u0 13 z0 → ∀ w295 : Md, w295 = sF w285 11 ((gF w285 11) + 1) → Q w295
def qX12_next__280 (Q : Md → Prop) (u0 : Md) : Prop :=
  qX12_next__285 Q u0 3
def qX12_next__284 (Q : Md → Prop) (u0 : Md) : Prop :=
  qX12_next__285 Q u0 4
def qX12_next__250 (Q : Md → Prop) (u0 : Md) (y1 : Int32) (z0 : Int32) : Prop :=
  ∀ w253 : Md, w253 = sF u0 14 y1 → (¬ z0 = 0 → qX12_next__280 Q w253) ∧ (z0 = 0 → ((gF w253 17) = 0 → qX12_next__284 Q w253) ∧ (¬ (gF w253 17) = 0 → (y1 = 60 → qX12_next__280 Q w253) ∧ (¬ y1 = 60 → (¬ y1 = 61 → qX12_next__284 Q w253) ∧ (y1 = 61 → qX12_next__280 Q w253))))
def qX12_next__245 (Q : Md → Prop) (u0 : Md) (y1 : Int32) : Prop :=
  qX12_next__250 Q u0 y1 1
def qX12_next__221 (Q : Md → Prop) (u0 : Md) (y1 : Int32) : Prop :=
  (y1 = 62 → qX12_next__245 Q u0 y1) ∧ (¬ y1 = 62 → (y1 = 59 → qX12_next__245 Q u0 y1) ∧ (¬ y1 = 59 → (y1 = 35 → qX12_next__245 Q u0 y1) ∧ (¬ y1 = 35 → (¬ y1 = 45 → qX12_next__250 Q u0 y1 0) ∧ (y1 = 45 → qX12_next__245 Q u0 y1))))
def qX12_next__151 (Q : Md → Prop) : Nat → Md → Prop
  | 0 => fun _ => False
  | n + 1 => fun u0 =>
  qX12_see u0 (gF u0 11) (fun r156 v156_0 => qX12_in r156.toInt64 48 57 (fun r166 => (r166 = 0 ∨ r166 = 1) → (r166 = 0 → ∀ w215 : Md, w215 = sF v156_0 13 2 → Q w215) ∧ (¬ r166 = 0 → qX12_see v156_0 (gF v156_0 11) (fun r187 v187_0 => ∀ w197 : Md, w197 = sF v187_0 14 (imin 99999 (((10 * (gF v156_0 14)) + r187) - 48)) → ∀ w207 : Md, w207 = sF w197 11 ((gF w197 11) + 1) → qX12_next__151 Q n w207))))
def qX12_next__83 (Q : Md → Prop) : Nat → Md → Prop
  | 0 => fun _ => False
  | n + 1 => fun u0 =>
  qX12_see u0 (gF u0 11) (fun r88 v88_0 => qX12_in r88.toInt64 97 122 (fun r98 => (r98 = 0 ∨ r98 = 1) → (r98 = 0 → ∀ w119 : Md, w119 = sF v88_0 13 1 → Q w119) ∧ (¬ r98 = 0 → ∀ w111 : Md, w111 = sF v88_0 11 ((gF v88_0 11) + 1) → qX12_next__83 Q n w111)))
def qX12_next__0 (Q : Md → Prop) : Nat → Md → Prop
  | 0 => fun _ => False
  | n + 1 => fun u0 =>
  qX12_see u0 (gF u0 11) (fun r5 v5_0 => (r5 = 32 → qX12_next__26 Q (qX12_next__0 Q n) v5_0) ∧ (¬ r5 = 32 → qX12_see v5_0 (gF v5_0 11) (fun r18 v18_0 => (¬ r18 = 10 → ∀ w44 : Md, w44 = sF v18_0 12 (gF v18_0 11) → qX12_see w44 (gF w44 11) (fun r52 v52_0 => (¬ r52 = ((-1)) → qX12_in r52.toInt64 97 122 (fun r77 => (r77 = 0 ∨ r77 = 1) → (r77 = 0 → ((gF v52_0 17) = 0 → qX12_next__221 Q v52_0 r52) ∧ (¬ (gF v52_0 17) = 0 → qX12_in r52.toInt64 48 57 (fun r140 => (r140 = 0 ∨ r140 = 1) → (r140 = 0 → qX12_next__221 Q v52_0 r52) ∧ (¬ r140 = 0 → ∀ w148 : Md, w148 = sF v52_0 14 0 → ∃ n' : Nat, qX12_next__151 Q n' w148)))) ∧ (¬ r77 = 0 → ∃ n' : Nat, qX12_next__83 Q n' v52_0))) ∧ (r52 = ((-1)) → ∀ w63 : Md, w63 = sF v52_0 13 0 → Q w63))) ∧ (r18 = 10 → qX12_next__26 Q (qX12_next__0 Q n) v18_0))))
def qX12_next_ (u0 : Md) (Q : Md → Prop) : Prop :=
  ∃ n' : Nat, qX12_next__0 Q n' u0
def qX12_begins (u0 : Md) (x1 : Int32) (Q : Md → Prop) : Prop :=
  (x1 = 0 ∨ x1 = 1) ∧ (∀ w2 : Md, w2 = sF u0 17 x1 → ∀ w10 : Md, w10 = sF w2 10 (gF w2 5) → ∀ w15 : Md, w15 = sF w10 5 0 → ∀ w20 : Md, w20 = sF w15 11 0 → ∀ w25 : Md, w25 = sF w20 15 0 → ∀ w30 : Md, w30 = sF w25 16 ((-1)) → qX12_next_ w30 (fun v34_0 => Q v34_0))
def qX12_good (u0 : Md) (Q : Int32 → Md → Prop) : Prop :=
  (¬ (gF u0 15) = 0 → Q 0 u0) ∧ ((gF u0 15) = 0 → Q 1 u0)
def qX12_wrong (u0 : Md) (x1 : Int32) (Q : Md → Prop) : Prop :=
  qX12_good u0 (fun r1 v1_0 => (r1 = 0 ∨ r1 = 1) → (¬ r1 = 0 → ∀ w10 : Md, w10 = sF v1_0 15 x1 → ∀ w18 : Md, w18 = sF w10 16 (gF w10 12) → Q w18) ∧ (r1 = 0 → Q v1_0))
def qX12_is_39 (k1 : Nat) (Q : Int32 → Md → Prop) : Nat → Md → Int32 → Int32 → Prop
  | 0 => fun _ _ _ => False
  | n + 1 => fun u0 y2 y3 =>
  ((Int32.ofNat (s_len.getD k1 0)) ≤ y3 → (y2 = 0 ∨ y2 = 1) ∧ (Q y2 u0)) ∧ (¬ (Int32.ofNat (s_len.getD k1 0)) ≤ y3 → (y2 = 0 → (y2 = 0 ∨ y2 = 1) ∧ (Q y2 u0)) ∧ (¬ y2 = 0 → vp_in ((gF u0 12) + y3) 500 ∧ (vp_in y3 (s_len.getD k1 0) ∧ ((¬ ((gB u0 4 ((gF u0 12) + y3).toNatClampNeg).toInt32) = ((s_byt.getD k1 []).getD y3.toNatClampNeg 0) → qX12_is_39 k1 Q n u0 0 (y3 + Int32.ofInt 1)) ∧ (((gB u0 4 ((gF u0 12) + y3).toNatClampNeg).toInt32) = ((s_byt.getD k1 []).getD y3.toNatClampNeg 0) → qX12_is_39 k1 Q n u0 1 (y3 + Int32.ofInt 1))))))
def qX12_is_35 (k1 : Nat) (Q : Int32 → Md → Prop) (u0 : Md) : Prop :=
  ∃ n' : Nat, qX12_is_39 k1 Q n' u0 0 0
def qX12_is (u0 : Md) (k1 : Nat) (Q : Int32 → Md → Prop) : Prop :=
  qX12_good u0 (fun r1 v1_0 => (r1 = 0 ∨ r1 = 1) → (r1 = 0 → qX12_is_35 k1 Q v1_0) ∧ (¬ r1 = 0 → (¬ (gF v1_0 13) = 1 → qX12_is_35 k1 Q v1_0) ∧ ((gF v1_0 13) = 1 → (¬ ((gF v1_0 11) - (gF v1_0 12)) = (Int32.ofNat (s_len.getD k1 0)) → qX12_is_35 k1 Q v1_0) ∧ (((gF v1_0 11) - (gF v1_0 12)) = (Int32.ofNat (s_len.getD k1 0)) → ∃ n' : Nat, qX12_is_39 k1 Q n' v1_0 1 0))))
def qX12_isSign (u0 : Md) (x1 : Int32) (Q : Int32 → Md → Prop) : Prop :=
  qX12_good u0 (fun r1 v1_0 => (r1 = 0 ∨ r1 = 1) → (r1 = 0 → Q 0 v1_0) ∧ (¬ r1 = 0 → (¬ (gF v1_0 13) = 3 → Q 0 v1_0) ∧ ((gF v1_0 13) = 3 → (¬ (gF v1_0 14) = x1 → Q 0 v1_0) ∧ ((gF v1_0 14) = x1 → Q 1 v1_0))))
def qX12_needSign_13 (Q : Md → Prop) (u0 : Md) : Prop :=
  qX12_good u0 (fun r14 v14_0 => (r14 = 0 ∨ r14 = 1) → (r14 = 0 → Q v14_0) ∧ (¬ r14 = 0 → qX12_next_ v14_0 (fun v21_0 => Q v21_0)))
def qX12_needSign (u0 : Md) (x1 : Int32) (Q : Md → Prop) : Prop :=
  qX12_isSign u0 x1 (fun r2 v2_0 => (r2 = 0 ∨ r2 = 1) → (¬ r2 = 0 → qX12_needSign_13 Q v2_0) ∧ (r2 = 0 → qX12_wrong v2_0 1 (fun v10_0 => qX12_needSign_13 Q v10_0)))
def qX12_takes (u0 : Md) (k1 : Nat) (Q : Int32 → Md → Prop) : Prop :=
  qX12_is u0 k1 (fun r2 v2_0 => (r2 = 0 ∨ r2 = 1) → (r2 = 0 → Q r2 v2_0) ∧ (¬ r2 = 0 → qX12_next_ v2_0 (fun v11_0 => Q r2 v11_0)))
def qX12_number_29 (Q : Int32 → Md → Prop) (u0 : Md) : Prop :=
  qX12_good u0 (fun r30 v30_0 => (r30 = 0 ∨ r30 = 1) → (¬ r30 = 0 → qX12_next_ v30_0 (fun v44_0 => Q (gF v30_0 14) v44_0)) ∧ (r30 = 0 → Q 0 v30_0))
def qX12_number (u0 : Md) (x1 : Int32) (Q : Int32 → Md → Prop) : Prop :=
  ((gF u0 13) = 2 → ((gF u0 14) ≤ x1 → qX12_number_29 Q u0) ∧ (¬ (gF u0 14) ≤ x1 → qX12_wrong u0 2 (fun v26_0 => qX12_number_29 Q v26_0))) ∧ (¬ (gF u0 13) = 2 → qX12_wrong u0 1 (fun v10_0 => qX12_number_29 Q v10_0))
def qX12_fault (u0 : Md) (x1 : Int32) (Q : Int32 → Md → Prop) : Prop :=
  (¬ x1 = 0 → (¬ x1 = 1 → Q ((-1)) u0) ∧ (x1 = 1 → Q (gF u0 16) u0)) ∧ (x1 = 0 → Q (gF u0 15) u0)
def qX12_isRuleWord (u0 : Md) (Q : Int32 → Md → Prop) : Prop :=
  qX12_good u0 (fun r1 v1_0 => (r1 = 0 ∨ r1 = 1) → (r1 = 0 → Q 0 v1_0) ∧ (¬ r1 = 0 → (¬ (gF v1_0 13) = 1 → Q 0 v1_0) ∧ ((gF v1_0 13) = 1 → (3 < ((gF v1_0 11) - (gF v1_0 12)) → Q 0 v1_0) ∧ (¬ 3 < ((gF v1_0 11) - (gF v1_0 12)) → Q 1 v1_0))))
def qX12_set_86 (Q : Md → Prop) : Nat → Md → Int32 → Int32 → Prop
  | 0 => fun _ _ _ => False
  | n + 1 => fun u0 y1 y2 =>
  ((gF u0 11) ≤ y2 → qX12_next_ u0 (fun v123_0 => Q v123_0)) ∧ (¬ (gF u0 11) ≤ y2 → vp_in (y1 + 1) 290 ∧ (vp_in y2 500 ∧ (vp_in (y1 + 1) 290 ∧ (∀ w115 : Md, w115 = tA u0 18 (y1 + 1) ((gA u0 18 (y1 + 1).toNatClampNeg) ||| ((1 : Int32) <<< ((((gB u0 4 y2.toNatClampNeg).toInt32) - 97) &&& 31))) → qX12_set_86 Q n w115 y1 (y2 + Int32.ofInt 1)))))
def qX12_set_66 (Q : Md → Prop) (u0 : Md) (y1 : Int32) : Prop :=
  qX12_good u0 (fun r67 v67_0 => (r67 = 0 ∨ r67 = 1) → (¬ r67 = 0 → vp_in y1 290 ∧ (∀ w80 : Md, w80 = tA v67_0 18 y1 2 → ∃ n' : Nat, qX12_set_86 Q n' w80 y1 (gF w80 12))) ∧ (r67 = 0 → Q v67_0))
def qX12_set_61 (Q : Md → Prop) (u0 : Md) (y1 : Int32) : Prop :=
  qX12_wrong u0 1 (fun v63_0 => qX12_set_66 Q v63_0 y1)
def qX12_set (u0 : Md) (x1 : Int32) (Q : Md → Prop) : Prop :=
  qX12_isSign u0 35 (fun r3 v3_0 => (r3 = 0 ∨ r3 = 1) → (r3 = 0 → (¬ (gF v3_0 13) = 1 → qX12_set_61 Q v3_0 x1) ∧ ((gF v3_0 13) = 1 → (26 < ((gF v3_0 11) - (gF v3_0 12)) → qX12_set_61 Q v3_0 x1) ∧ (¬ 26 < ((gF v3_0 11) - (gF v3_0 12)) → qX12_is v3_0 0 (fun r46 v46_0 => (r46 = 0 ∨ r46 = 1) → (¬ r46 = 0 → qX12_set_61 Q v46_0 x1) ∧ (r46 = 0 → qX12_is v46_0 1 (fun r55 v55_0 => (r55 = 0 ∨ r55 = 1) → (r55 = 0 → qX12_set_66 Q v55_0 x1) ∧ (¬ r55 = 0 → qX12_set_61 Q v55_0 x1))))))) ∧ (¬ r3 = 0 → vp_in x1 290 ∧ (∀ w15 : Md, w15 = tA v3_0 18 x1 1 → qX12_next_ w15 (fun v17_0 => Q v17_0))))
def qX12_ruleWord_40 (Q : Md → Prop) : Nat → Md → Int32 → Int32 → Prop
  | 0 => fun _ _ _ => False
  | n + 1 => fun u0 y1 y2 =>
  ((gF u0 11) ≤ y2 → qX12_next_ u0 (fun v76_0 => Q v76_0)) ∧ (¬ (gF u0 11) ≤ y2 → vp_in y2 500 ∧ (vp_in (((y1 + 1) + y2) - (gF u0 12)) 290 ∧ (∀ w68 : Md, w68 = tA u0 18 (((y1 + 1) + y2) - (gF u0 12)) ((gB u0 4 y2.toNatClampNeg).toInt32) → qX12_ruleWord_40 Q n w68 y1 (y2 + Int32.ofInt 1))))
def qX12_ruleWord_12 (Q : Md → Prop) (u0 : Md) (y1 : Int32) : Prop :=
  qX12_good u0 (fun r13 v13_0 => (r13 = 0 ∨ r13 = 1) → (¬ r13 = 0 → vp_in y1 290 ∧ (∀ w34 : Md, w34 = tA v13_0 18 y1 ((gF v13_0 11) - (gF v13_0 12)) → ∃ n' : Nat, qX12_ruleWord_40 Q n' w34 y1 (gF w34 12))) ∧ (r13 = 0 → Q v13_0))
def qX12_ruleWord (u0 : Md) (x1 : Int32) (Q : Md → Prop) : Prop :=
  qX12_isRuleWord u0 (fun r1 v1_0 => (r1 = 0 ∨ r1 = 1) → (¬ r1 = 0 → qX12_ruleWord_12 Q v1_0 x1) ∧ (r1 = 0 → qX12_wrong v1_0 1 (fun v9_0 => qX12_ruleWord_12 Q v9_0 x1)))
def qX12_rule_105 (Q : Md → Prop) (u0 : Md) : Prop :=
  qX12_needSign u0 59 (fun v108_0 => Q v108_0)
def qX12_rule_88 (Q : Md → Prop) (u0 : Md) (y1 : Int32) : Prop :=
  qX12_takes u0 1 (fun r91 v91_0 => (r91 = 0 ∨ r91 = 1) → (r91 = 0 → qX12_rule_105 Q v91_0) ∧ (¬ r91 = 0 → qX12_set v91_0 (y1 + 10) (fun v102_0 => qX12_rule_105 Q v102_0)))
def qX12_rule_51 (Q : Md → Prop) (u0 : Md) (y1 : Int32) : Prop :=
  qX12_needSign u0 62 (fun v54_0 => qX12_isSign v54_0 45 (fun r60 v60_0 => (r60 = 0 ∨ r60 = 1) → (r60 = 0 → qX12_good v60_0 (fun r74 v74_0 => (r74 = 0 ∨ r74 = 1) → (r74 = 0 → qX12_rule_88 Q v74_0 y1) ∧ (¬ r74 = 0 → qX12_ruleWord v74_0 (y1 + 6) (fun v85_0 => qX12_rule_88 Q v85_0 y1)))) ∧ (¬ r60 = 0 → qX12_next_ v60_0 (fun v67_0 => qX12_rule_88 Q v67_0 y1))))
def qX12_rule_37 (Q : Md → Prop) (u0 : Md) (y1 : Int32) : Prop :=
  qX12_good u0 (fun r38 v38_0 => (r38 = 0 ∨ r38 = 1) → (r38 = 0 → qX12_rule_51 Q v38_0 y1) ∧ (¬ r38 = 0 → qX12_ruleWord v38_0 (y1 + 2) (fun v48_0 => qX12_rule_51 Q v48_0 y1)))
def qX12_rule_2 (Q : Md → Prop) : Nat → Md → Int32 → Int32 → Prop
  | 0 => fun _ _ _ => False
  | n + 1 => fun u0 y1 y2 =>
  (12 ≤ y2 → qX12_takes u0 0 (fun r26 v26_0 => (r26 = 0 ∨ r26 = 1) → (r26 = 0 → qX12_rule_37 Q v26_0 y1) ∧ (¬ r26 = 0 → qX12_set v26_0 y1 (fun v34_0 => qX12_rule_37 Q v34_0 y1)))) ∧ (¬ 12 ≤ y2 → vp_in (y1 + y2) 290 ∧ (∀ w16 : Md, w16 = tA u0 18 (y1 + y2) 0 → qX12_rule_2 Q n w16 y1 (y2 + Int32.ofInt 1)))
def qX12_rule (u0 : Md) (x1 : Int32) (Q : Md → Prop) : Prop :=
  ∃ n' : Nat, qX12_rule_2 Q n' u0 x1 0
def qX12_spelling_158 (Q : Int32 → Md → Prop) : Nat → Md → Int32 → Int32 → Int32 → Prop
  | 0 => fun _ _ _ _ => False
  | n + 1 => fun u0 y2 y3 y4 =>
  (195 ≤ y4 → vp_in 3 11570 ∧ (vp_in 3 11570 ∧ (∀ w197 : Md, w197 = tA u0 1 3 ((gA u0 1 (3 : Int32).toNatClampNeg) + 1) → Q y2 w197))) ∧ (¬ 195 ≤ y4 → vp_in y4 290 ∧ (vp_in (y3 + y4) 11570 ∧ (∀ w181 : Md, w181 = tA u0 1 (y3 + y4) (gA u0 18 y4.toNatClampNeg) → qX12_spelling_158 Q n w181 y2 y3 (y4 + Int32.ofInt 1))))
def qX12_spelling_106 (Q : Int32 → Md → Prop) (u0 : Md) (y1 : Int32) (y2 : Int32) : Prop :=
  qX12_good u0 (fun r107 v107_0 => (r107 = 0 ∨ r107 = 1) → (¬ r107 = 0 → vp_in 0 290 ∧ (∀ w122 : Md, w122 = tA v107_0 18 0 y1 → qX12_now w122 (fun r129 v129_0 => vp_in 1 290 ∧ (∀ w132 : Md, w132 = tA v129_0 18 1 r129 → vp_in 2 290 ∧ (∀ w139 : Md, w139 = tA w132 18 2 y2 → vp_in 3 11570 ∧ (∃ n' : Nat, qX12_spelling_158 Q n' w139 y2 (1370 + (195 * (gA w139 1 (3 : Int32).toNatClampNeg))) 0)))))) ∧ (r107 = 0 → Q ((-4)) v107_0))
def qX12_spelling_80 (Q : Int32 → Md → Prop) (K31 : Md → Int32 → Int32 → Prop) (u0 : Md) (y1 : Int32) (y2 : Int32) : Prop :=
  qX12_good u0 (fun r81 v81_0 => (r81 = 0 ∨ r81 = 1) → (¬ r81 = 0 → qX12_rule v81_0 (3 + (12 * y2)) (fun v97_0 => K31 v97_0 y1 (y2 + Int32.ofInt 1))) ∧ (r81 = 0 → qX12_spelling_106 Q v81_0 y1 y2))
def qX12_spelling_69 (Q : Int32 → Md → Prop) (K31 : Md → Int32 → Int32 → Prop) (u0 : Md) (y1 : Int32) (y2 : Int32) : Prop :=
  (¬ y2 = 16 → qX12_spelling_80 Q K31 u0 y1 y2) ∧ (y2 = 16 → qX12_wrong u0 3 (fun v77_0 => qX12_spelling_80 Q K31 v77_0 y1 y2))
def qX12_spelling_31 (Q : Int32 → Md → Prop) : Nat → Md → Int32 → Int32 → Prop
  | 0 => fun _ _ _ => False
  | n + 1 => fun u0 y1 y2 =>
  qX12_good u0 (fun r32 v32_0 => (r32 = 0 ∨ r32 = 1) → (r32 = 0 → qX12_spelling_106 Q v32_0 y1 y2) ∧ (¬ r32 = 0 → ((gF v32_0 13) = 0 → qX12_spelling_106 Q v32_0 y1 y2) ∧ (¬ (gF v32_0 13) = 0 → qX12_is v32_0 0 (fun r48 v48_0 => (r48 = 0 ∨ r48 = 1) → (¬ r48 = 0 → qX12_spelling_69 Q (qX12_spelling_31 Q n) v48_0 y1 y2) ∧ (r48 = 0 → qX12_isRuleWord v48_0 (fun r55 v55_0 => (r55 = 0 ∨ r55 = 1) → (¬ r55 = 0 → qX12_spelling_69 Q (qX12_spelling_31 Q n) v55_0 y1 y2) ∧ (r55 = 0 → qX12_wrong v55_0 1 (fun v63_0 => qX12_spelling_80 Q (qX12_spelling_31 Q n) v63_0 y1 y2))))))))
def qX12_spelling (u0 : Md) (x1 : Int32) (Q : Int32 → Md → Prop) : Prop :=
  qX12_isTongue x1 (fun r1 => (r1 = 0 ∨ r1 = 1) → (¬ r1 = 0 → vp_in 3 11570 ∧ ((¬ (gA u0 1 (3 : Int32).toNatClampNeg) = 12 → qX12_begins u0 0 (fun v26_0 => ∃ n' : Nat, qX12_spelling_31 Q n' v26_0 x1 0)) ∧ ((gA u0 1 (3 : Int32).toNatClampNeg) = 12 → Q ((-3)) u0))) ∧ (r1 = 0 → Q ((-2)) u0))
def qX12_spellingOf_5 (Q : Int32 → Md → Prop) : Nat → Md → Int32 → Int32 → Int32 → Int32 → Prop
  | 0 => fun _ _ _ _ _ => False
  | n + 1 => fun u0 y1 y2 y3 y4 =>
  vp_in 3 11570 ∧ (((gA u0 1 (3 : Int32).toNatClampNeg) ≤ y4 → Q y3 u0) ∧ (¬ (gA u0 1 (3 : Int32).toNatClampNeg) ≤ y4 → vp_in (1370 + (195 * y4)) 11570 ∧ ((¬ (gA u0 1 (1370 + (195 * y4)).toNatClampNeg) = y1 → qX12_spellingOf_5 Q n u0 y1 y2 y3 (y4 + Int32.ofInt 1)) ∧ ((gA u0 1 (1370 + (195 * y4)).toNatClampNeg) = y1 → vp_in ((1370 + (195 * y4)) + 1) 11570 ∧ ((y2 < (gA u0 1 ((1370 + (195 * y4)) + 1).toNatClampNeg) → qX12_spellingOf_5 Q n u0 y1 y2 y3 (y4 + Int32.ofInt 1)) ∧ (¬ y2 < (gA u0 1 ((1370 + (195 * y4)) + 1).toNatClampNeg) → qX12_spellingOf_5 Q n u0 y1 y2 y4 (y4 + Int32.ofInt 1)))))))
def qX12_spellingOf (u0 : Md) (x1 : Int32) (x2 : Int32) (Q : Int32 → Md → Prop) : Prop :=
  ∃ n' : Nat, qX12_spellingOf_5 Q n' u0 x1 x2 ((-1)) 0
def qX12_lays (u0 : Md) (x1 : Int32) (x2 : Int32) (Q : Md → Prop) : Prop :=
  vp_in (gF u0 21) 80 ∧ (∀ w9 : Md, w9 = tA u0 19 (gF u0 21) x1 → vp_in (gF w9 21) 80 ∧ (∀ w19 : Md, w19 = tA w9 20 (gF w9 21) x2 → ∀ w27 : Md, w27 = sF w19 21 ((gF w19 21) + 1) → Q w27))
def qX12_isOf (x0 : Int32) (x1 : Int32) (Q : Int32 → Prop) : Prop :=
  (¬ ((x0 >>> ((x1 - 97) &&& 31)) &&& 1) = 1 → Q 0) ∧ (((x0 >>> ((x1 - 97) &&& 31)) &&& 1) = 1 → Q 1)
def qX12_fits_122 (Q : Int32 → Md → Prop) (u0 : Md) (y1 : Int32) (y2 : Int32) (y3 : Int32) (y4 : Int32) (y5 : Int32) : Prop :=
  vp_in (y1 + 10) 11570 ∧ (((gA u0 1 (y1 + 10).toNatClampNeg) = 0 → Q 1 u0) ∧ (¬ (gA u0 1 (y1 + 10).toNatClampNeg) = 0 → vp_in (y1 + 10) 11570 ∧ ((¬ (gA u0 1 (y1 + 10).toNatClampNeg) = 1 → (y3 ≤ (y4 + y5) → Q 0 u0) ∧ (¬ y3 ≤ (y4 + y5) → vp_in (y1 + 11) 11570 ∧ (vp_in ((y2 + y4) + y5) 11570 ∧ (qX12_isOf (gA u0 1 (y1 + 11).toNatClampNeg) (gA u0 1 ((y2 + y4) + y5).toNatClampNeg) (fun r189 => (r189 = 0 ∨ r189 = 1) → (r189 = 0 → Q 0 u0) ∧ (¬ r189 = 0 → Q 1 u0)))))) ∧ ((gA u0 1 (y1 + 10).toNatClampNeg) = 1 → (¬ (y4 + y5) = y3 → Q 0 u0) ∧ ((y4 + y5) = y3 → Q 1 u0)))))
def qX12_fits_80 (Q : Int32 → Md → Prop) (u0 : Md) (y1 : Int32) (y2 : Int32) (y3 : Int32) (y4 : Int32) (y5 : Int32) : Prop :=
  vp_in y1 11570 ∧ ((¬ (gA u0 1 y1.toNatClampNeg) = 2 → qX12_fits_122 Q u0 y1 y2 y3 y4 y5) ∧ ((gA u0 1 y1.toNatClampNeg) = 2 → (y4 = 0 → Q 0 u0) ∧ (¬ y4 = 0 → vp_in (y1 + 1) 11570 ∧ (vp_in ((y2 + y4) - 1) 11570 ∧ (qX12_isOf (gA u0 1 (y1 + 1).toNatClampNeg) (gA u0 1 ((y2 + y4) - 1).toNatClampNeg) (fun r114 => (r114 = 0 ∨ r114 = 1) → (¬ r114 = 0 → qX12_fits_122 Q u0 y1 y2 y3 y4 y5) ∧ (r114 = 0 → Q 0 u0)))))))
def qX12_fits_24 (Q : Int32 → Md → Prop) : Nat → Md → Int32 → Int32 → Int32 → Int32 → Int32 → Int32 → Prop
  | 0 => fun _ _ _ _ _ _ _ => False
  | n + 1 => fun u0 y1 y2 y3 y4 y5 y6 =>
  (y5 ≤ y6 → vp_in y1 11570 ∧ ((¬ (gA u0 1 y1.toNatClampNeg) = 1 → qX12_fits_80 Q u0 y1 y2 y3 y4 y5) ∧ ((gA u0 1 y1.toNatClampNeg) = 1 → (0 < y4 → Q 0 u0) ∧ (¬ 0 < y4 → qX12_fits_80 Q u0 y1 y2 y3 y4 y5)))) ∧ (¬ y5 ≤ y6 → vp_in ((y2 + y4) + y6) 11570 ∧ (vp_in ((y1 + 3) + y6) 11570 ∧ (((gA u0 1 ((y2 + y4) + y6).toNatClampNeg) = (gA u0 1 ((y1 + 3) + y6).toNatClampNeg) → qX12_fits_24 Q n u0 y1 y2 y3 y4 y5 (y6 + Int32.ofInt 1)) ∧ (¬ (gA u0 1 ((y2 + y4) + y6).toNatClampNeg) = (gA u0 1 ((y1 + 3) + y6).toNatClampNeg) → Q 0 u0))))
def qX12_fits (u0 : Md) (x1 : Int32) (x2 : Int32) (x3 : Int32) (x4 : Int32) (Q : Int32 → Md → Prop) : Prop :=
  vp_in (x1 + 2) 11570 ∧ (((x4 + (gA u0 1 (x1 + 2).toNatClampNeg)) ≤ x3 → ∃ n' : Nat, qX12_fits_24 Q n' u0 x1 x2 x3 x4 (gA u0 1 (x1 + 2).toNatClampNeg) 0) ∧ (¬ (x4 + (gA u0 1 (x1 + 2).toNatClampNeg)) ≤ x3 → Q 0 u0))
def qX12_spells_165 (Q : Md → Prop) (K61 : Md → Int32 → Int32 → Int32 → Int32 → Int32 → Prop) : Nat → Md → Int32 → Int32 → Int32 → Int32 → Int32 → Int32 → Int32 → Int32 → Prop
  | 0 => fun _ _ _ _ _ _ _ _ _ => False
  | n + 1 => fun u0 y3 y4 y5 y6 y7 y8 y9 y10 =>
  vp_in (y9 + 6) 11570 ∧ (((gA u0 1 (y9 + 6).toNatClampNeg) ≤ y10 → vp_in (y9 + 2) 11570 ∧ (K61 u0 y3 y4 y5 y6 (y7 + (gA u0 1 (y9 + 2).toNatClampNeg)))) ∧ (¬ (gA u0 1 (y9 + 6).toNatClampNeg) ≤ y10 → vp_in ((y9 + 7) + y10) 11570 ∧ (qX12_lays u0 (gA u0 1 ((y9 + 7) + y10).toNatClampNeg) ((100 * y3) + y8) (fun v201_0 => qX12_spells_165 Q K61 n v201_0 y3 y4 y5 y6 y7 y8 y9 (y10 + Int32.ofInt 1)))))
def qX12_spells_114 (Q : Md → Prop) (K61 : Md → Int32 → Int32 → Int32 → Int32 → Int32 → Prop) (u0 : Md) (y3 : Int32) (y4 : Int32) (y5 : Int32) (y6 : Int32) (y7 : Int32) (y8 : Int32) : Prop :=
  (¬ y8 = y4 → ∃ n' : Nat, qX12_spells_165 Q K61 n' u0 y3 y4 y5 y6 y7 y8 (((1370 + (195 * y3)) + 3) + (12 * y8)) 0) ∧ (y8 = y4 → vp_in (y5 + y7) 11570 ∧ (qX12_lays u0 (gA u0 1 (y5 + y7).toNatClampNeg) ((-3)) (fun v134_0 => K61 v134_0 y3 y4 y5 y6 (y7 + Int32.ofInt 1))))
def qX12_spells_71 (Q : Md → Prop) (K61 : Md → Int32 → Int32 → Int32 → Int32 → Int32 → Prop) : Nat → Md → Int32 → Int32 → Int32 → Int32 → Int32 → Int32 → Prop
  | 0 => fun _ _ _ _ _ _ _ => False
  | n + 1 => fun u0 y3 y4 y5 y6 y7 y8 =>
  (y4 ≤ y8 → qX12_spells_114 Q K61 u0 y3 y4 y5 y6 y7 y8) ∧ (¬ y4 ≤ y8 → qX12_fits u0 (((1370 + (195 * y3)) + 3) + (12 * y8)) y5 y6 y7 (fun r102 v102_0 => (r102 = 0 ∨ r102 = 1) → (¬ r102 = 0 → qX12_spells_114 Q K61 v102_0 y3 y4 y5 y6 y7 y8) ∧ (r102 = 0 → qX12_spells_71 Q K61 n v102_0 y3 y4 y5 y6 y7 (y8 + Int32.ofInt 1))))
def qX12_spells_61 (Q : Md → Prop) : Nat → Md → Int32 → Int32 → Int32 → Int32 → Int32 → Prop
  | 0 => fun _ _ _ _ _ _ => False
  | n + 1 => fun u0 y3 y4 y5 y6 y7 =>
  (y6 ≤ y7 → Q u0) ∧ (¬ y6 ≤ y7 → ∃ n' : Nat, qX12_spells_71 Q (qX12_spells_61 Q n) n' u0 y3 y4 y5 y6 y7 0)
def qX12_spells_37 (Q : Md → Prop) (u0 : Md) (y1 : Int32) (y3 : Int32) (z0 : Int32) : Prop :=
  qX12_nameIs u0 y1 3 (fun r53 v53_0 => ∃ n' : Nat, qX12_spells_61 Q n' v53_0 y3 z0 ((90 + (16 * y1)) + 4) r53 0)
def qX12_spells (u0 : Md) (x1 : Int32) (x2 : Int32) (Q : Md → Prop) : Prop :=
  qX12_nameIs u0 x1 1 (fun r4 v4_0 => qX12_spellingOf v4_0 r4 x2 (fun r8 v8_0 => (¬ r8 = ((-1)) → vp_in ((1370 + (195 * r8)) + 2) 11570 ∧ (qX12_spells_37 Q v8_0 x1 r8 (gA v8_0 1 ((1370 + (195 * r8)) + 2).toNatClampNeg))) ∧ (r8 = ((-1)) → qX12_spells_37 Q v8_0 x1 r8 0)))
def qX12_takesInHand_10 (Q : Int32 → Md → Prop) : Nat → Md → Int32 → Prop
  | 0 => fun _ _ => False
  | n + 1 => fun u0 y1 =>
  ((gF u0 21) ≤ y1 → Q (gF u0 24) u0) ∧ (¬ (gF u0 21) ≤ y1 → vp_in y1 80 ∧ (vp_in y1 80 ∧ (∀ w29 : Md, w29 = tA u0 22 y1 (gA u0 19 y1.toNatClampNeg) → vp_in y1 80 ∧ (vp_in y1 80 ∧ (∀ w41 : Md, w41 = tA w29 23 y1 (gA w29 20 y1.toNatClampNeg) → qX12_takesInHand_10 Q n w41 (y1 + Int32.ofInt 1))))))
def qX12_takesInHand (u0 : Md) (Q : Int32 → Md → Prop) : Prop :=
  ∀ w5 : Md, w5 = sF u0 24 (gF u0 21) → ∃ n' : Nat, qX12_takesInHand_10 Q n' w5 0
def qX12_spell (u0 : Md) (x1 : Int32) (x2 : Int32) (Q : Int32 → Md → Prop) : Prop :=
  qX12_isName u0 x1 (fun r2 v2_0 => (r2 = 0 ∨ r2 = 1) → (r2 = 0 → Q ((-2)) v2_0) ∧ (¬ r2 = 0 → qX12_isYear x2 (fun r9 => (r9 = 0 ∨ r9 = 1) → (¬ r9 = 0 → ∀ w20 : Md, w20 = sF v2_0 21 0 → qX12_spells w20 x1 x2 (fun v26_0 => qX12_takesInHand v26_0 (fun r30 v30_0 => Q r30 v30_0))) ∧ (r9 = 0 → Q ((-2)) v2_0))))
def qX12_letter (u0 : Md) (x1 : Int32) (Q : Int32 → Md → Prop) : Prop :=
  qX12_in x1.toInt64 0 (((gF u0 24) - 1).toInt64) (fun r10 => (r10 = 0 ∨ r10 = 1) → (r10 = 0 → Q ((-1)) u0) ∧ (¬ r10 = 0 → vp_in x1 80 ∧ (Q (gA u0 22 x1.toNatClampNeg) u0)))
def qX12_led (u0 : Md) (x1 : Int32) (Q : Int32 → Md → Prop) : Prop :=
  qX12_in x1.toInt64 0 (((gF u0 24) - 1).toInt64) (fun r10 => (r10 = 0 ∨ r10 = 1) → (r10 = 0 → Q ((-1)) u0) ∧ (¬ r10 = 0 → vp_in x1 80 ∧ (Q (gA u0 23 x1.toNatClampNeg) u0)))
def qX12_holds_10 (Q : Md → Prop) : Nat → Md → Int32 → Prop
  | 0 => fun _ _ => False
  | n + 1 => fun u0 y1 =>
  ((gF u0 21) ≤ y1 → Q u0) ∧ (¬ (gF u0 21) ≤ y1 → vp_in y1 80 ∧ (vp_in y1 80 ∧ (∀ w29 : Md, w29 = tA u0 25 y1 (gA u0 19 y1.toNatClampNeg) → qX12_holds_10 Q n w29 (y1 + Int32.ofInt 1))))
def qX12_holds (u0 : Md) (Q : Md → Prop) : Prop :=
  ∀ w5 : Md, w5 = sF u0 26 (gF u0 21) → ∃ n' : Nat, qX12_holds_10 Q n' w5 0
def qX12_isAlike_19 (Q : Int32 → Md → Prop) : Nat → Md → Int32 → Int32 → Prop
  | 0 => fun _ _ _ => False
  | n + 1 => fun u0 y1 y2 =>
  ((gF u0 21) ≤ y2 → (y1 = 0 ∨ y1 = 1) ∧ (Q y1 u0)) ∧ (¬ (gF u0 21) ≤ y2 → (y1 = 0 → (y1 = 0 ∨ y1 = 1) ∧ (Q y1 u0)) ∧ (¬ y1 = 0 → vp_in y2 80 ∧ (vp_in y2 80 ∧ ((¬ (gA u0 25 y2.toNatClampNeg) = (gA u0 19 y2.toNatClampNeg) → qX12_isAlike_19 Q n u0 0 (y2 + Int32.ofInt 1)) ∧ ((gA u0 25 y2.toNatClampNeg) = (gA u0 19 y2.toNatClampNeg) → qX12_isAlike_19 Q n u0 1 (y2 + Int32.ofInt 1))))))
def qX12_isAlike (u0 : Md) (Q : Int32 → Md → Prop) : Prop :=
  (¬ (gF u0 26) = (gF u0 21) → ∃ n' : Nat, qX12_isAlike_19 Q n' u0 0 0) ∧ ((gF u0 26) = (gF u0 21) → ∃ n' : Nat, qX12_isAlike_19 Q n' u0 1 0)
def qX12_alikes_99 (Q : Int32 → Md → Prop) (K14 : Md → Int32 → Int32 → Int32 → Prop) (K44 : Md → Int32 → Int32 → Int32 → Int32 → Prop) (u0 : Md) (y1 : Int32) (y3 : Int32) (y4 : Int32) (z0 : Int32) (z1 : Int32) : Prop :=
  K44 u0 y1 (z1 + z0) y3 (y4 + Int32.ofInt 1)
def qX12_alikes_44 (Q : Int32 → Md → Prop) (K14 : Md → Int32 → Int32 → Int32 → Prop) : Nat → Md → Int32 → Int32 → Int32 → Int32 → Prop
  | 0 => fun _ _ _ _ _ => False
  | n + 1 => fun u0 y1 y2 y3 y4 =>
  vp_in 2 11570 ∧ (((gA u0 1 (2 : Int32).toNatClampNeg) ≤ y4 → K14 u0 y1 y2 (y3 + Int32.ofInt 1)) ∧ (¬ (gA u0 1 (2 : Int32).toNatClampNeg) ≤ y4 → qX12_nameIs u0 y3 0 (fun r58 v58_0 => qX12_nameIs v58_0 y4 0 (fun r65 v65_0 => (¬ r58 = r65 → ∀ w76 : Md, w76 = sF v65_0 21 0 → qX12_spells w76 y4 y1 (fun v83_0 => qX12_isAlike v83_0 (fun r88 v88_0 => (r88 = 0 ∨ r88 = 1) → (r88 = 0 → qX12_alikes_99 Q K14 (qX12_alikes_44 Q K14 n) v88_0 y1 y3 y4 0 y2) ∧ (¬ r88 = 0 → qX12_alikes_99 Q K14 (qX12_alikes_44 Q K14 n) v88_0 y1 y3 y4 1 y2)))) ∧ (r58 = r65 → qX12_alikes_44 Q K14 n v65_0 y1 y2 y3 (y4 + Int32.ofInt 1))))))
def qX12_alikes_14 (Q : Int32 → Md → Prop) : Nat → Md → Int32 → Int32 → Int32 → Prop
  | 0 => fun _ _ _ _ => False
  | n + 1 => fun u0 y1 y2 y3 =>
  vp_in 2 11570 ∧ (((gA u0 1 (2 : Int32).toNatClampNeg) ≤ y3 → Q y2 u0) ∧ (¬ (gA u0 1 (2 : Int32).toNatClampNeg) ≤ y3 → ∀ w26 : Md, w26 = sF u0 21 0 → qX12_spells w26 y3 y1 (fun v32_0 => qX12_holds v32_0 (fun v36_0 => ∃ n' : Nat, qX12_alikes_44 Q (qX12_alikes_14 Q n) n' v36_0 y1 y2 y3 (y3 + 1)))))
def qX12_alikes (u0 : Md) (x1 : Int32) (Q : Int32 → Md → Prop) : Prop :=
  qX12_isYear x1 (fun r1 => (r1 = 0 ∨ r1 = 1) → (¬ r1 = 0 → ∃ n' : Nat, qX12_alikes_14 Q n' u0 x1 0 0) ∧ (r1 = 0 → Q ((-2)) u0))
def qX12_apart_35 (Q : Int32 → Md → Prop) (K9 : Md → Int32 → Int32 → Prop) (K19 : Md → Int32 → Int32 → Int32 → Prop) (u0 : Md) (y1 : Int32) (y2 : Int32) (y3 : Int32) : Prop :=
  vp_in ((y1 * y2) + y3) 6400 ∧ (∀ w47 : Md, w47 = tA u0 27 ((y1 * y2) + y3) (y2 + y3) → K19 w47 y1 y2 (y3 + Int32.ofInt 1))
def qX12_apart_89 (Q : Int32 → Md → Prop) (K9 : Md → Int32 → Int32 → Prop) (K19 : Md → Int32 → Int32 → Int32 → Prop) (u0 : Md) (y1 : Int32) (y2 : Int32) (y3 : Int32) (z0 : Int32) (z1 : Int32) : Prop :=
  vp_in ((y1 * (y2 - 1)) + y3) 6400 ∧ (vp_in (((y1 * y2) + y3) - 1) 6400 ∧ (vp_in ((y1 * y2) + y3) 6400 ∧ (∀ w135 : Md, w135 = tA u0 27 ((y1 * y2) + y3) (imin (z1 + z0) (1 + (imin (gA u0 27 ((y1 * (y2 - 1)) + y3).toNatClampNeg) (gA u0 27 (((y1 * y2) + y3) - 1).toNatClampNeg)))) → K19 w135 y1 y2 (y3 + Int32.ofInt 1))))
def qX12_apart_19 (Q : Int32 → Md → Prop) (K9 : Md → Int32 → Int32 → Prop) : Nat → Md → Int32 → Int32 → Int32 → Prop
  | 0 => fun _ _ _ _ => False
  | n + 1 => fun u0 y1 y2 y3 =>
  ((gF u0 21) < y3 → K9 u0 y1 (y2 + Int32.ofInt 1)) ∧ (¬ (gF u0 21) < y3 → (y2 = 0 → qX12_apart_35 Q K9 (qX12_apart_19 Q K9 n) u0 y1 y2 y3) ∧ (¬ y2 = 0 → (¬ y3 = 0 → vp_in (((y1 * (y2 - 1)) + y3) - 1) 6400 ∧ (vp_in (y2 - 1) 80 ∧ (vp_in (y3 - 1) 80 ∧ ((¬ (gA u0 25 (y2 - 1).toNatClampNeg) = (gA u0 19 (y3 - 1).toNatClampNeg) → qX12_apart_89 Q K9 (qX12_apart_19 Q K9 n) u0 y1 y2 y3 1 (gA u0 27 (((y1 * (y2 - 1)) + y3) - 1).toNatClampNeg)) ∧ ((gA u0 25 (y2 - 1).toNatClampNeg) = (gA u0 19 (y3 - 1).toNatClampNeg) → qX12_apart_89 Q K9 (qX12_apart_19 Q K9 n) u0 y1 y2 y3 0 (gA u0 27 (((y1 * (y2 - 1)) + y3) - 1).toNatClampNeg)))))) ∧ (y3 = 0 → qX12_apart_35 Q K9 (qX12_apart_19 Q K9 n) u0 y1 y2 y3)))
def qX12_apart_9 (Q : Int32 → Md → Prop) : Nat → Md → Int32 → Int32 → Prop
  | 0 => fun _ _ _ => False
  | n + 1 => fun u0 y1 y2 =>
  ((gF u0 26) < y2 → vp_in ((y1 * (gF u0 26)) + (gF u0 21)) 6400 ∧ (Q (gA u0 27 ((y1 * (gF u0 26)) + (gF u0 21)).toNatClampNeg) u0)) ∧ (¬ (gF u0 26) < y2 → ∃ n' : Nat, qX12_apart_19 Q (qX12_apart_9 Q n) n' u0 y1 y2 0)
def qX12_apart (u0 : Md) (Q : Int32 → Md → Prop) : Prop :=
  ∃ n' : Nat, qX12_apart_9 Q n' u0 ((gF u0 21) + 1) 0
def qX12_editsOf (u0 : Md) (x1 : Int32) (x2 : Int32) (x3 : Int32) (Q : Int32 → Md → Prop) : Prop :=
  ∀ w2 : Md, w2 = sF u0 21 0 → qX12_spells w2 x1 x3 (fun v8_0 => qX12_holds v8_0 (fun v12_0 => ∀ w17 : Md, w17 = sF v12_0 21 0 → qX12_spells w17 x2 x3 (fun v23_0 => qX12_apart v23_0 (fun r27 v27_0 => Q r27 v27_0))))
def qX12_edits (u0 : Md) (x1 : Int32) (x2 : Int32) (x3 : Int32) (Q : Int32 → Md → Prop) : Prop :=
  qX12_isName u0 x1 (fun r2 v2_0 => (r2 = 0 ∨ r2 = 1) → (r2 = 0 → Q ((-2)) v2_0) ∧ (¬ r2 = 0 → qX12_isName v2_0 x2 (fun r10 v10_0 => (r10 = 0 ∨ r10 = 1) → (r10 = 0 → Q ((-2)) v10_0) ∧ (¬ r10 = 0 → qX12_isYear x3 (fun r17 => (r17 = 0 ∨ r17 = 1) → (r17 = 0 → Q ((-2)) v10_0) ∧ (¬ r17 = 0 → qX12_editsOf v10_0 x1 x2 x3 (fun r27 v27_0 => Q r27 v27_0)))))))
def qX12_sortHere (u0 : Md) (Q : Int32 → Md → Prop) : Prop :=
  qX12_is u0 2 (fun r4 v4_0 => (r4 = 0 ∨ r4 = 1) → (r4 = 0 → qX12_is v4_0 3 (fun r18 v18_0 => (r18 = 0 ∨ r18 = 1) → (r18 = 0 → qX12_is v18_0 4 (fun r32 v32_0 => (r32 = 0 ∨ r32 = 1) → (r32 = 0 → qX12_is v32_0 5 (fun r46 v46_0 => (r46 = 0 ∨ r46 = 1) → (r46 = 0 → qX12_is v46_0 6 (fun r60 v60_0 => (r60 = 0 ∨ r60 = 1) → (r60 = 0 → qX12_is v60_0 7 (fun r74 v74_0 => (r74 = 0 ∨ r74 = 1) → (r74 = 0 → Q ((-1)) v74_0) ∧ (¬ r74 = 0 → Q 5 v74_0))) ∧ (¬ r60 = 0 → Q 4 v60_0))) ∧ (¬ r46 = 0 → Q 3 v46_0))) ∧ (¬ r32 = 0 → Q 2 v32_0))) ∧ (¬ r18 = 0 → Q 1 v18_0))) ∧ (¬ r4 = 0 → Q 0 v4_0))
def qX12_factHere (u0 : Md) (Q : Int32 → Md → Prop) : Prop :=
  qX12_is u0 12 (fun r4 v4_0 => (r4 = 0 ∨ r4 = 1) → (r4 = 0 → qX12_is v4_0 13 (fun r18 v18_0 => (r18 = 0 ∨ r18 = 1) → (r18 = 0 → qX12_is v18_0 14 (fun r32 v32_0 => (r32 = 0 ∨ r32 = 1) → (r32 = 0 → qX12_is v32_0 15 (fun r46 v46_0 => (r46 = 0 ∨ r46 = 1) → (r46 = 0 → Q ((-1)) v46_0) ∧ (¬ r46 = 0 → Q 3 v46_0))) ∧ (¬ r32 = 0 → Q 2 v32_0))) ∧ (¬ r18 = 0 → Q 1 v18_0))) ∧ (¬ r4 = 0 → Q 0 v4_0))
def qX12_tongueHere (u0 : Md) (Q : Int32 → Md → Prop) : Prop :=
  qX12_number u0 2 (fun r2 v2_0 => Q r2 v2_0)
def qX12_cond_163 (Q : Md → Prop) (u0 : Md) (y1 : Int32) (y2 : Int32) : Prop :=
  qX12_good u0 (fun r164 v164_0 => (r164 = 0 ∨ r164 = 1) → (¬ r164 = 0 → vp_in (y2 + 3) 290 ∧ (∀ w182 : Md, w182 = tA v164_0 18 (y2 + 3) (gF v164_0 14) → qX12_next_ w182 (fun v184_0 => qX12_number v184_0 9999 (fun r198 v198_0 => vp_in (y2 + 4) 290 ∧ (∀ w201 : Md, w201 = tA v198_0 18 (y2 + 4) r198 → vp_in (y1 + 3) 290 ∧ (vp_in (y1 + 3) 290 ∧ (∀ w213 : Md, w213 = tA w201 18 (y1 + 3) ((gA w201 18 (y1 + 3).toNatClampNeg) + 1) → Q w213))))))) ∧ (r164 = 0 → Q v164_0))
def qX12_cond_130 (Q : Md → Prop) (u0 : Md) (y1 : Int32) (y2 : Int32) (z0 : Int32) (z1 : Int32) : Prop :=
  vp_in z1 290 ∧ (∀ w130 : Md, w130 = tA u0 18 z1 z0 → qX12_isSign w130 60 (fun r134 v134_0 => (r134 = 0 ∨ r134 = 1) → (¬ r134 = 0 → qX12_cond_163 Q v134_0 y1 y2) ∧ (r134 = 0 → qX12_isSign v134_0 61 (fun r143 v143_0 => (r143 = 0 ∨ r143 = 1) → (¬ r143 = 0 → qX12_cond_163 Q v143_0 y1 y2) ∧ (r143 = 0 → qX12_isSign v143_0 62 (fun r152 v152_0 => (r152 = 0 ∨ r152 = 1) → (¬ r152 = 0 → qX12_cond_163 Q v152_0 y1 y2) ∧ (r152 = 0 → qX12_wrong v152_0 1 (fun v160_0 => qX12_cond_163 Q v160_0 y1 y2))))))))
def qX12_cond_90 (Q : Md → Prop) (u0 : Md) (y1 : Int32) (y2 : Int32) (y3 : Int32) : Prop :=
  qX12_good u0 (fun r91 v91_0 => (r91 = 0 ∨ r91 = 1) → (¬ r91 = 0 → qX12_next_ v91_0 (fun v99_0 => vp_in (y2 + 1) 290 ∧ (∀ w110 : Md, w110 = tA v99_0 18 (y2 + 1) y3 → (¬ y3 = 0 → qX12_cond_130 Q w110 y1 y2 0 (y2 + 2)) ∧ (y3 = 0 → qX12_tongueHere w110 (fun r123 v123_0 => qX12_cond_130 Q v123_0 y1 y2 r123 (y2 + 2)))))) ∧ (r91 = 0 → Q v91_0))
def qX12_cond_74 (Q : Md → Prop) (u0 : Md) (y1 : Int32) (y2 : Int32) (z0 : Int32) (z1 : Int32) : Prop :=
  vp_in z1 290 ∧ (∀ w74 : Md, w74 = tA u0 18 z1 z0 → qX12_factHere w74 (fun r76 v76_0 => (¬ r76 = ((-1)) → qX12_cond_90 Q v76_0 y1 y2 r76) ∧ (r76 = ((-1)) → qX12_wrong v76_0 1 (fun v87_0 => qX12_cond_90 Q v87_0 y1 y2 r76))))
def qX12_cond_35 (Q : Md → Prop) (u0 : Md) (y1 : Int32) : Prop :=
  vp_in (y1 + 3) 290 ∧ (qX12_takes u0 11 (fun r63 v63_0 => (r63 = 0 ∨ r63 = 1) → (r63 = 0 → qX12_cond_74 Q v63_0 y1 ((y1 + 4) + (5 * (imin 3 (gA u0 18 (y1 + 3).toNatClampNeg)))) 0 ((y1 + 4) + (5 * (imin 3 (gA u0 18 (y1 + 3).toNatClampNeg))))) ∧ (¬ r63 = 0 → qX12_cond_74 Q v63_0 y1 ((y1 + 4) + (5 * (imin 3 (gA u0 18 (y1 + 3).toNatClampNeg)))) 1 ((y1 + 4) + (5 * (imin 3 (gA u0 18 (y1 + 3).toNatClampNeg)))))))
def qX12_cond_18 (Q : Md → Prop) (u0 : Md) (y1 : Int32) : Prop :=
  vp_in (y1 + 3) 290 ∧ ((¬ (gA u0 18 (y1 + 3).toNatClampNeg) = 4 → qX12_cond_35 Q u0 y1) ∧ ((gA u0 18 (y1 + 3).toNatClampNeg) = 4 → qX12_wrong u0 3 (fun v32_0 => qX12_cond_35 Q v32_0 y1)))
def qX12_cond (u0 : Md) (x1 : Int32) (Q : Md → Prop) : Prop :=
  qX12_is u0 11 (fun r4 v4_0 => (r4 = 0 ∨ r4 = 1) → (¬ r4 = 0 → qX12_cond_18 Q v4_0 x1) ∧ (r4 = 0 → qX12_factHere v4_0 (fun r11 v11_0 => (r11 = ((-1)) → qX12_cond_35 Q v11_0 x1) ∧ (¬ r11 = ((-1)) → qX12_cond_18 Q v11_0 x1))))
def qX12_line_165 (Q : Md → Prop) (u0 : Md) : Prop :=
  qX12_needSign u0 59 (fun v168_0 => Q v168_0)
def qX12_line_138 (Q : Md → Prop) : Nat → Md → Int32 → Int32 → Prop
  | 0 => fun _ _ _ => False
  | n + 1 => fun u0 y1 y3 =>
  (y3 = 0 → qX12_line_165 Q u0) ∧ (¬ y3 = 0 → qX12_good u0 (fun r143 v143_0 => (r143 = 0 ∨ r143 = 1) → (r143 = 0 → qX12_line_165 Q v143_0) ∧ (¬ r143 = 0 → qX12_cond v143_0 y1 (fun v151_0 => qX12_takes v151_0 10 (fun r158 v158_0 => (r158 = 0 ∨ r158 = 1) → qX12_line_138 Q n v158_0 y1 r158)))))
def qX12_line_121 (Q : Md → Prop) (u0 : Md) (y1 : Int32) (y2 : Int32) : Prop :=
  (1 < y2 → qX12_line_165 Q u0) ∧ (¬ 1 < y2 → qX12_takes u0 9 (fun r130 v130_0 => (r130 = 0 ∨ r130 = 1) → (r130 = 0 → qX12_line_165 Q v130_0) ∧ (¬ r130 = 0 → ∃ n' : Nat, qX12_line_138 Q n' v130_0 y1 1)))
def qX12_line_99 (Q : Md → Prop) (u0 : Md) (y1 : Int32) (y2 : Int32) : Prop :=
  qX12_good u0 (fun r100 v100_0 => (r100 = 0 ∨ r100 = 1) → (r100 = 0 → qX12_line_121 Q v100_0 y1 y2) ∧ (¬ r100 = 0 → qX12_number v100_0 9999 (fun r117 v117_0 => vp_in (y1 + 2) 290 ∧ (∀ w120 : Md, w120 = tA v117_0 18 (y1 + 2) r117 → qX12_line_121 Q w120 y1 y2))))
def qX12_line_79 (Q : Md → Prop) (u0 : Md) (y1 : Int32) (y2 : Int32) : Prop :=
  (¬ y2 = 2 → qX12_line_121 Q u0 y1 y2) ∧ (y2 = 2 → qX12_takes u0 8 (fun r88 v88_0 => (r88 = 0 ∨ r88 = 1) → (¬ r88 = 0 → qX12_line_99 Q v88_0 y1 y2) ∧ (r88 = 0 → qX12_wrong v88_0 1 (fun v96_0 => qX12_line_99 Q v96_0 y1 y2))))
def qX12_line_11 (Q : Md → Prop) : Nat → Md → Int32 → Int32 → Int32 → Prop
  | 0 => fun _ _ _ _ => False
  | n + 1 => fun u0 y1 y2 y3 =>
  (24 ≤ y3 → vp_in y1 290 ∧ (∀ w38 : Md, w38 = tA u0 18 y1 y2 → (¬ y2 = 0 → (y2 = 1 → qX12_line_79 Q w38 y1 y2) ∧ (¬ y2 = 1 → qX12_number w38 9999 (fun r75 v75_0 => vp_in (y1 + 1) 290 ∧ (∀ w78 : Md, w78 = tA v75_0 18 (y1 + 1) r75 → qX12_line_79 Q w78 y1 y2)))) ∧ (y2 = 0 → qX12_number w38 2 (fun r52 v52_0 => vp_in (y1 + 1) 290 ∧ (∀ w55 : Md, w55 = tA v52_0 18 (y1 + 1) r52 → qX12_line_79 Q w55 y1 y2))))) ∧ (¬ 24 ≤ y3 → vp_in (y1 + y3) 290 ∧ (∀ w25 : Md, w25 = tA u0 18 (y1 + y3) 0 → qX12_line_11 Q n w25 y1 y2 (y3 + Int32.ofInt 1)))
def qX12_line (u0 : Md) (x1 : Int32) (Q : Md → Prop) : Prop :=
  qX12_sortHere u0 (fun r1 v1_0 => qX12_next_ v1_0 (fun v6_0 => ∃ n' : Nat, qX12_line_11 Q n' v6_0 x1 r1 0))
def qX12_act_132 (Q : Int32 → Md → Prop) : Nat → Md → Int32 → Int32 → Int32 → Prop
  | 0 => fun _ _ _ _ => False
  | n + 1 => fun u0 y1 y2 y3 =>
  (290 ≤ y3 → vp_in 4 11570 ∧ (vp_in 4 11570 ∧ (∀ w168 : Md, w168 = tA u0 1 4 ((gA u0 1 (4 : Int32).toNatClampNeg) + 1) → Q y1 w168))) ∧ (¬ 290 ≤ y3 → vp_in y3 290 ∧ (vp_in (y2 + y3) 11570 ∧ (∀ w152 : Md, w152 = tA u0 1 (y2 + y3) (gA u0 18 y3.toNatClampNeg) → qX12_act_132 Q n w152 y1 y2 (y3 + Int32.ofInt 1))))
def qX12_act_88 (Q : Int32 → Md → Prop) (u0 : Md) (y1 : Int32) : Prop :=
  qX12_good u0 (fun r89 v89_0 => (r89 = 0 ∨ r89 = 1) → (¬ r89 = 0 → qX12_now v89_0 (fun r104 v104_0 => vp_in 0 290 ∧ (∀ w107 : Md, w107 = tA v104_0 18 0 r104 → vp_in 1 290 ∧ (∀ w114 : Md, w114 = tA w107 18 1 y1 → vp_in 4 11570 ∧ (∃ n' : Nat, qX12_act_132 Q n' w114 y1 (3710 + (290 * (gA w114 1 (4 : Int32).toNatClampNeg))) 0))))) ∧ (r89 = 0 → Q ((-4)) v89_0))
def qX12_act_62 (Q : Int32 → Md → Prop) (K21 : Md → Int32 → Prop) (u0 : Md) (y1 : Int32) : Prop :=
  qX12_good u0 (fun r63 v63_0 => (r63 = 0 ∨ r63 = 1) → (¬ r63 = 0 → qX12_line v63_0 (2 + (24 * y1)) (fun v79_0 => K21 v79_0 (y1 + Int32.ofInt 1))) ∧ (r63 = 0 → qX12_act_88 Q v63_0 y1))
def qX12_act_21 (Q : Int32 → Md → Prop) : Nat → Md → Int32 → Prop
  | 0 => fun _ _ => False
  | n + 1 => fun u0 y1 =>
  qX12_good u0 (fun r22 v22_0 => (r22 = 0 ∨ r22 = 1) → (r22 = 0 → qX12_act_88 Q v22_0 y1) ∧ (¬ r22 = 0 → ((gF v22_0 13) = 0 → qX12_act_88 Q v22_0 y1) ∧ (¬ (gF v22_0 13) = 0 → qX12_sortHere v22_0 (fun r36 v36_0 => (¬ r36 = ((-1)) → (¬ y1 = 12 → qX12_act_62 Q (qX12_act_21 Q n) v36_0 y1) ∧ (y1 = 12 → qX12_wrong v36_0 3 (fun v59_0 => qX12_act_62 Q (qX12_act_21 Q n) v59_0 y1))) ∧ (r36 = ((-1)) → qX12_wrong v36_0 1 (fun v45_0 => qX12_act_62 Q (qX12_act_21 Q n) v45_0 y1))))))
def qX12_act (u0 : Md) (Q : Int32 → Md → Prop) : Prop :=
  vp_in 4 11570 ∧ ((¬ (gA u0 1 (4 : Int32).toNatClampNeg) = 8 → qX12_begins u0 1 (fun v16_0 => ∃ n' : Nat, qX12_act_21 Q n' v16_0 0)) ∧ ((gA u0 1 (4 : Int32).toNatClampNeg) = 8 → Q ((-3)) u0))
def qX12_actOf_4 (Q : Int32 → Md → Prop) : Nat → Md → Int32 → Int32 → Int32 → Prop
  | 0 => fun _ _ _ _ => False
  | n + 1 => fun u0 y1 y2 y3 =>
  vp_in 4 11570 ∧ (((gA u0 1 (4 : Int32).toNatClampNeg) ≤ y3 → Q y2 u0) ∧ (¬ (gA u0 1 (4 : Int32).toNatClampNeg) ≤ y3 → vp_in (3710 + (290 * y3)) 11570 ∧ ((y1 < (gA u0 1 (3710 + (290 * y3)).toNatClampNeg) → qX12_actOf_4 Q n u0 y1 y2 (y3 + Int32.ofInt 1)) ∧ (¬ y1 < (gA u0 1 (3710 + (290 * y3)).toNatClampNeg) → qX12_actOf_4 Q n u0 y1 (3710 + (290 * y3)) (y3 + Int32.ofInt 1)))))
def qX12_actOf (u0 : Md) (x1 : Int32) (Q : Int32 → Md → Prop) : Prop :=
  ∃ n' : Nat, qX12_actOf_4 Q n' u0 x1 ((-1)) 0
def qX12_termOf_16 (Q : Int32 → Md → Prop) : Nat → Md → Int32 → Int32 → Int32 → Int32 → Int32 → Prop
  | 0 => fun _ _ _ _ _ _ => False
  | n + 1 => fun u0 y1 y2 y4 y5 y6 =>
  (y4 = ((-1)) → Q y5 u0) ∧ (¬ y4 = ((-1)) → vp_in (y4 + 1) 11570 ∧ (((gA u0 1 (y4 + 1).toNatClampNeg) ≤ y6 → Q y5 u0) ∧ (¬ (gA u0 1 (y4 + 1).toNatClampNeg) ≤ y6 → vp_in ((y4 + 2) + (24 * y6)) 11570 ∧ ((¬ (gA u0 1 ((y4 + 2) + (24 * y6)).toNatClampNeg) = y1 → qX12_termOf_16 Q n u0 y1 y2 y4 y5 (y6 + Int32.ofInt 1)) ∧ ((gA u0 1 ((y4 + 2) + (24 * y6)).toNatClampNeg) = y1 → vp_in (((y4 + 2) + (24 * y6)) + y2) 11570 ∧ (qX12_termOf_16 Q n u0 y1 y2 y4 (gA u0 1 (((y4 + 2) + (24 * y6)) + y2).toNatClampNeg) (y6 + Int32.ofInt 1)))))))
def qX12_termOf (u0 : Md) (x1 : Int32) (x2 : Int32) (x3 : Int32) (Q : Int32 → Md → Prop) : Prop :=
  qX12_now u0 (fun r2 v2_0 => qX12_actOf v2_0 r2 (fun r5 v5_0 => ∃ n' : Nat, qX12_termOf_16 Q n' v5_0 x1 x2 r5 x3 0))
def qX12_partsOf_30 (Q : Int32 → Md → Prop) (K4 : Md → Int32 → Int32 → Int32 → Prop) (u0 : Md) (y1 : Int32) (y3 : Int32) (z0 : Int32) (z1 : Int32) : Prop :=
  K4 u0 y1 (z1 + z0) (y3 + Int32.ofInt 1)
def qX12_partsOf_4 (Q : Int32 → Md → Prop) : Nat → Md → Int32 → Int32 → Int32 → Prop
  | 0 => fun _ _ _ _ => False
  | n + 1 => fun u0 y1 y2 y3 =>
  vp_in 1 11570 ∧ (((gA u0 1 (1 : Int32).toNatClampNeg) ≤ y3 → Q y2 u0) ∧ (¬ (gA u0 1 (1 : Int32).toNatClampNeg) ≤ y3 → vp_in y3 40 ∧ ((¬ (gA u0 7 y3.toNatClampNeg) = y1 → qX12_partsOf_30 Q (qX12_partsOf_4 Q n) u0 y1 y3 0 y2) ∧ ((gA u0 7 y3.toNatClampNeg) = y1 → qX12_partsOf_30 Q (qX12_partsOf_4 Q n) u0 y1 y3 1 y2))))
def qX12_partsOf (u0 : Md) (x1 : Int32) (Q : Int32 → Md → Prop) : Prop :=
  ∃ n' : Nat, qX12_partsOf_4 Q n' u0 x1 0 0
def qX12_holdFor_212 (Q : Int32 → Md → Prop) (K5 : Md → Int32 → Int32 → Int32 → Int32 → Prop) (u0 : Md) (y1 : Int32) (y2 : Int32) (y3 : Int32) (y4 : Int32) (z0 : Int32) (z1 : Int32) : Prop :=
  (¬ z1 = z0 → K5 u0 y1 y2 y3 (y4 + Int32.ofInt 5)) ∧ (z1 = z0 → Q 0 u0)
def qX12_holdFor_192 (Q : Int32 → Md → Prop) (K5 : Md → Int32 → Int32 → Int32 → Int32 → Prop) (u0 : Md) (y1 : Int32) (y2 : Int32) (y3 : Int32) (y4 : Int32) (z0 : Int32) : Prop :=
  vp_in y4 11570 ∧ ((¬ (gA u0 1 y4.toNatClampNeg) = 1 → qX12_holdFor_212 Q K5 u0 y1 y2 y3 y4 0 z0) ∧ ((gA u0 1 y4.toNatClampNeg) = 1 → qX12_holdFor_212 Q K5 u0 y1 y2 y3 y4 1 z0))
def qX12_holdFor_109 (Q : Int32 → Md → Prop) (K5 : Md → Int32 → Int32 → Int32 → Int32 → Prop) (u0 : Md) (y1 : Int32) (y2 : Int32) (y3 : Int32) (y4 : Int32) (z0 : Int32) : Prop :=
  vp_in (y4 + 4) 11570 ∧ (vp_in (y4 + 3) 11570 ∧ ((¬ (gA u0 1 (y4 + 3).toNatClampNeg) = 60 → vp_in (y4 + 3) 11570 ∧ ((¬ (gA u0 1 (y4 + 3).toNatClampNeg) = 62 → (¬ z0 = (gA u0 1 (y4 + 4).toNatClampNeg) → qX12_holdFor_192 Q K5 u0 y1 y2 y3 y4 0) ∧ (z0 = (gA u0 1 (y4 + 4).toNatClampNeg) → qX12_holdFor_192 Q K5 u0 y1 y2 y3 y4 1)) ∧ ((gA u0 1 (y4 + 3).toNatClampNeg) = 62 → (z0 ≤ (gA u0 1 (y4 + 4).toNatClampNeg) → qX12_holdFor_192 Q K5 u0 y1 y2 y3 y4 0) ∧ (¬ z0 ≤ (gA u0 1 (y4 + 4).toNatClampNeg) → qX12_holdFor_192 Q K5 u0 y1 y2 y3 y4 1)))) ∧ ((gA u0 1 (y4 + 3).toNatClampNeg) = 60 → ((gA u0 1 (y4 + 4).toNatClampNeg) ≤ z0 → qX12_holdFor_192 Q K5 u0 y1 y2 y3 y4 0) ∧ (¬ (gA u0 1 (y4 + 4).toNatClampNeg) ≤ z0 → qX12_holdFor_192 Q K5 u0 y1 y2 y3 y4 1))))
def qX12_holdFor_5 (Q : Int32 → Md → Prop) : Nat → Md → Int32 → Int32 → Int32 → Int32 → Prop
  | 0 => fun _ _ _ _ _ => False
  | n + 1 => fun u0 y1 y2 y3 y4 =>
  vp_in (y1 + 3) 11570 ∧ ((((y1 + 4) + (5 * (gA u0 1 (y1 + 3).toNatClampNeg))) ≤ y4 → Q 1 u0) ∧ (¬ ((y1 + 4) + (5 * (gA u0 1 (y1 + 3).toNatClampNeg))) ≤ y4 → qX12_allOf u0 y2 (fun r26 v26_0 => vp_in (y4 + 1) 11570 ∧ ((¬ (gA v26_0 1 (y4 + 1).toNatClampNeg) = 0 → (¬ (gA v26_0 1 (y4 + 1).toNatClampNeg) = 1 → (¬ (gA v26_0 1 (y4 + 1).toNatClampNeg) = 2 → qX12_holdFor_109 Q (qX12_holdFor_5 Q n) v26_0 y1 y2 y3 y4 y3) ∧ ((gA v26_0 1 (y4 + 1).toNatClampNeg) = 2 → qX12_partsOf v26_0 y2 (fun r102 v102_0 => qX12_holdFor_109 Q (qX12_holdFor_5 Q n) v102_0 y1 y2 y3 y4 r102))) ∧ ((gA v26_0 1 (y4 + 1).toNatClampNeg) = 1 → qX12_holdFor_109 Q (qX12_holdFor_5 Q n) v26_0 y1 y2 y3 y4 r26)) ∧ ((gA v26_0 1 (y4 + 1).toNatClampNeg) = 0 → (¬ r26 = 0 → vp_in (y4 + 2) 11570 ∧ (vp_in ((3 * y2) + (gA v26_0 1 (y4 + 2).toNatClampNeg)) 120 ∧ (¬ r26 = 0 ∧ (qX12_holdFor_109 Q (qX12_holdFor_5 Q n) v26_0 y1 y2 y3 y4 ((100 * (gA v26_0 9 ((3 * y2) + (gA v26_0 1 (y4 + 2).toNatClampNeg)).toNatClampNeg)) / r26))))) ∧ (r26 = 0 → qX12_holdFor_109 Q (qX12_holdFor_5 Q n) v26_0 y1 y2 y3 y4 0))))))
def qX12_holdFor (u0 : Md) (x1 : Int32) (x2 : Int32) (x3 : Int32) (Q : Int32 → Md → Prop) : Prop :=
  ∃ n' : Nat, qX12_holdFor_5 Q n' u0 x1 x2 x3 (x1 + 4)
def qX12_most_46 (Q : Int32 → Md → Prop) (K5 : Md → Int32 → Int32 → Int32 → Int32 → Prop) (u0 : Md) (y1 : Int32) (y2 : Int32) (y4 : Int32) : Prop :=
  K5 u0 y1 y2 y4 (y4 + Int32.ofInt 1)
def qX12_most_5 (Q : Int32 → Md → Prop) : Nat → Md → Int32 → Int32 → Int32 → Int32 → Prop
  | 0 => fun _ _ _ _ _ => False
  | n + 1 => fun u0 y1 y2 y3 y4 =>
  (3 ≤ y4 → Q y3 u0) ∧ (¬ 3 ≤ y4 → (y4 = y2 → qX12_most_5 Q n u0 y1 y2 y3 (y4 + Int32.ofInt 1)) ∧ (¬ y4 = y2 → (y3 = ((-1)) → qX12_most_46 Q (qX12_most_5 Q n) u0 y1 y2 y4) ∧ (¬ y3 = ((-1)) → vp_in ((3 * y1) + y4) 120 ∧ (vp_in ((3 * y1) + y3) 120 ∧ (((gA u0 9 ((3 * y1) + y4).toNatClampNeg) ≤ (gA u0 9 ((3 * y1) + y3).toNatClampNeg) → qX12_most_5 Q n u0 y1 y2 y3 (y4 + Int32.ofInt 1)) ∧ (¬ (gA u0 9 ((3 * y1) + y4).toNatClampNeg) ≤ (gA u0 9 ((3 * y1) + y3).toNatClampNeg) → qX12_most_46 Q (qX12_most_5 Q n) u0 y1 y2 y4))))))
def qX12_most (u0 : Md) (x1 : Int32) (x2 : Int32) (Q : Int32 → Md → Prop) : Prop :=
  ∃ n' : Nat, qX12_most_5 Q n' u0 x1 x2 ((-1)) 0
def qX12_firstOf_79 (Q : Int32 → Md → Prop) (u0 : Md) (y1 : Int32) : Prop :=
  qX12_most u0 y1 ((-1)) (fun r82 v82_0 => Q r82 v82_0)
def qX12_firstOf_10 (Q : Int32 → Md → Prop) : Nat → Md → Int32 → Int32 → Int32 → Int32 → Prop
  | 0 => fun _ _ _ _ _ => False
  | n + 1 => fun u0 y1 y3 y4 y5 =>
  (y4 = ((-1)) → qX12_firstOf_79 Q u0 y1) ∧ (¬ y4 = ((-1)) → vp_in (y4 + 1) 11570 ∧ (((gA u0 1 (y4 + 1).toNatClampNeg) ≤ y5 → qX12_firstOf_79 Q u0 y1) ∧ (¬ (gA u0 1 (y4 + 1).toNatClampNeg) ≤ y5 → vp_in ((y4 + 2) + (24 * y5)) 11570 ∧ ((¬ (gA u0 1 ((y4 + 2) + (24 * y5)).toNatClampNeg) = 0 → qX12_firstOf_10 Q n u0 y1 y3 y4 (y5 + Int32.ofInt 1)) ∧ ((gA u0 1 ((y4 + 2) + (24 * y5)).toNatClampNeg) = 0 → qX12_holdFor u0 ((y4 + 2) + (24 * y5)) y1 y3 (fun r57 v57_0 => (r57 = 0 ∨ r57 = 1) → (r57 = 0 → qX12_firstOf_10 Q n v57_0 y1 y3 y4 (y5 + Int32.ofInt 1)) ∧ (¬ r57 = 0 → vp_in (((y4 + 2) + (24 * y5)) + 1) 11570 ∧ (Q (gA v57_0 1 (((y4 + 2) + (24 * y5)) + 1).toNatClampNeg) v57_0))))))))
def qX12_firstOf (u0 : Md) (x1 : Int32) (x2 : Int32) (x3 : Int32) (Q : Int32 → Md → Prop) : Prop :=
  qX12_actOf u0 x2 (fun r2 v2_0 => ∃ n' : Nat, qX12_firstOf_10 Q n' v2_0 x1 x3 r2 0)
def qX12_besideOf_89 (Q : Int32 → Md → Prop) (u0 : Md) (y1 : Int32) (y2 : Int32) (y3 : Int32) (y5 : Int32) : Prop :=
  qX12_firstOf u0 y1 y2 y3 (fun r95 v95_0 => qX12_most v95_0 y1 r95 (fun r98 v98_0 => (y5 = 0 → Q ((-1)) v98_0) ∧ (¬ y5 = 0 → vp_in ((3 * y1) + r98) 120 ∧ (((gA v98_0 9 ((3 * y1) + r98).toNatClampNeg) ≤ 0 → Q ((-1)) v98_0) ∧ (¬ (gA v98_0 9 ((3 * y1) + r98).toNatClampNeg) ≤ 0 → Q r98 v98_0)))))
def qX12_besideOf_76 (Q : Int32 → Md → Prop) (K13 : Md → Int32 → Int32 → Int32 → Int32 → Int32 → Int32 → Prop) (u0 : Md) (y1 : Int32) (y2 : Int32) (y3 : Int32) (y4 : Int32) (y6 : Int32) : Prop :=
  K13 u0 y1 y2 y3 y4 1 (y6 + Int32.ofInt 1)
def qX12_besideOf_80 (Q : Int32 → Md → Prop) (K13 : Md → Int32 → Int32 → Int32 → Int32 → Int32 → Int32 → Prop) (u0 : Md) (y1 : Int32) (y2 : Int32) (y3 : Int32) (y4 : Int32) (y6 : Int32) : Prop :=
  K13 u0 y1 y2 y3 y4 0 (y6 + Int32.ofInt 1)
def qX12_besideOf_13 (Q : Int32 → Md → Prop) : Nat → Md → Int32 → Int32 → Int32 → Int32 → Int32 → Int32 → Prop
  | 0 => fun _ _ _ _ _ _ _ => False
  | n + 1 => fun u0 y1 y2 y3 y4 y5 y6 =>
  (y4 = ((-1)) → qX12_besideOf_89 Q u0 y1 y2 y3 y5) ∧ (¬ y4 = ((-1)) → vp_in (y4 + 1) 11570 ∧ (((gA u0 1 (y4 + 1).toNatClampNeg) ≤ y6 → qX12_besideOf_89 Q u0 y1 y2 y3 y5) ∧ (¬ (gA u0 1 (y4 + 1).toNatClampNeg) ≤ y6 → (¬ y5 = 0 → qX12_besideOf_76 Q (qX12_besideOf_13 Q n) u0 y1 y2 y3 y4 y6) ∧ (y5 = 0 → vp_in ((y4 + 2) + (24 * y6)) 11570 ∧ ((¬ (gA u0 1 ((y4 + 2) + (24 * y6)).toNatClampNeg) = 1 → qX12_besideOf_80 Q (qX12_besideOf_13 Q n) u0 y1 y2 y3 y4 y6) ∧ ((gA u0 1 ((y4 + 2) + (24 * y6)).toNatClampNeg) = 1 → qX12_holdFor u0 ((y4 + 2) + (24 * y6)) y1 y3 (fun r70 v70_0 => (r70 = 0 ∨ r70 = 1) → (r70 = 0 → qX12_besideOf_80 Q (qX12_besideOf_13 Q n) v70_0 y1 y2 y3 y4 y6) ∧ (¬ r70 = 0 → qX12_besideOf_76 Q (qX12_besideOf_13 Q n) v70_0 y1 y2 y3 y4 y6))))))))
def qX12_besideOf (u0 : Md) (x1 : Int32) (x2 : Int32) (x3 : Int32) (Q : Int32 → Md → Prop) : Prop :=
  qX12_actOf u0 x2 (fun r2 v2_0 => ∃ n' : Nat, qX12_besideOf_13 Q n' v2_0 x1 x2 x3 r2 0 0)
def qX12_first (u0 : Md) (x1 : Int32) (x2 : Int32) (x3 : Int32) (Q : Int32 → Md → Prop) : Prop :=
  qX12_isPlace u0 x1 (fun r2 v2_0 => (r2 = 0 ∨ r2 = 1) → (r2 = 0 → Q ((-2)) v2_0) ∧ (¬ r2 = 0 → qX12_isYear x2 (fun r9 => (r9 = 0 ∨ r9 = 1) → (r9 = 0 → Q ((-2)) v2_0) ∧ (¬ r9 = 0 → qX12_isYear x3 (fun r16 => (r16 = 0 ∨ r16 = 1) → (¬ r16 = 0 → qX12_looks v2_0 (imin x2 x3) (fun v35_0 => qX12_firstOf v35_0 x1 (imin x2 x3) x2 (fun r43 v43_0 => Q r43 v43_0))) ∧ (r16 = 0 → Q ((-2)) v2_0))))))
def qX12_beside (u0 : Md) (x1 : Int32) (x2 : Int32) (x3 : Int32) (Q : Int32 → Md → Prop) : Prop :=
  qX12_isPlace u0 x1 (fun r2 v2_0 => (r2 = 0 ∨ r2 = 1) → (r2 = 0 → Q ((-2)) v2_0) ∧ (¬ r2 = 0 → qX12_isYear x2 (fun r9 => (r9 = 0 ∨ r9 = 1) → (r9 = 0 → Q ((-2)) v2_0) ∧ (¬ r9 = 0 → qX12_isYear x3 (fun r16 => (r16 = 0 ∨ r16 = 1) → (¬ r16 = 0 → qX12_looks v2_0 (imin x2 x3) (fun v35_0 => qX12_besideOf v35_0 x1 (imin x2 x3) x2 (fun r43 v43_0 => Q r43 v43_0))) ∧ (r16 = 0 → Q ((-2)) v2_0))))))
def qX12_swings_177 (Q : Int32 → Md → Prop) (K38 : Md → Int32 → Int32 → Int32 → Int32 → Prop) (K47 : Md → Int32 → Int32 → Int32 → Int32 → Int32 → Prop) (u0 : Md) (y1 : Int32) (y2 : Int32) (y3 : Int32) (y4 : Int32) (y5 : Int32) (y6 : Int32) (y7 : Int32) : Prop :=
  vp_in ((3 * y1) + y4) 120 ∧ (∀ w189 : Md, w189 = tA u0 9 ((3 * y1) + y4) y6 → vp_in ((3 * y1) + y5) 120 ∧ (∀ w202 : Md, w202 = tA w189 9 ((3 * y1) + y5) y7 → K47 w202 y1 y2 y3 y4 (y5 + Int32.ofInt 1)))
def qX12_swings_119 (Q : Int32 → Md → Prop) (K38 : Md → Int32 → Int32 → Int32 → Int32 → Prop) (K47 : Md → Int32 → Int32 → Int32 → Int32 → Int32 → Prop) (K92 : Md → Int32 → Int32 → Int32 → Int32 → Int32 → Int32 → Int32 → Int32 → Prop) (u0 : Md) (y1 : Int32) (y2 : Int32) (y3 : Int32) (y4 : Int32) (y5 : Int32) (y6 : Int32) (y7 : Int32) (y8 : Int32) : Prop :=
  vp_in ((3 * y1) + y4) 120 ∧ (∀ w134 : Md, w134 = tA u0 9 ((3 * y1) + y4) (y6 - y8) → vp_in ((3 * y1) + y5) 120 ∧ (∀ w150 : Md, w150 = tA w134 9 ((3 * y1) + y5) (y7 + y8) → qX12_now w150 (fun r154 v154_0 => qX12_now v154_0 (fun r158 v158_0 => qX12_firstOf v158_0 y1 r154 r158 (fun r161 v161_0 => (r161 = y2 → K92 v161_0 y1 y2 y3 y4 y5 y6 y7 (y8 + Int32.ofInt 1)) ∧ (¬ r161 = y2 → K92 v161_0 y1 y2 y8 y4 y5 y6 y7 (y8 + Int32.ofInt 1)))))))
def qX12_swings_92 (Q : Int32 → Md → Prop) (K38 : Md → Int32 → Int32 → Int32 → Int32 → Prop) (K47 : Md → Int32 → Int32 → Int32 → Int32 → Int32 → Prop) : Nat → Md → Int32 → Int32 → Int32 → Int32 → Int32 → Int32 → Int32 → Int32 → Prop
  | 0 => fun _ _ _ _ _ _ _ _ _ => False
  | n + 1 => fun u0 y1 y2 y3 y4 y5 y6 y7 y8 =>
  vp_in ((3 * y1) + y4) 120 ∧ (((gA u0 8 ((3 * y1) + y4).toNatClampNeg) < y8 → qX12_swings_177 Q K38 K47 u0 y1 y2 y3 y4 y5 y6 y7) ∧ (¬ (gA u0 8 ((3 * y1) + y4).toNatClampNeg) < y8 → (y3 = ((-1)) → qX12_swings_119 Q K38 K47 (qX12_swings_92 Q K38 K47 n) u0 y1 y2 y3 y4 y5 y6 y7 y8) ∧ (¬ y3 = ((-1)) → (y3 ≤ y8 → qX12_swings_177 Q K38 K47 u0 y1 y2 y3 y4 y5 y6 y7) ∧ (¬ y3 ≤ y8 → qX12_swings_119 Q K38 K47 (qX12_swings_92 Q K38 K47 n) u0 y1 y2 y3 y4 y5 y6 y7 y8))))
def qX12_swings_47 (Q : Int32 → Md → Prop) (K38 : Md → Int32 → Int32 → Int32 → Int32 → Prop) : Nat → Md → Int32 → Int32 → Int32 → Int32 → Int32 → Prop
  | 0 => fun _ _ _ _ _ _ => False
  | n + 1 => fun u0 y1 y2 y3 y4 y5 =>
  (3 ≤ y5 → K38 u0 y1 y2 y3 (y4 + Int32.ofInt 1)) ∧ (¬ 3 ≤ y5 → (¬ y4 = y5 → vp_in ((3 * y1) + y4) 120 ∧ (vp_in ((3 * y1) + y5) 120 ∧ (∃ n' : Nat, qX12_swings_92 Q K38 (qX12_swings_47 Q K38 n) n' u0 y1 y2 y3 y4 y5 (gA u0 9 ((3 * y1) + y4).toNatClampNeg) (gA u0 9 ((3 * y1) + y5).toNatClampNeg) 1))) ∧ (y4 = y5 → qX12_swings_47 Q K38 n u0 y1 y2 y3 y4 (y5 + Int32.ofInt 1)))
def qX12_swings_38 (Q : Int32 → Md → Prop) : Nat → Md → Int32 → Int32 → Int32 → Int32 → Prop
  | 0 => fun _ _ _ _ _ => False
  | n + 1 => fun u0 y1 y2 y3 y4 =>
  (3 ≤ y4 → Q y3 u0) ∧ (¬ 3 ≤ y4 → ∃ n' : Nat, qX12_swings_47 Q (qX12_swings_38 Q n) n' u0 y1 y2 y3 y4 0)
def qX12_swings (u0 : Md) (x1 : Int32) (Q : Int32 → Md → Prop) : Prop :=
  qX12_isPlace u0 x1 (fun r2 v2_0 => (r2 = 0 ∨ r2 = 1) → (¬ r2 = 0 → qX12_now v2_0 (fun r13 v13_0 => qX12_looks v13_0 r13 (fun v16_0 => qX12_now v16_0 (fun r22 v22_0 => qX12_now v22_0 (fun r26 v26_0 => qX12_firstOf v26_0 x1 r22 r26 (fun r29 v29_0 => ∃ n' : Nat, qX12_swings_38 Q n' v29_0 x1 r29 ((-1)) 0)))))) ∧ (r2 = 0 → Q ((-2)) v2_0))
def qX12_isHearing (u0 : Md) (x1 : Int32) (Q : Int32 → Md → Prop) : Prop :=
  vp_in 5 11570 ∧ (qX12_in x1.toInt64 0 (((gA u0 1 (5 : Int32).toNatClampNeg) - 1).toInt64) (fun r12 => (r12 = 0 ∨ r12 = 1) → Q r12 u0))
def qX12_hearing (x1 : Int32) (Q : Int32 → Prop) : Prop :=
  Q (6030 + (11 * x1))
def qX12_ask_109 (Q : Int32 → Md → Prop) : Nat → Md → Int32 → Int32 → Prop
  | 0 => fun _ _ _ => False
  | n + 1 => fun u0 y2 y3 =>
  (9 ≤ y3 → vp_in 5 11570 ∧ (vp_in 5 11570 ∧ (∀ w145 : Md, w145 = tA u0 1 5 ((gA u0 1 (5 : Int32).toNatClampNeg) + 1) → Q y2 w145))) ∧ (¬ 9 ≤ y3 → qX12_hearing y2 (fun r121 => vp_in ((r121 + 2) + y3) 11570 ∧ (∀ w129 : Md, w129 = tA u0 1 ((r121 + 2) + y3) 0 → qX12_ask_109 Q n w129 y2 (y3 + Int32.ofInt 1))))
def qX12_ask_29 (Q : Int32 → Md → Prop) : Nat → Md → Int32 → Int32 → Int32 → Prop
  | 0 => fun _ _ _ _ => False
  | n + 1 => fun u0 y1 y2 y3 =>
  (y2 ≤ y3 → qX12_hearing y2 (fun r89 => vp_in r89 11570 ∧ (∀ w93 : Md, w93 = tA u0 1 r89 y1 → qX12_hearing y2 (fun r100 => vp_in (r100 + 1) 11570 ∧ (∀ w106 : Md, w106 = tA w93 1 (r100 + 1) 1 → ∃ n' : Nat, qX12_ask_109 Q n' w106 y2 0))))) ∧ (¬ y2 ≤ y3 → qX12_hearing y3 (fun r40 => vp_in (r40 + 1) 11570 ∧ ((¬ (gA u0 1 (r40 + 1).toNatClampNeg) = 1 → qX12_ask_29 Q n u0 y1 y2 (y3 + Int32.ofInt 1)) ∧ ((gA u0 1 (r40 + 1).toNatClampNeg) = 1 → qX12_hearing y3 (fun r57 => vp_in r57 11570 ∧ (qX12_nameIs u0 (gA u0 1 r57.toNatClampNeg) 0 (fun r62 v62_0 => qX12_nameIs v62_0 y1 0 (fun r68 v68_0 => (¬ r62 = r68 → qX12_ask_29 Q n v68_0 y1 y2 (y3 + Int32.ofInt 1)) ∧ (r62 = r68 → Q ((-5)) v68_0)))))))))
def qX12_ask (u0 : Md) (x1 : Int32) (Q : Int32 → Md → Prop) : Prop :=
  qX12_isName u0 x1 (fun r2 v2_0 => (r2 = 0 ∨ r2 = 1) → (¬ r2 = 0 → vp_in 5 11570 ∧ ((¬ (gA v2_0 1 (5 : Int32).toNatClampNeg) = 60 → ∃ n' : Nat, qX12_ask_29 Q n' v2_0 x1 (gA v2_0 1 (5 : Int32).toNatClampNeg) 0) ∧ ((gA v2_0 1 (5 : Int32).toNatClampNeg) = 60 → Q ((-3)) v2_0))) ∧ (r2 = 0 → Q ((-2)) v2_0))
def qX12_vote (u0 : Md) (x1 : Int32) (x2 : Int32) (x3 : Int32) (Q : Int32 → Md → Prop) : Prop :=
  qX12_isHearing u0 x1 (fun r2 v2_0 => (r2 = 0 ∨ r2 = 1) → (r2 = 0 → Q ((-2)) v2_0) ∧ (¬ r2 = 0 → qX12_in x2.toInt64 0 8 (fun r14 => (r14 = 0 ∨ r14 = 1) → (¬ r14 = 0 → qX12_hearing x1 (fun r29 => vp_in (r29 + 1) 11570 ∧ ((¬ (gA v2_0 1 (r29 + 1).toNatClampNeg) = 0 → qX12_hearing x1 (fun r47 => (x3 = 0 → vp_in ((r47 + 2) + x2) 11570 ∧ (∀ w63 : Md, w63 = tA v2_0 1 ((r47 + 2) + x2) 2 → Q 0 w63)) ∧ (¬ x3 = 0 → vp_in ((r47 + 2) + x2) 11570 ∧ (∀ w63 : Md, w63 = tA v2_0 1 ((r47 + 2) + x2) 1 → Q 0 w63)))) ∧ ((gA v2_0 1 (r29 + 1).toNatClampNeg) = 0 → Q ((-5)) v2_0)))) ∧ (r14 = 0 → Q ((-2)) v2_0))))
def qX12_event (u0 : Md) (x1 : Int32) (x2 : Int32) (x3 : Int32) (Q : Md → Prop) : Prop :=
  vp_in 9 11570 ∧ (vp_in (9170 + (4 * (gA u0 1 (9 : Int32).toNatClampNeg))) 11570 ∧ (∀ w22 : Md, w22 = tA u0 1 (9170 + (4 * (gA u0 1 (9 : Int32).toNatClampNeg))) x1 → vp_in ((9170 + (4 * (gA u0 1 (9 : Int32).toNatClampNeg))) + 1) 11570 ∧ (∀ w32 : Md, w32 = tA w22 1 ((9170 + (4 * (gA u0 1 (9 : Int32).toNatClampNeg))) + 1) x2 → vp_in ((9170 + (4 * (gA u0 1 (9 : Int32).toNatClampNeg))) + 2) 11570 ∧ (∀ w42 : Md, w42 = tA w32 1 ((9170 + (4 * (gA u0 1 (9 : Int32).toNatClampNeg))) + 2) x3 → qX12_now w42 (fun r52 v52_0 => vp_in ((9170 + (4 * (gA u0 1 (9 : Int32).toNatClampNeg))) + 3) 11570 ∧ (∀ w55 : Md, w55 = tA v52_0 1 ((9170 + (4 * (gA u0 1 (9 : Int32).toNatClampNeg))) + 3) r52 → vp_in 9 11570 ∧ (vp_in 9 11570 ∧ (∀ w66 : Md, w66 = tA w55 1 9 ((gA w55 1 (9 : Int32).toNatClampNeg) + 1) → Q w66))))))))
def qX12_settledOf_8 (Q : Int32 → Md → Prop) : Nat → Md → Int32 → Int32 → Int32 → Int32 → Int32 → Prop
  | 0 => fun _ _ _ _ _ _ => False
  | n + 1 => fun u0 y1 y2 y3 y4 y5 =>
  vp_in 9 11570 ∧ (((9170 + (4 * (gA u0 1 (9 : Int32).toNatClampNeg))) ≤ y5 → (¬ y4 = 0 → vp_in (y4 - 1) 60 ∧ (Q (gA u0 28 (y4 - 1).toNatClampNeg) u0)) ∧ (y4 = 0 → Q ((-1)) u0)) ∧ (¬ (9170 + (4 * (gA u0 1 (9 : Int32).toNatClampNeg))) ≤ y5 → vp_in y5 11570 ∧ ((¬ (gA u0 1 y5.toNatClampNeg) = y1 → qX12_settledOf_8 Q n u0 y1 y2 y3 y4 (y5 + Int32.ofInt 4)) ∧ ((gA u0 1 y5.toNatClampNeg) = y1 → vp_in (y5 + 1) 11570 ∧ ((¬ (gA u0 1 (y5 + 1).toNatClampNeg) = y2 → qX12_settledOf_8 Q n u0 y1 y2 y3 y4 (y5 + Int32.ofInt 4)) ∧ ((gA u0 1 (y5 + 1).toNatClampNeg) = y2 → vp_in (y5 + 3) 11570 ∧ (((gA u0 1 (y5 + 3).toNatClampNeg) ≤ y3 → vp_in (y5 + 2) 11570 ∧ ((¬ (gA u0 1 (y5 + 2).toNatClampNeg) = ((-1)) → vp_in (y5 + 2) 11570 ∧ (vp_in y4 60 ∧ (∀ w100 : Md, w100 = tA u0 28 y4 (gA u0 1 (y5 + 2).toNatClampNeg) → qX12_settledOf_8 Q n w100 y1 y2 y3 (y4 + Int32.ofInt 1) (y5 + Int32.ofInt 4)))) ∧ ((gA u0 1 (y5 + 2).toNatClampNeg) = ((-1)) → qX12_settledOf_8 Q n u0 y1 y2 y3 (y4 + Int32.ofInt (-1)) (y5 + Int32.ofInt 4)))) ∧ (¬ (gA u0 1 (y5 + 3).toNatClampNeg) ≤ y3 → qX12_settledOf_8 Q n u0 y1 y2 y3 y4 (y5 + Int32.ofInt 4)))))))))
def qX12_settledOf (u0 : Md) (x1 : Int32) (x2 : Int32) (x3 : Int32) (Q : Int32 → Md → Prop) : Prop :=
  ∃ n' : Nat, qX12_settledOf_8 Q n' u0 x1 x2 x3 0 9170
def qX12_isNear (u0 : Md) (x1 : Int32) (x2 : Int32) (x3 : Int32) (Q : Int32 → Md → Prop) : Prop :=
  vp_in (10 + (2 * x1)) 11570 ∧ (vp_in (10 + (2 * x2)) 11570 ∧ (vp_in ((10 + (2 * x1)) + 1) 11570 ∧ (vp_in ((10 + (2 * x2)) + 1) 11570 ∧ ((0 < (lg_cmp (((((gA u0 1 (10 + (2 * x1)).toNatClampNeg) - (gA u0 1 (10 + (2 * x2)).toNatClampNeg)).toInt64) * (((gA u0 1 (10 + (2 * x1)).toNatClampNeg) - (gA u0 1 (10 + (2 * x2)).toNatClampNeg)).toInt64)) + ((((gA u0 1 ((10 + (2 * x1)) + 1).toNatClampNeg) - (gA u0 1 ((10 + (2 * x2)) + 1).toNatClampNeg)).toInt64) * (((gA u0 1 ((10 + (2 * x1)) + 1).toNatClampNeg) - (gA u0 1 ((10 + (2 * x2)) + 1).toNatClampNeg)).toInt64))) (x3.toInt64 * x3.toInt64)) → Q 0 u0) ∧ (¬ 0 < (lg_cmp (((((gA u0 1 (10 + (2 * x1)).toNatClampNeg) - (gA u0 1 (10 + (2 * x2)).toNatClampNeg)).toInt64) * (((gA u0 1 (10 + (2 * x1)).toNatClampNeg) - (gA u0 1 (10 + (2 * x2)).toNatClampNeg)).toInt64)) + ((((gA u0 1 ((10 + (2 * x1)) + 1).toNatClampNeg) - (gA u0 1 ((10 + (2 * x2)) + 1).toNatClampNeg)).toInt64) * (((gA u0 1 ((10 + (2 * x1)) + 1).toNatClampNeg) - (gA u0 1 ((10 + (2 * x2)) + 1).toNatClampNeg)).toInt64))) (x3.toInt64 * x3.toInt64)) → Q 1 u0)))))
def qX12_isTooAlike_59 (Q : Int32 → Md → Prop) (K25 : Md → Int32 → Int32 → Int32 → Int32 → Prop) : Nat → Md → Int32 → Int32 → Int32 → Int32 → Int32 → Prop
  | 0 => fun _ _ _ _ _ _ => False
  | n + 1 => fun u0 y1 y2 y3 y4 y5 =>
  (3 ≤ y5 → K25 u0 y1 y2 y3 (y4 + Int32.ofInt 1)) ∧ (¬ 3 ≤ y5 → qX12_now u0 (fun r71 v71_0 => qX12_settledOf v71_0 y4 y5 r71 (fun r74 v74_0 => (r74 = ((-1)) → qX12_isTooAlike_59 Q K25 n v74_0 y1 y2 y3 y4 (y5 + Int32.ofInt 1)) ∧ (¬ r74 = ((-1)) → qX12_now v74_0 (fun r90 v90_0 => qX12_editsOf v90_0 y1 r74 r90 (fun r93 v93_0 => qX12_termOf v93_0 2 2 0 (fun r100 v100_0 => (r100 < r93 → qX12_isTooAlike_59 Q K25 n v100_0 y1 y2 y3 y4 (y5 + Int32.ofInt 1)) ∧ (¬ r100 < r93 → Q 1 v100_0))))))))
def qX12_isTooAlike_25 (Q : Int32 → Md → Prop) : Nat → Md → Int32 → Int32 → Int32 → Int32 → Prop
  | 0 => fun _ _ _ _ _ => False
  | n + 1 => fun u0 y1 y2 y3 y4 =>
  vp_in 1 11570 ∧ (((gA u0 1 (1 : Int32).toNatClampNeg) ≤ y4 → Q 0 u0) ∧ (¬ (gA u0 1 (1 : Int32).toNatClampNeg) ≤ y4 → (y4 = y3 → qX12_isTooAlike_25 Q n u0 y1 y2 y3 (y4 + Int32.ofInt 1)) ∧ (¬ y4 = y3 → qX12_isNear u0 y4 y3 y2 (fun r47 v47_0 => (r47 = 0 ∨ r47 = 1) → (¬ r47 = 0 → ∃ n' : Nat, qX12_isTooAlike_59 Q (qX12_isTooAlike_25 Q n) n' v47_0 y1 y2 y3 y4 0) ∧ (r47 = 0 → qX12_isTooAlike_25 Q n v47_0 y1 y2 y3 (y4 + Int32.ofInt 1))))))
def qX12_isTooAlike (u0 : Md) (x1 : Int32) (Q : Int32 → Md → Prop) : Prop :=
  qX12_termOf u0 2 1 ((-1)) (fun r4 v4_0 => (¬ r4 = ((-1)) → qX12_nameIs v4_0 x1 0 (fun r18 v18_0 => ∃ n' : Nat, qX12_isTooAlike_25 Q n' v18_0 x1 r4 r18 0)) ∧ (r4 = ((-1)) → Q 0 v4_0))
def qX12_close_191 (Q : Int32 → Md → Prop) (u0 : Md) (y4 : Int32) : Prop :=
  qX12_isTooAlike u0 y4 (fun r194 v194_0 => (r194 = 0 ∨ r194 = 1) → (r194 = 0 → qX12_nameIs v194_0 y4 0 (fun r207 v207_0 => qX12_nameIs v207_0 y4 1 (fun r214 v214_0 => qX12_event v214_0 r207 r214 y4 (fun v219_0 => Q 0 v219_0)))) ∧ (¬ r194 = 0 → Q 3 v194_0))
def qX12_close_107 (Q : Int32 → Md → Prop) (K49 : Md → Int32 → Int32 → Int32 → Int32 → Prop) (u0 : Md) (y1 : Int32) (y2 : Int32) (y4 : Int32) (z0 : Int32) (z1 : Int32) : Prop :=
  K49 u0 y1 y2 (z1 + z0) (y4 + Int32.ofInt 1)
def qX12_close_80 (Q : Int32 → Md → Prop) (K49 : Md → Int32 → Int32 → Int32 → Int32 → Prop) (u0 : Md) (y1 : Int32) (y3 : Int32) (y4 : Int32) (z0 : Int32) (z1 : Int32) : Prop :=
  qX12_hearing y1 (fun r89 => vp_in ((r89 + 2) + y4) 11570 ∧ ((¬ (gA u0 1 ((r89 + 2) + y4).toNatClampNeg) = 1 → qX12_close_107 Q K49 u0 y1 (z1 + z0) y4 0 y3) ∧ ((gA u0 1 ((r89 + 2) + y4).toNatClampNeg) = 1 → qX12_close_107 Q K49 u0 y1 (z1 + z0) y4 1 y3)))
def qX12_close_49 (Q : Int32 → Md → Prop) : Nat → Md → Int32 → Int32 → Int32 → Int32 → Prop
  | 0 => fun _ _ _ _ _ => False
  | n + 1 => fun u0 y1 y2 y3 y4 =>
  (9 ≤ y4 → (y2 = 0 → Q 1 u0) ∧ (¬ y2 = 0 → qX12_termOf u0 5 1 50 (fun r128 v128_0 => ((r128 * y2) ≤ (100 * y3) → qX12_hearing y1 (fun r144 => vp_in r144 11570 ∧ (qX12_nameIs v128_0 (gA v128_0 1 r144.toNatClampNeg) 2 (fun r154 v154_0 => (r154 = ((-9)) → Q 2 v154_0) ∧ (¬ r154 = ((-9)) → (r154 = ((-1)) → qX12_close_191 Q v154_0 (gA v128_0 1 r144.toNatClampNeg)) ∧ (¬ r154 = ((-1)) → qX12_now v154_0 (fun r173 v173_0 => qX12_termOf v173_0 3 1 0 (fun r183 v183_0 => (r183 ≤ (r173 - r154) → qX12_close_191 Q v183_0 (gA v128_0 1 r144.toNatClampNeg)) ∧ (¬ r183 ≤ (r173 - r154) → Q 2 v183_0))))))))) ∧ (¬ (r128 * y2) ≤ (100 * y3) → Q 1 v128_0)))) ∧ (¬ 9 ≤ y4 → qX12_hearing y1 (fun r63 => vp_in ((r63 + 2) + y4) 11570 ∧ (((gA u0 1 ((r63 + 2) + y4).toNatClampNeg) ≤ 0 → qX12_close_80 Q (qX12_close_49 Q n) u0 y1 y3 y4 0 y2) ∧ (¬ (gA u0 1 ((r63 + 2) + y4).toNatClampNeg) ≤ 0 → qX12_close_80 Q (qX12_close_49 Q n) u0 y1 y3 y4 1 y2))))
def qX12_close (u0 : Md) (x1 : Int32) (Q : Int32 → Md → Prop) : Prop :=
  qX12_isHearing u0 x1 (fun r2 v2_0 => (r2 = 0 ∨ r2 = 1) → (¬ r2 = 0 → qX12_hearing x1 (fun r17 => vp_in (r17 + 1) 11570 ∧ ((¬ (gA v2_0 1 (r17 + 1).toNatClampNeg) = 0 → qX12_hearing x1 (fun r35 => vp_in (r35 + 1) 11570 ∧ (∀ w41 : Md, w41 = tA v2_0 1 (r35 + 1) 0 → ∃ n' : Nat, qX12_close_49 Q n' w41 x1 0 0 0))) ∧ ((gA v2_0 1 (r17 + 1).toNatClampNeg) = 0 → Q ((-5)) v2_0)))) ∧ (r2 = 0 → Q ((-2)) v2_0))
def qX12_settled (u0 : Md) (x1 : Int32) (x2 : Int32) (x3 : Int32) (x4 : Int32) (Q : Int32 → Md → Prop) : Prop :=
  qX12_isPlace u0 x1 (fun r2 v2_0 => (r2 = 0 ∨ r2 = 1) → (r2 = 0 → Q ((-2)) v2_0) ∧ (¬ r2 = 0 → qX12_isTongue x2 (fun r9 => (r9 = 0 ∨ r9 = 1) → (r9 = 0 → Q ((-2)) v2_0) ∧ (¬ r9 = 0 → qX12_isYear x3 (fun r16 => (r16 = 0 ∨ r16 = 1) → (r16 = 0 → Q ((-2)) v2_0) ∧ (¬ r16 = 0 → qX12_isYear x4 (fun r24 => (r24 = 0 ∨ r24 = 1) → (r24 = 0 → Q ((-2)) v2_0) ∧ (¬ r24 = 0 → qX12_settledOf v2_0 x1 x2 (imin x3 x4) (fun r39 v39_0 => Q r39 v39_0)))))))))
def qX12_undo (u0 : Md) (x1 : Int32) (x2 : Int32) (Q : Int32 → Md → Prop) : Prop :=
  qX12_isPlace u0 x1 (fun r2 v2_0 => (r2 = 0 ∨ r2 = 1) → (r2 = 0 → Q ((-2)) v2_0) ∧ (¬ r2 = 0 → qX12_isTongue x2 (fun r9 => (r9 = 0 ∨ r9 = 1) → (¬ r9 = 0 → qX12_now v2_0 (fun r22 v22_0 => qX12_settledOf v22_0 x1 x2 r22 (fun r25 v25_0 => (¬ r25 = ((-1)) → qX12_event v25_0 x1 x2 ((-1)) (fun v39_0 => qX12_now v39_0 (fun r46 v46_0 => qX12_settledOf v46_0 x1 x2 r46 (fun r49 v49_0 => Q r49 v49_0)))) ∧ (r25 = ((-1)) → Q ((-5)) v25_0)))) ∧ (r9 = 0 → Q ((-2)) v2_0))))
def qX12_shows_100 (Q : Md → Prop) (u0 : Md) (y4 : Int32) (y7 : Int32) : Prop :=
  (y7 = ((-1)) → Q u0) ∧ (¬ y7 = ((-1)) → qX12_spells u0 y7 y4 (fun v111_0 => Q v111_0))
def qX12_shows_80 (Q : Md → Prop) (u0 : Md) (y4 : Int32) (y5 : Int32) (y7 : Int32) : Prop :=
  (y5 = ((-1)) → qX12_shows_100 Q u0 y4 y7) ∧ (¬ y5 = ((-1)) → (y7 = ((-1)) → qX12_shows_100 Q u0 y4 y7) ∧ (¬ y7 = ((-1)) → qX12_lays u0 32 ((-4)) (fun v97_0 => qX12_shows_100 Q v97_0 y4 y7)))
def qX12_shows_59 (Q : Md → Prop) (u0 : Md) (y4 : Int32) (y5 : Int32) (z0 : Int32) : Prop :=
  ∀ w63 : Md, w63 = sF u0 21 0 → (y5 = ((-1)) → qX12_shows_80 Q w63 y4 y5 z0) ∧ (¬ y5 = ((-1)) → qX12_spells w63 y5 y4 (fun v77_0 => qX12_shows_80 Q v77_0 y4 y5 z0))
def qX12_shows (u0 : Md) (x1 : Int32) (x2 : Int32) (x3 : Int32) (Q : Md → Prop) : Prop :=
  qX12_looks u0 (imin x2 x3) (fun v10_0 => qX12_firstOf v10_0 x1 (imin x2 x3) x2 (fun r20 v20_0 => qX12_settledOf v20_0 x1 r20 (imin x2 x3) (fun r25 v25_0 => qX12_besideOf v25_0 x1 (imin x2 x3) x2 (fun r35 v35_0 => (¬ r35 = ((-1)) → qX12_settledOf v35_0 x1 r35 (imin x2 x3) (fun r56 v56_0 => qX12_shows_59 Q v56_0 (imin x2 x3) r25 r56)) ∧ (r35 = ((-1)) → qX12_shows_59 Q v35_0 (imin x2 x3) r25 ((-1)))))))
def qX12_shown (u0 : Md) (x1 : Int32) (x2 : Int32) (x3 : Int32) (Q : Int32 → Md → Prop) : Prop :=
  qX12_isPlace u0 x1 (fun r2 v2_0 => (r2 = 0 ∨ r2 = 1) → (r2 = 0 → Q ((-2)) v2_0) ∧ (¬ r2 = 0 → qX12_isYear x2 (fun r9 => (r9 = 0 ∨ r9 = 1) → (r9 = 0 → Q ((-2)) v2_0) ∧ (¬ r9 = 0 → qX12_isYear x3 (fun r16 => (r16 = 0 ∨ r16 = 1) → (¬ r16 = 0 → qX12_shows v2_0 x1 x2 x3 (fun v29_0 => qX12_takesInHand v29_0 (fun r33 v33_0 => Q r33 v33_0))) ∧ (r16 = 0 → Q ((-2)) v2_0))))))
def qX12_sign (u0 : Md) (x1 : Int32) (x2 : Int32) (Q : Int32 → Md → Prop) : Prop :=
  qX12_isPlace u0 x1 (fun r2 v2_0 => (r2 = 0 ∨ r2 = 1) → (r2 = 0 → Q ((-2)) v2_0) ∧ (¬ r2 = 0 → qX12_in x2.toInt64 0 9999 (fun r14 => (r14 = 0 ∨ r14 = 1) → (¬ r14 = 0 → vp_in 7 11570 ∧ ((¬ (gA v2_0 1 (7 : Int32).toNatClampNeg) = 40 → vp_in (7490 + (3 * (gA v2_0 1 (7 : Int32).toNatClampNeg))) 11570 ∧ (∀ w52 : Md, w52 = tA v2_0 1 (7490 + (3 * (gA v2_0 1 (7 : Int32).toNatClampNeg))) x1 → vp_in ((7490 + (3 * (gA v2_0 1 (7 : Int32).toNatClampNeg))) + 1) 11570 ∧ (∀ w67 : Md, w67 = tA w52 1 ((7490 + (3 * (gA v2_0 1 (7 : Int32).toNatClampNeg))) + 1) x2 → qX12_now w67 (fun r82 v82_0 => vp_in ((7490 + (3 * (gA v2_0 1 (7 : Int32).toNatClampNeg))) + 2) 11570 ∧ (∀ w85 : Md, w85 = tA v82_0 1 ((7490 + (3 * (gA v2_0 1 (7 : Int32).toNatClampNeg))) + 2) r82 → vp_in 7 11570 ∧ (vp_in 7 11570 ∧ (∀ w96 : Md, w96 = tA w85 1 7 ((gA w85 1 (7 : Int32).toNatClampNeg) + 1) → Q (gA v2_0 1 (7 : Int32).toNatClampNeg) w96))))))) ∧ ((gA v2_0 1 (7 : Int32).toNatClampNeg) = 40 → Q ((-3)) v2_0))) ∧ (r14 = 0 → Q ((-2)) v2_0))))
def qX12_isSign0 (u0 : Md) (x1 : Int32) (Q : Int32 → Md → Prop) : Prop :=
  vp_in 7 11570 ∧ (qX12_in x1.toInt64 0 (((gA u0 1 (7 : Int32).toNatClampNeg) - 1).toInt64) (fun r13 => (r13 = 0 ∨ r13 = 1) → Q r13 u0))
def qX12_signIs (u0 : Md) (x1 : Int32) (x2 : Int32) (Q : Int32 → Md → Prop) : Prop :=
  vp_in ((7490 + (3 * x1)) + x2) 11570 ∧ (Q (gA u0 1 ((7490 + (3 * x1)) + x2).toNatClampNeg) u0)
def qX12_anew (u0 : Md) (x1 : Int32) (Q : Int32 → Md → Prop) : Prop :=
  qX12_isSign0 u0 x1 (fun r2 v2_0 => (r2 = 0 ∨ r2 = 1) → (¬ r2 = 0 → qX12_now v2_0 (fun r25 v25_0 => vp_in ((7490 + (3 * x1)) + 2) 11570 ∧ (∀ w28 : Md, w28 = tA v25_0 1 ((7490 + (3 * x1)) + 2) r25 → Q 0 w28))) ∧ (r2 = 0 → Q ((-2)) v2_0))
def qX12_isLame (u0 : Md) (x1 : Int32) (Q : Int32 → Md → Prop) : Prop :=
  qX12_signIs u0 x1 0 (fun r4 v4_0 => qX12_signIs v4_0 x1 2 (fun r10 v10_0 => qX12_signIs v10_0 x1 2 (fun r16 v16_0 => qX12_shows v16_0 r4 r10 r16 (fun v19_0 => qX12_holds v19_0 (fun v23_0 => qX12_signIs v23_0 x1 0 (fun r30 v30_0 => qX12_now v30_0 (fun r34 v34_0 => qX12_now v34_0 (fun r38 v38_0 => qX12_shows v38_0 r30 r34 r38 (fun v41_0 => qX12_isAlike v41_0 (fun r45 v45_0 => (r45 = 0 ∨ r45 = 1) → (¬ r45 = 0 → Q 0 v45_0) ∧ (r45 = 0 → Q 1 v45_0)))))))))))
def qX12_lameSince_75 (Q : Int32 → Md → Prop) (K33 : Md → Int32 → Int32 → Int32 → Prop) (u0 : Md) (y1 : Int32) (y2 : Int32) (z0 : Int32) : Prop :=
  (z0 = 0 → K33 u0 y1 y2 z0) ∧ (¬ z0 = 0 → K33 u0 y1 (y2 + Int32.ofInt (-1)) z0)
def qX12_lameSince_33 (Q : Int32 → Md → Prop) : Nat → Md → Int32 → Int32 → Int32 → Prop
  | 0 => fun _ _ _ _ => False
  | n + 1 => fun u0 y1 y2 y3 =>
  (y3 = 0 → Q y2 u0) ∧ (¬ y3 = 0 → qX12_signIs u0 y1 2 (fun r41 v41_0 => (y2 ≤ r41 → Q y2 v41_0) ∧ (¬ y2 ≤ r41 → qX12_signIs v41_0 y1 0 (fun r51 v51_0 => qX12_shows v51_0 r51 (y2 - 1) (y2 - 1) (fun v60_0 => qX12_isAlike v60_0 (fun r64 v64_0 => (r64 = 0 ∨ r64 = 1) → (¬ r64 = 0 → qX12_lameSince_75 Q (qX12_lameSince_33 Q n) v64_0 y1 y2 0) ∧ (r64 = 0 → qX12_lameSince_75 Q (qX12_lameSince_33 Q n) v64_0 y1 y2 1)))))))
def qX12_lameSince (u0 : Md) (x1 : Int32) (Q : Int32 → Md → Prop) : Prop :=
  qX12_signIs u0 x1 0 (fun r4 v4_0 => qX12_signIs v4_0 x1 2 (fun r10 v10_0 => qX12_signIs v10_0 x1 2 (fun r16 v16_0 => qX12_shows v16_0 r4 r10 r16 (fun v19_0 => qX12_holds v19_0 (fun v23_0 => qX12_now v23_0 (fun r27 v27_0 => ∃ n' : Nat, qX12_lameSince_33 Q n' v27_0 x1 r27 1))))))
def qX12_signOf (u0 : Md) (x1 : Int32) (x2 : Int32) (Q : Int32 → Md → Prop) : Prop :=
  qX12_isSign0 u0 x1 (fun r2 v2_0 => (r2 = 0 ∨ r2 = 1) → (r2 = 0 → Q ((-2)) v2_0) ∧ (¬ r2 = 0 → qX12_in x2.toInt64 0 5 (fun r14 => (r14 = 0 ∨ r14 = 1) → (¬ r14 = 0 → (x2 ≤ 2 → qX12_isLame v2_0 x1 (fun r65 v65_0 => (r65 = 0 ∨ r65 = 1) → (¬ x2 = 0 → (¬ r65 = 0 → qX12_lameSince v65_0 x1 (fun r100 v100_0 => qX12_termOf v100_0 4 1 10 (fun r108 v108_0 => (¬ x2 = 1 → qX12_now v108_0 (fun r126 v126_0 => Q (imax 0 (r126 - (r100 + r108))) v126_0)) ∧ (x2 = 1 → Q (r100 + r108) v108_0)))) ∧ (r65 = 0 → (¬ x2 = 1 → Q 0 v65_0) ∧ (x2 = 1 → Q ((-1)) v65_0))) ∧ (x2 = 0 → (r65 = 0 → Q 0 v65_0) ∧ (¬ r65 = 0 → Q 1 v65_0)))) ∧ (¬ x2 ≤ 2 → (¬ x2 = 3 → (¬ x2 = 4 → qX12_signIs v2_0 x1 1 (fun r59 v59_0 => Q r59 v59_0)) ∧ (x2 = 4 → qX12_signIs v2_0 x1 0 (fun r50 v50_0 => Q r50 v50_0))) ∧ (x2 = 3 → qX12_signIs v2_0 x1 2 (fun r36 v36_0 => Q r36 v36_0)))) ∧ (r14 = 0 → Q ((-2)) v2_0))))
def qX12_mayBe_54 (Q : Int32 → Md → Prop) (K6 : Md → Int32 → Int32 → Int32 → Int32 → Int32 → Prop) (u0 : Md) (y1 : Int32) (y2 : Int32) (y3 : Int32) (y4 : Int32) (y5 : Int32) (y6 : Int32) : Prop :=
  (y6 = 0 → K6 u0 y1 y2 y3 y4 (y5 + Int32.ofInt 1)) ∧ (¬ y6 = 0 → vp_in y5 9 ∧ (((gA u0 32 y5.toNatClampNeg) = ((-1)) → K6 u0 y1 y2 y3 y4 (y5 + Int32.ofInt 1)) ∧ (¬ (gA u0 32 y5.toNatClampNeg) = ((-1)) → vp_in y5 9 ∧ (((gA u0 32 y5.toNatClampNeg) = y2 → K6 u0 y1 y2 y3 y4 (y5 + Int32.ofInt 1)) ∧ (¬ (gA u0 32 y5.toNatClampNeg) = y2 → Q 0 u0)))))
def qX12_mayBe_30 (Q : Int32 → Md → Prop) (K6 : Md → Int32 → Int32 → Int32 → Int32 → Int32 → Prop) (u0 : Md) (y1 : Int32) (y2 : Int32) (y3 : Int32) (y4 : Int32) (y5 : Int32) (z0 : Int32) : Prop :=
  (z0 = 0 → qX12_mayBe_54 Q K6 u0 y1 y2 y3 y4 y5 z0) ∧ (¬ z0 = 0 → vp_in y5 40 ∧ (qX12_signIs u0 (gA u0 29 y5.toNatClampNeg) 1 (fun r48 v48_0 => qX12_mayBe_54 Q K6 v48_0 y1 y2 y3 (y4 + r48) y5 z0)))
def qX12_mayBe_6 (Q : Int32 → Md → Prop) : Nat → Md → Int32 → Int32 → Int32 → Int32 → Int32 → Prop
  | 0 => fun _ _ _ _ _ _ => False
  | n + 1 => fun u0 y1 y2 y3 y4 y5 =>
  ((gF u0 30) ≤ y5 → (y3 < y4 → Q 0 u0) ∧ (¬ y3 < y4 → Q 1 u0)) ∧ (¬ (gF u0 30) ≤ y5 → (¬ ((y1 >>> (y5 &&& 31)) &&& 1) = 1 → qX12_mayBe_30 Q (qX12_mayBe_6 Q n) u0 y1 y2 y3 y4 y5 0) ∧ (((y1 >>> (y5 &&& 31)) &&& 1) = 1 → qX12_mayBe_30 Q (qX12_mayBe_6 Q n) u0 y1 y2 y3 y4 y5 1))
def qX12_mayBe (u0 : Md) (x1 : Int32) (x2 : Int32) (x3 : Int32) (Q : Int32 → Md → Prop) : Prop :=
  ∃ n' : Nat, qX12_mayBe_6 Q n' u0 x1 x2 x3 0 0
def qX12_bits_4 (Q : Int32 → Prop) : Nat → Int32 → Int32 → Int32 → Prop
  | 0 => fun _ _ _ => False
  | n + 1 => fun y1 y2 y3 =>
  (9 ≤ y3 → Q y2) ∧ (¬ 9 ≤ y3 → qX12_bits_4 Q n y1 (y2 + ((y1 >>> (y3 &&& 31)) &&& 1)) (y3 + Int32.ofInt 1))
def qX12_bits (x1 : Int32) (Q : Int32 → Prop) : Prop :=
  ∃ n' : Nat, qX12_bits_4 Q n' x1 0 0
def qX12_leastOf_161 (Q : Int32 → Md → Prop) (K46 : Md → Int32 → Int32 → Int32 → Prop) (K83 : Md → Int32 → Int32 → Int32 → Int32 → Prop) (K110 : Md → Int32 → Int32 → Int32 → Int32 → Int32 → Int32 → Prop) (u0 : Md) (y1 : Int32) (y2 : Int32) (y3 : Int32) (y4 : Int32) (y5 : Int32) (y6 : Int32) : Prop :=
  K110 u0 y1 y2 y3 y4 y5 ((y6 - 1) &&& y4)
def qX12_leastOf_110 (Q : Int32 → Md → Prop) (K46 : Md → Int32 → Int32 → Int32 → Prop) (K83 : Md → Int32 → Int32 → Int32 → Int32 → Prop) : Nat → Md → Int32 → Int32 → Int32 → Int32 → Int32 → Int32 → Prop
  | 0 => fun _ _ _ _ _ _ _ => False
  | n + 1 => fun u0 y1 y2 y3 y4 y5 y6 =>
  (y6 ≤ 0 → vp_in ((512 * y3) + y4) 5120 ∧ (∀ w187 : Md, w187 = tA u0 31 ((512 * y3) + y4) y5 → K83 w187 y1 y2 y3 (y4 + Int32.ofInt 1))) ∧ (¬ y6 ≤ 0 → vp_in y6 512 ∧ (((if gZ u0 35 y6.toNatClampNeg then (1 : Int32) else 0) = 0 → qX12_leastOf_161 Q K46 K83 (qX12_leastOf_110 Q K46 K83 n) u0 y1 y2 y3 y4 y5 y6) ∧ (¬ (if gZ u0 35 y6.toNatClampNeg then (1 : Int32) else 0) = 0 → qX12_bits y6 (fun r131 => vp_in ((512 * (y3 + 1)) + (y4 &&& (y6 ^^^ ((-1))))) 5120 ∧ (qX12_leastOf_161 Q K46 K83 (qX12_leastOf_110 Q K46 K83 n) u0 y1 y2 y3 y4 (imin y5 ((y3 * r131) + (gA u0 31 ((512 * (y3 + 1)) + (y4 &&& (y6 ^^^ ((-1))))).toNatClampNeg))) y6)))))
def qX12_leastOf_83 (Q : Int32 → Md → Prop) (K46 : Md → Int32 → Int32 → Int32 → Prop) : Nat → Md → Int32 → Int32 → Int32 → Int32 → Prop
  | 0 => fun _ _ _ _ _ => False
  | n + 1 => fun u0 y1 y2 y3 y4 =>
  (y2 < y4 → K46 u0 y1 y2 (y3 + Int32.ofInt (-1))) ∧ (¬ y2 < y4 → vp_in ((512 * (y3 + 1)) + y4) 5120 ∧ (∃ n' : Nat, qX12_leastOf_110 Q K46 (qX12_leastOf_83 Q K46 n) n' u0 y1 y2 y3 y4 (gA u0 31 ((512 * (y3 + 1)) + y4).toNatClampNeg) y4))
def qX12_leastOf_53 (Q : Int32 → Md → Prop) (K46 : Md → Int32 → Int32 → Int32 → Prop) : Nat → Md → Int32 → Int32 → Int32 → Int32 → Prop
  | 0 => fun _ _ _ _ _ => False
  | n + 1 => fun u0 y1 y2 y3 y4 =>
  (y2 < y4 → ∃ n' : Nat, qX12_leastOf_83 Q K46 n' u0 y1 y2 y3 0) ∧ (¬ y2 < y4 → qX12_mayBe u0 y4 y3 y1 (fun r70 v70_0 => (r70 = 0 ∨ r70 = 1) → vp_in y4 512 ∧ (∀ w73 : Md, w73 = tZ v70_0 35 y4 r70 → qX12_leastOf_53 Q K46 n w73 y1 y2 y3 (y4 + Int32.ofInt 1))))
def qX12_leastOf_46 (Q : Int32 → Md → Prop) : Nat → Md → Int32 → Int32 → Int32 → Prop
  | 0 => fun _ _ _ _ => False
  | n + 1 => fun u0 y1 y2 y3 =>
  (y3 < 0 → vp_in y2 5120 ∧ (Q (gA u0 31 y2.toNatClampNeg) u0)) ∧ (¬ y3 < 0 → ∃ n' : Nat, qX12_leastOf_53 Q (qX12_leastOf_46 Q n) n' u0 y1 y2 y3 0)
def qX12_leastOf_11 (Q : Int32 → Md → Prop) : Nat → Md → Int32 → Int32 → Int32 → Prop
  | 0 => fun _ _ _ _ => False
  | n + 1 => fun u0 y1 y2 y3 =>
  (y2 < y3 → ∃ n' : Nat, qX12_leastOf_46 Q n' u0 y1 y2 8) ∧ (¬ y2 < y3 → (¬ y3 = 0 → vp_in (4608 + y3) 5120 ∧ (∀ w36 : Md, w36 = tA u0 31 (4608 + y3) 1000000 → qX12_leastOf_11 Q n w36 y1 y2 (y3 + Int32.ofInt 1))) ∧ (y3 = 0 → vp_in (4608 + y3) 5120 ∧ (∀ w36 : Md, w36 = tA u0 31 (4608 + y3) 0 → qX12_leastOf_11 Q n w36 y1 y2 (y3 + Int32.ofInt 1))))
def qX12_leastOf (u0 : Md) (x1 : Int32) (Q : Int32 → Md → Prop) : Prop :=
  ∃ n' : Nat, qX12_leastOf_11 Q n' u0 x1 (((1 : Int32) <<< ((gF u0 30) &&& 31)) - 1) 0
def qX12_plan_158 (Q : Int32 → Md → Prop) (K143 : Md → Int32 → Int32 → Int32 → Prop) : Nat → Md → Int32 → Int32 → Int32 → Prop
  | 0 => fun _ _ _ _ => False
  | n + 1 => fun u0 y1 y2 y3 =>
  qX12_leastOf u0 y1 (fun r160 v160_0 => (r160 = y2 → vp_in y3 40 ∧ (vp_in y3 9 ∧ (vp_in (gA v160_0 29 y3.toNatClampNeg) 40 ∧ (∀ w196 : Md, w196 = tA v160_0 33 (gA v160_0 29 y3.toNatClampNeg) (gA v160_0 32 y3.toNatClampNeg) → K143 w196 y1 y2 (y3 + Int32.ofInt 1))))) ∧ (¬ r160 = y2 → vp_in y3 9 ∧ (vp_in y3 9 ∧ (∀ w176 : Md, w176 = tA v160_0 32 y3 ((gA v160_0 32 y3.toNatClampNeg) + 1) → qX12_plan_158 Q K143 n w176 y1 y2 y3))))
def qX12_plan_143 (Q : Int32 → Md → Prop) : Nat → Md → Int32 → Int32 → Int32 → Prop
  | 0 => fun _ _ _ _ => False
  | n + 1 => fun u0 y1 y2 y3 =>
  ((gF u0 30) ≤ y3 → ∀ w205 : Md, w205 = sF u0 34 1 → Q y2 w205) ∧ (¬ (gF u0 30) ≤ y3 → vp_in y3 9 ∧ (∀ w157 : Md, w157 = tA u0 32 y3 0 → ∃ n' : Nat, qX12_plan_158 Q (qX12_plan_143 Q n) n' w157 y1 y2 y3))
def qX12_plan_122 (Q : Int32 → Md → Prop) : Nat → Md → Int32 → Int32 → Int32 → Prop
  | 0 => fun _ _ _ _ => False
  | n + 1 => fun u0 y1 y2 y3 =>
  (40 ≤ y3 → ∃ n' : Nat, qX12_plan_143 Q n' u0 y1 y2 0) ∧ (¬ 40 ≤ y3 → vp_in y3 40 ∧ (∀ w134 : Md, w134 = tA u0 33 y3 ((-1)) → qX12_plan_122 Q n w134 y1 y2 (y3 + Int32.ofInt 1)))
def qX12_plan_95 (Q : Int32 → Md → Prop) : Nat → Md → Int32 → Int32 → Prop
  | 0 => fun _ _ _ => False
  | n + 1 => fun u0 y1 y2 =>
  (9 ≤ y2 → qX12_leastOf u0 y1 (fun r116 v116_0 => ∃ n' : Nat, qX12_plan_122 Q n' v116_0 y1 r116 0)) ∧ (¬ 9 ≤ y2 → vp_in y2 9 ∧ (∀ w107 : Md, w107 = tA u0 32 y2 ((-1)) → qX12_plan_95 Q n w107 y1 (y2 + Int32.ofInt 1)))
def qX12_plan_22 (Q : Int32 → Md → Prop) : Nat → Md → Int32 → Int32 → Prop
  | 0 => fun _ _ _ => False
  | n + 1 => fun u0 y1 y2 =>
  vp_in 7 11570 ∧ (((gA u0 1 (7 : Int32).toNatClampNeg) ≤ y2 → ((gF u0 30) ≤ 9 → ∃ n' : Nat, qX12_plan_95 Q n' u0 y1 0) ∧ (¬ (gF u0 30) ≤ 9 → Q ((-1)) u0)) ∧ (¬ (gA u0 1 (7 : Int32).toNatClampNeg) ≤ y2 → qX12_isLame u0 y2 (fun r35 v35_0 => (r35 = 0 ∨ r35 = 1) → (¬ r35 = 0 → qX12_signIs v35_0 y2 1 (fun r47 v47_0 => (r47 ≤ y1 → vp_in (gF v47_0 30) 40 ∧ (∀ w65 : Md, w65 = tA v47_0 29 (gF v47_0 30) y2 → ∀ w73 : Md, w73 = sF w65 30 ((gF w65 30) + 1) → qX12_plan_22 Q n w73 y1 (y2 + Int32.ofInt 1))) ∧ (¬ r47 ≤ y1 → Q ((-1)) v47_0))) ∧ (r35 = 0 → qX12_plan_22 Q n v35_0 y1 (y2 + Int32.ofInt 1)))))
def qX12_plan (u0 : Md) (x1 : Int32) (Q : Int32 → Md → Prop) : Prop :=
  qX12_in x1.toInt64 0 9999 (fun r6 => (r6 = 0 ∨ r6 = 1) → (¬ r6 = 0 → ∀ w17 : Md, w17 = sF u0 30 0 → ∃ n' : Nat, qX12_plan_22 Q n' w17 x1 0) ∧ (r6 = 0 → Q ((-2)) u0))
def qX12_planned (u0 : Md) (x1 : Int32) (Q : Int32 → Md → Prop) : Prop :=
  ((gF u0 34) = 0 → Q ((-1)) u0) ∧ (¬ (gF u0 34) = 0 → qX12_in x1.toInt64 0 39 (fun r13 => (r13 = 0 ∨ r13 = 1) → (r13 = 0 → Q ((-1)) u0) ∧ (¬ r13 = 0 → vp_in x1 40 ∧ (Q (gA u0 33 x1.toNatClampNeg) u0))))
def qX12_paper (u0 : Md) (x1 : Int32) (Q : Int32 → Md → Prop) : Prop :=
  qX12_now u0 (fun r4 v4_0 => qX12_in x1.toInt64 0 r4.toInt64 (fun r8 => (r8 = 0 ∨ r8 = 1) → (¬ r8 = 0 → ∀ w19 : Md, w19 = sF v4_0 36 x1 → ∀ w24 : Md, w24 = sF w19 37 0 → Q 0 w24) ∧ (r8 = 0 → Q ((-2)) v4_0)))
def qX12_written_34 (Q : Int32 → Md → Prop) : Nat → Md → Int32 → Prop
  | 0 => fun _ _ => False
  | n + 1 => fun u0 y1 =>
  ((gF u0 5) ≤ y1 → vp_in (gF u0 37) 7 ∧ (∀ w80 : Md, w80 = tA u0 39 (gF u0 37) (gF u0 5) → ∀ w83 : Md, w83 = sF w80 5 0 → ∀ w93 : Md, w93 = sF w83 37 ((gF w83 37) + 1) → Q (gF w93 37) w93)) ∧ (¬ (gF u0 5) ≤ y1 → vp_in y1 500 ∧ (vp_in ((24 * (gF u0 37)) + y1) 168 ∧ (∀ w61 : Md, w61 = tA u0 38 ((24 * (gF u0 37)) + y1) ((gB u0 4 y1.toNatClampNeg).toInt32) → qX12_written_34 Q n w61 (y1 + Int32.ofInt 1))))
def qX12_written (u0 : Md) (Q : Int32 → Md → Prop) : Prop :=
  ((gF u0 36) = ((-1)) → Q ((-2)) u0) ∧ (¬ (gF u0 36) = ((-1)) → qX12_isLetters u0 24 (fun r11 v11_0 => (r11 = 0 ∨ r11 = 1) → (¬ r11 = 0 → (¬ (gF v11_0 37) = 7 → ∃ n' : Nat, qX12_written_34 Q n' v11_0 0) ∧ ((gF v11_0 37) = 7 → Q ((-3)) v11_0)) ∧ (r11 = 0 → Q ((-2)) v11_0)))
def qX12_hasName_2 (Q : Int32 → Md → Prop) : Nat → Md → Int32 → Int32 → Prop
  | 0 => fun _ _ _ => False
  | n + 1 => fun u0 y1 y2 =>
  vp_in 2 11570 ∧ (((gA u0 1 (2 : Int32).toNatClampNeg) ≤ y2 → Q 0 u0) ∧ (¬ (gA u0 1 (2 : Int32).toNatClampNeg) ≤ y2 → qX12_nameIs u0 y2 0 (fun r15 v15_0 => (¬ r15 = y1 → qX12_hasName_2 Q n v15_0 y1 (y2 + Int32.ofInt 1)) ∧ (r15 = y1 → Q 1 v15_0))))
def qX12_hasName (u0 : Md) (x1 : Int32) (Q : Int32 → Md → Prop) : Prop :=
  ∃ n' : Nat, qX12_hasName_2 Q n' u0 x1 0
def qX12_givesOf_45 (Q : Int32 → Md → Prop) (K7 : Md → Int32 → Int32 → Int32 → Int32 → Prop) : Nat → Md → Int32 → Int32 → Int32 → Int32 → Int32 → Prop
  | 0 => fun _ _ _ _ _ _ => False
  | n + 1 => fun u0 y1 y2 y3 y4 y5 =>
  ((gF u0 26) ≤ y5 → ∀ w81 : Md, w81 = sF u0 21 0 → qX12_spells w81 y4 (gF w81 36) (fun v91_0 => qX12_apart v91_0 (fun r96 v96_0 => K7 v96_0 y1 y2 (imin y3 r96) (y4 + Int32.ofInt 1)))) ∧ (¬ (gF u0 26) ≤ y5 → vp_in ((24 * y1) + y5) 168 ∧ (vp_in y5 80 ∧ (∀ w72 : Md, w72 = tA u0 25 y5 (gA u0 38 ((24 * y1) + y5).toNatClampNeg) → qX12_givesOf_45 Q K7 n w72 y1 y2 y3 y4 (y5 + Int32.ofInt 1))))
def qX12_givesOf_7 (Q : Int32 → Md → Prop) : Nat → Md → Int32 → Int32 → Int32 → Int32 → Prop
  | 0 => fun _ _ _ _ _ => False
  | n + 1 => fun u0 y1 y2 y3 y4 =>
  vp_in 2 11570 ∧ (((gA u0 1 (2 : Int32).toNatClampNeg) ≤ y4 → Q (20 - y3) u0) ∧ (¬ (gA u0 1 (2 : Int32).toNatClampNeg) ≤ y4 → qX12_nameIs u0 y4 0 (fun r22 v22_0 => (r22 = y2 → vp_in y1 7 ∧ (∀ w39 : Md, w39 = sF v22_0 26 (gA v22_0 39 y1.toNatClampNeg) → ∃ n' : Nat, qX12_givesOf_45 Q (qX12_givesOf_7 Q n) n' w39 y1 y2 y3 y4 0)) ∧ (¬ r22 = y2 → qX12_givesOf_7 Q n v22_0 y1 y2 y3 (y4 + Int32.ofInt 1)))))
def qX12_givesOf (u0 : Md) (x1 : Int32) (x2 : Int32) (Q : Int32 → Md → Prop) : Prop :=
  ∃ n' : Nat, qX12_givesOf_7 Q n' u0 x1 x2 1000000 0
def qX12_joins_lv0_126 (Q : Md → Prop) (K58 : Md → Int32 → Int32 → Int32 → Int32 → Prop) (u0 : Md) (y1 : Int32) (y2 : Int32) (y3 : Int32) (y4 : Int32) (z0 : Int32) : Prop :=
  vp_in ((10 * y1) + y4) 70 ∧ (False)
def qX12_joins_lv0_125 (Q : Md → Prop) (K58 : Md → Int32 → Int32 → Int32 → Int32 → Prop) (u0 : Md) (y1 : Int32) (y2 : Int32) (y3 : Int32) (y4 : Int32) : Prop :=
  qX12_joins_lv0_126 Q K58 u0 y1 y2 y3 y4 0
def qX12_joins_lv0_58 (Q : Md → Prop) : Nat → Md → Int32 → Int32 → Int32 → Int32 → Prop
  | 0 => fun _ _ _ _ _ => False
  | n + 1 => fun u0 y1 y2 y3 y4 =>
  ((gF u0 40) ≤ y4 → Q u0) ∧ (¬ (gF u0 40) ≤ y4 → (¬ ((y2 >>> (y4 &&& 31)) &&& 1) = 1 → vp_in y1 7 ∧ (∀ w87 : Md, w87 = tA u0 43 y1 y4 → (y1 ≤ 0 → qX12_joins_lv0_125 Q (qX12_joins_lv0_58 Q n) w87 y1 y2 y3 y4) ∧ (¬ y1 ≤ 0 → vp_in (y1 - 1) 7 ∧ (vp_in (gA w87 43 (y1 - 1).toNatClampNeg) 10 ∧ (vp_in y4 10 ∧ (qX12_isNear w87 (gA w87 41 (gA w87 43 (y1 - 1).toNatClampNeg).toNatClampNeg) (gA w87 41 y4.toNatClampNeg) 30 (fun r115 v115_0 => (r115 = 0 ∨ r115 = 1) → (r115 = 0 → qX12_joins_lv0_125 Q (qX12_joins_lv0_58 Q n) v115_0 y1 y2 y3 y4) ∧ (¬ r115 = 0 → qX12_joins_lv0_126 Q (qX12_joins_lv0_58 Q n) v115_0 y1 y2 y3 y4 3)))))))) ∧ (((y2 >>> (y4 &&& 31)) &&& 1) = 1 → qX12_joins_lv0_58 Q n u0 y1 y2 y3 (y4 + Int32.ofInt 1)))
def qX12_joins_lv0_25 (Q : Md → Prop) : Nat → Md → Int32 → Prop
  | 0 => fun _ _ => False
  | n + 1 => fun u0 y4 =>
  ((gF u0 37) ≤ y4 → Q u0) ∧ (¬ (gF u0 37) ≤ y4 → vp_in y4 7 ∧ (vp_in y4 7 ∧ (∀ w47 : Md, w47 = tA u0 44 y4 (gA u0 43 y4.toNatClampNeg) → qX12_joins_lv0_25 Q n w47 (y4 + Int32.ofInt 1))))
def qX12_joins_lv0 (u0 : Md) (x1 : Int32) (x2 : Int32) (x3 : Int32) (Q : Md → Prop) : Prop :=
  (¬ x1 = (gF u0 37) → ∃ n' : Nat, qX12_joins_lv0_58 Q n' u0 x1 x2 x3 0) ∧ (x1 = (gF u0 37) → ((gF u0 45) < x3 → ∀ w19 : Md, w19 = sF u0 45 x3 → ∃ n' : Nat, qX12_joins_lv0_25 Q n' w19 0) ∧ (¬ (gF u0 45) < x3 → Q u0))
def qX12_joins_lv1_126 (Q : Md → Prop) (K58 : Md → Int32 → Int32 → Int32 → Int32 → Prop) (u0 : Md) (y1 : Int32) (y2 : Int32) (y3 : Int32) (y4 : Int32) (z0 : Int32) : Prop :=
  vp_in ((10 * y1) + y4) 70 ∧ (qX12_joins_lv0 u0 (y1 + 1) (y2 ||| ((1 : Int32) <<< (y4 &&& 31))) ((y3 + (gA u0 42 ((10 * y1) + y4).toNatClampNeg)) + z0) (fun v155_0 => K58 v155_0 y1 y2 y3 (y4 + Int32.ofInt 1)))
def qX12_joins_lv1_125 (Q : Md → Prop) (K58 : Md → Int32 → Int32 → Int32 → Int32 → Prop) (u0 : Md) (y1 : Int32) (y2 : Int32) (y3 : Int32) (y4 : Int32) : Prop :=
  qX12_joins_lv1_126 Q K58 u0 y1 y2 y3 y4 0
def qX12_joins_lv1_58 (Q : Md → Prop) : Nat → Md → Int32 → Int32 → Int32 → Int32 → Prop
  | 0 => fun _ _ _ _ _ => False
  | n + 1 => fun u0 y1 y2 y3 y4 =>
  ((gF u0 40) ≤ y4 → Q u0) ∧ (¬ (gF u0 40) ≤ y4 → (¬ ((y2 >>> (y4 &&& 31)) &&& 1) = 1 → vp_in y1 7 ∧ (∀ w87 : Md, w87 = tA u0 43 y1 y4 → (y1 ≤ 0 → qX12_joins_lv1_125 Q (qX12_joins_lv1_58 Q n) w87 y1 y2 y3 y4) ∧ (¬ y1 ≤ 0 → vp_in (y1 - 1) 7 ∧ (vp_in (gA w87 43 (y1 - 1).toNatClampNeg) 10 ∧ (vp_in y4 10 ∧ (qX12_isNear w87 (gA w87 41 (gA w87 43 (y1 - 1).toNatClampNeg).toNatClampNeg) (gA w87 41 y4.toNatClampNeg) 30 (fun r115 v115_0 => (r115 = 0 ∨ r115 = 1) → (r115 = 0 → qX12_joins_lv1_125 Q (qX12_joins_lv1_58 Q n) v115_0 y1 y2 y3 y4) ∧ (¬ r115 = 0 → qX12_joins_lv1_126 Q (qX12_joins_lv1_58 Q n) v115_0 y1 y2 y3 y4 3)))))))) ∧ (((y2 >>> (y4 &&& 31)) &&& 1) = 1 → qX12_joins_lv1_58 Q n u0 y1 y2 y3 (y4 + Int32.ofInt 1)))
def qX12_joins_lv1_25 (Q : Md → Prop) : Nat → Md → Int32 → Prop
  | 0 => fun _ _ => False
  | n + 1 => fun u0 y4 =>
  ((gF u0 37) ≤ y4 → Q u0) ∧ (¬ (gF u0 37) ≤ y4 → vp_in y4 7 ∧ (vp_in y4 7 ∧ (∀ w47 : Md, w47 = tA u0 44 y4 (gA u0 43 y4.toNatClampNeg) → qX12_joins_lv1_25 Q n w47 (y4 + Int32.ofInt 1))))
def qX12_joins_lv1 (u0 : Md) (x1 : Int32) (x2 : Int32) (x3 : Int32) (Q : Md → Prop) : Prop :=
  (¬ x1 = (gF u0 37) → ∃ n' : Nat, qX12_joins_lv1_58 Q n' u0 x1 x2 x3 0) ∧ (x1 = (gF u0 37) → ((gF u0 45) < x3 → ∀ w19 : Md, w19 = sF u0 45 x3 → ∃ n' : Nat, qX12_joins_lv1_25 Q n' w19 0) ∧ (¬ (gF u0 45) < x3 → Q u0))
def qX12_joins_lv2_126 (Q : Md → Prop) (K58 : Md → Int32 → Int32 → Int32 → Int32 → Prop) (u0 : Md) (y1 : Int32) (y2 : Int32) (y3 : Int32) (y4 : Int32) (z0 : Int32) : Prop :=
  vp_in ((10 * y1) + y4) 70 ∧ (qX12_joins_lv1 u0 (y1 + 1) (y2 ||| ((1 : Int32) <<< (y4 &&& 31))) ((y3 + (gA u0 42 ((10 * y1) + y4).toNatClampNeg)) + z0) (fun v155_0 => K58 v155_0 y1 y2 y3 (y4 + Int32.ofInt 1)))
def qX12_joins_lv2_125 (Q : Md → Prop) (K58 : Md → Int32 → Int32 → Int32 → Int32 → Prop) (u0 : Md) (y1 : Int32) (y2 : Int32) (y3 : Int32) (y4 : Int32) : Prop :=
  qX12_joins_lv2_126 Q K58 u0 y1 y2 y3 y4 0
def qX12_joins_lv2_58 (Q : Md → Prop) : Nat → Md → Int32 → Int32 → Int32 → Int32 → Prop
  | 0 => fun _ _ _ _ _ => False
  | n + 1 => fun u0 y1 y2 y3 y4 =>
  ((gF u0 40) ≤ y4 → Q u0) ∧ (¬ (gF u0 40) ≤ y4 → (¬ ((y2 >>> (y4 &&& 31)) &&& 1) = 1 → vp_in y1 7 ∧ (∀ w87 : Md, w87 = tA u0 43 y1 y4 → (y1 ≤ 0 → qX12_joins_lv2_125 Q (qX12_joins_lv2_58 Q n) w87 y1 y2 y3 y4) ∧ (¬ y1 ≤ 0 → vp_in (y1 - 1) 7 ∧ (vp_in (gA w87 43 (y1 - 1).toNatClampNeg) 10 ∧ (vp_in y4 10 ∧ (qX12_isNear w87 (gA w87 41 (gA w87 43 (y1 - 1).toNatClampNeg).toNatClampNeg) (gA w87 41 y4.toNatClampNeg) 30 (fun r115 v115_0 => (r115 = 0 ∨ r115 = 1) → (r115 = 0 → qX12_joins_lv2_125 Q (qX12_joins_lv2_58 Q n) v115_0 y1 y2 y3 y4) ∧ (¬ r115 = 0 → qX12_joins_lv2_126 Q (qX12_joins_lv2_58 Q n) v115_0 y1 y2 y3 y4 3)))))))) ∧ (((y2 >>> (y4 &&& 31)) &&& 1) = 1 → qX12_joins_lv2_58 Q n u0 y1 y2 y3 (y4 + Int32.ofInt 1)))
def qX12_joins_lv2_25 (Q : Md → Prop) : Nat → Md → Int32 → Prop
  | 0 => fun _ _ => False
  | n + 1 => fun u0 y4 =>
  ((gF u0 37) ≤ y4 → Q u0) ∧ (¬ (gF u0 37) ≤ y4 → vp_in y4 7 ∧ (vp_in y4 7 ∧ (∀ w47 : Md, w47 = tA u0 44 y4 (gA u0 43 y4.toNatClampNeg) → qX12_joins_lv2_25 Q n w47 (y4 + Int32.ofInt 1))))
def qX12_joins_lv2 (u0 : Md) (x1 : Int32) (x2 : Int32) (x3 : Int32) (Q : Md → Prop) : Prop :=
  (¬ x1 = (gF u0 37) → ∃ n' : Nat, qX12_joins_lv2_58 Q n' u0 x1 x2 x3 0) ∧ (x1 = (gF u0 37) → ((gF u0 45) < x3 → ∀ w19 : Md, w19 = sF u0 45 x3 → ∃ n' : Nat, qX12_joins_lv2_25 Q n' w19 0) ∧ (¬ (gF u0 45) < x3 → Q u0))
def qX12_joins_lv3_126 (Q : Md → Prop) (K58 : Md → Int32 → Int32 → Int32 → Int32 → Prop) (u0 : Md) (y1 : Int32) (y2 : Int32) (y3 : Int32) (y4 : Int32) (z0 : Int32) : Prop :=
  vp_in ((10 * y1) + y4) 70 ∧ (qX12_joins_lv2 u0 (y1 + 1) (y2 ||| ((1 : Int32) <<< (y4 &&& 31))) ((y3 + (gA u0 42 ((10 * y1) + y4).toNatClampNeg)) + z0) (fun v155_0 => K58 v155_0 y1 y2 y3 (y4 + Int32.ofInt 1)))
def qX12_joins_lv3_125 (Q : Md → Prop) (K58 : Md → Int32 → Int32 → Int32 → Int32 → Prop) (u0 : Md) (y1 : Int32) (y2 : Int32) (y3 : Int32) (y4 : Int32) : Prop :=
  qX12_joins_lv3_126 Q K58 u0 y1 y2 y3 y4 0
def qX12_joins_lv3_58 (Q : Md → Prop) : Nat → Md → Int32 → Int32 → Int32 → Int32 → Prop
  | 0 => fun _ _ _ _ _ => False
  | n + 1 => fun u0 y1 y2 y3 y4 =>
  ((gF u0 40) ≤ y4 → Q u0) ∧ (¬ (gF u0 40) ≤ y4 → (¬ ((y2 >>> (y4 &&& 31)) &&& 1) = 1 → vp_in y1 7 ∧ (∀ w87 : Md, w87 = tA u0 43 y1 y4 → (y1 ≤ 0 → qX12_joins_lv3_125 Q (qX12_joins_lv3_58 Q n) w87 y1 y2 y3 y4) ∧ (¬ y1 ≤ 0 → vp_in (y1 - 1) 7 ∧ (vp_in (gA w87 43 (y1 - 1).toNatClampNeg) 10 ∧ (vp_in y4 10 ∧ (qX12_isNear w87 (gA w87 41 (gA w87 43 (y1 - 1).toNatClampNeg).toNatClampNeg) (gA w87 41 y4.toNatClampNeg) 30 (fun r115 v115_0 => (r115 = 0 ∨ r115 = 1) → (r115 = 0 → qX12_joins_lv3_125 Q (qX12_joins_lv3_58 Q n) v115_0 y1 y2 y3 y4) ∧ (¬ r115 = 0 → qX12_joins_lv3_126 Q (qX12_joins_lv3_58 Q n) v115_0 y1 y2 y3 y4 3)))))))) ∧ (((y2 >>> (y4 &&& 31)) &&& 1) = 1 → qX12_joins_lv3_58 Q n u0 y1 y2 y3 (y4 + Int32.ofInt 1)))
def qX12_joins_lv3_25 (Q : Md → Prop) : Nat → Md → Int32 → Prop
  | 0 => fun _ _ => False
  | n + 1 => fun u0 y4 =>
  ((gF u0 37) ≤ y4 → Q u0) ∧ (¬ (gF u0 37) ≤ y4 → vp_in y4 7 ∧ (vp_in y4 7 ∧ (∀ w47 : Md, w47 = tA u0 44 y4 (gA u0 43 y4.toNatClampNeg) → qX12_joins_lv3_25 Q n w47 (y4 + Int32.ofInt 1))))
def qX12_joins_lv3 (u0 : Md) (x1 : Int32) (x2 : Int32) (x3 : Int32) (Q : Md → Prop) : Prop :=
  (¬ x1 = (gF u0 37) → ∃ n' : Nat, qX12_joins_lv3_58 Q n' u0 x1 x2 x3 0) ∧ (x1 = (gF u0 37) → ((gF u0 45) < x3 → ∀ w19 : Md, w19 = sF u0 45 x3 → ∃ n' : Nat, qX12_joins_lv3_25 Q n' w19 0) ∧ (¬ (gF u0 45) < x3 → Q u0))
def qX12_joins_lv4_126 (Q : Md → Prop) (K58 : Md → Int32 → Int32 → Int32 → Int32 → Prop) (u0 : Md) (y1 : Int32) (y2 : Int32) (y3 : Int32) (y4 : Int32) (z0 : Int32) : Prop :=
  vp_in ((10 * y1) + y4) 70 ∧ (qX12_joins_lv3 u0 (y1 + 1) (y2 ||| ((1 : Int32) <<< (y4 &&& 31))) ((y3 + (gA u0 42 ((10 * y1) + y4).toNatClampNeg)) + z0) (fun v155_0 => K58 v155_0 y1 y2 y3 (y4 + Int32.ofInt 1)))
def qX12_joins_lv4_125 (Q : Md → Prop) (K58 : Md → Int32 → Int32 → Int32 → Int32 → Prop) (u0 : Md) (y1 : Int32) (y2 : Int32) (y3 : Int32) (y4 : Int32) : Prop :=
  qX12_joins_lv4_126 Q K58 u0 y1 y2 y3 y4 0
def qX12_joins_lv4_58 (Q : Md → Prop) : Nat → Md → Int32 → Int32 → Int32 → Int32 → Prop
  | 0 => fun _ _ _ _ _ => False
  | n + 1 => fun u0 y1 y2 y3 y4 =>
  ((gF u0 40) ≤ y4 → Q u0) ∧ (¬ (gF u0 40) ≤ y4 → (¬ ((y2 >>> (y4 &&& 31)) &&& 1) = 1 → vp_in y1 7 ∧ (∀ w87 : Md, w87 = tA u0 43 y1 y4 → (y1 ≤ 0 → qX12_joins_lv4_125 Q (qX12_joins_lv4_58 Q n) w87 y1 y2 y3 y4) ∧ (¬ y1 ≤ 0 → vp_in (y1 - 1) 7 ∧ (vp_in (gA w87 43 (y1 - 1).toNatClampNeg) 10 ∧ (vp_in y4 10 ∧ (qX12_isNear w87 (gA w87 41 (gA w87 43 (y1 - 1).toNatClampNeg).toNatClampNeg) (gA w87 41 y4.toNatClampNeg) 30 (fun r115 v115_0 => (r115 = 0 ∨ r115 = 1) → (r115 = 0 → qX12_joins_lv4_125 Q (qX12_joins_lv4_58 Q n) v115_0 y1 y2 y3 y4) ∧ (¬ r115 = 0 → qX12_joins_lv4_126 Q (qX12_joins_lv4_58 Q n) v115_0 y1 y2 y3 y4 3)))))))) ∧ (((y2 >>> (y4 &&& 31)) &&& 1) = 1 → qX12_joins_lv4_58 Q n u0 y1 y2 y3 (y4 + Int32.ofInt 1)))
def qX12_joins_lv4_25 (Q : Md → Prop) : Nat → Md → Int32 → Prop
  | 0 => fun _ _ => False
  | n + 1 => fun u0 y4 =>
  ((gF u0 37) ≤ y4 → Q u0) ∧ (¬ (gF u0 37) ≤ y4 → vp_in y4 7 ∧ (vp_in y4 7 ∧ (∀ w47 : Md, w47 = tA u0 44 y4 (gA u0 43 y4.toNatClampNeg) → qX12_joins_lv4_25 Q n w47 (y4 + Int32.ofInt 1))))
def qX12_joins_lv4 (u0 : Md) (x1 : Int32) (x2 : Int32) (x3 : Int32) (Q : Md → Prop) : Prop :=
  (¬ x1 = (gF u0 37) → ∃ n' : Nat, qX12_joins_lv4_58 Q n' u0 x1 x2 x3 0) ∧ (x1 = (gF u0 37) → ((gF u0 45) < x3 → ∀ w19 : Md, w19 = sF u0 45 x3 → ∃ n' : Nat, qX12_joins_lv4_25 Q n' w19 0) ∧ (¬ (gF u0 45) < x3 → Q u0))
def qX12_joins_lv5_126 (Q : Md → Prop) (K58 : Md → Int32 → Int32 → Int32 → Int32 → Prop) (u0 : Md) (y1 : Int32) (y2 : Int32) (y3 : Int32) (y4 : Int32) (z0 : Int32) : Prop :=
  vp_in ((10 * y1) + y4) 70 ∧ (qX12_joins_lv4 u0 (y1 + 1) (y2 ||| ((1 : Int32) <<< (y4 &&& 31))) ((y3 + (gA u0 42 ((10 * y1) + y4).toNatClampNeg)) + z0) (fun v155_0 => K58 v155_0 y1 y2 y3 (y4 + Int32.ofInt 1)))
def qX12_joins_lv5_125 (Q : Md → Prop) (K58 : Md → Int32 → Int32 → Int32 → Int32 → Prop) (u0 : Md) (y1 : Int32) (y2 : Int32) (y3 : Int32) (y4 : Int32) : Prop :=
  qX12_joins_lv5_126 Q K58 u0 y1 y2 y3 y4 0
def qX12_joins_lv5_58 (Q : Md → Prop) : Nat → Md → Int32 → Int32 → Int32 → Int32 → Prop
  | 0 => fun _ _ _ _ _ => False
  | n + 1 => fun u0 y1 y2 y3 y4 =>
  ((gF u0 40) ≤ y4 → Q u0) ∧ (¬ (gF u0 40) ≤ y4 → (¬ ((y2 >>> (y4 &&& 31)) &&& 1) = 1 → vp_in y1 7 ∧ (∀ w87 : Md, w87 = tA u0 43 y1 y4 → (y1 ≤ 0 → qX12_joins_lv5_125 Q (qX12_joins_lv5_58 Q n) w87 y1 y2 y3 y4) ∧ (¬ y1 ≤ 0 → vp_in (y1 - 1) 7 ∧ (vp_in (gA w87 43 (y1 - 1).toNatClampNeg) 10 ∧ (vp_in y4 10 ∧ (qX12_isNear w87 (gA w87 41 (gA w87 43 (y1 - 1).toNatClampNeg).toNatClampNeg) (gA w87 41 y4.toNatClampNeg) 30 (fun r115 v115_0 => (r115 = 0 ∨ r115 = 1) → (r115 = 0 → qX12_joins_lv5_125 Q (qX12_joins_lv5_58 Q n) v115_0 y1 y2 y3 y4) ∧ (¬ r115 = 0 → qX12_joins_lv5_126 Q (qX12_joins_lv5_58 Q n) v115_0 y1 y2 y3 y4 3)))))))) ∧ (((y2 >>> (y4 &&& 31)) &&& 1) = 1 → qX12_joins_lv5_58 Q n u0 y1 y2 y3 (y4 + Int32.ofInt 1)))
def qX12_joins_lv5_25 (Q : Md → Prop) : Nat → Md → Int32 → Prop
  | 0 => fun _ _ => False
  | n + 1 => fun u0 y4 =>
  ((gF u0 37) ≤ y4 → Q u0) ∧ (¬ (gF u0 37) ≤ y4 → vp_in y4 7 ∧ (vp_in y4 7 ∧ (∀ w47 : Md, w47 = tA u0 44 y4 (gA u0 43 y4.toNatClampNeg) → qX12_joins_lv5_25 Q n w47 (y4 + Int32.ofInt 1))))
def qX12_joins_lv5 (u0 : Md) (x1 : Int32) (x2 : Int32) (x3 : Int32) (Q : Md → Prop) : Prop :=
  (¬ x1 = (gF u0 37) → ∃ n' : Nat, qX12_joins_lv5_58 Q n' u0 x1 x2 x3 0) ∧ (x1 = (gF u0 37) → ((gF u0 45) < x3 → ∀ w19 : Md, w19 = sF u0 45 x3 → ∃ n' : Nat, qX12_joins_lv5_25 Q n' w19 0) ∧ (¬ (gF u0 45) < x3 → Q u0))
def qX12_joins_lv6_126 (Q : Md → Prop) (K58 : Md → Int32 → Int32 → Int32 → Int32 → Prop) (u0 : Md) (y1 : Int32) (y2 : Int32) (y3 : Int32) (y4 : Int32) (z0 : Int32) : Prop :=
  vp_in ((10 * y1) + y4) 70 ∧ (qX12_joins_lv5 u0 (y1 + 1) (y2 ||| ((1 : Int32) <<< (y4 &&& 31))) ((y3 + (gA u0 42 ((10 * y1) + y4).toNatClampNeg)) + z0) (fun v155_0 => K58 v155_0 y1 y2 y3 (y4 + Int32.ofInt 1)))
def qX12_joins_lv6_125 (Q : Md → Prop) (K58 : Md → Int32 → Int32 → Int32 → Int32 → Prop) (u0 : Md) (y1 : Int32) (y2 : Int32) (y3 : Int32) (y4 : Int32) : Prop :=
  qX12_joins_lv6_126 Q K58 u0 y1 y2 y3 y4 0
def qX12_joins_lv6_58 (Q : Md → Prop) : Nat → Md → Int32 → Int32 → Int32 → Int32 → Prop
  | 0 => fun _ _ _ _ _ => False
  | n + 1 => fun u0 y1 y2 y3 y4 =>
  ((gF u0 40) ≤ y4 → Q u0) ∧ (¬ (gF u0 40) ≤ y4 → (¬ ((y2 >>> (y4 &&& 31)) &&& 1) = 1 → vp_in y1 7 ∧ (∀ w87 : Md, w87 = tA u0 43 y1 y4 → (y1 ≤ 0 → qX12_joins_lv6_125 Q (qX12_joins_lv6_58 Q n) w87 y1 y2 y3 y4) ∧ (¬ y1 ≤ 0 → vp_in (y1 - 1) 7 ∧ (vp_in (gA w87 43 (y1 - 1).toNatClampNeg) 10 ∧ (vp_in y4 10 ∧ (qX12_isNear w87 (gA w87 41 (gA w87 43 (y1 - 1).toNatClampNeg).toNatClampNeg) (gA w87 41 y4.toNatClampNeg) 30 (fun r115 v115_0 => (r115 = 0 ∨ r115 = 1) → (r115 = 0 → qX12_joins_lv6_125 Q (qX12_joins_lv6_58 Q n) v115_0 y1 y2 y3 y4) ∧ (¬ r115 = 0 → qX12_joins_lv6_126 Q (qX12_joins_lv6_58 Q n) v115_0 y1 y2 y3 y4 3)))))))) ∧ (((y2 >>> (y4 &&& 31)) &&& 1) = 1 → qX12_joins_lv6_58 Q n u0 y1 y2 y3 (y4 + Int32.ofInt 1)))
def qX12_joins_lv6_25 (Q : Md → Prop) : Nat → Md → Int32 → Prop
  | 0 => fun _ _ => False
  | n + 1 => fun u0 y4 =>
  ((gF u0 37) ≤ y4 → Q u0) ∧ (¬ (gF u0 37) ≤ y4 → vp_in y4 7 ∧ (vp_in y4 7 ∧ (∀ w47 : Md, w47 = tA u0 44 y4 (gA u0 43 y4.toNatClampNeg) → qX12_joins_lv6_25 Q n w47 (y4 + Int32.ofInt 1))))
def qX12_joins_lv6 (u0 : Md) (x1 : Int32) (x2 : Int32) (x3 : Int32) (Q : Md → Prop) : Prop :=
  (¬ x1 = (gF u0 37) → ∃ n' : Nat, qX12_joins_lv6_58 Q n' u0 x1 x2 x3 0) ∧ (x1 = (gF u0 37) → ((gF u0 45) < x3 → ∀ w19 : Md, w19 = sF u0 45 x3 → ∃ n' : Nat, qX12_joins_lv6_25 Q n' w19 0) ∧ (¬ (gF u0 45) < x3 → Q u0))
def qX12_joins_lv7_126 (Q : Md → Prop) (K58 : Md → Int32 → Int32 → Int32 → Int32 → Prop) (u0 : Md) (y1 : Int32) (y2 : Int32) (y3 : Int32) (y4 : Int32) (z0 : Int32) : Prop :=
  vp_in ((10 * y1) + y4) 70 ∧ (qX12_joins_lv6 u0 (y1 + 1) (y2 ||| ((1 : Int32) <<< (y4 &&& 31))) ((y3 + (gA u0 42 ((10 * y1) + y4).toNatClampNeg)) + z0) (fun v155_0 => K58 v155_0 y1 y2 y3 (y4 + Int32.ofInt 1)))
def qX12_joins_lv7_125 (Q : Md → Prop) (K58 : Md → Int32 → Int32 → Int32 → Int32 → Prop) (u0 : Md) (y1 : Int32) (y2 : Int32) (y3 : Int32) (y4 : Int32) : Prop :=
  qX12_joins_lv7_126 Q K58 u0 y1 y2 y3 y4 0
def qX12_joins_lv7_58 (Q : Md → Prop) : Nat → Md → Int32 → Int32 → Int32 → Int32 → Prop
  | 0 => fun _ _ _ _ _ => False
  | n + 1 => fun u0 y1 y2 y3 y4 =>
  ((gF u0 40) ≤ y4 → Q u0) ∧ (¬ (gF u0 40) ≤ y4 → (¬ ((y2 >>> (y4 &&& 31)) &&& 1) = 1 → vp_in y1 7 ∧ (∀ w87 : Md, w87 = tA u0 43 y1 y4 → (y1 ≤ 0 → qX12_joins_lv7_125 Q (qX12_joins_lv7_58 Q n) w87 y1 y2 y3 y4) ∧ (¬ y1 ≤ 0 → vp_in (y1 - 1) 7 ∧ (vp_in (gA w87 43 (y1 - 1).toNatClampNeg) 10 ∧ (vp_in y4 10 ∧ (qX12_isNear w87 (gA w87 41 (gA w87 43 (y1 - 1).toNatClampNeg).toNatClampNeg) (gA w87 41 y4.toNatClampNeg) 30 (fun r115 v115_0 => (r115 = 0 ∨ r115 = 1) → (r115 = 0 → qX12_joins_lv7_125 Q (qX12_joins_lv7_58 Q n) v115_0 y1 y2 y3 y4) ∧ (¬ r115 = 0 → qX12_joins_lv7_126 Q (qX12_joins_lv7_58 Q n) v115_0 y1 y2 y3 y4 3)))))))) ∧ (((y2 >>> (y4 &&& 31)) &&& 1) = 1 → qX12_joins_lv7_58 Q n u0 y1 y2 y3 (y4 + Int32.ofInt 1)))
def qX12_joins_lv7_25 (Q : Md → Prop) : Nat → Md → Int32 → Prop
  | 0 => fun _ _ => False
  | n + 1 => fun u0 y4 =>
  ((gF u0 37) ≤ y4 → Q u0) ∧ (¬ (gF u0 37) ≤ y4 → vp_in y4 7 ∧ (vp_in y4 7 ∧ (∀ w47 : Md, w47 = tA u0 44 y4 (gA u0 43 y4.toNatClampNeg) → qX12_joins_lv7_25 Q n w47 (y4 + Int32.ofInt 1))))
def qX12_joins_lv7 (u0 : Md) (x1 : Int32) (x2 : Int32) (x3 : Int32) (Q : Md → Prop) : Prop :=
  (¬ x1 = (gF u0 37) → ∃ n' : Nat, qX12_joins_lv7_58 Q n' u0 x1 x2 x3 0) ∧ (x1 = (gF u0 37) → ((gF u0 45) < x3 → ∀ w19 : Md, w19 = sF u0 45 x3 → ∃ n' : Nat, qX12_joins_lv7_25 Q n' w19 0) ∧ (¬ (gF u0 45) < x3 → Q u0))
def qX12_join_166 (Q : Int32 → Md → Prop) : Nat → Md → Int32 → Prop
  | 0 => fun _ _ => False
  | n + 1 => fun u0 y1 =>
  ((gF u0 37) ≤ y1 → Q (gF u0 45) u0) ∧ (¬ (gF u0 37) ≤ y1 → vp_in y1 7 ∧ (vp_in (gA u0 44 y1.toNatClampNeg) 10 ∧ (vp_in y1 7 ∧ (∀ w190 : Md, w190 = tA u0 46 y1 (gA u0 41 (gA u0 44 y1.toNatClampNeg).toNatClampNeg) → qX12_join_166 Q n w190 (y1 + Int32.ofInt 1)))))
def qX12_join_100 (Q : Int32 → Md → Prop) (K90 : Md → Int32 → Prop) : Nat → Md → Int32 → Int32 → Prop
  | 0 => fun _ _ _ => False
  | n + 1 => fun u0 y1 y2 =>
  ((gF u0 40) ≤ y2 → K90 u0 (y1 + Int32.ofInt 1)) ∧ (¬ (gF u0 40) ≤ y2 → vp_in y2 10 ∧ (qX12_givesOf u0 y1 (gA u0 41 y2.toNatClampNeg) (fun r126 v126_0 => vp_in ((10 * y1) + y2) 70 ∧ (∀ w129 : Md, w129 = tA v126_0 42 ((10 * y1) + y2) r126 → qX12_join_100 Q K90 n w129 y1 (y2 + Int32.ofInt 1)))))
def qX12_join_90 (Q : Int32 → Md → Prop) : Nat → Md → Int32 → Prop
  | 0 => fun _ _ => False
  | n + 1 => fun u0 y1 =>
  ((gF u0 37) ≤ y1 → ∀ w146 : Md, w146 = sF u0 45 ((-1000000)) → qX12_joins_lv7 w146 0 0 0 (fun v153_0 => ∀ w161 : Md, w161 = sF v153_0 47 (gF v153_0 37) → ∃ n' : Nat, qX12_join_166 Q n' w161 0)) ∧ (¬ (gF u0 37) ≤ y1 → ∃ n' : Nat, qX12_join_100 Q (qX12_join_90 Q n) n' u0 y1 0)
def qX12_join_17 (Q : Int32 → Md → Prop) : Nat → Md → Int32 → Prop
  | 0 => fun _ _ => False
  | n + 1 => fun u0 y1 =>
  vp_in 1 11570 ∧ (((gA u0 1 (1 : Int32).toNatClampNeg) ≤ y1 → ((gF u0 37) ≤ (gF u0 40) → ∃ n' : Nat, qX12_join_90 Q n' u0 0) ∧ (¬ (gF u0 37) ≤ (gF u0 40) → Q ((-1)) u0)) ∧ (¬ (gA u0 1 (1 : Int32).toNatClampNeg) ≤ y1 → qX12_hasName u0 y1 (fun r29 v29_0 => (r29 = 0 ∨ r29 = 1) → (¬ r29 = 0 → (¬ (gF v29_0 40) = 10 → vp_in (gF v29_0 40) 10 ∧ (∀ w58 : Md, w58 = tA v29_0 41 (gF v29_0 40) y1 → ∀ w66 : Md, w66 = sF w58 40 ((gF w58 40) + 1) → qX12_join_17 Q n w66 (y1 + Int32.ofInt 1))) ∧ ((gF v29_0 40) = 10 → Q ((-1)) v29_0)) ∧ (r29 = 0 → qX12_join_17 Q n v29_0 (y1 + Int32.ofInt 1)))))
def qX12_join (u0 : Md) (Q : Int32 → Md → Prop) : Prop :=
  (¬ (gF u0 36) = ((-1)) → ∀ w12 : Md, w12 = sF u0 40 0 → ∃ n' : Nat, qX12_join_17 Q n' w12 0) ∧ ((gF u0 36) = ((-1)) → Q ((-1)) u0)
def qX12_joined (u0 : Md) (x1 : Int32) (Q : Int32 → Md → Prop) : Prop :=
  qX12_in x1.toInt64 0 (((gF u0 47) - 1).toInt64) (fun r10 => (r10 = 0 ∨ r10 = 1) → (r10 = 0 → Q ((-1)) u0) ∧ (¬ r10 = 0 → vp_in x1 7 ∧ (Q (gA u0 46 x1.toNatClampNeg) u0)))
def qX12_settledNow_41 (Q : Int32 → Md → Prop) (K4 : Md → Int32 → Int32 → Prop) (K16 : Md → Int32 → Int32 → Int32 → Prop) (u0 : Md) (y2 : Int32) (y3 : Int32) (z0 : Int32) (z1 : Int32) : Prop :=
  K16 u0 (z1 + z0) y2 (y3 + Int32.ofInt 1)
def qX12_settledNow_16 (Q : Int32 → Md → Prop) (K4 : Md → Int32 → Int32 → Prop) : Nat → Md → Int32 → Int32 → Int32 → Prop
  | 0 => fun _ _ _ _ => False
  | n + 1 => fun u0 y1 y2 y3 =>
  (3 ≤ y3 → K4 u0 y1 (y2 + Int32.ofInt 1)) ∧ (¬ 3 ≤ y3 → qX12_now u0 (fun r26 v26_0 => qX12_settledOf v26_0 y2 y3 r26 (fun r29 v29_0 => (¬ r29 = ((-1)) → qX12_settledNow_41 Q K4 (qX12_settledNow_16 Q K4 n) v29_0 y2 y3 1 y1) ∧ (r29 = ((-1)) → qX12_settledNow_41 Q K4 (qX12_settledNow_16 Q K4 n) v29_0 y2 y3 0 y1))))
def qX12_settledNow_4 (Q : Int32 → Md → Prop) : Nat → Md → Int32 → Int32 → Prop
  | 0 => fun _ _ _ => False
  | n + 1 => fun u0 y1 y2 =>
  vp_in 1 11570 ∧ (((gA u0 1 (1 : Int32).toNatClampNeg) ≤ y2 → Q y1 u0) ∧ (¬ (gA u0 1 (1 : Int32).toNatClampNeg) ≤ y2 → ∃ n' : Nat, qX12_settledNow_16 Q (qX12_settledNow_4 Q n) n' u0 y1 y2 0))
def qX12_settledNow (u0 : Md) (Q : Int32 → Md → Prop) : Prop :=
  ∃ n' : Nat, qX12_settledNow_4 Q n' u0 0 0
def qX12_count_151 (Q : Int32 → Md → Prop) (K126 : Md → Int32 → Int32 → Prop) (u0 : Md) (y3 : Int32) (z0 : Int32) (z1 : Int32) : Prop :=
  K126 u0 (z1 + z0) (y3 + Int32.ofInt 1)
def qX12_count_126 (Q : Int32 → Md → Prop) : Nat → Md → Int32 → Int32 → Prop
  | 0 => fun _ _ _ => False
  | n + 1 => fun u0 y2 y3 =>
  vp_in 7 11570 ∧ (((gA u0 1 (7 : Int32).toNatClampNeg) ≤ y3 → Q y2 u0) ∧ (¬ (gA u0 1 (7 : Int32).toNatClampNeg) ≤ y3 → qX12_isLame u0 y3 (fun r140 v140_0 => (r140 = 0 ∨ r140 = 1) → (r140 = 0 → qX12_count_151 Q (qX12_count_126 Q n) v140_0 y3 0 y2) ∧ (¬ r140 = 0 → qX12_count_151 Q (qX12_count_126 Q n) v140_0 y3 1 y2))))
def qX12_count_199 (Q : Int32 → Md → Prop) (K178 : Md → Int32 → Int32 → Prop) (u0 : Md) (y3 : Int32) (z0 : Int32) (z1 : Int32) : Prop :=
  K178 u0 (z1 + z0) (y3 + Int32.ofInt 1)
def qX12_count_178 (Q : Int32 → Md → Prop) : Nat → Md → Int32 → Int32 → Prop
  | 0 => fun _ _ _ => False
  | n + 1 => fun u0 y2 y3 =>
  (4 ≤ y3 → Q y2 u0) ∧ (¬ 4 ≤ y3 → vp_in y3 4 ∧ ((¬ (gA u0 48 y3.toNatClampNeg) = ((-1)) → qX12_count_199 Q (qX12_count_178 Q n) u0 y3 1 y2) ∧ ((gA u0 48 y3.toNatClampNeg) = ((-1)) → qX12_count_199 Q (qX12_count_178 Q n) u0 y3 0 y2)))
def qX12_count (u0 : Md) (x1 : Int32) (Q : Int32 → Md → Prop) : Prop :=
  (x1 = 0 → qX12_now u0 (fun r69 v69_0 => Q r69 v69_0)) ∧ (¬ x1 = 0 → (x1 = 1 → vp_in 1 11570 ∧ (Q (gA u0 1 (1 : Int32).toNatClampNeg) u0)) ∧ (¬ x1 = 1 → (x1 = 2 → vp_in 2 11570 ∧ (Q (gA u0 1 (2 : Int32).toNatClampNeg) u0)) ∧ (¬ x1 = 2 → (x1 = 3 → vp_in 3 11570 ∧ (Q (gA u0 1 (3 : Int32).toNatClampNeg) u0)) ∧ (¬ x1 = 3 → (x1 = 4 → vp_in 4 11570 ∧ (Q (gA u0 1 (4 : Int32).toNatClampNeg) u0)) ∧ (¬ x1 = 4 → (x1 = 5 → vp_in 5 11570 ∧ (Q (gA u0 1 (5 : Int32).toNatClampNeg) u0)) ∧ (¬ x1 = 5 → (x1 = 6 → vp_in 6 11570 ∧ (Q (gA u0 1 (6 : Int32).toNatClampNeg) u0)) ∧ (¬ x1 = 6 → (x1 = 7 → vp_in 7 11570 ∧ (Q (gA u0 1 (7 : Int32).toNatClampNeg) u0)) ∧ (¬ x1 = 7 → (x1 = 8 → ∃ n' : Nat, qX12_count_126 Q n' u0 0 0) ∧ (¬ x1 = 8 → (x1 = 9 → Q (gF u0 5) u0) ∧ (¬ x1 = 9 → (x1 = 10 → Q (gF u0 37) u0) ∧ (¬ x1 = 10 → (x1 = 11 → qX12_settledNow u0 (fun r172 v172_0 => Q r172 v172_0)) ∧ (¬ x1 = 11 → (x1 = 12 → ∃ n' : Nat, qX12_count_178 Q n' u0 0 0) ∧ (¬ x1 = 12 → Q ((-1)) u0)))))))))))))
def qX12_isSlot (x0 : Int32) (Q : Int32 → Prop) : Prop :=
  qX12_in x0.toInt64 0 3 (fun r6 => (r6 = 0 ∨ r6 = 1) → Q r6)
def qX12_cut (x0 : Int64) (x1 : Int32) (Q : Int64 → Prop) : Prop :=
  Q ((x0 <<< ((64 - ((8 : Int32) <<< (x1 &&& 31))).toInt64 &&& 63)) >>> ((64 - ((8 : Int32) <<< (x1 &&& 31))).toInt64 &&& 63))
def qX12_row_52 (Q : Int32 → Md → Prop) : Nat → Md → Int32 → Int32 → Prop
  | 0 => fun _ _ _ => False
  | n + 1 => fun u0 y1 y4 =>
  (60 ≤ y4 → Q 0 u0) ∧ (¬ 60 ≤ y4 → vp_in ((60 * y1) + y4) 240 ∧ (∀ w71 : Md, w71 = tL u0 50 ((60 * y1) + y4) 0 → qX12_row_52 Q n w71 y1 (y4 + Int32.ofInt 1)))
def qX12_row (u0 : Md) (x1 : Int32) (x2 : Int32) (x3 : Int32) (Q : Int32 → Md → Prop) : Prop :=
  qX12_isSlot x1 (fun r1 => (r1 = 0 ∨ r1 = 1) → (r1 = 0 → Q ((-2)) u0) ∧ (¬ r1 = 0 → qX12_in x2.toInt64 0 3 (fun r13 => (r13 = 0 ∨ r13 = 1) → (r13 = 0 → Q ((-2)) u0) ∧ (¬ r13 = 0 → (x3 ≤ 60 → (0 ≤ x3 → vp_in x1 4 ∧ (∀ w41 : Md, w41 = tA u0 48 x1 x3 → vp_in x1 4 ∧ (∀ w48 : Md, w48 = tA w41 49 x1 x2 → ∃ n' : Nat, qX12_row_52 Q n' w48 x1 0))) ∧ (¬ 0 ≤ x3 → Q ((-3)) u0)) ∧ (¬ x3 ≤ 60 → Q ((-2)) u0)))))
def qX12_tear (u0 : Md) (x1 : Int32) (Q : Int32 → Md → Prop) : Prop :=
  qX12_isSlot x1 (fun r1 => (r1 = 0 ∨ r1 = 1) → (r1 = 0 → Q 0 u0) ∧ (¬ r1 = 0 → vp_in x1 4 ∧ ((¬ (gA u0 48 x1.toNatClampNeg) = ((-1)) → vp_in x1 4 ∧ (∀ w25 : Md, w25 = tA u0 48 x1 ((-1)) → Q 1 w25)) ∧ ((gA u0 48 x1.toNatClampNeg) = ((-1)) → Q 0 u0))))
def qX12_write (u0 : Md) (x1 : Int32) (x2 : Int32) (x3 : Int64) (Q : Int32 → Md → Prop) : Prop :=
  qX12_isSlot x1 (fun r1 => (r1 = 0 ∨ r1 = 1) → (¬ r1 = 0 → vp_in x1 4 ∧ ((¬ (gA u0 48 x1.toNatClampNeg) = ((-1)) → vp_in x1 4 ∧ (qX12_in x2.toInt64 0 (((gA u0 48 x1.toNatClampNeg) - 1).toInt64) (fun r35 => (r35 = 0 ∨ r35 = 1) → (¬ r35 = 0 → vp_in x1 4 ∧ (qX12_cut x3 (gA u0 49 x1.toNatClampNeg) (fun r61 => vp_in ((60 * x1) + x2) 240 ∧ (∀ w64 : Md, w64 = tL u0 50 ((60 * x1) + x2) r61 → Q 0 w64)))) ∧ (r35 = 0 → Q ((-7)) u0)))) ∧ ((gA u0 48 x1.toNatClampNeg) = ((-1)) → Q ((-6)) u0))) ∧ (r1 = 0 → Q ((-2)) u0))
def qX12_paste_150 (Q : Int32 → Md → Prop) : Nat → Md → Int32 → Int32 → Int32 → Int32 → Prop
  | 0 => fun _ _ _ _ _ => False
  | n + 1 => fun u0 y3 y4 y5 y6 =>
  (y5 ≤ y6 → Q 0 u0) ∧ (¬ y5 ≤ y6 → vp_in y6 60 ∧ (vp_in (((60 * y3) + y4) + y6) 240 ∧ (∀ w178 : Md, w178 = tL u0 50 (((60 * y3) + y4) + y6) (gL u0 51 y6.toNatClampNeg) → qX12_paste_150 Q n w178 y3 y4 y5 (y6 + Int32.ofInt 1))))
def qX12_paste_113 (Q : Int32 → Md → Prop) : Nat → Md → Int32 → Int32 → Int32 → Int32 → Int32 → Int32 → Prop
  | 0 => fun _ _ _ _ _ _ _ => False
  | n + 1 => fun u0 y1 y2 y3 y4 y5 y6 =>
  (y5 ≤ y6 → ∃ n' : Nat, qX12_paste_150 Q n' u0 y3 y4 y5 0) ∧ (¬ y5 ≤ y6 → vp_in (((60 * y1) + y2) + y6) 240 ∧ (vp_in y6 60 ∧ (∀ w140 : Md, w140 = tL u0 51 y6 (gL u0 50 (((60 * y1) + y2) + y6).toNatClampNeg) → qX12_paste_113 Q n w140 y1 y2 y3 y4 y5 (y6 + Int32.ofInt 1))))
def qX12_paste (u0 : Md) (x1 : Int32) (x2 : Int32) (x3 : Int32) (x4 : Int32) (x5 : Int32) (Q : Int32 → Md → Prop) : Prop :=
  qX12_isSlot x1 (fun r1 => (r1 = 0 ∨ r1 = 1) → (r1 = 0 → Q ((-2)) u0) ∧ (¬ r1 = 0 → qX12_isSlot x3 (fun r8 => (r8 = 0 ∨ r8 = 1) → (¬ r8 = 0 → vp_in x1 4 ∧ (((gA u0 48 x1.toNatClampNeg) = ((-1)) → Q ((-6)) u0) ∧ (¬ (gA u0 48 x1.toNatClampNeg) = ((-1)) → vp_in x3 4 ∧ ((¬ (gA u0 48 x3.toNatClampNeg) = ((-1)) → vp_in x1 4 ∧ (vp_in x3 4 ∧ (((gA u0 49 x1.toNatClampNeg) = (gA u0 49 x3.toNatClampNeg) → (x2 < 0 → Q ((-7)) u0) ∧ (¬ x2 < 0 → (x4 < 0 → Q ((-7)) u0) ∧ (¬ x4 < 0 → (x5 < 0 → Q ((-7)) u0) ∧ (¬ x5 < 0 → vp_in x1 4 ∧ ((0 < (lg_cmp (x2.toInt64 + x5.toInt64) ((gA u0 48 x1.toNatClampNeg).toInt64)) → Q ((-7)) u0) ∧ (¬ 0 < (lg_cmp (x2.toInt64 + x5.toInt64) ((gA u0 48 x1.toNatClampNeg).toInt64)) → vp_in x3 4 ∧ (((lg_cmp (x4.toInt64 + x5.toInt64) ((gA u0 48 x3.toNatClampNeg).toInt64)) ≤ 0 → ∃ n' : Nat, qX12_paste_113 Q n' u0 x1 x2 x3 x4 x5 0) ∧ (¬ (lg_cmp (x4.toInt64 + x5.toInt64) ((gA u0 48 x3.toNatClampNeg).toInt64)) ≤ 0 → Q ((-7)) u0)))))))) ∧ (¬ (gA u0 49 x1.toNatClampNeg) = (gA u0 49 x3.toNatClampNeg) → Q ((-8)) u0)))) ∧ ((gA u0 48 x3.toNatClampNeg) = ((-1)) → Q ((-6)) u0))))) ∧ (r8 = 0 → Q ((-2)) u0))))
def qX12_counted_89 (Q : Int32 → Md → Prop) (K30 : Md → Int32 → Int32 → Int32 → Prop) (K53 : Md → Int32 → Int32 → Int32 → Int32 → Int32 → Prop) (u0 : Md) (y1 : Int32) (y2 : Int32) (y3 : Int32) (y5 : Int32) : Prop :=
  K53 u0 y1 y2 y3 0 (y5 + Int32.ofInt 1)
def qX12_counted_53 (Q : Int32 → Md → Prop) (K30 : Md → Int32 → Int32 → Int32 → Prop) : Nat → Md → Int32 → Int32 → Int32 → Int32 → Int32 → Prop
  | 0 => fun _ _ _ _ _ _ => False
  | n + 1 => fun u0 y1 y2 y3 y4 y5 =>
  (3 ≤ y5 → (y4 = 0 → Q y2 u0) ∧ (¬ y4 = 0 → vp_in y3 240 ∧ (vp_in (y3 + 1) 240 ∧ (vp_in (y3 + 2) 240 ∧ (qX12_people u0 ((gL u0 50 y3.toNatClampNeg).toInt32) ((gL u0 50 (y3 + 1).toNatClampNeg).toInt32) ((gL u0 50 (y3 + 2).toNatClampNeg).toInt32) (fun r129 v129_0 => (0 ≤ r129 → K30 v129_0 y1 (y2 + Int32.ofInt 1) (y3 + Int32.ofInt 3)) ∧ (¬ 0 ≤ r129 → Q y2 v129_0))))))) ∧ (¬ 3 ≤ y5 → (y4 = 0 → qX12_counted_89 Q K30 (qX12_counted_53 Q K30 n) u0 y1 y2 y3 y5) ∧ (¬ y4 = 0 → vp_in (y3 + y5) 240 ∧ (qX12_in (gL u0 50 (y3 + y5).toNatClampNeg) ((-2147483648)) 2147483647 (fun r79 => (r79 = 0 ∨ r79 = 1) → (r79 = 0 → qX12_counted_89 Q K30 (qX12_counted_53 Q K30 n) u0 y1 y2 y3 y5) ∧ (¬ r79 = 0 → qX12_counted_53 Q K30 n u0 y1 y2 y3 1 (y5 + Int32.ofInt 1))))))
def qX12_counted_30 (Q : Int32 → Md → Prop) : Nat → Md → Int32 → Int32 → Int32 → Prop
  | 0 => fun _ _ _ _ => False
  | n + 1 => fun u0 y1 y2 y3 =>
  vp_in y1 4 ∧ ((((60 * y1) + (gA u0 48 y1.toNatClampNeg)) < (y3 + 3) → Q y2 u0) ∧ (¬ ((60 * y1) + (gA u0 48 y1.toNatClampNeg)) < (y3 + 3) → ∃ n' : Nat, qX12_counted_53 Q (qX12_counted_30 Q n) n' u0 y1 y2 y3 1 0))
def qX12_counted (u0 : Md) (x1 : Int32) (Q : Int32 → Md → Prop) : Prop :=
  qX12_isSlot x1 (fun r1 => (r1 = 0 ∨ r1 = 1) → (¬ r1 = 0 → vp_in x1 4 ∧ ((¬ (gA u0 48 x1.toNatClampNeg) = ((-1)) → ∃ n' : Nat, qX12_counted_30 Q n' u0 x1 0 (60 * x1)) ∧ ((gA u0 48 x1.toNatClampNeg) = ((-1)) → Q ((-6)) u0))) ∧ (r1 = 0 → Q ((-2)) u0))
def qX11_back_lvS (u0 : Md) (u0_0 : Md) (u0_0_2 : Md) (u0_0_3 : Md) (u0_0_4 : Md) (u0_0_5 : Md) (u0_0_6 : Md) (u9 : Md) (u9_2 : Md) (u9_3 : Md) (u9_4 : Md) (u9_5 : Md) (u9_6 : Md) (x1 : Int32) (Q : Int32 → Md → Md → Md → Md → Md → Md → Md → Md → Md → Md → Md → Md → Md → Prop) : Prop :=
  (x1 < 0 → Q ((-2)) u0 u0_0 u0_0_2 u0_0_3 u0_0_4 u0_0_5 u0_0_6 u9 u9_2 u9_3 u9_4 u9_5 u9_6) ∧ (¬ x1 < 0 → (x1 < 3 → vp_in x1 3 ∧ (vp_in x1 3 ∧ (qX8_copyFrom u0_0 u0_0_2 u0_0_3 u0_0_4 u0_0_5 u0_0_6 u9 u9_2 u9_3 u9_4 u9_5 u9_6 (fun v34_0 v34_1 v34_2 v34_3 v34_4 v34_5 v34_6 v34_7 v34_8 v34_9 v34_10 v34_11 => Q 0 u0 v34_0 v34_1 v34_2 v34_3 v34_4 v34_5 v34_6 v34_7 v34_8 v34_9 v34_10 v34_11)))) ∧ (¬ x1 < 3 → Q ((-2)) u0 u0_0 u0_0_2 u0_0_3 u0_0_4 u0_0_5 u0_0_6 u9 u9_2 u9_3 u9_4 u9_5 u9_6))
def qX11_back_lvN (u0 : Md) (x1 : Int32) (Q : Int32 → Md → Prop) : Prop :=
  (x1 < 0 → Q ((-2)) u0) ∧ (¬ x1 < 0 → (x1 < 3 → vp_in x1 3 ∧ (Q ((-6)) u0)) ∧ (¬ x1 < 3 → Q ((-2)) u0))
def qX11_keep_lvS (u0 : Md) (u0_0 : Md) (u0_0_2 : Md) (u0_0_3 : Md) (u0_0_4 : Md) (u0_0_5 : Md) (u0_0_6 : Md) (u9 : Md) (u9_2 : Md) (u9_3 : Md) (u9_4 : Md) (u9_5 : Md) (u9_6 : Md) (x1 : Int32) (Q : Int32 → Md → Md → Md → Md → Md → Md → Md → Md → Md → Md → Md → Md → Md → Prop) : Prop :=
  (x1 < 0 → Q ((-2)) u0 u0_0 u0_0_2 u0_0_3 u0_0_4 u0_0_5 u0_0_6 u9 u9_2 u9_3 u9_4 u9_5 u9_6) ∧ (¬ x1 < 0 → (x1 < 3 → vp_in x1 3 ∧ (vp_in x1 3 ∧ (qX8_copyFrom u9 u9_2 u9_3 u9_4 u9_5 u9_6 u0_0 u0_0_2 u0_0_3 u0_0_4 u0_0_5 u0_0_6 (fun v44_0 v44_1 v44_2 v44_3 v44_4 v44_5 v44_6 v44_7 v44_8 v44_9 v44_10 v44_11 => Q 0 u0 v44_6 v44_7 v44_8 v44_9 v44_10 v44_11 v44_0 v44_1 v44_2 v44_3 v44_4 v44_5)))) ∧ (¬ x1 < 3 → Q ((-2)) u0 u0_0 u0_0_2 u0_0_3 u0_0_4 u0_0_5 u0_0_6 u9 u9_2 u9_3 u9_4 u9_5 u9_6))
