def lstF (f : Nat → Bool) : Nat → Nat
  | 0 => 0
  | k + 1 => if f k then k + 1 else lstF f k
theorem lstF_some {f : Nat → Bool} : ∀ k r, lstF f k = r + 1 → r < k ∧ f r = true := by
  intro k
  induction k with
  | zero => intro r h; exact absurd h (by unfold lstF; omega)
  | succ k ih =>
    intro r h
    have h' : (if f k = true then k + 1 else lstF f k) = r + 1 := h
    cases hf : f k with
    | true => rw [hf, if_pos rfl] at h'; obtain rfl : k = r := by omega
              exact ⟨by omega, hf⟩
    | false => rw [hf, if_neg (by decide)] at h'; have := ih r h'; exact ⟨by omega, this.2⟩
/-- the last line of a kind of the act a (0 none): 0 none, l + 1 -/
def lnA (A : Nat → Nat → Nat) (a kind : Nat) : Nat := if a = 0 then 0 else lstF (fun l => A 28 (12 * (a - 1) + l) == kind) (A 27 (a - 1))
theorem lnA_lt {A : Nat → Nat → Nat} {a kind : Nat} (h : lnA A a kind ≠ 0) : a ≠ 0 ∧ lnA A a kind - 1 < A 27 (a - 1) := by
  obtain ⟨r, hr⟩ : ∃ r, lnA A a kind = r + 1 := ⟨lnA A a kind - 1, by omega⟩
  have h0 : a ≠ 0 := fun e => h (by unfold lnA; rw [if_pos e])
  refine ⟨h0, ?_⟩
  rw [hr, Nat.add_sub_cancel]
  unfold lnA at hr
  rw [if_neg h0] at hr
  exact (lstF_some _ r hr).1
theorem N_lastLine {ac : Md} {A : Nat → Nat → Nat} {c a kind : Nat} (hw : Wf A c) (h : Nac ac A) (ha : a ≤ A 54 0) (hk : kind ≤ 5) {Q : Int32 → Md → Prop} (hQ : Q (if lnA A a kind = 0 then -1 else nI (12 * (a - 1) + (lnA A a kind - 1))) ac) : qX0_lastLine ac (oI a) (nI kind) Q := by
  have b4 : A 54 0 ≤ 8 := hw.1.2.2.2.2.1
  unfold qX0_lastLine
  by_cases h0 : a = 0
  · subst h0; exact c_y' rfl hQ
  obtain ⟨a, rfl⟩ : ∃ k, a = k + 1 := ⟨a - 1, by omega⟩
  have er : lnA A (a + 1) kind = lstF (fun l => A 28 (12 * a + l) == kind) (A 27 a) := by
    unfold lnA; rw [if_neg (by omega)]; rfl
  obtain ⟨-, w27, wl⟩ := hw.2.2.2.2.2.2.1 a (by omega)
  obtain ⟨-, q27, -, ql⟩ := h.2 a (by omega)
  rw [er, Nat.add_sub_cancel] at hQ
  rw [oI_s, nI_clamp (by omega), q27, nl_12, pk_mul, Nat.mul_comm a 12, nI_add]
  refine c_n' (nI_m1 (by omega)) ⟨vp_in_nI (by omega) (by decide), A 27 a + 1, ?_⟩
  refine pk_loopD (fun k i (z : Unit) => qX0_lastLine_21 Q k ac (nI a) (nI kind) (oI (12 * a + i))) (fun i z => i ≤ A 27 a ∧ lstF (fun l => A 28 (12 * a + l) == kind) i = lstF (fun l => A 28 (12 * a + l) == kind) (A 27 a)) (fun k z hI => ?_) (fun k i z hI ih => ?_) (A 27 a) () ⟨Nat.le_refl _, rfl⟩
  · unfold qX0_lastLine_21
    rw [← hI.2] at hQ
    refine c_y ?_ hQ
    rw [nl_12, pk_mul, Int32.lt_iff_toInt_lt, oI_toInt (by omega), nI_toInt (by omega)]; omega
  · obtain ⟨i1, i2⟩ := hI
    have q28 := (ql i (by omega)).1
    have w28 := (wl i (by omega)).1
    have i2' : (if (A 28 (12 * a + i) == kind) = true then i + 1 else lstF (fun l => A 28 (12 * a + l) == kind) i) = lstF (fun l => A 28 (12 * a + l) == kind) (A 27 a) := i2
    unfold qX0_lastLine_21
    rw [show 12 * a + (i + 1) = 12 * a + i + 1 by omega, oI_s, nl_12, pk_mul, nI_clamp (by omega), q28, oI_dec]
    refine c_n (nI_nlt (by omega) (by omega)) ⟨vp_in_nI (by omega) (by decide), c_eq' rfl rfl (by omega) (by omega) (fun e => ?_) (fun e => ?_)⟩
    · rw [e, beq_self_eq_true, if_pos rfl] at i2'
      rw [← i2', if_neg (by omega), Nat.add_sub_cancel] at hQ; exact hQ
    · rw [beq_false_of_ne e, if_neg (by decide)] at i2'
      exact ih () ⟨by omega, i2'⟩
theorem N_numberOf {ac : Md} {A : Nat → Nat → Nat} {c a kind wo : Nat} (hw : Wf A c) (h : Nac ac A) (ha : a ≤ A 54 0) (hk : kind ≤ 5) {Q : Int32 → Md → Prop} (hQ : Q (nI (if lnA A a kind = 0 then wo else A 29 (12 * (a - 1) + (lnA A a kind - 1)))) ac) : qX0_numberOf ac (oI a) (nI kind) (nI wo) Q := by
  have b4 : A 54 0 ≤ 8 := hw.1.2.2.2.2.1
  unfold qX0_numberOf
  refine N_lastLine hw h ha hk ?_
  by_cases h0 : lnA A a kind = 0
  · rw [if_pos h0] at hQ ⊢; exact c_y' rfl hQ
  · rw [if_neg h0] at hQ ⊢
    obtain ⟨k1, k2⟩ := lnA_lt h0
    have k4 := ((h.2 (a - 1) (by omega)).2.2.2 _ k2).2.1
    have k5 := (hw.2.2.2.2.2.2.1 (a - 1) (by omega)).2.1
    refine c_n' (nI_m1 (by omega)) ⟨vp_in_nI (by omega) (by decide), ?_⟩
    rw [nI_clamp (by omega), k4]; exact hQ
theorem M_termOf {m : Md} {A : Nat → Nat → Nat} {c kind i : Nat} {wo : Int32} (hw : Wf A c) (hm : MW (gA m 1) A) (hk : kind ≤ 5) (hi : i = 1 ∨ i = 2) {Q : Int32 → Md → Prop} (hQ : Q (if lnA A (acA A (A 50 0)) kind = 0 then wo else nI (A (28 + i) (12 * (acA A (A 50 0) - 1) + (lnA A (acA A (A 50 0)) kind - 1)))) m) : qX12_termOf m (nI kind) (nI i) wo Q := by
  have b0 : A 50 0 < 400 := hw.1.1
  have b4 : A 54 0 ≤ 8 := hw.1.2.2.2.2.1
  have e0 : gA m 1 0 = nI (A 50 0) := hm.1.1
  unfold qX12_termOf qX12_now
  refine ⟨vp_in_nI (n := 0) (by decide) (by decide), ?_⟩
  rw [show gA m 1 (0 : Int32).toNatClampNeg = nI (A 50 0) from e0]
  refine M_actOf hw hm b0 ?_
  have ha := acA_le (A := A) (y := A 50 0)
  generalize acA A (A 50 0) = a at *
  by_cases h0 : a = 0
  · subst h0
    refine ⟨1, ?_⟩
    unfold qX12_termOf_16
    exact c_y rfl hQ
  obtain ⟨a, rfl⟩ : ∃ k, a = k + 1 := ⟨a - 1, by omega⟩
  have er : lnA A (a + 1) kind = lstF (fun l => A 28 (12 * a + l) == kind) (A 27 a) := by
    unfold lnA; rw [if_neg (by omega)]; rfl
  obtain ⟨-, w27, wl⟩ := hw.2.2.2.2.2.2.1 a (by omega)
  obtain ⟨-, q27, ql⟩ := hm.2.2.2.2.2.2.1 a (by omega)
  have eac : acI (a + 1) = nI (3710 + 290 * a) := by unfold acI; rw [if_neg (by omega), Nat.add_sub_cancel]
  rw [eac]
  rw [er, Nat.add_sub_cancel] at hQ
  refine pk_loop (fun k l (v : Int32) => qX12_termOf_16 Q k m (nI kind) (nI i) (nI (3710 + 290 * a)) v (nI l)) (fun l v => v = if lstF (fun l => A 28 (12 * a + l) == kind) l = 0 then wo else nI (A (28 + i) (12 * a + (lstF (fun l => A 28 (12 * a + l) == kind) l - 1)))) (A 27 a) 0 wo (by omega) rfl (fun k v hI => ?_) (fun k l v hl hI ih => ?_)
  · subst hI
    unfold qX12_termOf_16
    refine c_n (nI_m1 (by omega)) ?_
    rw [nl_1, nI_add, nI_clamp (by omega), q27]
    exact ⟨vp_in_nI (by omega) (by decide), c_y (nI_le (Nat.le_refl _) (by omega)) hQ⟩
  · obtain ⟨q28, q29, q30, -⟩ := ql l hl
    have w28 := (wl l hl).1
    have es : lstF (fun l => A 28 (12 * a + l) == kind) (l + 1) = if (A 28 (12 * a + l) == kind) = true then l + 1 else lstF (fun l => A 28 (12 * a + l) == kind) l := rfl
    have qi : gA m 1 (3710 + 290 * a + 2 + 24 * l + i) = nI (A (28 + i) (12 * a + l)) := by
      rcases hi with rfl | rfl
      · exact q29
      · exact q30
    unfold qX12_termOf_16
    refine c_n (nI_m1 (by omega)) ?_
    rw [nl_1, nI_add, nI_clamp (by omega), q27, nl_2, nl_24, pk_mul, nI_add, nI_add, nI_clamp (by omega), q28, nI_add, nI_clamp (by omega), qi, ofI1, nI_add]
    refine ⟨vp_in_nI (by omega) (by decide), c_n (nI_ge hl (by omega)) ⟨vp_in_nI (by omega) (by decide), c_eq' rfl rfl (by omega) (by omega) (fun e => ⟨vp_in_nI (by omega) (by decide), ih _ ?_⟩) (fun e => ih _ ?_)⟩⟩
    · rw [es, e, beq_self_eq_true, if_pos rfl, if_neg (by omega), Nat.add_sub_cancel]
    · rw [es, beq_false_of_ne e, if_neg (show ¬ (false = true) by decide)]; exact hI
def ad (a b : Nat) : Nat := (a - b) + (b - a)
def nearB (A : Nat → Nat → Nat) (p q M : Nat) : Bool := decide (ad (A 1 p) (A 1 q) * ad (A 1 p) (A 1 q) + ad (A 2 p) (A 2 q) * ad (A 2 p) (A 2 q) ≤ M * M)
theorem ad_lt {a b : Nat} (ha : a < 1000) (hb : b < 1000) : ad a b * ad a b ≤ 998001 := by
  have h : ad a b ≤ 999 := by unfold ad; omega
  have := Nat.mul_le_mul h h
  omega
theorem ad_int (a b : Nat) : ((a : Int) - b) * ((a : Int) - b) = ((ad a b * ad a b : Nat) : Int) := by
  rw [Int.natCast_mul]
  rcases Nat.le_total a b with h | h
  · have e : ((ad a b : Nat) : Int) = (b : Int) - a := by unfold ad; omega
    rw [e, ← Int.neg_mul_neg, Int.neg_sub]
  · have e : ((ad a b : Nat) : Int) = (a : Int) - b := by unfold ad; omega
    rw [e]
theorem sq32 {a b : Nat} (ha : a < 1000) (hb : b < 1000) : (nI a - nI b) * (nI a - nI b) = nI (ad a b * ad a b) := by
  have h := ad_lt ha hb
  rw [← Int32.toInt_inj, Int32.toInt_mul, pk_sub_toInt (by omega) (by omega), ad_int, nI_toInt (by omega)]
  exact Int.bmod_eq_of_le (by omega) (by omega)
theorem sq64 {a b : Nat} (ha : a < 1000) (hb : b < 1000) : ((nI a - nI b).toInt64 * (nI a - nI b).toInt64).toInt = ((ad a b * ad a b : Nat) : Int) := by
  have h := ad_lt ha hb
  rw [Int64.toInt_mul, Int32.toInt_toInt64, pk_sub_toInt (by omega) (by omega), ad_int]
  exact Int.bmod_eq_of_le (by omega) (by omega)
theorem N_areNear {la : Md} {A : Nat → Nat → Nat} {c p q M : Nat} (hw : Wf A c) (h : Npl la A) (hp : p < A 51 0) (hq : q < A 51 0) (hM : M ≤ 9999) {Q : Int32 → Md → Prop} (hQ : Q (bI (nearB A p q M)) la) : qX2_areNear la (nI p) (nI q) (nI M) Q := by
  have b1 : A 51 0 ≤ 40 := hw.1.2.1
  obtain ⟨w1, w2⟩ := hw.2.1 p hp
  obtain ⟨w3, w4⟩ := hw.2.1 q hq
  obtain ⟨p1, p2⟩ := h.2 p hp
  obtain ⟨q1, q2⟩ := h.2 q hq
  have l1 := ad_lt w1 w3
  have l2 := ad_lt w2 w4
  have hMM : M * M ≤ 9999 * 9999 := Nat.mul_le_mul hM hM
  unfold qX2_areNear
  rw [nI_clamp (by omega), nI_clamp (by omega), p1, p2, q1, q2, sq32 w1 w3, sq32 w2 w4, pk_mul, nI_add]
  refine ⟨vp_in_nI (by omega) (by decide), vp_in_nI (by omega) (by decide), vp_in_nI (by omega) (by decide), vp_in_nI (by omega) (by decide), c_lt rfl rfl (by omega) (by omega) (fun e => ?_) (fun e => ?_)⟩
  · have : nearB A p q M = false := decide_eq_false (by omega)
    rw [this] at hQ; exact hQ
  · have : nearB A p q M = true := decide_eq_true (by omega)
    rw [this] at hQ; exact hQ
theorem M_isNear {m : Md} {A : Nat → Nat → Nat} {c p q M : Nat} (hw : Wf A c) (hm : MW (gA m 1) A) (hp : p < A 51 0) (hq : q < A 51 0) (hM : M ≤ 9999) {Q : Int32 → Md → Prop} (hQ : Q (bI (nearB A p q M)) m) : qX12_isNear m (nI p) (nI q) (nI M) Q := by
  have b1 : A 51 0 ≤ 40 := hw.1.2.1
  obtain ⟨w1, w2⟩ := hw.2.1 p hp
  obtain ⟨w3, w4⟩ := hw.2.1 q hq
  obtain ⟨p1, p2⟩ := hm.2.1 p hp
  obtain ⟨q1, q2⟩ := hm.2.1 q hq
  have l1 := ad_lt w1 w3
  have l2 := ad_lt w2 w4
  have hMM : M * M ≤ 9999 * 9999 := Nat.mul_le_mul hM hM
  unfold qX12_isNear
  rw [nl_10, nl_2, pk_mul, pk_mul, nI_add, nI_add, nl_1, nI_add, nI_add, nI_clamp (by omega), nI_clamp (by omega), nI_clamp (by omega), nI_clamp (by omega), p1, p2, q1, q2]
  have e3 : ((nI M).toInt64 * (nI M).toInt64).toInt = ((M * M : Nat) : Int) := by
    rw [Int64.toInt_mul, Int32.toInt_toInt64, nI_toInt (by omega), ← Int.natCast_mul]
    exact Int.bmod_eq_of_le (by omega) (by omega)
  have e4 : ((nI (A 1 p) - nI (A 1 q)).toInt64 * (nI (A 1 p) - nI (A 1 q)).toInt64 + (nI (A 2 p) - nI (A 2 q)).toInt64 * (nI (A 2 p) - nI (A 2 q)).toInt64).toInt = ((ad (A 1 p) (A 1 q) * ad (A 1 p) (A 1 q) + ad (A 2 p) (A 2 q) * ad (A 2 p) (A 2 q) : Nat) : Int) := by
    rw [Int64.toInt_add, sq64 w1 w3, sq64 w2 w4, ← Int.natCast_add]
    exact Int.bmod_eq_of_le (by omega) (by omega)
  rw [lcmp_gt, e3, e4]
  refine ⟨vp_in_nI (by omega) (by decide), vp_in_nI (by omega) (by decide), vp_in_nI (by omega) (by decide), vp_in_nI (by omega) (by decide), fun e => ?_, fun e => ?_⟩
  · have : nearB A p q M = false := decide_eq_false (by omega)
    rw [this] at hQ; exact hQ
  · have : nearB A p q M = true := decide_eq_true (by omega)
    rw [this] at hQ; exact hQ
theorem bt_ct : ∀ (a b c d e f g h i : Bool), qJ6_bitCount_0f7a4 (nI (bitF (fl9 [a, b, c, d, e, f, g, h, i]) 9)) (fun r => r = nI (cntF (fl9 [a, b, c, d, e, f, g, h, i]) 9)) := by
  unfold qJ6_bitCount_0f7a4
  decide +kernel
theorem J_bitCount (f : Nat → Bool) {Q : Int32 → Prop} (hQ : Q (nI (cntF f 9))) : qJ6_bitCount_0f7a4 (nI (bitF f 9)) Q := by
  have h := bt_ct (f 0) (f 1) (f 2) (f 3) (f 4) (f 5) (f 6) (f 7) (f 8)
  rw [← bitF_c 9 (fun i hi => fl9_eq f hi), ← cntF_c 9 (fun i hi => fl9_eq f hi)] at h
  unfold qJ6_bitCount_0f7a4 at h ⊢
  rw [h]; exact hQ
def tfB (A : Nat → Nat → Nat) (h hd : Nat) : Bool := (cntF (fun v => A 39 (9 * h + v) != 0) 9 == 0) || decide (cntF (fun v => A 39 (9 * h + v) == 1) 9 * 100 < hd * cntF (fun v => A 39 (9 * h + v) != 0) 9)
theorem N_tooFew {bd : Md} {A : Nat → Nat → Nat} {h hd : Nat} (hh : h < 60) (g4 : gA bd 4 h = nI (bitF (fun v => A 39 (9 * h + v) != 0) 9)) (g5 : gA bd 5 h = nI (bitF (fun v => A 39 (9 * h + v) == 1) 9)) (hd9 : hd ≤ 9999) {Q : Int32 → Md → Prop} (hQ : Q (bI (tfB A h hd)) bd) : qX1_tooFew bd (nI h) (nI hd) Q := by
  have c1 := cntF_le (f := fun v => A 39 (9 * h + v) != 0) 9
  have c2 := cntF_le (f := fun v => A 39 (9 * h + v) == 1) 9
  have hm : hd * cntF (fun v => A 39 (9 * h + v) != 0) 9 ≤ 9999 * 9 := Nat.mul_le_mul hd9 c1
  unfold qX1_tooFew
  rw [nI_clamp (by omega), g4, g5]
  refine ⟨vp_in_nI hh (by decide), J_bitCount _ (c_eq rfl nl_0 (by omega) (by decide) (fun e => ?_) (fun e => ⟨vp_in_nI hh (by decide), J_bitCount _ ?_⟩))⟩
  · have : tfB A h hd = true := by unfold tfB; rw [e]; rfl
    rw [this] at hQ; exact hQ
  · rw [pk_mul, nl_100, pk_mul]
    refine c_le rfl rfl (by omega) (by omega) (fun e2 => ?_) (fun e2 => ?_)
    · have : tfB A h hd = false := by unfold tfB; rw [beq_false_of_ne e, decide_eq_false (by omega)]; rfl
      rw [this] at hQ; exact hQ
    · have : tfB A h hd = true := by unfold tfB; rw [decide_eq_true (by omega), Bool.or_true]
      rw [this] at hQ; exact hQ
