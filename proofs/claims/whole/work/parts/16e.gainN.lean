/-- the place p has a name among the first n -/
def hnB (A : Nat → Nat → Nat) (p : Nat) : Nat → Bool
  | 0 => false
  | n + 1 => hnB A p n || (A 10 n == p)
def hnF (A : Nat → Nat → Nat) (p : Nat) : Bool := hnB A p (A 52 0)
theorem hnB_mono {A : Nat → Nat → Nat} {p a b : Nat} (h : a ≤ b) (ha : hnB A p a = true) : hnB A p b = true := by
  induction h with
  | refl => exact ha
  | step _ ih =>
    show (hnB A p _ || _) = true
    rw [ih]; rfl
theorem hnB_ex {A : Nat → Nat → Nat} {p : Nat} : ∀ n, hnB A p n = true → ∃ k, k < n ∧ A 10 k = p := by
  intro n
  induction n with
  | zero => intro h; exact absurd (show false = true from h) (by decide)
  | succ n ih =>
    intro h
    have h' : (hnB A p n || (A 10 n == p)) = true := h
    cases e : hnB A p n with
    | true => obtain ⟨k, h1, h2⟩ := ih e; exact ⟨k, by omega, h2⟩
    | false => rw [e, Bool.false_or] at h'; exact ⟨n, by omega, by simpa using h'⟩
/-- the least of f over the names of a place, from M -/
def mnE (A : Nat → Nat → Nat) (pl : Nat) (f : Nat → Nat) (M : Nat) : Nat → Nat
  | 0 => M
  | n + 1 => if A 10 n = pl then min (mnE A pl f M n) (f n) else mnE A pl f M n
theorem mnE_min (A : Nat → Nat → Nat) (pl : Nat) (f : Nat → Nat) {M M' : Nat} (h : M ≤ M') : ∀ n, mnE A pl f M n = min M (mnE A pl f M' n) := by
  intro n
  induction n with
  | zero => show M = min M M'; omega
  | succ n ih =>
    show (if A 10 n = pl then min (mnE A pl f M n) (f n) else mnE A pl f M n) = min M (if A 10 n = pl then min (mnE A pl f M' n) (f n) else mnE A pl f M' n)
    rw [ih]
    split <;> omega
theorem mnE_le (A : Nat → Nat → Nat) (pl : Nat) (f : Nat → Nat) (M : Nat) : ∀ n, mnE A pl f M n ≤ M ∧ ∀ k, k < n → A 10 k = pl → mnE A pl f M n ≤ f k := by
  intro n
  induction n with
  | zero => exact ⟨Nat.le_refl _, fun k hk => by omega⟩
  | succ n ih =>
    show (if A 10 n = pl then min (mnE A pl f M n) (f n) else mnE A pl f M n) ≤ M ∧ ∀ k, k < n + 1 → A 10 k = pl → (if A 10 n = pl then min (mnE A pl f M n) (f n) else mnE A pl f M n) ≤ f k
    refine ⟨by have := ih.1; split <;> omega, fun k hk hp => ?_⟩
    by_cases e : k = n
    · subst e; rw [if_pos hp]; omega
    · have := ih.2 k (by omega) hp
      split <;> omega
def edW (A : Nat → Nat → Nat) (x : List (Nat × Int32)) (y n : Nat) : Nat := edD (lch x) (lch (spl A n y)) x.length (spl A n y).length
/-- what a written name gives at a place -/
def gn (A : Nat → Nat → Nat) (x : List (Nat × Int32)) (y pl : Nat) : Int := 20 - (mnE A pl (edW A x y) 73 (A 52 0) : Nat)
theorem N_fewestEdits {u st sp vw o1 o2 : Md} {A : Nat → Nat → Nat} {ca y pl : Nat} {x : List (Nat × Int32)} (hw : Wf A ca) (hsp : Nsc sp A) (hy : y < 400) (h0 : gF u 0 = nI y) (hp : pl < 40) (hx : RowIs o1 x) (xl : x.length ≤ 24) (xo : okL x) {Q : Int32 → Md → Md → Md → Md → Md → Md → Prop} (hQ : ∀ vw' o2', Q (nI (mnE A pl (edW A x y) 73 (A 52 0))) u st sp vw' o1 o2') : qX3_fewestEdits u st sp vw o1 o2 (nI pl) Q := by
  have b2 : A 52 0 ≤ 80 := hw.1.2.2.1
  unfold qX3_fewestEdits
  refine pk_loop (fun f n (z : Md × Md × Nat) => qX3_fewestEdits_7 Q f u st sp z.1 o1 z.2.1 (nI pl) (nI z.2.2) (nI n)) (fun n z => z.2.2 = mnE A pl (edW A x y) 73 n) (A 52 0) 0 (vw, o2, 73) (Nat.zero_le _) rfl (fun f z hI => ?_) (fun f n z hn hI ih => ?_)
  · unfold qX3_fewestEdits_7
    rw [hsp.1.1, hI]
    exact c_y (nI_le (Nat.le_refl _) (by omega)) (hQ _ _)
  · have hb := (mnE_le A pl (edW A x y) 73 n).1
    have e1 : mnE A pl (edW A x y) 73 (n + 1) = if A 10 n = pl then min (mnE A pl (edW A x y) 73 n) (edW A x y n) else mnE A pl (edW A x y) 73 n := rfl
    have w10 : A 10 n < 2 ^ 31 := by
      have h1 := (hw.2.2.2.2.1 n hn).1
      have h2 : A 51 0 ≤ 40 := hw.1.2.1
      omega
    unfold qX3_fewestEdits_7
    rw [hsp.1.1, nI_clamp (by omega), (hsp.1.2 n hn).1, ofI1, nI_add]
    refine c_n (nI_ge hn (by omega)) (c_in rfl (by omega) (by decide) (c_eq' rfl rfl w10 (by omega) (fun e => ?_) (fun e => ih (z.1, z.2.1, z.2.2) (by rw [e1, if_neg e]; exact hI))))
    intro w38 hw38
    have l2 := splL hw n y
    rw [h0]
    refine N_spellInto hw hsp.1 hsp.2 hn hy (RowIs_nil (u := w38) (by rw [hw38]; rfl)) (by simp) (fun v f1 r1 => ?_)
    rw [List.nil_append] at r1
    refine N_editsOfRows hx r1 (by omega) (by omega) xo (splO hw hn y) (fun u' fu => ?_)
    have le := edD_le (lch x) (lch (spl A n y)) x.length (spl A n y).length
    rw [imin_nI (by rw [hI]; omega) (by omega)]
    refine ih (u', v, min z.2.2 (edD (lch x) (lch (spl A n y)) x.length (spl A n y).length)) ?_
    rw [e1, if_pos e, hI]; rfl
/-- the written names as rows -/
def Wr (u : Md) (n : Nat) (W : Nat → List (Nat × Int32)) : Prop := ∀ i, i < n → (W i).length ≤ 24 ∧ okL (W i) ∧ gA u 2 i = nI (W i).length ∧ ∀ j x, (W i)[j]? = some x → (gB u 3 (24 * i + j)).toInt32 = nI x.1 ∧ x.2 = -3
theorem N_fillGains {u st sp vw o1 o2 : Md} {A : Nat → Nat → Nat} {ca y k n : Nat} {pp : Nat → Nat} {W : Nat → List (Nat × Int32)} (hw : Wf A ca) (hsp : Nsc sp A) (hy : y < 400) (h0 : gF u 0 = nI y) (d1 : gF u 1 = nI n) (d2 : gF u 6 = nI k) (d3 : ∀ c, c < k → gA u 7 c = nI (pp c) ∧ pp c < 40) (n7 : n ≤ 7) (k10 : k ≤ 10) (hW : Wr u n W) {Q : Md → Md → Md → Md → Md → Md → Prop} (hQ : ∀ u' vw' o1' o2', Fr [(1, 8)] u u' → (∀ i c, i < n → c < k → gA u' 8 (i * 10 + c) = Int32.ofInt (gn A (W i) y (pp c))) → Q u' st sp vw' o1' o2') : qX3_fillGains u st sp vw o1 o2 Q := by
  unfold qX3_fillGains
  refine pk_loop (fun f i (z : Md × Md × Md × Md) => qX3_fillGains_2 Q f z.1 st sp z.2.1 z.2.2.1 z.2.2.2 (nI i)) (fun i z => Fr [(1, 8)] u z.1 ∧ ∀ t c, t < i → c < k → gA z.1 8 (t * 10 + c) = Int32.ofInt (gn A (W t) y (pp c))) n 0 (u, vw, o1, o2) (Nat.zero_le _) ⟨Fr.rf, fun t c ht => by omega⟩ (fun f z hI => ?_) (fun f i z hi hI ih => ?_)
  · unfold qX3_fillGains_2
    rw [show gF z.1 1 = nI n from (hI.1.1 1 (by decide)).trans d1]
    exact c_y (nI_le (Nat.le_refl _) (by omega)) (hQ _ _ _ _ hI.1 hI.2)
  · obtain ⟨v, a1, a2, a3⟩ := z
    obtain ⟨i1, i2⟩ := hI
    dsimp only at i1 i2 ⊢
    obtain ⟨w1, w2, w3, w4⟩ := hW i hi
    unfold qX3_fillGains_2
    rw [show gF v 1 = nI n from (i1.1 1 (by decide)).trans d1]
    refine c_n (nI_ge hi (by omega)) (fun w15 hw15 => ?_)
    have v2 : gA v 2 i = nI (W i).length := by rw [i1.2.1 2 (by decide)]; exact w3
    refine pk_loop (fun f2 j o => qX3_fillGains_21 Q (qX3_fillGains_2 Q f) f2 v st sp a1 o a3 (nI i) (nI j)) (fun j o => RowIs o ((W i).take j)) (W i).length 0 w15 (Nat.zero_le _) (by rw [List.take_zero]; exact RowIs_nil (by rw [hw15]; rfl)) (fun f2 o hI => ?_) (fun f2 j o hj hI ih2 => ?_)
    · rw [List.take_length] at hI
      unfold qX3_fillGains_21
      rw [nI_clamp (by omega), v2]
      refine c_in rfl (by omega) (by decide) (c_y (nI_le (Nat.le_refl _) (by omega)) ?_)
      refine pk_loop (fun f3 c (z : Md × Md × Md) => qX3_fillGains_62 Q (qX3_fillGains_2 Q f) f3 z.1 st sp z.2.1 o z.2.2 (nI i) (nI c)) (fun c z => Fr [(1, 8)] u z.1 ∧ (∀ t c, t < i → c < k → gA z.1 8 (t * 10 + c) = Int32.ofInt (gn A (W t) y (pp c))) ∧ ∀ d, d < c → gA z.1 8 (i * 10 + d) = Int32.ofInt (gn A (W i) y (pp d))) k 0 (v, a1, a3) (Nat.zero_le _) ⟨i1, i2, fun d hd => by omega⟩ (fun f3 z hI3 => ?_) (fun f3 c z hc hI3 ih3 => ?_)
      · obtain ⟨x1, x2, x3⟩ := z
        obtain ⟨j1, j2, j3⟩ := hI3
        dsimp only at j1 j2 j3 ⊢
        unfold qX3_fillGains_62
        rw [show gF x1 6 = nI k from (j1.1 6 (by decide)).trans d2, ofI1, nI_add]
        refine c_y (nI_le (Nat.le_refl _) (by omega)) (ih (x1, x2, o, x3) ⟨j1, fun t c ht hc => ?_⟩)
        by_cases e : t = i
        · subst e; exact j3 c hc
        · exact j2 t c (by omega) hc
      · obtain ⟨x1, x2, x3⟩ := z
        obtain ⟨j1, j2, j3⟩ := hI3
        dsimp only at j1 j2 j3 ⊢
        unfold qX3_fillGains_62
        rw [show gF x1 6 = nI k from (j1.1 6 (by decide)).trans d2, nI_clamp (by omega), show gA x1 7 c = nI (pp c) by rw [j1.2.1 7 (by decide)]; exact (d3 c hc).1, ofI1, nI_add]
        refine c_n (nI_ge hc (by omega)) (c_in rfl (by omega) (by decide) (N_fewestEdits hw hsp hy ((j1.1 0 (by decide)).trans h0) (d3 c hc).2 hI w1 w2 (fun vw' o2' => ?_)))
        rw [nl_10, pk_mul, nI_add]
        refine c_in rfl (by omega) (by decide) (fun w hw' => ?_)
        have ez : (20 : Int32) - nI (mnE A (pp c) (edW A (W i) y) 73 (A 52 0)) = Int32.ofInt (gn A (W i) y (pp c)) := by
          unfold gn; rw [Int32.ofInt_sub]; rfl
        rw [ez] at hw'
        subst hw'
        rw [nI_add]
        refine ih3 (tA x1 8 (nI (i * 10 + c)) (Int32.ofInt (gn A (W i) y (pp c))), vw', o2') ⟨j1.tr (Fr.tA 8 _ _ (by decide)), fun t d ht hd => ?_, fun d hd => ?_⟩
        · have := j2 t d ht hd
          simp (disch := omega) only [this, ofI1, nI_add, pk_mul, pk_sub, nI_clamp, imin_nI, imax_nI, nl_0, nl_1, nl_2, nl_3, nl_4, nl_5, nl_6, nl_7, nl_8, nl_9, nl_10, nl_11, nl_12, nl_13, nl_15, nl_16, nl_20, nl_24, nl_26, nl_30, nl_32, nl_36, nl_39, nl_40, nl_45, nl_48, nl_50, nl_57, nl_59, nl_60, nl_61, nl_62, nl_64, nl_72, nl_73, nl_80, nl_90, nl_97, nl_99, nl_100, nl_120, nl_122, nl_123, nl_127, nl_128, nl_199, nl_200, nl_255, nl_256, nl_290, nl_399, nl_400, nl_500, nl_512, nl_520, nl_600, nl_999, nl_1000, nl_2000, nl_9999, nl_10000, nl_14, nl_17, nl_18, nl_19, nl_21, nl_22, nl_23, nl_25, nl_27, nl_28, nl_29, nl_31, nl_33, nl_34, nl_35, nl_47, nl_51, nl_63, nl_110, nl_195, nl_240, nl_1370, nl_3710, nl_6030, nl_6690, nl_7490, nl_7610, nl_9170, nl_11570, gA_sF, gL_sF, gB_sF, gZ_sF, gO_sF, gX_sF, gF_sA, gL_sA, gB_sA, gZ_sA, gO_sA, gX_sA, gF_sL, gA_sL, gB_sL, gZ_sL, gO_sL, gX_sL, gF_sB, gA_sB, gL_sB, gZ_sB, gO_sB, gX_sB, gF_sZ, gA_sZ, gL_sZ, gB_sZ, gO_sZ, gX_sZ, gF_sO, gA_sO, gL_sO, gB_sO, gZ_sO, gX_sO, gF_sX, gA_sX, gL_sX, gB_sX, gZ_sX, gO_sX, gF_tA, gL_tA, gB_tA, gZ_tA, gO_tA, gX_tA, gF_tL, gA_tL, gB_tL, gZ_tL, gO_tL, gX_tL, gF_tB, gA_tB, gL_tB, gZ_tB, gO_tB, gX_tB, gF_tZ, gA_tZ, gL_tZ, gB_tZ, gO_tZ, gX_tZ, gF_sF, gA_sA, gL_sL, gB_sB, gZ_sZ, gO_sO, gX_sX, gA_tA, gL_tL, gB_tB, gZ_tZ, reduceIte, Nat.reduceEqDiff, Nat.zero_ne_one, Nat.one_ne_zero, Nat.succ_ne_self, forall_eq, vpT, cpyT, nI_leI, nI_ltI, nI_eq, nI_m1, oI_eqn, oI_eqm, va_up_ne', va_up_eq, eq_self_iff_true, true_or, or_true, true_implies, not_true_eq_false, not_false_eq_true, false_implies, and_true, true_and, forall_const, implies_true, ne_eq, Nat.add_sub_cancel, nI_pos, ite_self]
        · by_cases e : d = c
          · subst e; simp (disch := omega) only [ofI1, nI_add, pk_mul, pk_sub, nI_clamp, imin_nI, imax_nI, nl_0, nl_1, nl_2, nl_3, nl_4, nl_5, nl_6, nl_7, nl_8, nl_9, nl_10, nl_11, nl_12, nl_13, nl_15, nl_16, nl_20, nl_24, nl_26, nl_30, nl_32, nl_36, nl_39, nl_40, nl_45, nl_48, nl_50, nl_57, nl_59, nl_60, nl_61, nl_62, nl_64, nl_72, nl_73, nl_80, nl_90, nl_97, nl_99, nl_100, nl_120, nl_122, nl_123, nl_127, nl_128, nl_199, nl_200, nl_255, nl_256, nl_290, nl_399, nl_400, nl_500, nl_512, nl_520, nl_600, nl_999, nl_1000, nl_2000, nl_9999, nl_10000, nl_14, nl_17, nl_18, nl_19, nl_21, nl_22, nl_23, nl_25, nl_27, nl_28, nl_29, nl_31, nl_33, nl_34, nl_35, nl_47, nl_51, nl_63, nl_110, nl_195, nl_240, nl_1370, nl_3710, nl_6030, nl_6690, nl_7490, nl_7610, nl_9170, nl_11570, gA_sF, gL_sF, gB_sF, gZ_sF, gO_sF, gX_sF, gF_sA, gL_sA, gB_sA, gZ_sA, gO_sA, gX_sA, gF_sL, gA_sL, gB_sL, gZ_sL, gO_sL, gX_sL, gF_sB, gA_sB, gL_sB, gZ_sB, gO_sB, gX_sB, gF_sZ, gA_sZ, gL_sZ, gB_sZ, gO_sZ, gX_sZ, gF_sO, gA_sO, gL_sO, gB_sO, gZ_sO, gX_sO, gF_sX, gA_sX, gL_sX, gB_sX, gZ_sX, gO_sX, gF_tA, gL_tA, gB_tA, gZ_tA, gO_tA, gX_tA, gF_tL, gA_tL, gB_tL, gZ_tL, gO_tL, gX_tL, gF_tB, gA_tB, gL_tB, gZ_tB, gO_tB, gX_tB, gF_tZ, gA_tZ, gL_tZ, gB_tZ, gO_tZ, gX_tZ, gF_sF, gA_sA, gL_sL, gB_sB, gZ_sZ, gO_sO, gX_sX, gA_tA, gL_tL, gB_tB, gZ_tZ, reduceIte, Nat.reduceEqDiff, Nat.zero_ne_one, Nat.one_ne_zero, Nat.succ_ne_self, forall_eq, vpT, cpyT, nI_leI, nI_ltI, nI_eq, nI_m1, oI_eqn, oI_eqm, va_up_ne', va_up_eq, eq_self_iff_true, true_or, or_true, true_implies, not_true_eq_false, not_false_eq_true, false_implies, and_true, true_and, forall_const, implies_true, ne_eq, Nat.add_sub_cancel, nI_pos, ite_self]
          · have := j3 d (by omega)
            simp (disch := omega) only [this, ofI1, nI_add, pk_mul, pk_sub, nI_clamp, imin_nI, imax_nI, nl_0, nl_1, nl_2, nl_3, nl_4, nl_5, nl_6, nl_7, nl_8, nl_9, nl_10, nl_11, nl_12, nl_13, nl_15, nl_16, nl_20, nl_24, nl_26, nl_30, nl_32, nl_36, nl_39, nl_40, nl_45, nl_48, nl_50, nl_57, nl_59, nl_60, nl_61, nl_62, nl_64, nl_72, nl_73, nl_80, nl_90, nl_97, nl_99, nl_100, nl_120, nl_122, nl_123, nl_127, nl_128, nl_199, nl_200, nl_255, nl_256, nl_290, nl_399, nl_400, nl_500, nl_512, nl_520, nl_600, nl_999, nl_1000, nl_2000, nl_9999, nl_10000, nl_14, nl_17, nl_18, nl_19, nl_21, nl_22, nl_23, nl_25, nl_27, nl_28, nl_29, nl_31, nl_33, nl_34, nl_35, nl_47, nl_51, nl_63, nl_110, nl_195, nl_240, nl_1370, nl_3710, nl_6030, nl_6690, nl_7490, nl_7610, nl_9170, nl_11570, gA_sF, gL_sF, gB_sF, gZ_sF, gO_sF, gX_sF, gF_sA, gL_sA, gB_sA, gZ_sA, gO_sA, gX_sA, gF_sL, gA_sL, gB_sL, gZ_sL, gO_sL, gX_sL, gF_sB, gA_sB, gL_sB, gZ_sB, gO_sB, gX_sB, gF_sZ, gA_sZ, gL_sZ, gB_sZ, gO_sZ, gX_sZ, gF_sO, gA_sO, gL_sO, gB_sO, gZ_sO, gX_sO, gF_sX, gA_sX, gL_sX, gB_sX, gZ_sX, gO_sX, gF_tA, gL_tA, gB_tA, gZ_tA, gO_tA, gX_tA, gF_tL, gA_tL, gB_tL, gZ_tL, gO_tL, gX_tL, gF_tB, gA_tB, gL_tB, gZ_tB, gO_tB, gX_tB, gF_tZ, gA_tZ, gL_tZ, gB_tZ, gO_tZ, gX_tZ, gF_sF, gA_sA, gL_sL, gB_sB, gZ_sZ, gO_sO, gX_sX, gA_tA, gL_tL, gB_tB, gZ_tZ, reduceIte, Nat.reduceEqDiff, Nat.zero_ne_one, Nat.one_ne_zero, Nat.succ_ne_self, forall_eq, vpT, cpyT, nI_leI, nI_ltI, nI_eq, nI_m1, oI_eqn, oI_eqm, va_up_ne', va_up_eq, eq_self_iff_true, true_or, or_true, true_implies, not_true_eq_false, not_false_eq_true, false_implies, and_true, true_and, forall_const, implies_true, ne_eq, Nat.add_sub_cancel, nI_pos, ite_self]
    · have hx : (W i)[j]? = some (W i)[j] := List.getElem?_eq_getElem hj
      obtain ⟨g1, g2⟩ := w4 j _ hx
      have g3 : (gB v 3 (i * 24 + j)).toInt32 = nI (W i)[j].1 := by rw [i1.2.2.2.1 3 (by decide), Nat.mul_comm i 24]; exact g1
      unfold qX3_fillGains_21
      rw [nI_clamp (by omega), v2, show (24 : Int32) = nI 24 from rfl, pk_mul, nI_add, nI_clamp (by omega), g3, ofI1, nI_add]
      refine c_in rfl (by omega) (by decide) (c_n (nI_ge hj (by omega)) (c_in rfl (by omega) (by decide) (N_add hI (by rw [List.length_take]; omega) (w2 _ (List.getElem_mem hj)) (fun o' fo ho => ih2 o' ?_))))
      rw [List.take_succ, hx]
      have e3 : (W i)[j] = ((W i)[j].1, -3) := Prod.ext rfl g2
      rw [e3]; exact ho
