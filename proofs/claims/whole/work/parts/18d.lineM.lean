theorem M_sortHere {m : Md} {B : Nat → Nat} {T a : Nat} {s : PS} (h : TM m B T a s) {Q : Int32 → Md → Prop} (h0 : (s.1 = 0 → lnK B T s.2.2 = 0) → Q (-1) m) (hk : ∀ k, k < 6 → s.1 = 0 → lnK B T s.2.2 = k + 1 → Q (nI k) m) : qX12_sortHere m Q := by
  unfold qX12_sortHere
  refine M_is (k := 2) (by decide) h (fun z e => b_1' (hk 0 (by decide) z (by unfold lnK; rw [if_pos e]))) (fun n1 => b_0' ?_)
  refine M_is (k := 3) (by decide) h (fun z e => b_1' (hk 1 (by decide) z (by unfold lnK; rw [if_neg (by rw [n1 z]; decide), if_pos e]))) (fun n2 => b_0' ?_)
  refine M_is (k := 4) (by decide) h (fun z e => b_1' (hk 2 (by decide) z (by unfold lnK; rw [if_neg (by rw [n1 z]; decide), if_neg (by rw [n2 z]; decide), if_pos e]))) (fun n3 => b_0' ?_)
  refine M_is (k := 5) (by decide) h (fun z e => b_1' (hk 3 (by decide) z (by unfold lnK; rw [if_neg (by rw [n1 z]; decide), if_neg (by rw [n2 z]; decide), if_neg (by rw [n3 z]; decide), if_pos e]))) (fun n4 => b_0' ?_)
  refine M_is (k := 6) (by decide) h (fun z e => b_1' (hk 4 (by decide) z (by unfold lnK; rw [if_neg (by rw [n1 z]; decide), if_neg (by rw [n2 z]; decide), if_neg (by rw [n3 z]; decide), if_neg (by rw [n4 z]; decide), if_pos e]))) (fun n5 => b_0' ?_)
  refine M_is (k := 7) (by decide) h (fun z e => b_1' (hk 5 (by decide) z (by unfold lnK; rw [if_neg (by rw [n1 z]; decide), if_neg (by rw [n2 z]; decide), if_neg (by rw [n3 z]; decide), if_neg (by rw [n4 z]; decide), if_neg (by rw [n5 z]; decide), if_pos e]))) (fun n6 => b_0' (h0 (fun z => by unfold lnK; rw [if_neg (by rw [n1 z]; decide), if_neg (by rw [n2 z]; decide), if_neg (by rw [n3 z]; decide), if_neg (by rw [n4 z]; decide), if_neg (by rw [n5 z]; decide), if_neg (by rw [n6 z]; decide)])))
theorem M_factHere {m : Md} {B : Nat → Nat} {T a : Nat} {s : PS} (h : TM m B T a s) {Q : Int32 → Md → Prop} (h0 : (s.1 = 0 → fK B T s.2.2 = 0) → Q (-1) m) (hk : ∀ f, f < 4 → s.1 = 0 → fK B T s.2.2 = f + 1 → Q (nI f) m) : qX12_factHere m Q := by
  unfold qX12_factHere
  refine M_is (k := 12) (by decide) h (fun z e => b_1' (hk 0 (by decide) z (by unfold fK; rw [if_pos e]))) (fun n1 => b_0' ?_)
  refine M_is (k := 13) (by decide) h (fun z e => b_1' (hk 1 (by decide) z (by unfold fK; rw [if_neg (by rw [n1 z]; decide), if_pos e]))) (fun n2 => b_0' ?_)
  refine M_is (k := 14) (by decide) h (fun z e => b_1' (hk 2 (by decide) z (by unfold fK; rw [if_neg (by rw [n1 z]; decide), if_neg (by rw [n2 z]; decide), if_pos e]))) (fun n3 => b_0' ?_)
  refine M_is (k := 15) (by decide) h (fun z e => b_1' (hk 3 (by decide) z (by unfold fK; rw [if_neg (by rw [n1 z]; decide), if_neg (by rw [n2 z]; decide), if_neg (by rw [n3 z]; decide), if_pos e]))) (fun n4 => b_0' (h0 (fun z => by unfold fK; rw [if_neg (by rw [n1 z]; decide), if_neg (by rw [n2 z]; decide), if_neg (by rw [n3 z]; decide), if_neg (by rw [n4 z]; decide)])))
theorem sg_l : sgB 1 60 = true ∧ sgB 1 61 = true ∧ sgB 1 62 = true ∧ sgB 1 59 = true := by decide
/-- from the sign on -/
theorem M_c130 {m : Md} {B : Nat → Nat} {T l y i v : Nat} {t : PS} (hy : l + 4 ≤ y) (hy2 : y + 5 ≤ 290) (hi : i ≤ 4) (hl : gA m 18 (l + 3) = nI i) (h : TM m B T 1 t) {Q : Md → Prop} (hQ : ∀ m', Fr LT m m' → TM m' B T 1 (oN B T 9999 (xa4 B T t)) → (∀ j, j ≠ l + 3 → (j < y + 2 ∨ y + 5 ≤ j) → gA m' 18 j = gA m 18 j) → ((oN B T 9999 (xa4 B T t)).1 = 0 → gA m' 18 (l + 3) = nI (i + 1) ∧ gA m' 18 (y + 2) = nI v ∧ gA m' 18 (y + 3) = nI (B (tF B T t.2.2)) ∧ gA m' 18 (y + 4) = nI (tV B T (xa4 B T t).2.2)) → Q m') : qX12_cond_130 Q m (nI l) (nI y) (nI v) (nI (y + 2)) := by
  unfold qX12_cond_130
  refine ⟨vp_in_nI (by omega) (by decide), fun w hw => ?_⟩
  have fw : Fr [(1, 18)] m w := by rw [hw]; exact Fr.tA 18 _ _ (by decide)
  have w18 : gA w 18 = va_up (gA m 18) (y + 2) (nI v) := by rw [hw, gA_tA, if_pos rfl, nI_clamp (by omega)]
  have hw' := TM.fr h fw
  have k163 : (t.1 = 0 → xaS B T t.2.2 = true) → qX12_cond_163 Q w (nI l) (nI y) := by
    intro e
    have e4 : xa4 B T t = oA B T t := by unfold xa4; rw [pk_t oA_f oW_f e]
    unfold qX12_cond_163
    refine M_good hw' (fun z => b_1 ?_) (fun z => b_0 ?_)
    · rw [nl_3, nI_add]
      refine ⟨vp_in_nI (by omega) (by decide), fun w2 hw2 => ?_⟩
      have hs := e z
      have k3 : tK B T t.2.2 = 3 := by
        unfold xaS at hs
        rw [Bool.or_eq_true, Bool.or_eq_true] at hs
        rcases hs with c | c | c
        · exact (tS_1 c).1
        · exact (tS_1 c).1
        · exact (tS_1 c).1
      have v14 : gF w 14 = nI (B (tF B T t.2.2)) := (((hw'.2.2.2.2.2.2.2.2 z).2.2.2.2.2.2.2) k3).1
      have fw2 : Fr [(1, 18)] w w2 := by rw [hw2]; exact Fr.tA 18 _ _ (by decide)
      have w218 : gA w2 18 = va_up (gA w 18) (y + 3) (nI (B (tF B T t.2.2))) := by rw [hw2, gA_tA, if_pos rfl, nI_clamp (by omega), v14]
      refine M_next (TM.fr hw' fw2) z (by omega) (fun m3 f3 h3 => ?_)
      rw [← e4] at h3
      refine M_number (mo := 9999) (by decide) h3 (fun u m4 hu f4 h4 eu => ?_)
      rw [nl_4, nI_add]
      refine ⟨vp_in_nI (by omega) (by decide), fun w5 hw5 => ?_⟩
      have w518 : gA w5 18 = va_up (gA w2 18) (y + 4) (nI u) := by rw [hw5, gA_tA, if_pos rfl, nI_clamp (by omega), f4.2.1 18 (by decide), f3.2.1 18 (by decide)]
      rw [nI_add, nI_clamp (by omega)]
      refine ⟨vp_in_nI (by omega) (by decide), vp_in_nI (by omega) (by decide), fun w6 hw6 => ?_⟩
      have e3 : gA w5 18 (l + 3) = nI i := by rw [w518, va_up_ne' _ _ (by omega), w218, va_up_ne' _ _ (by omega), w18, va_up_ne' _ _ (by omega)]; exact hl
      have w618 : gA w6 18 = va_up (gA w5 18) (l + 3) (nI (i + 1)) := by rw [hw6, gA_tA, if_pos rfl, nI_clamp (by omega), e3, nI_1]
      have f6 : Fr [(1, 18)] m4 w6 := by rw [hw6, hw5]; exact Fr.tr (Fr.tA 18 _ _ (by decide)) (Fr.tA 18 _ _ (by decide))
      refine hQ w6 ((((fw.tr fw2).mono (by decide)).tr ((f3.mono (by decide)).tr (f4.mono (by decide)))).tr (f6.mono (by decide))) (TM.fr h4 f6) (fun j h1 h2 => ?_) (fun zz => ⟨?_, ?_, ?_, ?_⟩)
      · rw [w618, va_up_ne' _ _ h1, w518, va_up_ne' _ _ (by omega), w218, va_up_ne' _ _ (by omega), w18, va_up_ne' _ _ (by omega)]
      · rw [w618, va_up_eq]
      · rw [w618, va_up_ne' _ _ (by omega), w518, va_up_ne' _ _ (by omega), w218, va_up_ne' _ _ (by omega), w18, va_up_eq]
      · rw [w618, va_up_ne' _ _ (by omega), w518, va_up_ne' _ _ (by omega), w218, va_up_eq]
      · rw [w618, va_up_ne' _ _ (by omega), w518, va_up_eq, eu zz]
    · have ef : oN B T 9999 (xa4 B T t) = t := by rw [xa4_f z, oN_f z]
      refine hQ w (fw.mono (by decide)) (by rw [ef]; exact hw') (fun j h1 h2 => ?_) (fun zz => by rw [ef] at zz; exact absurd zz z)
      rw [w18, va_up_ne' _ _ (by omega)]
  refine M_isSign (c := 60) (by decide) sg_l.1 hw' (fun z e => b_1 (k163 (fun _ => by unfold xaS; rw [e]; rfl))) (fun n1 => b_0 ?_)
  refine M_isSign (c := 61) (by decide) sg_l.2.1 hw' (fun z e => b_1 (k163 (fun _ => by unfold xaS; rw [e, Bool.true_or, Bool.or_true]))) (fun n2 => b_0 ?_)
  refine M_isSign (c := 62) (by decide) sg_l.2.2.1 hw' (fun z e => b_1 (k163 (fun _ => by unfold xaS; rw [e, Bool.or_true, Bool.or_true]))) (fun n3 => b_0 ?_)
  refine M_wrong (n := 1) hw' (by decide) (by decide) (fun m1 f1 h1 => ?_)
  have e4 : xa4 B T t = oW B T 1 t := by
    unfold xa4; rw [pk_f oA_f oW_f (fun z => by unfold xaS; rw [n1 z, n2 z, n3 z]; rfl)]
  have hn : (oW B T 1 t).1 ≠ 0 := oW_n (by decide)
  have ef : oN B T 9999 (xa4 B T t) = oW B T 1 t := by rw [e4, oN_f hn]
  unfold qX12_cond_163
  refine M_good h1 (fun z => absurd z hn) (fun _ => b_0 (hQ m1 ((fw.mono (by decide)).tr (f1.mono (by decide))) (by rw [ef]; exact h1) (fun j a1 a2 => ?_) (fun zz => by rw [ef] at zz; exact absurd zz hn)))
  rw [f1.2.1 18 (by decide), w18, va_up_ne' _ _ (by omega)]
def CoM (V : Nat → Int32) (y : Nat) (B : Nat → Nat) (T : Nat) (s : PS) : Prop := V y = nI (v32 B T s) ∧ V (y + 1) = nI (v33 B T s) ∧ V (y + 2) = nI (v34 B T s) ∧ V (y + 3) = nI (v35 B T s) ∧ V (y + 4) = nI (v36 B T s)
theorem M_c74 {m : Md} {B : Nat → Nat} {T l y i b : Nat} {t : PS} (hy : l + 4 ≤ y) (hy2 : y + 5 ≤ 290) (hi : i ≤ 4) (hl : gA m 18 (l + 3) = nI i) (h : TM m B T 1 t) {Q : Md → Prop} (hQ : ∀ m', Fr LT m m' → TM m' B T 1 (xa5 B T (fK B T t.2.2) t) → (∀ j, j ≠ l + 3 → (j < y ∨ y + 5 ≤ j) → gA m' 18 j = gA m 18 j) → ((xa5 B T (fK B T t.2.2) t).1 = 0 → gA m' 18 (l + 3) = nI (i + 1) ∧ gA m' 18 y = nI b ∧ gA m' 18 (y + 1) = nI (fK B T t.2.2 - 1) ∧ gA m' 18 (y + 2) = nI (if fK B T t.2.2 = 1 then tV B T (xa2 B T t).2.2 else 0) ∧ gA m' 18 (y + 3) = nI (B (tF B T (xa3 B T (fK B T t.2.2) (xa2 B T t)).2.2)) ∧ gA m' 18 (y + 4) = nI (tV B T (xa4 B T (xa3 B T (fK B T t.2.2) (xa2 B T t))).2.2)) → Q m') : qX12_cond_74 Q m (nI l) (nI y) (nI b) (nI y) := by
  unfold qX12_cond_74
  refine ⟨vp_in_nI (by omega) (by decide), fun w hw => ?_⟩
  have fw : Fr [(1, 18)] m w := by rw [hw]; exact Fr.tA 18 _ _ (by decide)
  have w18 : gA w 18 = va_up (gA m 18) y (nI b) := by rw [hw, gA_tA, if_pos rfl, nI_clamp (by omega)]
  have hw' := TM.fr h fw
  refine M_factHere hw' (fun e => ⟨fun z => absurd rfl z, fun _ => M_wrong (n := 1) hw' (by decide) (by decide) (fun m1 f1 h1 => ?_)⟩) (fun f hf z e => ⟨fun _ => ?_, fun z => absurd z (nI_m1 (by omega))⟩)
  · have hn : (oW B T 1 t).1 ≠ 0 := oW_n (by decide)
    have eo : xa5 B T (fK B T t.2.2) t = oW B T 1 t := by
      by_cases z : t.1 = 0
      · have e2' : xa2 B T t = oW B T 1 t := by unfold xa2; rw [if_neg (fun c => absurd (e z) (of_decide_eq_true c))]
        unfold xa5; rw [e2', xa3_f hn, xa4_f hn, oN_f hn]
      · rw [xa5_f z, oW_f z]
    unfold qX12_cond_90
    refine M_good h1 (fun z => absurd z hn) (fun _ => b_0 (hQ m1 ((fw.mono (by decide)).tr (f1.mono (by decide))) (by rw [eo]; exact h1) (fun j a1 a2 => ?_) (fun z => by rw [eo] at z; exact absurd z hn)))
    rw [f1.2.1 18 (by decide), w18, va_up_ne' _ _ (by omega)]
  · have e2' : xa2 B T t = oA B T t := by unfold xa2; rw [if_pos (decide_eq_true (by omega))]
    unfold qX12_cond_90
    refine M_good hw' (fun _ => b_1 (M_next hw' z (by omega) (fun m1 f1 h1 => ?_))) (fun y => absurd z y)
    rw [← e2'] at h1
    rw [nl_1, nI_add, nl_2, nI_add]
    refine ⟨vp_in_nI (by omega) (by decide), fun w2 hw2 => ?_⟩
    have fw2 : Fr [(1, 18)] m1 w2 := by rw [hw2]; exact Fr.tA 18 _ _ (by decide)
    have w218 : gA w2 18 = va_up (va_up (gA m 18) y (nI b)) (y + 1) (nI f) := by rw [hw2, gA_tA, if_pos rfl, nI_clamp (by omega), f1.2.1 18 (by decide), w18]
    have h2 := TM.fr h1 fw2
    have e3 : gA w2 18 (l + 3) = nI i := by rw [w218, va_up_ne' _ _ (by omega), va_up_ne' _ _ (by omega)]; exact hl
    have go : ∀ (m3 : Md) (v : Nat), Fr LK w2 m3 → TM m3 B T 1 (xa3 B T (fK B T t.2.2) (xa2 B T t)) → ((xa3 B T (fK B T t.2.2) (xa2 B T t)).1 = 0 → v = if fK B T t.2.2 = 1 then tV B T (xa2 B T t).2.2 else 0) → qX12_cond_130 Q m3 (nI l) (nI y) (nI v) (nI (y + 2)) := by
      intro m3 v f3 h3 ev
      have y3 : gA m3 18 = gA w2 18 := f3.2.1 18 (by decide)
      refine M_c130 hy hy2 hi (by rw [y3]; exact e3) h3 (fun m' f' h' g' v' => hQ m' (((fw.mono (by decide)).tr ((f1.mono (by decide)).tr (fw2.mono (by decide)))).tr ((f3.mono (by decide)).tr f')) h' (fun j a1 a2 => ?_) (fun zz => ?_))
      · rw [g' j a1 (by omega), y3, w218, va_up_ne' _ _ (by omega), va_up_ne' _ _ (by omega)]
      · obtain ⟨d1, d2, d3, d4⟩ := v' zz
        have z4 := (oN_ok zz).1
        have z3 := ok_of (f := xa4 B T) xa4_f z4
        refine ⟨d1, ?_, ?_, by rw [d2, ev z3], d3, d4⟩
        · rw [g' _ (by omega) (by omega), y3, w218, va_up_ne' _ _ (by omega), va_up_eq]
        · rw [g' _ (by omega) (by omega), y3, w218, va_up_eq, e]; rfl
    by_cases ef : f = 0
    · have e3' : xa3 B T (fK B T t.2.2) (xa2 B T t) = oN B T 2 (xa2 B T t) := by unfold xa3; rw [if_pos (decide_eq_true (by omega))]
      refine c_y' (by rw [ef]; rfl) ?_
      unfold qX12_tongueHere
      refine M_number (mo := 2) (by decide) h2 (fun v m3 hv f3 h3 ev => go m3 v f3 (by rw [e3']; exact h3) (fun z => ?_))
      rw [if_pos (by omega)]; rw [e3'] at z; exact ev z
    · have e3' : xa3 B T (fK B T t.2.2) (xa2 B T t) = xa2 B T t := by unfold xa3; rw [if_neg (fun c => absurd (of_decide_eq_true c) (by omega))]
      refine c_n' (fun c => ef ((nI_eq (b := 0) (by omega) (by decide)).1 c)) (go w2 0 Fr.rf (by rw [e3']; exact h2) (fun _ => by rw [if_neg (by omega)]))
theorem M_c35 {m : Md} {B : Nat → Nat} {T l i : Nat} {t : PS} (hl2 : l + 24 ≤ 290) (hi : i ≤ 4) (hl : gA m 18 (l + 3) = nI i) (h : TM m B T 1 t) {Q : Md → Prop} (hQ : ∀ m', Fr LT m m' → TM m' B T 1 (oC B T t) → (∀ j, j ≠ l + 3 → (j < l + 4 + 5 * min 3 i ∨ l + 24 ≤ j) → gA m' 18 j = gA m 18 j) → ((oC B T t).1 = 0 → gA m' 18 (l + 3) = nI (i + 1) ∧ CoM (gA m' 18) (l + 4 + 5 * min 3 i) B T t) → Q m') : qX12_cond_35 Q m (nI l) := by
  unfold qX12_cond_35
  have hmin : min 3 i ≤ 3 := by omega
  rw [nl_3, nI_add, nI_clamp (by omega), hl, imin_nI (by omega) (by omega), nl_4, nI_add, nl_5, pk_mul, nI_add]
  refine ⟨vp_in_nI (by omega) (by decide), ?_⟩
  refine M_takes (k := 11) (by decide) h (fun z e m1 f1 h1 => b_1' ?_) (fun e => b_0' ?_)
  · have e1' : xa1 B T t = oA B T t := by unfold xa1; rw [if_pos e]
    refine M_c74 (b := 1) (by omega) (by omega) hi (by rw [f1.2.1 18 (by decide)]; exact hl) h1 (fun m' f' h' g' v' => hQ m' ((f1.mono (by decide)).tr f') (by unfold oC; rw [e1']; exact h') (fun j a1 a2 => by rw [g' j a1 (by omega), f1.2.1 18 (by decide)]) (fun zz => ?_))
    unfold oC at zz
    rw [e1'] at zz
    obtain ⟨d0, d1, d2, d3, d4, d5⟩ := v' zz
    unfold CoM v32 v33 v34 v35 v36 p35
    rw [e1', if_pos e]
    exact ⟨d0, d1, d2, d3, d4, d5⟩
  · have e1' : xa1 B T t = t := by unfold xa1; rw [pk_f oA_f (fun _ => rfl) e]
    refine M_c74 (b := 0) (by omega) (by omega) hi hl h (fun m' f' h' g' v' => hQ m' f' (by unfold oC; rw [e1']; exact h') (fun j a1 a2 => by rw [g' j a1 (by omega)]) (fun zz => ?_))
    unfold oC at zz
    rw [e1'] at zz
    have z0 : t.1 = 0 := ok_of (f := xa5 B T (fK B T t.2.2)) xa5_f zz
    obtain ⟨d0, d1, d2, d3, d4, d5⟩ := v' zz
    unfold CoM v32 v33 v34 v35 v36 p35
    rw [e1', if_neg (by rw [e z0]; decide)]
    exact ⟨d0, d1, d2, d3, d4, d5⟩
theorem M_cond {m : Md} {B : Nat → Nat} {T l i : Nat} {s : PS} (hl2 : l + 24 ≤ 290) (hi : i ≤ 4) (hl : gA m 18 (l + 3) = nI i) (h : TM m B T 1 s) (hs0 : s.1 = 0) {Q : Md → Prop} (hQ : ∀ m', Fr LT m m' → TM m' B T 1 (oD B T i s) → (∀ j, j ≠ l + 3 → (j < l + 4 + 5 * min 3 i ∨ l + 24 ≤ j) → gA m' 18 j = gA m 18 j) → ((oD B T i s).1 = 0 → gA m' 18 (l + 3) = nI (i + 1) ∧ CoM (gA m' 18) (l + 4 + 5 * i) B T s) → Q m') : qX12_cond m (nI l) Q := by
  have k18 : (tW B T s.2.2 11 || decide (fK B T s.2.2 ≠ 0)) = true → qX12_cond_18 Q m (nI l) := by
    intro hw
    unfold qX12_cond_18
    rw [nl_3, nI_add, nI_clamp (by omega), hl]
    refine ⟨vp_in_nI (by omega) (by decide), c_eq' (b := 4) rfl rfl (by omega) (by decide) (fun e => ?_) (fun e => ?_)⟩
    · refine M_wrong (n := 3) h (by decide) (by decide) (fun m1 f1 h1 => ?_)
      have hn : (oW B T 3 s).1 ≠ 0 := oW_n (by decide)
      have eD : oD B T i s = oW B T 3 s := by unfold oD; rw [if_pos hw, if_pos (decide_eq_true (by omega))]
      refine M_c35 hl2 hi (by rw [f1.2.1 18 (by decide)]; exact hl) h1 (fun m' f' h' g' v' => hQ m' ((f1.mono (by decide)).tr f') (by rw [eD]; rw [oC_f hn] at h'; exact h') (fun j a1 a2 => by rw [g' j a1 a2, f1.2.1 18 (by decide)]) (fun zz => by rw [eD] at zz; exact absurd zz hn))
    · have hi4 : i < 4 := by omega
      refine M_c35 hl2 hi hl h (fun m' f' h' g' v' => hQ m' f' (by rw [oD_lt hi4]; exact h') g' (fun zz => ?_))
      rw [oD_lt hi4] at zz
      have := v' zz
      rw [show min 3 i = i by omega] at this
      exact this
  unfold qX12_cond
  refine M_is (k := 11) (by decide) h (fun _ e => b_1 (k18 (by rw [e]; rfl))) (fun e => b_0 ?_)
  refine M_factHere h (fun e2 => ⟨fun _ => ?_, fun z => absurd rfl z⟩) (fun f hf z e2 => ⟨fun z => absurd z (nI_m1 (by omega)), fun _ => k18 (by rw [e hs0, e2]; rfl)⟩)
  have c : ¬ (tW B T s.2.2 11 || decide (fK B T s.2.2 ≠ 0)) = true := by rw [e hs0, e2 hs0]; decide
  have eD : oD B T i s = oW B T 1 s := by unfold oD; rw [if_neg c]
  have eC : oC B T s = oW B T 1 s := by
    rw [← oD_lt (B := B) (T := T) (i := 0) (s := s) (by decide)]; unfold oD; rw [if_neg c]
  refine M_c35 hl2 hi hl h (fun m' f' h' g' v' => hQ m' f' (by rw [eD, ← eC]; exact h') g' (fun zz => by rw [eD] at zz; exact absurd zz (oW_n (by decide))))
theorem M_cl {m0 : Md} {B : Nat → Nat} {T l : Nat} {s0 : PS} (hl2 : l + 24 ≤ 290) {Q : Md → Prop} : ∀ n i m, n + i = 4 → TM m B T 1 (cq B T s0 i) → (cq B T s0 i).1 = 0 → Fr LT m0 m → (∀ j, j < l + 3 ∨ l + 24 ≤ j → gA m 18 j = gA m0 18 j) → gA m 18 (l + 3) = nI i → (∀ j, j < i → CoM (gA m 18) (l + 4 + 5 * j) B T (cq B T s0 j)) → (∀ C Z m', cl B T (n + 1) i (cq B T s0 i) = (C, Z) → TM m' B T 1 Z → Fr LT m0 m' → (∀ j, j < l + 3 ∨ l + 24 ≤ j → gA m' 18 j = gA m0 18 j) → (Z.1 = 0 → gA m' 18 (l + 3) = nI C ∧ ∀ j, j < C → CoM (gA m' 18) (l + 4 + 5 * j) B T (cq B T s0 j)) → qX12_line_165 Q m') → qX12_line_138 Q (n + 2) m (nI l) 1 := by
  intro n
  induction n with
  | zero =>
    intro i m hi h hz fr go h3 hC hE
    obtain rfl : i = 4 := by omega
    unfold qX12_line_138
    refine c_n (by decide) (M_good h (fun _ => b_1' ?_) (fun z => absurd hz z))
    refine M_cond hl2 (by omega) h3 h hz (fun m1 f1 h1 g1 v1 => ?_)
    have hn : (oD B T 4 (cq B T s0 4)).1 ≠ 0 := oD_4 (by decide)
    have fin : qX12_line_165 Q m1 := hE 5 _ m1 (cl_e (Or.inl hn)) h1 (fr.tr f1) (fun j hj => by rw [g1 j (by omega) (by omega)]; exact go j hj) (fun z => absurd z hn)
    refine M_takes (k := 10) (by decide) h1 (fun z => absurd z hn) (fun _ _ => ?_)
    unfold qX12_line_138
    exact c_y rfl fin
  | succ n ih =>
    intro i m hi h hz fr go h3 hC hE
    have hi4 : i < 4 := by omega
    have eD : oD B T i (cq B T s0 i) = oC B T (cq B T s0 i) := oD_lt hi4
    unfold qX12_line_138
    refine c_n (by decide) (M_good h (fun _ => b_1' ?_) (fun z => absurd hz z))
    refine M_cond hl2 (by omega) h3 h hz (fun m1 f1 h1 g1 v1 => ?_)
    have go1 : ∀ j, j < l + 3 ∨ l + 24 ≤ j → gA m1 18 j = gA m0 18 j := fun j hj => by rw [g1 j (by omega) (by omega)]; exact go j hj
    have hv : (oD B T i (cq B T s0 i)).1 = 0 → gA m1 18 (l + 3) = nI (i + 1) ∧ ∀ j, j < i + 1 → CoM (gA m1 18) (l + 4 + 5 * j) B T (cq B T s0 j) := by
      intro z
      obtain ⟨d1, d2⟩ := v1 z
      refine ⟨d1, fun j hj => ?_⟩
      by_cases ej : j = i
      · rw [ej]; exact d2
      · obtain ⟨p1, p2, p3, p4, p5⟩ := hC j (by omega)
        exact ⟨by rw [g1 _ (by omega) (by omega)]; exact p1, by rw [g1 _ (by omega) (by omega)]; exact p2, by rw [g1 _ (by omega) (by omega)]; exact p3, by rw [g1 _ (by omega) (by omega)]; exact p4, by rw [g1 _ (by omega) (by omega)]; exact p5⟩
    refine M_takes (k := 10) (by decide) h1 (fun z e m2 f2 h2 _ => ?_) (fun e _ => ?_)
    · obtain ⟨d1, d2⟩ := hv z
      have y2 : gA m2 18 = gA m1 18 := f2.2.1 18 (by decide)
      rw [eD] at h2
      refine ih (i + 1) m2 (by omega) h2 ?_ (fr.tr (f1.tr (f2.mono (by decide)))) (by rw [y2]; exact go1) (by rw [y2]; exact d1) (by rw [y2]; exact d2) (fun C Z m' eZ => hE C Z m' ?_)
      · rw [eD] at z; exact oA_1 z
      · rw [cl_n z e, eD]; exact eZ
    · have c : (oD B T i (cq B T s0 i)).1 ≠ 0 ∨ tW B T (oD B T i (cq B T s0 i)).2.2 10 = false := by
        by_cases z : (oD B T i (cq B T s0 i)).1 = 0
        · exact Or.inr (e z)
        · exact Or.inl z
      unfold qX12_line_138
      exact c_y rfl (hE (i + 1) _ m1 (cl_e c) h1 (fr.tr f1) go1 hv)
def LnM (V : Nat → Int32) (l k : Nat) (B : Nat → Nat) (T : Nat) (s : PS) : Prop := V l = nI k ∧ V (l + 1) = nI (v29 B T k s) ∧ V (l + 2) = nI (v30 B T k s) ∧ V (l + 3) = nI (v31 B T k s) ∧ ∀ j, j < v31 B T k s → CoM V (l + 4 + 5 * j) B T (cq B T (oA B T (xhh B T k s)) j)
theorem M_l121 {m : Md} {B : Nat → Nat} {T l k : Nat} {s : PS} (hl2 : l + 24 ≤ 290) (hk : k < 6) (h : TM m B T 1 (xhh B T k s)) (h3 : gA m 18 (l + 3) = nI 0) {Q : Md → Prop} (hQ : ∀ m', Fr LT m m' → TM m' B T 1 (oL B T k s) → (∀ j, j < l + 3 ∨ l + 24 ≤ j → gA m' 18 j = gA m 18 j) → ((oL B T k s).1 = 0 → gA m' 18 (l + 3) = nI (v31 B T k s) ∧ ∀ j, j < v31 B T k s → CoM (gA m' 18) (l + 4 + 5 * j) B T (cq B T (oA B T (xhh B T k s)) j)) → Q m') : qX12_line_121 Q m (nI l) (nI k) := by
  have fin : ∀ (m2 : Md) (C : Nat) (Z : PS), Fr LT m m2 → TM m2 B T 1 Z → Z = cz B T k (xhh B T k s) → (∀ j, j < l + 3 ∨ l + 24 ≤ j → gA m2 18 j = gA m 18 j) → (Z.1 = 0 → C = v31 B T k s ∧ gA m2 18 (l + 3) = nI C ∧ ∀ j, j < C → CoM (gA m2 18) (l + 4 + 5 * j) B T (cq B T (oA B T (xhh B T k s)) j)) → qX12_line_165 Q m2 := by
    intro m2 C Z f2 h2 eZ g2 hC
    unfold qX12_line_165
    subst eZ
    refine M_needSign (c := 59) (by decide) sg_l.2.2.2 h2 (fun m3 f3 h3' => hQ m3 (f2.tr (f3.mono (by decide))) h3' (fun j hj => by rw [f3.2.1 18 (by decide)]; exact g2 j hj) (fun z => ?_))
    have z1 : (cz B T k (xhh B T k s)).1 = 0 := ok_of (f := oS B T 59) oS_f z
    obtain ⟨eC, c3, cC⟩ := hC z1
    rw [f3.2.1 18 (by decide)]
    exact ⟨by rw [c3, eC], fun j hj => cC j (by rw [eC]; exact hj)⟩
  have none : ((xhh B T k s).1 = 0 → iB B T k (xhh B T k s) = false) → qX12_line_165 Q m := by
    intro e
    have ez : cz B T k (xhh B T k s) = xhh B T k s := by unfold cz; rw [pk_f clA_f (fun _ => rfl) e]
    exact fin m 0 (xhh B T k s) Fr.rf h ez.symm (fun _ _ => rfl) (fun z => ⟨by unfold v31 cn; rw [if_neg (by rw [e z]; decide)], h3, fun j hj => by omega⟩)
  unfold qX12_line_121
  refine c_lt (a := 1) rfl rfl (by decide) (by omega) (fun k1 => none (fun _ => by unfold iB; rw [decide_eq_false (by omega)]; rfl)) (fun k1 => ?_)
  refine M_takes (k := 9) (by decide) h (fun z e m1 f1 h1 => b_1' ?_) (fun e => b_0' (none (fun z => by unfold iB; rw [e z, Bool.and_false])))
  have ei : iB B T k (xhh B T k s) = true := by unfold iB; rw [e, decide_eq_true (by omega)]; rfl
  have y1 : gA m1 18 = gA m 18 := f1.2.1 18 (by decide)
  refine ⟨4 + 2, M_cl (m0 := m) (s0 := oA B T (xhh B T k s)) hl2 4 0 m1 (by omega) h1 (oA_1 z) (f1.mono (by decide)) (fun j _ => by rw [y1]) (by rw [y1]; exact h3) (fun j hj => by omega) (fun C Z m' eZ h' f' g' v' => ?_)⟩
  have eZ' : cl B T 5 0 (oA B T (xhh B T k s)) = (C, Z) := eZ
  exact fin m' C Z f' h' (by unfold cz; rw [if_pos ei, eZ']) g' (fun zz => ⟨by unfold v31 cn; rw [if_pos ei, eZ'], v' zz⟩)
theorem M_l79 {m : Md} {B : Nat → Nat} {T l k : Nat} {s : PS} (hl2 : l + 24 ≤ 290) (hk : k < 6) (h : TM m B T 1 (xh1 B T k (oA B T s))) (h2 : gA m 18 (l + 2) = nI 0) (h3 : gA m 18 (l + 3) = nI 0) {Q : Md → Prop} (hQ : ∀ m', Fr LT m m' → TM m' B T 1 (oL B T k s) → (∀ j, j < l + 2 ∨ l + 24 ≤ j → gA m' 18 j = gA m 18 j) → ((oL B T k s).1 = 0 → gA m' 18 (l + 2) = nI (v30 B T k s) ∧ gA m' 18 (l + 3) = nI (v31 B T k s) ∧ ∀ j, j < v31 B T k s → CoM (gA m' 18) (l + 4 + 5 * j) B T (cq B T (oA B T (xhh B T k s)) j)) → Q m') : qX12_line_79 Q m (nI l) (nI k) := by
  unfold qX12_line_79
  refine c_eq' (b := 2) rfl rfl (by omega) (by decide) (fun e => ?_) (fun e => ?_)
  · have eh : xhh B T k s = oN B T 9999 (oK B T 8 (xh1 B T k (oA B T s))) := by unfold xhh xh2; rw [if_pos (decide_eq_true e)]
    have k99 : ∀ m1, Fr LK m m1 → TM m1 B T 1 (oK B T 8 (xh1 B T k (oA B T s))) → qX12_line_99 Q m1 (nI l) (nI k) := by
      intro m1 f1 h1
      have y1 : gA m1 18 = gA m 18 := f1.2.1 18 (by decide)
      unfold qX12_line_99
      refine M_good h1 (fun z => b_1' ?_) (fun z => b_0' ?_)
      · refine M_number (mo := 9999) (by decide) h1 (fun u m2 hu f2 h2' eu => ?_)
        rw [← eh] at h2' eu
        rw [nl_2, nI_add]
        refine ⟨vp_in_nI (by omega) (by decide), fun w hw => ?_⟩
        have fw : Fr [(1, 18)] m2 w := by rw [hw]; exact Fr.tA 18 _ _ (by decide)
        have w18 : gA w 18 = va_up (gA m 18) (l + 2) (nI u) := by rw [hw, gA_tA, if_pos rfl, nI_clamp (by omega), f2.2.1 18 (by decide), y1]
        refine M_l121 hl2 hk (TM.fr h2' fw) (by rw [w18, va_up_ne' _ _ (by omega)]; exact h3) (fun m' f' h' g' v' => hQ m' (((f1.mono (by decide)).tr ((f2.mono (by decide)).tr (fw.mono (by decide)))).tr f') h' (fun j hj => by rw [g' j (by omega), w18, va_up_ne' _ _ (by omega)]) (fun zz => ⟨?_, v' zz⟩))
        have zh : (xhh B T k s).1 = 0 := ok_of (f := cz B T k) cz_f (ok_of (f := oS B T 59) oS_f zz)
        rw [g' _ (by omega), w18, va_up_eq, eu zh]; unfold v30; rw [if_pos e]
      · have eh2 : xhh B T k s = oK B T 8 (xh1 B T k (oA B T s)) := by rw [eh, oN_f z]
        refine M_l121 hl2 hk (by rw [eh2]; exact h1) (by rw [y1]; exact h3) (fun m' f' h' g' v' => hQ m' ((f1.mono (by decide)).tr f') h' (fun j hj => by rw [g' j (by omega), y1]) (fun zz => ?_))
        have zh : (xhh B T k s).1 = 0 := ok_of (f := cz B T k) cz_f (ok_of (f := oS B T 59) oS_f zz)
        rw [eh2] at zh; exact absurd zh z
    refine M_takes (k := 8) (by decide) h (fun z e8 m1 f1 h1 => b_1 (k99 m1 f1 ?_)) (fun e8 => b_0 (M_wrong (n := 1) h (by decide) (by decide) (fun m1 f1 h1 => k99 m1 (f1.mono (by decide)) ?_)))
    · unfold oK; rw [if_pos e8]; exact h1
    · unfold oK; rw [pk_f oA_f oW_f e8]; exact h1
  · have eh : xhh B T k s = xh1 B T k (oA B T s) := by unfold xhh xh2; rw [if_neg (fun z => e (of_decide_eq_true z))]
    refine M_l121 hl2 hk (by rw [eh]; exact h) h3 (fun m' f' h' g' v' => hQ m' f' h' (fun j hj => g' j (by omega)) (fun zz => ⟨?_, v' zz⟩))
    rw [g' _ (by omega), h2]; unfold v30; rw [if_neg e]
theorem M_line {m : Md} {B : Nat → Nat} {T l k : Nat} {s : PS} (hl2 : l + 24 ≤ 290) (hk : k < 6) (h : TM m B T 1 s) (hs0 : s.1 = 0) (hK : lnK B T s.2.2 = k + 1) {Q : Md → Prop} (hQ : ∀ m', Fr LT m m' → TM m' B T 1 (oL B T k s) → (∀ j, j < l ∨ l + 24 ≤ j → gA m' 18 j = gA m 18 j) → ((oL B T k s).1 = 0 → LnM (gA m' 18) l k B T s) → Q m') : qX12_line m (nI l) Q := by
  unfold qX12_line
  refine M_sortHere h (fun e => absurd (e hs0) (by omega)) (fun k' hk' _ e => ?_)
  obtain rfl : k' = k := by omega
  refine M_next h hs0 (by have := lnK_1 (B := B) (T := T) (p := s.2.2) (by omega); omega) (fun m1 f1 h1 => ?_)
  have y1 : gA m1 18 = gA m 18 := f1.2.1 18 (by decide)
  refine pk_loop (fun n i u => qX12_line_11 Q n u (nI l) (nI k') (nI i)) (fun i u => Fr [(1, 18)] m1 u ∧ (∀ j, l ≤ j → j < l + i → gA u 18 j = nI 0) ∧ ∀ j, j < l ∨ l + 24 ≤ j → gA u 18 j = gA m 18 j) 24 0 m1 (by omega) ⟨Fr.rf, fun j a1 a2 => by omega, fun j _ => by rw [y1]⟩ (fun n u hI => ?_) (fun n i u hi hI ih => ?_)
  · obtain ⟨fu, u0, uo⟩ := hI
    have hu := TM.fr h1 fu
    unfold qX12_line_11
    refine c_y (nI_le (a := 24) (Nat.le_refl _) (by decide)) ⟨vp_in_nI (by omega) (by decide), fun w hw => ?_⟩
    have fw : Fr [(1, 18)] u w := by rw [hw]; exact Fr.tA 18 _ _ (by decide)
    have w18 : gA w 18 = va_up (gA u 18) l (nI k') := by rw [hw, gA_tA, if_pos rfl, nI_clamp (by omega)]
    have hw' := TM.fr hu fw
    have go : ∀ (m2 : Md) (v : Nat), Fr LT w m2 → gA m2 18 = va_up (va_up (gA u 18) l (nI k')) (l + 1) (nI v) → TM m2 B T 1 (xh1 B T k' (oA B T s)) → ((xh1 B T k' (oA B T s)).1 = 0 → v = v29 B T k' s) → qX12_line_79 Q m2 (nI l) (nI k') := by
      intro m2 v f2 g18 h2 ev
      refine M_l79 hl2 hk h2 (by rw [g18, va_up_ne' _ _ (by omega), va_up_ne' _ _ (by omega)]; exact u0 _ (by omega) (by omega)) (by rw [g18, va_up_ne' _ _ (by omega), va_up_ne' _ _ (by omega)]; exact u0 _ (by omega) (by omega)) (fun m' f' h' g' v' => hQ m' (((f1.mono (by decide)).tr ((fu.tr fw).mono (by decide))).tr (f2.tr f')) h' (fun j hj => by rw [g' j (by omega), g18, va_up_ne' _ _ (by omega), va_up_ne' _ _ (by omega)]; exact uo j hj) (fun zz => ?_))
      have zh : (xhh B T k' s).1 = 0 := ok_of (f := cz B T k') cz_f (ok_of (f := oS B T 59) oS_f zz)
      have z1 : (xh1 B T k' (oA B T s)).1 = 0 := ok_of (f := xh2 B T k') xh2_f zh
      obtain ⟨d1, d2, d3⟩ := v' zz
      exact ⟨by rw [g' _ (by omega), g18, va_up_ne' _ _ (by omega), va_up_eq], by rw [g' _ (by omega), g18, va_up_eq, ev z1], d1, d2, d3⟩
    refine c_eq' (b := 0) rfl rfl (by omega) (by decide) (fun e0 => ?_) (fun e0 => ?_)
    · have eh : xh1 B T k' (oA B T s) = oN B T 2 (oA B T s) := by unfold xh1; rw [if_pos (decide_eq_true e0)]
      refine M_number (mo := 2) (by decide) hw' (fun v m2 hv f2 h2 ev => ?_)
      rw [← eh] at h2 ev
      rw [nl_1, nI_add]
      refine ⟨vp_in_nI (by omega) (by decide), fun w2 hw2 => go w2 v ?_ ?_ ?_ (fun z => ?_)⟩
      · rw [hw2]; exact (f2.mono (by decide)).tr (Fr.tA 18 _ _ (by decide))
      · rw [hw2, gA_tA, if_pos rfl, nI_clamp (by omega), f2.2.1 18 (by decide), w18]
      · rw [hw2]; exact h2.t _ _
      · rw [ev z]; unfold v29; rw [if_neg (by omega)]
    · refine c_eq (b := 1) rfl rfl (by omega) (by decide) (fun e1 => ?_) (fun e1 => ?_)
      · have eh : xh1 B T k' (oA B T s) = oA B T s := by unfold xh1; rw [if_neg (fun z => e0 (of_decide_eq_true z)), if_pos (decide_eq_true e1)]
        refine go w 0 Fr.rf ?_ (by rw [eh]; exact hw') (fun z => by unfold v29; rw [if_pos e1])
        rw [w18]
        funext j
        by_cases ej : j = l + 1
        · rw [ej, va_up_eq, va_up_ne' _ _ (by omega)]; exact u0 _ (by omega) (by omega)
        · rw [va_up_ne' _ _ ej]
      · have eh : xh1 B T k' (oA B T s) = oN B T 9999 (oA B T s) := by unfold xh1; rw [if_neg (fun z => e0 (of_decide_eq_true z)), if_neg (fun z => e1 (of_decide_eq_true z))]
        refine M_number (mo := 9999) (by decide) hw' (fun v m2 hv f2 h2 ev => ?_)
        rw [← eh] at h2 ev
        rw [nl_1, nI_add]
        refine ⟨vp_in_nI (by omega) (by decide), fun w2 hw2 => go w2 v ?_ ?_ ?_ (fun z => ?_)⟩
        · rw [hw2]; exact (f2.mono (by decide)).tr (Fr.tA 18 _ _ (by decide))
        · rw [hw2, gA_tA, if_pos rfl, nI_clamp (by omega), f2.2.1 18 (by decide), w18]
        · rw [hw2]; exact h2.t _ _
        · rw [ev z]; unfold v29; rw [if_neg e1]
  · obtain ⟨fu, u0, uo⟩ := hI
    unfold qX12_line_11
    refine c_n (nI_ge (b := 24) hi (by decide)) ?_
    rw [nI_add, ofI1, nI_add]
    refine ⟨vp_in_nI (by omega) (by decide), fun w hw => ih w ⟨by rw [hw]; exact Fr.tr fu (Fr.tA 18 _ _ (by decide)), fun j a1 a2 => ?_, fun j hj => ?_⟩⟩
    · rw [hw, gA_tA, if_pos rfl, nI_clamp (by omega)]
      by_cases ej : j = l + i
      · rw [ej, va_up_eq]; rfl
      · rw [va_up_ne' _ _ ej]; exact u0 j a1 (by omega)
    · rw [hw, gA_tA, if_pos rfl, nI_clamp (by omega), va_up_ne' _ _ (by omega)]; exact uo j hj
