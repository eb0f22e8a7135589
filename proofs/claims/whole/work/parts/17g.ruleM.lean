theorem M_r88 {m : Md} {B : Nat → Nat} {T a x : Nat} {s : PS} (hx : x + 12 ≤ 290) (z10 : gA m 18 (x + 10) = nI 0) (z11 : gA m 18 (x + 11) = nI 0) (h : TM m B T a s) {Q : Md → Prop} (hQ : ∀ m', Fr LT m m' → TM m' B T a (u6 B T s) → (∀ i, i < x + 10 ∨ x + 12 ≤ i → gA m' 18 i = gA m 18 i) → ((u6 B T s).1 = 0 → gA m' 18 (x + 10) = nI (c24 B T s) ∧ gA m' 18 (x + 11) = nI (c25 B T s)) → Q m') : qX12_rule_88 Q m (nI x) := by
  unfold qX12_rule_88
  refine M_takes (k := 1) (by decide) h (fun e0 e m1 f1 h1 => b_1' ?_) (fun e => b_0' ?_)
  · rw [nl_10, nI_add]
    refine M_set (x := x + 10) (by omega) (by rw [f1.2.1 18 (by decide)]; exact z11) h1 (fun m2 f2 h2 g2 v2 => ?_)
    have eu : u5 B T s = oT B T (oA B T s) := by unfold u5; rw [if_pos e]
    unfold qX12_rule_105
    refine M_needSign (c := 59) (by decide) (by unfold sgB; rfl) h2 (fun m3 f3 h3 => hQ m3 (((f1.mono (by decide)).tr f2).tr (f3.mono (by decide))) (by unfold u6; rw [eu]; exact h3) (fun i hi => ?_) (fun z => ?_))
    · rw [f3.2.1 18 (by decide), g2 i (by omega), f1.2.1 18 (by decide)]
    · unfold u6 at z
      rw [eu] at z
      obtain ⟨v3, v4⟩ := v2 (ok_of (f := oS B T 59) oS_f z)
      unfold c24 c25
      rw [f3.2.1 18 (by decide), if_pos e, if_pos e, ← oA_p e0]
      exact ⟨v3, v4⟩
  · have eu : u5 B T s = s := by unfold u5; rw [pk_f oTA_f (fun _ => rfl) e]
    unfold qX12_rule_105
    refine M_needSign (c := 59) (by decide) (by unfold sgB; rfl) h (fun m3 f3 h3 => hQ m3 (f3.mono (by decide)) (by unfold u6; rw [eu]; exact h3) (fun i hi => by rw [f3.2.1 18 (by decide)]) (fun z => ?_))
    unfold u6 at z
    rw [eu] at z
    have z0 := ok_of (f := oS B T 59) oS_f z
    have ef : ¬ tW B T s.2.2 1 = true := by rw [e z0]; decide
    unfold c24 c25
    rw [f3.2.1 18 (by decide), if_neg ef, if_neg ef]
    exact ⟨z10, z11⟩
theorem M_r51 {m : Md} {B : Nat → Nat} {T a x : Nat} {s : PS} (hx : x + 12 ≤ 290) (zz : ∀ i, x + 6 ≤ i → i < x + 12 → gA m 18 i = nI 0) (h : TM m B T a s) {Q : Md → Prop} (hQ : ∀ m', Fr LT m m' → TM m' B T a (u6 B T (u4 B T (oS B T 62 s))) → (∀ i, i < x + 6 ∨ x + 12 ≤ i → gA m' 18 i = gA m 18 i) → ((u6 B T (u4 B T (oS B T 62 s))).1 = 0 → gA m' 18 (x + 6) = nI (c22 B T (oS B T 62 s)) ∧ (∀ j, j < c22 B T (oS B T 62 s) → gA m' 18 (x + 7 + j) = nI (c21 B T (oS B T 62 s) j)) ∧ gA m' 18 (x + 10) = nI (c24 B T (u4 B T (oS B T 62 s))) ∧ gA m' 18 (x + 11) = nI (c25 B T (u4 B T (oS B T 62 s)))) → Q m') : qX12_rule_51 Q m (nI x) := by
  unfold qX12_rule_51
  refine M_needSign (c := 62) (by decide) (by unfold sgB; rfl) h (fun m1 f1 h1 => ?_)
  generalize oS B T 62 s = t at *
  have y1 : gA m1 18 = gA m 18 := f1.2.1 18 (by decide)
  refine M_isSign (c := 45) (by decide) (by unfold sgB; rfl) h1 (fun e0 e => b_1' (M_next h1 e0 (by have := (tS_1 e).1; omega) (fun m2 f2 h2 => ?_))) (fun e => b_0' ?_)
  · have eu : u4 B T t = oA B T t := by unfold u4; rw [if_pos e]
    have y2 : gA m2 18 = gA m 18 := (f2.2.1 18 (by decide)).trans y1
    refine M_r88 hx (by rw [y2]; exact zz _ (by omega) (by omega)) (by rw [y2]; exact zz _ (by omega) (by omega)) h2 (fun m' f' h' g' v' => hQ m' (((f1.mono (by decide)).tr (f2.mono (by decide))).tr f') (by rw [eu]; exact h') (fun i hi => by rw [g' i (by omega), y2]) (fun z => ?_))
    rw [eu] at z ⊢
    obtain ⟨v1, v2⟩ := v' z
    refine ⟨?_, fun j hj => ?_, v1, v2⟩
    · rw [g' _ (by omega), y2, zz _ (by omega) (by omega)]; unfold c22; rw [if_pos e]
    · unfold c22 at hj; rw [if_pos e] at hj; omega
  · have eu : u4 B T t = oR B T t := by unfold u4; rw [pk_f oA_f oR_f e]
    refine M_good h1 (fun e0 => b_1' ?_) (fun e0 => b_0' ?_)
    · rw [nl_6, nI_add]
      refine M_ruleWord (x := x + 6) (by omega) h1 (fun m2 f2 h2 g2 v2 => ?_)
      refine M_r88 hx (by rw [g2 _ (by omega), y1]; exact zz _ (by omega) (by omega)) (by rw [g2 _ (by omega), y1]; exact zz _ (by omega) (by omega)) h2 (fun m' f' h' g' v' => hQ m' (((f1.mono (by decide)).tr f2).tr f') (by rw [eu]; exact h') (fun i hi => by rw [g' i (by omega), g2 i (by omega), y1]) (fun z => ?_))
      rw [eu] at z ⊢
      obtain ⟨v3, v4⟩ := v' z
      obtain ⟨v5, v6⟩ := v2 (ok_of (f := u6 B T) u6_f z)
      have ef : ¬ tS B T t.2.2 45 = true := by rw [e e0]; decide
      refine ⟨?_, fun j hj => ?_, v3, v4⟩
      · rw [g' _ (by omega), v5]; unfold c22; rw [if_neg ef]
      · unfold c22 at hj; rw [if_neg ef] at hj
        have l3 := (tO_1 (B := B) (T := T) (p := t.2.2) (n := 3) (by
          have z2 := ok_of (f := u6 B T) u6_f z
          unfold oR at z2
          by_cases c : tO B T t.2.2 3 = true
          · exact c
          · rw [if_neg c] at z2; exact absurd z2 (oW_n (by decide)))).2
        rw [g' _ (by omega), show x + 7 + j = x + 6 + 1 + j by omega]; exact v6 j hj
    · refine M_r88 hx (by rw [y1]; exact zz _ (by omega) (by omega)) (by rw [y1]; exact zz _ (by omega) (by omega)) h1 (fun m' f' h' g' v' => hQ m' ((f1.mono (by decide)).tr f') (by rw [u4_f e0]; exact h') (fun i hi => by rw [g' i (by omega), y1]) (fun z => ?_))
      rw [u4_f e0] at z
      exact absurd (ok_of (f := u6 B T) u6_f z) e0
theorem M_r37 {m : Md} {B : Nat → Nat} {T a x : Nat} {s : PS} (hx : x + 12 ≤ 290) (zz : ∀ i, x + 2 ≤ i → i < x + 12 → gA m 18 i = nI 0) (h : TM m B T a s) {Q : Md → Prop} (hQ : ∀ m', Fr LT m m' → TM m' B T a (u7 B T s) → (∀ i, i < x + 2 ∨ x + 12 ≤ i → gA m' 18 i = gA m 18 i) → ((u7 B T s).1 = 0 → gA m' 18 (x + 2) = nI (c20 B T s) ∧ (∀ j, j < c20 B T s → gA m' 18 (x + 3 + j) = nI (c21 B T s j)) ∧ gA m' 18 (x + 6) = nI (c22 B T (u3 B T s)) ∧ (∀ j, j < c22 B T (u3 B T s) → gA m' 18 (x + 7 + j) = nI (c21 B T (u3 B T s) j)) ∧ gA m' 18 (x + 10) = nI (c24 B T (u4 B T (u3 B T s))) ∧ gA m' 18 (x + 11) = nI (c25 B T (u4 B T (u3 B T s)))) → Q m') : qX12_rule_37 Q m (nI x) := by
  unfold qX12_rule_37
  refine M_good h (fun e0 => b_1' ?_) (fun e0 => b_0' ?_)
  · rw [nl_2, nI_add]
    refine M_ruleWord (x := x + 2) (by omega) h (fun m2 f2 h2 g2 v2 => ?_)
    refine M_r51 hx (fun i h1 h3 => by rw [g2 i (by omega)]; exact zz i (by omega) (by omega)) h2 (fun m' f' h' g' v' => hQ m' (f2.tr f') h' (fun i hi => by rw [g' i (by omega), g2 i (by omega)]) (fun z => ?_))
    have z4 := ok_of (f := u6 B T) u6_f z
    have z3 := ok_of (f := u4 B T) u4_f z4
    have z2 := ok_of (f := oS B T 62) oS_f z3
    obtain ⟨v5, v6⟩ := v2 z2
    have l3 := (tO_1 (B := B) (T := T) (p := s.2.2) (n := 3) (by
      unfold oR at z2
      by_cases c : tO B T s.2.2 3 = true
      · exact c
      · rw [if_neg c] at z2; exact absurd z2 (oW_n (by decide)))).2
    refine ⟨by rw [g' _ (by omega), v5]; rfl, fun j hj => ?_, v' z⟩
    have hj' : j < tE B T s.2.2 - tF B T s.2.2 := hj
    rw [g' _ (by omega), show x + 3 + j = x + 2 + 1 + j by omega]; exact v6 j hj
  · refine M_r51 hx (fun i h1 h3 => zz i (by omega) (by omega)) h (fun m' f' h' g' v' => hQ m' f' ?_ (fun i hi => g' i (by omega)) (fun z => ?_))
    · rw [u7_f e0]; rw [oS_f e0, u4_f e0, u6_f e0] at h'; exact h'
    · rw [u7_f e0] at z; exact absurd z e0
/-- the reference has a rule's numbers at x -/
def RuM (V : Nat → Int32) (x : Nat) (B : Nat → Nat) (T : Nat) (s : PS) : Prop := V x = nI (c18 B T s) ∧ V (x + 1) = nI (c19 B T s) ∧ V (x + 2) = nI (c20 B T (u1 B T s)) ∧ (∀ j, j < c20 B T (u1 B T s) → V (x + 3 + j) = nI (c21 B T (u1 B T s) j)) ∧ V (x + 6) = nI (c22 B T (u3 B T (u1 B T s))) ∧ (∀ j, j < c22 B T (u3 B T (u1 B T s)) → V (x + 7 + j) = nI (c21 B T (u3 B T (u1 B T s)) j)) ∧ V (x + 10) = nI (c24 B T (u4 B T (u3 B T (u1 B T s)))) ∧ V (x + 11) = nI (c25 B T (u4 B T (u3 B T (u1 B T s))))
theorem M_rule {m : Md} {B : Nat → Nat} {T a x : Nat} {s : PS} (hx : x + 12 ≤ 290) (h : TM m B T a s) {Q : Md → Prop} (hQ : ∀ m', Fr LT m m' → TM m' B T a (oU B T s) → (∀ i, i < x ∨ x + 12 ≤ i → gA m' 18 i = gA m 18 i) → ((oU B T s).1 = 0 → RuM (gA m' 18) x B T s) → Q m') : qX12_rule m (nI x) Q := by
  unfold qX12_rule
  refine pk_loop (fun n i u => qX12_rule_2 Q n u (nI x) (nI i)) (fun i u => Fr [(1, 18)] m u ∧ (∀ j, x ≤ j → j < x + i → gA u 18 j = nI 0) ∧ ∀ j, j < x ∨ x + 12 ≤ j → gA u 18 j = gA m 18 j) 12 0 m (by omega) ⟨Fr.rf, fun j h1 h2 => by omega, fun _ _ => rfl⟩ (fun n u hI => ?_) (fun n i u hi hI ih => ?_)
  · obtain ⟨fu, u0, uo⟩ := hI
    have hu := TM.fr h fu
    unfold qX12_rule_2
    refine c_y (nI_le (a := 12) (Nat.le_refl _) (by decide)) ?_
    refine M_takes (k := 0) (by decide) hu (fun e0 e m1 f1 h1 => b_1' ?_) (fun e => b_0' ?_)
    · have eu : u1 B T s = oT B T (oA B T s) := by unfold u1; rw [if_pos e]
      have y1 : gA m1 18 = gA u 18 := f1.2.1 18 (by decide)
      refine M_set (x := x) (by omega) (by rw [y1]; exact u0 _ (by omega) (by omega)) h1 (fun m2 f2 h2 g2 v2 => ?_)
      refine M_r37 hx (fun i h3 h4 => by rw [g2 i (by omega), y1]; exact u0 i (by omega) (by omega)) h2 (fun m' f' h' g' v' => hQ m' ((((fu.mono (by decide)).tr (f1.mono (by decide))).tr f2).tr f') (by unfold oU; rw [eu]; exact h') (fun i hi => by rw [g' i (by omega), g2 i (by omega), y1]; exact uo i hi) (fun z => ?_))
      unfold oU at z
      rw [eu] at z
      obtain ⟨v3, v4⟩ := v2 (ok_of (f := u7 B T) u7_f z)
      unfold RuM
      rw [eu]
      refine ⟨?_, ?_, v' z⟩
      · rw [g' _ (by omega), v3, oA_p e0]; unfold c18; rw [if_pos e]
      · rw [g' _ (by omega), v4, oA_p e0]; unfold c19; rw [if_pos e]
    · have eu : u1 B T s = s := by unfold u1; rw [pk_f oTA_f (fun _ => rfl) e]
      refine M_r37 hx (fun i h3 h4 => u0 i (by omega) (by omega)) hu (fun m' f' h' g' v' => hQ m' ((fu.mono (by decide)).tr f') (by unfold oU; rw [eu]; exact h') (fun i hi => by rw [g' i (by omega)]; exact uo i hi) (fun z => ?_))
      unfold oU at z
      rw [eu] at z
      have z0 := ok_of (f := u7 B T) u7_f z
      have ef : ¬ tW B T s.2.2 0 = true := by rw [e z0]; decide
      unfold RuM
      rw [eu]
      refine ⟨?_, ?_, v' z⟩
      · rw [g' _ (by omega), u0 _ (by omega) (by omega)]; unfold c18; rw [if_neg ef]
      · rw [g' _ (by omega), u0 _ (by omega) (by omega)]; unfold c19; rw [if_neg ef]
  · obtain ⟨fu, u0, uo⟩ := hI
    unfold qX12_rule_2
    refine c_n (nI_ge (b := 12) hi (by decide)) ?_
    rw [nI_add, ofI1, nI_add]
    refine ⟨vp_in_nI (by omega) (by decide), fun w hw => ih w ⟨by rw [hw]; exact Fr.tr fu (Fr.tA 18 _ _ (by decide)), fun j h1 h2 => ?_, fun j hj => ?_⟩⟩
    · rw [hw, gA_tA, if_pos rfl, nI_clamp (by omega)]
      by_cases ej : j = x + i
      · rw [ej, va_up_eq]; rfl
      · rw [va_up_ne' _ _ ej]; exact u0 j h1 (by omega)
    · rw [hw, gA_tA, if_pos rfl, nI_clamp (by omega), va_up_ne' _ _ (by omega)]; exact uo j hj
