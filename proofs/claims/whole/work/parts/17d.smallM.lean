/-! the reference's text -/
def TM (m : Md) (B : Nat → Nat) (T a : Nat) (s : PS) : Prop := T ≤ 500 ∧ gF m 10 = nI T ∧ (∀ j, j < T → byn (gB m 4 j) = B j) ∧ gF m 15 = nI s.1 ∧ gF m 16 = fI s ∧ s.1 ≤ 3 ∧ gF m 17 = nI a ∧ a ≤ 1 ∧ (s.1 = 0 → s.2.2 ≤ T ∧ TKM m B T a s.2.2)
abbrev LK : List (Nat × Nat) := [(0, 11), (0, 12), (0, 13), (0, 14), (0, 15), (0, 16)]
abbrev LT : List (Nat × Nat) := [(0, 11), (0, 12), (0, 13), (0, 14), (0, 15), (0, 16), (1, 18)]
theorem TM.t {m : Md} {B : Nat → Nat} {T a : Nat} {s : PS} (h : TM m B T a s) (i v : Int32) : TM (tA m 18 i v) B T a s := h
theorem TM.fr {m m' : Md} {B : Nat → Nat} {T a : Nat} {s : PS} (h : TM m B T a s) (f : Fr [(1, 18)] m m') : TM m' B T a s := by
  unfold TM TKM
  rw [f.1 10 (by decide), f.1 11 (by decide), f.1 12 (by decide), f.1 13 (by decide), f.1 14 (by decide), f.1 15 (by decide), f.1 16 (by decide), f.1 17 (by decide), f.2.2.2.1 4 (by decide)]
  exact h
theorem M_good {m : Md} {B : Nat → Nat} {T a : Nat} {s : PS} (h : TM m B T a s) {Q : Int32 → Md → Prop} (h1 : s.1 = 0 → Q 1 m) (h0 : s.1 ≠ 0 → Q 0 m) : qX12_good m Q := by
  obtain ⟨hT, m10, mb, m15, m16, b1, m17, ha, ht⟩ := h
  unfold qX12_good
  exact c_eq' (b := 0) m15 rfl (by omega) (by decide) h1 h0
theorem M_next {m : Md} {B : Nat → Nat} {T a : Nat} {s : PS} (h : TM m B T a s) (h0 : s.1 = 0) (hk : ¬ (tK B T s.2.2 = 2 ∧ a = 0)) {Q : Md → Prop} (hQ : ∀ m', Fr LK m m' → TM m' B T a (oA B T s) → Q m') : qX12_next_ m Q := by
  obtain ⟨hT, m10, mb, m15, m16, b1, m17, ha, ht⟩ := h
  obtain ⟨hp, hk12, hk11, -⟩ := ht h0
  have hE := tE_b (B := B) hp
  have eo : oA B T s = (0, 0, tE B T s.2.2) := if_pos h0
  refine M_next0 hT m10 mb m17 ha hE.2 (hk11 hk) (fun m' fr hk' => hQ m' (fr.mono (by decide)) ⟨hT, (fr.1 10 (by decide)).trans m10, by rw [fr.2.2.2.1 4 (by decide)]; exact mb, ?_, ?_, ?_, (fr.1 17 (by decide)).trans m17, ha, ?_⟩)
  · rw [fr.1 15 (by decide), m15, h0, eo]
  · rw [fr.1 16 (by decide), m16, eo]; unfold fI; rw [if_pos h0]; rfl
  · rw [eo]; show 0 ≤ 3; omega
  · rw [eo]; exact fun _ => ⟨hE.2, hk'⟩
theorem M_wrong {m : Md} {B : Nat → Nat} {T a n : Nat} {s : PS} (h : TM m B T a s) (hn : 1 ≤ n) (hn3 : n ≤ 3) {Q : Md → Prop} (hQ : ∀ m', Fr [(0, 15), (0, 16)] m m' → TM m' B T a (oW B T n s) → Q m') : qX12_wrong m (nI n) Q := by
  unfold qX12_wrong
  refine M_good h (fun h0 => b_1 ?_) (fun h0 => b_0 (hQ m Fr.rf (by rw [oW_f h0]; exact h)))
  obtain ⟨hT, m10, mb, m15, m16, b1, m17, ha, ht⟩ := h
  obtain ⟨hp, hk12, -⟩ := ht h0
  intro w hw w2 hw2
  have ew : oW B T n s = (n, tF B T s.2.2, s.2.2) := if_pos h0
  refine hQ w2 (by rw [hw2, hw]; exact Fr.tr (Fr.sF 15 _ (by decide)) (Fr.sF 16 _ (by decide))) ⟨hT, by rw [hw2, hw]; exact m10, by rw [hw2, hw]; exact mb, ?_, ?_, by rw [ew]; exact hn3, by rw [hw2, hw]; exact m17, ha, ?_⟩
  · rw [hw2, hw, ew]; rfl
  · rw [hw2, gF_sF, if_pos rfl, hw, ew]
    show gF m 12 = fI (n, tF B T s.2.2, s.2.2)
    unfold fI
    rw [if_neg (show ¬ n = 0 by omega), hk12]
  · rw [ew]; intro z; have : n = 0 := z; omega
theorem M_is35 {m : Md} {k : Nat} {Q : Int32 → Md → Prop} (h : Q 0 m) : qX12_is_35 k Q m := by
  unfold qX12_is_35
  refine ⟨1, ?_⟩
  unfold qX12_is_39
  exact ⟨fun _ => ⟨Or.inl rfl, h⟩, fun _ => ⟨fun _ => ⟨Or.inl rfl, h⟩, fun h => absurd rfl h⟩⟩
theorem M_is {m : Md} {B : Nat → Nat} {T a k : Nat} {s : PS} (hk : k < 16) (h : TM m B T a s) {Q : Int32 → Md → Prop} (h1 : s.1 = 0 → tW B T s.2.2 k = true → Q 1 m) (h0 : (s.1 = 0 → tW B T s.2.2 k = false) → Q 0 m) : qX12_is m k Q := by
  unfold qX12_is
  refine M_good h (fun e0 => b_1' ?_) (fun e0 => b_0' (M_is35 (h0 (fun z => absurd z e0))))
  obtain ⟨hT, m10, mb, m15, m16, b1, m17, ha, ht⟩ := h
  obtain ⟨hp, k12, k11, q0, q1, q2, q3, q4⟩ := ht e0
  have g1 := h1 e0
  have g0 : tW B T s.2.2 k = false → Q 0 m := fun z => h0 (fun _ => z)
  generalize s.2.2 = p at *
  have hE := tE_b (B := B) hp
  have hl := s_b hk
  have k3 := tK_le B T p
  have n1 : ¬ tK B T p = 1 → Q 0 m := fun n1 => g0 (by unfold tW; rw [decide_eq_false n1]; rfl)
  by_cases c1 : tK B T p = 1
  · have m13 := q1 c1
    refine c_y' (by rw [m13]; rfl) ?_
    rw [k11 (by omega), k12, pk_sub hE.1]
    refine c_eq' (b := s_len.getD k 0) rfl rfl (by omega) (by omega) (fun e2 => ?_) (fun n2 => M_is35 (g0 (by unfold tW; rw [decide_eq_false n2, Bool.false_and, Bool.and_false])))
    refine pk_loop (fun n i (b : Bool) => qX12_is_39 k Q n m (if b then 1 else 0) (nI i)) (fun i b => (b = true → ∀ j, j < i → B (tF B T p + j) = sN k j) ∧ (b = false → tW B T p k = false)) (s_len.getD k 0) 0 true (Nat.zero_le _) ⟨fun _ j hj => by omega, fun h => (by cases h)⟩ (fun n b hI => ?_) (fun n i b hi hI ih => ?_)
    · unfold qX12_is_39
      refine c_y (nI_le (Nat.le_refl _) (by omega)) ?_
      cases b with
      | false => exact ⟨Or.inl rfl, g0 (hI.2 rfl)⟩
      | true =>
        refine ⟨Or.inr rfl, g1 ?_⟩
        unfold tW
        rw [decide_eq_true c1, decide_eq_true e2, eqB_t _ (fun j hj => hI.1 rfl j hj)]; rfl
    · unfold qX12_is_39
      refine c_n (nI_ge (b := s_len.getD k 0) hi (by omega)) ?_
      cases b with
      | false => exact ⟨fun _ => ⟨Or.inl rfl, g0 (hI.2 rfl)⟩, fun h => absurd rfl h⟩
      | true =>
        obtain ⟨a1, a2⟩ := s_at (k := k) (j := i) hk hi
        refine ⟨fun h => absurd h (by decide), fun _ => ?_⟩
        rw [k12, nI_add, nI_clamp (by omega), nI_clamp (by omega), a1, ofI1, nI_add]
        refine ⟨vp_in_nI (by omega) (by decide), vp_in_nI (by omega) (by omega), b_c' (mb (tF B T p + i) (by omega)) a2 (fun e => ih true ⟨fun _ j hj => ?_, fun h => (by cases h)⟩) (fun e => ih false ⟨fun h => (by cases h), fun _ => ?_⟩)⟩
        · by_cases ej : j = i
          · rw [ej]; exact e
          · exact hI.1 rfl j (by omega)
        · unfold tW
          rw [eqB_f (f := fun j => B (tF B T p + j)) (g := fun j => sN k j) _ i hi e, Bool.and_false, Bool.and_false]
  · refine c_n' ?_ (M_is35 (n1 c1))
    rcases (show tK B T p = 0 ∨ tK B T p = 2 ∨ tK B T p = 3 by omega) with e | e | e
    · rw [q0 e]; decide
    · rcases (show a = 0 ∨ a = 1 by omega) with ea | ea
      · rw [q2 e ea]; decide
      · rw [(q3 e ea).1]; decide
    · rw [(q4 e).2]; split <;> decide
theorem M_isSign {m : Md} {B : Nat → Nat} {T a c : Nat} {s : PS} (hc : c < 128) (hsg : sgB a c = true) (h : TM m B T a s) {Q : Int32 → Md → Prop} (h1 : s.1 = 0 → tS B T s.2.2 c = true → Q 1 m) (h0 : (s.1 = 0 → tS B T s.2.2 c = false) → Q 0 m) : qX12_isSign m (nI c) Q := by
  unfold qX12_isSign
  refine M_good h (fun e0 => b_1' ?_) (fun e0 => b_0' (h0 (fun z => absurd z e0)))
  obtain ⟨hT, m10, mb, m15, m16, b1, m17, ha, ht⟩ := h
  obtain ⟨hp, k12, k11, q0, q1, q2, q3, q4⟩ := ht e0
  have g1 := h1 e0
  have g0 : tS B T s.2.2 c = false → Q 0 m := fun z => h0 (fun _ => z)
  generalize s.2.2 = p at *
  have k3 := tK_le B T p
  by_cases c1 : tK B T p = 3
  · obtain ⟨m14, m13⟩ := q4 c1
    have hn := (tK_n (B := B) (T := T) (p := p) (by omega)).1
    have hb : B (tF B T p) < 256 := by rw [← mb _ hn]; exact byn_lt _
    rw [m13, m14]
    by_cases ec : B (tF B T p) = c
    · rw [ec, hsg]
      exact c_y' rfl (c_y' rfl (g1 (by unfold tS; rw [decide_eq_true c1, decide_eq_true ec]; rfl)))
    · have z : Q 0 m := g0 (by unfold tS; rw [decide_eq_false ec, Bool.and_false])
      refine ⟨fun _ => z, fun _ => c_n' (fun e => ec ((nI_eq (by omega) (by omega)).1 e)) z⟩
  · refine c_n' ?_ (g0 (by unfold tS; rw [decide_eq_false c1]; rfl))
    rcases (show tK B T p = 0 ∨ tK B T p = 1 ∨ tK B T p = 2 by omega) with e | e | e
    · rw [q0 e]; decide
    · rw [q1 e]; decide
    · rcases (show a = 0 ∨ a = 1 by omega) with ea | ea
      · rw [q2 e ea]; decide
      · rw [(q3 e ea).1]; decide
theorem M_need13 {m : Md} {B : Nat → Nat} {T a : Nat} {s : PS} (h : TM m B T a s) (hk : s.1 = 0 → ¬ (tK B T s.2.2 = 2 ∧ a = 0)) {Q : Md → Prop} (hQ : ∀ m', Fr LK m m' → TM m' B T a (oA B T s) → Q m') : qX12_needSign_13 Q m := by
  unfold qX12_needSign_13
  exact M_good h (fun h0 => b_1' (M_next h h0 (hk h0) hQ)) (fun h0 => b_0' (hQ m Fr.rf (by rw [oA_f h0]; exact h)))
theorem M_needSign {m : Md} {B : Nat → Nat} {T a c : Nat} {s : PS} (hc : c < 128) (hsg : sgB a c = true) (h : TM m B T a s) {Q : Md → Prop} (hQ : ∀ m', Fr LK m m' → TM m' B T a (oS B T c s) → Q m') : qX12_needSign m (nI c) Q := by
  unfold qX12_needSign
  refine M_isSign hc hsg h (fun h0 e => b_1 (M_need13 h (fun _ => ?_) (fun m' f h' => hQ m' f ?_))) (fun e => b_0 (M_wrong (n := 1) h (by decide) (by decide) (fun m1 f1 h1 => M_need13 h1 (fun z => absurd z (oW_n (by decide))) (fun m' f h' => hQ m' ((f1.mono (by decide)).tr f) ?_))))
  · have := (tS_1 e).1; omega
  · unfold oS; rw [if_pos e]; exact h'
  · unfold oS; rw [pk_f oA_f oW_f e]
    rw [oA_f (oW_n (by decide))] at h'; exact h'
theorem M_takes {m : Md} {B : Nat → Nat} {T a k : Nat} {s : PS} (hk : k < 16) (h : TM m B T a s) {Q : Int32 → Md → Prop} (h1 : s.1 = 0 → tW B T s.2.2 k = true → ∀ m', Fr LK m m' → TM m' B T a (oA B T s) → Q 1 m') (h0 : (s.1 = 0 → tW B T s.2.2 k = false) → Q 0 m) : qX12_takes m k Q := by
  unfold qX12_takes
  refine M_is hk h (fun e0 e => b_1' (M_next h e0 ?_ (h1 e0 e))) (fun e => b_0' (h0 e))
  have := tW_1 e; omega
theorem M_num29 {m : Md} {B : Nat → Nat} {T : Nat} {s : PS} (h : TM m B T 1 s) {Q : Int32 → Md → Prop} (h1 : s.1 = 0 → ∀ m', Fr LK m m' → TM m' B T 1 (oA B T s) → Q (gF m 14) m') (h0 : s.1 ≠ 0 → Q 0 m) : qX12_number_29 Q m := by
  unfold qX12_number_29
  exact M_good h (fun e0 => b_1 (M_next h e0 (by omega) (h1 e0))) (fun e0 => b_0 (h0 e0))
theorem M_number {m : Md} {B : Nat → Nat} {T mo : Nat} {s : PS} (hm : mo ≤ 9999) (h : TM m B T 1 s) {Q : Int32 → Md → Prop} (hQ : ∀ v m', v ≤ mo → Fr LK m m' → TM m' B T 1 (oN B T mo s) → ((oN B T mo s).1 = 0 → v = tV B T s.2.2) → Q (nI v) m') : qX12_number m (nI mo) Q := by
  unfold qX12_number
  have bad : ∀ n, 1 ≤ n → n ≤ 3 → (s.1 = 0 → oN B T mo s = oW B T n s) → qX12_wrong m (nI n) (fun v => qX12_number_29 Q v) := by
    intro n n1 n3 eo
    refine M_wrong h n1 n3 (fun m1 f1 h1 => M_num29 h1 (fun z => absurd z (oW_n (by omega))) (fun _ => ?_))
    have eo' : oN B T mo s = oW B T n s := by
      by_cases z : s.1 = 0
      · exact eo z
      · rw [oN_f z, oW_f z]
    exact hQ 0 m1 (by omega) (f1.mono (by decide)) (by rw [eo']; exact h1) (fun z => by rw [eo'] at z; exact absurd z (oW_n (by omega)))
  by_cases e0 : s.1 = 0
  · obtain ⟨hT, m10, mb, m15, m16, b1, m17, ha, ht⟩ := id h
    obtain ⟨hp, k12, k11, q0, q1, q2, q3, q4⟩ := ht e0
    have k3 := tK_le B T s.2.2
    by_cases c1 : tK B T s.2.2 = 2
    · obtain ⟨m13, v, v1, v2, m14⟩ := q3 c1 rfl
      refine c_y (by rw [m13]; rfl) (c_le m14 rfl (by omega) (by omega) (fun e2 => ?_) (fun n2 => bad 2 (by decide) (by decide) (fun _ => ?_)))
      · have ev : v = tV B T s.2.2 := by omega
        have eo : oN B T mo s = oA B T s := by
          unfold oN; rw [if_pos (decide_eq_true c1), if_pos (decide_eq_true (by omega))]
        refine M_num29 h (fun _ m' f h' => ?_) (fun z => absurd e0 z)
        rw [m14]
        exact hQ v m' e2 f (by rw [eo]; exact h') (fun _ => ev)
      · unfold oN; rw [if_pos (decide_eq_true c1), if_neg]
        intro z; have := of_decide_eq_true z; omega
    · refine c_n ?_ (bad 1 (by decide) (by decide) (fun _ => ?_))
      · rcases (show tK B T s.2.2 = 0 ∨ tK B T s.2.2 = 1 ∨ tK B T s.2.2 = 3 by omega) with e | e | e
        · rw [q0 e]; decide
        · rw [q1 e]; decide
        · rw [(q4 e).2]; split <;> decide
      · unfold oN; rw [if_neg (fun z => c1 (of_decide_eq_true z))]
  · refine ⟨fun _ => ⟨fun _ => M_num29 h (fun z => absurd z e0) (fun _ => ?_), fun _ => bad 2 (by decide) (by decide) (fun z => absurd z e0)⟩, fun _ => bad 1 (by decide) (by decide) (fun z => absurd z e0)⟩
    exact hQ 0 m (by omega) Fr.rf (by rw [oN_f e0]; exact h) (fun z => absurd (ok_of (f := oN B T mo) oN_f z) e0)
theorem M_isRuleWord {m : Md} {B : Nat → Nat} {T a : Nat} {s : PS} (h : TM m B T a s) {Q : Int32 → Md → Prop} (h1 : s.1 = 0 → tO B T s.2.2 3 = true → Q 1 m) (h0 : (s.1 = 0 → tO B T s.2.2 3 = false) → Q 0 m) : qX12_isRuleWord m Q := by
  unfold qX12_isRuleWord
  refine M_good h (fun e0 => b_1' ?_) (fun e0 => b_0' (h0 (fun z => absurd z e0)))
  obtain ⟨hT, m10, mb, m15, m16, b1, m17, ha, ht⟩ := h
  obtain ⟨hp, k12, k11, q0, q1, q2, q3, q4⟩ := ht e0
  have g1 := h1 e0
  have g0 : tO B T s.2.2 3 = false → Q 0 m := fun z => h0 (fun _ => z)
  generalize s.2.2 = p at *
  have k3 := tK_le B T p
  have hE := tE_b (B := B) hp
  by_cases c1 : tK B T p = 1
  · refine c_y' (by rw [q1 c1]; rfl) ?_
    rw [k11 (by omega), k12, pk_sub hE.1]
    exact c_lt (a := 3) rfl rfl (by omega) (by omega) (fun e => g0 (by unfold tO; rw [decide_eq_false (show ¬ tE B T p - tF B T p ≤ 3 by omega), Bool.and_false])) (fun e => g1 (by unfold tO; rw [decide_eq_true c1, decide_eq_true (by omega)]; rfl))
  · refine c_n' ?_ (g0 (by unfold tO; rw [decide_eq_false c1]; rfl))
    rcases (show tK B T p = 0 ∨ tK B T p = 2 ∨ tK B T p = 3 by omega) with e | e | e
    · rw [q0 e]; decide
    · rcases (show a = 0 ∨ a = 1 by omega) with ea | ea
      · rw [q2 e ea]; decide
      · rw [(q3 e ea).1]; decide
    · rw [(q4 e).2]; split <;> decide
