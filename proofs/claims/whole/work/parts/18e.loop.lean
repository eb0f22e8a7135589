/-- where the lines begin -/
def aq (B : Nat → Nat) (T : Nat) : Nat → PS
  | 0 => (0, 0, 0)
  | i + 1 => oL B T (lnK B T (aq B T i).2.2 - 1) (aq B T i)
def lk (B : Nat → Nat) (T i : Nat) : Nat := lnK B T (aq B T i).2.2 - 1
def al (B : Nat → Nat) (T : Nat) : Nat → Nat → PS → Nat × PS
  | 0, r, s => (r, s)
  | n + 1, r, s => if s.1 ≠ 0 ∨ tK B T s.2.2 = 0 then (r, s) else if lnK B T s.2.2 = 0 then (r, oW B T 1 s) else if 12 ≤ r then (r, oW B T 3 s) else al B T n (r + 1) (oL B T (lnK B T s.2.2 - 1) s)
theorem al_e {B : Nat → Nat} {T n r : Nat} {s : PS} (h : s.1 ≠ 0 ∨ tK B T s.2.2 = 0) : al B T (n + 1) r s = (r, s) := if_pos h
theorem al_1 {B : Nat → Nat} {T n r : Nat} {s : PS} (h : ¬ (s.1 ≠ 0 ∨ tK B T s.2.2 = 0)) (h1 : lnK B T s.2.2 = 0) : al B T (n + 1) r s = (r, oW B T 1 s) := by
  show (if _ then _ else _) = _
  rw [if_neg h, if_pos h1]
theorem al_3 {B : Nat → Nat} {T n r : Nat} {s : PS} (h : ¬ (s.1 ≠ 0 ∨ tK B T s.2.2 = 0)) (h1 : ¬ lnK B T s.2.2 = 0) (hr : 12 ≤ r) : al B T (n + 1) r s = (r, oW B T 3 s) := by
  show (if _ then _ else _) = _
  rw [if_neg h, if_neg h1, if_pos hr]
theorem al_n {B : Nat → Nat} {T n r : Nat} {s : PS} (h : ¬ (s.1 ≠ 0 ∨ tK B T s.2.2 = 0)) (h1 : ¬ lnK B T s.2.2 = 0) (hr : ¬ 12 ≤ r) : al B T (n + 1) r s = al B T n (r + 1) (oL B T (lnK B T s.2.2 - 1) s) := by
  show (if _ then _ else _) = _
  rw [if_neg h, if_neg h1, if_neg hr]
theorem al_ok {B : Nat → Nat} {T : Nat} : ∀ n r, n + r = 13 → ((al B T n r (aq B T r)).2.1 = 0 → (al B T n r (aq B T r)).2 = aq B T (al B T n r (aq B T r)).1) := by
  intro n
  induction n with
  | zero => intro r hr _; rfl
  | succ n ih =>
    intro r hr
    by_cases h : (aq B T r).1 ≠ 0 ∨ tK B T (aq B T r).2.2 = 0
    · rw [al_e h]; exact fun _ => rfl
    · by_cases h1 : lnK B T (aq B T r).2.2 = 0
      · rw [al_1 h h1]; exact fun z => absurd z (oW_n (by decide))
      · by_cases h2 : 12 ≤ r
        · rw [al_3 h h1 h2]; exact fun z => absurd z (oW_n (by decide))
        · rw [al_n h h1 h2]; exact ih (r + 1) (by omega)
theorem al_12 {B : Nat → Nat} {T : Nat} : ∀ n r s, n + r = 12 → (al B T (n + 1) r s).1 ≤ 12 := by
  intro n
  induction n with
  | zero =>
    intro r s hr
    by_cases h : s.1 ≠ 0 ∨ tK B T s.2.2 = 0
    · rw [al_e h]; show r ≤ 12; omega
    · by_cases h1 : lnK B T s.2.2 = 0
      · rw [al_1 h h1]; show r ≤ 12; omega
      · rw [al_3 h h1 (by omega)]; show r ≤ 12; omega
  | succ n ih =>
    intro r s hr
    by_cases h : s.1 ≠ 0 ∨ tK B T s.2.2 = 0
    · rw [al_e h]; show r ≤ 12; omega
    · by_cases h1 : lnK B T s.2.2 = 0
      · rw [al_1 h h1]; show r ≤ 12; omega
      · by_cases h2 : 12 ≤ r
        · rw [al_3 h h1 h2]; show r ≤ 12; omega
        · rw [al_n h h1 h2]; exact ih (r + 1) _ (by omega)
theorem aq_ok {B : Nat → Nat} {T : Nat} : ∀ R i, (aq B T R).1 = 0 → i ≤ R → (aq B T i).1 = 0 := by
  intro R
  induction R with
  | zero => intro i h hi; rw [show i = 0 by omega]; exact h
  | succ R ih =>
    intro i h hi
    by_cases e : i = R + 1
    · rw [e]; exact h
    · exact ih i (ok_of (f := oL B T (lnK B T (aq B T R).2.2 - 1)) oL_f h) (by omega)
theorem aq_s {B : Nat → Nat} {T i : Nat} : aq B T (i + 1) = oL B T (lk B T i) (aq B T i) := rfl
/-! the class -/
def SmB (ac ac' : Md) (S : Nat) : Prop := (∀ i, i < 12 * S → gA ac' 4 i = gA ac 4 i ∧ gA ac' 5 i = gA ac 5 i ∧ gA ac' 6 i = gA ac 6 i ∧ gA ac' 7 i = gA ac 7 i) ∧ (∀ j, j < 48 * S → gZ ac' 8 j = gZ ac 8 j ∧ gA ac' 9 j = gA ac 9 j ∧ gA ac' 10 j = gA ac 10 j ∧ gA ac' 11 j = gA ac 11 j) ∧ ∀ j, j ≠ S → gZ ac' 3 j = gZ ac 3 j
theorem LnN.sm {ac ac' : Md} {l l' S k : Nat} {B : Nat → Nat} {T : Nat} {s : PS} (h : LnN ac l S k B T s) (hs : SmL ac ac' l' S) (hl : l < l') (hk : (oL B T k s).1 = 0) : LnN ac' l S k B T s := by
  obtain ⟨-, -, -, -, -, -, b4, -⟩ := ln_b hk
  obtain ⟨h1, h2, h3, h4, h5⟩ := h
  obtain ⟨g, g', -, g3⟩ := hs
  obtain ⟨g1, g2, g4, g5⟩ := g l (by omega)
  refine ⟨g1.trans h1, g2.trans h2, g4.trans h3, g5.trans h4, fun j hj => ?_⟩
  obtain ⟨p1, p2, p3, p4, p5⟩ := h5 j hj
  obtain ⟨d1, d2, d3, d4⟩ := g' (4 * l + j) (by omega)
  exact ⟨d1.trans p1, d2.trans p2, d3.trans p3, d4.trans p4, fun e => g3 (p5 e)⟩
abbrev LAN : List (Nat × Nat) := [(4, 3), (1, 4), (1, 5), (1, 6), (1, 7), (4, 8), (1, 9), (1, 10), (1, 11)]
def InA (ac0 ac : Md) (S : Nat) (B : Nat → Nat) (T r : Nat) : Prop := Fr LAN ac0 ac ∧ SmB ac0 ac S ∧ ∀ i, i < r → (aq B T (i + 1)).1 = 0 → LnN ac (12 * S + i) S (lk B T i) B T (aq B T i)
theorem N_al {ac0 : Md} {B : Nat → Nat} {T S : Nat} {x : Int32} (hS : S < 8) (s6 : gF ac0 0 = nI S) {Q : Int32 → Md → Md → Prop} : ∀ n r ac tp, n + r = 12 → TN tp B T (aq B T r) → InA ac0 ac S B T r → (∀ r' s' ac' tp', al B T (n + 1) r (aq B T r) = (r', s') → TN tp' B T s' → InA ac0 ac' S B T r' → qX0_readAct_92 Q ac' tp' x (nI r')) → qX0_readAct_19 Q (n + 2) ac tp x (nI r) (nI r) := by
  intro n
  induction n with
  | zero =>
    intro r ac tp hr h hI hE
    obtain rfl : r = 12 := by omega
    obtain ⟨hT, t1, tb, t2, t3, b1, p, hp, he, y4, y5, y6, y7⟩ := id h
    have k3 := tK_le B T p
    unfold qX0_readAct_19
    refine c_n (by decide) ?_
    unfold qX9_goesOn
    by_cases hf : (aq B T 12).1 = 0
    · have ep := he hf
      refine c_eq (b := 0) y6 rfl (by omega) (by decide) (fun e0 => b_0' (hE 12 _ ac tp (al_e (Or.inr (by rw [← ep]; exact e0))) h hI)) (fun n0 => c_y' (by rw [t2, hf]; rfl) (b_1' ?_))
      have hg : ¬ ((aq B T 12).1 ≠ 0 ∨ tK B T (aq B T 12).2.2 = 0) := by rw [← ep]; omega
      refine N_kindOfLine h (fun e => ⟨fun z => absurd rfl z, fun _ => N_blame (n := 1) h (by decide) (by decide) (fun tp' h' => ?_)⟩) (fun k hk e => ⟨fun _ => c_n (by decide) (N_blame (n := 3) h (by decide) (by decide) (fun tp' h' => ?_)), fun z => absurd z (nI_m1 (by omega))⟩)
      · unfold qX0_readAct_19
        exact c_y (by decide) (hE 12 _ ac tp' (al_1 hg (e hf)) h' hI)
      · unfold qX0_readAct_19
        exact c_y (by decide) (hE 12 _ ac tp' (al_3 hg (by rw [e hf]; omega) (by decide)) h' hI)
    · have fin := hE 12 _ ac tp (al_e (Or.inl hf)) h hI
      exact ⟨fun _ => b_0' fin, fun _ => c_n' (fun z => hf ((nI_eq (b := 0) (by omega) (by decide)).1 (t2.symm.trans z))) (b_0' fin)⟩
  | succ n ih =>
    intro r ac tp hr h hI hE
    obtain ⟨hT, t1, tb, t2, t3, b1, p, hp, he, y4, y5, y6, y7⟩ := id h
    have k3 := tK_le B T p
    unfold qX0_readAct_19
    refine c_n (nI_nlt (a := 12) (by omega) (by decide)) ?_
    unfold qX9_goesOn
    by_cases hf : (aq B T r).1 = 0
    · have ep := he hf
      refine c_eq (b := 0) y6 rfl (by omega) (by decide) (fun e0 => b_0' (hE r _ ac tp (al_e (Or.inr (by rw [← ep]; exact e0))) h hI)) (fun n0 => c_y' (by rw [t2, hf]; rfl) (b_1' ?_))
      have hg : ¬ ((aq B T r).1 ≠ 0 ∨ tK B T (aq B T r).2.2 = 0) := by rw [← ep]; omega
      refine N_kindOfLine h (fun e => ⟨fun z => absurd rfl z, fun _ => N_blame (n := 1) h (by decide) (by decide) (fun tp' h' => ?_)⟩) (fun k hk e => ⟨fun _ => ?_, fun z => absurd z (nI_m1 (by omega))⟩)
      · rw [ofI1, nI_add]
        unfold qX0_readAct_19
        have fin := hE r _ ac tp' (al_1 hg (e hf)) h' hI
        have hn : (oW B T 1 (aq B T r)).1 ≠ 0 := oW_n (by decide)
        refine ⟨fun _ => fin, fun _ => ?_⟩
        unfold qX9_goesOn
        obtain ⟨-, -, -, t2', -, b1', -⟩ := h'
        exact ⟨fun _ => b_0' fin, fun _ => c_n' (fun z => hn ((nI_eq (b := 0) (by omega) (by decide)).1 (t2'.symm.trans z))) (b_0' fin)⟩
      · obtain ⟨fr, sa, hv⟩ := hI
        have ek : lk B T r = k := by unfold lk; rw [e hf]; rfl
        rw [fr.1 0 (by decide), s6, nl_12, pk_mul, nI_add, Nat.mul_comm S 12, ofI1, nI_add]
        refine c_y (nI_lt (by omega) (by decide)) (N_readLine (by omega) hS hk (by rw [fr.1 0 (by decide)]; exact s6) h (fun ac' tp' fs sm ht hr' => ?_))
        have es : aq B T (r + 1) = oL B T k (aq B T r) := by rw [aq_s, ek]
        refine ih (r + 1) ac' tp' (by omega) (by rw [es]; exact ht) ⟨fr.tr (fs.mono (by decide)), ⟨fun i hi => ?_, fun i hi => ?_, fun i hi => ?_⟩, fun i hi hk' => ?_⟩ (fun r' s' ac' tp' e' => hE r' s' ac' tp' ?_)
        · obtain ⟨a1, a2, a3, a4⟩ := sm.1 i (by omega)
          obtain ⟨d1, d2, d3, d4⟩ := sa.1 i hi
          exact ⟨a1.trans d1, a2.trans d2, a3.trans d3, a4.trans d4⟩
        · obtain ⟨a1, a2, a3, a4⟩ := sm.2.1 i (by omega)
          obtain ⟨d1, d2, d3, d4⟩ := sa.2.1 i hi
          exact ⟨a1.trans d1, a2.trans d2, a3.trans d3, a4.trans d4⟩
        · exact (sm.2.2.1 i hi).trans (sa.2.2 i hi)
        · by_cases ei : i = r
          · rw [ei, ek]; rw [ei, es] at hk'; exact hr' hk'
          · exact (hv i (by omega) hk').sm sm (by omega) hk'
        · rw [al_n hg (by rw [e hf]; omega) (by omega)]; exact e'
    · have fin := hE r _ ac tp (al_e (Or.inl hf)) h hI
      exact ⟨fun _ => b_0' fin, fun _ => c_n' (fun z => hf ((nI_eq (b := 0) (by omega) (by decide)).1 (t2.symm.trans z))) (b_0' fin)⟩
/-! the reference -/
theorem LnM.sm {V V' : Nat → Int32} {l l' k : Nat} {B : Nat → Nat} {T : Nat} {s : PS} (h : LnM V l k B T s) (hs : ∀ i, i < l' → V' i = V i) (hl : l + 24 ≤ l') (hk : (oL B T k s).1 = 0) : LnM V' l k B T s := by
  obtain ⟨-, -, -, -, -, -, b4, -⟩ := ln_b hk
  obtain ⟨h1, h2, h3, h4, h5⟩ := h
  refine ⟨by rw [hs _ (by omega)]; exact h1, by rw [hs _ (by omega)]; exact h2, by rw [hs _ (by omega)]; exact h3, by rw [hs _ (by omega)]; exact h4, fun j hj => ?_⟩
  obtain ⟨p1, p2, p3, p4, p5⟩ := h5 j hj
  exact ⟨by rw [hs _ (by omega)]; exact p1, by rw [hs _ (by omega)]; exact p2, by rw [hs _ (by omega)]; exact p3, by rw [hs _ (by omega)]; exact p4, by rw [hs _ (by omega)]; exact p5⟩
theorem M_al {m0 : Md} {B : Nat → Nat} {T : Nat} {Q : Int32 → Md → Prop} : ∀ n r m, n + r = 12 → TM m B T 1 (aq B T r) → Fr LT m0 m → (∀ i, i < r → (aq B T (i + 1)).1 = 0 → LnM (gA m 18) (2 + 24 * i) (lk B T i) B T (aq B T i)) → (∀ r' s' m', al B T (n + 1) r (aq B T r) = (r', s') → TM m' B T 1 s' → Fr LT m0 m' → (∀ i, i < r' → (aq B T (i + 1)).1 = 0 → LnM (gA m' 18) (2 + 24 * i) (lk B T i) B T (aq B T i)) → qX12_act_88 Q m' (nI r')) → qX12_act_21 Q (n + 2) m (nI r) := by
  intro n
  induction n with
  | zero =>
    intro r m hr h fr hv hE
    obtain rfl : r = 12 := by omega
    unfold qX12_act_21
    refine M_good h (fun e0 => b_1' ?_) (fun e0 => b_0' (hE 12 _ m (al_e (Or.inl e0)) h fr hv))
    obtain ⟨hp, -, -, q0, q1, q2, q3, q4⟩ := h.2.2.2.2.2.2.2.2 e0
    have k3 := tK_le B T (aq B T 12).2.2
    by_cases ek : tK B T (aq B T 12).2.2 = 0
    · exact c_y (by rw [q0 ek]; rfl) (hE 12 _ m (al_e (Or.inr ek)) h fr hv)
    · refine c_n ?_ ?_
      · rcases (show tK B T (aq B T 12).2.2 = 1 ∨ tK B T (aq B T 12).2.2 = 2 ∨ tK B T (aq B T 12).2.2 = 3 by omega) with e | e | e
        · rw [q1 e]; decide
        · rw [(q3 e rfl).1]; decide
        · rw [(q4 e).2]; split <;> decide
      have hg : ¬ ((aq B T 12).1 ≠ 0 ∨ tK B T (aq B T 12).2.2 = 0) := by omega
      have bad : ∀ m1 k, 1 ≤ k → al B T (0 + 1) 12 (aq B T 12) = (12, oW B T k (aq B T 12)) → Fr [(0, 15), (0, 16)] m m1 → TM m1 B T 1 (oW B T k (aq B T 12)) → qX12_act_62 Q (qX12_act_21 Q 1) m1 (nI 12) := by
        intro m1 k hk e1 f1 h1
        unfold qX12_act_62
        exact M_good h1 (fun z => absurd z (oW_n (by omega))) (fun _ => b_0 (hE 12 _ m1 e1 h1 (fr.tr (f1.mono (by decide))) (by rw [f1.2.1 18 (by decide)]; exact hv)))
      exact M_sortHere h (fun e => ⟨fun z => absurd rfl z, fun _ => M_wrong (n := 1) h (by decide) (by decide) (fun m1 f1 h1 => bad m1 1 (by decide) (al_1 hg (e e0)) f1 h1)⟩) (fun k hk _ e => ⟨fun _ => c_y' rfl (M_wrong (n := 3) h (by decide) (by decide) (fun m1 f1 h1 => bad m1 3 (by decide) (al_3 hg (by omega) (by decide)) f1 h1)), fun z => absurd z (nI_m1 (by omega))⟩)
  | succ n ih =>
    intro r m hr h fr hv hE
    unfold qX12_act_21
    refine M_good h (fun e0 => b_1' ?_) (fun e0 => b_0' (hE r _ m (al_e (Or.inl e0)) h fr hv))
    obtain ⟨hp, -, -, q0, q1, q2, q3, q4⟩ := h.2.2.2.2.2.2.2.2 e0
    have k3 := tK_le B T (aq B T r).2.2
    by_cases ek : tK B T (aq B T r).2.2 = 0
    · exact c_y (by rw [q0 ek]; rfl) (hE r _ m (al_e (Or.inr ek)) h fr hv)
    · refine c_n ?_ ?_
      · rcases (show tK B T (aq B T r).2.2 = 1 ∨ tK B T (aq B T r).2.2 = 2 ∨ tK B T (aq B T r).2.2 = 3 by omega) with e | e | e
        · rw [q1 e]; decide
        · rw [(q3 e rfl).1]; decide
        · rw [(q4 e).2]; split <;> decide
      have hg : ¬ ((aq B T r).1 ≠ 0 ∨ tK B T (aq B T r).2.2 = 0) := by omega
      refine M_sortHere h (fun e => ⟨fun z => absurd rfl z, fun _ => M_wrong (n := 1) h (by decide) (by decide) (fun m1 f1 h1 => ?_)⟩) (fun k hk _ e => ⟨fun _ => ?_, fun z => absurd z (nI_m1 (by omega))⟩)
      · unfold qX12_act_62
        exact M_good h1 (fun z => absurd z (oW_n (by omega))) (fun _ => b_0 (hE r _ m1 (al_1 hg (e e0)) h1 (fr.tr (f1.mono (by decide))) (by rw [f1.2.1 18 (by decide)]; exact hv)))
      · refine c_n' (fun z => absurd ((nI_eq (b := 12) (by omega) (by decide)).1 z) (by omega)) ?_
        unfold qX12_act_62
        refine M_good h (fun _ => b_1 ?_) (fun z => absurd e0 z)
        have elk : lk B T r = k := by unfold lk; rw [e]; rfl
        have es : aq B T (r + 1) = oL B T k (aq B T r) := by rw [aq_s, elk]
        rw [nl_24, nl_2, pk_mul, nI_add, ofI1, nI_add]
        refine M_line (l := 2 + 24 * r) (by omega) hk h e0 e (fun m' f' h' g' v' => ?_)
        refine ih (r + 1) m' (by omega) (by rw [es]; exact h') (fr.tr f') (fun i hi hk' => ?_) (fun r' s' m' e' => hE r' s' m' (by rw [al_n hg (by omega) (by omega)]; exact e'))
        by_cases ei : i = r
        · rw [ei, elk]; rw [ei, es] at hk'; exact v' hk'
        · exact (hv i (by omega) hk').sm (l' := 2 + 24 * r) (fun j hj => g' j (Or.inl hj)) (by omega) hk'
