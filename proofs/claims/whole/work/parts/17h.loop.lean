/-- where the rules begin -/
def sq (B : Nat → Nat) (T : Nat) : Nat → PS
  | 0 => (0, 0, 0)
  | i + 1 => oU B T (sq B T i)
def lo (B : Nat → Nat) (T : Nat) : Nat → Nat → PS → Nat × PS
  | 0, r, s => (r, s)
  | n + 1, r, s => if s.1 ≠ 0 ∨ tK B T s.2.2 = 0 then (r, s) else if (tW B T s.2.2 0 || tO B T s.2.2 3) = false then (r, oW B T 1 s) else if 16 ≤ r then (r, oW B T 3 s) else lo B T n (r + 1) (oU B T s)
theorem lo_e {B : Nat → Nat} {T n r : Nat} {s : PS} (h : s.1 ≠ 0 ∨ tK B T s.2.2 = 0) : lo B T (n + 1) r s = (r, s) := if_pos h
theorem lo_1 {B : Nat → Nat} {T n r : Nat} {s : PS} (h : ¬ (s.1 ≠ 0 ∨ tK B T s.2.2 = 0)) (h1 : (tW B T s.2.2 0 || tO B T s.2.2 3) = false) : lo B T (n + 1) r s = (r, oW B T 1 s) := by
  show (if _ then _ else _) = _
  rw [if_neg h, if_pos h1]
theorem lo_3 {B : Nat → Nat} {T n r : Nat} {s : PS} (h : ¬ (s.1 ≠ 0 ∨ tK B T s.2.2 = 0)) (h1 : (tW B T s.2.2 0 || tO B T s.2.2 3) = true) (hr : 16 ≤ r) : lo B T (n + 1) r s = (r, oW B T 3 s) := by
  show (if _ then _ else _) = _
  rw [if_neg h, if_neg (by rw [h1]; decide), if_pos hr]
theorem lo_n {B : Nat → Nat} {T n r : Nat} {s : PS} (h : ¬ (s.1 ≠ 0 ∨ tK B T s.2.2 = 0)) (h1 : (tW B T s.2.2 0 || tO B T s.2.2 3) = true) (hr : ¬ 16 ≤ r) : lo B T (n + 1) r s = lo B T n (r + 1) (oU B T s) := by
  show (if _ then _ else _) = _
  rw [if_neg h, if_neg (by rw [h1]; decide), if_neg hr]
theorem lo_ok {B : Nat → Nat} {T : Nat} : ∀ n r, n + r = 17 → (lo B T n r (sq B T r)).1 ≤ 17 ∧ ((lo B T n r (sq B T r)).2.1 = 0 → (lo B T n r (sq B T r)).2 = sq B T (lo B T n r (sq B T r)).1) := by
  intro n
  induction n with
  | zero => intro r hr; exact ⟨by show r ≤ 17; omega, fun _ => rfl⟩
  | succ n ih =>
    intro r hr
    by_cases h : (sq B T r).1 ≠ 0 ∨ tK B T (sq B T r).2.2 = 0
    · rw [lo_e h]; exact ⟨by show r ≤ 17; omega, fun _ => rfl⟩
    · cases h1 : (tW B T (sq B T r).2.2 0 || tO B T (sq B T r).2.2 3) with
      | false => rw [lo_1 h h1]; exact ⟨by show r ≤ 17; omega, fun z => absurd z (oW_n (by decide))⟩
      | true =>
        by_cases h2 : 16 ≤ r
        · rw [lo_3 h h1 h2]; exact ⟨by show r ≤ 17; omega, fun z => absurd z (oW_n (by decide))⟩
        · rw [lo_n h h1 h2]; exact ih (r + 1) (by omega)
theorem lo_16 {B : Nat → Nat} {T : Nat} : ∀ n r s, n + r = 16 → (lo B T (n + 1) r s).1 ≤ 16 := by
  intro n
  induction n with
  | zero =>
    intro r s hr
    by_cases h : s.1 ≠ 0 ∨ tK B T s.2.2 = 0
    · rw [lo_e h]; show r ≤ 16; omega
    · cases h1 : (tW B T s.2.2 0 || tO B T s.2.2 3) with
      | false => rw [lo_1 h h1]; show r ≤ 16; omega
      | true => rw [lo_3 h h1 (by omega)]; show r ≤ 16; omega
  | succ n ih =>
    intro r s hr
    by_cases h : s.1 ≠ 0 ∨ tK B T s.2.2 = 0
    · rw [lo_e h]; show r ≤ 16; omega
    · cases h1 : (tW B T s.2.2 0 || tO B T s.2.2 3) with
      | false => rw [lo_1 h h1]; show r ≤ 16; omega
      | true =>
        by_cases h2 : 16 ≤ r
        · rw [lo_3 h h1 h2]; show r ≤ 16; omega
        · rw [lo_n h h1 h2]; exact ih (r + 1) _ (by omega)
theorem sq_ok {B : Nat → Nat} {T : Nat} : ∀ R i, (sq B T R).1 = 0 → i ≤ R → (sq B T i).1 = 0 := by
  intro R
  induction R with
  | zero => intro i h hi; rw [show i = 0 by omega]; exact h
  | succ R ih =>
    intro i h hi
    by_cases e : i = R + 1
    · rw [e]; exact h
    · exact ih i (ok_of (f := oU B T) oU_f h) (by omega)
theorem sq_l {B : Nat → Nat} {T : Nat} : ∀ i, (sq B T i).2.2 ≤ T := by
  intro i
  induction i with
  | zero => show 0 ≤ T; omega
  | succ i ih => exact oU_l ih
/-! the class -/
def SmA (sp sp' : Md) (S : Nat) : Prop := (∀ i, i < 16 * S → gA sp' 10 i = gA sp 10 i ∧ gA sp' 11 i = gA sp 11 i ∧ gA sp' 12 i = gA sp 12 i ∧ gA sp' 13 i = gA sp 13 i) ∧ ∀ i, i < 48 * S → gB sp' 14 i = gB sp 14 i ∧ gB sp' 15 i = gB sp 15 i
theorem RuN.sm {sp sp' : Md} {q q' : Nat} {B : Nat → Nat} {T : Nat} {s : PS} (h : RuN sp q B T s) (hs : SmN sp sp' q') (hq : q < q') (hk : (oU B T s).1 = 0) (hp : s.2.2 ≤ T) : RuN sp' q B T s := by
  obtain ⟨-, -, -, b1, -, b2, -⟩ := ru_b hk hp
  obtain ⟨h1, h2, h3, h4, h5, h6⟩ := h
  obtain ⟨g, g'⟩ := hs
  obtain ⟨g1, g2, g3, g4⟩ := g q (by omega)
  refine ⟨g1.trans h1, g2.trans h2, g3.trans h3, g4.trans h4, fun j hj => ?_, fun j hj => ?_⟩
  · rw [(g' (3 * q + j) (by omega)).1]; exact h5 j hj
  · rw [(g' (3 * q + j) (by omega)).2]; exact h6 j hj
def InN (sp0 sp : Md) (S : Nat) (B : Nat → Nat) (T r : Nat) : Prop := Fr [(1, 10), (1, 11), (1, 12), (1, 13), (3, 14), (3, 15)] sp0 sp ∧ SmA sp0 sp S ∧ ∀ i, i < r → (sq B T (i + 1)).1 = 0 → RuN sp (16 * S + i) B T (sq B T i)
theorem N_lo {sp0 : Md} {B : Nat → Nat} {T S : Nat} {x y : Int32} (hS : S < 12) (s6 : gF sp0 6 = nI S) {Q : Int32 → Md → Md → Prop} : ∀ n r sp tp, n + r = 16 → TN tp B T (sq B T r) → InN sp0 sp S B T r → (∀ r' s' sp' tp', lo B T (n + 1) r (sq B T r) = (r', s') → TN tp' B T s' → InN sp0 sp' S B T r' → qX7_readSpelling_88 Q sp' tp' x y (nI r')) → qX7_readSpelling_10 Q (n + 2) sp tp x y (nI r) (nI r) := by
  intro n
  induction n with
  | zero =>
    intro r sp tp hr h hI hE
    obtain rfl : r = 16 := by omega
    obtain ⟨hT, t1, tb, t2, t3, b1, p, hp, he, y4, y5, y6, y7⟩ := id h
    have k3 := tK_le B T p
    unfold qX7_readSpelling_10
    refine c_n (by decide) ?_
    unfold qX9_goesOn
    by_cases hf : (sq B T 16).1 = 0
    · have ep := he hf
      refine c_eq (b := 0) y6 rfl (by omega) (by decide) (fun e0 => b_0' (hE 16 _ sp tp (lo_e (Or.inr (by rw [← ep]; exact e0))) h hI)) (fun n0 => c_y' (by rw [t2, hf]; rfl) (b_1' ?_))
      have hg : ¬ ((sq B T 16).1 ≠ 0 ∨ tK B T (sq B T 16).2.2 = 0) := by rw [← ep]; omega
      have k49 : (tW B T (sq B T 16).2.2 0 || tO B T (sq B T 16).2.2 3) = true → qX7_readSpelling_49 Q (qX7_readSpelling_10 Q 1) sp tp x y (nI 16) (nI 16) := by
        intro hw
        unfold qX7_readSpelling_49
        refine c_n (by decide) (N_blame (n := 3) h (by decide) (by decide) (fun tp' h' => ?_))
        unfold qX7_readSpelling_10
        exact c_y (by decide) (hE 16 _ sp tp' (lo_3 hg hw (by decide)) h' hI)
      refine N_isWord (k := 0) (by decide) h (fun e => b_1 (k49 (by rw [e hf]; rfl))) (fun e => b_0 ?_)
      refine N_isWordOf (c := 3) (by decide) h (fun e2 _ => b_1 (k49 (by rw [e2 hf, Bool.or_true]))) (fun e2 => b_0 (N_blame (n := 1) h (by decide) (by decide) (fun tp' h' => ?_)))
      unfold qX7_readSpelling_10
      exact c_y (by decide) (hE 16 _ sp tp' (lo_1 hg (by rw [e hf, e2 hf]; rfl)) h' hI)
    · have fin := hE 16 _ sp tp (lo_e (Or.inl hf)) h hI
      exact ⟨fun _ => b_0' fin, fun _ => c_n' (fun z => hf ((nI_eq (b := 0) (by omega) (by decide)).1 (t2.symm.trans z))) (b_0' fin)⟩
  | succ n ih =>
    intro r sp tp hr h hI hE
    obtain ⟨hT, t1, tb, t2, t3, b1, p, hp, he, y4, y5, y6, y7⟩ := id h
    have k3 := tK_le B T p
    unfold qX7_readSpelling_10
    refine c_n (nI_nlt (a := 16) (by omega) (by decide)) ?_
    unfold qX9_goesOn
    by_cases hf : (sq B T r).1 = 0
    · have ep := he hf
      refine c_eq (b := 0) y6 rfl (by omega) (by decide) (fun e0 => b_0' (hE r _ sp tp (lo_e (Or.inr (by rw [← ep]; exact e0))) h hI)) (fun n0 => c_y' (by rw [t2, hf]; rfl) (b_1' ?_))
      have hg : ¬ ((sq B T r).1 ≠ 0 ∨ tK B T (sq B T r).2.2 = 0) := by rw [← ep]; omega
      have k49 : (tW B T (sq B T r).2.2 0 || tO B T (sq B T r).2.2 3) = true → qX7_readSpelling_49 Q (qX7_readSpelling_10 Q (n + 2)) sp tp x y (nI r) (nI r) := by
        intro hw
        obtain ⟨fr, sa, hv⟩ := hI
        unfold qX7_readSpelling_49
        rw [fr.1 6 (by decide), s6, nl_16, pk_mul, nI_add, Nat.mul_comm S 16, ofI1, nI_add]
        refine c_y (nI_lt (by omega) (by decide)) (N_readRule (by omega) h (sq_l r) (fun sp' tp' fs sm ht hr' => ?_))
        refine ih (r + 1) sp' tp' (by omega) ht ⟨fr.tr fs, ⟨fun i hi => ?_, fun i hi => ?_⟩, fun i hi hk => ?_⟩ (fun r' s' sp' tp' e => hE r' s' sp' tp' (by rw [lo_n hg hw (by omega)]; exact e))
        · obtain ⟨a1, a2, a3, a4⟩ := sm.1 i (by omega)
          obtain ⟨d1, d2, d3, d4⟩ := sa.1 i hi
          exact ⟨a1.trans d1, a2.trans d2, a3.trans d3, a4.trans d4⟩
        · obtain ⟨a1, a2⟩ := sm.2 i (by omega)
          obtain ⟨d1, d2⟩ := sa.2 i hi
          exact ⟨a1.trans d1, a2.trans d2⟩
        · by_cases ei : i = r
          · rw [ei]; rw [ei] at hk; exact hr' hk
          · exact (hv i (by omega) hk).sm sm (by omega) hk (sq_l i)
      have back : ∀ tp' s', lo B T (n + 1 + 1) r (sq B T r) = (r, s') → TN tp' B T s' → s'.1 ≠ 0 → qX7_readSpelling_10 Q (n + 2) sp tp' x y (nI r) (nI r + Int32.ofInt 1) := by
        intro tp' s' e1 h' hn
        rw [ofI1, nI_add]
        unfold qX7_readSpelling_10
        have fin := hE r s' sp tp' e1 h' hI
        refine ⟨fun _ => fin, fun _ => ?_⟩
        unfold qX9_goesOn
        obtain ⟨-, -, -, t2', -, b1', -⟩ := h'
        exact ⟨fun _ => b_0' fin, fun _ => c_n' (fun z => hn ((nI_eq (b := 0) (by omega) (by decide)).1 (t2'.symm.trans z))) (b_0' fin)⟩
      refine N_isWord (k := 0) (by decide) h (fun e => b_1 (k49 (by rw [e hf]; rfl))) (fun e => b_0 ?_)
      refine N_isWordOf (c := 3) (by decide) h (fun e2 _ => b_1 (k49 (by rw [e2 hf, Bool.or_true]))) (fun e2 => b_0 (N_blame (n := 1) h (by decide) (by decide) (fun tp' h' => ?_)))
      exact back tp' _ (lo_1 hg (by rw [e hf, e2 hf]; rfl)) h' (oW_n (by decide))
    · have fin := hE r _ sp tp (lo_e (Or.inl hf)) h hI
      exact ⟨fun _ => b_0' fin, fun _ => c_n' (fun z => hf ((nI_eq (b := 0) (by omega) (by decide)).1 (t2.symm.trans z))) (b_0' fin)⟩
theorem N_begin {tp : Md} {B : Nat → Nat} {T : Nat} (hT : T ≤ 500) (t1 : gF tp 1 = nI T) (tb : ∀ j, j < T → byn (gB tp 0 j) = B j) {Q : Md → Prop} (hQ : ∀ tp', TN tp' B T (0, 0, 0) → Q tp') : qX9_begin tp Q := by
  unfold qX9_begin
  intro w hw w2 hw2 w3 hw3
  refine N_adv0 (q := 0) (B := B) hT (by rw [hw3, hw2, hw]; exact t1) (by rw [hw3, hw2, hw]; exact tb) (Nat.zero_le _) (by rw [hw3]; rfl) (fun tp' fr hk => hQ tp' ⟨hT, ?_, ?_, ?_, ?_, by show 0 ≤ 3; omega, 0, Nat.zero_le _, fun _ => rfl, hk⟩)
  · rw [fr.1 1 (by decide), hw3, hw2, hw]; exact t1
  · rw [fr.2.2.2.1 0 (by decide), hw3, hw2, hw]; exact tb
  · rw [fr.1 2 (by decide), hw3, hw2, hw]; rfl
  · rw [fr.1 3 (by decide), hw3, hw2, hw]; rfl
/-! the reference -/
theorem M_begins {m : Md} {B : Nat → Nat} {T a : Nat} (hT : T ≤ 500) (ha : a ≤ 1) (m5 : gF m 5 = nI T) (mb : ∀ j, j < T → byn (gB m 4 j) = B j) {Q : Md → Prop} (hQ : ∀ m', Fr [(0, 5), (0, 10), (0, 11), (0, 12), (0, 13), (0, 14), (0, 15), (0, 16), (0, 17)] m m' → gF m' 5 = nI 0 → TM m' B T a (0, 0, 0) → Q m') : qX12_begins m (nI a) Q := by
  unfold qX12_begins
  refine ⟨?_, fun w1 h1 w2 h2 w3 h3 w4 h4 w5 h5 w6 h6 => ?_⟩
  · rcases (show a = 0 ∨ a = 1 by omega) with e | e
    · rw [e]; exact Or.inl rfl
    · rw [e]; exact Or.inr rfl
  have fw : Fr [(0, 5), (0, 10), (0, 11), (0, 12), (0, 13), (0, 14), (0, 15), (0, 16), (0, 17)] m w6 := by
    rw [h6, h5, h4, h3, h2, h1]
    exact Fr.tr (Fr.tr (Fr.tr (Fr.tr (Fr.tr (Fr.sF 17 _ (by decide)) (Fr.sF 10 _ (by decide))) (Fr.sF 5 _ (by decide))) (Fr.sF 11 _ (by decide))) (Fr.sF 15 _ (by decide))) (Fr.sF 16 _ (by decide))
  have x10 : gF w6 10 = nI T := by rw [h6, h5, h4, h3, h2, h1]; exact m5
  have x17 : gF w6 17 = nI a := by rw [h6, h5, h4, h3, h2, h1]; rfl
  have xb : ∀ j, j < T → byn (gB w6 4 j) = B j := by rw [fw.2.2.2.1 4 (by decide)]; exact mb
  refine M_next0 (q := 0) hT x10 xb x17 ha (Nat.zero_le _) (by rw [h6, h5, h4]; rfl) (fun m' fr hk => hQ m' (fw.tr (fr.mono (by decide))) (by rw [fr.1 5 (by decide), h6, h5, h4, h3]; rfl) ⟨hT, (fr.1 10 (by decide)).trans x10, by rw [fr.2.2.2.1 4 (by decide)]; exact xb, ?_, ?_, by show 0 ≤ 3; omega, (fr.1 17 (by decide)).trans x17, ha, fun _ => ⟨Nat.zero_le _, hk⟩⟩)
  · rw [fr.1 15 (by decide), h6, h5]; rfl
  · rw [fr.1 16 (by decide), h6]; rfl
theorem RuM.sm {V V' : Nat → Int32} {x x' : Nat} {B : Nat → Nat} {T : Nat} {s : PS} (h : RuM V x B T s) (hs : ∀ i, i < x' → V' i = V i) (hx : x + 12 ≤ x') (hk : (oU B T s).1 = 0) (hp : s.2.2 ≤ T) : RuM V' x B T s := by
  obtain ⟨-, -, -, b1, -, b2, -⟩ := ru_b hk hp
  obtain ⟨h1, h2, h3, h4, h5, h6, h7, h8⟩ := h
  refine ⟨by rw [hs _ (by omega)]; exact h1, by rw [hs _ (by omega)]; exact h2, by rw [hs _ (by omega)]; exact h3, fun j hj => by rw [hs _ (by omega)]; exact h4 j hj, by rw [hs _ (by omega)]; exact h5, fun j hj => by rw [hs _ (by omega)]; exact h6 j hj, by rw [hs _ (by omega)]; exact h7, by rw [hs _ (by omega)]; exact h8⟩
theorem M_lo {m0 : Md} {B : Nat → Nat} {T : Nat} {x : Int32} {Q : Int32 → Md → Prop} : ∀ n r m, n + r = 16 → TM m B T 0 (sq B T r) → Fr LT m0 m → (∀ i, i < r → (sq B T (i + 1)).1 = 0 → RuM (gA m 18) (3 + 12 * i) B T (sq B T i)) → (∀ r' s' m', lo B T (n + 1) r (sq B T r) = (r', s') → TM m' B T 0 s' → Fr LT m0 m' → (∀ i, i < r' → (sq B T (i + 1)).1 = 0 → RuM (gA m' 18) (3 + 12 * i) B T (sq B T i)) → qX12_spelling_106 Q m' x (nI r')) → qX12_spelling_31 Q (n + 2) m x (nI r) := by
  intro n
  induction n with
  | zero =>
    intro r m hr h fr hv hE
    obtain rfl : r = 16 := by omega
    unfold qX12_spelling_31
    refine M_good h (fun e0 => b_1' ?_) (fun e0 => b_0' (hE 16 _ m (lo_e (Or.inl e0)) h fr hv))
    obtain ⟨hp, -, -, q0, q1, q2, q3, q4⟩ := h.2.2.2.2.2.2.2.2 e0
    have k3 := tK_le B T (sq B T 16).2.2
    by_cases ek : tK B T (sq B T 16).2.2 = 0
    · exact c_y (by rw [q0 ek]; rfl) (hE 16 _ m (lo_e (Or.inr ek)) h fr hv)
    · refine c_n ?_ ?_
      · rcases (show tK B T (sq B T 16).2.2 = 1 ∨ tK B T (sq B T 16).2.2 = 2 ∨ tK B T (sq B T 16).2.2 = 3 by omega) with e | e | e
        · rw [q1 e]; decide
        · rw [q2 e rfl]; decide
        · rw [(q4 e).2]; split <;> decide
      have hg : ¬ ((sq B T 16).1 ≠ 0 ∨ tK B T (sq B T 16).2.2 = 0) := by omega
      have bad : ∀ m1 k, 1 ≤ k → lo B T (0 + 1) 16 (sq B T 16) = (16, oW B T k (sq B T 16)) → Fr [(0, 15), (0, 16)] m m1 → TM m1 B T 0 (oW B T k (sq B T 16)) → qX12_spelling_80 Q (qX12_spelling_31 Q 1) m1 x (nI 16) := by
        intro m1 k hk e1 f1 h1
        unfold qX12_spelling_80
        exact M_good h1 (fun z => absurd z (oW_n (by omega))) (fun _ => b_0 (hE 16 _ m1 e1 h1 (fr.tr (f1.mono (by decide))) (by rw [f1.2.1 18 (by decide)]; exact hv)))
      have k69 : (tW B T (sq B T 16).2.2 0 || tO B T (sq B T 16).2.2 3) = true → qX12_spelling_69 Q (qX12_spelling_31 Q 1) m x (nI 16) := by
        intro hw
        unfold qX12_spelling_69
        exact c_y' rfl (M_wrong (n := 3) h (by decide) (by decide) (fun m1 f1 h1 => bad m1 3 (by decide) (lo_3 hg hw (by decide)) f1 h1))
      refine M_is (k := 0) (by decide) h (fun _ e => b_1 (k69 (by rw [e]; rfl))) (fun e => b_0 ?_)
      exact M_isRuleWord h (fun _ e2 => b_1 (k69 (by rw [e2, Bool.or_true]))) (fun e2 => b_0 (M_wrong (n := 1) h (by decide) (by decide) (fun m1 f1 h1 => bad m1 1 (by decide) (lo_1 hg (by rw [e e0, e2 e0]; rfl)) f1 h1)))
  | succ n ih =>
    intro r m hr h fr hv hE
    unfold qX12_spelling_31
    refine M_good h (fun e0 => b_1' ?_) (fun e0 => b_0' (hE r _ m (lo_e (Or.inl e0)) h fr hv))
    obtain ⟨hp, -, -, q0, q1, q2, q3, q4⟩ := h.2.2.2.2.2.2.2.2 e0
    have k3 := tK_le B T (sq B T r).2.2
    by_cases ek : tK B T (sq B T r).2.2 = 0
    · exact c_y (by rw [q0 ek]; rfl) (hE r _ m (lo_e (Or.inr ek)) h fr hv)
    · refine c_n ?_ ?_
      · rcases (show tK B T (sq B T r).2.2 = 1 ∨ tK B T (sq B T r).2.2 = 2 ∨ tK B T (sq B T r).2.2 = 3 by omega) with e | e | e
        · rw [q1 e]; decide
        · rw [q2 e rfl]; decide
        · rw [(q4 e).2]; split <;> decide
      have hg : ¬ ((sq B T r).1 ≠ 0 ∨ tK B T (sq B T r).2.2 = 0) := by omega
      have k69 : (tW B T (sq B T r).2.2 0 || tO B T (sq B T r).2.2 3) = true → qX12_spelling_69 Q (qX12_spelling_31 Q (n + 2)) m x (nI r) := by
        intro hw
        unfold qX12_spelling_69
        refine c_n' (fun z => absurd ((nI_eq (b := 16) (by omega) (by decide)).1 z) (by omega)) ?_
        unfold qX12_spelling_80
        refine M_good h (fun _ => b_1 ?_) (fun z => absurd e0 z)
        rw [nl_12, nl_3, pk_mul, nI_add, ofI1, nI_add]
        refine M_rule (x := 3 + 12 * r) (by omega) h (fun m' f' h' g' v' => ?_)
        refine ih (r + 1) m' (by omega) h' (fr.tr f') (fun i hi hk => ?_) (fun r' s' m' e => hE r' s' m' (by rw [lo_n hg hw (by omega)]; exact e))
        by_cases ei : i = r
        · rw [ei]; rw [ei] at hk; exact v' hk
        · exact (hv i (by omega) hk).sm (x' := 3 + 12 * r) (fun j hj => g' j (Or.inl hj)) (by omega) hk (sq_l i)
      refine M_is (k := 0) (by decide) h (fun _ e => b_1 (k69 (by rw [e]; rfl))) (fun e => b_0 ?_)
      refine M_isRuleWord h (fun _ e2 => b_1 (k69 (by rw [e2, Bool.or_true]))) (fun e2 => b_0 (M_wrong (n := 1) h (by decide) (by decide) (fun m1 f1 h1 => ?_)))
      unfold qX12_spelling_80
      exact M_good h1 (fun z => absurd z (oW_n (by omega))) (fun _ => b_0 (hE r _ m1 (lo_1 hg (by rw [e e0, e2 e0]; rfl)) h1 (fr.tr (f1.mono (by decide))) (by rw [f1.2.1 18 (by decide)]; exact hv)))
