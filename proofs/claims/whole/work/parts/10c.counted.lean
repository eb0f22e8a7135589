/-- the world after the first k counts of a row -/
def cA (A : Nat → Nat → Nat) (X : Nat → Int64) : Nat → Nat → Nat → Nat
  | 0 => A
  | k + 1 => telA (cA A X k) (X (3 * k)).toInt.toNat (X (3 * k + 1)).toInt.toNat (X (3 * k + 2)).toInt.toNat
def okA (A : Nat → Nat → Nat) (X : Nat → Int64) (k : Nat) : Prop := (0 ≤ (X (3 * k)).toInt ∧ (X (3 * k)).toInt < cA A X k 51 0 ∧ 0 ≤ (X (3 * k + 1)).toInt ∧ (X (3 * k + 1)).toInt < 3 ∧ 0 ≤ (X (3 * k + 2)).toInt ∧ (X (3 * k + 2)).toInt ≤ 2000) ∧ telOk (cA A X k) (X (3 * k)).toInt.toNat (X (3 * k + 1)).toInt.toNat
theorem N_counted_loop {nb st la : Md} {A : Nat → Nat → Nat} {c : Nat} (hw : Wf A c) (hs : Nst st A) (hl : Nla la A) {s W : Nat} (hsl : s < 4) (hW : W ≤ 20) {X : Nat → Int64} (hX : ∀ i, i < 3 * W → gL nb 7 (60 * s + i) = X i) {Q : Int32 → Md → Md → Md → Prop} (hQ : ∀ i st' la', i ≤ W → (∀ j, j < i → okA A X j) → (i = W ∨ ¬ okA A X i) → Wf (cA A X i) c → Nst st' (cA A X i) → Nla la' (cA A X i) → Q (nI i) nb st' la') : ∃ n, qX11_counted_40 Q n nb st la (nI W) 0 (nI (60 * s)) := by
  refine pk_loop (fun k i (u : Md × Md) => qX11_counted_40 Q k nb u.1 u.2 (nI W) (nI i) (nI (60 * s + 3 * i))) (fun i u => (∀ j, j < i → okA A X j) ∧ Wf (cA A X i) c ∧ Nst u.1 (cA A X i) ∧ Nla u.2 (cA A X i)) W 0 (st, la) (by omega) ⟨fun j hj => by omega, hw, hs, hl⟩ (fun k u hI => ?_) (fun k i u hi hI ih => ?_)
  · unfold qX11_counted_40
    exact c_y (nI_le (Nat.le_refl W) (by omega)) (hQ W _ _ (by omega) hI.1 (Or.inl rfl) hI.2.1 hI.2.2.1 hI.2.2.2)
  · obtain ⟨i1, i2, i3, i4⟩ := hI
    unfold qX11_counted_40
    refine c_n (nI_ge hi (by omega)) ?_
    have x0 := hX (3 * i) (by omega)
    have x1 := hX (3 * i + 1) (by omega)
    have x2 := hX (3 * i + 2) (by omega)
    rw [nl_1, nl_2, nI_add, nI_add, nI_clamp (by omega), nI_clamp (by omega), nI_clamp (by omega), show 60 * s + 3 * i + 1 = 60 * s + (3 * i + 1) by omega, show 60 * s + 3 * i + 2 = 60 * s + (3 * i + 2) by omega, x0, x1, x2]
    refine ⟨vp_in_nI (by omega) (by decide), vp_in_nI (by omega) (by decide), vp_in_nI (by omega) (by decide), ?_⟩
    refine N_cp i2 i3 i4 (fun hb => ?_) (fun p t n h1 h2 h3 hp ht hn hno => ?_) (fun p t n h1 h2 h3 hp ht hn hok st' la' k1 k2 => ?_)
    · exact c_n' (by decide) (hQ i _ _ (by omega) i1 (Or.inr (fun h => hb h.1)) i2 i3 i4)
    · refine c_n' (by decide) (hQ i _ _ (by omega) i1 (Or.inr (fun h => hno ?_)) i2 i3 i4)
      have := h.2
      rw [h1, h2] at this
      exact this
    · refine c_y' rfl ?_
      rw [ofI1, ofI3, nI_add, nI_add, show 60 * s + 3 * i + 3 = 60 * s + 3 * (i + 1) by omega]
      have e : cA A X (i + 1) = telA (cA A X i) p t n := by
        show telA _ _ _ _ = _
        rw [h1, h2, h3]; rfl
      refine ih (st', la') ⟨fun j hj => ?_, ?_, ?_, ?_⟩
      · by_cases e : j = i
        · subst e
          refine ⟨by omega, ?_⟩
          rw [h1, h2]; exact hok
        · exact i1 j (by omega)
      · rw [e]; exact tel_Wf i2 hp ht hn hok
      · rw [e]; exact k1
      · rw [e]; exact k2
def isI (X : Int64) : Prop := -2147483648 ≤ X.toInt ∧ X.toInt ≤ 2147483647
theorem isI_to {X : Int64} (h : isI X) : X.toInt32.toInt = X.toInt := by
  rw [Int64.toInt_toInt32]
  obtain ⟨h1, h2⟩ := h
  exact Int.bmod_eq_of_le (by omega) (by omega)
theorem M_ints {m : Md} {a n x : Nat} (hx : x + 3 ≤ 240) {X : Nat → Int64} (hX : ∀ i, i < 3 → gL m 50 (x + i) = X i) {Q : Int32 → Md → Prop} {K : Md → Int32 → Int32 → Int32 → Prop} (h1 : isI (X 0) → isI (X 1) → isI (X 2) → qX12_people m (X 0).toInt32 (X 1).toInt32 (X 2).toInt32 (fun r129 v129_0 => (0 ≤ r129 → K v129_0 (nI a) (nI n + Int32.ofInt 1) (nI x + Int32.ofInt 3)) ∧ (¬ 0 ≤ r129 → Q (nI n) v129_0))) (h0 : ¬ (isI (X 0) ∧ isI (X 1) ∧ isI (X 2)) → Q (nI n) m) : ∃ n', qX12_counted_53 Q K n' m (nI a) (nI n) (nI x) 1 0 := by
  refine pk_loop (fun k i (s : Bool) => qX12_counted_53 Q K k m (nI a) (nI n) (nI x) (if s then 1 else 0) (nI i)) (fun i s => (s = true → ∀ j, j < i → isI (X j)) ∧ (s = false → ∃ j, j < i ∧ ¬ isI (X j))) 3 0 true (by omega) ⟨fun _ j hj => by omega, fun h => absurd h (by decide)⟩ (fun k s hI => ?_) (fun k i s hi hI ih => ?_)
  · unfold qX12_counted_53
    refine c_y (by decide) ?_
    cases s with
    | true =>
      have g := hI.1 rfl
      have x0 := hX 0 (by omega)
      have x1 := hX 1 (by omega)
      have x2 := hX 2 (by omega)
      refine c_n (by decide) ⟨vp_in_nI (by omega) (by decide), ?_⟩
      rw [nl_1, nl_2, nI_add, nI_add, nI_clamp (by omega), nI_clamp (by omega), nI_clamp (by omega), x1, x2, show gL m 50 x = X 0 from x0]
      exact ⟨vp_in_nI (by omega) (by decide), vp_in_nI (by omega) (by decide), h1 (g 0 (by omega)) (g 1 (by omega)) (g 2 (by omega))⟩
    | false =>
      refine c_y (by decide) (h0 (fun h => ?_))
      obtain ⟨j, hj, hb⟩ := hI.2 rfl
      rcases (show j = 0 ∨ j = 1 ∨ j = 2 by omega) with rfl | rfl | rfl
      · exact hb h.1
      · exact hb h.2.1
      · exact hb h.2.2
  · unfold qX12_counted_53 qX12_counted_89
    refine c_n (nI_ge (b := 3) hi (by decide)) ?_
    rw [ofI1, nI_add]
    cases s with
    | true =>
      have g := hI.1 rfl
      refine c_n (by decide) ?_
      rw [nI_add, nI_clamp (by omega), hX i hi]
      refine ⟨vp_in_nI (by omega) (by decide), s_in (fun a b => b_1' ?_) (fun a => b_0' ?_)⟩
      · refine ih true ⟨fun _ j hj => ?_, fun h => absurd h (by decide)⟩
        by_cases e : j = i
        · rw [e]; exact ⟨a, b⟩
        · exact g j (by omega)
      · exact ih false ⟨fun h => absurd h (by decide), fun _ => ⟨i, by omega, a⟩⟩
    | false =>
      obtain ⟨j, hj, hb⟩ := hI.2 rfl
      exact c_y (by decide) (ih false ⟨fun h => absurd h (by decide), fun _ => ⟨j, by omega, hb⟩⟩)
theorem M_counted_loop {m : Md} {A : Nat → Nat → Nat} {c : Nat} (hw : Wf A c) (hm : MW (gA m 1) A) {s W n : Nat} (hsl : s < 4) (hn60 : n ≤ 60) (hW : W = n / 3) (e48 : gA m 48 s = nI n) {X : Nat → Int64} (hX : ∀ i, i < 3 * W → gL m 50 (60 * s + i) = X i) {Q : Int32 → Md → Prop} (hQ : ∀ i m', i ≤ W → (∀ j, j < i → okA A X j) → (i = W ∨ ¬ okA A X i) → Fr [(1, 1)] m m' → MW (gA m' 1) (cA A X i) → Q (nI i) m') : ∃ k, qX12_counted_30 Q k m (nI s) 0 (nI (60 * s)) := by
  refine pk_loop (fun k i (u : Md) => qX12_counted_30 Q k u (nI s) (nI i) (nI (60 * s + 3 * i))) (fun i u => (∀ j, j < i → okA A X j) ∧ Wf (cA A X i) c ∧ Fr [(1, 1)] m u ∧ MW (gA u 1) (cA A X i)) W 0 m (by omega) ⟨fun j hj => by omega, hw, Fr.rf, hm⟩ (fun k u hI => ?_) (fun k i u hi hI ih => ?_)
  · obtain ⟨i1, i2, i3, i4⟩ := hI
    have f48 : gA u 48 s = nI n := by rw [i3.2.1 48 (by decide)]; exact e48
    unfold qX12_counted_30
    rw [nl_60, pk_mul, nl_3, nI_add, nI_clamp (by omega), f48, nI_add]
    exact ⟨vp_in_nI hsl (by decide), c_y (nI_lt (by omega) (by omega)) (hQ W _ (by omega) i1 (Or.inl rfl) i3 i4)⟩
  · obtain ⟨i1, i2, i3, i4⟩ := hI
    have f48 : gA u 48 s = nI n := by rw [i3.2.1 48 (by decide)]; exact e48
    unfold qX12_counted_30
    rw [nl_60, pk_mul, nl_3, nI_add, nI_clamp (by omega), f48, nI_add]
    refine ⟨vp_in_nI hsl (by decide), c_n (nI_nlt (by omega) (by omega)) ?_⟩
    refine M_ints (X := fun j => X (3 * i + j)) (by omega) (fun j hj => ?_) (fun a0 a1 a2 => ?_) (fun hb => hQ i _ (by omega) i1 (Or.inr (fun h => hb ?_)) i3 i4)
    · rw [i3.2.2.1 50 (by decide), show 60 * s + 3 * i + j = 60 * s + (3 * i + j) by omega]; exact hX _ (by omega)
    · have t0 : (X (3 * i)).toInt32.toInt = (X (3 * i)).toInt := isI_to a0
      have t1 : (X (3 * i + 1)).toInt32.toInt = (X (3 * i + 1)).toInt := isI_to a1
      have t2 : (X (3 * i + 2)).toInt32.toInt = (X (3 * i + 2)).toInt := isI_to a2
      refine M_pe i2 i4 (fun hb => ?_) (fun p t n h1 h2 h3 hp ht hn hno => ?_) (fun p t n h1 h2 h3 hp ht hn hok m' fm hm' => ?_)
      · exact c_n (by decide) (hQ i _ (by omega) i1 (Or.inr (fun h => hb (by have := h.1; simp only [Nat.add_zero]; omega))) i3 i4)
      · refine c_n (by decide) (hQ i _ (by omega) i1 (Or.inr (fun h => hno ?_)) i3 i4)
        have hh := h.2
        rw [show (X (3 * i)).toInt = p from t0.symm.trans h1, show (X (3 * i + 1)).toInt = t from t1.symm.trans h2] at hh
        exact hh
      · refine c_y (by decide) ?_
        have g1 : (X (3 * i)).toInt = p := t0.symm.trans h1
        have g2 : (X (3 * i + 1)).toInt = t := t1.symm.trans h2
        have g3 : (X (3 * i + 2)).toInt = n := t2.symm.trans h3
        rw [ofI1, ofI3, nI_add, nI_add, show 60 * s + 3 * i + 3 = 60 * s + 3 * (i + 1) by omega]
        have e : cA A X (i + 1) = telA (cA A X i) p t n := by
          show telA _ _ _ _ = _
          rw [g1, g2, g3]; rfl
        refine ih m' ⟨fun j hj => ?_, ?_, i3.tr fm, ?_⟩
        · by_cases e : j = i
          · subst e
            refine ⟨by omega, ?_⟩
            rw [g1, g2]; exact hok
          · exact i1 j (by omega)
        · rw [e]; exact tel_Wf i2 hp ht hn hok
        · rw [e]; exact hm'
    · have := h.1
      have b1 : cA A X i 51 0 ≤ 40 := i2.1.2.1
      refine ⟨⟨?_, ?_⟩, ⟨?_, ?_⟩, ?_, ?_⟩ <;> (try simp only [Nat.add_zero]) <;> omega
theorem cA_rest {A : Nat → Nat → Nat} {X : Nat → Int64} {c : Nat} {sp ac bd sg : Md} (hw : Wf A c) (h : Nsc sp A ∧ Nac ac A ∧ Nbd bd A ∧ Nsi sg A) : ∀ k, (∀ j, j < k → okA A X j) → Wf (cA A X k) c ∧ (Nsc sp (cA A X k) ∧ Nac ac (cA A X k) ∧ Nbd bd (cA A X k) ∧ Nsi sg (cA A X k)) := by
  intro k
  induction k with
  | zero => intro _; exact ⟨hw, h⟩
  | succ k ih =>
    intro hj
    obtain ⟨h1, h2⟩ := ih (fun j q => hj j (by omega))
    obtain ⟨h3, h4⟩ := hj k (by omega)
    refine ⟨tel_Wf h1 (by omega) (by omega) (by omega) h4, ?_⟩
    show Nsc sp (telA _ _ _ _) ∧ Nac ac (telA _ _ _ _) ∧ Nbd bd (telA _ _ _ _) ∧ Nsi sg (telA _ _ _ _)
    rcases fndC_cases (cA A X k) (X (3 * k)).toInt.toNat (X (3 * k + 1)).toInt.toNat with ⟨i, hi, hmt⟩ | hno
    · rw [(telA_yes h1.2.2.2.1 hi hmt).1]; exact h2
    · rw [(telA_no hno).1]; exact h2
theorem sim_counted {c : Nat} {nb m st la sp ac bd sg : Md} (hR : RW c m st la sp ac bd sg) (hS : RSlot nb m) {x1 : Int32} {Q : Int32 → Md → Md → Md → Int32 → Md → Prop} (hQ : ∀ r st' la' m', RW c m' st' la' sp ac bd sg → Fr [(1, 1)] m m' → Q r nb st' la' r m') : qX11_counted nb st la x1 (fun r nb' st' la' => qX12_counted m x1 (fun r' m' => Q r nb' st' la' r' m')) := by
  obtain ⟨A, hm, hw, hs, hn⟩ := id hR
  unfold qX11_counted qX12_counted
  rcases ix32 x1 (n := 4) (by decide) with h | ⟨s, hsl, rfl⟩
  · exact N_isSlot_bad h (b_0 (M_isSlot_bad h (b_0 (hQ _ _ _ _ hR Fr.rf))))
  obtain ⟨e1, e2, e3, e4⟩ := hS s hsl
  refine N_isSlot_ok hsl (b_1 ⟨vp_in_nI hsl (by decide), ?_⟩)
  rw [nI_clamp (by omega)]
  rcases e4 with e4 | ⟨n, hn60, e4, e5⟩
  · refine c_y' e4 (M_isSlot_ok hsl (b_1 ⟨vp_in_nI hsl (by decide), ?_⟩))
    rw [← e2]
    exact c_y' e4 (hQ _ _ _ _ hR Fr.rf)
  · refine c_n' (by rw [e4]; exact nI_m1 (by omega)) ⟨vp_in_nI hsl (by decide), ?_⟩
    rw [e4, nl_3, pk_div (by omega) (by omega) (by omega), nl_60, pk_mul, pk_mul, Nat.mul_comm s 60]
    refine N_counted_loop (W := n / 3) (X := fun i => gL nb 7 (60 * s + i)) hw hs hn.1 hsl (by omega) (fun i hi => rfl) (fun i st' la' hi hok hend hwi k1 k2 => ?_)
    refine M_isSlot_ok hsl (b_1 ⟨vp_in_nI hsl (by decide), ?_⟩)
    rw [← e2, e4]
    refine c_n' (nI_m1 (by omega)) (M_counted_loop (X := fun i => gL nb 7 (60 * s + i)) hw hm hsl hn60 rfl (by rw [← e2, e4]) (fun i hi => (e5 i (by omega)).symm) (fun i' m' hi' hok' hend' fm hm' => ?_))
    obtain rfl : i = i' := by
      rcases Nat.lt_trichotomy i i' with hl | hl | hl
      · exact absurd (hok' i hl) (hend.resolve_left (by omega))
      · exact hl
      · exact absurd (hok i' hl) (hend'.resolve_left (by omega))
    exact hQ _ _ _ _ ⟨_, hm', hwi, k1, k2, (cA_rest hw hn.2 i hok).2⟩ fm
