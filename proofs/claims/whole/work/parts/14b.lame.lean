theorem N_readsAs {a b : Md} {x y : List (Nat × Int32)} (ha : RowIs a x) (hb : RowIs b y) (la : x.length ≤ 73) (lb : y.length ≤ 73) (oa : okL x) (ob : okL y) {Q : Int32 → Md → Md → Prop} (hQ : Q (bI (alk x y)) a b) : qX5_readsAs a b Q := by
  unfold qX5_readsAs
  rw [ha.1, hb.1]
  refine c_eq rfl rfl (by omega) (by omega) (fun e => ?_) (fun e => ?_)
  · refine pk_loop (fun k i (z : Unit) => qX5_readsAs_15 Q k a b (nI i)) (fun i z => ∀ k, k < i → lch x k = lch y k) x.length 0 () (by omega) (fun k hk => by omega) (fun k z hI => ?_) (fun k i z hi hI ih => ?_)
    · unfold qX5_readsAs_15
      rw [ha.1]
      have : alk x y = true := by unfold alk; rw [e, beq_self_eq_true, eqB_t _ (fun i hi => hI i (by omega))]; rfl
      rw [this] at hQ
      exact c_y (nI_le (Nat.le_refl _) (by omega)) hQ
    · have l1 := lch_lt oa i
      have l2 := lch_lt ob i
      unfold qX5_readsAs_15
      rw [ha.1, nI_clamp (by omega), ha.ch hi, hb.ch (by omega), ofI1, nI_add]
      refine c_n (nI_ge hi (by omega)) ⟨vp_in_nI (by omega) (by decide), vp_in_nI (by omega) (by decide), c_eq rfl rfl (by omega) (by omega) (fun e2 => ih () (fun k hk => ?_)) (fun e2 => ?_)⟩
      · by_cases ek : k = i
        · rw [ek]; exact e2
        · exact hI k (by omega)
      · have : alk x y = false := by unfold alk; rw [eqB_f _ i (by omega) e2, Bool.and_false]
        rw [this] at hQ; exact hQ
  · have : alk x y = false := by unfold alk; rw [beq_false_of_ne e, Bool.false_and]
    rw [this] at hQ; exact hQ
/-- the sign s does not show what is shown in the year y -/
def unl (A : Nat → Nat → Nat) (s y : Nat) : Bool := !(alk (shwA A (A 40 s) (A 42 s) (A 42 s)) (shwA A (A 40 s) y y))
theorem N_isLame {vw o1 o2 st la sp ac bd sg : Md} {A : Nat → Nat → Nat} {c s : Nat} (hw : Wf A c) (hst : Nst st A) (hl : Nla la A) (hp : Nsc sp A) (ha : Nac ac A) (hb : Nse bd A) (hsg : Nsi sg A) (hs : s < A 57 0) {Q : Int32 → Md → Md → Md → Md → Md → Md → Md → Md → Md → Prop} (hQ : ∀ vw' o1' o2', Q (bI (unl A s (A 50 0))) vw' o1' o2' st la sp ac bd sg) : qX10_isLame vw o1 o2 st la sp ac bd sg (nI s) Q := by
  have b0 : A 50 0 < 400 := hw.1.1
  have b7 : A 57 0 ≤ 40 := hw.1.2.2.2.2.2.2.2.1
  obtain ⟨q1, q2, q3⟩ := hsg.2 s hs
  obtain ⟨w1, w2, w3⟩ := hw.2.2.2.2.2.2.2.2.1 s hs
  unfold qX10_isLame
  rw [nI_clamp (by omega), q1, q3]
  refine ⟨vp_in_nI (by omega) (by decide), vp_in_nI (by omega) (by decide), N_show hw hl hp ha hb w1 (by omega) (by omega) (fun v1 r1 h1 => ?_)⟩
  rw [hst.1]
  refine N_show hw hl hp ha hb w1 b0 b0 (fun v2 r2 h2 => N_readsAs h1 h2 (shw_len hw _ _ _) (shw_len hw _ _ _) (shw_ok hw _ _ _) (shw_ok hw _ _ _) ?_)
  unfold unl at hQ
  cases hal : alk (shwA A (A 40 s) (A 42 s) (A 42 s)) (shwA A (A 40 s) (A 50 0) (A 50 0)) with
  | true => rw [hal] at hQ; exact b_1 (hQ _ _ _)
  | false => rw [hal] at hQ; exact b_0 (hQ _ _ _)
theorem M_signIs {m : Md} {A : Nat → Nat → Nat} {c s : Nat} (hw : Wf A c) (hm : MW (gA m 1) A) (hs : s < A 57 0) {Q : Int32 → Md → Prop} : (Q (nI (A 40 s)) m → qX12_signIs m (nI s) 0 Q) ∧ (Q (nI (A 41 s)) m → qX12_signIs m (nI s) 1 Q) ∧ (Q (nI (A 42 s)) m → qX12_signIs m (nI s) 2 Q) := by
  have b7 : A 57 0 ≤ 40 := hw.1.2.2.2.2.2.2.2.1
  obtain ⟨q1, q2, q3⟩ := hm.2.2.2.2.2.2.2.2.1 s hs
  unfold qX12_signIs
  refine ⟨fun h => ?_, fun h => ?_, fun h => ?_⟩
  · rw [nl_7490, nl_3, nl_0, pk_mul, nI_add, nI_add, nI_clamp (by omega), Nat.add_zero, q1]; exact ⟨vp_in_nI (by omega) (by decide), h⟩
  · rw [nl_7490, nl_3, nl_1, pk_mul, nI_add, nI_add, nI_clamp (by omega), q2]; exact ⟨vp_in_nI (by omega) (by decide), h⟩
  · rw [nl_7490, nl_3, nl_2, pk_mul, nI_add, nI_add, nI_clamp (by omega), q3]; exact ⟨vp_in_nI (by omega) (by decide), h⟩
theorem M_now {m : Md} {A : Nat → Nat → Nat} (hm : MW (gA m 1) A) {Q : Int32 → Md → Prop} (h : Q (nI (A 50 0)) m) : qX12_now m Q := by
  unfold qX12_now
  refine ⟨vp_in_nI (n := 0) (by decide) (by decide), ?_⟩
  rw [show gA m 1 (0 : Int32).toNatClampNeg = nI (A 50 0) from hm.1.1]; exact h
theorem M_isLame {m : Md} {A : Nat → Nat → Nat} {c s : Nat} (hw : Wf A c) (hm : MW (gA m 1) A) (hs : s < A 57 0) {Q : Int32 → Md → Prop} (hQ : ∀ m', Fr [(1, 7), (1, 8), (1, 9), (1, 28), (0, 21), (1, 19), (1, 20), (0, 26), (1, 25)] m m' → Q (bI (unl A s (A 50 0))) m') : qX12_isLame m (nI s) Q := by
  have b0 : A 50 0 < 400 := hw.1.1
  obtain ⟨w1, w2, w3⟩ := hw.2.2.2.2.2.2.2.2.1 s hs
  unfold qX12_isLame
  refine (M_signIs hw hm hs).1 ((M_signIs hw hm hs).2.2 ((M_signIs hw hm hs).2.2 ?_))
  refine M_shows hw hm w1 (by omega) (by omega) (fun m1 f1 h1 => ?_)
  have l1 := shw_len hw (A 40 s) (A 42 s) (A 42 s)
  refine M_holds h1 (by omega) (fun m2 f2 h2 => ?_)
  have hm2 : MW (gA m2 1) A := by rw [f2.2.1 1 (by decide), f1.2.1 1 (by decide)]; exact hm
  refine (M_signIs hw hm2 hs).1 (M_now hm2 (M_now hm2 ?_))
  refine M_shows hw hm2 w1 b0 b0 (fun m3 f3 h3 => ?_)
  have l2 := shw_len hw (A 40 s) (A 50 0) (A 50 0)
  refine M_isAlike (h2.fr f3 (by decide) (by decide)) h3 (by omega) (by omega) (shw_ok hw _ _ _) (shw_ok hw _ _ _) ?_
  have hq := hQ m3 ((f1.mono (by decide)).tr ((f2.mono (by decide)).tr (f3.mono (by decide))))
  unfold unl at hq
  cases hal : alk (shwA A (A 40 s) (A 42 s) (A 42 s)) (shwA A (A 40 s) (A 50 0) (A 50 0)) with
  | true => rw [hal] at hq; exact b_1 hq
  | false => rw [hal] at hq; exact b_0 hq
/-- since when the sign s is lame, seen from the year y -/
def snc (A : Nat → Nat → Nat) (s : Nat) : Nat → Nat
  | 0 => 0
  | y + 1 => if y + 1 ≤ A 42 s then y + 1 else if unl A s y then snc A s y else y + 1
theorem snc_le (A : Nat → Nat → Nat) (s : Nat) : ∀ y, snc A s y ≤ y := by
  intro y
  induction y with
  | zero => exact Nat.le_refl _
  | succ y ih =>
    show (if y + 1 ≤ A 42 s then y + 1 else if unl A s y = true then snc A s y else y + 1) ≤ y + 1
    split
    · omega
    · split <;> omega
theorem M_lameSince {m : Md} {A : Nat → Nat → Nat} {c s : Nat} (hw : Wf A c) (hm : MW (gA m 1) A) (hs : s < A 57 0) {Q : Int32 → Md → Prop} (hQ : ∀ m', Fr [(1, 7), (1, 8), (1, 9), (1, 28), (0, 21), (1, 19), (1, 20), (0, 26), (1, 25)] m m' → Q (nI (snc A s (A 50 0))) m') : qX12_lameSince m (nI s) Q := by
  have b0 : A 50 0 < 400 := hw.1.1
  obtain ⟨w1, w2, w3⟩ := hw.2.2.2.2.2.2.2.2.1 s hs
  unfold qX12_lameSince
  refine (M_signIs hw hm hs).1 ((M_signIs hw hm hs).2.2 ((M_signIs hw hm hs).2.2 ?_))
  refine M_shows hw hm w1 (by omega) (by omega) (fun m1 f1 h1 => ?_)
  have l1 := shw_len hw (A 40 s) (A 42 s) (A 42 s)
  refine M_holds h1 (by omega) (fun m2 f2 h2 => ?_)
  have hm2 : MW (gA m2 1) A := by rw [f2.2.1 1 (by decide), f1.2.1 1 (by decide)]; exact hm
  refine M_now hm2 ?_
  have fa : Fr [(1, 7), (1, 8), (1, 9), (1, 28), (0, 21), (1, 19), (1, 20), (0, 26), (1, 25)] m m2 := (f1.mono (by decide)).tr (f2.mono (by decide))
  refine lp3 (fun k (u : Md) (y2 y3 : Int32) => qX12_lameSince_33 Q k u (nI s) y2 y3) (fun u y2 y3 => ∃ (y : Nat) (b : Bool), y2 = nI y ∧ y3 = bI b ∧ y < 400 ∧ Fr [(1, 7), (1, 8), (1, 9), (1, 28), (0, 21), (1, 19), (1, 20), (0, 26), (1, 25)] m u ∧ Held u (shwA A (A 40 s) (A 42 s) (A 42 s)) ∧ (b = true → snc A s y = snc A s (A 50 0)) ∧ (b = false → y = snc A s (A 50 0))) (fun u y2 y3 => y2.toNatClampNeg + y3.toNatClampNeg) (fun k u y2 y3 hI ih => ?_) m2 (nI (A 50 0)) 1 ⟨A 50 0, true, rfl, rfl, b0, fa, h2, fun _ => rfl, fun h => absurd h (by decide)⟩
  obtain ⟨y, b, rfl, rfl, hy, fu, hh, hb1, hb0⟩ := hI
  have hmu : MW (gA u 1) A := by rw [fu.2.1 1 (by decide)]; exact hm
  unfold qX12_lameSince_33
  cases b with
  | false =>
    refine c_y rfl ?_
    rw [hb0 rfl]; exact hQ u fu
  | true =>
    have hb := hb1 rfl
    refine c_n (by decide) ((M_signIs hw hmu hs).2.2 (c_le rfl rfl (by omega) (by omega) (fun e => ?_) (fun e => (M_signIs hw hmu hs).1 ?_)))
    · have : snc A s y = y := by
        cases y with
        | zero => rfl
        | succ y => show (if y + 1 ≤ A 42 s then y + 1 else _) = _; rw [if_pos e]
      rw [this] at hb
      rw [hb]; exact hQ u fu
    · obtain ⟨y, rfl⟩ : ∃ z, y = z + 1 := ⟨y - 1, by omega⟩
      have hs1 : (if y + 1 ≤ A 42 s then y + 1 else if unl A s y = true then snc A s y else y + 1) = snc A s (A 50 0) := hb
      rw [if_neg (by omega)] at hs1
      rw [nI_pred]
      refine M_shows hw hmu w1 (by omega) (by omega) (fun m3 f3 h3 => ?_)
      have l2 := shw_len hw (A 40 s) y y
      have hh3 := hh.fr f3 (by decide) (by decide)
      have fu3 := fu.tr (f3.mono (by decide))
      refine M_isAlike hh3 h3 (by omega) (by omega) (shw_ok hw _ _ _) (shw_ok hw _ _ _) ?_
      unfold qX12_lameSince_75
      cases hal : alk (shwA A (A 40 s) (A 42 s) (A 42 s)) (shwA A (A 40 s) y y) with
      | true =>
        have hun : unl A s y = false := by unfold unl; rw [hal]; rfl
        rw [hun, if_neg (by decide)] at hs1
        refine b_1 (c_y rfl (ih m3 (nI (y + 1)) 0 ⟨y + 1, false, rfl, rfl, hy, fu3, hh3, fun h => absurd h (by decide), fun _ => hs1⟩ ?_))
        show (nI (y + 1)).toNatClampNeg + 0 < (nI (y + 1)).toNatClampNeg + 1
        omega
      | false =>
        have hun : unl A s y = true := by unfold unl; rw [hal]; rfl
        rw [hun, if_pos rfl] at hs1
        refine b_0 (c_n (by decide) ?_)
        rw [ofIm1]
        refine ih m3 (nI y) 1 ⟨y, true, rfl, rfl, by omega, fu3, hh3, fun _ => hs1, fun h => absurd h (by decide)⟩ ?_
        show (nI y).toNatClampNeg + 1 < (nI (y + 1)).toNatClampNeg + 1
        rw [nI_clamp (by omega), nI_clamp (by omega)]; omega
/-- an act that does not look at the year says the same in years between which nothing was told -/
theorem hdB_c {A : Nat → Nat → Nat} {F G : Nat → Nat} {l : Nat} (hF : ∀ k, k < 5 → F k = G k) (hw : ∀ c, c < A 31 l → Wcd A (4 * l + c)) (h : ∀ c, c < A 31 l → A 33 (4 * l + c) ≠ 3) : hdB A F l = hdB A G l := by
  unfold hdB
  have key : ∀ k, k ≤ A 31 l → allF (fun c => cdB A F (4 * l + c)) k = allF (fun c => cdB A G (4 * l + c)) k := by
    intro k
    induction k with
    | zero => intro _; rfl
    | succ k ih =>
      intro hk
      show (allF (fun c => cdB A F (4 * l + c)) k && cdB A F (4 * l + k)) = (allF (fun c => cdB A G (4 * l + c)) k && cdB A G (4 * l + k))
      rw [ih (by omega)]
      have e : F (fct A (4 * l + k)) = G (fct A (4 * l + k)) := by
        refine hF _ ?_
        have h1 := hw k (by omega)
        have h2 := h k (by omega)
        obtain ⟨d1, d2, d3, -⟩ := h1
        unfold fct; split <;> omega
      unfold cdB
      rw [e]
  exact key _ (Nat.le_refl _)
theorem fstF_c {f g : Nat → Bool} : ∀ k, (∀ i, i < k → f i = g i) → fstF f k = fstF g k := by
  intro k
  induction k with
  | zero => intro _; rfl
  | succ k ih =>
    intro h
    show (if fstF f k = 0 then (if f k = true then k + 1 else 0) else fstF f k) = (if fstF g k = 0 then (if g k = true then k + 1 else 0) else fstF g k)
    rw [ih (fun i hi => h i (by omega)), h k (by omega)]
theorem fhA_c {A : Nat → Nat → Nat} {c : Nat} (hw : Wf A c) {F G : Nat → Nat} {a kind : Nat} (ha : a ≤ A 54 0) (hF : ∀ k, k < 5 → F k = G k) (h : a ≠ 0 → ∀ l, l < A 27 (a - 1) → ∀ c, c < A 31 (12 * (a - 1) + l) → A 33 (4 * (12 * (a - 1) + l) + c) ≠ 3) : fhA A F a kind = fhA A G a kind := by
  unfold fhA
  by_cases h0 : a = 0
  · rw [if_pos h0, if_pos h0]
  rw [if_neg h0, if_neg h0]
  refine fstF_c _ (fun l hl => ?_)
  have wl := (hw.2.2.2.2.2.2.1 (a - 1) (by omega)).2.2 l hl
  rw [hdB_c hF wl.2.2.2.2.2 (h h0 l hl)]
theorem shw_same {A : Nat → Nat → Nat} {c p y : Nat} (hw : Wf A c) (hs : Same A (y + 1) y) (h : acA A y ≠ 0 → ∀ l, l < A 27 (acA A y - 1) → ∀ c, c < A 31 (12 * (acA A y - 1) + l) → A 33 (4 * (12 * (acA A y - 1) + l) + c) ≠ 3) : shwA A p (y + 1) (y + 1) = shwA A p y y := by
  obtain ⟨s1, s2, s3, s4, s5⟩ := hs
  have eL : livA A (y + 1) p = livA A y p := by funext t; unfold livA livG; rw [s1, s2]
  have eP : ptsA A (y + 1) p = ptsA A y p := by unfold ptsA; rw [s1]
  have eF : ∀ k, k < 5 → FvA A (y + 1) p (y + 1) k = FvA A y p y k := by
    intro k hk
    unfold FvA fcF
    rw [eL, eP]
    by_cases h3 : k < 3
    · rw [if_pos h3, if_pos h3]
    · rw [if_neg h3, if_neg h3]
      by_cases h4 : k = 3
      · rw [if_pos h4, if_pos h4]
      · rw [if_neg h4, if_neg h4]
        by_cases h5 : k = 4
        · rw [if_pos h5, if_pos h5]
        · omega
  have eh : ∀ kind, fhA A (FvA A (y + 1) p (y + 1)) (acA A (y + 1)) kind = fhA A (FvA A y p y) (acA A y) kind := fun kind => by
    rw [s4]; exact fhA_c hw acA_le eF h
  have el : ldA A (y + 1) p (y + 1) = ldA A y p y := by
    unfold ldA frA
    rw [eh, eL, s4]
  have eb : bdA A (y + 1) p (y + 1) = bdA A y p y := by
    have el' := el
    unfold ldA at el'
    unfold bdA bsA
    rw [eh, el', eL]
  have esp : ∀ n, spl A n (y + 1) = spl A n y := fun n => by unfold spl; rw [s3]
  have en : ∀ S, nmS A S (y + 1) = nmS A S y := fun S => by
    cases S with
    | nil => rfl
    | cons n r => exact esp n
  have ebs : bsS A (y + 1) p (y + 1) = bsS A y p y := by unfold bsS; rw [eb, s5]
  unfold shwA
  rw [Nat.min_self, Nat.min_self, el, s5, ebs, en, en]
