/-- how many p takes below s, and which -/
def lcn (p : Nat → Bool) : Nat → Nat
  | 0 => 0
  | s + 1 => lcn p s + (if p s = true then 1 else 0)
def lsg (p : Nat → Bool) : Nat → Nat → Nat
  | 0 => fun _ => 0
  | s + 1 => if p s = true then va_up (lsg p s) (lcn p s) s else lsg p s
theorem lcn_mono (p : Nat → Bool) {s t : Nat} (h : s ≤ t) : lcn p s ≤ lcn p t := by
  induction h with
  | refl => exact Nat.le_refl _
  | step _ ih => exact Nat.le_trans ih (Nat.le_add_right _ _)
theorem lcn_le (p : Nat → Bool) : ∀ s, lcn p s ≤ s := by
  intro s
  induction s with
  | zero => exact Nat.le_refl _
  | succ s ih =>
    show lcn p s + (if p s = true then 1 else 0) ≤ s + 1
    split <;> omega
theorem lsg_p {p : Nat → Bool} : ∀ s j, j < lcn p s → lsg p s j < s ∧ p (lsg p s j) = true := by
  intro s
  induction s with
  | zero => intro j hj; exact absurd hj (Nat.not_lt_zero _)
  | succ s ih =>
    intro j hj
    by_cases e : p s = true
    · have e1 : lcn p (s + 1) = lcn p s + 1 := by show lcn p s + (if p s = true then 1 else 0) = _; rw [if_pos e]
      have e2 : lsg p (s + 1) = va_up (lsg p s) (lcn p s) s := if_pos e
      rw [e2]
      by_cases ej : j = lcn p s
      · rw [ej, va_up_eq]; exact ⟨by omega, e⟩
      · rw [va_up_ne' _ _ ej]
        have := ih j (by omega)
        exact ⟨by omega, this.2⟩
    · have e1 : lcn p (s + 1) = lcn p s := by show lcn p s + (if p s = true then 1 else 0) = _; rw [if_neg e]; rfl
      have e2 : lsg p (s + 1) = lsg p s := if_neg e
      rw [e2]
      have := ih j (by omega)
      exact ⟨by omega, this.2⟩
def noPlan (A : Nat → Nat → Nat) (p : Nat → Bool) (co : Nat) : Prop := (∃ s, s < A 57 0 ∧ p s = true ∧ co < A 41 s) ∨ 9 < lcn p (A 57 0)
def PZ (pl : Md) : Prop := gA pl 3 0 = 0 ∧ gL pl 4 0 = 0 ∧ gL pl 5 0 = 0
theorem PT.z {pl : Md} {k : Nat} {c sg : Nat → Nat} (h : PT pl k c sg) : PZ pl := by
  have z := h.2.2.2.1 0 (Nat.two_pow_pos k)
  rw [bs_emp, bs_emp] at z
  exact ⟨z.1, z.2, h.2.2.2.2⟩
theorem N_planRest {nb vw o1 o2 st la sp ac bd sg pl : Md} {A : Nat → Nat → Nat} {c co : Nat} (hw : Wf A c) (hst : Nst st A) (hl : Nla la A) (hp : Nsc sp A) (ha : Nac ac A) (hb : Nse bd A) (hsg : Nsi sg A) (hz : PZ pl) (o9 : co < 10000) {p : Nat → Bool} (hpp : p = fun s => unl A s (A 50 0)) {Q : Int32 → Md → Md → Md → Md → Md → Md → Md → Md → Md → Md → Md → Prop}
    (h0 : noPlan A p co → ∀ vw' o1' o2' pl', PZ pl' → gA pl' 0 = gA pl 0 → Q (-1) nb st la sp ac bd sg vw' o1' o2' pl')
    (h1 : ¬ noPlan A p co → ∀ vw' o1' o2' pl' a, PZ pl' → Best (fun j => A 41 (lsg p (A 57 0) j)) co (2 ^ lcn p (A 57 0) - 1) a → (∀ j, j < 40 → gA pl' 0 j = plF (lsg p (A 57 0)) a (lcn p (A 57 0)) j) → Q (nI (bs a (2 ^ lcn p (A 57 0) - 1) 9)) nb st la sp ac bd sg vw' o1' o2' pl') :
    ∃ n', qX11_plan_19 Q n' nb st la sp ac bd sg vw o1 o2 (sF pl 1 0) (nI co) 0 := by
  have b7 : A 57 0 ≤ 40 := hw.1.2.2.2.2.2.2.2.1
  refine pk_loop (fun f s (z : Md × Md × Md × Md) => qX11_plan_19 Q f nb st la sp ac bd sg z.1 z.2.1 z.2.2.1 z.2.2.2 (nI co) (nI s)) (fun s z => PT z.2.2.2 (lcn p s) (fun j => A 41 (lsg p s j)) (lsg p s) ∧ gA z.2.2.2 0 = gA pl 0 ∧ ∀ t, t < s → p t = true → A 41 t ≤ co) (A 57 0) 0 (vw, o1, o2, sF pl 1 0) (Nat.zero_le _) ⟨⟨rfl, Nat.zero_le _, fun i hi => absurd hi (Nat.not_lt_zero _), fun S hS => ?_, hz.2.2⟩, rfl, fun t ht => by omega⟩ (fun f z hI => ?_) (fun f s z hs hI ih => ?_)
  · have : S = 0 := by
      have : S < 1 := hS
      omega
    subst this
    rw [bs_emp, bs_emp]
    exact ⟨hz.1, hz.2.1⟩
  · obtain ⟨v1, v2, v3, u⟩ := z
    obtain ⟨i1, i2, i3⟩ := hI
    dsimp only at i1 i2 ⊢
    have hno : ¬ noPlan A p co := by
      rintro (⟨s, q1, q2, q3⟩ | q)
      · have := i3 s q1 q2; omega
      · have := i1.2.1; omega
    unfold qX11_plan_19
    rw [hsg.1]
    refine c_y (nI_le (Nat.le_refl _) (by omega)) (N_leastSum i1 (fun i hi => ?_) o9 (fun i hi => ?_) (fun a u' hB z1 z2 z3 hj => h1 hno _ _ _ u' a ⟨z1, z2, z3⟩ hB hj))
    · have := lsg_p (p := p) (A 57 0) i hi
      exact i3 _ this.1 this.2
    · have := lsg_p (p := p) (A 57 0) i hi
      omega
  · obtain ⟨v1, v2, v3, u⟩ := z
    obtain ⟨i1, i2, i3⟩ := hI
    dsimp only at i1 i2 ⊢
    obtain ⟨w1, w2, w3⟩ := hw.2.2.2.2.2.2.2.2.1 s hs
    obtain ⟨q1, q2, q3⟩ := hsg.2 s hs
    unfold qX11_plan_19
    rw [hsg.1]
    refine c_n (nI_ge hs (by omega)) (N_isLame hw hst hl hp ha hb hsg hs (fun v1 v2 v3 => ?_))
    have ep : p s = unl A s (A 50 0) := by rw [hpp]
    cases hu : unl A s (A 50 0) with
    | true =>
      have e : p s = true := ep.trans hu
      have e1 : lcn p (s + 1) = lcn p s + 1 := by show lcn p s + (if p s = true then 1 else 0) = _; rw [if_pos e]
      have e2 : lsg p (s + 1) = va_up (lsg p s) (lcn p s) s := if_pos e
      refine b_1' (c_in rfl (by omega) (by decide) ?_)
      rw [nI_clamp (by omega), q2]
      refine N_take (c' := fun j => A 41 (lsg p (s + 1) j)) (sg' := lsg p (s + 1)) i1 (fun j hj => ?_) (show A 41 (lsg p (s + 1) (lcn p s)) = A 41 s by rw [e2, va_up_eq]) (show lsg p (s + 1) (lcn p s) = s by rw [e2, va_up_eq]) (by omega) (by omega) (fun h => b_0 (h0 ?_ _ _ _ _ i1.z i2)) (fun k9 hv pl' hp' he => b_1 ?_)
      · have : lsg p (s + 1) j = lsg p s j := by rw [e2, va_up_ne' _ _ (by omega)]
        exact ⟨by rw [this], this⟩
      · rcases h with h | h
        · have := lcn_mono p (show s + 1 ≤ A 57 0 by omega)
          exact Or.inr (by omega)
        · exact Or.inl ⟨s, hs, e, h⟩
      · rw [ofI1, nI_add]
        refine ih (v1, v2, v3, pl') ⟨by rw [e1]; exact hp', he.trans i2, fun t ht hpt => ?_⟩
        by_cases et : t = s
        · rw [et]; exact hv
        · exact i3 t (by omega) hpt
    | false =>
      have e : ¬ p s = true := by rw [ep, hu]; decide
      have e1 : lcn p (s + 1) = lcn p s := by show lcn p s + (if p s = true then 1 else 0) = _; rw [if_neg e]; rfl
      have e2 : lsg p (s + 1) = lsg p s := if_neg e
      refine b_0' ?_
      rw [ofI1, nI_add]
      refine ih (v1, v2, v3, u) ⟨by rw [e1, e2]; exact i1, i2, fun t ht hpt => ?_⟩
      by_cases et : t = s
      · rw [et] at hpt; exact absurd hpt e
      · exact i3 t (by omega) hpt
