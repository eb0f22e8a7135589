/-- sets of small numbers as bits -/
def sbs (T S : Nat) : Prop := ∀ i, T.testBit i = true → S.testBit i = true
def bs (f : Nat → Nat) (S : Nat) : Nat → Nat
  | 0 => 0
  | w + 1 => bs f S w + (if S.testBit w = true then f w else 0)
theorem bs_le {f g : Nat → Nat} {S : Nat} : ∀ w, (∀ i, i < w → S.testBit i = true → f i ≤ g i) → bs f S w ≤ bs g S w := by
  intro w
  induction w with
  | zero => intro _; exact Nat.le_refl _
  | succ w ih =>
    intro h
    have h1 := ih (fun i hi => h i (by omega))
    show bs f S w + (if S.testBit w = true then f w else 0) ≤ bs g S w + (if S.testBit w = true then g w else 0)
    by_cases e : S.testBit w = true
    · rw [if_pos e, if_pos e]; have := h w (by omega) e; omega
    · rw [if_neg e, if_neg e]; omega
theorem bs_cg {f g : Nat → Nat} {S : Nat} (w : Nat) (h : ∀ i, i < w → S.testBit i = true → f i = g i) : bs f S w = bs g S w :=
  Nat.le_antisymm (bs_le w (fun i hi hb => Nat.le_of_eq (h i hi hb))) (bs_le w (fun i hi hb => Nat.le_of_eq (h i hi hb).symm))
theorem bs_zero (S : Nat) : ∀ w, bs (fun _ => 0) S w = 0 := by
  intro w
  induction w with
  | zero => rfl
  | succ w ih =>
    show bs (fun _ => 0) S w + (if S.testBit w = true then 0 else 0) = 0
    rw [ih]; split <;> rfl
theorem bs_emp (f : Nat → Nat) : ∀ w, bs f 0 w = 0 := by
  intro w
  induction w with
  | zero => rfl
  | succ w ih =>
    show bs f 0 w + (if (0 : Nat).testBit w = true then f w else 0) = 0
    rw [ih, Nat.zero_testBit, if_neg (by decide)]
theorem bs_plus (f g : Nat → Nat) (S : Nat) : ∀ w, bs (fun i => f i + g i) S w = bs f S w + bs g S w := by
  intro w
  induction w with
  | zero => rfl
  | succ w ih =>
    show bs (fun i => f i + g i) S w + (if S.testBit w = true then f w + g w else 0) = bs f S w + (if S.testBit w = true then f w else 0) + (bs g S w + (if S.testBit w = true then g w else 0))
    rw [ih]; split <;> omega
theorem bs_add {f : Nat → Nat} {T S : Nat} (h : sbs T S) : ∀ w, bs f S w = bs f T w + bs f (S ^^^ T) w := by
  intro w
  induction w with
  | zero => rfl
  | succ w ih =>
    show bs f S w + (if S.testBit w = true then f w else 0) = bs f T w + (if T.testBit w = true then f w else 0) + (bs f (S ^^^ T) w + (if (S ^^^ T).testBit w = true then f w else 0))
    rw [ih, Nat.testBit_xor]
    have := h w
    cases h1 : T.testBit w <;> cases h2 : S.testBit w <;> simp_all <;> omega
theorem bs_sub {f : Nat → Nat} {T S : Nat} (h : sbs T S) (w : Nat) : bs f T w ≤ bs f S w := by
  rw [bs_add h w]; omega
theorem bs_id (S : Nat) : ∀ w, bs (fun i => 2 ^ i) S w = S % 2 ^ w := by
  intro w
  induction w with
  | zero => show 0 = S % 1; omega
  | succ w ih =>
    show bs (fun i => 2 ^ i) S w + (if S.testBit w = true then 2 ^ w else 0) = S % 2 ^ (w + 1)
    rw [ih, Nat.mod_pow_succ, Nat.testBit_eq_decide_div_mod_eq]
    by_cases e : S / 2 ^ w % 2 = 1
    · rw [decide_eq_true e, if_pos rfl, e, Nat.mul_one]
    · rw [decide_eq_false e, if_neg (by decide), show S / 2 ^ w % 2 = 0 by omega, Nat.mul_zero]
theorem sbs_xor {T S : Nat} (h : sbs T S) : sbs (S ^^^ T) S := by
  intro i hi
  rw [Nat.testBit_xor] at hi
  have := h i
  cases h1 : T.testBit i <;> cases h2 : S.testBit i <;> simp_all
theorem sbs_lt {T S w : Nat} (h : sbs T S) (hS : S < 2 ^ w) : T < 2 ^ w := by
  apply Nat.lt_pow_two_of_testBit
  intro i hi
  cases e : T.testBit i with
  | false => rfl
  | true =>
    have h1 := h i e
    rw [Nat.testBit_lt_two_pow (Nat.lt_of_lt_of_le hS (Nat.pow_le_pow_right (by decide) hi))] at h1
    exact h1.symm
theorem sbs_minus {T S w : Nat} (h : sbs T S) (hS : S < 2 ^ w) : T + (S ^^^ T) = S := by
  have e := bs_add (f := fun i => 2 ^ i) h w
  rw [bs_id, bs_id, bs_id, Nat.mod_eq_of_lt hS, Nat.mod_eq_of_lt (sbs_lt h hS), Nat.mod_eq_of_lt (sbs_lt (sbs_xor h) hS)] at e
  exact e.symm
theorem bit_emp {S w : Nat} (hS : S < 2 ^ w) (h : ∀ i, i < w → S.testBit i = true → False) : S = 0 := by
  have e := bs_id S w
  rw [Nat.mod_eq_of_lt hS, bs_cg (g := fun _ => 0) w (fun i hi hb => (h i hi hb).elim), bs_zero] at e
  exact e.symm
theorem bit_one {S w : Nat} (hS : S < 2 ^ w) (h : S ≠ 0) : ∃ i, i < w ∧ S.testBit i = true := by
  apply Classical.byContradiction
  intro n
  exact h (bit_emp hS (fun i hi hb => n ⟨i, hi, hb⟩))
theorem bs_pos {f : Nat → Nat} {S w i : Nat} (hi : i < w) (hb : S.testBit i = true) : f i ≤ bs f S w := by
  induction w with
  | zero => omega
  | succ w ih =>
    show f i ≤ bs f S w + (if S.testBit w = true then f w else 0)
    by_cases e : i = w
    · rw [← e, if_pos hb]; omega
    · have := ih (by omega); omega
/-- the next lower part of a set -/
theorem sbs_next : ∀ (cur s l : Nat), sbs s l → sbs cur l → s < cur → s ≤ (cur - 1) &&& l := by
  intro cur
  induction cur using Nat.strongRecOn with
  | ind cur ih =>
  intro s l hs hc h
  have e2 : ((cur - 1) &&& l) / 2 = (cur - 1) / 2 &&& l / 2 := Nat.and_div_two
  have t0 : ((cur - 1) &&& l).testBit 0 = ((cur - 1).testBit 0 && l.testBit 0) := Nat.testBit_and _ _ _
  have s2 : sbs (s / 2) (l / 2) := fun i hi => by rw [← Nat.testBit_add_one] at hi ⊢; exact hs _ hi
  have c2 : sbs (cur / 2) (l / 2) := fun i hi => by rw [← Nat.testBit_add_one] at hi ⊢; exact hc _ hi
  have s0 := hs 0
  have c0 := hc 0
  simp only [Nat.testBit_zero, decide_eq_true_eq] at s0 c0 t0
  by_cases o : cur % 2 = 1
  · have e1 : (cur - 1) / 2 = cur / 2 := by omega
    rw [e1] at e2
    have e3 : cur / 2 &&& l / 2 = cur / 2 := by
      apply Nat.eq_of_testBit_eq
      intro i
      rw [Nat.testBit_and]
      have := c2 i
      cases h1 : (cur / 2).testBit i <;> simp_all
    rw [e3] at e2
    omega
  · have e1 : (cur - 1) / 2 = cur / 2 - 1 := by omega
    rw [e1] at e2
    have := ih (cur / 2) (by omega) (s / 2) (l / 2) s2 c2 (by omega)
    rw [← e2] at this
    have p : (cur - 1) % 2 = 1 := by omega
    by_cases q : l % 2 = 1
    · rw [decide_eq_true p, decide_eq_true q] at t0
      simp only [Bool.and_self, decide_eq_true_eq] at t0
      omega
    · have : s % 2 ≠ 1 := fun z => q (s0 z)
      omega
theorem sbs_and (a l : Nat) : sbs (a &&& l) l := by
  intro i hi
  rw [Nat.testBit_and] at hi
  cases h : l.testBit i <;> simp_all
theorem sbs_rf (S : Nat) : sbs S S := fun _ h => h
/-- a set by its test -/
def mkS (p : Nat → Bool) : Nat → Nat
  | 0 => 0
  | w + 1 => (if p w = true then 2 ^ w else 0) + mkS p w
theorem mkS_lt (p : Nat → Bool) : ∀ w, mkS p w < 2 ^ w := by
  intro w
  induction w with
  | zero => show 0 < 1; decide
  | succ w ih =>
    show (if p w = true then 2 ^ w else 0) + mkS p w < 2 ^ (w + 1)
    rw [Nat.pow_succ]; split <;> omega
theorem mkS_bit (p : Nat → Bool) : ∀ w i, (mkS p w).testBit i = (decide (i < w) && p i) := by
  intro w
  induction w with
  | zero => intro i; show (0 : Nat).testBit i = _; rw [Nat.zero_testBit]; simp
  | succ w ih =>
    intro i
    have hl := mkS_lt p w
    show ((if p w = true then 2 ^ w else 0) + mkS p w).testBit i = _
    by_cases e : p w = true
    · rw [if_pos e]
      by_cases h1 : i < w
      · rw [Nat.testBit_two_pow_add_gt h1, ih]
        simp [h1, show i < w + 1 by omega]
      · by_cases h2 : i = w
        · rw [h2, Nat.testBit_two_pow_add_eq, Nat.testBit_lt_two_pow hl]
          simp [e]
        · rw [Nat.testBit_lt_two_pow (Nat.lt_of_lt_of_le (show 2 ^ w + mkS p w < 2 ^ (w + 1) by rw [Nat.pow_succ]; omega) (Nat.pow_le_pow_right (by decide) (show w + 1 ≤ i by omega)))]
          simp [show ¬ i < w + 1 by omega]
    · rw [if_neg e, Nat.zero_add, ih]
      by_cases h1 : i < w
      · simp [h1, show i < w + 1 by omega]
      · by_cases h2 : i = w
        · subst h2; simp_all
        · simp [h1, show ¬ i < w + 1 by omega]
/-- those of S that p takes -/
def flt (S : Nat) (p : Nat → Bool) : Nat := mkS (fun k => S.testBit k && p k) 9
theorem flt_bit (S : Nat) (p : Nat → Bool) (i : Nat) : (flt S p).testBit i = true ↔ i < 9 ∧ S.testBit i = true ∧ p i = true := by
  unfold flt
  rw [mkS_bit]
  simp [Bool.and_eq_true]
theorem flt_sbs (S : Nat) (p : Nat → Bool) : sbs (flt S p) S := fun i hi => ((flt_bit S p i).1 hi).2.1
theorem flt_bs (S : Nat) (p : Nat → Bool) (f : Nat → Nat) : ∀ w, w ≤ 9 → bs f (flt S p) w = bs (fun k => if p k = true then f k else 0) S w := by
  intro w
  induction w with
  | zero => intro _; rfl
  | succ w ih =>
    intro h
    show bs f (flt S p) w + (if (flt S p).testBit w = true then f w else 0) = bs (fun k => if p k = true then f k else 0) S w + (if S.testBit w = true then (if p w = true then f w else 0) else 0)
    rw [ih (by omega)]
    congr 1
    by_cases h1 : S.testBit w = true
    · by_cases h2 : p w = true
      · rw [if_pos ((flt_bit S p w).2 ⟨by omega, h1, h2⟩), if_pos h1, if_pos h2]
      · rw [if_neg (fun z => h2 ((flt_bit S p w).1 z).2.2), if_pos h1, if_neg h2]
    · rw [if_neg (fun z => h1 ((flt_bit S p w).1 z).2.1), if_neg h1]
theorem flt_rest {S : Nat} {p : Nat → Bool} {i : Nat} (hi : i < 9) (h : (S ^^^ flt S p).testBit i = true) : S.testBit i = true ∧ p i = false := by
  rw [Nat.testBit_xor] at h
  have h2 := flt_bit S p i
  have h3 := flt_sbs S p i
  cases h1 : S.testBit i <;> cases h4 : p i <;> cases h5 : (flt S p).testBit i <;> simp_all
