/-- no year costs more than coin -/
def vld (c : Nat → Nat) (coin : Nat) (a : Nat → Nat) (S : Nat) : Prop := ∀ y, bs (fun k => if a k = y then c k else 0) S 9 ≤ coin
/-- the class's keys -/
def HK (n coin : Nat) (c w K : Nat → Nat) : Prop :=
  K 0 = 0 ∧ (∀ S T, S < 2 ^ n → sbs T S → T ≠ 0 → bs c T 9 ≤ coin → K S ≤ K (S - T) + bs w (S - T) 9) ∧
  (∀ S, S < 2 ^ n → S ≠ 0 → ∃ T, sbs T S ∧ T ≠ 0 ∧ bs c T 9 ≤ coin ∧ K S = K (S - T) + bs w (S - T) 9)
theorem sbs_diff {T S w : Nat} (h : sbs T S) (hS : S < 2 ^ w) : S - T = S ^^^ T := by
  have := sbs_minus h hS
  omega
theorem lt9 {n S : Nat} (hn : n ≤ 9) (h : S < 2 ^ n) : S < 2 ^ 9 := Nat.lt_of_lt_of_le h (Nat.pow_le_pow_right (by decide) hn)
theorem key_le {n coin : Nat} {c w K : Nat → Nat} (hn : n ≤ 9) (h : HK n coin c w K) : ∀ B S a, S < 2 ^ n → (∀ k, k < 9 → S.testBit k = true → a k < B) → vld c coin a S → K S ≤ bs (fun k => a k * w k) S 9 := by
  intro B
  induction B with
  | zero =>
    intro S a hS hb hv
    have : S = 0 := bit_emp (lt9 hn hS) (fun i hi hb' => by have := hb i hi hb'; omega)
    rw [this, h.1]; omega
  | succ B ih =>
    intro S a hS hb hv
    have hT : sbs (flt S (fun k => a k == 0)) S := flt_sbs _ _
    have cT : bs c (flt S (fun k => a k == 0)) 9 ≤ coin := by
      rw [flt_bs S _ c 9 (Nat.le_refl _)]
      refine Nat.le_trans (Nat.le_of_eq ?_) (hv 0)
      exact bs_cg 9 (fun i _ _ => by simp only [beq_iff_eq])
    have hR := sbs_xor hT
    have lR : S ^^^ flt S (fun k => a k == 0) < 2 ^ n := sbs_lt hR hS
    have nz : ∀ k, k < 9 → (S ^^^ flt S (fun k => a k == 0)).testBit k = true → S.testBit k = true ∧ a k ≠ 0 := fun k hk hb => by
      have := flt_rest hk hb
      exact ⟨this.1, by simpa using this.2⟩
    have i1 := ih (S ^^^ flt S (fun k => a k == 0)) (fun k => a k - 1) lR (fun k hk hb' => by
      have := nz k hk hb'
      have := hb k hk this.1
      show a k - 1 < B
      omega) (fun y => by
      refine Nat.le_trans ?_ (hv (y + 1))
      refine Nat.le_trans (Nat.le_of_eq ?_) (bs_sub hR 9)
      refine bs_cg 9 (fun i hi hb' => ?_)
      have := nz i hi hb'
      by_cases e : a i = y + 1
      · rw [if_pos (show a i - 1 = y by omega), if_pos e]
      · rw [if_neg (show ¬ a i - 1 = y by omega), if_neg e])
    by_cases e : flt S (fun k => a k == 0) = 0
    · rw [e, Nat.xor_zero] at i1
      exact Nat.le_trans i1 (bs_le 9 (fun i _ _ => Nat.mul_le_mul_right _ (Nat.sub_le _ _)))
    · have h2 := h.2.1 S _ hS hT e cT
      rw [sbs_diff hT hS] at h2
      refine Nat.le_trans h2 (Nat.le_trans (Nat.add_le_add_right i1 _) ?_)
      rw [← bs_plus]
      refine Nat.le_trans (Nat.le_of_eq (bs_cg (g := fun k => a k * w k) 9 (fun i hi hb' => ?_))) (bs_sub hR 9)
      have := nz i hi hb'
      obtain ⟨z, hz⟩ : ∃ z, a i = z + 1 := ⟨a i - 1, by omega⟩
      show (a i - 1) * w i + w i = a i * w i
      rw [hz, Nat.add_sub_cancel, Nat.add_mul, Nat.one_mul]
theorem key_at {n coin : Nat} {c w K : Nat → Nat} (hn : n ≤ 9) (h : HK n coin c w K) : ∀ S, S < 2 ^ n → ∃ a : Nat → Nat, vld c coin a S ∧ (∀ k, k < 9 → S.testBit k = true → a k < bs (fun _ => 1) S 9) ∧ bs (fun k => a k * w k) S 9 = K S := by
  intro S
  induction S using Nat.strongRecOn with
  | ind S ih =>
  intro hS
  by_cases e : S = 0
  · subst e
    exact ⟨fun _ => 0, fun y => by rw [bs_emp]; omega, fun k _ hb => by rw [Nat.zero_testBit] at hb; exact absurd hb (by decide), by rw [bs_emp, h.1]⟩
  obtain ⟨T, hT, tz, cT, eK⟩ := h.2.2 S hS e
  have hm := sbs_minus hT hS
  rw [sbs_diff hT hS] at eK
  have hR := sbs_xor hT
  obtain ⟨a, v, b, k⟩ := ih (S ^^^ T) (by omega) (sbs_lt hR hS)
  have nb : ∀ k, (S ^^^ T).testBit k = true → ¬ T.testBit k = true := fun k hb ht => by
    rw [Nat.testBit_xor, ht, hT k ht] at hb
    exact absurd hb (by decide)
  obtain ⟨a2, at1, at2⟩ : ∃ a2 : Nat → Nat, (∀ k, T.testBit k = true → a2 k = 0) ∧ (∀ k, ¬ T.testBit k = true → a2 k = a k + 1) :=
    ⟨fun k => if T.testBit k = true then 0 else a k + 1, fun k h => if_pos h, fun k h => if_neg h⟩
  refine ⟨a2, fun y => ?_, fun k hk hb => ?_, ?_⟩
  · rw [bs_add hT 9]
    cases y with
    | zero =>
      rw [bs_cg (S := T) (g := c) 9 (fun i _ hb => by rw [at1 i hb, if_pos rfl]), bs_cg (S := S ^^^ T) (g := fun _ => 0) 9 (fun i _ hb => by rw [at2 i (nb i hb), if_neg (by omega)]), bs_zero]
      exact cT
    | succ y =>
      rw [bs_cg (S := T) (g := fun _ => 0) 9 (fun i _ hb => by rw [at1 i hb, if_neg (by omega)]), bs_zero, Nat.zero_add]
      refine Nat.le_trans (Nat.le_of_eq (bs_cg 9 (fun i _ hb => ?_))) (v y)
      rw [at2 i (nb i hb)]
      by_cases e : a i = y
      · rw [if_pos (by omega), if_pos e]
      · rw [if_neg (by omega), if_neg e]
  · have p1 : 1 ≤ bs (fun _ => 1) T 9 := by
      obtain ⟨i, hi, hb⟩ := bit_one (lt9 hn (sbs_lt hT hS)) tz
      exact bs_pos (f := fun _ => 1) hi hb
    rw [bs_add hT 9]
    by_cases et : T.testBit k = true
    · rw [at1 k et]; omega
    · rw [at2 k et]
      have := b k hk (by rw [Nat.testBit_xor, hb]; simp_all)
      omega
  · rw [bs_add hT 9, bs_cg (S := T) (g := fun _ => 0) 9 (fun i _ hb => by rw [at1 i hb, Nat.zero_mul]), bs_zero, Nat.zero_add, eK, ← k, ← bs_plus]
    exact bs_cg 9 (fun i _ hb => by rw [at2 i (nb i hb), Nat.add_mul, Nat.one_mul])
/-- what the reference lets be: those of T may all come in the year y -/
def alw (c : Nat → Nat) (coin : Nat) (mu : Nat → Nat) (y T : Nat) : Prop := bs c T 9 ≤ coin ∧ ∀ k, k < 9 → T.testBit k = true → mu k = 0 ∨ mu k = y + 1
/-- the reference's table -/
def HL (n coin : Nat) (c mu : Nat → Nat) (L : Nat → Nat → Nat) : Prop :=
  L 9 0 = 0 ∧ (∀ S, S < 2 ^ n → S ≠ 0 → L 9 S = 1000000) ∧
  (∀ y S, y < 9 → S < 2 ^ n → L y S ≤ L (y + 1) S ∧ (∀ T, sbs T S → T ≠ 0 → alw c coin mu y T → L y S ≤ y * bs (fun _ => 1) T 9 + L (y + 1) (S - T)) ∧
    (L y S = L (y + 1) S ∨ ∃ T, sbs T S ∧ T ≠ 0 ∧ alw c coin mu y T ∧ L y S = y * bs (fun _ => 1) T 9 + L (y + 1) (S - T)))
/-- an order of the set S from the year y on -/
def ord (c : Nat → Nat) (coin : Nat) (mu : Nat → Nat) (y S : Nat) (a : Nat → Nat) : Prop := vld c coin a S ∧ ∀ k, k < 9 → S.testBit k = true → y ≤ a k ∧ a k < 9 ∧ (mu k = 0 ∨ mu k = a k + 1)
theorem bs_const (v S : Nat) : ∀ w, bs (fun _ => v) S w = v * bs (fun _ => 1) S w := by
  intro w
  induction w with
  | zero => rfl
  | succ w ih =>
    show bs (fun _ => v) S w + (if S.testBit w = true then v else 0) = v * (bs (fun _ => 1) S w + (if S.testBit w = true then 1 else 0))
    rw [ih, Nat.mul_add]; split <;> simp
theorem HL.le {n coin : Nat} {c mu : Nat → Nat} {L : Nat → Nat → Nat} (hn : n ≤ 9) (h : HL n coin c mu L) : ∀ d y S a, d + y = 9 → S < 2 ^ n → ord c coin mu y S a → L y S ≤ bs a S 9 := by
  intro d
  induction d with
  | zero =>
    intro y S a hd hS ho
    have : y = 9 := by omega
    subst this
    have : S = 0 := bit_emp (lt9 hn hS) (fun i hi hb => by have := ho.2 i hi hb; omega)
    rw [this, h.1]; omega
  | succ d ih =>
    intro y S a hd hS ho
    have hT : sbs (flt S (fun k => a k == y)) S := flt_sbs _ _
    have hR := sbs_xor hT
    have nz : ∀ k, k < 9 → (S ^^^ flt S (fun k => a k == y)).testBit k = true → S.testBit k = true ∧ a k ≠ y := fun k hk hb => by
      have := flt_rest hk hb
      exact ⟨this.1, by simpa using this.2⟩
    have i1 := ih (y + 1) (S ^^^ flt S (fun k => a k == y)) a (by omega) (sbs_lt hR hS) ⟨fun z => Nat.le_trans (bs_sub hR 9) (ho.1 z), fun k hk hb => by
      have h1 := nz k hk hb
      have h2 := ho.2 k hk h1.1
      exact ⟨by omega, h2.2⟩⟩
    have h3 := h.2.2 y S (by omega) hS
    by_cases e : flt S (fun k => a k == y) = 0
    · rw [e, Nat.xor_zero] at i1
      exact Nat.le_trans h3.1 i1
    · have h4 := h3.2.1 _ hT e ⟨by
        rw [flt_bs S _ c 9 (Nat.le_refl _)]
        refine Nat.le_trans (Nat.le_of_eq ?_) (ho.1 y)
        exact bs_cg 9 (fun i _ _ => by simp only [beq_iff_eq]), fun k hk hb => by
        obtain ⟨q1, q2, q3⟩ := (flt_bit _ _ _).1 hb
        have := (ho.2 k hk q2).2.2
        have q4 : a k = y := by simpa using q3
        rw [q4] at this; exact this⟩
      rw [sbs_diff hT hS] at h4
      refine Nat.le_trans h4 ?_
      rw [bs_add hT 9, ← bs_const, bs_cg (f := a) (S := flt S (fun k => a k == y)) (g := fun _ => y) 9 (fun i _ hb => by simpa using ((flt_bit _ _ _).1 hb).2.2)]
      omega
theorem HL.at {n coin : Nat} {c mu : Nat → Nat} {L : Nat → Nat → Nat} (h : HL n coin c mu L) : ∀ d y S, d + y = 9 → S < 2 ^ n → 1000000 ≤ L y S ∨ ∃ a, ord c coin mu y S a ∧ bs a S 9 = L y S := by
  intro d
  induction d with
  | zero =>
    intro y S hd hS
    have : y = 9 := by omega
    subst this
    by_cases e : S = 0
    · subst e
      exact Or.inr ⟨fun _ => 0, ⟨fun z => by rw [bs_emp]; omega, fun k _ hb => by rw [Nat.zero_testBit] at hb; exact absurd hb (by decide)⟩, by rw [bs_emp, h.1]⟩
    · left; rw [h.2.1 S hS e]; omega
  | succ d ih =>
    intro y S hd hS
    rcases (h.2.2 y S (by omega) hS).2.2 with e | ⟨T, hT, tz, al, e⟩
    · rcases ih (y + 1) S (by omega) hS with q | ⟨a, ho, hb⟩
      · left; omega
      · exact Or.inr ⟨a, ⟨ho.1, fun k hk hb => by have := ho.2 k hk hb; exact ⟨by omega, this.2⟩⟩, by rw [hb, e]⟩
    · rw [sbs_diff hT hS] at e
      have hR := sbs_xor hT
      rcases ih (y + 1) (S ^^^ T) (by omega) (sbs_lt hR hS) with q | ⟨a, ho, hb⟩
      · left; omega
      · right
        have nb : ∀ k, (S ^^^ T).testBit k = true → ¬ T.testBit k = true := fun k hb ht => by
          rw [Nat.testBit_xor, ht, hT k ht] at hb
          exact absurd hb (by decide)
        have inR : ∀ k, S.testBit k = true → ¬ T.testBit k = true → (S ^^^ T).testBit k = true := fun k h1 h2 => by
          rw [Nat.testBit_xor, h1]; simp_all
        obtain ⟨a2, at1, at2⟩ : ∃ a2 : Nat → Nat, (∀ k, T.testBit k = true → a2 k = y) ∧ (∀ k, ¬ T.testBit k = true → a2 k = a k) :=
          ⟨fun k => if T.testBit k = true then y else a k, fun k h => if_pos h, fun k h => if_neg h⟩
        refine ⟨a2, ⟨fun z => ?_, fun k hk hb => ?_⟩, ?_⟩
        · rw [bs_add hT 9]
          by_cases ez : z = y
          · rw [bs_cg (S := T) (g := c) 9 (fun i _ hb => by rw [at1 i hb, if_pos ez.symm]), bs_cg (S := S ^^^ T) (g := fun _ => 0) 9 (fun i hi hb => by rw [at2 i (nb i hb), if_neg (by have := ho.2 i hi hb; omega)]), bs_zero]
            exact al.1
          · rw [bs_cg (S := T) (g := fun _ => 0) 9 (fun i _ hb => by rw [at1 i hb, if_neg (by omega)]), bs_zero, Nat.zero_add]
            refine Nat.le_trans (Nat.le_of_eq (bs_cg 9 (fun i _ hb => ?_))) (ho.1 z)
            rw [at2 i (nb i hb)]
        · by_cases et : T.testBit k = true
          · rw [at1 k et]; exact ⟨Nat.le_refl _, by omega, al.2 k hk et⟩
          · rw [at2 k et]
            have := ho.2 k hk (inR k hb et)
            exact ⟨by omega, this.2⟩
        · rw [bs_add hT 9, bs_cg (S := T) (g := fun _ => y) 9 (fun i _ hb => by rw [at1 i hb]), bs_const, bs_cg (S := S ^^^ T) (g := a) 9 (fun i _ hb => by rw [at2 i (nb i hb)]), hb, e]
