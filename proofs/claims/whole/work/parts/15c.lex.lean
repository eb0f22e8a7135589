def wt (k : Nat) : Nat := 2 ^ 36 + 16 ^ (8 - k)
def dg (a : Nat → Nat) (F : Nat) : Nat := bs (fun k => a k * 16 ^ (8 - k)) F 9
def nrm (F : Nat) (a : Nat → Nat) (k : Nat) : Nat := if F.testBit k = true then a k else 0
theorem bs_wt (a : Nat → Nat) (F : Nat) : bs (fun k => a k * wt k) F 9 = 2 ^ 36 * bs a F 9 + dg a F := by
  have e : ∀ w, bs (fun k => a k * wt k) F w = 2 ^ 36 * bs a F w + bs (fun k => a k * 16 ^ (8 - k)) F w := by
    intro w
    induction w with
    | zero => rfl
    | succ w ih =>
      show bs (fun k => a k * wt k) F w + (if F.testBit w = true then a w * wt w else 0) = 2 ^ 36 * (bs a F w + (if F.testBit w = true then a w else 0)) + (bs (fun k => a k * 16 ^ (8 - k)) F w + (if F.testBit w = true then a w * 16 ^ (8 - w) else 0))
      rw [ih]
      by_cases e : F.testBit w = true
      · rw [if_pos e, if_pos e, if_pos e]
        unfold wt
        rw [Nat.mul_add, Nat.mul_add, Nat.mul_comm (a w) (2 ^ 36)]
        omega
      · rw [if_neg e, if_neg e, if_neg e]; omega
  exact e 9
theorem nrm_mul (F : Nat) (a : Nat → Nat) (k g : Nat) : (if F.testBit k = true then a k * g else 0) = nrm F a k * g := by
  unfold nrm; split
  · rfl
  · rw [Nat.zero_mul]
theorem dg_9 (a : Nat → Nat) (F : Nat) : dg a F = nrm F a 0 * 4294967296 + nrm F a 1 * 268435456 + nrm F a 2 * 16777216 + nrm F a 3 * 1048576 + nrm F a 4 * 65536 + nrm F a 5 * 4096 + nrm F a 6 * 256 + nrm F a 7 * 16 + nrm F a 8 := by
  have e : dg a F = 0 + (if F.testBit 0 = true then a 0 * 4294967296 else 0) + (if F.testBit 1 = true then a 1 * 268435456 else 0) + (if F.testBit 2 = true then a 2 * 16777216 else 0) + (if F.testBit 3 = true then a 3 * 1048576 else 0) + (if F.testBit 4 = true then a 4 * 65536 else 0) + (if F.testBit 5 = true then a 5 * 4096 else 0) + (if F.testBit 6 = true then a 6 * 256 else 0) + (if F.testBit 7 = true then a 7 * 16 else 0) + (if F.testBit 8 = true then a 8 * 1 else 0) := rfl
  rw [e]
  simp only [nrm_mul]
  omega
theorem nrm_lt {F k : Nat} {a : Nat → Nat} (h : F.testBit k = true → a k < 9) : nrm F a k < 9 := by
  unfold nrm; split
  · exact h ‹_›
  · decide
/-- the best order of the set F -/
def Best (c : Nat → Nat) (coin F : Nat) (a : Nat → Nat) : Prop :=
  vld c coin a F ∧ (∀ k, k < 9 → F.testBit k = true → a k < 9) ∧ ∀ b, vld c coin b F → (∀ k, k < 9 → F.testBit k = true → b k < 9) → 2 ^ 36 * bs a F 9 + dg a F ≤ 2 ^ 36 * bs b F 9 + dg b F
theorem bs_one (S : Nat) : ∀ w, bs (fun _ => 1) S w ≤ w := by
  intro w
  induction w with
  | zero => exact Nat.le_refl _
  | succ w ih =>
    show bs (fun _ => 1) S w + (if S.testBit w = true then 1 else 0) ≤ w + 1
    split <;> omega
theorem key_best {n coin : Nat} {c K : Nat → Nat} (hn : n ≤ 9) (h : HK n coin c wt K) {F : Nat} (hF : F < 2 ^ n) : ∃ a, Best c coin F a ∧ K F = 2 ^ 36 * bs a F 9 + dg a F := by
  obtain ⟨a, v, b, e⟩ := key_at hn h F hF
  have o := bs_one F 9
  refine ⟨a, ⟨v, fun k hk hb => by have := b k hk hb; omega, fun b' v' b9 => ?_⟩, ?_⟩
  · rw [← bs_wt, ← bs_wt, e]
    exact key_le hn h 9 F b' hF b9 v'
  · rw [← bs_wt, e]
theorem dg_lt {F : Nat} {a : Nat → Nat} (h : ∀ k, k < 9 → F.testBit k = true → a k < 9) : dg a F < 2 ^ 36 := by
  have n0 := nrm_lt (h 0 (by decide)); have n1 := nrm_lt (h 1 (by decide)); have n2 := nrm_lt (h 2 (by decide)); have n3 := nrm_lt (h 3 (by decide)); have n4 := nrm_lt (h 4 (by decide)); have n5 := nrm_lt (h 5 (by decide)); have n6 := nrm_lt (h 6 (by decide)); have n7 := nrm_lt (h 7 (by decide)); have n8 := nrm_lt (h 8 (by decide))
  rw [dg_9]; omega
theorem Best.sum {c : Nat → Nat} {coin F : Nat} {a b : Nat → Nat} (h : Best c coin F a) (v : vld c coin b F) (b9 : ∀ k, k < 9 → F.testBit k = true → b k < 9) : bs a F 9 ≤ bs b F 9 := by
  have h1 := h.2.2 b v b9
  have h2 := dg_lt h.2.1
  have h3 := dg_lt b9
  omega
theorem Best.lex {c : Nat → Nat} {coin F : Nat} {a b : Nat → Nat} (h : Best c coin F a) (v : vld c coin b F) (b9 : ∀ k, k < 9 → F.testBit k = true → b k < 9) (es : bs b F 9 = bs a F 9) {j : Nat} (hj : j < 9) (hb : F.testBit j = true) (hl : ∀ k, k < j → F.testBit k = true → b k = a k) : a j ≤ b j := by
  have h1 := h.2.2 b v b9
  rw [es] at h1
  have n0 := nrm_lt (b9 0 (by decide)); have n1 := nrm_lt (b9 1 (by decide)); have n2 := nrm_lt (b9 2 (by decide)); have n3 := nrm_lt (b9 3 (by decide)); have n4 := nrm_lt (b9 4 (by decide)); have n5 := nrm_lt (b9 5 (by decide)); have n6 := nrm_lt (b9 6 (by decide)); have n7 := nrm_lt (b9 7 (by decide)); have n8 := nrm_lt (b9 8 (by decide))
  have e : ∀ k, k < j → nrm F b k = nrm F a k := fun k hk => by
    unfold nrm
    by_cases e : F.testBit k = true
    · rw [if_pos e, if_pos e, hl k hk e]
    · rw [if_neg e, if_neg e]
  have ej : nrm F a j ≤ nrm F b j → a j ≤ b j := fun z => by
    unfold nrm at z; rw [if_pos hb, if_pos hb] at z; exact z
  refine ej ?_
  rw [dg_9, dg_9] at h1
  rcases (show j = 0 ∨ j = 1 ∨ j = 2 ∨ j = 3 ∨ j = 4 ∨ j = 5 ∨ j = 6 ∨ j = 7 ∨ j = 8 by omega) with rfl | rfl | rfl | rfl | rfl | rfl | rfl | rfl | rfl
  · omega
  · have e0 := e 0 (by decide); omega
  · have e0 := e 0 (by decide); have e1 := e 1 (by decide); omega
  · have e0 := e 0 (by decide); have e1 := e 1 (by decide); have e2 := e 2 (by decide); omega
  · have e0 := e 0 (by decide); have e1 := e 1 (by decide); have e2 := e 2 (by decide); have e3 := e 3 (by decide); omega
  · have e0 := e 0 (by decide); have e1 := e 1 (by decide); have e2 := e 2 (by decide); have e3 := e 3 (by decide); have e4 := e 4 (by decide); omega
  · have e0 := e 0 (by decide); have e1 := e 1 (by decide); have e2 := e 2 (by decide); have e3 := e 3 (by decide); have e4 := e 4 (by decide); have e5 := e 5 (by decide); omega
  · have e0 := e 0 (by decide); have e1 := e 1 (by decide); have e2 := e 2 (by decide); have e3 := e 3 (by decide); have e4 := e 4 (by decide); have e5 := e 5 (by decide); have e6 := e 6 (by decide); omega
  · have e0 := e 0 (by decide); have e1 := e 1 (by decide); have e2 := e 2 (by decide); have e3 := e 3 (by decide); have e4 := e 4 (by decide); have e5 := e 5 (by decide); have e6 := e 6 (by decide); have e7 := e 7 (by decide); omega
theorem dg_at {F : Nat} {a : Nat → Nat} (h : ∀ k, k < 9 → F.testBit k = true → a k < 9) (s : Nat) {j : Nat} (hj : j < 9) (hb : F.testBit j = true) : (2 ^ 36 * s + dg a F) / 2 ^ (4 * (8 - j)) % 16 = a j := by
  have n0 := nrm_lt (h 0 (by decide)); have n1 := nrm_lt (h 1 (by decide)); have n2 := nrm_lt (h 2 (by decide)); have n3 := nrm_lt (h 3 (by decide)); have n4 := nrm_lt (h 4 (by decide)); have n5 := nrm_lt (h 5 (by decide)); have n6 := nrm_lt (h 6 (by decide)); have n7 := nrm_lt (h 7 (by decide)); have n8 := nrm_lt (h 8 (by decide))
  have ej : nrm F a j = a j := if_pos hb
  rw [← ej, dg_9]
  rcases (show j = 0 ∨ j = 1 ∨ j = 2 ∨ j = 3 ∨ j = 4 ∨ j = 5 ∨ j = 6 ∨ j = 7 ∨ j = 8 by omega) with rfl | rfl | rfl | rfl | rfl | rfl | rfl | rfl | rfl <;> omega
theorem dg_top {F : Nat} {a : Nat → Nat} (h : ∀ k, k < 9 → F.testBit k = true → a k < 9) (s : Nat) : (2 ^ 36 * s + dg a F) / 2 ^ 36 = s := by
  have := dg_lt h
  omega
theorem bs_sm {F : Nat} {a : Nat → Nat} (h : ∀ k, k < 9 → F.testBit k = true → a k < 9) : bs a F 9 ≤ 72 := by
  have := bs_le (g := fun _ => 8) 9 (fun i hi hb => by have := h i hi hb; omega : ∀ i, i < 9 → F.testBit i = true → a i ≤ 8)
  have o := bs_one F 9
  rw [bs_const] at this
  omega
/-- what the reference's table says of a best order -/
theorem Best.yes {n coin : Nat} {c mu : Nat → Nat} {L : Nat → Nat → Nat} {F : Nat} {a : Nat → Nat} (hn : n ≤ 9) (h : Best c coin F a) (hF : F < 2 ^ n) (hL : HL n coin c mu L) (hm : ∀ k, k < 9 → F.testBit k = true → mu k = 0 ∨ mu k = a k + 1) : L 0 F = bs a F 9 := by
  have h1 := hL.le hn 9 0 F a rfl hF ⟨h.1, fun k hk hb => ⟨by omega, h.2.1 k hk hb, hm k hk hb⟩⟩
  have h0 := bs_sm h.2.1
  rcases hL.at 9 0 F rfl hF with q | ⟨b, ho, e⟩
  · omega
  · have := h.sum ho.1 (fun k hk hb => (ho.2 k hk hb).2.1)
    omega
theorem Best.no {n coin : Nat} {c mu : Nat → Nat} {L : Nat → Nat → Nat} {F : Nat} {a : Nat → Nat} (h : Best c coin F a) (hF : F < 2 ^ n) (hL : HL n coin c mu L) {j v : Nat} (hj : j < 9) (hb : F.testBit j = true) (hm : ∀ k, k < j → F.testBit k = true → mu k = a k + 1) (hv : mu j = v + 1) (hlt : v < a j) : L 0 F ≠ bs a F 9 := by
  intro e
  have h0 := bs_sm h.2.1
  rcases hL.at 9 0 F rfl hF with q | ⟨b, ho, e2⟩
  · omega
  · have := h.lex ho.1 (fun k hk hb => (ho.2 k hk hb).2.1) (by omega) hj hb (fun k hk hb' => by
      have h1 := hm k hk hb'
      have h2 := (ho.2 k (by omega) hb').2.2
      omega)
    have h2 := (ho.2 j hj hb).2.2
    omega
