theorem vup_self {α : Type} (f : Nat → α) (k : Nat) : va_up f k (f k) = f := by
  funext j; unfold va_up; by_cases h : j = k
  · rw [if_pos h, h]
  · rw [if_neg h]
theorem sA_self (u : Md) (k : Nat) : sA u k (gA u k) = u := by
  unfold sA gA; rw [vup_self]
def allF (f : Nat → Bool) : Nat → Bool
  | 0 => true
  | k + 1 => allF f k && f k
theorem allF_f {f : Nat → Bool} : ∀ k i, i < k → f i = false → allF f k = false := by
  intro k
  induction k with
  | zero => intro i h; omega
  | succ k ih =>
    intro i hi hf
    show (allF f k && f k) = false
    by_cases e : i = k
    · subst e; rw [hf, Bool.and_false]
    · rw [ih i (by omega) hf, Bool.false_and]
theorem allF_t {f : Nat → Bool} : ∀ k, (∀ i, i < k → f i = true) → allF f k = true := by
  intro k
  induction k with
  | zero => intro _; rfl
  | succ k ih => intro h; show (allF f k && f k) = true; rw [ih (fun i hi => h i (by omega)), h k (by omega)]; rfl
/-- what the conditions look at: shares, people, parts, the year -/
def fcF (L : Nat → Nat) (pts yr k : Nat) : Nat := if k < 3 then (if L 0 + L 1 + L 2 = 0 then 0 else L k * 100 / (L 0 + L 1 + L 2)) else if k = 3 then L 0 + L 1 + L 2 else if k = 4 then pts else yr
def isB (s v n : Nat) : Bool := if s = 60 then decide (v < n) else if s = 62 then decide (n < v) else decide (v = n)
def cdB (A : Nat → Nat → Nat) (F : Nat → Nat) (q : Nat) : Bool := isB (A 35 q) (F (fct A q)) (A 36 q) != (A 32 q == 1)
def hdB (A : Nat → Nat → Nat) (F : Nat → Nat) (l : Nat) : Bool := allF (fun c => cdB A F (4 * l + c)) (A 31 l)
def fhA (A : Nat → Nat → Nat) (F : Nat → Nat) (a kind : Nat) : Nat := if a = 0 then 0 else fstF (fun l => (A 28 (12 * (a - 1) + l) == kind) && hdB A F (12 * (a - 1) + l)) (A 27 (a - 1))
def mstp (L : Nat → Nat) (b best t : Nat) : Nat := if t + 1 = b then best else if best = 0 then t + 1 else if L (best - 1) < L t then t + 1 else best
def mostA (L : Nat → Nat) (b : Nat) : Nat := mstp L b (mstp L b (mstp L b 0 0) 1) 2 - 1
def frA (A : Nat → Nat → Nat) (F L : Nat → Nat) (a : Nat) : Nat := if fhA A F a 0 = 0 then mostA L 0 else A 29 (12 * (a - 1) + (fhA A F a 0 - 1))
/-- the one beside: 0 none, t + 1 -/
def bsA (A : Nat → Nat → Nat) (F L : Nat → Nat) (a : Nat) : Nat := if fhA A F a 1 = 0 then 0 else if L (mostA L (frA A F L a + 1)) = 0 then 0 else mostA L (frA A F L a + 1) + 1
theorem mstp_b {L : Nat → Nat} {b best t : Nat} (h : best ≤ 3) (ht : t < 3) : mstp L b best t ≤ 3 := by
  unfold mstp; split
  · exact h
  · split
    · omega
    · split <;> omega
theorem mostA_lt (L : Nat → Nat) (b : Nat) : mostA L b < 3 := by
  unfold mostA
  have := mstp_b (L := L) (b := b) (best := mstp L b (mstp L b 0 0) 1) (t := 2) (mstp_b (mstp_b (by omega) (by omega)) (by omega)) (by omega)
  omega
theorem fct_lt {A : Nat → Nat → Nat} {q : Nat} (h : Wcd A q) : fct A q < 6 := by
  obtain ⟨h1, h2, h3, -⟩ := h
  unfold fct; split <;> omega
theorem N_inForce {ac : Md} {A : Nat → Nat → Nat} {c y : Nat} (hw : Wf A c) (h : Nac ac A) (hy : y < 400) {Q : Int32 → Md → Prop} (hQ : Q (oI (acA A y)) ac) : qX0_inForce ac (nI y) Q := by
  have b0 : A 50 0 < 400 := hw.1.1
  have b4 : A 54 0 ≤ 8 := hw.1.2.2.2.2.1
  unfold qX0_inForce
  rw [h.1]
  refine ⟨A 54 0 + 1, ?_⟩
  refine pk_loopD (fun k i (u : Unit) => qX0_inForce_7 Q k ac (nI y) (oI i)) (fun i u => i ≤ A 54 0 ∧ lastF (fun _ => 0) (A 26) 0 y i = acA A y) (fun k u hI => ?_) (fun k i u hI ih => ?_) (A 54 0) () ⟨Nat.le_refl _, rfl⟩
  · unfold qX0_inForce_7
    rw [← hI.2] at hQ
    exact c_y (by decide) hQ
  · obtain ⟨i1, i2⟩ := hI
    have p1 := (h.2 i (by omega)).1
    have w1 := (hw.2.2.2.2.2.2.1 i (by omega)).1
    have i2' : (if (fun _ => 0) i = 0 ∧ A 26 i ≤ y then i + 1 else lastF (fun _ => 0) (A 26) 0 y i) = acA A y := i2
    unfold qX0_inForce_7
    rw [oI_s, nI_clamp (by omega), p1, oI_dec]
    refine c_n (nI_pos (by omega)) ⟨vp_in_nI (by omega) (by decide), c_lt rfl rfl (by omega) (by omega) (fun e2 => ?_) (fun e2 => ?_)⟩
    · rw [if_neg (fun h => by have := h.2; omega)] at i2'; exact ih () ⟨by omega, i2'⟩
    · rw [if_pos ⟨rfl, by omega⟩] at i2'
      rw [← i2', oI_s] at hQ; exact hQ
theorem sgn61 {s : Nat} (h1 : 60 ≤ s) (h2 : s ≤ 62) : nI s - 61 = if s = 60 then -1 else if s = 62 then 1 else 0 := by
  rcases (show s = 60 ∨ s = 61 ∨ s = 62 by omega) with rfl | rfl | rfl <;> decide
theorem N_holds {ac : Md} {A : Nat → Nat → Nat} {c a l : Nat} (hw : Wf A c) (h : Nac ac A) (ha : a < A 54 0) (hl : l < A 27 a) {F : Nat → Nat} {f : Nat → Int32} (hf : ∀ k, k < 6 → f k = nI (F k)) (hF : ∀ k, k < 6 → F k < 2 ^ 31) {Q : Int32 → Md → (Nat → Int32) → Prop} (hQ : Q (bI (hdB A F (12 * a + l))) ac f) : qX0_holds 6 ac f (nI (12 * a + l)) Q := by
  have b4 : A 54 0 ≤ 8 := hw.1.2.2.2.2.1
  obtain ⟨-, w27, wl⟩ := hw.2.2.2.2.2.2.1 a ha
  obtain ⟨-, -, -, -, w31, wcd⟩ := wl l hl
  obtain ⟨-, -, -, q31, qc⟩ := (h.2 a ha).2.2.2 l hl
  generalize hg : 12 * a + l = g at *
  have hg96 : g < 96 := by omega
  unfold qX0_holds
  rw [nl_4, pk_mul, Nat.mul_comm g 4]
  refine pk_loop (fun k i (z : Unit) => qX0_holds_7 6 Q k ac f (nI g) (nI (4 * g)) (nI (4 * g + i))) (fun i z => ∀ j, j < i → cdB A F (4 * g + j) = true) (A 31 g) 0 () (by omega) (fun j hj => by omega) (fun k z hI => ?_) (fun k i z hi hI ih => ?_)
  · unfold qX0_holds_7
    rw [nI_clamp (by omega), q31, nI_add]
    have : hdB A F g = true := allF_t _ hI
    rw [this] at hQ
    exact ⟨vp_in_nI hg96 (by decide), c_y (nI_le (Nat.le_refl _) (by omega)) hQ⟩
  · obtain ⟨c1, c2, c3, c4⟩ := qc i hi
    have wq := wcd i hi
    obtain ⟨d1, d2, d3, d4, d5, d6⟩ := id wq
    have f6 := fct_lt wq
    have hFv := hF _ f6
    generalize hq : 4 * g + i = q at *
    have hno : cdB A F q = false → Q 0 ac f := fun e => by
      have : hdB A F g = false := allF_f _ i hi (by show cdB A F (4 * g + i) = false; rw [hq]; exact e)
      rw [this] at hQ; exact hQ
    have hgo : cdB A F q = true → qX0_holds_7 6 Q k ac f (nI g) (nI (4 * g)) (nI (q + 1)) := fun e => by
      have := ih () (fun j hj => by
        by_cases ej : j = i
        · rw [ej, hq]; exact e
        · exact hI j (by omega))
      rw [show 4 * g + (i + 1) = q + 1 by omega] at this
      exact this
    have k83 : ∀ b : Bool, isB (A 35 q) (F (fct A q)) (A 36 q) = b → qX0_holds_83 6 Q (qX0_holds_7 6 Q k) ac f (nI g) (nI (4 * g)) (nI q) (bI b) := by
      intro b hb
      have ecd : cdB A F q = (b != (A 32 q == 1)) := by unfold cdB; rw [hb]
      unfold qX0_holds_83
      rw [nI_clamp (by omega), c1, ofI1, nI_add]
      refine ⟨vp_in_nI (by omega) (by decide), ?_⟩
      generalize (A 32 q == 1) = nt at *
      cases b <;> cases nt
      · exact c_y' rfl (hno ecd)
      · exact c_n' (by decide) (hgo ecd)
      · exact c_n' (by decide) (hgo ecd)
      · exact c_y' rfl (hno ecd)
    have sg := sgn61 d4 d5
    have k64 : ∀ (z : Int32) (b : Bool), isB (A 35 q) (F (fct A q)) (A 36 q) = b → ((z = nI (A 35 q) - 61) ↔ b = true) → qX0_holds_64 6 Q (qX0_holds_7 6 Q k) ac f (nI g) (nI (4 * g)) (nI q) z := by
      intro z b hb hz
      unfold qX0_holds_64
      rw [nI_clamp (by omega), c3]
      refine ⟨vp_in_nI (by omega) (by decide), ?_⟩
      cases b with
      | true => exact c_y' (hz.mpr rfl) (k83 true hb)
      | false => exact c_n' (fun e => absurd (hz.mp e) (by decide)) (k83 false hb)
    unfold qX0_holds_7
    rw [nI_clamp (by omega), nI_clamp (by omega), q31, nI_add, c2, c4, nI_clamp (by omega), hf _ f6]
    refine ⟨vp_in_nI hg96 (by decide), c_n (nI_ge (by omega) (by omega)) ⟨vp_in_nI (by omega) (by decide), vp_in_nI f6 (by decide), vp_in_nI (by omega) (by decide), ?_⟩⟩
    rw [sg] at k64
    generalize F (fct A q) = v at *
    refine c_le rfl rfl (by omega) (by omega) (fun h1 => ⟨vp_in_nI (by omega) (by decide), c_le rfl rfl (by omega) (by omega) (fun h2 => ?_) (fun h2 => ?_)⟩) (fun h1 => ?_)
    · refine k64 0 (decide (A 35 q = 61)) ?_ ?_
      · unfold isB
        rcases (show A 35 q = 60 ∨ A 35 q = 61 ∨ A 35 q = 62 by omega) with e | e | e <;> rw [e] <;> simp <;> omega
      · rcases (show A 35 q = 60 ∨ A 35 q = 61 ∨ A 35 q = 62 by omega) with e | e | e <;> rw [e] <;> decide
    · refine k64 1 (decide (A 35 q = 62)) ?_ ?_
      · unfold isB
        rcases (show A 35 q = 60 ∨ A 35 q = 61 ∨ A 35 q = 62 by omega) with e | e | e <;> rw [e] <;> simp <;> omega
      · rcases (show A 35 q = 60 ∨ A 35 q = 61 ∨ A 35 q = 62 by omega) with e | e | e <;> rw [e] <;> decide
    · refine k64 (-1) (decide (A 35 q = 60)) ?_ ?_
      · unfold isB
        rcases (show A 35 q = 60 ∨ A 35 q = 61 ∨ A 35 q = 62 by omega) with e | e | e <;> rw [e] <;> simp <;> omega
      · rcases (show A 35 q = 60 ∨ A 35 q = 61 ∨ A 35 q = 62 by omega) with e | e | e <;> rw [e] <;> decide
theorem N_firstHolding {ac : Md} {A : Nat → Nat → Nat} {c a kind : Nat} (hw : Wf A c) (h : Nac ac A) (ha : a ≤ A 54 0) (hk : kind ≤ 5) {F : Nat → Nat} {f : Nat → Int32} (hf : ∀ k, k < 6 → f k = nI (F k)) (hF : ∀ k, k < 6 → F k < 2 ^ 31) {Q : Int32 → Md → (Nat → Int32) → Prop} (hQ : Q (if fhA A F a kind = 0 then -1 else nI (12 * (a - 1) + (fhA A F a kind - 1))) ac f) : qX0_firstHolding 6 ac f (oI a) (nI kind) Q := by
  have b4 : A 54 0 ≤ 8 := hw.1.2.2.2.2.1
  unfold qX0_firstHolding
  by_cases h0 : a = 0
  · subst h0
    exact c_y' rfl hQ
  obtain ⟨a, rfl⟩ : ∃ k, a = k + 1 := ⟨a - 1, by omega⟩
  have er : fhA A F (a + 1) kind = fstF (fun l => (A 28 (12 * a + l) == kind) && hdB A F (12 * a + l)) (A 27 a) := by
    unfold fhA; rw [if_neg (by omega)]; rfl
  obtain ⟨-, w27, wl⟩ := hw.2.2.2.2.2.2.1 a (by omega)
  obtain ⟨-, q27, -, ql⟩ := h.2 a (by omega)
  rw [er, Nat.add_sub_cancel] at hQ
  rw [oI_s, nl_12, pk_mul, Nat.mul_comm a 12]
  refine c_n' (nI_m1 (by omega)) ?_
  refine pk_loop (fun k l (z : Unit) => qX0_firstHolding_17 6 Q k ac f (nI a) (nI kind) (nI (12 * a)) (nI (12 * a + l))) (fun l z => fstF (fun l => (A 28 (12 * a + l) == kind) && hdB A F (12 * a + l)) l = 0) (A 27 a) 0 () (by omega) rfl (fun k z hI => ?_) (fun k l z hl hI ih => ?_)
  · unfold qX0_firstHolding_17
    rw [nI_clamp (by omega), q27, nI_add]
    rw [hI] at hQ
    exact ⟨vp_in_nI (by omega) (by decide), c_y (nI_le (Nat.le_refl _) (by omega)) hQ⟩
  · have q28 := (ql l hl).1
    have w28 := (wl l hl).1
    unfold qX0_firstHolding_17
    rw [nI_clamp (by omega), q27, nI_add, nI_clamp (by omega), q28, ofI1, nI_add]
    refine ⟨vp_in_nI (by omega) (by decide), c_n (nI_ge (by omega) (by omega)) ⟨vp_in_nI (by omega) (by decide), c_eq' rfl rfl (by omega) (by omega) (fun e => ?_) (fun e => ?_)⟩⟩
    · refine N_holds hw h (by omega) hl hf hF ?_
      cases hb : hdB A F (12 * a + l) with
      | true =>
        have e := fstF_hit (f := fun l => (A 28 (12 * a + l) == kind) && hdB A F (12 * a + l)) hI (by show ((A 28 (12 * a + l) == kind) && hdB A F (12 * a + l)) = true; rw [e, hb, beq_self_eq_true]; rfl) (A 27 a) hl
        rw [e, if_neg (by omega), Nat.add_sub_cancel] at hQ
        exact b_1' hQ
      | false => exact b_0' (ih () (fstF_no hI (by show ((A 28 (12 * a + l) == kind) && hdB A F (12 * a + l)) = false; rw [hb, Bool.and_false])))
    · exact ih () (fstF_no hI (by show ((A 28 (12 * a + l) == kind) && hdB A F (12 * a + l)) = false; rw [beq_false_of_ne e, Bool.false_and]))
