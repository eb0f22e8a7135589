theorem zi_toInt {z : Int} (h1 : -2147483648 ≤ z) (h2 : z < 2147483648) : (Int32.ofInt z).toInt = z := Int32.toInt_ofInt_of_le h1 h2
theorem zi_add (a b : Int) : Int32.ofInt a + Int32.ofInt b = Int32.ofInt (a + b) := (Int32.ofInt_add a b).symm
theorem zi_nI (n : Nat) : nI n = Int32.ofInt n := rfl
theorem zi_lt {a b : Int} (a1 : -2147483648 ≤ a) (a2 : a < 2147483648) (b1 : -2147483648 ≤ b) (b2 : b < 2147483648) : Int32.ofInt a < Int32.ofInt b ↔ a < b := by
  rw [Int32.lt_iff_toInt_lt, zi_toInt a1 a2, zi_toInt b1 b2]
theorem zi_eq {a b : Int} (a1 : -2147483648 ≤ a) (a2 : a < 2147483648) (b1 : -2147483648 ≤ b) (b2 : b < 2147483648) : Int32.ofInt a = Int32.ofInt b ↔ a = b := by
  rw [← Int32.toInt_inj, zi_toInt a1 a2, zi_toInt b1 b2]
/-- the greatest value among the free ones below c, and the first that has it -/
def bV (fr : Nat → Bool) (val : Nat → Int) : Nat → Int
  | 0 => -1000000
  | c + 1 => if fr c = true ∧ bV fr val c < val c then val c else bV fr val c
def bC (fr : Nat → Bool) (val : Nat → Int) : Nat → Nat
  | 0 => 0
  | c + 1 => if fr c = true ∧ bV fr val c < val c then c else bC fr val c
theorem bV_ge {fr : Nat → Bool} {val : Nat → Int} : ∀ k c, c < k → fr c = true → val c ≤ bV fr val k := by
  intro k
  induction k with
  | zero => intro c h; omega
  | succ k ih =>
    intro c hc hf
    show val c ≤ if fr k = true ∧ bV fr val k < val k then val k else bV fr val k
    by_cases e : c = k
    · subst e
      by_cases h : bV fr val c < val c
      · rw [if_pos ⟨hf, h⟩]; omega
      · rw [if_neg (fun z => h z.2)]; omega
    · have := ih c (by omega) hf
      split <;> omega
theorem bV_le {fr : Nat → Bool} {val : Nat → Int} {hi : Int} (h0 : -1000000 ≤ hi) : ∀ k, (∀ c, c < k → fr c = true → val c ≤ hi) → bV fr val k ≤ hi := by
  intro k
  induction k with
  | zero => intro _; exact h0
  | succ k ih =>
    intro h
    show (if fr k = true ∧ bV fr val k < val k then val k else bV fr val k) ≤ hi
    split
    · rename_i z; exact h k (by omega) z.1
    · exact ih (fun c hc => h c (by omega))
theorem bC_is {fr : Nat → Bool} {val : Nat → Int} : ∀ k, (bV fr val k = -1000000 ∧ ∀ c, c < k → fr c = true → val c ≤ -1000000) ∨ (bC fr val k < k ∧ fr (bC fr val k) = true ∧ val (bC fr val k) = bV fr val k ∧ ∀ c, c < bC fr val k → fr c = true → val c < bV fr val k) := by
  intro k
  induction k with
  | zero => exact Or.inl ⟨rfl, fun c h => by omega⟩
  | succ k ih =>
    have e1 : bV fr val (k + 1) = if fr k = true ∧ bV fr val k < val k then val k else bV fr val k := rfl
    have e2 : bC fr val (k + 1) = if fr k = true ∧ bV fr val k < val k then k else bC fr val k := rfl
    by_cases h : fr k = true ∧ bV fr val k < val k
    · rw [if_pos h] at e1 e2
      rw [e1, e2]
      refine Or.inr ⟨by omega, h.1, rfl, fun c hc hf => ?_⟩
      have := bV_ge (val := val) k c hc hf
      omega
    · rw [if_neg h] at e1 e2
      rw [e1, e2]
      rcases ih with ⟨q1, q2⟩ | ⟨q1, q2, q3, q4⟩
      · refine Or.inl ⟨q1, fun c hc hf => ?_⟩
        by_cases e : c = k
        · subst e
          have : ¬ bV fr val c < val c := fun z => h ⟨hf, z⟩
          omega
        · exact q2 c (by omega) hf
      · exact Or.inr ⟨by omega, q2, q3, q4⟩
theorem bV_cg {fr : Nat → Bool} {val val' : Nat → Int} : ∀ k, (∀ c, c < k → fr c = true → val c = val' c) → bV fr val k = bV fr val' k := by
  intro k
  induction k with
  | zero => intro _; rfl
  | succ k ih =>
    intro h
    show (if fr k = true ∧ bV fr val k < val k then val k else bV fr val k) = (if fr k = true ∧ bV fr val' k < val' k then val' k else bV fr val' k)
    rw [ih (fun c hc => h c (by omega))]
    by_cases e : fr k = true
    · rw [h k (by omega) e]
    · rw [if_neg (fun z => e z.1), if_neg (fun z => e z.1)]
/-- what a near place adds -/
def bon (nr : Nat → Nat → Bool) (l c : Nat) : Int := if l = 0 then 0 else if nr (l - 1) c = true then 3 else 0
/-- the greatest sum of the r last names, with S joined and l the last of them (0: none) -/
def jV (k n : Nat) (g : Nat → Nat → Int) (nr : Nat → Nat → Bool) : Nat → Nat → Nat → Int
  | 0 => fun _ _ => 0
  | r + 1 => fun S l => bV (fun c => !S.testBit c) (fun c => g (n - (r + 1)) c + bon nr l c + jV k n g nr r (S ||| 2 ^ c) (c + 1)) k
/-- the first choice of a best row -/
def jC (k n : Nat) (g : Nat → Nat → Int) (nr : Nat → Nat → Bool) (r S l : Nat) : Nat :=
  bC (fun c => !S.testBit c) (fun c => g (n - (r + 1)) c + bon nr l c + jV k n g nr r (S ||| 2 ^ c) (c + 1)) k
def pc (S : Nat) : Nat := bs (fun _ => 1) S 10
theorem or_bit {S c i : Nat} : (S ||| 2 ^ c).testBit i = (S.testBit i || decide (c = i)) := by
  rw [Nat.testBit_or, Nat.testBit_two_pow]
theorem or_lt {S c k : Nat} (hS : S < 2 ^ k) (hc : c < k) : S ||| 2 ^ c < 2 ^ k := Nat.or_lt_two_pow hS (Nat.pow_lt_pow_right (by decide) hc)
theorem pc_or {S c : Nat} (hc : c < 10) (h : S.testBit c = false) : pc (S ||| 2 ^ c) = pc S + 1 := by
  have e : ∀ w, bs (fun _ => 1) (S ||| 2 ^ c) w = bs (fun _ => 1) S w + if c < w then 1 else 0 := by
    intro w
    induction w with
    | zero => rfl
    | succ w ih =>
      show bs (fun _ => 1) (S ||| 2 ^ c) w + (if (S ||| 2 ^ c).testBit w = true then 1 else 0) = bs (fun _ => 1) S w + (if S.testBit w = true then 1 else 0) + if c < w + 1 then 1 else 0
      rw [ih, or_bit]
      by_cases e : c = w
      · subst e
        rw [h, if_neg (Nat.lt_irrefl c), if_pos (Nat.lt_succ_self c)]
        simp
      · rw [decide_eq_false e, Bool.or_false]
        by_cases e2 : c < w
        · rw [if_pos e2, if_pos (show c < w + 1 by omega)]; omega
        · rw [if_neg e2, if_neg (show ¬ c < w + 1 by omega)]
          rfl
  have := e 10
  rw [if_pos hc] at this
  exact this
theorem pc_free {S k : Nat} (h : pc S < k) (hk : k ≤ 10) : ∃ c, c < k ∧ S.testBit c = false := by
  apply Classical.byContradiction
  intro hn
  have all : ∀ c, c < k → S.testBit c = true := fun c hc => by
    cases e : S.testBit c with
    | true => rfl
    | false => exact absurd ⟨c, hc, e⟩ hn
  have e : ∀ w, w ≤ k → bs (fun _ => 1) S w = w := by
    intro w
    induction w with
    | zero => intro _; rfl
    | succ w ih =>
      intro hw
      show bs (fun _ => 1) S w + (if S.testBit w = true then 1 else 0) = w + 1
      rw [ih (by omega), if_pos (all w (by omega))]
  have e2 : ∀ d, bs (fun _ => 1) S k ≤ bs (fun _ => 1) S (k + d) := by
    intro d
    induction d with
    | zero => exact Nat.le_refl _
    | succ d ih => exact Nat.le_trans ih (Nat.le_add_right _ _)
  have := e2 (10 - k)
  rw [show k + (10 - k) = 10 by omega, e k (Nat.le_refl _)] at this
  unfold pc at h
  omega
theorem bon_b (nr : Nat → Nat → Bool) (l c : Nat) : 0 ≤ bon nr l c ∧ bon nr l c ≤ 3 := by
  unfold bon; split
  · omega
  · split <;> omega
theorem jV_b {k n : Nat} {g : Nat → Nat → Int} {nr : Nat → Nat → Bool} (hk : k ≤ 10) (hg : ∀ i c, i < n → c < k → -60 ≤ g i c ∧ g i c ≤ 20) : ∀ r S l, r ≤ n → pc S + r ≤ k → -60 * (r : Int) ≤ jV k n g nr r S l ∧ jV k n g nr r S l ≤ 23 * (r : Int) := by
  intro r
  induction r with
  | zero => intro S l _ _; show _ ≤ (0 : Int) ∧ (0 : Int) ≤ _; omega
  | succ r ih =>
    intro S l hr hp
    have vb : ∀ c, c < k → (!S.testBit c) = true → -60 * ((r + 1 : Nat) : Int) ≤ g (n - (r + 1)) c + bon nr l c + jV k n g nr r (S ||| 2 ^ c) (c + 1) ∧ g (n - (r + 1)) c + bon nr l c + jV k n g nr r (S ||| 2 ^ c) (c + 1) ≤ 23 * ((r + 1 : Nat) : Int) := fun c hc hf => by
      have hf' : S.testBit c = false := by simpa using hf
      have h1 := hg (n - (r + 1)) c (by omega) hc
      have h2 := bon_b nr l c
      have h3 := ih (S ||| 2 ^ c) (c + 1) (by omega) (by rw [pc_or (by omega) hf']; omega)
      omega
    obtain ⟨c, hc, hf⟩ := pc_free (S := S) (k := k) (by omega) hk
    have hf' : (!S.testBit c) = true := by rw [hf]; rfl
    show _ ≤ bV _ _ k ∧ bV _ _ k ≤ _
    exact ⟨Int.le_trans (vb c hc hf').1 (bV_ge k c hc hf'), bV_le (by omega) k (fun c hc hf => (vb c hc hf).2)⟩
/-- the first choice: free, best, and no earlier one is as good -/
theorem jC_is {k n : Nat} {g : Nat → Nat → Int} {nr : Nat → Nat → Bool} (hk : k ≤ 10) (hn : n ≤ 7) (hg : ∀ i c, i < n → c < k → -60 ≤ g i c ∧ g i c ≤ 20) {r S l : Nat} (hr : r + 1 ≤ n) (hp : pc S + (r + 1) ≤ k) :
    jC k n g nr r S l < k ∧ S.testBit (jC k n g nr r S l) = false ∧ g (n - (r + 1)) (jC k n g nr r S l) + bon nr l (jC k n g nr r S l) + jV k n g nr r (S ||| 2 ^ jC k n g nr r S l) (jC k n g nr r S l + 1) = jV k n g nr (r + 1) S l ∧
    ∀ c, c < jC k n g nr r S l → S.testBit c = false → g (n - (r + 1)) c + bon nr l c + jV k n g nr r (S ||| 2 ^ c) (c + 1) < jV k n g nr (r + 1) S l := by
  have hb := (jV_b (nr := nr) hk hg (r + 1) S l hr hp).1
  rcases bC_is (fr := fun c => !S.testBit c) (val := fun c => g (n - (r + 1)) c + bon nr l c + jV k n g nr r (S ||| 2 ^ c) (c + 1)) k with ⟨q, -⟩ | ⟨q1, q2, q3, q4⟩
  · have : jV k n g nr (r + 1) S l = -1000000 := q
    omega
  · exact ⟨q1, by unfold jC; simpa using q2, q3, fun c hc hf => q4 c hc (by rw [hf]; rfl)⟩
theorem sh10 : ∀ i : Fin 10, ((nI i.val &&& 31).toBitVec.smod 32).toNat = i.val := by decide +kernel
theorem bit10 {T i : Nat} (hT : T < 2 ^ 31) (hi : i < 10) : ((nI T >>> (nI i &&& 31)) &&& 1) = nI (if T.testBit i = true then 1 else 0) := by
  rw [pk_shrN hT _ i (sh10 ⟨i, hi⟩)]
  have : T / 2 ^ i ≤ T := Nat.div_le_self _ _
  rw [pk_andN (by omega) 1 rfl, Nat.testBit_eq_decide_div_mod_eq]
  congr 1
  have h2 : T / 2 ^ i % 2 < 2 := Nat.mod_lt _ (by decide)
  by_cases e : T / 2 ^ i % 2 = 1
  · rw [if_pos (by simpa using e)]; exact e
  · rw [if_neg (by simpa using e)]; show T / 2 ^ i % 2 ^ 1 = 0; omega
theorem one_shl10 : ∀ k : Fin 11, ((1 : Int32) <<< (nI k.val &&& 31)) = nI (2 ^ k.val) := by decide +kernel
theorem nI_or {a b : Nat} (ha : a < 2 ^ 31) (hb : b < 2 ^ 31) : nI a ||| nI b = nI (a ||| b) := by
  apply Int32.toBitVec_inj.1
  show BitVec.ofNat 32 a ||| BitVec.ofNat 32 b = BitVec.ofNat 32 (a ||| b)
  apply BitVec.eq_of_toNat_eq
  have : a ||| b < 2 ^ 31 := Nat.or_lt_two_pow ha hb
  rw [BitVec.toNat_or, BitVec.toNat_ofNat, BitVec.toNat_ofNat, BitVec.toNat_ofNat, Nat.mod_eq_of_lt (by omega), Nat.mod_eq_of_lt (by omega), Nat.mod_eq_of_lt (by omega)]
theorem or_nI {S c : Nat} (hS : S < 1024) (hc : c < 10) : nI S ||| ((1 : Int32) <<< (nI c &&& 31)) = nI (S ||| 2 ^ c) := by
  rw [one_shl10 ⟨c, by omega⟩]
  have : 2 ^ c < 2 ^ 10 := Nat.pow_lt_pow_right (by decide) hc
  exact nI_or (by omega) (by show 2 ^ c < _; omega)
