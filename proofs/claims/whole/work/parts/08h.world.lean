/-- the model's ten counts -/
def RK (W : Nat → Int32) (K : Nat → Nat) (c : Nat) : Prop := (∀ k, k < 10 → W k = nI (K k)) ∧ K 0 < 400 ∧ K 1 ≤ 40 ∧ K 2 ≤ 80 ∧ K 3 ≤ 12 ∧ K 4 ≤ 8 ∧ K 5 ≤ 60 ∧ K 6 ≤ 200 ∧ K 7 ≤ 40 ∧ K 8 ≤ c ∧ K 9 ≤ c ∧ c ≤ 512
/-- places -/
def RPl (la : Md) (W : Nat → Int32) (K : Nat → Nat) (px py : Nat → Nat) : Prop := gF la 0 = nI (K 1) ∧ ∀ p, p < K 1 → px p < 1000 ∧ py p < 1000 ∧ gA la 1 p = nI (px p) ∧ W (10 + 2 * p) = nI (px p) ∧ gA la 2 p = nI (py p) ∧ W (11 + 2 * p) = nI (py p)
/-- the parents as told by the first k rows of a log up to the year y -/
def parF (pl : Nat → Nat) (of : Nat → Int32) (yr : Nat → Nat) : Nat → Nat → Nat → Int32
  | 0, _ => fun _ => -1
  | k + 1, y => if yr k ≤ y then va_up (parF pl of yr k y) (pl k) (of k) else parF pl of yr k y
/-- who counts where, up to the year y, by the first k counts -/
def ownF (cel cn cy : Nat → Nat) : Nat → Nat → Nat → Int32
  | 0, _ => fun _ => 0
  | k + 1, y => if cy k ≤ y then va_up (ownF cel cn cy k y) (cel k) (nI (cn k)) else ownF cel cn cy k y
/-- counts -/
def RCo (la : Md) (W : Nat → Int32) (K : Nat → Nat) (cel cn cy : Nat → Nat) : Prop := gF la 7 = nI (K 6) ∧ (∀ i, i < K 6 → cel i < 3 * K 1 ∧ cn i ≤ 2000 ∧ cy i ≤ K 0 ∧ gA la 8 i = nI (cel i) ∧ gA la 9 i = nI (cn i) ∧ gA la 10 i = nI (cy i) ∧ W (6690 + 4 * i) = nI (cel i / 3) ∧ W (6691 + 4 * i) = nI (cel i % 3) ∧ W (6692 + 4 * i) = nI (cn i) ∧ W (6693 + 4 * i) = nI (cy i)) ∧ (∀ i j, i < j → j < K 6 → cy i ≤ cy j) ∧ (∀ i j, i < j → j < K 6 → cel i = cel j → cy i ≠ cy j)
/-- a parent: none, or one of the P places -/
def isPar (P : Nat) (x : Int32) : Prop := x = -1 ∨ ∃ q : Nat, q < P ∧ x = nI q
/-- parents without a circle -/
def Acyc (P : Nat) (f : Nat → Int32) : Prop := ∃ rk : Nat → Nat, ∀ p, p < P → f p = -1 ∨ ∃ q : Nat, q < P ∧ f p = nI q ∧ rk q < rk p
/-- parts: the class's log of n rows, the model's of K 8 -/
def RPt (la : Md) (W : Nat → Int32) (K : Nat → Nat) (n : Nat) (pl : Nat → Nat) (of : Nat → Int32) (yr ql : Nat → Nat) (qf : Nat → Int32) (qy : Nat → Nat) : Prop :=
  n ≤ K 8 ∧ gF la 3 = nI n ∧ (∀ i, i < n → pl i < K 1 ∧ isPar (K 1) (of i) ∧ yr i ≤ K 0 ∧ gA la 4 i = nI (pl i) ∧ gA la 5 i = of i ∧ gA la 6 i = nI (yr i)) ∧ (∀ i j, i < j → j < n → yr i ≤ yr j) ∧ (∀ i j, i < j → j < n → pl i = pl j → yr i ≠ yr j) ∧
  (∀ i, i < K 8 → ql i < K 1 ∧ isPar (K 1) (qf i) ∧ qy i ≤ K 0 ∧ W (7610 + 3 * i) = nI (ql i) ∧ W (7611 + 3 * i) = qf i ∧ W (7612 + 3 * i) = nI (qy i)) ∧ (∀ i j, i < j → j < K 8 → qy i ≤ qy j) ∧
  (∀ y, parF pl of yr n y = parF ql qf qy (K 8) y) ∧ ∀ y, Acyc (K 1) (parF ql qf qy (K 8) y)
theorem nodup_le : ∀ (n : Nat) (l : List Nat), l.Nodup → (∀ x ∈ l, x < n) → l.length ≤ n := by
  intro n
  induction n with
  | zero =>
    intro l _ h
    cases l with
    | nil => simp
    | cons a l => exact absurd (h a (List.mem_cons_self)) (by omega)
  | succ n ih =>
    intro l hd h
    by_cases hm : n ∈ l
    · have h1 := ih (l.erase n) (hd.erase n) (fun x hx => by
        have h2 := List.mem_of_mem_erase hx
        have h3 := h x h2
        have h4 : x ≠ n := fun e => by
          subst e
          exact (List.Nodup.not_mem_erase hd) hx
        omega)
      rw [List.length_erase_of_mem hm] at h1
      omega
    · have h1 := ih l hd (fun x hx => by
        have h3 := h x hx
        have h4 : x ≠ n := fun e => hm (e ▸ hx)
        omega)
      omega
