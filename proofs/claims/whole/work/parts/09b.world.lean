/-- when a person died: 0 none, 1 alive, y + 2 the year y -/
def dI (n : Nat) : Int32 := if n = 0 then -1 else if n = 1 then -9 else nI (n - 2)
/-- the parents that the first k rows of a log tell up to the year y: 0 none, q + 1 the place q -/
def parF (pl of yr : Nat → Nat) (y : Nat) : Nat → Nat → Nat
  | 0 => fun _ => 0
  | k + 1 => if yr k ≤ y then va_up (parF pl of yr y k) (pl k) (of k) else parF pl of yr y k
def parA (A : Nat → Nat → Nat) (y : Nat) : Nat → Nat := parF (A 3) (A 4) (A 5) y (A 58 0)
/-- the people that the first k counts tell up to the year y, by cells -/
def ownF (pl to nn yr : Nat → Nat) (y : Nat) : Nat → Nat → Nat
  | 0 => fun _ => 0
  | k + 1 => if yr k ≤ y then va_up (ownF pl to nn yr y k) (3 * pl k + to k) (nn k) else ownF pl to nn yr y k
def ownA (A : Nat → Nat → Nat) (y : Nat) : Nat → Nat := ownF (A 6) (A 7) (A 8) (A 9) y (A 56 0)
/-- the last of the first k that is of t and told up to y: 0 none, s + 1 -/
def lastF (to yr : Nat → Nat) (t y : Nat) : Nat → Nat
  | 0 => 0
  | k + 1 => if to k = t ∧ yr k ≤ y then k + 1 else lastF to yr t y k
def spA (A : Nat → Nat → Nat) (t y : Nat) : Nat := lastF (A 15) (A 16) t y (A 53 0)
def acA (A : Nat → Nat → Nat) (y : Nat) : Nat := lastF (fun _ => 0) (A 26) 0 y (A 54 0)
/-- the names that lie one on the other by the first k events: the last told ahead -/
def stkF (pl to na yr : Nat → Nat) (p t y : Nat) : Nat → List Nat
  | 0 => []
  | k + 1 => if pl k = p ∧ to k = t ∧ yr k ≤ y then (if na k = 0 then (stkF pl to na yr p t y k).tail else (na k - 1) :: stkF pl to na yr p t y k) else stkF pl to na yr p t y k
def stkA (A : Nat → Nat → Nat) (p t y : Nat) : List Nat := stkF (A 43) (A 44) (A 45) (A 46) p t y (A 59 0)
/-- how many of the first k hold -/
def cntF (f : Nat → Bool) : Nat → Nat
  | 0 => 0
  | k + 1 => cntF f k + (if f k then 1 else 0)
def Acyc (P : Nat) (f : Nat → Nat) : Prop := ∃ rk : Nat → Nat, ∀ p, p < P → f p = 0 ∨ (f p ≤ P ∧ rk (f p - 1) < rk p)
/-- nothing was told between x and y -/
def Same (A : Nat → Nat → Nat) (x y : Nat) : Prop := parA A x = parA A y ∧ ownA A x = ownA A y ∧ (∀ t, spA A t x = spA A t y) ∧ acA A x = acA A y ∧ ∀ p t, stkA A p t x = stkA A p t y
/-! the reference's row -/
def Msc (V : Nat → Int32) (A : Nat → Nat → Nat) : Prop := V 0 = nI (A 50 0) ∧ V 1 = nI (A 51 0) ∧ V 2 = nI (A 52 0) ∧ V 3 = nI (A 53 0) ∧ V 4 = nI (A 54 0) ∧ V 5 = nI (A 55 0) ∧ V 6 = nI (A 56 0) ∧ V 7 = nI (A 57 0) ∧ V 8 = nI (A 58 0) ∧ V 9 = nI (A 59 0)
def Mpl (V : Nat → Int32) (A : Nat → Nat → Nat) : Prop := ∀ p, p < A 51 0 → V (10 + 2 * p) = nI (A 1 p) ∧ V (10 + 2 * p + 1) = nI (A 2 p)
def Mpt (V : Nat → Int32) (A : Nat → Nat → Nat) : Prop := ∀ k, k < A 58 0 → V (7610 + 3 * k) = nI (A 3 k) ∧ V (7610 + 3 * k + 1) = oI (A 4 k) ∧ V (7610 + 3 * k + 2) = nI (A 5 k)
def Mco (V : Nat → Int32) (A : Nat → Nat → Nat) : Prop := ∀ k, k < A 56 0 → V (6690 + 4 * k) = nI (A 6 k) ∧ V (6690 + 4 * k + 1) = nI (A 7 k) ∧ V (6690 + 4 * k + 2) = nI (A 8 k) ∧ V (6690 + 4 * k + 3) = nI (A 9 k)
def Mna (V : Nat → Int32) (A : Nat → Nat → Nat) : Prop := ∀ n, n < A 52 0 → V (90 + 16 * n) = nI (A 10 n) ∧ V (90 + 16 * n + 1) = nI (A 11 n) ∧ V (90 + 16 * n + 2) = dI (A 12 n) ∧ V (90 + 16 * n + 3) = nI (A 13 n) ∧ ∀ j, j < A 13 n → V (90 + 16 * n + 4 + j) = nI (A 14 (12 * n + j))
def Msp (V : Nat → Int32) (A : Nat → Nat → Nat) : Prop := ∀ s, s < A 53 0 → V (1370 + 195 * s) = nI (A 15 s) ∧ V (1370 + 195 * s + 1) = nI (A 16 s) ∧ V (1370 + 195 * s + 2) = nI (A 17 s) ∧ ∀ r, r < A 17 s → V (1370 + 195 * s + 3 + 12 * r) = nI (A 18 (16 * s + r)) ∧ V (1370 + 195 * s + 3 + 12 * r + 1) = nI (A 19 (16 * s + r)) ∧ V (1370 + 195 * s + 3 + 12 * r + 2) = nI (A 20 (16 * s + r)) ∧ (∀ j, j < A 20 (16 * s + r) → V (1370 + 195 * s + 3 + 12 * r + 3 + j) = nI (A 21 (3 * (16 * s + r) + j))) ∧ V (1370 + 195 * s + 3 + 12 * r + 6) = nI (A 22 (16 * s + r)) ∧ (∀ j, j < A 22 (16 * s + r) → V (1370 + 195 * s + 3 + 12 * r + 7 + j) = nI (A 23 (3 * (16 * s + r) + j))) ∧ V (1370 + 195 * s + 3 + 12 * r + 10) = nI (A 24 (16 * s + r)) ∧ V (1370 + 195 * s + 3 + 12 * r + 11) = nI (A 25 (16 * s + r))
def Mac (V : Nat → Int32) (A : Nat → Nat → Nat) : Prop := ∀ a, a < A 54 0 → V (3710 + 290 * a) = nI (A 26 a) ∧ V (3710 + 290 * a + 1) = nI (A 27 a) ∧ ∀ l, l < A 27 a → V (3710 + 290 * a + 2 + 24 * l) = nI (A 28 (12 * a + l)) ∧ V (3710 + 290 * a + 2 + 24 * l + 1) = nI (A 29 (12 * a + l)) ∧ V (3710 + 290 * a + 2 + 24 * l + 2) = nI (A 30 (12 * a + l)) ∧ V (3710 + 290 * a + 2 + 24 * l + 3) = nI (A 31 (12 * a + l)) ∧ ∀ c, c < A 31 (12 * a + l) → V (3710 + 290 * a + 2 + 24 * l + 4 + 5 * c) = nI (A 32 (4 * (12 * a + l) + c)) ∧ V (3710 + 290 * a + 2 + 24 * l + 4 + 5 * c + 1) = nI (A 33 (4 * (12 * a + l) + c)) ∧ V (3710 + 290 * a + 2 + 24 * l + 4 + 5 * c + 2) = nI (A 34 (4 * (12 * a + l) + c)) ∧ V (3710 + 290 * a + 2 + 24 * l + 4 + 5 * c + 3) = nI (A 35 (4 * (12 * a + l) + c)) ∧ V (3710 + 290 * a + 2 + 24 * l + 4 + 5 * c + 4) = nI (A 36 (4 * (12 * a + l) + c))
def Mhe (V : Nat → Int32) (A : Nat → Nat → Nat) : Prop := ∀ h, h < A 55 0 → V (6030 + 11 * h) = nI (A 37 h) ∧ V (6030 + 11 * h + 1) = nI (A 38 h) ∧ ∀ v, v < 9 → V (6030 + 11 * h + 2 + v) = nI (A 39 (9 * h + v))
def Msi (V : Nat → Int32) (A : Nat → Nat → Nat) : Prop := ∀ s, s < A 57 0 → V (7490 + 3 * s) = nI (A 40 s) ∧ V (7490 + 3 * s + 1) = nI (A 41 s) ∧ V (7490 + 3 * s + 2) = nI (A 42 s)
def Mev (V : Nat → Int32) (A : Nat → Nat → Nat) : Prop := ∀ k, k < A 59 0 → V (9170 + 4 * k) = nI (A 43 k) ∧ V (9170 + 4 * k + 1) = nI (A 44 k) ∧ V (9170 + 4 * k + 2) = oI (A 45 k) ∧ V (9170 + 4 * k + 3) = nI (A 46 k)
def MW (V : Nat → Int32) (A : Nat → Nat → Nat) : Prop := Msc V A ∧ Mpl V A ∧ Mpt V A ∧ Mco V A ∧ Mna V A ∧ Msp V A ∧ Mac V A ∧ Mhe V A ∧ Msi V A ∧ Mev V A
/-! what holds of the numbers -/
def Wsc (A : Nat → Nat → Nat) (c : Nat) : Prop := A 50 0 < 400 ∧ A 51 0 ≤ 40 ∧ A 52 0 ≤ 80 ∧ A 53 0 ≤ 12 ∧ A 54 0 ≤ 8 ∧ A 55 0 ≤ 60 ∧ A 56 0 ≤ 200 ∧ A 57 0 ≤ 40 ∧ A 58 0 ≤ c ∧ A 59 0 ≤ c ∧ c ≤ 512
def Wpl (A : Nat → Nat → Nat) : Prop := ∀ p, p < A 51 0 → A 1 p < 1000 ∧ A 2 p < 1000
def Wpt (A : Nat → Nat → Nat) : Prop := (∀ k, k < A 58 0 → A 3 k < A 51 0 ∧ A 4 k ≤ A 51 0 ∧ A 5 k ≤ A 50 0) ∧ (∀ i j, i < j → j < A 58 0 → A 5 i ≤ A 5 j) ∧ ∀ y, Acyc (A 51 0) (parA A y)
def Wco (A : Nat → Nat → Nat) : Prop := (∀ k, k < A 56 0 → A 6 k < A 51 0 ∧ A 7 k < 3 ∧ A 8 k ≤ 2000 ∧ A 9 k ≤ A 50 0) ∧ (∀ i j, i < j → j < A 56 0 → A 9 i ≤ A 9 j) ∧ (∀ i j, i < j → j < A 56 0 → A 6 i = A 6 j → A 7 i = A 7 j → A 9 i ≠ A 9 j)
def Wna (A : Nat → Nat → Nat) : Prop := ∀ n, n < A 52 0 → A 10 n < A 51 0 ∧ A 11 n < 3 ∧ A 12 n ≤ A 50 0 + 2 ∧ 1 ≤ A 13 n ∧ A 13 n ≤ 12 ∧ ∀ j, j < A 13 n → 97 ≤ A 14 (12 * n + j) ∧ A 14 (12 * n + j) ≤ 122
def Wru (A : Nat → Nat → Nat) (q : Nat) : Prop := A 18 q ≤ 2 ∧ A 19 q < 2 ^ 26 ∧ 1 ≤ A 20 q ∧ A 20 q ≤ 3 ∧ (∀ j, j < A 20 q → 97 ≤ A 21 (3 * q + j) ∧ A 21 (3 * q + j) ≤ 122) ∧ A 22 q ≤ 3 ∧ (∀ j, j < A 22 q → 97 ≤ A 23 (3 * q + j) ∧ A 23 (3 * q + j) ≤ 122) ∧ A 24 q ≤ 2 ∧ A 25 q < 2 ^ 26
def Wsp (A : Nat → Nat → Nat) : Prop := ∀ s, s < A 53 0 → A 15 s < 3 ∧ A 16 s ≤ A 50 0 ∧ A 17 s ≤ 16 ∧ ∀ r, r < A 17 s → Wru A (16 * s + r)
def Wcd (A : Nat → Nat → Nat) (q : Nat) : Prop := A 32 q ≤ 1 ∧ A 33 q ≤ 3 ∧ A 34 q ≤ 2 ∧ 60 ≤ A 35 q ∧ A 35 q ≤ 62 ∧ A 36 q ≤ 9999
def Wln (A : Nat → Nat → Nat) (q : Nat) : Prop := A 28 q ≤ 5 ∧ A 29 q ≤ 9999 ∧ (A 28 q = 0 → A 29 q ≤ 2) ∧ A 30 q ≤ 9999 ∧ A 31 q ≤ 4 ∧ ∀ c, c < A 31 q → Wcd A (4 * q + c)
def Wac (A : Nat → Nat → Nat) : Prop := ∀ a, a < A 54 0 → A 26 a ≤ A 50 0 ∧ A 27 a ≤ 12 ∧ ∀ l, l < A 27 a → Wln A (12 * a + l)
def Whe (A : Nat → Nat → Nat) : Prop := (∀ h, h < A 55 0 → A 37 h < A 52 0 ∧ A 38 h ≤ 1 ∧ ∀ v, v < 9 → A 39 (9 * h + v) ≤ 2) ∧ cntF (fun k => A 45 k != 0) (A 59 0) + cntF (fun h => A 38 h == 1) (A 55 0) ≤ A 55 0
def Wsi (A : Nat → Nat → Nat) : Prop := ∀ s, s < A 57 0 → A 40 s < A 51 0 ∧ A 41 s ≤ 9999 ∧ A 42 s ≤ A 50 0
def Wev (A : Nat → Nat → Nat) : Prop := (∀ k, k < A 59 0 → A 43 k < A 51 0 ∧ A 44 k < 3 ∧ A 45 k ≤ A 52 0 ∧ A 46 k ≤ A 50 0) ∧ (∀ i j, i < j → j < A 59 0 → A 46 i ≤ A 46 j) ∧ (∀ k, k < A 59 0 → A 45 k = 0 → stkF (A 43) (A 44) (A 45) (A 46) (A 43 k) (A 44 k) 400 k ≠ [])
def Wf (A : Nat → Nat → Nat) (c : Nat) : Prop := Wsc A c ∧ Wpl A ∧ Wpt A ∧ Wco A ∧ Wna A ∧ Wsp A ∧ Wac A ∧ Whe A ∧ Wsi A ∧ Wev A
/-! the code's objects -/
def Nst (st : Md) (A : Nat → Nat → Nat) : Prop := gF st 0 = nI (A 50 0) ∧ ∀ y, y + 1 < 400 → gZ st 1 (y + 1) = false → Same A (y + 1) y
def Npl (la : Md) (A : Nat → Nat → Nat) : Prop := gF la 0 = nI (A 51 0) ∧ ∀ p, p < A 51 0 → gA la 1 p = nI (A 1 p) ∧ gA la 2 p = nI (A 2 p)
def Npt (la : Md) (A : Nat → Nat → Nat) : Prop := ∃ (n : Nat) (pl of yr : Nat → Nat), n ≤ A 58 0 ∧ gF la 3 = nI n ∧ (∀ i, i < n → pl i < A 51 0 ∧ of i ≤ A 51 0 ∧ yr i ≤ A 50 0 ∧ gA la 4 i = nI (pl i) ∧ gA la 5 i = oI (of i) ∧ gA la 6 i = nI (yr i)) ∧ (∀ i j, i < j → j < n → yr i ≤ yr j) ∧ (∀ i j, i < j → j < n → pl i = pl j → yr i ≠ yr j) ∧ ∀ y, parF pl of yr y n = parA A y
def Nco (la : Md) (A : Nat → Nat → Nat) : Prop := gF la 7 = nI (A 56 0) ∧ ∀ i, i < A 56 0 → gA la 8 i = nI (3 * A 6 i + A 7 i) ∧ gA la 9 i = nI (A 8 i) ∧ gA la 10 i = nI (A 9 i)
def Nla (la : Md) (A : Nat → Nat → Nat) : Prop := Npl la A ∧ Npt la A ∧ Nco la A
def Nna (sp : Md) (A : Nat → Nat → Nat) : Prop := gF sp 0 = nI (A 52 0) ∧ ∀ n, n < A 52 0 → gA sp 1 n = nI (A 10 n) ∧ gA sp 2 n = nI (A 11 n) ∧ gA sp 3 n = dI (A 12 n) ∧ gA sp 4 n = nI (A 13 n) ∧ (gB sp 5 (14 * n)).toInt32 = nI 123 ∧ (∀ j, j < A 13 n → (gB sp 5 (14 * n + 1 + j)).toInt32 = nI (A 14 (12 * n + j))) ∧ (gB sp 5 (14 * n + 1 + A 13 n)).toInt32 = nI 123
/-- a set as the code has it -/
def msk (k m : Nat) : Nat := if k = 0 then 2 ^ 27 - 1 else if k = 1 then 2 ^ 26 else m
def Nsp (sp : Md) (A : Nat → Nat → Nat) : Prop := gF sp 6 = nI (A 53 0) ∧ ∀ s, s < A 53 0 → gA sp 7 s = nI (A 15 s) ∧ gA sp 8 s = nI (A 16 s) ∧ gA sp 9 s = nI (A 17 s) ∧ ∀ r, r < A 17 s → gA sp 10 (16 * s + r) = nI (msk (A 18 (16 * s + r)) (A 19 (16 * s + r))) ∧ gA sp 11 (16 * s + r) = nI (msk (A 24 (16 * s + r)) (A 25 (16 * s + r))) ∧ gA sp 12 (16 * s + r) = nI (A 20 (16 * s + r)) ∧ gA sp 13 (16 * s + r) = nI (A 22 (16 * s + r)) ∧ (∀ j, j < A 20 (16 * s + r) → (gB sp 14 (3 * (16 * s + r) + j)).toInt32 = nI (A 21 (3 * (16 * s + r) + j))) ∧ ∀ j, j < A 22 (16 * s + r) → (gB sp 15 (3 * (16 * s + r) + j)).toInt32 = nI (A 23 (3 * (16 * s + r) + j))
def Nsc (sp : Md) (A : Nat → Nat → Nat) : Prop := Nna sp A ∧ Nsp sp A
/-- what a condition looks at, as the code has it: 0 .. 2 shares, 3 people, 4 parts, 5 the year -/
def fct (A : Nat → Nat → Nat) (q : Nat) : Nat := if A 33 q = 0 then A 34 q else A 33 q + 2
def Nac (ac : Md) (A : Nat → Nat → Nat) : Prop := gF ac 0 = nI (A 54 0) ∧ ∀ a, a < A 54 0 → gA ac 1 a = nI (A 26 a) ∧ gA ac 2 a = nI (A 27 a) ∧ (gZ ac 3 a = false → ∀ l, l < A 27 a → ∀ c, c < A 31 (12 * a + l) → A 33 (4 * (12 * a + l) + c) ≠ 3) ∧ ∀ l, l < A 27 a → gA ac 4 (12 * a + l) = nI (A 28 (12 * a + l)) ∧ gA ac 5 (12 * a + l) = nI (A 29 (12 * a + l)) ∧ gA ac 6 (12 * a + l) = nI (A 30 (12 * a + l)) ∧ gA ac 7 (12 * a + l) = nI (A 31 (12 * a + l)) ∧ ∀ c, c < A 31 (12 * a + l) → gZ ac 8 (4 * (12 * a + l) + c) = (A 32 (4 * (12 * a + l) + c) == 1) ∧ gA ac 9 (4 * (12 * a + l) + c) = nI (fct A (4 * (12 * a + l) + c)) ∧ gA ac 10 (4 * (12 * a + l) + c) = nI (A 35 (4 * (12 * a + l) + c)) - 61 ∧ gA ac 11 (4 * (12 * a + l) + c) = nI (A 36 (4 * (12 * a + l) + c))
/-- the bits of the members m < k of whom f holds -/
def bitF (f : Nat → Bool) : Nat → Nat
  | 0 => 0
  | k + 1 => bitF f k + (if f k then 2 ^ k else 0)
def Nhe (bd : Md) (A : Nat → Nat → Nat) : Prop := gF bd 0 = nI (A 55 0) ∧ ∀ h, h < A 55 0 → gA bd 1 h = nI (A 37 h) ∧ gA bd 2 h = nI (A 10 (A 37 h)) ∧ gZ bd 3 h = (A 38 h == 1) ∧ gA bd 4 h = nI (bitF (fun v => A 39 (9 * h + v) != 0) 9) ∧ gA bd 5 h = nI (bitF (fun v => A 39 (9 * h + v) == 1) 9)
/-- the names that lie one on the other by the code's first k settlings -/
def stkC (na pl to yr un : Nat → Nat) (p t y : Nat) : Nat → List Nat
  | 0 => []
  | k + 1 => if pl k = p ∧ to k = t ∧ yr k ≤ y ∧ y < un k then na k :: stkC na pl to yr un p t y k else stkC na pl to yr un p t y k
def Nse (bd : Md) (A : Nat → Nat → Nat) : Prop := ∃ (n : Nat) (na pl to yr un : Nat → Nat), n = cntF (fun k => A 45 k != 0) (A 59 0) ∧ gF bd 6 = nI n ∧ (∀ i, i < n → na i < A 52 0 ∧ pl i < A 51 0 ∧ to i < 3 ∧ yr i ≤ A 50 0 ∧ un i ≤ 400 ∧ (un i ≤ A 50 0 ∨ un i = 400) ∧ gA bd 7 i = nI (na i) ∧ gA bd 8 i = nI (pl i) ∧ gA bd 9 i = nI (to i) ∧ gA bd 10 i = nI (yr i) ∧ gA bd 11 i = nI (un i)) ∧ ∀ p t y, y < 400 → stkC na pl to yr un p t y n = stkA A p t y
def Nbd (bd : Md) (A : Nat → Nat → Nat) : Prop := Nhe bd A ∧ Nse bd A
def Nsi (sg : Md) (A : Nat → Nat → Nat) : Prop := gF sg 0 = nI (A 57 0) ∧ ∀ s, s < A 57 0 → gA sg 1 s = nI (A 40 s) ∧ gA sg 2 s = nI (A 41 s) ∧ gA sg 3 s = nI (A 42 s)
def RC (A : Nat → Nat → Nat) (st la sp ac bd sg : Md) : Prop := Nst st A ∧ Nla la A ∧ Nsc sp A ∧ Nac ac A ∧ Nbd bd A ∧ Nsi sg A
/-- the world -/
def RW (c : Nat) (m st la sp ac bd sg : Md) : Prop := ∃ A : Nat → Nat → Nat, MW (gA m 1) A ∧ Wf A c ∧ RC A st la sp ac bd sg
