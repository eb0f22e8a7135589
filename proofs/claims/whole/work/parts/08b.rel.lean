/-- what may have changed between u and u': (0, k) a number, (1, k) ints, (2, k) longs, (3, k) bytes, (4, k) booleans, (5, k) references, (6, k) addresses -/
def Fr (L : List (Nat × Nat)) (u u' : Md) : Prop :=
  (∀ k, (0, k) ∉ L → gF u' k = gF u k) ∧ (∀ k, (1, k) ∉ L → gA u' k = gA u k) ∧ (∀ k, (2, k) ∉ L → gL u' k = gL u k) ∧ (∀ k, (3, k) ∉ L → gB u' k = gB u k) ∧ (∀ k, (4, k) ∉ L → gZ u' k = gZ u k) ∧ (∀ k, (5, k) ∉ L → gO u' k = gO u k) ∧ (∀ k, (6, k) ∉ L → gX u' k = gX u k)
theorem Fr.rf {L : List (Nat × Nat)} {u : Md} : Fr L u u := ⟨fun _ _ => rfl, fun _ _ => rfl, fun _ _ => rfl, fun _ _ => rfl, fun _ _ => rfl, fun _ _ => rfl, fun _ _ => rfl⟩
theorem Fr.tr {L : List (Nat × Nat)} {u v w : Md} (h1 : Fr L u v) (h2 : Fr L v w) : Fr L u w := ⟨fun k h => (h2.1 k h).trans (h1.1 k h), fun k h => (h2.2.1 k h).trans (h1.2.1 k h), fun k h => (h2.2.2.1 k h).trans (h1.2.2.1 k h), fun k h => (h2.2.2.2.1 k h).trans (h1.2.2.2.1 k h), fun k h => (h2.2.2.2.2.1 k h).trans (h1.2.2.2.2.1 k h), fun k h => (h2.2.2.2.2.2.1 k h).trans (h1.2.2.2.2.2.1 k h), fun k h => (h2.2.2.2.2.2.2 k h).trans (h1.2.2.2.2.2.2 k h)⟩
theorem Fr.mono {L M : List (Nat × Nat)} {u v : Md} (h : Fr L u v) (hs : ∀ q ∈ L, q ∈ M) : Fr M u v := ⟨fun k n => h.1 k (fun z => n (hs _ z)), fun k n => h.2.1 k (fun z => n (hs _ z)), fun k n => h.2.2.1 k (fun z => n (hs _ z)), fun k n => h.2.2.2.1 k (fun z => n (hs _ z)), fun k n => h.2.2.2.2.1 k (fun z => n (hs _ z)), fun k n => h.2.2.2.2.2.1 k (fun z => n (hs _ z)), fun k n => h.2.2.2.2.2.2 k (fun z => n (hs _ z))⟩
theorem Fr.sF {L : List (Nat × Nat)} {u : Md} (k : Nat) (v : Int32) (h : (0, k) ∈ L) : Fr L u (sF u k v) := ⟨fun j n => by rw [gF_sF]; exact if_neg (fun e : j = k => n (by rw [e]; exact h)), fun _ _ => rfl, fun _ _ => rfl, fun _ _ => rfl, fun _ _ => rfl, fun _ _ => rfl, fun _ _ => rfl⟩
theorem Fr.sA {L : List (Nat × Nat)} {u : Md} (k : Nat) (v : Nat → Int32) (h : (1, k) ∈ L) : Fr L u (sA u k v) := ⟨fun _ _ => rfl, fun j n => by rw [gA_sA]; exact if_neg (fun e : j = k => n (by rw [e]; exact h)), fun _ _ => rfl, fun _ _ => rfl, fun _ _ => rfl, fun _ _ => rfl, fun _ _ => rfl⟩
theorem Fr.sL {L : List (Nat × Nat)} {u : Md} (k : Nat) (v : Nat → Int64) (h : (2, k) ∈ L) : Fr L u (sL u k v) := ⟨fun _ _ => rfl, fun _ _ => rfl, fun j n => by rw [gL_sL]; exact if_neg (fun e : j = k => n (by rw [e]; exact h)), fun _ _ => rfl, fun _ _ => rfl, fun _ _ => rfl, fun _ _ => rfl⟩
theorem Fr.sB {L : List (Nat × Nat)} {u : Md} (k : Nat) (v : Nat → Int8) (h : (3, k) ∈ L) : Fr L u (sB u k v) := ⟨fun _ _ => rfl, fun _ _ => rfl, fun _ _ => rfl, fun j n => by rw [gB_sB]; exact if_neg (fun e : j = k => n (by rw [e]; exact h)), fun _ _ => rfl, fun _ _ => rfl, fun _ _ => rfl⟩
theorem Fr.sZ {L : List (Nat × Nat)} {u : Md} (k : Nat) (v : Nat → Bool) (h : (4, k) ∈ L) : Fr L u (sZ u k v) := ⟨fun _ _ => rfl, fun _ _ => rfl, fun _ _ => rfl, fun _ _ => rfl, fun j n => by rw [gZ_sZ]; exact if_neg (fun e : j = k => n (by rw [e]; exact h)), fun _ _ => rfl, fun _ _ => rfl⟩
theorem Fr.tA {L : List (Nat × Nat)} {u : Md} (k : Nat) (i : Int32) (x : Int32) (h : (1, k) ∈ L) : Fr L u (tA u k i x) := Fr.sA k _ h
theorem Fr.tL {L : List (Nat × Nat)} {u : Md} (k : Nat) (i : Int32) (x : Int64) (h : (2, k) ∈ L) : Fr L u (tL u k i x) := Fr.sL k _ h
theorem Fr.tB {L : List (Nat × Nat)} {u : Md} (k : Nat) (i : Int32) (x : Int32) (h : (3, k) ∈ L) : Fr L u (tB u k i x) := Fr.sB k _ h
theorem Fr.tZ {L : List (Nat × Nat)} {u : Md} (k : Nat) (i : Int32) (x : Int32) (h : (4, k) ∈ L) : Fr L u (tZ u k i x) := Fr.sZ k _ h
/-- the tape -/
def RTape (t m : Md) : Prop := ∃ T : Nat, T ≤ 500 ∧ gF t 1 = nI T ∧ gF m 5 = nI T ∧ (∀ j, j < T → gB t 0 j = gB m 4 j) ∧ gF t 2 = gF m 15 ∧ gF t 3 = gF m 16
theorem RTape.fr {t m m' : Md} {L : List (Nat × Nat)} (h : RTape t m) (hf : Fr L m m') (h1 : (0, 5) ∉ L) (h2 : (3, 4) ∉ L) (h3 : (0, 15) ∉ L) (h4 : (0, 16) ∉ L) : RTape t m' := by
  obtain ⟨T, a, b, c, d, e, f⟩ := h
  exact ⟨T, a, b, (hf.1 5 h1).trans c, fun j hj => by rw [hf.2.2.2.1 4 h2]; exact d j hj, e.trans (hf.1 15 h3).symm, f.trans (hf.1 16 h4).symm⟩
/-- the slots -/
def RSlot (nb m : Md) : Prop := ∀ s, s < 4 → gA nb 8 s = gA m 49 s ∧ gA nb 9 s = gA m 48 s ∧ (∃ w : Nat, w < 4 ∧ gA nb 8 s = nI w) ∧ (gA nb 9 s = -1 ∨ ∃ n : Nat, n ≤ 60 ∧ gA nb 9 s = nI n ∧ ∀ i, i < n → gL nb 7 (60 * s + i) = gL m 50 (60 * s + i))
theorem RSlot.fr {nb nb' m m' : Md} {L N : List (Nat × Nat)} (h : RSlot nb m) (hn : Fr N nb nb') (hf : Fr L m m') (n1 : (1, 8) ∉ N) (n2 : (1, 9) ∉ N) (n3 : (2, 7) ∉ N) (h1 : (1, 48) ∉ L) (h2 : (1, 49) ∉ L) (h3 : (2, 50) ∉ L) : RSlot nb' m' := by
  intro s hs
  rw [hn.2.1 8 n1, hn.2.1 9 n2, hn.2.2.1 7 n3, hf.2.1 48 h1, hf.2.1 49 h2, hf.2.2.1 50 h3]
  exact h s hs
/-- what is in hand -/
def RHand (h m : Md) : Prop := ∃ n : Nat, n ≤ 73 ∧ gF h 0 = nI n ∧ gF m 24 = nI n ∧ ∀ j, j < n → (gB h 1 j).toInt32 = gA m 22 j ∧ gA h 2 j = gA m 23 j
theorem RHand.fr {t m m' : Md} {L : List (Nat × Nat)} (h : RHand t m) (hf : Fr L m m') (h1 : (0, 24) ∉ L) (h2 : (1, 22) ∉ L) (h3 : (1, 23) ∉ L) : RHand t m' := by
  obtain ⟨n, a, b, c, d⟩ := h
  exact ⟨n, a, b, (hf.1 24 h1).trans c, fun j hj => by rw [hf.2.1 22 h2, hf.2.1 23 h3]; exact d j hj⟩
/-- the plan -/
def RPlan (p m : Md) : Prop := (gF m 34 = 0 ∨ gF m 34 = 1) ∧ ∀ j, j < 40 → gA p 0 j = if gF m 34 = 0 then -1 else gA m 33 j
theorem RPlan.fr {t m m' : Md} {L : List (Nat × Nat)} (h : RPlan t m) (hf : Fr L m m') (h1 : (0, 34) ∉ L) (h2 : (1, 33) ∉ L) : RPlan t m' := by
  unfold RPlan
  rw [hf.1 34 h1, hf.2.1 33 h2]
  exact h
/-- the paper at hand -/
def RPaper (p m : Md) : Prop := gF p 0 = gF m 36 ∧ (gF p 0 = -1 ∨ ∃ y : Nat, y < 400 ∧ gF p 0 = nI y) ∧ (∃ n : Nat, n ≤ 7 ∧ gF p 1 = nI n ∧ gF m 37 = nI n ∧ ∀ i, i < n → ∃ k : Nat, 1 ≤ k ∧ k ≤ 24 ∧ gA p 2 i = nI k ∧ gA m 39 i = nI k ∧ ∀ j, j < k → (gB p 3 (24 * i + j)).toInt32 = gA m 38 (24 * i + j) ∧ ∃ a : Nat, a < 128 ∧ gA m 38 (24 * i + j) = nI a) ∧ (∃ n : Nat, n ≤ 7 ∧ gF p 4 = nI n ∧ (gF m 47 = nI n ∨ (n = 0 ∧ gF m 47 = -1)) ∧ ∀ i, i < n → gA p 5 i = gA m 46 i) ∧ (gX p 1 = 0 ∨ gX p 1 = 10240)
theorem RPaper.fr {t m m' : Md} {L : List (Nat × Nat)} (h : RPaper t m) (hf : Fr L m m') (h1 : (0, 36) ∉ L) (h2 : (0, 37) ∉ L) (h3 : (1, 39) ∉ L) (h4 : (1, 38) ∉ L) (h5 : (0, 47) ∉ L) (h6 : (1, 46) ∉ L) : RPaper t m' := by
  unfold RPaper
  rw [hf.1 36 h1, hf.1 37 h2, hf.2.1 39 h3, hf.2.1 38 h4, hf.1 47 h5, hf.2.1 46 h6]
  exact h
