theorem bc_all : ∀ s : Fin 1024, qJ6_bitCount_0f7a4 (nI s.val) (fun r => r = nI (pc s.val)) := by
  unfold qJ6_bitCount_0f7a4
  decide +kernel
theorem N_bitCount {S : Nat} (hS : S < 1024) {Q : Int32 → Prop} (hQ : Q (nI (pc S))) : qJ6_bitCount_0f7a4 (nI S) Q := by
  have h := bc_all ⟨S, hS⟩
  unfold qJ6_bitCount_0f7a4 at h ⊢
  dsimp only at h
  rw [h]; exact hQ
/-- the paper's numbers -/
def PD (u : Md) (A : Nat → Nat → Nat) (k n : Nat) (pp : Nat → Nat) (g : Nat → Nat → Int) : Prop :=
  gF u 1 = nI n ∧ gF u 6 = nI k ∧ (∀ c, c < k → gA u 7 c = nI (pp c) ∧ pp c < A 51 0) ∧ (∀ i c, i < n → c < k → gA u 8 (i * 10 + c) = Int32.ofInt (g i c)) ∧ gX u 1 = 10240
theorem PD.fr {u v : Md} {A : Nat → Nat → Nat} {k n : Nat} {pp : Nat → Nat} {g : Nat → Nat → Int} {L : List (Nat × Nat)} (h : PD u A k n pp g) (f : Fr L u v) (h1 : (0, 1) ∉ L) (h2 : (0, 6) ∉ L) (h3 : (1, 7) ∉ L) (h4 : (1, 8) ∉ L) (h5 : (6, 1) ∉ L) : PD v A k n pp g := by
  unfold PD
  rw [f.1 1 h1, f.1 6 h2, f.2.1 7 h3, f.2.1 8 h4, f.2.2.2.2.2.2 1 h5]
  exact h
/-- the table is right at the set R -/
def MTab (u : Md) (k n : Nat) (g : Nat → Nat → Int) (nr : Nat → Nat → Bool) (R : Nat) : Prop := ∀ c, c < k → R.testBit c = true → pc R ≤ n → gA u 9 (R * 10 + c) = Int32.ofInt (jV k n g nr (n - pc R) R (c + 1))
theorem or_gt {S c : Nat} (h : S.testBit c = false) : S < S ||| 2 ^ c := by
  have h1 : S ≤ S ||| 2 ^ c := Nat.left_le_or
  have h2 : S ≠ S ||| 2 ^ c := fun e => by
    have := congrArg (fun z => z.testBit c) e
    simp only [or_bit, h, decide_true, Bool.or_true] at this
    exact absurd this (by decide)
  omega
theorem lt10 {k S : Nat} (hk : k ≤ 10) (h : S < 2 ^ k) : S < 1024 := Nat.lt_of_lt_of_le h (Nat.pow_le_pow_right (n := 2) (j := 10) (by decide) hk)
theorem N_sumWith {u la : Md} {A : Nat → Nat → Nat} {ca k n S l c : Nat} {pp : Nat → Nat} {g : Nat → Nat → Int} {nr : Nat → Nat → Bool} (hw : Wf A ca) (hla : Npl la A) (h : PD u A k n pp g) (k10 : k ≤ 10) (n7 : n ≤ 7) (hnr : ∀ a b, nr a b = nearB A (pp a) (pp b) 30) (hS : S < 2 ^ k) (hc : c < k) (hf : S.testBit c = false) (hp : pc S < n) (hl : l ≤ k) (hM : MTab u k n g nr (S ||| 2 ^ c)) {Q : Int32 → Md → Md → Prop} (hQ : Q (Int32.ofInt (g (pc S) c + bon nr l c + jV k n g nr (n - (pc S + 1)) (S ||| 2 ^ c) (c + 1))) u la) : qX3_sumWith u la (nI S) (oI l) (nI c) Q := by
  obtain ⟨d1, d2, d3, d4, d5⟩ := h
  have hS10 := lt10 k10 hS
  have hR10 := lt10 k10 (or_lt hS hc)
  have eM := hM c hc (by rw [or_bit, decide_eq_true rfl, Bool.or_true]) (by rw [pc_or (by omega) hf]; omega)
  rw [pc_or (by omega) hf] at eM
  have eg := d4 (pc S) c hp hc
  have fin : ∀ x, x = g (pc S) c + bon nr l c → qX3_sumWith_47 Q u la (nI S) (nI c) (Int32.ofInt x) := fun x hx => by
    unfold qX3_sumWith_47
    rw [or_nI hS10 (by omega), nl_10, pk_mul, nI_add, nI_clamp (by omega), eM, zi_add, hx, d5]
    exact c_in rfl (by omega) (by decide) hQ
  unfold qX3_sumWith
  refine N_bitCount hS10 ?_
  rw [nl_10, pk_mul, nI_add, nI_clamp (by omega), eg]
  refine c_in rfl (by omega) (by decide) ?_
  by_cases e : l = 0
  · subst e
    exact c_y rfl (fin _ (by unfold bon; rw [if_pos rfl]; omega))
  · have p1 := d3 (l - 1) (by omega)
    have p2 := d3 c hc
    rw [oI_pos (by omega)]
    refine c_n (nI_m1 (by omega)) (c_in rfl (by omega) (by decide) (c_in rfl (by omega) (by decide) ?_))
    rw [nI_clamp (by omega), nI_clamp (by omega), p1.1, p2.1, nl_30]
    refine N_areNear hw hla p1.2 p2.2 (by decide) ?_
    have hb : bon nr l c = if nearB A (pp (l - 1)) (pp c) 30 = true then 3 else 0 := by unfold bon; rw [if_neg e, hnr]
    cases hnb : nearB A (pp (l - 1)) (pp c) 30 with
    | true =>
      rw [hnb, if_pos rfl] at hb
      refine b_1' ?_
      rw [zi_add]
      exact fin _ (by rw [hb])
    | false =>
      rw [hnb, if_neg (by decide)] at hb
      exact b_0' (fin _ (by rw [hb]; omega))
theorem N_mostBehind {u la : Md} {A : Nat → Nat → Nat} {ca k n S l : Nat} {pp : Nat → Nat} {g : Nat → Nat → Int} {nr : Nat → Nat → Bool} (hw : Wf A ca) (hla : Npl la A) (h : PD u A k n pp g) (k10 : k ≤ 10) (n7 : n ≤ 7) (hnk : n ≤ k) (hnr : ∀ a b, nr a b = nearB A (pp a) (pp b) 30) (hg : ∀ i c, i < n → c < k → -60 ≤ g i c ∧ g i c ≤ 20) (hS : S < 2 ^ k) (hl : l ≤ k) (hM : ∀ c, c < k → S.testBit c = false → MTab u k n g nr (S ||| 2 ^ c)) {Q : Int32 → Md → Md → Prop} (hQ : Q (Int32.ofInt (jV k n g nr (n - pc S) S l)) u la) : qX3_mostBehind u la (nI S) (oI l) Q := by
  have hS10 := lt10 k10 hS
  have p10 : pc S ≤ 10 := bs_one S 10
  unfold qX3_mostBehind
  refine N_bitCount hS10 ?_
  rw [h.1]
  refine c_lt rfl rfl (by omega) (by omega) (fun hp => ?_) (fun hp => ?_)
  rotate_left
  · rw [show n - pc S = 0 by omega] at hQ
    exact hQ
  obtain ⟨r, hr⟩ : ∃ r, n - pc S = r + 1 := ⟨n - pc S - 1, by omega⟩
  have hr2 : n - (pc S + 1) = r := by omega
  have hr3 : n - (r + 1) = pc S := by omega
  rw [hr] at hQ
  have jb := jV_b (nr := nr) k10 hg (r + 1) S l (by omega) (by omega)
  obtain ⟨c0, hc0, hf0⟩ := pc_free (S := S) (k := k) (by omega) k10
  have vb : ∀ c, c < k → S.testBit c = false → -1000 ≤ g (pc S) c + bon nr l c + jV k n g nr r (S ||| 2 ^ c) (c + 1) ∧ g (pc S) c + bon nr l c + jV k n g nr r (S ||| 2 ^ c) (c + 1) ≤ 1000 := fun c hc hf => by
    have h1 := hg (pc S) c hp hc
    have h2 := bon_b nr l c
    have h3 := jV_b (nr := nr) k10 hg r (S ||| 2 ^ c) (c + 1) (by omega) (by rw [pc_or (by omega) hf]; omega)
    omega
  have ev : jV k n g nr (r + 1) S l = bV (fun c => !S.testBit c) (fun c => g (pc S) c + bon nr l c + jV k n g nr r (S ||| 2 ^ c) (c + 1)) k := by
    show bV _ (fun c => g (n - (r + 1)) c + _ + _) k = _
    rw [hr3]
  rw [ev] at hQ jb
  generalize hval : (fun c => g (pc S) c + bon nr l c + jV k n g nr r (S ||| 2 ^ c) (c + 1)) = val at hQ jb
  have vb' : ∀ c, c < k → S.testBit c = false → -1000 ≤ val c ∧ val c ≤ 1000 := fun c hc hf => by rw [← hval]; exact vb c hc hf
  refine pk_loop (fun f c (y : Int32) => qX3_mostBehind_24 Q f u la (nI S) (oI l) y (nI c)) (fun c y => (y = -2147483648 ∧ bV (fun c => !S.testBit c) val c = -1000000) ∨ (y = Int32.ofInt (bV (fun c => !S.testBit c) val c) ∧ -1000 ≤ bV (fun c => !S.testBit c) val c ∧ bV (fun c => !S.testBit c) val c ≤ 1000)) k 0 _ (Nat.zero_le _) (Or.inl ⟨rfl, rfl⟩) (fun f y hI => ?_) (fun f c y hc hI ih => ?_)
  · unfold qX3_mostBehind_24
    rw [h.2.1]
    refine c_y (nI_le (Nat.le_refl _) (by omega)) ?_
    rcases hI with ⟨q1, q2⟩ | ⟨q1, q2⟩
    · omega
    · rw [q1]; exact hQ
  · unfold qX3_mostBehind_24
    rw [h.2.1]
    refine c_n (nI_ge hc (by omega)) ?_
    rw [bit10 (by omega) (by omega)]
    have e1 : bV (fun c => !S.testBit c) val (c + 1) = if (!S.testBit c) = true ∧ bV (fun c => !S.testBit c) val c < val c then val c else bV (fun c => !S.testBit c) val c := rfl
    cases hb : S.testBit c with
    | true =>
      rw [hb, if_neg (fun z => absurd z.1 (by decide))] at e1
      refine c_n' (by decide) ?_
      rw [ofI1, nI_add]
      refine ih y ?_
      rw [e1]; exact hI
    | false =>
      have v := vb' c hc hb
      rw [hb] at e1
      refine c_y' rfl (N_sumWith hw hla h k10 n7 hnr hS hc hb hp hl (hM c hc hb) ?_)
      rw [ofI1, nI_add, hr2, show g (pc S) c + bon nr l c + jV k n g nr r (S ||| 2 ^ c) (c + 1) = val c by rw [← hval]]
      refine ih _ (Or.inr ?_)
      unfold imax
      rcases hI with ⟨q1, q2⟩ | ⟨q1, q2⟩
      · rw [if_pos ⟨rfl, by omega⟩] at e1
        rw [e1, q1, if_pos (by rw [Int32.lt_iff_toInt_lt, zi_toInt (by omega) (by omega)]; show (-2147483648 : Int) < _; omega)]
        exact ⟨rfl, v⟩
      · rw [q1]
        by_cases e : bV (fun c => !S.testBit c) val c < val c
        · rw [if_pos ⟨rfl, e⟩] at e1
          rw [e1, if_pos ((zi_lt (by omega) (by omega) (by omega) (by omega)).2 e)]
          exact ⟨rfl, v⟩
        · rw [if_neg (fun z => e z.2)] at e1
          rw [e1, if_neg (fun z => e ((zi_lt (by omega) (by omega) (by omega) (by omega)).1 z))]
          exact ⟨rfl, q2⟩
