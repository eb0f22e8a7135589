theorem sh9 : ∀ i : Fin 9, ((nI i.val &&& 31).toBitVec.smod 32).toNat = i.val := by decide +kernel
theorem bit9 {T i : Nat} (hT : T < 2 ^ 31) (hi : i < 9) : ((nI T >>> (nI i &&& 31)) &&& 1) = nI (if T.testBit i = true then 1 else 0) := by
  rw [pk_shrN hT _ i (sh9 ⟨i, hi⟩)]
  have : T / 2 ^ i ≤ T := Nat.div_le_self _ _
  rw [pk_andN (by omega) 1 rfl, Nat.testBit_eq_decide_div_mod_eq]
  congr 1
  have h2 : T / 2 ^ i % 2 < 2 := Nat.mod_lt _ (by decide)
  by_cases e : T / 2 ^ i % 2 = 1
  · rw [if_pos (by simpa using e)]; exact e
  · rw [if_neg (by simpa using e)]; show T / 2 ^ i % 2 ^ 1 = 0; omega
theorem M_bits {T : Nat} (hT : T < 2 ^ 31) {Q : Int32 → Prop} (hQ : Q (nI (bs (fun _ => 1) T 9))) : qX12_bits (nI T) Q := by
  unfold qX12_bits
  refine pk_loop (fun f i (s : Nat) => qX12_bits_4 Q f (nI T) (nI s) (nI i)) (fun i s => s = bs (fun _ => 1) T i) 9 0 0 (by decide) rfl (fun f s hI => ?_) (fun f i s hi hI ih => ?_)
  · unfold qX12_bits_4
    rw [hI]
    exact c_y (by decide) hQ
  · unfold qX12_bits_4
    refine c_n (nI_ge (b := 9) hi (by decide)) ?_
    rw [bit9 hT hi, nI_add, ofI1, nI_add]
    refine ih _ ?_
    rw [hI]; rfl
/-- what leastOf finds: the lame signs, what must be -/
def LD (u : Md) (A : Nat → Nat → Nat) (n : Nat) (sg mu : Nat → Nat) : Prop :=
  MW (gA u 1) A ∧ gF u 30 = nI n ∧ (∀ j, j < n → gA u 29 j = nI (sg j)) ∧ (∀ j, j < n → gA u 32 j = oI (mu j))
theorem LD.fr {u v : Md} {A : Nat → Nat → Nat} {n : Nat} {sg mu : Nat → Nat} {L : List (Nat × Nat)} (h : LD u A n sg mu) (f : Fr L u v) (h1 : (1, 1) ∉ L) (h2 : (0, 30) ∉ L) (h3 : (1, 29) ∉ L) (h4 : (1, 32) ∉ L) : LD v A n sg mu := by
  unfold LD
  rw [f.2.1 1 h1, f.1 30 h2, f.2.1 29 h3, f.2.1 32 h4]
  exact h
theorem M_mayBe {u : Md} {A : Nat → Nat → Nat} {ca n co T y : Nat} {sg mu : Nat → Nat} (hw : Wf A ca) (h : LD u A n sg mu) (n9 : n ≤ 9) (hs : ∀ j, j < n → sg j < A 57 0) (hm : ∀ j, j < n → mu j < 2 ^ 30) (hT : T < 2 ^ n) (hy : y < 2 ^ 29) (o9 : co < 10000) {Q : Int32 → Md → Prop} (h1 : alw (fun j => A 41 (sg j)) co mu y T → Q 1 u) (h0 : ¬ alw (fun j => A 41 (sg j)) co mu y T → Q 0 u) : qX12_mayBe u (nI T) (nI y) (nI co) Q := by
  obtain ⟨d1, d2, d3, d4⟩ := h
  have hT9 : T < 512 := lt9 n9 hT
  have c9 : ∀ j, j < n → A 41 (sg j) ≤ 9999 := fun j hj => (hw.2.2.2.2.2.2.2.2.1 _ (hs j hj)).2.1
  have b7 : A 57 0 ≤ 40 := hw.1.2.2.2.2.2.2.2.1
  have bsn : ∀ d, d ≤ 9 - n → bs (fun j => A 41 (sg j)) T (n + d) = bs (fun j => A 41 (sg j)) T n := by
    intro d
    induction d with
    | zero => intro _; rfl
    | succ d ih =>
      intro hd
      show bs _ T (n + d) + (if T.testBit (n + d) = true then A 41 (sg (n + d)) else 0) = _
      rw [if_neg (fun hb => by have := bit_lt hT hb; omega), ih (by omega)]; rfl
  have en : bs (fun j => A 41 (sg j)) T 9 = bs (fun j => A 41 (sg j)) T n := by
    have := bsn (9 - n) (Nat.le_refl _)
    rw [show n + (9 - n) = 9 by omega] at this; exact this
  unfold qX12_mayBe
  refine pk_loop (fun f i (s : Nat) => qX12_mayBe_6 Q f u (nI T) (nI y) (nI co) (nI s) (nI i)) (fun i s => s = bs (fun j => A 41 (sg j)) T i ∧ s ≤ 9999 * i ∧ ∀ k, k < i → T.testBit k = true → mu k = 0 ∨ mu k = y + 1) n 0 0 (Nat.zero_le _) ⟨rfl, by omega, fun k hk => by omega⟩ (fun f s hI => ?_) (fun f i s hi hI ih => ?_)
  · obtain ⟨i1, i2, i3⟩ := hI
    unfold qX12_mayBe_6
    rw [d2]
    refine c_y (nI_le (Nat.le_refl _) (by omega)) (c_lt rfl rfl (by omega) (by omega) (fun hx => h0 (fun z => ?_)) (fun hx => h1 ⟨?_, fun k _ hb => i3 k (bit_lt hT hb) hb⟩))
    · have := z.1; rw [en] at this; omega
    · rw [en]; omega
  · obtain ⟨i1, i2, i3⟩ := hI
    have cc := c9 i hi
    have hmi := hm i hi
    have hsi := hs i hi
    unfold qX12_mayBe_6
    rw [d2]
    refine c_n (nI_ge hi (by omega)) ?_
    rw [bit9 (by omega) (by omega)]
    by_cases e : T.testBit i = true
    · rw [if_pos e]
      refine c_y' rfl ?_
      unfold qX12_mayBe_30
      rw [nI_clamp (by omega), d3 i hi]
      refine c_n (by decide) (c_in rfl (by omega) (by decide) ((M_signIs hw d1 hsi).2.1 ?_))
      unfold qX12_mayBe_54
      rw [nI_clamp (by omega), d4 i hi, nI_add, ofI1, nI_add]
      have nx : mu i = 0 ∨ mu i = y + 1 → qX12_mayBe_6 Q f u (nI T) (nI y) (nI co) (nI (s + A 41 (sg i))) (nI (i + 1)) := fun hmu => ih _ ⟨by rw [i1]; show _ = bs _ T i + (if T.testBit i = true then A 41 (sg i) else 0); rw [if_pos e], by omega, fun k hk hb => by
        by_cases ek : k = i
        · rw [ek]; exact hmu
        · exact i3 k (by omega) hb⟩
      refine c_n (by decide) (c_in rfl (by omega) (by decide) ?_)
      by_cases m0 : mu i = 0
      · exact c_y (by rw [m0]; rfl) (nx (Or.inl m0))
      · refine c_n (fun z => m0 ((oI_eqm (by omega)).1 z)) (c_in rfl (by omega) (by decide) ?_)
        by_cases m1 : mu i = y + 1
        · exact c_y ((oI_eqn (by omega) (by omega)).2 m1) (nx (Or.inr m1))
        · refine c_n (fun z => m1 ((oI_eqn (by omega) (by omega)).1 z)) (h0 (fun z => ?_))
          have := z.2 i (by omega) e
          omega
    · rw [if_neg e]
      refine c_n' (by decide) ?_
      unfold qX12_mayBe_30 qX12_mayBe_54
      rw [ofI1, nI_add]
      refine c_y rfl (c_y rfl (ih s ⟨by rw [i1]; show _ = bs _ T i + (if T.testBit i = true then A 41 (sg i) else 0); rw [if_neg e]; rfl, by omega, fun k hk hb => ?_⟩))
      by_cases ek : k = i
      · rw [ek] at hb; exact absurd hb e
      · exact i3 k (by omega) hb
