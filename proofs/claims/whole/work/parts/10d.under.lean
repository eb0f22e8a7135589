theorem nodup_le : ∀ (n : Nat) (l : List Nat), l.Nodup → (∀ x ∈ l, x < n) → l.length ≤ n := by
  intro n
  induction n with
  | zero =>
    intro l _ h
    cases l with
    | nil => simp
    | cons a l => exact absurd (h a (List.mem_cons_self)) (by omega)
  | succ n ih =>
    intro l hd h
    by_cases hm : n ∈ l
    · have h1 := ih (l.erase n) (hd.erase n) (fun x hx => by
        have h2 := List.mem_of_mem_erase hx
        have h3 := h x h2
        have h4 : x ≠ n := fun e => by
          subst e
          exact (List.Nodup.not_mem_erase hd) hx
        omega)
      rw [List.length_erase_of_mem hm] at h1
      omega
    · have h1 := ih l hd (fun x hx => by
        have h3 := h x hx
        have h4 : x ≠ n := fun e => hm (e ▸ hx)
        omega)
      omega
/-- p lies in top, seen in n steps -/
def und (f : Nat → Nat) (top : Nat) : Nat → Nat → Bool
  | 0, _ => false
  | n + 1, p => if p = top then true else if f p = 0 then false else und f top n (f p - 1)
def und0 (f : Nat → Nat) (top n s : Nat) : Bool := if s = 0 then false else und f top n (s - 1)
def ends (f : Nat → Nat) : Nat → Nat → Prop
  | 0, _ => False
  | n + 1, p => f p = 0 ∨ ends f n (f p - 1)
theorem und_s (f : Nat → Nat) (top n p : Nat) : und f top (n + 1) p = if p = top then true else und0 f top n (f p) := by
  show (if p = top then true else if f p = 0 then false else und f top n (f p - 1)) = _
  unfold und0; rfl
theorem ends_of {P : Nat} {f rk : Nat → Nat} (h : ∀ p, p < P → f p = 0 ∨ (f p ≤ P ∧ rk (f p - 1) < rk p)) : ∀ n p, p < P → ends f n p ∨ ∃ l : List Nat, l.length = n ∧ l.Nodup ∧ ∀ x ∈ l, x < P ∧ rk x ≤ rk p := by
  intro n
  induction n with
  | zero => intro p _; exact Or.inr ⟨[], rfl, List.nodup_nil, fun x hx => absurd hx (List.not_mem_nil)⟩
  | succ n ih =>
    intro p hp
    rcases h p hp with h0 | ⟨h1, h2⟩
    · exact Or.inl (Or.inl h0)
    by_cases h0 : f p = 0
    · exact Or.inl (Or.inl h0)
    rcases ih (f p - 1) (by omega) with h3 | ⟨l, l1, l2, l3⟩
    · exact Or.inl (Or.inr h3)
    · refine Or.inr ⟨p :: l, by rw [List.length_cons, l1], List.nodup_cons.mpr ⟨fun hm => ?_, l2⟩, fun x hx => ?_⟩
      · have := (l3 p hm).2; omega
      · rcases List.mem_cons.mp hx with rfl | hx
        · exact ⟨hp, Nat.le_refl _⟩
        · exact ⟨(l3 x hx).1, by have := (l3 x hx).2; omega⟩
theorem Acyc.ends {P : Nat} {f : Nat → Nat} (h : Acyc P f) (hP : P ≤ 40) {p : Nat} (hp : p < P) : ends f 41 p := by
  obtain ⟨rk, h⟩ := h
  rcases ends_of h 41 p hp with h1 | ⟨l, l1, l2, l3⟩
  · exact h1
  · have := nodup_le P l l2 (fun x hx => (l3 x hx).1)
    omega
theorem Acyc.le {P : Nat} {f : Nat → Nat} (h : Acyc P f) {p : Nat} (hp : p < P) : f p ≤ P := by
  obtain ⟨rk, h⟩ := h
  rcases h p hp with h1 | h1
  · omega
  · exact h1.1
theorem parF_stop {pl of yr : Nat → Nat} {y i : Nat} : ∀ n, i ≤ n → (∀ k, i ≤ k → k < n → y < yr k) → parF pl of yr y n = parF pl of yr y i := by
  intro n
  induction n with
  | zero => intro h _; obtain rfl : i = 0 := by omega
            rfl
  | succ n ih =>
    intro h hk
    by_cases e : i = n + 1
    · rw [e]
    · have h1 := ih (by omega) (fun k a b => hk k a (by omega))
      show (if yr n ≤ y then _ else parF pl of yr y n) = _
      rw [if_neg (by have := hk n (by omega) (by omega); omega), h1]
theorem ownF_stop {pl to nn yr : Nat → Nat} {y i : Nat} : ∀ n, i ≤ n → (∀ k, i ≤ k → k < n → y < yr k) → ownF pl to nn yr y n = ownF pl to nn yr y i := by
  intro n
  induction n with
  | zero => intro h _; obtain rfl : i = 0 := by omega
            rfl
  | succ n ih =>
    intro h hk
    by_cases e : i = n + 1
    · rw [e]
    · have h1 := ih (by omega) (fun k a b => hk k a (by omega))
      show (if yr n ≤ y then _ else ownF pl to nn yr y n) = _
      rw [if_neg (by have := hk n (by omega) (by omega); omega), h1]
theorem ownF_le {pl to nn yr : Nat → Nat} {y M : Nat} : ∀ n, (∀ k, k < n → nn k ≤ M) → ∀ j, ownF pl to nn yr y n j ≤ M := by
  intro n
  induction n with
  | zero => intro _ j; exact Nat.zero_le _
  | succ n ih =>
    intro h j
    have h1 := ih (fun k hk => h k (by omega)) j
    have h2 := h n (by omega)
    show (if yr n ≤ y then va_up (ownF pl to nn yr y n) (3 * pl n + to n) (nn n) else ownF pl to nn yr y n) j ≤ M
    by_cases hy : yr n ≤ y
    · rw [if_pos hy]
      by_cases e : j = 3 * pl n + to n
      · rw [e, va_up_eq]; exact h2
      · rw [va_up_ne' _ _ e]; exact h1
    · rw [if_neg hy]; exact h1
theorem N_fill {n0 : Nat} (hn : n0 < 2 ^ 31) {f0 : Nat → Int32} {x : Int32} {Q : (Nat → Int32) → Prop} (hQ : ∀ f, (∀ j, j < n0 → f j = x) → Q f) : qJ7_fill_53178 n0 f0 x Q := by
  unfold qJ7_fill_53178
  refine pk_loop (fun k i s => qJ7_fill_53178_5 n0 Q k s x (nI i) (Int32.ofNat n0)) (fun i s => ∀ j, j < i → s j = x) n0 0 f0 (by omega) (fun j hj => by omega) (fun k s hI => ?_) (fun k i s hi hI ih => ?_)
  · unfold qJ7_fill_53178_5
    exact c_y (nI_le (Nat.le_refl n0) hn) (hQ s hI)
  · unfold qJ7_fill_53178_5
    refine c_n (nI_ge hi hn) ⟨vp_in_nI hi hn, ?_⟩
    rw [ofI1, nI_add, nI_clamp (by omega)]
    refine ih _ (fun j hj => ?_)
    by_cases e : j = i
    · rw [e, va_up_eq]
    · rw [va_up_ne' _ _ e]; exact hI j (by omega)
theorem N_fillParents {la : Md} {A : Nat → Nat → Nat} {c y : Nat} (hw : Wf A c) (hl : Npt la A) (hy : y < 400) {f0 : Nat → Int32} {Q : Md → (Nat → Int32) → Prop} (hQ : ∀ f, (∀ j, j < 40 → f j = oI (parA A y j)) → Q la f) : qX2_fillParents 40 la f0 (nI y) Q := by
  obtain ⟨n, pl, of, yr, n1, n2, n3, n4, n5, n6⟩ := hl
  have bc : c ≤ 512 := hw.1.2.2.2.2.2.2.2.2.2.2
  have b8 : A 58 0 ≤ c := hw.1.2.2.2.2.2.2.2.2.1
  have b0 : A 50 0 < 400 := hw.1.1
  have b1 : A 51 0 ≤ 40 := hw.1.2.1
  unfold qX2_fillParents
  refine N_fill (by decide) (fun f hf => ?_)
  refine pk_loop (fun k i s => qX2_fillParents_7 40 Q k la s (nI y) (nI i)) (fun i s => ∀ j, j < 40 → s j = oI (parF pl of yr y i j)) n 0 f (by omega) (fun j hj => by rw [hf j hj]; rfl) (fun k s hI => ?_) (fun k i s hi hI ih => ?_)
  · unfold qX2_fillParents_7
    rw [n2]
    refine c_y (nI_le (Nat.le_refl n) (by omega)) (hQ s (fun j hj => ?_))
    rw [hI j hj, n6 y]
  · obtain ⟨q1, q2, q3, q4, q5, q6⟩ := n3 i hi
    unfold qX2_fillParents_7
    rw [n2]
    refine c_n (nI_ge hi (by omega)) ⟨vp_in_nI (by omega) (by decide), ?_⟩
    rw [nI_clamp (by omega), q4, q5, q6]
    refine c_lt rfl rfl (by omega) (by omega) (fun hlt => hQ s (fun j hj => ?_)) (fun hlt => ⟨vp_in_nI (by omega) (by decide), vp_in_nI (by omega) (by decide), vp_in_nI (by omega) (by decide), ?_⟩)
    · rw [hI j hj, ← n6 y, parF_stop (i := i) n (by omega) (fun k a b => ?_)]
      by_cases e : k = i
      · rw [e]; exact hlt
      · have := n4 i k (by omega) b; omega
    · rw [ofI1, nI_add, nI_clamp (by omega)]
      refine ih _ (fun j hj => ?_)
      show _ = oI ((if yr i ≤ y then va_up (parF pl of yr y i) (pl i) (of i) else parF pl of yr y i) j)
      rw [if_pos (by omega)]
      by_cases e : j = pl i
      · rw [e, va_up_eq, va_up_eq]
      · rw [va_up_ne' _ _ e, va_up_ne' _ _ e]; exact hI j hj
theorem N_fillOwn {la : Md} {A : Nat → Nat → Nat} {c y : Nat} (hw : Wf A c) (hl : Nco la A) (hy : y < 400) {f0 : Nat → Int32} {Q : Md → (Nat → Int32) → Prop} (hQ : ∀ f, (∀ j, j < 120 → f j = nI (ownA A y j)) → Q la f) : qX2_fillOwn 120 la f0 (nI y) Q := by
  obtain ⟨n2, n3⟩ := hl
  obtain ⟨v3, v3b, -⟩ : Wco A := hw.2.2.2.1
  have b0 : A 50 0 < 400 := hw.1.1
  have b1 : A 51 0 ≤ 40 := hw.1.2.1
  have b6 : A 56 0 ≤ 200 := hw.1.2.2.2.2.2.2.1
  unfold qX2_fillOwn
  refine N_fill (by decide) (fun f hf => ?_)
  refine pk_loop (fun k i s => qX2_fillOwn_7 120 Q k la s (nI y) (nI i)) (fun i s => ∀ j, j < 120 → s j = nI (ownF (A 6) (A 7) (A 8) (A 9) y i j)) (A 56 0) 0 f (by omega) (fun j hj => by rw [hf j hj]; rfl) (fun k s hI => ?_) (fun k i s hi hI ih => ?_)
  · unfold qX2_fillOwn_7
    rw [n2]
    exact c_y (nI_le (Nat.le_refl _) (by omega)) (hQ s (fun j hj => hI j hj))
  · obtain ⟨q1, q2, q3⟩ := n3 i hi
    obtain ⟨u1, u2, u3, u4⟩ := v3 i hi
    unfold qX2_fillOwn_7
    rw [n2]
    refine c_n (nI_ge hi (by omega)) ⟨vp_in_nI (by omega) (by decide), ?_⟩
    rw [nI_clamp (by omega), q1, q2, q3]
    refine c_lt rfl rfl (by omega) (by omega) (fun hlt => hQ s (fun j hj => ?_)) (fun hlt => ⟨vp_in_nI (by omega) (by decide), vp_in_nI (by omega) (by decide), vp_in_nI (by omega) (by decide), ?_⟩)
    · rw [hI j hj]
      unfold ownA
      rw [ownF_stop (i := i) (A 56 0) (by omega) (fun k a b => ?_)]
      by_cases e : k = i
      · rw [e]; exact hlt
      · have := v3b i k (by omega) b; omega
    · rw [ofI1, nI_add, nI_clamp (by omega)]
      refine ih _ (fun j hj => ?_)
      show _ = nI ((if A 9 i ≤ y then va_up (ownF (A 6) (A 7) (A 8) (A 9) y i) (3 * A 6 i + A 7 i) (A 8 i) else ownF (A 6) (A 7) (A 8) (A 9) y i) j)
      rw [if_pos (by omega)]
      by_cases e : j = 3 * A 6 i + A 7 i
      · rw [e, va_up_eq, va_up_eq]
      · rw [va_up_ne' _ _ e, va_up_ne' _ _ e]; exact hI j hj
def bI (b : Bool) : Int32 := if b then 1 else 0
theorem N_isUnder {u : Md} {f : Nat → Nat} {P top s : Nat} (hP : P ≤ 40) (hf : ∀ j, j < 40 → gA u 0 j = oI (f j)) (hb : ∀ j, j < P → f j ≤ P) (htop : top < 40) (hs : s ≤ P) {Q : Int32 → Md → Prop} (hQ : Q (bI (und0 f top 41 s)) u) : qX10_isUnder u (oI s) (nI top) Q := by
  unfold qX10_isUnder
  refine pk_loop (fun k i (s : Nat) => qX10_isUnder_5 Q k u (nI top) (oI s) (nI i)) (fun i t => t ≤ P ∧ und0 f top (41 - i) t = und0 f top 41 s) 41 0 s (by omega) ⟨hs, rfl⟩ (fun k t hI => ?_) (fun k i t hi hI ih => ?_)
  · unfold qX10_isUnder_5
    have e : und0 f top 41 s = false := by
      rw [← hI.2]; unfold und0; split <;> rfl
    rw [e] at hQ
    exact c_y (by decide) hQ
  · obtain ⟨i1, i2⟩ := hI
    obtain ⟨d, hd⟩ : ∃ d, 41 - i = d + 1 := ⟨40 - i, by omega⟩
    have hd' : 41 - (i + 1) = d := by omega
    unfold qX10_isUnder_5
    refine c_n (nI_nlt (a := 40) (b := i) (by omega) (by decide) |> fun h => h) ?_
    by_cases h0 : t = 0
    · have e : und0 f top 41 s = false := by rw [← i2, h0]; rfl
      rw [e] at hQ
      rw [h0]
      exact c_y (by decide) hQ
    · rw [oI_pos (by omega)]
      refine c_n (nI_pos (by omega)) (c_n (nI_ge (b := 40) (by omega) (by decide)) (c_eq' rfl rfl (by omega) (by omega) (fun he => ?_) (fun he => ⟨vp_in_nI (by omega) (by decide), ?_⟩)))
      · have e : und0 f top 41 s = true := by
          rw [← i2, hd]; unfold und0; rw [if_neg h0, und_s, if_pos he]
        rw [e] at hQ
        exact hQ
      · rw [nI_clamp (by omega), hf _ (by omega), ofI1, nI_add]
        refine ih _ ⟨hb _ (by omega), ?_⟩
        rw [← i2, hd, hd']
        conv => rhs; unfold und0
        rw [if_neg h0, und_s, if_neg he]
