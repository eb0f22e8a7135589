theorem gn_b (A : Nat → Nat → Nat) (x : List (Nat × Int32)) (y pl : Nat) : -60 ≤ gn A x y pl ∧ gn A x y pl ≤ 20 := by
  have := (mnE_le A pl (edW A x y) 73 (A 52 0)).1
  unfold gn; omega
theorem N_greatestSum {u st la sp vw o1 o2 : Md} {A : Nat → Nat → Nat} {ca y k n : Nat} {pp : Nat → Nat} {g : Nat → Nat → Int} {nr : Nat → Nat → Bool} {W : Nat → List (Nat × Int32)} (hw : Wf A ca) (hla : Npl la A) (hsp : Nsc sp A) (hy : y < 400) (h0 : gF u 0 = nI y) (d1 : gF u 1 = nI n) (n7 : n ≤ 7) (hx : gX u 1 = 0 ∨ gX u 1 = 10240) (hW : Wr u n W)
    (ek : k = lcn (hnF A) (A 51 0)) (ep : pp = lsg (hnF A) (A 51 0)) (eg : g = fun i c => gn A (W i) y (pp c)) (en : nr = fun a b => nearB A (pp a) (pp b) 30) {Q : Int32 → Md → Md → Md → Md → Md → Md → Md → Prop}
    (q0 : noJoin A n → ∀ u', Fr [(0, 4), (1, 5), (0, 6), (1, 7), (1, 8), (1, 9), (6, 0), (6, 1)] u u' → gX u' 1 = gX u 1 → gF u' 4 = gF u 4 → gA u' 5 = gA u 5 → Q (-1) u' st la sp vw o1 o2)
    (q1 : ¬ noJoin A n → ∀ u' vw' o1' o2', Fr [(0, 4), (1, 5), (0, 6), (1, 7), (1, 8), (1, 9), (6, 0), (6, 1)] u u' → (gX u' 1 = 0 ∨ gX u' 1 = 10240) → gF u' 4 = nI n → (∀ i, i < n → jR k n g nr n 0 0 i < k ∧ gA u' 5 i = nI (pp (jR k n g nr n 0 0 i))) → Q (Int32.ofInt (jV k n g nr n 0 0)) u' st la sp vw' o1' o2') : qX3_greatestSum u st la sp vw o1 o2 Q := by
  have b1 : A 51 0 ≤ 40 := hw.1.2.1
  have hl := lcn_le (hnF A) (A 51 0)
  unfold qX3_greatestSum
  refine N_choosePlaces hw hla hsp (fun h10 u' f' => b_0' (q0 (Or.inl h10) u' (f'.mono (by decide)) (f'.2.2.2.2.2.2 1 (by decide)) (f'.1 4 (by decide)) (f'.2.1 5 (by decide)))) (fun h10 u1 f1 e6 e7 => b_1' ?_)
  rw [← ek] at e6 e7 h10 hl
  rw [← ep] at e7
  have g1 : gF u1 1 = nI n := (f1.1 1 (by decide)).trans d1
  have g0 : gF u1 0 = nI y := (f1.1 0 (by decide)).trans h0
  have gW : Wr u1 n W := by unfold Wr; rw [f1.2.1 2 (by decide), f1.2.2.2.1 3 (by decide)]; exact hW
  have hpp : ∀ c, c < k → gA u1 7 c = nI (pp c) ∧ pp c < A 51 0 := fun c hc => ⟨e7 c hc, by rw [ep]; exact (lsg_p (p := hnF A) (A 51 0) c (by omega)).1⟩
  rw [g1, e6]
  refine c_le rfl rfl (by omega) (by omega) (fun hnk => ?_) (fun hnk => q0 (Or.inr (by omega)) u1 (f1.mono (by decide)) (f1.2.2.2.2.2.2 1 (by decide)) (f1.1 4 (by decide)) (f1.2.1 5 (by decide)))
  have hno : ¬ noJoin A n := by
    rintro (h | h)
    · omega
    · omega
  refine N_fillGains hw hsp hy g0 g1 e6 (fun c hc => ⟨(hpp c hc).1, by have := (hpp c hc).2; omega⟩) n7 h10 gW (fun u2 vw' o1' o2' f2 hg2 => ?_)
  have hx2 : gX u2 1 = 0 ∨ gX u2 1 = 10240 := by rw [f2.2.2.2.2.2.2 1 (by decide), f1.2.2.2.2.2.2 1 (by decide)]; exact hx
  have hg : ∀ i c, i < n → c < k → -60 ≤ g i c ∧ g i c ≤ 20 := fun i c _ _ => by rw [eg]; exact gn_b _ _ _ _
  have hnr : ∀ a b, nr a b = nearB A (pp a) (pp b) 30 := fun a b => by rw [en]
  have k1 : gF u2 1 = nI n := (f2.1 1 (by decide)).trans g1
  have fa : Fr [(0, 4), (1, 5), (0, 6), (1, 7), (1, 8), (1, 9), (6, 0), (6, 1)] u u2 := (f1.mono (by decide)).tr (f2.mono (by decide))
  have fin : ∀ u3, Fr [(0, 4), (1, 5), (0, 6), (1, 7), (1, 8), (1, 9), (6, 0), (6, 1)] u u3 → gF u3 1 = nI n → (gX u3 1 = 0 ∨ gX u3 1 = 10240) → (0 < n → PD u3 A k n pp g ∧ ∀ R, 0 < R → R < 2 ^ k → MTab u3 k n g nr R) → qX3_takeFirst u3 la (fun v51_0 v51_1 => Q (Int32.ofInt (jV k n g nr n 0 0)) v51_0 st v51_1 sp vw' o1' o2') := fun u3 f3 hk1 hx3 hpd => by
    refine N_takeFirst hw hla hk1 hpd h10 n7 hnk hnr hg (fun u4 f4 e4 e5 => q1 hno u4 vw' o1' o2' (f3.tr (f4.mono (by decide))) ?_ e4 e5)
    rw [f4.2.2.2.2.2.2 1 (by decide)]; exact hx3
  refine N_fillMost (pp := pp) (g := g) (nr := nr) hw hla hx2 k1 ((f2.1 6 (by decide)).trans e6) (fun c hc => by rw [f2.2.1 7 (by decide)]; exact hpp c hc) (fun i c hi hc => by rw [hg2 i c hi hc, eg]) h10 n7 hnk hnr hg (fun n0 => ?_) (fun n0 u3 f3 hpd hmt => ?_)
  · subst n0
    unfold qX3_mostBehind
    rw [nl_0]
    refine N_bitCount (by decide) ?_
    rw [k1]
    refine c_n (by rw [show pc 0 = 0 from bs_emp _ _]; decide) (fin u2 fa k1 hx2 (fun h => absurd h (by decide)))
  · have hS : (0 : Nat) < 2 ^ k := Nat.two_pow_pos k
    refine N_mostBehind (S := 0) (l := 0) hw hla hpd h10 n7 hnk hnr hg hS (Nat.zero_le _) (fun c hc hf => hmt _ (Nat.lt_of_le_of_lt (Nat.zero_le _) (or_gt hf)) (or_lt hS hc)) ?_
    rw [show n - pc 0 = n by rw [show pc 0 = 0 from bs_emp _ _]; rfl]
    exact fin u3 (fa.tr (f3.mono (by decide))) hpd.1 (Or.inr hpd.2.2.2.2) (fun _ => ⟨hpd, hmt⟩)
