theorem nxt_b {A : Nat → Nat → Nat} {n i : Nat} (hL : ∀ j, j < A 13 n → 97 ≤ A 14 (12 * n + j) ∧ A 14 (12 * n + j) ≤ 122) (hi : i ≤ A 13 n) : 97 ≤ nxtA A n i ∧ nxtA A n i ≤ 123 := by
  unfold nxtA; split
  · omega
  · have := hL i (by omega); omega
theorem prv_b {A : Nat → Nat → Nat} {n i : Nat} (hL : ∀ j, j < A 13 n → 97 ≤ A 14 (12 * n + j) ∧ A 14 (12 * n + j) ≤ 122) (hi : i ≤ A 13 n) : 97 ≤ prvA A n i ∧ prvA A n i ≤ 123 := by
  unfold prvA; split
  · omega
  · have := hL (i - 1) (by omega); omega
theorem N_fits {sp : Md} {A : Nat → Nat → Nat} {c s r n i : Nat} (hw : Wf A c) (hn : Nna sp A) (hp : Nsp sp A) (hs : s < A 53 0) (hr : r < A 17 s) (hnn : n < A 52 0) (hi : i < A 13 n) {Q : Int32 → Md → Prop} (hQ : Q (bI (fitB A (16 * s + r) n i)) sp) : qX7_fits sp (nI (16 * s + r)) (nI (14 * n + 1 + i)) (nI (14 * n + 1 + A 13 n)) Q := by
  have b2 : A 52 0 ≤ 80 := hw.1.2.2.1
  have b3 : A 53 0 ≤ 12 := hw.1.2.2.2.1
  obtain ⟨-, -, -, l1, l2, l3⟩ := hw.2.2.2.2.1 n hnn
  obtain ⟨-, -, r16, wr⟩ := hw.2.2.2.2.2.1 s hs
  obtain ⟨u1, u2, u3, u4, u5, u6, u7, u8, u9⟩ := wr r hr
  obtain ⟨-, -, -, -, n5, n6, n7⟩ := hn.2 n hnn
  obtain ⟨p1, p2, p3, p4, p5, p6⟩ := (hp.2 s hs).2.2.2 r hr
  generalize hq : 16 * s + r = q at *
  have hq192 : q < 192 := by omega
  have snx : ∀ k, k ≤ A 13 n → (gB sp 5 (14 * n + 1 + k)).toInt32 = nI (nxtA A n k) := by
    intro k hk
    unfold nxtA
    by_cases e : k = A 13 n
    · rw [if_pos e, e]; exact n7
    · rw [if_neg e]; exact n6 k (by omega)
  have spv : ∀ k, k ≤ A 13 n → (gB sp 5 (14 * n + k)).toInt32 = nI (prvA A n k) := by
    intro k hk
    unfold prvA
    by_cases e : k = 0
    · rw [if_pos e, e]; exact n5
    · rw [if_neg e, show 14 * n + k = 14 * n + 1 + (k - 1) by omega]; exact n6 _ (by omega)
  unfold qX7_fits
  rw [nI_clamp (by omega), p3, nI_add]
  refine ⟨vp_in_nI hq192 (by decide), c_le rfl rfl (by omega) (by omega) (fun h1 => ?_) (fun h1 => ?_)⟩
  · have h1' : i + A 20 q ≤ A 13 n := by omega
    refine pk_loop (fun k j (u : Unit) => qX7_fits_21 Q k sp (nI q) (nI (14 * n + 1 + i)) (nI (14 * n + 1 + i + A 20 q)) (nI (14 * n + 1 + i + j))) (fun j u => ∀ j', j' < j → A 14 (12 * n + (i + j')) = A 21 (3 * q + j')) (A 20 q) 0 () (by omega) (fun j hj => by omega) (fun k u hI => ?_) (fun k j u hj hI ih => ?_)
    · have hb1 := prv_b l3 (show i ≤ A 13 n by omega)
      have hb2 := nxt_b l3 h1'
      have ef : fitB A q n i = (bitB (msk (A 18 q) (A 19 q)) (prvA A n i - 97) && bitB (msk (A 24 q) (A 25 q)) (nxtA A n (i + A 20 q) - 97)) := by
        unfold fitB; rw [decide_eq_true h1', eqB_t _ hI]; rfl
      unfold qX7_fits_21 qX7_fits_88
      refine c_y (nI_le (Nat.le_refl _) (by omega)) ⟨vp_in_nI hq192 (by decide), ?_⟩
      rw [nl_1, pk_sub (by omega), nI_clamp (by omega), nI_clamp (by omega), nI_clamp (by omega), show 14 * n + 1 + i - 1 = 14 * n + i by omega, spv i (by omega), show 14 * n + 1 + i + A 20 q = 14 * n + 1 + (i + A 20 q) by omega, snx _ h1', p1, p2]
      refine ⟨vp_in_nI (by omega) (by decide), bit_c (msk_lt u2) hb1.1 hb1.2 (fun hb => ?_) (fun hb => c_y rfl ?_)⟩
      · rw [hb] at ef
        refine c_n (by decide) ⟨vp_in_nI hq192 (by decide), vp_in_nI (by omega) (by decide), bit_c (msk_lt u9) hb2.1 hb2.2 (fun hb' => ?_) (fun hb' => ?_)⟩
        · rw [hb'] at ef; rw [ef] at hQ; exact hQ
        · rw [hb'] at ef; rw [ef] at hQ; exact hQ
      · rw [hb] at ef; rw [ef] at hQ; exact hQ
    · have e3 : q * 3 + (14 * n + 1 + i + j) - (14 * n + 1 + i) = 3 * q + j := by omega
      have l4 := l3 (i + j) (by omega)
      have l5 := u5 j hj
      unfold qX7_fits_21
      refine c_n (nI_ge (by omega) (by omega)) ⟨vp_in_nI (by omega) (by decide), ?_⟩
      rw [nl_3, pk_mul, nI_add, pk_sub (by omega), e3, nI_clamp (by omega), nI_clamp (by omega), p5 j hj, show 14 * n + 1 + i + j = 14 * n + 1 + (i + j) by omega, n6 (i + j) (by omega), ofI1, nI_add, show 14 * n + 1 + (i + j) + 1 = 14 * n + 1 + i + (j + 1) by omega]
      refine ⟨vp_in_nI (by omega) (by decide), c_eq rfl rfl (by omega) (by omega) (fun e => ih () (fun j' hj' => ?_)) (fun e => ?_)⟩
      · by_cases ej : j' = j
        · rw [ej]; exact e
        · exact hI j' (by omega)
      · have ef : fitB A q n i = false := by
          unfold fitB; rw [eqB_f (f := fun j => A 14 (12 * n + (i + j))) (g := fun j => A 21 (3 * q + j)) (A 20 q) j hj e, Bool.false_and, Bool.and_false]
        rw [ef] at hQ; exact hQ
  · have ef : fitB A q n i = false := by
      unfold fitB; rw [decide_eq_false (by omega), Bool.false_and]
    rw [ef] at hQ; exact hQ
theorem N_ruleFor {sp : Md} {A : Nat → Nat → Nat} {c s n i : Nat} (hw : Wf A c) (hn : Nna sp A) (hp : Nsp sp A) (hs : s ≤ A 53 0) (hnn : n < A 52 0) (hi : i < A 13 n) {Q : Int32 → Md → Prop} (hQ : Q (if rulA A s n i = 0 then -1 else nI (16 * (s - 1) + (rulA A s n i - 1))) sp) : qX7_ruleFor sp (oI s) (nI (14 * n + 1 + i)) (nI (14 * n + 1 + A 13 n)) Q := by
  have b3 : A 53 0 ≤ 12 := hw.1.2.2.2.1
  unfold qX7_ruleFor
  by_cases h0 : s = 0
  · subst h0
    exact c_y' rfl hQ
  obtain ⟨s, rfl⟩ : ∃ k, s = k + 1 := ⟨s - 1, by omega⟩
  have er : rulA A (s + 1) n i = fstF (fun r => fitB A (16 * s + r) n i) (A 17 s) := by
    unfold rulA; rw [if_neg (by omega)]; rfl
  rw [oI_s, nl_16, pk_mul, Nat.mul_comm s 16]
  obtain ⟨-, -, r16, wr⟩ := hw.2.2.2.2.2.1 s (by omega)
  have p9 := (hp.2 s (by omega)).2.2.1
  rw [er, Nat.add_sub_cancel] at hQ
  refine c_n' (nI_m1 (by omega)) ?_
  refine pk_loop (fun k r (u : Unit) => qX7_ruleFor_17 Q k sp (nI s) (nI (14 * n + 1 + i)) (nI (14 * n + 1 + A 13 n)) (nI (16 * s)) (nI (16 * s + r))) (fun r u => fstF (fun r => fitB A (16 * s + r) n i) r = 0) (A 17 s) 0 () (by omega) rfl (fun k u hI => ?_) (fun k r u hr hI ih => ?_)
  · unfold qX7_ruleFor_17
    rw [nI_clamp (by omega), p9, nI_add]
    rw [hI] at hQ
    exact ⟨vp_in_nI (by omega) (by decide), c_y (nI_le (Nat.le_refl _) (by omega)) hQ⟩
  · unfold qX7_ruleFor_17
    rw [nI_clamp (by omega), p9, nI_add]
    refine ⟨vp_in_nI (by omega) (by decide), c_n (nI_ge (by omega) (by omega)) (N_fits hw hn hp (by omega) hr hnn hi ?_)⟩
    cases hf : fitB A (16 * s + r) n i with
    | true =>
      have e := fstF_hit hI hf (A 17 s) hr
      rw [e, if_neg (by omega), Nat.add_sub_cancel] at hQ
      exact b_1' hQ
    | false =>
      refine b_0' ?_
      rw [ofI1, nI_add]
      exact ih () (fstF_no hI hf)
theorem lastF_le {to yr : Nat → Nat} {t y : Nat} : ∀ k, lastF to yr t y k ≤ k := by
  intro k
  induction k with
  | zero => exact Nat.le_refl _
  | succ k ih =>
    show (if to k = t ∧ yr k ≤ y then k + 1 else lastF to yr t y k) ≤ k + 1
    split <;> omega
theorem N_spellingAt {sp : Md} {A : Nat → Nat → Nat} {c t y : Nat} (hw : Wf A c) (hp : Nsp sp A) (ht : t < 3) (hy : y < 400) {Q : Int32 → Md → Prop} (hQ : Q (oI (spA A t y)) sp) : qX7_spellingAt sp (nI t) (nI y) Q := by
  have b0 : A 50 0 < 400 := hw.1.1
  have b3 : A 53 0 ≤ 12 := hw.1.2.2.2.1
  unfold qX7_spellingAt
  rw [hp.1]
  refine ⟨A 53 0 + 1, ?_⟩
  refine pk_loopD (fun k i (u : Unit) => qX7_spellingAt_7 Q k sp (nI t) (nI y) (oI i)) (fun i u => i ≤ A 53 0 ∧ lastF (A 15) (A 16) t y i = spA A t y) (fun k u hI => ?_) (fun k i u hI ih => ?_) (A 53 0) () ⟨Nat.le_refl _, rfl⟩
  · unfold qX7_spellingAt_7
    rw [← hI.2] at hQ
    exact c_y (by decide) hQ
  · obtain ⟨i1, i2⟩ := hI
    obtain ⟨p1, p2, -⟩ := hp.2 i (by omega)
    obtain ⟨w1, w2, -⟩ := hw.2.2.2.2.2.1 i (by omega)
    have i2' : (if A 15 i = t ∧ A 16 i ≤ y then i + 1 else lastF (A 15) (A 16) t y i) = spA A t y := i2
    unfold qX7_spellingAt_7
    rw [oI_s, nI_clamp (by omega), p1, p2, oI_dec]
    refine c_n (nI_pos (by omega)) ⟨vp_in_nI (by omega) (by decide), c_eq' rfl rfl (by omega) (by omega) (fun e => ⟨vp_in_nI (by omega) (by decide), c_lt rfl rfl (by omega) (by omega) (fun e2 => ?_) (fun e2 => ?_)⟩) (fun e => ?_)⟩
    · rw [if_neg (by omega)] at i2'; exact ih () ⟨by omega, i2'⟩
    · rw [if_pos ⟨e, by omega⟩] at i2'
      rw [← i2', oI_s] at hQ; exact hQ
    · rw [if_neg (fun h => e h.1)] at i2'; exact ih () ⟨by omega, i2'⟩
theorem N_spellInto {sp u : Md} {A : Nat → Nat → Nat} {c n y : Nat} (hw : Wf A c) (hn : Nna sp A) (hp : Nsp sp A) (hnn : n < A 52 0) (hy : y < 400) {l : List (Nat × Int32)} (hl : RowIs u l) (hll : l.length ≤ 37) {Q : Md → Md → Prop} (hQ : ∀ u', Fr [(0, 0), (3, 1), (1, 2)] u u' → RowIs u' (l ++ spl A n y) → Q sp u') : qX7_spellInto sp u (nI n) (nI y) Q := by
  have b2 : A 52 0 ≤ 80 := hw.1.2.2.1
  have b3 : A 53 0 ≤ 12 := hw.1.2.2.2.1
  obtain ⟨-, wt, -, l1, l2, l3⟩ := hw.2.2.2.2.1 n hnn
  obtain ⟨n1, n2, n3, n4, n5, n6, n7⟩ := hn.2 n hnn
  unfold qX7_spellInto
  rw [nI_clamp (by omega), n2]
  refine ⟨vp_in_nI (by omega) (by decide), N_spellingAt hw hp wt hy ⟨vp_in_nI (by omega) (by decide), ?_⟩⟩
  rw [n4, nl_14, pk_mul, nl_1, nI_add, nI_add, Nat.mul_comm n 14]
  have hs : spA A (A 11 n) y ≤ A 53 0 := lastF_le _
  generalize hse : spA A (A 11 n) y = s at *
  have hspl : spl A n y = splF A s n 12 0 := by unfold spl; rw [hse]
  rw [hspl] at hQ
  refine pk_loop (fun k st (z : Md × Nat) => qX7_spellInto_35 Q k sp z.1 (oI s) (nI (14 * n + 1 + z.2)) (nI (14 * n + 1 + A 13 n)) (nI st)) (fun st z => Fr [(0, 0), (3, 1), (1, 2)] u z.1 ∧ z.2 ≤ 3 * st ∧ ∃ l', RowIs z.1 l' ∧ l'.length ≤ 37 + 3 * st ∧ l' ++ splF A s n (12 - st) z.2 = l ++ splF A s n 12 0) 12 0 (u, 0) (by omega) ⟨Fr.rf, by omega, l, hl, hll, rfl⟩ (fun k z hI => ?_) (fun k st z hst hI ih => ?_)
  · obtain ⟨i1, -, l', i2, i3, i4⟩ := hI
    unfold qX7_spellInto_35
    refine c_y (by decide) (hQ z.1 i1 ?_)
    rw [← i4]
    show RowIs z.1 (l' ++ [])
    rw [List.append_nil]; exact i2
  · obtain ⟨v, i⟩ := z
    obtain ⟨i1, i0, l', i2, i3, i4⟩ := hI
    dsimp only at i1 i0 i2 i4 ⊢
    obtain ⟨d, hd⟩ : ∃ d, 12 - st = d + 1 := ⟨11 - st, by omega⟩
    have hd' : 12 - (st + 1) = d := by omega
    rw [hd] at i4
    have i4' : l' ++ (if A 13 n ≤ i then [] else if rulA A s n i = 0 then (A 14 (12 * n + i), -3) :: splF A s n d (i + 1) else lsF (fun j => (A 23 (3 * (16 * (s - 1) + (rulA A s n i - 1)) + j), ldI (s - 1) (rulA A s n i - 1))) (A 22 (16 * (s - 1) + (rulA A s n i - 1))) ++ splF A s n d (i + A 20 (16 * (s - 1) + (rulA A s n i - 1)))) = l ++ splF A s n 12 0 := i4
    unfold qX7_spellInto_35
    refine c_n (nI_ge (b := 12) hst (by decide)) (c_le rfl rfl (by omega) (by omega) (fun h => ?_) (fun h => ?_))
    · rw [if_pos (by omega), List.append_nil] at i4'
      refine hQ v i1 ?_
      rw [← i4']; exact i2
    · rw [if_neg (by omega)] at i4'
      have hi : i < A 13 n := by omega
      refine N_ruleFor hw hn hp hs hnn hi ?_
      by_cases hr0 : rulA A s n i = 0
      · rw [if_pos hr0] at i4' ⊢
        refine c_y' rfl ⟨vp_in_nI (by omega) (by decide), ?_⟩
        have := l3 i hi
        rw [nI_clamp (by omega), n6 i hi]
        refine N_add i2 (by omega) (by omega) (fun v' fv hv' => ?_)
        rw [ofI1, nI_add, nI_add, show 14 * n + 1 + i + 1 = 14 * n + 1 + (i + 1) by omega]
        refine ih (v', i + 1) ⟨i1.tr fv, by show i + 1 ≤ 3 * (st + 1); omega, l' ++ [(A 14 (12 * n + i), -3)], hv', by rw [List.length_append]; show l'.length + 1 ≤ _; omega, ?_⟩
        rw [hd', List.append_assoc]; exact i4'
      · rw [if_neg hr0] at i4' ⊢
        have hs0 : s ≠ 0 := fun e => hr0 (by unfold rulA; rw [if_pos e])
        obtain ⟨s, rfl⟩ : ∃ k, s = k + 1 := ⟨s - 1, by omega⟩
        obtain ⟨r, hr⟩ : ∃ r, rulA A (s + 1) n i = r + 1 := ⟨rulA A (s + 1) n i - 1, by omega⟩
        rw [hr] at i4' ⊢
        simp only [Nat.add_sub_cancel] at i4' ⊢
        have hrr : r < A 17 s ∧ fitB A (16 * s + r) n i = true := by
          have er : rulA A (s + 1) n i = fstF (fun r => fitB A (16 * s + r) n i) (A 17 s) := by
            unfold rulA; rw [if_neg (by omega)]; rfl
          exact fstF_some _ r (er.symm.trans hr)
        obtain ⟨-, -, r16, wr⟩ := hw.2.2.2.2.2.1 s (by omega)
        obtain ⟨u1, u2, u3, u4, u5, u6, u7, u8, u9⟩ := wr r hrr.1
        obtain ⟨p1, p2, p3, p4, p5, p6⟩ := (hp.2 s (by omega)).2.2.2 r hrr.1
        have hfl : i + A 20 (16 * s + r) ≤ A 13 n := by
          have := hrr.2
          unfold fitB at this
          rw [Bool.and_eq_true] at this
          exact of_decide_eq_true this.1
        have eld : 100 * oI (s + 1) + nI (16 * s + r) - oI (s + 1) * 16 = ldI s r := by
          rw [oI_s, nl_100, nl_16, pk_mul, pk_mul, nI_add, pk_sub (by omega)]
          unfold ldI; congr 1; omega
        refine c_n' (nI_m1 (by omega)) ?_
        rw [eld]
        generalize hq : 16 * s + r = q at *
        refine pk_loop (fun k j (w : Md) => qX7_spellInto_105 Q _ k sp w (oI (s + 1)) (nI (14 * n + 1 + i)) (nI (14 * n + 1 + A 13 n)) (nI st) (nI q) (ldI s r) (nI j)) (fun j w => Fr [(0, 0), (3, 1), (1, 2)] u w ∧ RowIs w (l' ++ lsF (fun j => (A 23 (3 * q + j), ldI s r)) j)) (A 22 q) 0 v (by omega) ⟨i1, by show RowIs v (l' ++ []); rw [List.append_nil]; exact i2⟩ (fun k w hJ => ?_) (fun k j w hj hJ jh => ?_)
        · unfold qX7_spellInto_105
          rw [nI_clamp (by omega), p4, p3, nI_add, ofI1, nI_add, show 14 * n + 1 + i + A 20 q = 14 * n + 1 + (i + A 20 q) by omega]
          refine ⟨vp_in_nI (by omega) (by decide), c_y (nI_le (Nat.le_refl _) (by omega)) ⟨vp_in_nI (by omega) (by decide), ?_⟩⟩
          refine ih (w, i + A 20 q) ⟨hJ.1, by show i + A 20 q ≤ 3 * (st + 1); omega, _, hJ.2, by rw [List.length_append, lsF_len]; omega, ?_⟩
          rw [hd', List.append_assoc]; exact i4'
        · have l23 := u7 j hj
          unfold qX7_spellInto_105
          rw [nI_clamp (by omega), p4, nl_3, pk_mul, nI_add, nI_clamp (by omega), Nat.mul_comm q 3, p6 j hj, ofI1]
          refine ⟨vp_in_nI (by omega) (by decide), c_n (nI_ge hj (by omega)) ⟨vp_in_nI (by omega) (by decide), N_add hJ.2 (by rw [List.length_append, lsF_len]; omega) (by omega) (fun w' fw hw' => ?_)⟩⟩
          rw [nI_add]
          refine jh w' ⟨hJ.1.tr fw, ?_⟩
          rw [List.append_assoc] at hw'; exact hw'
