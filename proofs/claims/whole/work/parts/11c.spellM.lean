theorem M_isOf {M c : Nat} (hM : M < 2 ^ 31) (h1 : 97 ≤ c) (h2 : c ≤ 123) {Q : Int32 → Prop} (hQ : Q (bI (bitB M (c - 97)))) : qX12_isOf (nI M) (nI c) Q := by
  unfold qX12_isOf
  exact bit_c hM h1 h2 (fun e => by rw [e] at hQ; exact hQ) (fun e => by rw [e] at hQ; exact hQ)
theorem M_fits {m : Md} {A : Nat → Nat → Nat} {c s r n i : Nat} (hw : Wf A c) (hm : MW (gA m 1) A) (hs : s < A 53 0) (hr : r < A 17 s) (hnn : n < A 52 0) (hi : i < A 13 n) {Q : Int32 → Md → Prop} (hQ : Q (bI (fitB A (16 * s + r) n i)) m) : qX12_fits m (nI (1370 + 195 * s + 3 + 12 * r)) (nI (90 + 16 * n + 4)) (nI (A 13 n)) (nI i) Q := by
  have b2 : A 52 0 ≤ 80 := hw.1.2.2.1
  have b3 : A 53 0 ≤ 12 := hw.1.2.2.2.1
  obtain ⟨-, -, -, l1, l2, l3⟩ := hw.2.2.2.2.1 n hnn
  obtain ⟨-, -, r16, wr⟩ := hw.2.2.2.2.2.1 s hs
  obtain ⟨u1, u2, u3, u4, u5, u6, u7, u8, u9⟩ := wr r hr
  obtain ⟨-, -, -, -, n5⟩ := hm.2.2.2.2.1 n hnn
  obtain ⟨p1, p2, p3, p4, p5, p6, p7, p8⟩ := (hm.2.2.2.2.2.1 s hs).2.2.2 r hr
  generalize hq : 16 * s + r = q at *
  have hB : 1370 + 195 * s + 3 + 12 * r + 12 ≤ 3710 := by omega
  generalize 1370 + 195 * s + 3 + 12 * r = B at *
  have snx : ∀ k, k < A 13 n → gA m 1 (90 + 16 * n + 4 + k) = nI (A 14 (12 * n + k)) := n5
  unfold qX12_fits
  rw [nl_2, nI_add, nI_clamp (by omega), p3, nI_add]
  refine ⟨vp_in_nI (by omega) (by decide), c_le rfl rfl (by omega) (by omega) (fun h1 => ?_) (fun h1 => ?_)⟩
  · refine pk_loop (fun k j (u : Unit) => qX12_fits_24 Q k m (nI B) (nI (90 + 16 * n + 4)) (nI (A 13 n)) (nI i) (nI (A 20 q)) (nI j)) (fun j u => ∀ j', j' < j → A 14 (12 * n + (i + j')) = A 21 (3 * q + j')) (A 20 q) 0 () (by omega) (fun j hj => by omega) (fun k u hI => ?_) (fun k j u hj hI ih => ?_)
    · have ef : fitB A q n i = (bitB (msk (A 18 q) (A 19 q)) (prvA A n i - 97) && bitB (msk (A 24 q) (A 25 q)) (nxtA A n (i + A 20 q) - 97)) := by
        unfold fitB; rw [decide_eq_true h1, eqB_t _ hI]; rfl
      rw [ef] at hQ
      have k122 : Q (bI (bitB (msk (A 24 q) (A 25 q)) (nxtA A n (i + A 20 q) - 97))) m → qX12_fits_122 Q m (nI B) (nI (90 + 16 * n + 4)) (nI (A 13 n)) (nI i) (nI (A 20 q)) := by
        intro hk
        unfold qX12_fits_122
        rw [nl_10, nI_add, nI_clamp (by omega), p7]
        refine ⟨vp_in_nI (by omega) (by decide), c_eq rfl nl_0 (by omega) (by decide) (fun e => ?_) (fun e => ⟨vp_in_nI (by omega) (by decide), c_eq' rfl nl_1 (by omega) (by decide) (fun e1 => ?_) (fun e1 => ?_)⟩)⟩
        · rw [e, msk_0 (by have := nxt_b l3 h1; omega)] at hk; exact hk
        · rw [e1] at hk
          rw [nI_add]
          refine c_eq' rfl rfl (by omega) (by omega) (fun e2 => ?_) (fun e2 => ?_)
          · have : nxtA A n (i + A 20 q) = 123 := by unfold nxtA; rw [if_pos e2]
            rw [this, msk_1'] at hk; exact hk
          · have : nxtA A n (i + A 20 q) = A 14 (12 * n + (i + A 20 q)) := by unfold nxtA; rw [if_neg e2]
            have hh := l3 (i + A 20 q) (by omega)
            rw [this, msk_1 (by omega)] at hk; exact hk
        · have e24 : A 24 q = 2 := by omega
          rw [e24] at hk
          rw [nI_add]
          refine c_le rfl rfl (by omega) (by omega) (fun e2 => ?_) (fun e2 => ?_)
          · have : nxtA A n (i + A 20 q) = 123 := by unfold nxtA; rw [if_pos (by omega)]
            rw [this, msk_2' u9] at hk; exact hk
          · have : nxtA A n (i + A 20 q) = A 14 (12 * n + (i + A 20 q)) := by unfold nxtA; rw [if_neg (by omega)]
            have hh := l3 (i + A 20 q) (by omega)
            rw [this, msk_2] at hk
            rw [nl_11, nI_add, nI_add, nI_add, nI_clamp (by omega), nI_clamp (by omega), p8, show 90 + 16 * n + 4 + i + A 20 q = 90 + 16 * n + 4 + (i + A 20 q) by omega, snx _ (by omega)]
            refine ⟨vp_in_nI (by omega) (by decide), vp_in_nI (by omega) (by decide), M_isOf (by omega) hh.1 (by omega) ?_⟩
            cases hbb : bitB (A 25 q) (A 14 (12 * n + (i + A 20 q)) - 97) with
            | true => rw [hbb] at hk; exact b_1' hk
            | false => rw [hbb] at hk; exact b_0' hk
      unfold qX12_fits_24
      refine c_y (nI_le (Nat.le_refl _) (by omega)) ⟨vp_in_nI (by omega) (by decide), ?_⟩
      have k80 : A 18 q ≠ 1 ∨ i = 0 → qX12_fits_80 Q m (nI B) (nI (90 + 16 * n + 4)) (nI (A 13 n)) (nI i) (nI (A 20 q)) := by
        intro hor
        unfold qX12_fits_80
        rw [nI_clamp (by omega), p1]
        refine ⟨vp_in_nI (by omega) (by decide), c_eq' rfl nl_2 (by omega) (by decide) (fun e => ?_) (fun e => k122 ?_)⟩
        · rw [e] at hQ
          refine c_eq rfl nl_0 (by omega) (by decide) (fun e0 => ?_) (fun e0 => ?_)
          · have : prvA A n i = 123 := by unfold prvA; rw [if_pos e0]
            rw [this, msk_2' u2, Bool.false_and] at hQ; exact hQ
          · have : prvA A n i = A 14 (12 * n + (i - 1)) := by unfold prvA; rw [if_neg e0]
            have hh := l3 (i - 1) (by omega)
            rw [this, msk_2] at hQ
            rw [nl_1, nI_add, nI_add, pk_sub (by omega), nI_clamp (by omega), nI_clamp (by omega), p2, show 90 + 16 * n + 4 + i - 1 = 90 + 16 * n + 4 + (i - 1) by omega, snx _ (by omega)]
            refine ⟨vp_in_nI (by omega) (by decide), vp_in_nI (by omega) (by decide), M_isOf (by omega) hh.1 (by omega) ?_⟩
            cases hbb : bitB (A 19 q) (A 14 (12 * n + (i - 1)) - 97) with
            | true => rw [hbb, Bool.true_and] at hQ; exact b_1 (k122 hQ)
            | false => rw [hbb, Bool.false_and] at hQ; exact b_0 hQ
        · have : bitB (msk (A 18 q) (A 19 q)) (prvA A n i - 97) = true := by
            have hb := prv_b l3 (show i ≤ A 13 n by omega)
            by_cases e0 : A 18 q = 0
            · rw [e0]; exact msk_0 (by omega)
            · have e1 : A 18 q = 1 := by omega
              have ei : i = 0 := hor.resolve_left (fun h => h e1)
              have : prvA A n i = 123 := by unfold prvA; rw [if_pos ei]
              rw [e1, this]; exact msk_1'
          rw [this, Bool.true_and] at hQ; exact hQ
      rw [nI_clamp (by omega), p1]
      refine c_eq' rfl nl_1 (by omega) (by decide) (fun e => c_lt nl_0 rfl (by decide) (by omega) (fun e0 => ?_) (fun e0 => k80 (Or.inr (by omega)))) (fun e => k80 (Or.inl e))
      have : prvA A n i = A 14 (12 * n + (i - 1)) := by unfold prvA; rw [if_neg (by omega)]
      have hh := l3 (i - 1) (by omega)
      rw [e, this, msk_1 (by omega), Bool.false_and] at hQ; exact hQ
    · have l4 := l3 (i + j) (by omega)
      have l5 := u5 j hj
      unfold qX12_fits_24
      refine c_n (nI_ge hj (by omega)) ?_
      rw [nl_3, nI_add, nI_add, nI_add, nI_add, nI_clamp (by omega), nI_clamp (by omega), p4 j hj, show 90 + 16 * n + 4 + i + j = 90 + 16 * n + 4 + (i + j) by omega, snx (i + j) (by omega), ofI1, nI_add]
      refine ⟨vp_in_nI (by omega) (by decide), vp_in_nI (by omega) (by decide), c_eq rfl rfl (by omega) (by omega) (fun e => ih () (fun j' hj' => ?_)) (fun e => ?_)⟩
      · by_cases ej : j' = j
        · rw [ej]; exact e
        · exact hI j' (by omega)
      · have ef : fitB A q n i = false := by
          unfold fitB; rw [eqB_f (f := fun j => A 14 (12 * n + (i + j))) (g := fun j => A 21 (3 * q + j)) (A 20 q) j hj e, Bool.false_and, Bool.and_false]
        rw [ef] at hQ; exact hQ
  · have ef : fitB A q n i = false := by
      unfold fitB; rw [decide_eq_false (by omega), Bool.false_and]
    rw [ef] at hQ; exact hQ
theorem M_spellingOf {m : Md} {A : Nat → Nat → Nat} {c t y : Nat} (hw : Wf A c) (hm : MW (gA m 1) A) (ht : t < 3) (hy : y < 400) {Q : Int32 → Md → Prop} (hQ : Q (oI (spA A t y)) m) : qX12_spellingOf m (nI t) (nI y) Q := by
  have b0 : A 50 0 < 400 := hw.1.1
  have b3 : A 53 0 ≤ 12 := hw.1.2.2.2.1
  have e3 : gA m 1 3 = nI (A 53 0) := hm.1.2.2.2.1
  unfold qX12_spellingOf
  refine pk_loop (fun k i (x : Nat) => qX12_spellingOf_5 Q k m (nI t) (nI y) (oI x) (nI i)) (fun i x => x = lastF (A 15) (A 16) t y i) (A 53 0) 0 0 (by omega) rfl (fun k x hI => ?_) (fun k i x hi hI ih => ?_)
  · subst hI
    unfold qX12_spellingOf_5
    rw [nl_3, nI_clamp (by omega), e3]
    exact ⟨vp_in_nI (by decide) (by decide), c_y (nI_le (Nat.le_refl _) (by omega)) hQ⟩
  · obtain ⟨p1, p2, -⟩ := hm.2.2.2.2.2.1 i hi
    obtain ⟨w1, w2, -⟩ := hw.2.2.2.2.2.1 i hi
    have el : lastF (A 15) (A 16) t y (i + 1) = if A 15 i = t ∧ A 16 i ≤ y then i + 1 else lastF (A 15) (A 16) t y i := rfl
    unfold qX12_spellingOf_5
    rw [nl_3, nI_clamp (by omega), e3]
    refine ⟨vp_in_nI (by decide) (by decide), c_n (nI_ge hi (by omega)) ?_⟩
    rw [nl_1370, nl_195, nl_1, pk_mul, nI_add, nI_add, nI_clamp (by omega), nI_clamp (by omega), p1, p2, ofI1, nI_add]
    refine ⟨vp_in_nI (by omega) (by decide), c_eq' rfl rfl (by omega) (by omega) (fun e => ⟨vp_in_nI (by omega) (by decide), c_lt rfl rfl (by omega) (by omega) (fun e2 => ?_) (fun e2 => ?_)⟩) (fun e => ?_)⟩
    · exact ih x (by rw [el, if_neg (by omega)]; exact hI)
    · have := ih (i + 1) (by rw [el, if_pos ⟨e, by omega⟩])
      rw [oI_s] at this; exact this
    · exact ih x (by rw [el, if_neg (fun h => e h.1)]; exact hI)
theorem M_spells {m : Md} {A : Nat → Nat → Nat} {c n y : Nat} (hw : Wf A c) (hm : MW (gA m 1) A) (hnn : n < A 52 0) (hy : y < 400) {l : List (Nat × Int32)} (hl : Laid m l) (hll : l.length ≤ 37) {Q : Md → Prop} (hQ : ∀ m', Fr [(0, 21), (1, 19), (1, 20)] m m' → Laid m' (l ++ spl A n y) → Q m') : qX12_spells m (nI n) (nI y) Q := by
  have b2 : A 52 0 ≤ 80 := hw.1.2.2.1
  have b3 : A 53 0 ≤ 12 := hw.1.2.2.2.1
  obtain ⟨-, wt, -, l1, l2, l3⟩ := hw.2.2.2.2.1 n hnn
  obtain ⟨n1, n2, n3, n4, n5⟩ := hm.2.2.2.2.1 n hnn
  have hs : spA A (A 11 n) y ≤ A 53 0 := lastF_le _
  unfold qX12_spells qX12_nameIs
  rw [nl_90, nl_16, nl_1, pk_mul, nI_add, nI_add, nI_clamp (by omega), n2]
  refine ⟨vp_in_nI (by omega) (by decide), M_spellingOf hw hm wt hy ?_⟩
  generalize hse : spA A (A 11 n) y = s at *
  have hspl : spl A n y = splF A s n 12 0 := by unfold spl; rw [hse]
  rw [hspl] at hQ
  have key : ∀ R, R = (if s = 0 then 0 else A 17 (s - 1)) → qX12_spells_37 Q m (nI n) (oI s) (nI R) := by
    intro R hR
    have hR16 : R ≤ 16 := by
      rw [hR]; split
      · omega
      · exact (hw.2.2.2.2.2.1 (s - 1) (by omega)).2.2.1
    unfold qX12_spells_37 qX12_nameIs
    rw [nl_90, nl_16, nl_3, nl_4, pk_mul, nI_add, nI_add, nI_add, nI_clamp (by omega), n4]
    refine ⟨vp_in_nI (by omega) (by decide), ?_⟩
    refine lp2 (fun k (u : Md) (x : Int32) => qX12_spells_61 Q k u (oI s) (nI R) (nI (90 + 16 * n + 4)) (nI (A 13 n)) x) (fun u x => ∃ i d l', x = nI i ∧ i ≤ 12 ∧ A 13 n ≤ i + d ∧ d ≤ 12 ∧ Fr [(0, 21), (1, 19), (1, 20)] m u ∧ Laid u l' ∧ l'.length + 3 * d ≤ 37 + 36 ∧ l' ++ splF A s n d i = l ++ splF A s n 12 0) (fun u x => 12 - x.toNatClampNeg) (fun k u x hI ih => ?_) m 0 ⟨0, 12, l, rfl, by omega, by omega, by omega, Fr.rf, hl, by omega, rfl⟩
    obtain ⟨i, d, l', rfl, i12, iL, d12, fu, hlu, hlen, heq⟩ := hI
    have hmu : MW (gA u 1) A := by rw [fu.2.1 1 (by decide)]; exact hm
    unfold qX12_spells_61
    refine c_le rfl rfl (by omega) (by omega) (fun h => ?_) (fun h => ?_)
    · refine hQ u fu ?_
      rw [← heq]
      have : splF A s n d i = [] := by
        cases d with
        | zero => rfl
        | succ d => show (if A 13 n ≤ i then _ else _) = _; rw [if_pos h]
      rw [this, List.append_nil]; exact hlu
    · have hi : i < A 13 n := by omega
      obtain ⟨d, rfl⟩ : ∃ e, d = e + 1 := ⟨d - 1, by omega⟩
      have heq' : l' ++ (if A 13 n ≤ i then [] else if rulA A s n i = 0 then (A 14 (12 * n + i), -3) :: splF A s n d (i + 1) else lsF (fun j => (A 23 (3 * (16 * (s - 1) + (rulA A s n i - 1)) + j), ldI (s - 1) (rulA A s n i - 1))) (A 22 (16 * (s - 1) + (rulA A s n i - 1))) ++ splF A s n d (i + A 20 (16 * (s - 1) + (rulA A s n i - 1)))) = l ++ splF A s n 12 0 := heq
      rw [if_neg (by omega)] at heq'
      have hru : rulA A s n i = fstF (fun r => fitB A (16 * (s - 1) + r) n i) R := by
        unfold rulA
        by_cases h0 : s = 0
        · rw [if_pos h0]; rw [if_pos h0] at hR; rw [hR]; rfl
        · rw [if_neg h0]; rw [if_neg h0] at hR; rw [hR]
      have k114n : rulA A s n i = 0 → qX12_spells_114 Q (qX12_spells_61 Q k) u (oI s) (nI R) (nI (90 + 16 * n + 4)) (nI (A 13 n)) (nI i) (nI R) := by
        intro hr0
        rw [if_pos hr0] at heq'
        unfold qX12_spells_114
        refine c_y' rfl ?_
        have := l3 i hi
        rw [nI_add, nI_clamp (by omega), fu.2.1 1 (by decide), n5 i hi]
        refine ⟨vp_in_nI (by omega) (by decide), M_lays hlu (by omega) (fun u' fu' hu' => ?_)⟩
        rw [ofI1, nI_add]
        refine ih u' (nI (i + 1)) ⟨i + 1, d, _, rfl, by omega, by omega, by omega, fu.tr fu', hu', by rw [List.length_append]; show l'.length + 1 + 3 * d ≤ _; omega, ?_⟩ (by rw [nI_clamp (by omega), nI_clamp (by omega)]; omega)
        rw [List.append_assoc]; exact heq'
      have k114y : ∀ r, rulA A s n i = r + 1 → r < R → qX12_spells_114 Q (qX12_spells_61 Q k) u (oI s) (nI R) (nI (90 + 16 * n + 4)) (nI (A 13 n)) (nI i) (nI r) := by
        intro r hr hrR
        rw [if_neg (by omega), hr] at heq'
        have hs0 : s ≠ 0 := fun e => by rw [if_pos e] at hR; omega
        obtain ⟨s, rfl⟩ : ∃ k, s = k + 1 := ⟨s - 1, by omega⟩
        rw [if_neg hs0] at hR
        simp only [Nat.add_sub_cancel] at heq' hR hru
        have hrr : r < A 17 s ∧ fitB A (16 * s + r) n i = true := by
          have := fstF_some _ r (hru.symm.trans hr)
          rw [hR] at this; exact this
        obtain ⟨-, -, r16, wr⟩ := hw.2.2.2.2.2.1 s (by omega)
        obtain ⟨u1, u2, u3, u4, u5, u6, u7, u8, u9⟩ := wr r hrr.1
        obtain ⟨p1, p2, p3, p4, p5, p6, p7, p8⟩ := (hm.2.2.2.2.2.1 s (by omega)).2.2.2 r hrr.1
        have hfl : i + A 20 (16 * s + r) ≤ A 13 n := by
          have := hrr.2
          unfold fitB at this
          rw [Bool.and_eq_true] at this
          exact of_decide_eq_true this.1
        unfold qX12_spells_114
        rw [oI_s]
        refine c_n' (by rw [nI_eq (by omega) (by omega)]; omega) ?_
        rw [nl_1370, nl_195, nl_3, nl_12, pk_mul, pk_mul, nI_add, nI_add, nI_add]
        have hB : 1370 + 195 * s + 3 + 12 * r + 12 ≤ 3710 := by omega
        generalize hq : 16 * s + r = q at *
        generalize 1370 + 195 * s + 3 + 12 * r = B at *
        refine pk_loop (fun k j (w : Md) => qX12_spells_165 Q _ k w (nI s) (nI R) (nI (90 + 16 * n + 4)) (nI (A 13 n)) (nI i) (nI r) (nI B) (nI j)) (fun j w => Fr [(0, 21), (1, 19), (1, 20)] m w ∧ Laid w (l' ++ lsF (fun j => (A 23 (3 * q + j), ldI s r)) j)) (A 22 q) 0 u (by omega) ⟨fu, by show Laid u (l' ++ []); rw [List.append_nil]; exact hlu⟩ (fun k w hJ => ?_) (fun k j w hj hJ jh => ?_)
        · have f1 : gA w 1 = gA m 1 := hJ.1.2.1 1 (by decide)
          unfold qX12_spells_165
          rw [nl_6, nl_2, nI_add, nI_add, nI_clamp (by omega), nI_clamp (by omega), f1, p5, p3, nI_add]
          refine ⟨vp_in_nI (by omega) (by decide), c_y (nI_le (Nat.le_refl _) (by omega)) ⟨vp_in_nI (by omega) (by decide), ?_⟩⟩
          have := ih w (nI (i + A 20 q)) ⟨i + A 20 q, d, _, rfl, by omega, by omega, by omega, hJ.1, hJ.2, by rw [List.length_append, lsF_len]; omega, by rw [List.append_assoc]; exact heq'⟩ (by rw [nI_clamp (by omega), nI_clamp (by omega)]; omega)
          rw [oI_s] at this; exact this
        · have f1 : gA w 1 = gA m 1 := hJ.1.2.1 1 (by decide)
          have l23 := u7 j hj
          unfold qX12_spells_165
          rw [nl_6, nl_7, nI_add, nI_add, nI_add, nI_clamp (by omega), nI_clamp (by omega), f1, p5, p6 j hj, nl_100, pk_mul, nI_add, ofI1]
          refine ⟨vp_in_nI (by omega) (by decide), c_n (nI_ge hj (by omega)) ⟨vp_in_nI (by omega) (by decide), M_lays hJ.2 (by rw [List.length_append, lsF_len]; omega) (fun w' fw hw' => ?_)⟩⟩
          rw [nI_add]
          refine jh w' ⟨hJ.1.tr fw, ?_⟩
          rw [List.append_assoc] at hw'; exact hw'
      refine pk_loop (fun k r (z : Unit) => qX12_spells_71 Q _ k u (oI s) (nI R) (nI (90 + 16 * n + 4)) (nI (A 13 n)) (nI i) (nI r)) (fun r z => fstF (fun r => fitB A (16 * (s - 1) + r) n i) r = 0) R 0 () (by omega) rfl (fun k z hI => ?_) (fun k r z hr hI jh => ?_)
      · unfold qX12_spells_71
        exact c_y (nI_le (Nat.le_refl _) (by omega)) (k114n (hru.trans hI))
      · unfold qX12_spells_71
        refine c_n (nI_ge hr (by omega)) ?_
        have hs0 : s ≠ 0 := fun e => by rw [if_pos e] at hR; omega
        have es : oI s = nI (s - 1) := oI_pos (by omega)
        have ek := k114y r
        have jh' := jh ()
        rw [es] at ek jh' ⊢
        rw [if_neg hs0] at hR
        rw [nl_1370, nl_195, nl_3, nl_12, pk_mul, pk_mul, nI_add, nI_add, nI_add]
        refine M_fits hw hmu (by omega) (by omega) hnn hi ?_
        cases hf : fitB A (16 * (s - 1) + r) n i with
        | true =>
          refine b_1 (ek ?_ hr)
          rw [hru]; exact fstF_hit hI hf R hr
        | false =>
          refine b_0 ?_
          rw [ofI1, nI_add]
          exact jh' (fstF_no hI hf)
  by_cases h0 : s = 0
  · exact c_y' (by rw [h0]; rfl) (key 0 (by rw [if_pos h0]))
  · have es : oI s = nI (s - 1) := oI_pos (by omega)
    have kk := key (A 17 (s - 1)) (by rw [if_neg h0])
    have p3 := (hm.2.2.2.2.2.1 (s - 1) (by omega)).2.2.1
    rw [es] at kk ⊢
    refine c_n' (nI_m1 (by omega)) ?_
    rw [nl_1370, nl_195, nl_2, pk_mul, nI_add, nI_add, nI_clamp (by omega), p3]
    exact ⟨vp_in_nI (by omega) (by decide), kk⟩
