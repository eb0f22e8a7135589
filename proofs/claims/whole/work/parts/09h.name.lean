def upC (A : Nat → Nat → Nat) (c : Nat) (f : Nat → Nat) : Nat → Nat → Nat := fun d => if d = c then f else A d
theorem sim_name {c : Nat} {nb m st la sp ac bd sg tp : Md} (hR : RW c m st la sp ac bd sg) (hT : RTape tp m) {x1 x2 x3 : Int32} {Q : Int32 → Md → Md → Md → Md → Md → Int32 → Md → Prop} (hQ : ∀ r sp' tp' m', RW c m' st la sp' ac bd sg → RTape tp' m' → Fr [(1, 1), (0, 5)] m m' → Q r nb st la sp' tp' r m') : qX11_name nb st la sp tp x1 x2 x3 (fun r nb' st' la' sp' tp' => qX12_name m x1 x2 x3 (fun r' m' => Q r nb' st' la' sp' tp' r' m')) := by
  obtain ⟨A, hm, hw, hs, hn⟩ := id hR
  obtain ⟨T, hT5, t1, t2, t3, t4, t5⟩ := id hT
  have e0 : gA m 1 0 = nI (A 50 0) := hm.1.1
  have e1 : gA m 1 1 = nI (A 51 0) := hm.1.2.1
  have e2 : gA m 1 2 = nI (A 52 0) := hm.1.2.2.1
  have s1 : gF la 0 = nI (A 51 0) := hn.1.1.1
  have s0 : gF st 0 = nI (A 50 0) := hs.1
  have s2 : gF sp 0 = nI (A 52 0) := hn.2.1.1.1
  have b0 : A 50 0 < 400 := hw.1.1
  have b1 : A 51 0 ≤ 40 := hw.1.2.1
  have b2 : A 52 0 ≤ 80 := hw.1.2.2.1
  by_cases hb : nmBad (A 51 0) T (A 50 0) (gB tp 0) x1 x2 x3
  · refine N_name0 s0 b0 s1 b1 t1 hT5 hb (M_name0 e0 b0 e1 b1 t2 hT5 ?_ (hQ _ _ _ _ hR hT Fr.rf))
    rcases hb with h | h | h | h
    · exact Or.inl h
    · exact Or.inr (Or.inl h)
    · exact Or.inr (Or.inr (Or.inl h))
    · exact Or.inr (Or.inr (Or.inr (fun k => h ⟨k.1, k.2.1, fun j hj => by rw [t3 j hj]; exact k.2.2 j hj⟩)))
  rcases ix32 x1 (n := A 51 0) (by omega) with h | ⟨p, hp, rfl⟩
  · exact absurd (Or.inl h) hb
  rcases ix32 x2 (n := 3) (by omega) with h | ⟨t, ht, rfl⟩
  · exact absurd (Or.inr (Or.inl h)) hb
  obtain ⟨d, hd, rfl⟩ := (died_cases x3 b0).resolve_right (fun h => hb (Or.inr (Or.inr (Or.inl h))))
  have hL : 1 ≤ T ∧ T ≤ 12 ∧ ∀ j, j < T → isL (gB tp 0 j) := Classical.byContradiction (fun h => hb (Or.inr (Or.inr (Or.inr h))))
  obtain ⟨l1, l2, l3⟩ := hL
  have l3' : ∀ j, j < T → isL (gB m 4 j) := fun j hj => by rw [← t3 j hj]; exact l3 j hj
  refine N_name1 s0 b0 s1 b1 s2 b2 t1 l1 l2 l3 hp ht hd (fun h => M_name1 e0 b0 e1 b1 e2 b2 t2 l1 l2 l3' hp ht hd (fun _ => hQ _ _ _ _ hR hT Fr.rf) (fun h' => absurd h (by omega))) (fun h sp' fs f0 f1 f2 f3 f4 f5 f6 f7 f8 => M_name1 e0 b0 e1 b1 e2 b2 t2 l1 l2 l3' hp ht hd (fun h' => absurd h' (by omega)) (fun _ m' fm g0 hv' g1 g2 g3 g4 g5 g6 => ?_))
  have hv : ∀ k, k ≠ 2 → (k < 90 + 16 * A 52 0 ∨ 90 + 16 * A 52 0 + 16 ≤ k) → gA m' 1 k = gA m 1 k := hv'
  have lt : ∀ {q : Nat}, q < A 52 0 → q < A 52 0 + 1 := fun h => by omega
  refine hQ _ _ _ _ ⟨upc (upC (upc (upc (upc (upc A 10 (A 52 0) p) 11 (A 52 0) t) 12 (A 52 0) d) 13 (A 52 0) T) 14 (fun i => if i < 12 * A 52 0 then A 14 i else (gB tp 0 (i - 12 * A 52 0)).toInt32.toInt.toNat)) 52 0 (A 52 0 + 1), ?_, ?_, hs, hn.1, ⟨⟨f0, ?_⟩, ?_⟩, hn.2.2.1, ⟨⟨hn.2.2.2.1.1.1, ?_⟩, ?_⟩, hn.2.2.2.2⟩ ⟨0, by omega, rfl, g0, fun j hj => by omega, ?_, ?_⟩ fm
  · obtain ⟨⟨k0, k1, k2, k3, k4, k5, k6, k7, k8, k9⟩, h1, h2, h3, h4, h5, h6, h7, h8, h9⟩ := id hm; obtain ⟨⟨w0, w1, w2, w3, w4, w5, w6, w7, w8, w9, wc⟩, -, -, -, wn, ws, wa, -⟩ := id hw; refine ⟨⟨(hv 0 (by omega) (by omega)).trans k0, (hv 1 (by omega) (by omega)).trans k1, g1, (hv 3 (by omega) (by omega)).trans k3, (hv 4 (by omega) (by omega)).trans k4, (hv 5 (by omega) (by omega)).trans k5, (hv 6 (by omega) (by omega)).trans k6, (hv 7 (by omega) (by omega)).trans k7, (hv 8 (by omega) (by omega)).trans k8, (hv 9 (by omega) (by omega)).trans k9⟩, h1.w w1 (fun k _ _ => hv k (by omega) (by omega)), h2.w (by omega) (fun k _ _ => hv k (by omega) (by omega)), h3.w w6 (fun k _ _ => hv k (by omega) (by omega)), ?_, h5.w w3 ws (fun k _ _ => hv k (by omega) (by omega)), h6.w w4 wa (fun k _ _ => hv k (by omega) (by omega)), h7.w w5 (fun k _ _ => hv k (by omega) (by omega)), h8.w w7 (fun k _ _ => hv k (by omega) (by omega)), h9.w (by omega) (fun k _ _ => hv k (by omega) (by omega))⟩
    intro n hn'
    have hp' : n < A 52 0 + 1 := hn'
    show gA m' 1 (90 + 16 * n) = nI (va_up (A 10) (A 52 0) p n) ∧ gA m' 1 (90 + 16 * n + 1) = nI (va_up (A 11) (A 52 0) t n) ∧ gA m' 1 (90 + 16 * n + 2) = dI (va_up (A 12) (A 52 0) d n) ∧ gA m' 1 (90 + 16 * n + 3) = nI (va_up (A 13) (A 52 0) T n) ∧ ∀ j, j < va_up (A 13) (A 52 0) T n → gA m' 1 (90 + 16 * n + 4 + j) = nI (if 12 * n + j < 12 * A 52 0 then A 14 (12 * n + j) else (gB tp 0 (12 * n + j - 12 * A 52 0)).toInt32.toInt.toNat)
    by_cases hpp : n = A 52 0
    · subst hpp
      rw [va_up_eq, va_up_eq, va_up_eq, va_up_eq]
      refine ⟨g2, g3, g4, g5, fun j hj => ?_⟩
      rw [g6 j hj, if_neg (by omega), show 12 * A 52 0 + j - 12 * A 52 0 = j by omega, ← t3 j hj]
      obtain ⟨k, q1, q2, q3⟩ := isL_nI (l3 j hj)
      rw [q3, nI_toInt (by omega)]; rfl
    · rw [va_up_ne' _ _ hpp, va_up_ne' _ _ hpp, va_up_ne' _ _ hpp, va_up_ne' _ _ hpp]
      obtain ⟨q1, q2, q3, q4, q5⟩ := h4 n (by omega)
      have := (wn n (by omega)).2.2.2.2.1
      rw [hv _ (by omega) (by omega), hv _ (by omega) (by omega), hv _ (by omega) (by omega), hv _ (by omega) (by omega)]
      refine ⟨q1, q2, q3, q4, fun j hj => ?_⟩
      rw [hv _ (by omega) (by omega), if_pos (by omega)]
      exact q5 j hj
  · obtain ⟨⟨w0, w1, w2, w3, w4, w5, w6, w7, w8, w9, wc⟩, v1, ⟨v2, v2b, v2c⟩, ⟨v3, v3b, v3c⟩, v4, v5, v6, v7, v8, ⟨v9, v9b, v9c⟩⟩ := id hw; refine ⟨⟨w0, w1, by show A 52 0 + 1 ≤ 80; omega, w3, w4, w5, w6, w7, w8, w9, wc⟩, v1, ⟨v2, v2b, v2c⟩, ⟨v3, v3b, v3c⟩, ?_, v5, v6, ⟨fun k hk => ⟨lt (v7.1 k hk).1, (v7.1 k hk).2⟩, v7.2⟩, v8, ⟨fun k hk => ⟨(v9 k hk).1, (v9 k hk).2.1, Nat.le_succ_of_le (v9 k hk).2.2.1, (v9 k hk).2.2.2⟩, v9b, v9c⟩⟩
    intro n hn'
    have hp' : n < A 52 0 + 1 := hn'
    show va_up (A 10) (A 52 0) p n < A 51 0 ∧ va_up (A 11) (A 52 0) t n < 3 ∧ va_up (A 12) (A 52 0) d n ≤ A 50 0 + 2 ∧ 1 ≤ va_up (A 13) (A 52 0) T n ∧ va_up (A 13) (A 52 0) T n ≤ 12 ∧ ∀ j, j < va_up (A 13) (A 52 0) T n → 97 ≤ (if 12 * n + j < 12 * A 52 0 then A 14 (12 * n + j) else (gB tp 0 (12 * n + j - 12 * A 52 0)).toInt32.toInt.toNat) ∧ (if 12 * n + j < 12 * A 52 0 then A 14 (12 * n + j) else (gB tp 0 (12 * n + j - 12 * A 52 0)).toInt32.toInt.toNat) ≤ 122
    by_cases hpp : n = A 52 0
    · subst hpp
      rw [va_up_eq, va_up_eq, va_up_eq, va_up_eq]
      refine ⟨hp, ht, hd, l1, l2, fun j hj => ?_⟩
      rw [if_neg (by omega), show 12 * A 52 0 + j - 12 * A 52 0 = j by omega]
      obtain ⟨k, q1, q2, q3⟩ := isL_nI (l3 j hj)
      rw [q3, nI_toInt (by omega)]; omega
    · rw [va_up_ne' _ _ hpp, va_up_ne' _ _ hpp, va_up_ne' _ _ hpp, va_up_ne' _ _ hpp]
      obtain ⟨q1, q2, q3, q4, q5, q6⟩ := v4 n (by omega)
      refine ⟨q1, q2, q3, q4, q5, fun j hj => ?_⟩
      rw [if_pos (by omega)]
      exact q6 j hj
  · intro n hn'
    have hp' : n < A 52 0 + 1 := hn'
    show gA sp' 1 n = nI (va_up (A 10) (A 52 0) p n) ∧ gA sp' 2 n = nI (va_up (A 11) (A 52 0) t n) ∧ gA sp' 3 n = dI (va_up (A 12) (A 52 0) d n) ∧ gA sp' 4 n = nI (va_up (A 13) (A 52 0) T n) ∧ (gB sp' 5 (14 * n)).toInt32 = nI 123 ∧ (∀ j, j < va_up (A 13) (A 52 0) T n → (gB sp' 5 (14 * n + 1 + j)).toInt32 = nI (if 12 * n + j < 12 * A 52 0 then A 14 (12 * n + j) else (gB tp 0 (12 * n + j - 12 * A 52 0)).toInt32.toInt.toNat)) ∧ (gB sp' 5 (14 * n + 1 + va_up (A 13) (A 52 0) T n)).toInt32 = nI 123
    rw [f1, f2, f3, f4]
    by_cases hpp : n = A 52 0
    · subst hpp
      simp only [va_up_eq]
      refine ⟨trivial, trivial, trivial, trivial, by rw [f6]; rfl, fun j hj => ?_, by rw [f8]; rfl⟩
      rw [f7 j hj, if_neg (by omega), show 12 * A 52 0 + j - 12 * A 52 0 = j by omega]
      obtain ⟨k, q1, q2, q3⟩ := isL_nI (l3 j hj)
      rw [q3, nI_toInt (by omega)]; rfl
    · simp only [va_up_ne' _ _ hpp]
      obtain ⟨q1, q2, q3, q4, q5, q6, q7⟩ := hn.2.1.1.2 n (by omega)
      have := (hw.2.2.2.2.1 n (by omega)).2.2.2.2.1
      refine ⟨q1, q2, q3, q4, by rw [f5 _ (by omega)]; exact q5, fun j hj => ?_, by rw [f5 _ (by omega)]; exact q7⟩
      rw [f5 _ (by omega), if_pos (by omega)]
      exact q6 j hj
  · have z := hn.2.1.2
    unfold Nsp at z ⊢
    rw [fs.1 6 (by decide), fs.2.1 7 (by decide), fs.2.1 8 (by decide), fs.2.1 9 (by decide), fs.2.1 10 (by decide), fs.2.1 11 (by decide), fs.2.1 12 (by decide), fs.2.1 13 (by decide), fs.2.2.2.1 14 (by decide), fs.2.2.2.1 15 (by decide)]
    exact z
  · intro h0 hh0
    obtain ⟨q1, q2, q3⟩ := hn.2.2.2.1.1.2 h0 hh0
    have hlt : A 37 h0 < A 52 0 := (hw.2.2.2.2.2.2.2.1.1 h0 hh0).1
    refine ⟨q1, ?_, q3⟩
    show _ = nI (va_up (A 10) (A 52 0) p (A 37 h0))
    rw [va_up_ne' _ _ (by omega)]; exact q2
  · obtain ⟨n, na, pl, to, yr, un, k1, k2, k3, k4⟩ := hn.2.2.2.1.2
    exact ⟨n, na, pl, to, yr, un, k1, k2, fun i hi => ⟨lt (k3 i hi).1, (k3 i hi).2⟩, k4⟩
  · rw [fm.1 15 (by decide)]; exact t4
  · rw [fm.1 16 (by decide)]; exact t5
