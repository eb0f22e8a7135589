theorem N_spelling {nb st sp tp : Md} {B : Nat → Nat} {T N S t : Nat} (hT : T ≤ 500) (t1 : gF tp 1 = nI T) (tb : ∀ j, j < T → byn (gB tp 0 j) = B j) (s0 : gF st 0 = nI N) (hN : N < 400) (s6 : gF sp 6 = nI S) (hS : S < 12) (ht : t < 3) {Q : Int32 → Md → Md → Md → Md → Prop} (hbad : ∀ R Z sp' tp', lo B T 17 0 (0, 0, 0) = (R, Z) → Z.1 ≠ 0 → InN sp sp' S B T R → gF tp' 1 = nI 0 → gF tp' 2 = nI Z.1 → gF tp' 3 = fI Z → Q (-4) nb st sp' tp') (hgood : ∀ R Z sp' tp', lo B T 17 0 (0, 0, 0) = (R, Z) → Z.1 = 0 → Fr [(0, 6), (1, 7), (1, 8), (1, 9), (1, 10), (1, 11), (1, 12), (1, 13), (3, 14), (3, 15)] sp sp' → SmA sp sp' S → (∀ i, i < R → (sq B T (i + 1)).1 = 0 → RuN sp' (16 * S + i) B T (sq B T i)) → gF sp' 6 = nI (S + 1) → gA sp' 7 = va_up (gA sp 7) S (nI t) → gA sp' 8 = va_up (gA sp 8) S (nI N) → gA sp' 9 = va_up (gA sp 9) S (nI R) → gF tp' 1 = nI 0 → gF tp' 2 = nI Z.1 → gF tp' 3 = fI Z → Q (nI R) nb (tZ st 1 (nI N) 1) sp' tp') : qX11_spelling nb st sp tp (nI t) Q := by
  unfold qX11_spelling
  refine q_to1 ht (b_1 ?_)
  rw [s6, s0]
  refine c_y (nI_lt (b := 12) hS (by decide)) ?_
  unfold qX7_readSpelling
  refine N_begin hT t1 tb (fun tp1 h1 => ⟨16 + 2, ?_⟩)
  refine N_lo (sp0 := sp) hS s6 16 0 sp tp1 (by omega) h1 ⟨Fr.rf, ⟨fun _ _ => ⟨rfl, rfl, rfl, rfl⟩, fun _ _ => ⟨rfl, rfl⟩⟩, fun i hi => by omega⟩ (fun R Z sp' tp' e h hI => ?_)
  obtain ⟨-, -, -, t2, t3, b3, -⟩ := h
  have e' : lo B T 17 0 (0, 0, 0) = (R, Z) := e
  have hR : R ≤ 16 := by have := lo_16 (B := B) (T := T) 16 0 (sq B T 0) (by omega); rw [e] at this; exact this
  unfold qX7_readSpelling_88 qX11_taken
  refine c_eq' (b := 0) t2 rfl (by omega) (by decide) (fun z => ?_) (fun n w5 hw5 => ?_)
  · obtain ⟨fr, sa, hv⟩ := hI
    rw [fr.1 6 (by decide), s6]
    refine ⟨vp_in_nI hS (by decide), fun w1 k1 => ?_⟩
    have w16 : gF w1 6 = nI S := by rw [k1]; show gF sp' 6 = _; rw [fr.1 6 (by decide), s6]
    rw [w16]
    refine ⟨vp_in_nI hS (by decide), fun w2 k2 => ?_⟩
    have w26 : gF w2 6 = nI S := by rw [k2]; exact w16
    rw [w26]
    refine ⟨vp_in_nI hS (by decide), fun w3 k3 w4 k4 w5 hw5 => ?_⟩
    have w36 : gF w3 6 = nI S := by rw [k3]; exact w26
    have f4 : Fr [(0, 6), (1, 7), (1, 8), (1, 9), (1, 10), (1, 11), (1, 12), (1, 13), (3, 14), (3, 15)] sp w4 := by
      rw [k4, k3, k2, k1]; exact Fr.tr (Fr.tr (Fr.tr (Fr.tr (fr.mono (by decide)) (Fr.tA 7 _ _ (by decide))) (Fr.tA 8 _ _ (by decide))) (Fr.tA 9 _ _ (by decide))) (Fr.sF 6 _ (by decide))
    refine c_y (by rw [hw5]; show gF tp' 2 = _; rw [t2, z]; rfl) (N_mark s0 hN (hgood R Z w4 w5 e' z f4 ?_ ?_ ?_ ?_ ?_ ?_ (by rw [hw5]; rfl) (by rw [hw5]; exact t2) (by rw [hw5]; exact t3)))
    · refine ⟨fun i hi => ?_, fun i hi => ?_⟩
      · have := sa.1 i hi; rw [k4, k3, k2, k1]; exact this
      · have := sa.2 i hi; rw [k4, k3, k2, k1]; exact this
    · intro i hi hk
      have := hv i hi hk; rw [k4, k3, k2, k1]; exact this
    · rw [k4, gF_sF, if_pos rfl, w36, nI_1]
    · rw [k4, k3, k2, k1]; show va_up (gA sp' 7) (nI S).toNatClampNeg _ = _; rw [nI_clamp (by omega), fr.2.1 7 (by decide)]
    · rw [k4, k3, k2, k1]; show va_up (gA sp' 8) (nI S).toNatClampNeg _ = _; rw [nI_clamp (by omega), fr.2.1 8 (by decide)]
    · rw [k4, k3, k2, k1]; show va_up (gA sp' 9) (nI S).toNatClampNeg _ = _; rw [nI_clamp (by omega), fr.2.1 9 (by decide)]
  · refine c_n (fun z => n ((nI_eq (b := 0) (by omega) (by decide)).1 (t2.symm.trans (by rw [hw5] at z; exact z)))) (hbad R Z sp' w5 e' n hI (by rw [hw5]; rfl) (by rw [hw5]; exact t2) (by rw [hw5]; exact t3))
abbrev LSP : List (Nat × Nat) := [(0, 5), (0, 10), (0, 11), (0, 12), (0, 13), (0, 14), (0, 15), (0, 16), (0, 17), (1, 18)]
abbrev LSW : List (Nat × Nat) := [(0, 5), (0, 10), (0, 11), (0, 12), (0, 13), (0, 14), (0, 15), (0, 16), (0, 17), (1, 18), (1, 1)]
theorem RuM.mv {V V' : Nat → Int32} {X i : Nat} {B : Nat → Nat} {T : Nat} {s : PS} (h : RuM V (3 + 12 * i) B T s) (hs : ∀ k, k < 195 → V' (X + k) = V k) (hi : i < 16) (hk : (oU B T s).1 = 0) (hp : s.2.2 ≤ T) : RuM V' (X + 3 + 12 * i) B T s := by
  obtain ⟨-, -, -, b1, -, b2, -⟩ := ru_b hk hp
  obtain ⟨h1, h2, h3, h4, h5, h6, h7, h8⟩ := h
  have g : ∀ k, k < 12 → V' (X + 3 + 12 * i + k) = V (3 + 12 * i + k) := fun k hk => by rw [show X + 3 + 12 * i + k = X + (3 + 12 * i + k) by omega]; exact hs _ (by omega)
  refine ⟨(g 0 (by omega)).trans h1, (g 1 (by omega)).trans h2, (g 2 (by omega)).trans h3, fun j hj => ?_, (g 6 (by omega)).trans h5, fun j hj => ?_, (g 10 (by omega)).trans h7, (g 11 (by omega)).trans h8⟩
  · rw [Nat.add_assoc (X + 3 + 12 * i) 3 j, g _ (by omega), ← Nat.add_assoc]; exact h4 j hj
  · rw [Nat.add_assoc (X + 3 + 12 * i) 7 j, g _ (by omega), ← Nat.add_assoc]; exact h6 j hj
theorem M_spelling {m : Md} {B : Nat → Nat} {T N S t : Nat} (hT : T ≤ 500) (m5 : gF m 5 = nI T) (mb : ∀ j, j < T → byn (gB m 4 j) = B j) (e0 : gA m 1 0 = nI N) (hN : N < 400) (e3 : gA m 1 3 = nI S) (hS : S < 12) (ht : t < 3) {Q : Int32 → Md → Prop} (hbad : ∀ R Z m', lo B T 17 0 (0, 0, 0) = (R, Z) → Z.1 ≠ 0 → Fr LSP m m' → gF m' 5 = nI 0 → gF m' 15 = nI Z.1 → gF m' 16 = fI Z → Q (-4) m') (hgood : ∀ R Z m', lo B T 17 0 (0, 0, 0) = (R, Z) → Z.1 = 0 → Fr LSW m m' → gF m' 5 = nI 0 → gF m' 15 = nI Z.1 → gF m' 16 = fI Z → gA m' 1 3 = nI (S + 1) → (∀ k, k ≠ 3 → (k < 1370 + 195 * S ∨ 1370 + 195 * S + 195 ≤ k) → gA m' 1 k = gA m 1 k) → gA m' 1 (1370 + 195 * S) = nI t → gA m' 1 (1370 + 195 * S + 1) = nI N → gA m' 1 (1370 + 195 * S + 2) = nI R → (∀ i, i < R → (sq B T (i + 1)).1 = 0 → RuM (gA m' 1) (1370 + 195 * S + 3 + 12 * i) B T (sq B T i)) → Q (nI R) m') : qX12_spelling m (nI t) Q := by
  unfold qX12_spelling
  refine m_to1 ht (b_1 ⟨by unfold vp_in; decide, ?_⟩)
  rw [show ((3 : Int32).toNatClampNeg) = 3 from rfl, e3]
  refine c_n' (fun z => absurd ((nI_eq (b := 12) (by omega) (by decide)).1 z) (by omega)) ?_
  refine M_begins (a := 0) hT (by decide) m5 mb (fun m1 f1 z5 h1 => ⟨16 + 2, ?_⟩)
  refine M_lo (m0 := m1) 16 0 m1 (by omega) h1 Fr.rf (fun i hi => by omega) (fun R Z m2 e h2 f2 hv => ?_)
  have e' : lo B T 17 0 (0, 0, 0) = (R, Z) := e
  have hR : R ≤ 16 := by have := lo_16 (B := B) (T := T) 16 0 (sq B T 0) (by omega); rw [e] at this; exact this
  have fm : Fr LSP m m2 := (f1.mono (by decide)).tr (f2.mono (by decide))
  obtain ⟨-, -, -, m15, m16, b3, -⟩ := id h2
  have z52 : gF m2 5 = nI 0 := (f2.1 5 (by decide)).trans z5
  unfold qX12_spelling_106
  refine M_good h2 (fun z => b_1 ⟨by unfold vp_in; decide, fun w1 k1 => ?_⟩) (fun z => b_0 (hbad R Z m2 e' z fm z52 m15 m16))
  unfold qX12_now
  refine ⟨by unfold vp_in; decide, by unfold vp_in; decide, fun w2 k2 => ⟨by unfold vp_in; decide, fun w3 k3 => ⟨by unfold vp_in; decide, ?_⟩⟩⟩
  have g1 : gA m2 1 = gA m 1 := fm.2.1 1 (by decide)
  have w31 : gA w3 1 = gA m 1 := by rw [k3, k2, k1]; exact g1
  have fw : Fr LSW m w3 := by rw [k3, k2, k1]; exact Fr.tr (Fr.tr (Fr.tr (fm.mono (by decide)) (Fr.tA 18 _ _ (by decide))) (Fr.tA 18 _ _ (by decide))) (Fr.tA 18 _ _ (by decide))
  have w318 : gA w3 18 = va_up (va_up (va_up (gA m2 18) 0 (nI t)) 1 (nI N)) 2 (nI R) := by
    rw [k3, k2, k1]
    show va_up (va_up (va_up (gA m2 18) 0 (nI t)) 1 (gA m2 1 0)) 2 (nI R) = _
    rw [g1, e0]
  rw [w31, show ((3 : Int32).toNatClampNeg) = 3 from rfl, e3, show (195 : Int32) = nI 195 from rfl, show (1370 : Int32) = nI 1370 from rfl, pk_mul, nI_add]
  refine pk_loop (fun n i u => qX12_spelling_158 Q n u (nI R) (nI (1370 + 195 * S)) (nI i)) (fun i u => Fr [(1, 1)] w3 u ∧ (∀ k, k < i → gA u 1 (1370 + 195 * S + k) = gA w3 18 k) ∧ ∀ k, (k < 1370 + 195 * S ∨ 1370 + 195 * S + 195 ≤ k) → gA u 1 k = gA m 1 k) 195 0 w3 (by omega) ⟨Fr.rf, fun k hk => by omega, fun k _ => by rw [w31]⟩ (fun n u hI => ?_) (fun n i u hi hI ih => ?_)
  · obtain ⟨fu, u1, u2⟩ := hI
    unfold qX12_spelling_158
    refine c_y (nI_le (a := 195) (Nat.le_refl _) (by decide)) ⟨by unfold vp_in; decide, by unfold vp_in; decide, fun w4 k4 => ?_⟩
    have w41 : gA w4 1 = va_up (gA u 1) 3 (nI (S + 1)) := by
      rw [k4]; show va_up (gA u 1) 3 (gA u 1 3 + 1) = _
      rw [u2 3 (by omega), e3, nI_1]
    have o : ∀ k, k < 195 → gA w4 1 (1370 + 195 * S + k) = gA w3 18 k := fun k hk => by rw [w41, va_up_ne' _ _ (by omega)]; exact u1 k hk
    refine hgood R Z w4 e' z ?_ ?_ ?_ ?_ ?_ (fun k h3 hk => ?_) ?_ ?_ ?_ (fun i hi hk => ?_)
    · rw [k4]; exact Fr.tr (fw.tr (fu.mono (by decide))) (Fr.tA 1 _ _ (by decide))
    · rw [k4]; show gF u 5 = _; rw [fu.1 5 (by decide), k3, k2, k1]; exact z52
    · rw [k4]; show gF u 15 = _; rw [fu.1 15 (by decide), k3, k2, k1]; exact m15
    · rw [k4]; show gF u 16 = _; rw [fu.1 16 (by decide), k3, k2, k1]; exact m16
    · rw [w41, va_up_eq]
    · rw [w41, va_up_ne' _ _ h3]; exact u2 k hk
    · have := o 0 (by omega); rw [w318] at this; exact this
    · have := o 1 (by omega); rw [w318] at this; exact this
    · have := o 2 (by omega); rw [w318] at this; exact this
    · have hv' : RuM (gA w3 18) (3 + 12 * i) B T (sq B T i) := by
        have hru := hv i hi hk
        obtain ⟨d1, d2, d3, d4, d5, d6, d7, d8⟩ := hru
        have g : ∀ k, 3 ≤ k → gA w3 18 k = gA m2 18 k := fun k hk => by rw [w318, va_up_ne' _ _ (by omega), va_up_ne' _ _ (by omega), va_up_ne' _ _ (by omega)]
        exact ⟨by rw [g _ (by omega)]; exact d1, by rw [g _ (by omega)]; exact d2, by rw [g _ (by omega)]; exact d3, fun j hj => by rw [g _ (by omega)]; exact d4 j hj, by rw [g _ (by omega)]; exact d5, fun j hj => by rw [g _ (by omega)]; exact d6 j hj, by rw [g _ (by omega)]; exact d7, by rw [g _ (by omega)]; exact d8⟩
      exact hv'.mv o (by omega) hk (sq_l i)
  · obtain ⟨fu, u1, u2⟩ := hI
    unfold qX12_spelling_158
    refine c_n (nI_ge (b := 195) hi (by decide)) ⟨vp_in_nI (by omega) (by decide), ?_⟩
    rw [nI_add, nI_clamp (by omega), ofI1, nI_add, fu.2.1 18 (by decide)]
    refine ⟨vp_in_nI (by omega) (by decide), fun w4 k4 => ih w4 ⟨by rw [k4]; exact Fr.tr fu (Fr.tA 1 _ _ (by decide)), fun k hk => ?_, fun k hk => ?_⟩⟩
    · rw [k4, gA_tA, if_pos rfl, nI_clamp (by omega)]
      by_cases ek : k = i
      · rw [ek, va_up_eq]
      · rw [va_up_ne' _ _ (by omega)]; exact u1 k (by omega)
    · rw [k4, gA_tA, if_pos rfl, nI_clamp (by omega), va_up_ne' _ _ (by omega)]; exact u2 k hk
/-- the world with one spelling more -/
def spU (B : Nat → Nat) (T : Nat) (A : Nat → Nat → Nat) (t R : Nat) : Nat → Nat → Nat := fun d =>
  if d = 53 then va_up (A 53) 0 (A 53 0 + 1)
  else if d = 15 then va_up (A 15) (A 53 0) t
  else if d = 16 then va_up (A 16) (A 53 0) (A 50 0)
  else if d = 17 then va_up (A 17) (A 53 0) R
  else if d = 18 then fun q => if q < 16 * A 53 0 then A 18 q else c18 B T (sq B T (q - 16 * A 53 0))
  else if d = 19 then fun q => if q < 16 * A 53 0 then A 19 q else c19 B T (sq B T (q - 16 * A 53 0))
  else if d = 20 then fun q => if q < 16 * A 53 0 then A 20 q else c20 B T (u1 B T (sq B T (q - 16 * A 53 0)))
  else if d = 21 then fun k => if k < 48 * A 53 0 then A 21 k else c21 B T (u1 B T (sq B T ((k - 48 * A 53 0) / 3))) ((k - 48 * A 53 0) % 3)
  else if d = 22 then fun q => if q < 16 * A 53 0 then A 22 q else c22 B T (u3 B T (u1 B T (sq B T (q - 16 * A 53 0))))
  else if d = 23 then fun k => if k < 48 * A 53 0 then A 23 k else c21 B T (u3 B T (u1 B T (sq B T ((k - 48 * A 53 0) / 3)))) ((k - 48 * A 53 0) % 3)
  else if d = 24 then fun q => if q < 16 * A 53 0 then A 24 q else c24 B T (u4 B T (u3 B T (u1 B T (sq B T (q - 16 * A 53 0)))))
  else if d = 25 then fun q => if q < 16 * A 53 0 then A 25 q else c25 B T (u4 B T (u3 B T (u1 B T (sq B T (q - 16 * A 53 0)))))
  else A d
theorem spU_53 {B : Nat → Nat} {T : Nat} {A : Nat → Nat → Nat} {t R : Nat} : spU B T A t R 53 0 = A 53 0 + 1 := rfl
theorem spU_old {B : Nat → Nat} {T : Nat} {A : Nat → Nat → Nat} {t R s : Nat} (hs : s < A 53 0) : spU B T A t R 15 s = A 15 s ∧ spU B T A t R 16 s = A 16 s ∧ spU B T A t R 17 s = A 17 s :=
  ⟨va_up_ne' (A 15) _ (by omega), va_up_ne' (A 16) _ (by omega), va_up_ne' (A 17) _ (by omega)⟩
theorem spU_new {B : Nat → Nat} {T : Nat} {A : Nat → Nat → Nat} {t R : Nat} : spU B T A t R 15 (A 53 0) = t ∧ spU B T A t R 16 (A 53 0) = A 50 0 ∧ spU B T A t R 17 (A 53 0) = R :=
  ⟨va_up_eq (A 15) _ _, va_up_eq (A 16) _ _, va_up_eq (A 17) _ _⟩
theorem spU_oldr {B : Nat → Nat} {T : Nat} {A : Nat → Nat → Nat} {t R q : Nat} (hq : q < 16 * A 53 0) : spU B T A t R 18 q = A 18 q ∧ spU B T A t R 19 q = A 19 q ∧ spU B T A t R 20 q = A 20 q ∧ (∀ j, j < 3 → spU B T A t R 21 (3 * q + j) = A 21 (3 * q + j)) ∧ spU B T A t R 22 q = A 22 q ∧ (∀ j, j < 3 → spU B T A t R 23 (3 * q + j) = A 23 (3 * q + j)) ∧ spU B T A t R 24 q = A 24 q ∧ spU B T A t R 25 q = A 25 q :=
  ⟨if_pos hq, if_pos hq, if_pos hq, fun j hj => if_pos (show 3 * q + j < 48 * A 53 0 by omega), if_pos hq, fun j hj => if_pos (show 3 * q + j < 48 * A 53 0 by omega), if_pos hq, if_pos hq⟩
theorem spU_newr {B : Nat → Nat} {T : Nat} {A : Nat → Nat → Nat} {t R : Nat} (i : Nat) : spU B T A t R 18 (16 * A 53 0 + i) = c18 B T (sq B T i) ∧ spU B T A t R 19 (16 * A 53 0 + i) = c19 B T (sq B T i) ∧ spU B T A t R 20 (16 * A 53 0 + i) = c20 B T (u1 B T (sq B T i)) ∧ (∀ j, j < 3 → spU B T A t R 21 (3 * (16 * A 53 0 + i) + j) = c21 B T (u1 B T (sq B T i)) j) ∧ spU B T A t R 22 (16 * A 53 0 + i) = c22 B T (u3 B T (u1 B T (sq B T i))) ∧ (∀ j, j < 3 → spU B T A t R 23 (3 * (16 * A 53 0 + i) + j) = c21 B T (u3 B T (u1 B T (sq B T i))) j) ∧ spU B T A t R 24 (16 * A 53 0 + i) = c24 B T (u4 B T (u3 B T (u1 B T (sq B T i)))) ∧ spU B T A t R 25 (16 * A 53 0 + i) = c25 B T (u4 B T (u3 B T (u1 B T (sq B T i)))) := by
  have e : 16 * A 53 0 + i - 16 * A 53 0 = i := by omega
  have n : ¬ (16 * A 53 0 + i < 16 * A 53 0) := by omega
  have e3 : ∀ j, j < 3 → (3 * (16 * A 53 0 + i) + j - 48 * A 53 0) / 3 = i ∧ (3 * (16 * A 53 0 + i) + j - 48 * A 53 0) % 3 = j := fun j hj => by omega
  have n3 : ∀ j, ¬ (3 * (16 * A 53 0 + i) + j < 48 * A 53 0) := fun j => by omega
  refine ⟨(if_neg n).trans (by rw [e]), (if_neg n).trans (by rw [e]), (if_neg n).trans (by rw [e]), fun j hj => (if_neg (n3 j)).trans (by rw [(e3 j hj).1, (e3 j hj).2]), (if_neg n).trans (by rw [e]), fun j hj => (if_neg (n3 j)).trans (by rw [(e3 j hj).1, (e3 j hj).2]), (if_neg n).trans (by rw [e]), (if_neg n).trans (by rw [e])⟩
theorem spU_low {B : Nat → Nat} {T : Nat} {A : Nat → Nat → Nat} {t R : Nat} (y : Nat) (hy : y < A 50 0) : Alike (spU B T A t R) A y := by
  refine ⟨rfl, rfl, fun t' => ?_, rfl, fun p t => rfl⟩
  show lastF (spU B T A t R 15) (spU B T A t R 16) t' y (A 53 0 + 1) = lastF (A 15) (A 16) t' y (A 53 0)
  have h : ¬ (spU B T A t R 15 (A 53 0) = t' ∧ spU B T A t R 16 (A 53 0) ≤ y) := by
    rw [spU_new.2.1]; omega
  show (if _ then _ else _) = _
  rw [if_neg h]
  refine lastF_c _ (fun i hi => ?_)
  rw [(spU_old hi).1, (spU_old hi).2.1]
theorem spU_Wf {B : Nat → Nat} {T : Nat} {A : Nat → Nat → Nat} {c t R : Nat} (hw : Wf A c) (hS : A 53 0 < 12) (ht : t < 3) (hR : R ≤ 16) (hok : ∀ i, i < R → (sq B T (i + 1)).1 = 0) : Wf (spU B T A t R) c := by
  obtain ⟨⟨w0, w1, w2, w3, w4, w5, w6, w7, w8, w9, wc⟩, v1, ⟨v2, v2b, v2c⟩, ⟨v3, v3b, v3c⟩, v4, v5, v6, v7, v8, ⟨v9, v9b, v9c⟩⟩ := id hw; refine ⟨⟨w0, w1, w2, by show A 53 0 + 1 ≤ 12; omega, w4, w5, w6, w7, w8, w9, wc⟩, v1, ⟨v2, v2b, v2c⟩, ⟨v3, v3b, v3c⟩, v4, ?_, v6, v7, v8, ⟨v9, v9b, v9c⟩⟩
  intro s hs
  have hs' : s < A 53 0 + 1 := hs
  show spU B T A t R 15 s < 3 ∧ spU B T A t R 16 s ≤ A 50 0 ∧ spU B T A t R 17 s ≤ 16 ∧ ∀ r, r < spU B T A t R 17 s → Wru (spU B T A t R) (16 * s + r)
  by_cases e : s = A 53 0
  · subst e
    obtain ⟨a1, a2, a3⟩ := spU_new (B := B) (T := T) (A := A) (t := t) (R := R)
    rw [a1, a2, a3]
    refine ⟨ht, Nat.le_refl _, hR, fun i hi => ?_⟩
    obtain ⟨d1, d2, d3, d4, d5, d6, d7, d8⟩ := spU_newr (B := B) (T := T) (A := A) (t := t) (R := R) i
    obtain ⟨b1, b2, b3, b4, b5, b6, b7, b8, b9⟩ := ru_b (hok i hi) (sq_l i)
    unfold Wru
    rw [d1, d2, d3, d5, d7, d8]
    exact ⟨b1, b2, b3, b4, fun j hj => by rw [d4 j (by omega)]; exact b5 j hj, b6, fun j hj => by rw [d6 j (by omega)]; exact b7 j hj, b8, b9⟩
  · obtain ⟨a1, a2, a3⟩ := spU_old (B := B) (T := T) (A := A) (t := t) (R := R) (s := s) (by omega)
    obtain ⟨p1, p2, p3, p4⟩ := v5 s (by omega)
    rw [a1, a2, a3]
    refine ⟨p1, p2, p3, fun r hr => ?_⟩
    obtain ⟨d1, d2, d3, d4, d5, d6, d7, d8⟩ := spU_oldr (B := B) (T := T) (A := A) (t := t) (R := R) (q := 16 * s + r) (by omega)
    obtain ⟨b1, b2, b3, b4, b5, b6, b7, b8, b9⟩ := p4 r hr
    unfold Wru
    rw [d1, d2, d3, d5, d7, d8]
    exact ⟨b1, b2, b3, b4, fun j hj => by rw [d4 j (by omega)]; exact b5 j hj, b6, fun j hj => by rw [d6 j (by omega)]; exact b7 j hj, b8, b9⟩
theorem Nsp.sm {sp sp' : Md} {A : Nat → Nat → Nat} (h : Nsp sp A) (hw : Wsp A) (e6 : gF sp' 6 = gF sp 6) (e7 : gA sp' 7 = gA sp 7) (e8 : gA sp' 8 = gA sp 8) (e9 : gA sp' 9 = gA sp 9) (sa : SmA sp sp' (A 53 0)) : Nsp sp' A := by
  refine ⟨e6.trans h.1, fun s hs => ?_⟩
  obtain ⟨p1, p2, p3, p4⟩ := h.2 s hs
  obtain ⟨-, -, w3, w4⟩ := hw s hs
  rw [e7, e8, e9]
  refine ⟨p1, p2, p3, fun r hr => ?_⟩
  obtain ⟨q1, q2, q3, q4, q5, q6⟩ := p4 r hr
  obtain ⟨-, -, -, y4, -, y6, -⟩ := w4 r hr
  obtain ⟨g1, g2, g3, g4⟩ := sa.1 (16 * s + r) (by omega)
  rw [g1, g2, g3, g4]
  exact ⟨q1, q2, q3, q4, fun j hj => by rw [(sa.2 _ (by omega)).1]; exact q5 j hj, fun j hj => by rw [(sa.2 _ (by omega)).2]; exact q6 j hj⟩
theorem sim_spelling {c : Nat} {nb m st la sp ac bd sg tp : Md} (hR : RW c m st la sp ac bd sg) (hT : RTape tp m) {x1 : Int32} {Q : Int32 → Md → Md → Md → Md → Int32 → Md → Prop} (hQ : ∀ r st' sp' tp' m', RW c m' st' la sp' ac bd sg → RTape tp' m' → Fr LSW m m' → Q r nb st' sp' tp' r m') : qX11_spelling nb st sp tp x1 (fun r nb' st' sp' tp' => qX12_spelling m x1 (fun r' m' => Q r nb' st' sp' tp' r' m')) := by
  obtain ⟨A, hm, hw, hs, hn⟩ := id hR
  obtain ⟨T, hT5, t1, t2, t3, t4, t5⟩ := id hT
  have e0 : gA m 1 0 = nI (A 50 0) := hm.1.1
  have e3 : gA m 1 3 = nI (A 53 0) := hm.1.2.2.2.1
  have s0 : gF st 0 = nI (A 50 0) := hs.1
  have s6 : gF sp 6 = nI (A 53 0) := hn.2.1.2.1
  have b0 : A 50 0 < 400 := hw.1.1
  have b3 : A 53 0 ≤ 12 := hw.1.2.2.2.1
  rcases ix32 x1 (n := 3) (by omega) with h | ⟨t, ht, rfl⟩
  · unfold qX11_spelling
    refine q_to0 h (b_0 ?_)
    unfold qX12_spelling
    exact m_to0 h (b_0 (hQ _ _ _ _ _ hR hT Fr.rf))
  by_cases hS : A 53 0 < 12
  · have mb : ∀ j, j < T → byn (gB m 4 j) = byn (gB tp 0 j) := fun j hj => by rw [t3 j hj]
    refine N_spelling (B := fun j => byn (gB tp 0 j)) hT5 t1 (fun j _ => rfl) s0 b0 s6 hS ht (fun R Z sp' tp' eZ hZ hI g1 g2 g3 => ?_) (fun R Z sp' tp' eZ hZ fs sa hru g6 g7 g8 g9 g1 g2 g3 => ?_)
    · refine M_spelling (B := fun j => byn (gB tp 0 j)) hT5 t2 mb e0 b0 e3 hS ht (fun R' Z' m' eZ' hZ' fm k5 k15 k16 => ?_) (fun R' Z' m' eZ' hZ' => ?_)
      · rw [eZ] at eZ'
        injection eZ' with eR eZ'
        subst eZ'
        refine hQ _ _ _ _ _ ⟨A, by rw [fm.2.1 1 (by decide)]; exact hm, hw, hs, hn.1, ⟨?_, ?_⟩, hn.2.2⟩ ⟨0, by omega, g1, k5, fun j hj => by omega, by rw [g2, k15], by rw [g3, k16]⟩ (fm.mono (by decide))
        · have zz := hn.2.1.1
          unfold Nna at zz ⊢
          rw [hI.1.1 0 (by decide), hI.1.2.1 1 (by decide), hI.1.2.1 2 (by decide), hI.1.2.1 3 (by decide), hI.1.2.1 4 (by decide), hI.1.2.2.2.1 5 (by decide)]
          exact zz
        · exact hn.2.1.2.sm hw.2.2.2.2.2.1 (hI.1.1 6 (by decide)) (hI.1.2.1 7 (by decide)) (hI.1.2.1 8 (by decide)) (hI.1.2.1 9 (by decide)) hI.2.1
      · rw [eZ] at eZ'
        injection eZ' with eR eZ'
        subst eZ'
        exact absurd hZ' hZ
    · refine M_spelling (B := fun j => byn (gB tp 0 j)) hT5 t2 mb e0 b0 e3 hS ht (fun R' Z' m' eZ' hZ' => ?_) (fun R' Z' m' eZ' hZ' fm kk5 k15 k16 kk3 hv' kk0 kk1 kk2 hrm => ?_)
      · rw [eZ] at eZ'
        injection eZ' with eR eZ'
        subst eZ'
        exact absurd hZ hZ'
      · rw [eZ] at eZ'
        injection eZ' with eR eZ'
        subst eZ' eR
        have hlo := lo_ok (B := fun j => byn (gB tp 0 j)) (T := T) 17 0 (by omega)
        have hl16 := lo_16 (B := fun j => byn (gB tp 0 j)) (T := T) 16 0 (sq (fun j => byn (gB tp 0 j)) T 0) (by omega)
        have eZ2 : lo (fun j => byn (gB tp 0 j)) T 17 0 (sq (fun j => byn (gB tp 0 j)) T 0) = (R, Z) := eZ
        rw [eZ2] at hlo hl16
        have hR16 : R ≤ 16 := hl16
        have eq1 : Z = sq (fun j => byn (gB tp 0 j)) T R := hlo.2 hZ
        have hok : ∀ i, i < R → (sq (fun j => byn (gB tp 0 j)) T (i + 1)).1 = 0 := fun i hi => sq_ok R (i + 1) (by rw [← eq1]; exact hZ) (by omega)
        have hw' := spU_Wf (B := fun j => byn (gB tp 0 j)) (T := T) (t := t) (R := R) hw hS ht hR16 hok
        have hv : ∀ k, k ≠ 3 → (k < 1370 + 195 * A 53 0 ∨ 1370 + 195 * A 53 0 + 195 ≤ k) → gA m' 1 k = gA m 1 k := hv'
        refine hQ _ _ _ _ _ ⟨spU (fun j => byn (gB tp 0 j)) T A t R, ?_, hw', hs.tell hw' rfl (fun y hy => spU_low y hy), hn.1, ⟨?_, ⟨g6, ?_⟩⟩, hn.2.2⟩ ⟨0, by omega, g1, kk5, fun j hj => by omega, by rw [g2, k15], by rw [g3, k16]⟩ fm
        · obtain ⟨⟨k0, k1, k2, k3, k4, k5, k6, k7, k8, k9⟩, h1, h2, h3, h4, h5, h6, h7, h8, h9⟩ := id hm; obtain ⟨⟨w0, w1, w2, w3, w4, w5, w6, w7, w8, w9, wc⟩, -, -, -, wn, ws, wa, -⟩ := id hw; refine ⟨⟨(hv 0 (by omega) (by omega)).trans k0, (hv 1 (by omega) (by omega)).trans k1, (hv 2 (by omega) (by omega)).trans k2, kk3, (hv 4 (by omega) (by omega)).trans k4, (hv 5 (by omega) (by omega)).trans k5, (hv 6 (by omega) (by omega)).trans k6, (hv 7 (by omega) (by omega)).trans k7, (hv 8 (by omega) (by omega)).trans k8, (hv 9 (by omega) (by omega)).trans k9⟩, h1.w w1 (fun k _ _ => hv k (by omega) (by omega)), h2.w (by omega) (fun k _ _ => hv k (by omega) (by omega)), h3.w w6 (fun k _ _ => hv k (by omega) (by omega)), h4.w w2 wn (fun k _ _ => hv k (by omega) (by omega)), ?_, h6.w w4 wa (fun k _ _ => hv k (by omega) (by omega)), h7.w w5 (fun k _ _ => hv k (by omega) (by omega)), h8.w w7 (fun k _ _ => hv k (by omega) (by omega)), h9.w (by omega) (fun k _ _ => hv k (by omega) (by omega))⟩
          intro s hs'
          have hs2 : s < A 53 0 + 1 := hs'
          by_cases e : s = A 53 0
          · subst e
            obtain ⟨a1, a2, a3⟩ := spU_new (B := fun j => byn (gB tp 0 j)) (T := T) (A := A) (t := t) (R := R)
            rw [a1, a2, a3]
            refine ⟨kk0, kk1, kk2, fun i hi => ?_⟩
            obtain ⟨d1, d2, d3, d4, d5, d6, d7, d8⟩ := spU_newr (B := fun j => byn (gB tp 0 j)) (T := T) (A := A) (t := t) (R := R) i
            obtain ⟨-, -, b3, b4, b5, b6, b7, b8, b9⟩ := ru_b (hok i hi) (sq_l i)
            obtain ⟨r1, r2, r3, r4, r5, r6, r7, r8⟩ := hrm i hi (hok i hi)
            rw [d1, d2, d3, d5, d7, d8]
            exact ⟨r1, r2, r3, fun j hj => by rw [d4 j (by omega)]; exact r4 j hj, r5, fun j hj => by rw [d6 j (by omega)]; exact r6 j hj, r7, r8⟩
          · obtain ⟨a1, a2, a3⟩ := spU_old (B := fun j => byn (gB tp 0 j)) (T := T) (A := A) (t := t) (R := R) (s := s) (by omega)
            obtain ⟨p1, p2, p3, p4⟩ := h5 s (by omega)
            obtain ⟨-, -, y3, y4⟩ := ws s (by omega)
            rw [a1, a2, a3, hv _ (by omega) (by omega), hv _ (by omega) (by omega), hv _ (by omega) (by omega)]
            refine ⟨p1, p2, p3, fun r hr => ?_⟩
            obtain ⟨d1, d2, d3, d4, d5, d6, d7, d8⟩ := spU_oldr (B := fun j => byn (gB tp 0 j)) (T := T) (A := A) (t := t) (R := R) (q := 16 * s + r) (by omega)
            obtain ⟨-, -, -, z4, -, z6, -⟩ := y4 r hr
            obtain ⟨r1, r2, r3, r4, r5, r6, r7, r8⟩ := p4 r hr
            rw [d1, d2, d3, d5, d7, d8, hv _ (by omega) (by omega), hv _ (by omega) (by omega), hv _ (by omega) (by omega), hv _ (by omega) (by omega), hv _ (by omega) (by omega), hv _ (by omega) (by omega)]
            exact ⟨r1, r2, r3, fun j hj => by rw [d4 j (by omega), hv _ (by omega) (by omega)]; exact r4 j hj, r5, fun j hj => by rw [d6 j (by omega), hv _ (by omega) (by omega)]; exact r6 j hj, r7, r8⟩
        · have zz := hn.2.1.1
          unfold Nna at zz ⊢
          rw [fs.1 0 (by decide), fs.2.1 1 (by decide), fs.2.1 2 (by decide), fs.2.1 3 (by decide), fs.2.1 4 (by decide), fs.2.2.2.1 5 (by decide)]
          exact zz
        · intro s hs'
          have hs2 : s < A 53 0 + 1 := hs'
          rw [g7, g8, g9]
          by_cases e : s = A 53 0
          · subst e
            obtain ⟨a1, a2, a3⟩ := spU_new (B := fun j => byn (gB tp 0 j)) (T := T) (A := A) (t := t) (R := R)
            rw [a1, a2, a3, va_up_eq, va_up_eq, va_up_eq]
            refine ⟨rfl, rfl, rfl, fun i hi => ?_⟩
            obtain ⟨d1, d2, d3, d4, d5, d6, d7, d8⟩ := spU_newr (B := fun j => byn (gB tp 0 j)) (T := T) (A := A) (t := t) (R := R) i
            obtain ⟨-, -, b3, b4, b5, b6, b7, b8, b9⟩ := ru_b (hok i hi) (sq_l i)
            obtain ⟨r1, r2, r3, r4, r5, r6⟩ := hru i hi (hok i hi)
            rw [d1, d2, d3, d5, d7, d8]
            exact ⟨r1, r2, r3, r4, fun j hj => by rw [d4 j (by omega)]; exact r5 j hj, fun j hj => by rw [d6 j (by omega)]; exact r6 j hj⟩
          · obtain ⟨a1, a2, a3⟩ := spU_old (B := fun j => byn (gB tp 0 j)) (T := T) (A := A) (t := t) (R := R) (s := s) (by omega)
            obtain ⟨p1, p2, p3, p4⟩ := hn.2.1.2.2 s (by omega)
            obtain ⟨-, -, y3, y4⟩ := hw.2.2.2.2.2.1 s (by omega)
            rw [a1, a2, a3, va_up_ne' _ _ e, va_up_ne' _ _ e, va_up_ne' _ _ e]
            refine ⟨p1, p2, p3, fun r hr => ?_⟩
            obtain ⟨d1, d2, d3, d4, d5, d6, d7, d8⟩ := spU_oldr (B := fun j => byn (gB tp 0 j)) (T := T) (A := A) (t := t) (R := R) (q := 16 * s + r) (by omega)
            obtain ⟨-, -, -, z4, -, z6, -⟩ := y4 r hr
            obtain ⟨r1, r2, r3, r4, r5, r6⟩ := p4 r hr
            obtain ⟨q1, q2, q3, q4⟩ := sa.1 (16 * s + r) (by omega)
            rw [d1, d2, d3, d5, d7, d8, q1, q2, q3, q4]
            exact ⟨r1, r2, r3, r4, fun j hj => by rw [d4 j (by omega), (sa.2 _ (by omega)).1]; exact r5 j hj, fun j hj => by rw [d6 j (by omega), (sa.2 _ (by omega)).2]; exact r6 j hj⟩
  · have e12 : A 53 0 = 12 := by omega
    unfold qX11_spelling
    refine q_to1 ht (b_1 ?_)
    rw [s6, e12]
    refine c_n (by decide) ?_
    unfold qX12_spelling
    refine m_to1 ht (b_1 ⟨by unfold vp_in; decide, ?_⟩)
    rw [show ((3 : Int32).toNatClampNeg) = 3 from rfl, e3, e12]
    exact c_y' rfl (hQ _ _ _ _ _ hR hT Fr.rf)
