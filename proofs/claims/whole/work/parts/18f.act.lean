theorem N_act {nb st ac tp : Md} {B : Nat → Nat} {T N S : Nat} (hT : T ≤ 500) (t1 : gF tp 1 = nI T) (tb : ∀ j, j < T → byn (gB tp 0 j) = B j) (s0 : gF st 0 = nI N) (hN : N < 400) (s6 : gF ac 0 = nI S) (hS : S < 8) {Q : Int32 → Md → Md → Md → Md → Prop} (hbad : ∀ R Z ac' tp', al B T 13 0 (0, 0, 0) = (R, Z) → Z.1 ≠ 0 → Fr LAN ac ac' → SmB ac ac' S → gF tp' 1 = nI 0 → gF tp' 2 = nI Z.1 → gF tp' 3 = fI Z → Q (-4) nb st ac' tp') (hgood : ∀ R Z ac' tp', al B T 13 0 (0, 0, 0) = (R, Z) → Z.1 = 0 → SmB ac ac' S → (∀ i, i < R → (aq B T (i + 1)).1 = 0 → LnN ac' (12 * S + i) S (lk B T i) B T (aq B T i)) → gF ac' 0 = nI (S + 1) → gA ac' 1 = va_up (gA ac 1) S (nI N) → gA ac' 2 = va_up (gA ac 2) S (nI R) → gF tp' 1 = nI 0 → gF tp' 2 = nI Z.1 → gF tp' 3 = fI Z → Q (nI R) nb (tZ st 1 (nI N) 1) ac' tp') : qX11_act nb st ac tp Q := by
  unfold qX11_act
  rw [s6, s0]
  refine c_y (nI_lt (b := 8) hS (by decide)) ?_
  unfold qX0_readAct
  refine N_begin hT t1 tb (fun tp1 h1 => ?_)
  rw [s6]
  refine ⟨vp_in_nI hS (by decide), fun w0 k0 => ⟨12 + 2, ?_⟩⟩
  have w03 : gZ w0 3 = va_up (gZ ac 3) S false := by rw [k0, gZ_tZ, if_pos rfl, nI_clamp (by omega)]; rfl
  have f0 : Fr LAN ac w0 := by rw [k0]; exact Fr.tZ 3 _ _ (by decide)
  have sB : ∀ ac', SmB w0 ac' S → SmB ac ac' S := by
    intro ac' h
    refine ⟨fun i hi => ?_, fun i hi => ?_, fun i hi => ?_⟩
    · have := h.1 i hi; rw [k0] at this; exact this
    · have := h.2.1 i hi; rw [k0] at this; exact this
    · have := h.2.2 i hi; rw [w03, va_up_ne' _ _ hi] at this; exact this
  refine N_al (ac0 := w0) hS (by rw [k0]; exact s6) 12 0 w0 tp1 (by omega) h1 ⟨Fr.rf, ⟨fun _ _ => ⟨rfl, rfl, rfl, rfl⟩, fun _ _ => ⟨rfl, rfl, rfl, rfl⟩, fun _ _ => rfl⟩, fun i hi => by omega⟩ (fun R Z ac' tp' e h hI => ?_)
  obtain ⟨-, -, -, t2, t3, b3, -⟩ := h
  have e' : al B T 13 0 (0, 0, 0) = (R, Z) := e
  obtain ⟨fr, sa, hv⟩ := hI
  have a0 : gF ac' 0 = nI S := by rw [fr.1 0 (by decide), f0.1 0 (by decide)]; exact s6
  unfold qX0_readAct_92 qX11_taken
  refine c_eq' (b := 0) t2 rfl (by omega) (by decide) (fun z => ?_) (fun n w5 hw5 => ?_)
  · rw [a0]
    refine ⟨vp_in_nI hS (by decide), fun w1 k1 => ?_⟩
    have w10 : gF w1 0 = nI S := by rw [k1]; exact a0
    rw [w10]
    refine ⟨vp_in_nI hS (by decide), fun w2 k2 w3 k3 w5 hw5 => ?_⟩
    have w20 : gF w2 0 = nI S := by rw [k2]; exact w10
    refine c_y (by rw [hw5]; show gF tp' 2 = _; rw [t2, z]; rfl) (N_mark s0 hN (hgood R Z w3 w5 e' z ?_ ?_ ?_ ?_ ?_ (by rw [hw5]; rfl) (by rw [hw5]; exact t2) (by rw [hw5]; exact t3)))
    · have := sB ac' sa
      refine ⟨fun i hi => ?_, fun i hi => ?_, fun i hi => ?_⟩
      · have := this.1 i hi; rw [k3, k2, k1]; exact this
      · have := this.2.1 i hi; rw [k3, k2, k1]; exact this
      · have := this.2.2 i hi; rw [k3, k2, k1]; exact this
    · intro i hi hk
      have := hv i hi hk; rw [k3, k2, k1]; exact this
    · rw [k3, gF_sF, if_pos rfl, w20, nI_1]
    · rw [k3, k2, k1]; show va_up (gA ac' 1) (nI S).toNatClampNeg _ = _; rw [nI_clamp (by omega), fr.2.1 1 (by decide), f0.2.1 1 (by decide)]
    · rw [k3, k2, k1]; show va_up (gA ac' 2) (nI S).toNatClampNeg _ = _; rw [nI_clamp (by omega), fr.2.1 2 (by decide), f0.2.1 2 (by decide)]
  · refine c_n (fun z => n ((nI_eq (b := 0) (by omega) (by decide)).1 (t2.symm.trans (by rw [hw5] at z; exact z)))) (hbad R Z ac' w5 e' n (f0.tr fr) (sB ac' sa) (by rw [hw5]; rfl) (by rw [hw5]; exact t2) (by rw [hw5]; exact t3))
theorem LnM.mv {V V' : Nat → Int32} {X i k : Nat} {B : Nat → Nat} {T : Nat} {s : PS} (h : LnM V (2 + 24 * i) k B T s) (hs : ∀ k, k < 290 → V' (X + k) = V k) (hi : i < 12) (hk : (oL B T k s).1 = 0) : LnM V' (X + 2 + 24 * i) k B T s := by
  obtain ⟨-, -, -, -, -, -, b4, -⟩ := ln_b hk
  obtain ⟨h1, h2, h3, h4, h5⟩ := h
  have g : ∀ k, k < 24 → V' (X + 2 + 24 * i + k) = V (2 + 24 * i + k) := fun k hk => by rw [show X + 2 + 24 * i + k = X + (2 + 24 * i + k) by omega]; exact hs _ (by omega)
  refine ⟨(g 0 (by omega)).trans h1, (g 1 (by omega)).trans h2, (g 2 (by omega)).trans h3, (g 3 (by omega)).trans h4, fun j hj => ?_⟩
  obtain ⟨p1, p2, p3, p4, p5⟩ := h5 j hj
  have g2 : ∀ k, k < 5 → V' (X + 2 + 24 * i + 4 + 5 * j + k) = V (2 + 24 * i + 4 + 5 * j + k) := fun k hk => by
    rw [show X + 2 + 24 * i + 4 + 5 * j + k = X + 2 + 24 * i + (4 + 5 * j + k) by omega, g _ (by omega), show 2 + 24 * i + (4 + 5 * j + k) = 2 + 24 * i + 4 + 5 * j + k by omega]
  exact ⟨(g2 0 (by omega)).trans p1, (g2 1 (by omega)).trans p2, (g2 2 (by omega)).trans p3, (g2 3 (by omega)).trans p4, (g2 4 (by omega)).trans p5⟩
theorem M_act {m : Md} {B : Nat → Nat} {T N S : Nat} (hT : T ≤ 500) (m5 : gF m 5 = nI T) (mb : ∀ j, j < T → byn (gB m 4 j) = B j) (e0 : gA m 1 0 = nI N) (hN : N < 400) (e3 : gA m 1 4 = nI S) (hS : S < 8) {Q : Int32 → Md → Prop} (hbad : ∀ R Z m', al B T 13 0 (0, 0, 0) = (R, Z) → Z.1 ≠ 0 → Fr LSP m m' → gF m' 5 = nI 0 → gF m' 15 = nI Z.1 → gF m' 16 = fI Z → Q (-4) m') (hgood : ∀ R Z m', al B T 13 0 (0, 0, 0) = (R, Z) → Z.1 = 0 → Fr LSW m m' → gF m' 5 = nI 0 → gF m' 15 = nI Z.1 → gF m' 16 = fI Z → gA m' 1 4 = nI (S + 1) → (∀ k, k ≠ 4 → (k < 3710 + 290 * S ∨ 3710 + 290 * S + 290 ≤ k) → gA m' 1 k = gA m 1 k) → gA m' 1 (3710 + 290 * S) = nI N → gA m' 1 (3710 + 290 * S + 1) = nI R → (∀ i, i < R → (aq B T (i + 1)).1 = 0 → LnM (gA m' 1) (3710 + 290 * S + 2 + 24 * i) (lk B T i) B T (aq B T i)) → Q (nI R) m') : qX12_act m Q := by
  unfold qX12_act
  refine ⟨by unfold vp_in; decide, ?_⟩
  rw [show ((4 : Int32).toNatClampNeg) = 4 from rfl, e3]
  refine c_n' (fun z => absurd ((nI_eq (b := 8) (by omega) (by decide)).1 z) (by omega)) ?_
  refine M_begins (a := 1) hT (by decide) m5 mb (fun m1 f1 z5 h1 => ⟨12 + 2, ?_⟩)
  refine M_al (m0 := m1) 12 0 m1 (by omega) h1 Fr.rf (fun i hi => by omega) (fun R Z m2 e h2 f2 hv => ?_)
  have e' : al B T 13 0 (0, 0, 0) = (R, Z) := e
  have hR : R ≤ 12 := by have := al_12 (B := B) (T := T) 12 0 (aq B T 0) (by omega); rw [e] at this; exact this
  have fm : Fr LSP m m2 := (f1.mono (by decide)).tr (f2.mono (by decide))
  obtain ⟨-, -, -, m15, m16, b3, -⟩ := id h2
  have z52 : gF m2 5 = nI 0 := (f2.1 5 (by decide)).trans z5
  unfold qX12_act_88
  refine M_good h2 (fun z => b_1 ?_) (fun z => b_0 (hbad R Z m2 e' z fm z52 m15 m16))
  unfold qX12_now
  refine ⟨by unfold vp_in; decide, by unfold vp_in; decide, fun w2 k2 => ⟨by unfold vp_in; decide, fun w3 k3 => ⟨by unfold vp_in; decide, ?_⟩⟩⟩
  have g1 : gA m2 1 = gA m 1 := fm.2.1 1 (by decide)
  have w31 : gA w3 1 = gA m 1 := by rw [k3, k2]; exact g1
  have fw : Fr LSW m w3 := by rw [k3, k2]; exact Fr.tr (Fr.tr (fm.mono (by decide)) (Fr.tA 18 _ _ (by decide))) (Fr.tA 18 _ _ (by decide))
  have w318 : gA w3 18 = va_up (va_up (gA m2 18) 0 (nI N)) 1 (nI R) := by
    rw [k3, k2]
    show va_up (va_up (gA m2 18) 0 (gA m2 1 0)) 1 (nI R) = _
    rw [g1, e0]
  rw [w31, show ((4 : Int32).toNatClampNeg) = 4 from rfl, e3, show (290 : Int32) = nI 290 from rfl, show (3710 : Int32) = nI 3710 from rfl, pk_mul, nI_add]
  refine pk_loop (fun n i u => qX12_act_132 Q n u (nI R) (nI (3710 + 290 * S)) (nI i)) (fun i u => Fr [(1, 1)] w3 u ∧ (∀ k, k < i → gA u 1 (3710 + 290 * S + k) = gA w3 18 k) ∧ ∀ k, (k < 3710 + 290 * S ∨ 3710 + 290 * S + 290 ≤ k) → gA u 1 k = gA m 1 k) 290 0 w3 (by omega) ⟨Fr.rf, fun k hk => by omega, fun k _ => by rw [w31]⟩ (fun n u hI => ?_) (fun n i u hi hI ih => ?_)
  · obtain ⟨fu, y1, y2⟩ := hI
    unfold qX12_act_132
    refine c_y (nI_le (a := 290) (Nat.le_refl _) (by decide)) ⟨by unfold vp_in; decide, by unfold vp_in; decide, fun w4 k4 => ?_⟩
    have w41 : gA w4 1 = va_up (gA u 1) 4 (nI (S + 1)) := by
      rw [k4]; show va_up (gA u 1) 4 (gA u 1 4 + 1) = _
      rw [y2 4 (by omega), e3, nI_1]
    have o : ∀ k, k < 290 → gA w4 1 (3710 + 290 * S + k) = gA w3 18 k := fun k hk => by rw [w41, va_up_ne' _ _ (by omega)]; exact y1 k hk
    refine hgood R Z w4 e' z ?_ ?_ ?_ ?_ ?_ (fun k h3 hk => ?_) ?_ ?_ (fun i hi hk => ?_)
    · rw [k4]; exact Fr.tr (fw.tr (fu.mono (by decide))) (Fr.tA 1 _ _ (by decide))
    · rw [k4]; show gF u 5 = _; rw [fu.1 5 (by decide), k3, k2]; exact z52
    · rw [k4]; show gF u 15 = _; rw [fu.1 15 (by decide), k3, k2]; exact m15
    · rw [k4]; show gF u 16 = _; rw [fu.1 16 (by decide), k3, k2]; exact m16
    · rw [w41, va_up_eq]
    · rw [w41, va_up_ne' _ _ h3]; exact y2 k hk
    · have := o 0 (by omega); rw [w318] at this; exact this
    · have := o 1 (by omega); rw [w318] at this; exact this
    · have hv' : LnM (gA w3 18) (2 + 24 * i) (lk B T i) B T (aq B T i) := by
        obtain ⟨d1, d2, d3, d4, d5⟩ := hv i hi hk
        have g : ∀ k, 2 ≤ k → gA w3 18 k = gA m2 18 k := fun k hk => by rw [w318, va_up_ne' _ _ (by omega), va_up_ne' _ _ (by omega)]
        refine ⟨by rw [g _ (by omega)]; exact d1, by rw [g _ (by omega)]; exact d2, by rw [g _ (by omega)]; exact d3, by rw [g _ (by omega)]; exact d4, fun j hj => ?_⟩
        obtain ⟨p1, p2, p3, p4, p5⟩ := d5 j hj
        exact ⟨by rw [g _ (by omega)]; exact p1, by rw [g _ (by omega)]; exact p2, by rw [g _ (by omega)]; exact p3, by rw [g _ (by omega)]; exact p4, by rw [g _ (by omega)]; exact p5⟩
      exact hv'.mv o (by omega) hk
  · obtain ⟨fu, y1, y2⟩ := hI
    unfold qX12_act_132
    refine c_n (nI_ge (b := 290) hi (by decide)) ⟨vp_in_nI (by omega) (by decide), ?_⟩
    rw [nI_add, nI_clamp (by omega), ofI1, nI_add, fu.2.1 18 (by decide)]
    refine ⟨vp_in_nI (by omega) (by decide), fun w4 k4 => ih w4 ⟨by rw [k4]; exact Fr.tr fu (Fr.tA 1 _ _ (by decide)), fun k hk => ?_, fun k hk => ?_⟩⟩
    · rw [k4, gA_tA, if_pos rfl, nI_clamp (by omega)]
      by_cases ek : k = i
      · rw [ek, va_up_eq]
      · rw [va_up_ne' _ _ (by omega)]; exact y1 k (by omega)
    · rw [k4, gA_tA, if_pos rfl, nI_clamp (by omega), va_up_ne' _ _ (by omega)]; exact y2 k hk
/-- where the conditions of the line l begin -/
def lq (B : Nat → Nat) (T l : Nat) : Nat → PS := cq B T (oA B T (xhh B T (lk B T l) (aq B T l)))
/-- the world with one act more -/
def acU (B : Nat → Nat) (T : Nat) (A : Nat → Nat → Nat) (R : Nat) : Nat → Nat → Nat := fun d =>
  if d = 54 then va_up (A 54) 0 (A 54 0 + 1)
  else if d = 26 then va_up (A 26) (A 54 0) (A 50 0)
  else if d = 27 then va_up (A 27) (A 54 0) R
  else if d = 28 then fun q => if q < 12 * A 54 0 then A 28 q else lk B T (q - 12 * A 54 0)
  else if d = 29 then fun q => if q < 12 * A 54 0 then A 29 q else v29 B T (lk B T (q - 12 * A 54 0)) (aq B T (q - 12 * A 54 0))
  else if d = 30 then fun q => if q < 12 * A 54 0 then A 30 q else v30 B T (lk B T (q - 12 * A 54 0)) (aq B T (q - 12 * A 54 0))
  else if d = 31 then fun q => if q < 12 * A 54 0 then A 31 q else v31 B T (lk B T (q - 12 * A 54 0)) (aq B T (q - 12 * A 54 0))
  else if d = 32 then fun k => if k < 48 * A 54 0 then A 32 k else v32 B T (lq B T ((k - 48 * A 54 0) / 4) ((k - 48 * A 54 0) % 4))
  else if d = 33 then fun k => if k < 48 * A 54 0 then A 33 k else v33 B T (lq B T ((k - 48 * A 54 0) / 4) ((k - 48 * A 54 0) % 4))
  else if d = 34 then fun k => if k < 48 * A 54 0 then A 34 k else v34 B T (lq B T ((k - 48 * A 54 0) / 4) ((k - 48 * A 54 0) % 4))
  else if d = 35 then fun k => if k < 48 * A 54 0 then A 35 k else v35 B T (lq B T ((k - 48 * A 54 0) / 4) ((k - 48 * A 54 0) % 4))
  else if d = 36 then fun k => if k < 48 * A 54 0 then A 36 k else v36 B T (lq B T ((k - 48 * A 54 0) / 4) ((k - 48 * A 54 0) % 4))
  else A d
theorem acU_old {B : Nat → Nat} {T : Nat} {A : Nat → Nat → Nat} {R s : Nat} (hs : s < A 54 0) : acU B T A R 26 s = A 26 s ∧ acU B T A R 27 s = A 27 s :=
  ⟨va_up_ne' (A 26) _ (by omega), va_up_ne' (A 27) _ (by omega)⟩
theorem acU_new {B : Nat → Nat} {T : Nat} {A : Nat → Nat → Nat} {R : Nat} : acU B T A R 26 (A 54 0) = A 50 0 ∧ acU B T A R 27 (A 54 0) = R :=
  ⟨va_up_eq (A 26) _ _, va_up_eq (A 27) _ _⟩
theorem acU_oldl {B : Nat → Nat} {T : Nat} {A : Nat → Nat → Nat} {R q : Nat} (hq : q < 12 * A 54 0) : acU B T A R 28 q = A 28 q ∧ acU B T A R 29 q = A 29 q ∧ acU B T A R 30 q = A 30 q ∧ acU B T A R 31 q = A 31 q ∧ (∀ j, j < 4 → acU B T A R 32 (4 * q + j) = A 32 (4 * q + j) ∧ acU B T A R 33 (4 * q + j) = A 33 (4 * q + j) ∧ acU B T A R 34 (4 * q + j) = A 34 (4 * q + j) ∧ acU B T A R 35 (4 * q + j) = A 35 (4 * q + j) ∧ acU B T A R 36 (4 * q + j) = A 36 (4 * q + j)) := by
  refine ⟨if_pos hq, if_pos hq, if_pos hq, if_pos hq, fun j hj => ?_⟩
  have h : 4 * q + j < 48 * A 54 0 := by omega
  exact ⟨if_pos h, if_pos h, if_pos h, if_pos h, if_pos h⟩
theorem acU_newl {B : Nat → Nat} {T : Nat} {A : Nat → Nat → Nat} {R : Nat} (i : Nat) : acU B T A R 28 (12 * A 54 0 + i) = lk B T i ∧ acU B T A R 29 (12 * A 54 0 + i) = v29 B T (lk B T i) (aq B T i) ∧ acU B T A R 30 (12 * A 54 0 + i) = v30 B T (lk B T i) (aq B T i) ∧ acU B T A R 31 (12 * A 54 0 + i) = v31 B T (lk B T i) (aq B T i) ∧ (∀ j, j < 4 → acU B T A R 32 (4 * (12 * A 54 0 + i) + j) = v32 B T (lq B T i j) ∧ acU B T A R 33 (4 * (12 * A 54 0 + i) + j) = v33 B T (lq B T i j) ∧ acU B T A R 34 (4 * (12 * A 54 0 + i) + j) = v34 B T (lq B T i j) ∧ acU B T A R 35 (4 * (12 * A 54 0 + i) + j) = v35 B T (lq B T i j) ∧ acU B T A R 36 (4 * (12 * A 54 0 + i) + j) = v36 B T (lq B T i j)) := by
  have e : 12 * A 54 0 + i - 12 * A 54 0 = i := by omega
  have n : ¬ (12 * A 54 0 + i < 12 * A 54 0) := by omega
  refine ⟨(if_neg n).trans (by rw [e]), (if_neg n).trans (by rw [e]), (if_neg n).trans (by rw [e]), (if_neg n).trans (by rw [e]), fun j hj => ?_⟩
  have e3 : (4 * (12 * A 54 0 + i) + j - 48 * A 54 0) / 4 = i := by omega
  have e4 : (4 * (12 * A 54 0 + i) + j - 48 * A 54 0) % 4 = j := by omega
  have n3 : ¬ (4 * (12 * A 54 0 + i) + j < 48 * A 54 0) := by omega
  exact ⟨(if_neg n3).trans (by rw [e3, e4]), (if_neg n3).trans (by rw [e3, e4]), (if_neg n3).trans (by rw [e3, e4]), (if_neg n3).trans (by rw [e3, e4]), (if_neg n3).trans (by rw [e3, e4])⟩
theorem acU_low {B : Nat → Nat} {T : Nat} {A : Nat → Nat → Nat} {R : Nat} (y : Nat) (hy : y < A 50 0) : Alike (acU B T A R) A y := by
  refine ⟨rfl, rfl, fun t => rfl, ?_, fun p t => rfl⟩
  show lastF (fun _ => 0) (acU B T A R 26) 0 y (A 54 0 + 1) = lastF (fun _ => 0) (A 26) 0 y (A 54 0)
  have h : ¬ ((0 : Nat) = 0 ∧ acU B T A R 26 (A 54 0) ≤ y) := by
    rw [acU_new.1]; omega
  show (if _ then _ else _) = _
  rw [if_neg h]
  refine lastF_c _ (fun i hi => ?_)
  rw [(acU_old hi).1]
theorem lk_le (B : Nat → Nat) (T i : Nat) : lk B T i ≤ 5 := by
  have := lnK_le B T (aq B T i).2.2
  unfold lk; omega
theorem acU_Wf {B : Nat → Nat} {T : Nat} {A : Nat → Nat → Nat} {c R : Nat} (hw : Wf A c) (hS : A 54 0 < 8) (hR : R ≤ 12) (hok : ∀ i, i < R → (aq B T (i + 1)).1 = 0) : Wf (acU B T A R) c := by
  obtain ⟨⟨w0, w1, w2, w3, w4, w5, w6, w7, w8, w9, wc⟩, v1, ⟨v2, v2b, v2c⟩, ⟨v3, v3b, v3c⟩, v4, v5, v6, v7, v8, ⟨v9, v9b, v9c⟩⟩ := id hw; refine ⟨⟨w0, w1, w2, w3, by show A 54 0 + 1 ≤ 8; omega, w5, w6, w7, w8, w9, wc⟩, v1, ⟨v2, v2b, v2c⟩, ⟨v3, v3b, v3c⟩, v4, v5, ?_, v7, v8, ⟨v9, v9b, v9c⟩⟩
  intro s hs
  have hs' : s < A 54 0 + 1 := hs
  show acU B T A R 26 s ≤ A 50 0 ∧ acU B T A R 27 s ≤ 12 ∧ ∀ r, r < acU B T A R 27 s → Wln (acU B T A R) (12 * s + r)
  by_cases e : s = A 54 0
  · subst e
    obtain ⟨a1, a2⟩ := acU_new (B := B) (T := T) (A := A) (R := R)
    rw [a1, a2]
    refine ⟨Nat.le_refl _, hR, fun i hi => ?_⟩
    obtain ⟨d1, d2, d3, d4, d5⟩ := acU_newl (B := B) (T := T) (A := A) (R := R) i
    obtain ⟨-, -, -, b1, b2, b3, b4, b5⟩ := ln_b (hok i hi)
    have b1' : v29 B T (lk B T i) (aq B T i) ≤ 9999 := b1
    have b2' : lk B T i = 0 → v29 B T (lk B T i) (aq B T i) ≤ 2 := b2
    have b3' : v30 B T (lk B T i) (aq B T i) ≤ 9999 := b3
    have b4' : v31 B T (lk B T i) (aq B T i) ≤ 4 := b4
    unfold Wln
    rw [d1, d2, d3, d4]
    refine ⟨lk_le B T i, b1', b2', b3', b4', fun j hj => ?_⟩
    obtain ⟨x1, x2, x3, x4, x5⟩ := d5 j (by omega)
    obtain ⟨-, -, -, -, -, hf, o5, o6, -, o7, o8⟩ := oC_ok (b5 j hj)
    unfold Wcd
    rw [x1, x2, x3, x4, x5]
    refine ⟨?_, ?_, o6, o7, o8, o5⟩
    · unfold v32; split <;> omega
    · have := fK_le B T (xa1 B T (lq B T i j)).2.2
      unfold v33; omega
  · obtain ⟨a1, a2⟩ := acU_old (B := B) (T := T) (A := A) (R := R) (s := s) (by omega)
    obtain ⟨p1, p2, p3⟩ := v6 s (by omega)
    rw [a1, a2]
    refine ⟨p1, p2, fun r hr => ?_⟩
    obtain ⟨d1, d2, d3, d4, d5⟩ := acU_oldl (B := B) (T := T) (A := A) (R := R) (q := 12 * s + r) (by omega)
    obtain ⟨b1, b2, b3, b4, b5, b6⟩ := p3 r hr
    unfold Wln
    rw [d1, d2, d3, d4]
    refine ⟨b1, b2, b3, b4, b5, fun j hj => ?_⟩
    obtain ⟨x1, x2, x3, x4, x5⟩ := d5 j (by omega)
    unfold Wcd
    rw [x1, x2, x3, x4, x5]
    exact b6 j hj
theorem Nac.sm {ac ac' : Md} {A : Nat → Nat → Nat} (h : Nac ac A) (hw : Wac A) (e0 : gF ac' 0 = gF ac 0) (e1 : gA ac' 1 = gA ac 1) (e2 : gA ac' 2 = gA ac 2) (sa : SmB ac ac' (A 54 0)) : Nac ac' A := by
  refine ⟨e0.trans h.1, fun s hs => ?_⟩
  obtain ⟨p1, p2, p3, p4⟩ := h.2 s hs
  obtain ⟨-, w3, w4⟩ := hw s hs
  rw [e1, e2, sa.2.2 s (by omega)]
  refine ⟨p1, p2, p3, fun r hr => ?_⟩
  obtain ⟨q1, q2, q3, q4, q5⟩ := p4 r hr
  obtain ⟨-, -, -, -, y4, -⟩ := w4 r hr
  obtain ⟨g1, g2, g3, g4⟩ := sa.1 (12 * s + r) (by omega)
  rw [g1, g2, g3, g4]
  refine ⟨q1, q2, q3, q4, fun j hj => ?_⟩
  obtain ⟨d1, d2, d3, d4⟩ := sa.2.1 (4 * (12 * s + r) + j) (by omega)
  rw [d1, d2, d3, d4]
  exact q5 j hj
theorem sim_act {c : Nat} {nb m st la sp ac bd sg tp : Md} (hR : RW c m st la sp ac bd sg) (hT : RTape tp m) {Q : Int32 → Md → Md → Md → Md → Int32 → Md → Prop} (hQ : ∀ r st' ac' tp' m', RW c m' st' la sp ac' bd sg → RTape tp' m' → Fr LSW m m' → Q r nb st' ac' tp' r m') : qX11_act nb st ac tp (fun r nb' st' ac' tp' => qX12_act m (fun r' m' => Q r nb' st' ac' tp' r' m')) := by
  obtain ⟨A, hm, hw, hs, hn⟩ := id hR
  obtain ⟨T, hT5, t1, t2, t3, t4, t5⟩ := id hT
  have e0 : gA m 1 0 = nI (A 50 0) := hm.1.1
  have e3 : gA m 1 4 = nI (A 54 0) := hm.1.2.2.2.2.1
  have s0 : gF st 0 = nI (A 50 0) := hs.1
  have s6 : gF ac 0 = nI (A 54 0) := hn.2.2.1.1
  have b0 : A 50 0 < 400 := hw.1.1
  have b3 : A 54 0 ≤ 8 := hw.1.2.2.2.2.1
  by_cases hS : A 54 0 < 8
  · have mb : ∀ j, j < T → byn (gB m 4 j) = byn (gB tp 0 j) := fun j hj => by rw [t3 j hj]
    refine N_act (B := fun j => byn (gB tp 0 j)) hT5 t1 (fun j _ => rfl) s0 b0 s6 hS (fun R Z ac' tp' eZ hZ fa sa g1 g2 g3 => ?_) (fun R Z ac' tp' eZ hZ sa hln g6 g7 g8 g1 g2 g3 => ?_)
    · refine M_act (B := fun j => byn (gB tp 0 j)) hT5 t2 mb e0 b0 e3 hS (fun R' Z' m' eZ' hZ' fm k5 k15 k16 => ?_) (fun R' Z' m' eZ' hZ' => ?_)
      · rw [eZ] at eZ'
        injection eZ' with eR eZ'
        subst eZ'
        exact hQ _ _ _ _ _ ⟨A, by rw [fm.2.1 1 (by decide)]; exact hm, hw, hs, hn.1, hn.2.1, hn.2.2.1.sm hw.2.2.2.2.2.2.1 (fa.1 0 (by decide)) (fa.2.1 1 (by decide)) (fa.2.1 2 (by decide)) sa, hn.2.2.2⟩ ⟨0, by omega, g1, k5, fun j hj => by omega, by rw [g2, k15], by rw [g3, k16]⟩ (fm.mono (by decide))
      · rw [eZ] at eZ'
        injection eZ' with eR eZ'
        subst eZ'
        exact absurd hZ' hZ
    · refine M_act (B := fun j => byn (gB tp 0 j)) hT5 t2 mb e0 b0 e3 hS (fun R' Z' m' eZ' hZ' => ?_) (fun R' Z' m' eZ' hZ' fm kk5 k15 k16 kk4 hv' kk0 kk1 hrm => ?_)
      · rw [eZ] at eZ'
        injection eZ' with eR eZ'
        subst eZ'
        exact absurd hZ hZ'
      · rw [eZ] at eZ'
        injection eZ' with eR eZ'
        subst eZ' eR
        have hlo := al_ok (B := fun j => byn (gB tp 0 j)) (T := T) 13 0 (by omega)
        have hl12 := al_12 (B := fun j => byn (gB tp 0 j)) (T := T) 12 0 (aq (fun j => byn (gB tp 0 j)) T 0) (by omega)
        have eZ2 : al (fun j => byn (gB tp 0 j)) T 13 0 (aq (fun j => byn (gB tp 0 j)) T 0) = (R, Z) := eZ
        rw [eZ2] at hlo hl12
        have hR12 : R ≤ 12 := hl12
        have eq1 : Z = aq (fun j => byn (gB tp 0 j)) T R := hlo hZ
        have hok : ∀ i, i < R → (aq (fun j => byn (gB tp 0 j)) T (i + 1)).1 = 0 := fun i hi => aq_ok R (i + 1) (by rw [← eq1]; exact hZ) (by omega)
        have hw' := acU_Wf (B := fun j => byn (gB tp 0 j)) (T := T) (R := R) hw hS hR12 hok
        have hv : ∀ k, k ≠ 4 → (k < 3710 + 290 * A 54 0 ∨ 3710 + 290 * A 54 0 + 290 ≤ k) → gA m' 1 k = gA m 1 k := hv'
        generalize hB : (fun j => byn (gB tp 0 j)) = B at *
        refine hQ _ _ _ _ _ ⟨acU B T A R, ?_, hw', hs.tell hw' rfl (fun y hy => acU_low y hy), hn.1, hn.2.1, ⟨g6, ?_⟩, hn.2.2.2⟩ ⟨0, by omega, g1, kk5, fun j hj => by omega, by rw [g2, k15], by rw [g3, k16]⟩ fm
        · obtain ⟨⟨k0, k1, k2, k3, k4, k5, k6, k7, k8, k9⟩, h1, h2, h3, h4, h5, h6, h7, h8, h9⟩ := id hm; obtain ⟨⟨w0, w1, w2, w3, w4, w5, w6, w7, w8, w9, wc⟩, -, -, -, wn, ws, wa, -⟩ := id hw; refine ⟨⟨(hv 0 (by omega) (by omega)).trans k0, (hv 1 (by omega) (by omega)).trans k1, (hv 2 (by omega) (by omega)).trans k2, (hv 3 (by omega) (by omega)).trans k3, kk4, (hv 5 (by omega) (by omega)).trans k5, (hv 6 (by omega) (by omega)).trans k6, (hv 7 (by omega) (by omega)).trans k7, (hv 8 (by omega) (by omega)).trans k8, (hv 9 (by omega) (by omega)).trans k9⟩, h1.w w1 (fun k _ _ => hv k (by omega) (by omega)), h2.w (by omega) (fun k _ _ => hv k (by omega) (by omega)), h3.w w6 (fun k _ _ => hv k (by omega) (by omega)), h4.w w2 wn (fun k _ _ => hv k (by omega) (by omega)), h5.w w3 ws (fun k _ _ => hv k (by omega) (by omega)), ?_, h7.w w5 (fun k _ _ => hv k (by omega) (by omega)), h8.w w7 (fun k _ _ => hv k (by omega) (by omega)), h9.w (by omega) (fun k _ _ => hv k (by omega) (by omega))⟩
          intro s hs'
          have hs2 : s < A 54 0 + 1 := hs'
          by_cases e : s = A 54 0
          · subst e
            obtain ⟨a1, a2⟩ := acU_new (B := B) (T := T) (A := A) (R := R)
            rw [a1, a2]
            refine ⟨kk0, kk1, fun i hi => ?_⟩
            obtain ⟨d1, d2, d3, d4, d5⟩ := acU_newl (B := B) (T := T) (A := A) (R := R) i
            have b4 : v31 B T (lk B T i) (aq B T i) ≤ 4 := (ln_b (hok i hi)).2.2.2.2.2.2.1
            obtain ⟨r1, r2, r3, r4, r5⟩ := hrm i hi (hok i hi)
            rw [d1, d2, d3, d4]
            refine ⟨r1, r2, r3, r4, fun j hj => ?_⟩
            obtain ⟨x1, x2, x3, x4, x5⟩ := d5 j (by omega)
            rw [x1, x2, x3, x4, x5]
            exact r5 j hj
          · obtain ⟨a1, a2⟩ := acU_old (B := B) (T := T) (A := A) (R := R) (s := s) (by omega)
            obtain ⟨p1, p2, p3⟩ := h6 s (by omega)
            obtain ⟨-, y3, y4⟩ := wa s (by omega)
            rw [a1, a2, hv _ (by omega) (by omega), hv _ (by omega) (by omega)]
            refine ⟨p1, p2, fun r hr => ?_⟩
            obtain ⟨d1, d2, d3, d4, d5⟩ := acU_oldl (B := B) (T := T) (A := A) (R := R) (q := 12 * s + r) (by omega)
            obtain ⟨-, -, -, -, z5, -⟩ := y4 r hr
            obtain ⟨r1, r2, r3, r4, r5⟩ := p3 r hr
            rw [d1, d2, d3, d4, hv _ (by omega) (by omega), hv _ (by omega) (by omega), hv _ (by omega) (by omega), hv _ (by omega) (by omega)]
            refine ⟨r1, r2, r3, r4, fun j hj => ?_⟩
            obtain ⟨x1, x2, x3, x4, x5⟩ := d5 j (by omega)
            rw [x1, x2, x3, x4, x5, hv _ (by omega) (by omega), hv _ (by omega) (by omega), hv _ (by omega) (by omega), hv _ (by omega) (by omega), hv _ (by omega) (by omega)]
            exact r5 j hj
        · intro s hs'
          have hs2 : s < A 54 0 + 1 := hs'
          rw [g7, g8]
          by_cases e : s = A 54 0
          · subst e
            obtain ⟨a1, a2⟩ := acU_new (B := B) (T := T) (A := A) (R := R)
            rw [a1, a2, va_up_eq, va_up_eq]
            refine ⟨rfl, rfl, fun hz i hi j hj => ?_, fun i hi => ?_⟩
            · obtain ⟨d1, d2, d3, d4, d5⟩ := acU_newl (B := B) (T := T) (A := A) (R := R) i
              have b4 : v31 B T (lk B T i) (aq B T i) ≤ 4 := (ln_b (hok i hi)).2.2.2.2.2.2.1
              rw [d4] at hj
              obtain ⟨x1, x2, x3, x4, x5⟩ := d5 j (by omega)
              obtain ⟨-, -, -, -, l5⟩ := hln i hi (hok i hi)
              rw [x2]
              intro e3
              have := (l5 j hj).2.2.2.2 e3
              rw [hz] at this; cases this
            · obtain ⟨d1, d2, d3, d4, d5⟩ := acU_newl (B := B) (T := T) (A := A) (R := R) i
              have b4 : v31 B T (lk B T i) (aq B T i) ≤ 4 := (ln_b (hok i hi)).2.2.2.2.2.2.1
              obtain ⟨l1, l2, l3, l4, l5⟩ := hln i hi (hok i hi)
              rw [d1, d2, d3, d4]
              refine ⟨l1, l2, l3, l4, fun j hj => ?_⟩
              obtain ⟨x1, x2, x3, x4, x5⟩ := d5 j (by omega)
              obtain ⟨c1, c2, c3, c4, -⟩ := l5 j hj
              unfold fct
              rw [x1, x2, x3, x4, x5]
              exact ⟨c1, c2, c3, c4⟩
          · obtain ⟨a1, a2⟩ := acU_old (B := B) (T := T) (A := A) (R := R) (s := s) (by omega)
            obtain ⟨p1, p2, p3, p4⟩ := hn.2.2.1.2 s (by omega)
            obtain ⟨-, y3, y4⟩ := hw.2.2.2.2.2.2.1 s (by omega)
            rw [a1, a2, va_up_ne' _ _ e, va_up_ne' _ _ e, sa.2.2 s e]
            refine ⟨p1, p2, fun hz r hr j hj => ?_, fun r hr => ?_⟩
            · obtain ⟨d1, d2, d3, d4, d5⟩ := acU_oldl (B := B) (T := T) (A := A) (R := R) (q := 12 * s + r) (by omega)
              obtain ⟨-, -, -, -, z5, -⟩ := y4 r hr
              rw [d4] at hj
              rw [(d5 j (by omega)).2.1]
              exact p3 hz r hr j hj
            · obtain ⟨d1, d2, d3, d4, d5⟩ := acU_oldl (B := B) (T := T) (A := A) (R := R) (q := 12 * s + r) (by omega)
              obtain ⟨-, -, -, -, z5, -⟩ := y4 r hr
              obtain ⟨r1, r2, r3, r4, r5⟩ := p4 r hr
              obtain ⟨q1, q2, q3, q4⟩ := sa.1 (12 * s + r) (by omega)
              rw [d1, d2, d3, d4, q1, q2, q3, q4]
              refine ⟨r1, r2, r3, r4, fun j hj => ?_⟩
              obtain ⟨x1, x2, x3, x4, x5⟩ := d5 j (by omega)
              obtain ⟨w1, w2, w3, w4⟩ := sa.2.1 (4 * (12 * s + r) + j) (by omega)
              unfold fct
              rw [x1, x2, x3, x4, x5, w1, w2, w3, w4]
              exact r5 j hj
  · have e8 : A 54 0 = 8 := by omega
    unfold qX11_act
    rw [s6, e8]
    refine c_n (by decide) ?_
    unfold qX12_act
    refine ⟨by unfold vp_in; decide, ?_⟩
    rw [show ((4 : Int32).toNatClampNeg) = 4 from rfl, e3, e8]
    exact c_y' rfl (hQ _ _ _ _ _ hR hT Fr.rf)
