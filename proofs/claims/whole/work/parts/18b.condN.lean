theorem N_kindOfLine {tp : Md} {B : Nat → Nat} {T : Nat} {s : PS} (h : TN tp B T s) {Q : Int32 → Md → Prop} (h0 : (s.1 = 0 → lnK B T s.2.2 = 0) → Q (-1) tp) (hk : ∀ k, k < 6 → (s.1 = 0 → lnK B T s.2.2 = k + 1) → Q (nI k) tp) : qX0_kindOfLine tp Q := by
  unfold qX0_kindOfLine
  refine N_isWord (k := 2) (by decide) h (fun e => b_1' (hk 0 (by decide) (fun z => by unfold lnK; rw [if_pos (e z)]))) (fun n1 => b_0' ?_)
  refine N_isWord (k := 3) (by decide) h (fun e => b_1' (hk 1 (by decide) (fun z => by unfold lnK; rw [if_neg (by rw [n1 z]; decide), if_pos (e z)]))) (fun n2 => b_0' ?_)
  refine N_isWord (k := 4) (by decide) h (fun e => b_1' (hk 2 (by decide) (fun z => by unfold lnK; rw [if_neg (by rw [n1 z]; decide), if_neg (by rw [n2 z]; decide), if_pos (e z)]))) (fun n3 => b_0' ?_)
  refine N_isWord (k := 5) (by decide) h (fun e => b_1' (hk 3 (by decide) (fun z => by unfold lnK; rw [if_neg (by rw [n1 z]; decide), if_neg (by rw [n2 z]; decide), if_neg (by rw [n3 z]; decide), if_pos (e z)]))) (fun n4 => b_0' ?_)
  refine N_isWord (k := 6) (by decide) h (fun e => b_1' (hk 4 (by decide) (fun z => by unfold lnK; rw [if_neg (by rw [n1 z]; decide), if_neg (by rw [n2 z]; decide), if_neg (by rw [n3 z]; decide), if_neg (by rw [n4 z]; decide), if_pos (e z)]))) (fun n5 => b_0' ?_)
  refine N_isWord (k := 7) (by decide) h (fun e => b_1' (hk 5 (by decide) (fun z => by unfold lnK; rw [if_neg (by rw [n1 z]; decide), if_neg (by rw [n2 z]; decide), if_neg (by rw [n3 z]; decide), if_neg (by rw [n4 z]; decide), if_neg (by rw [n5 z]; decide), if_pos (e z)]))) (fun n6 => b_0' (h0 (fun z => by unfold lnK; rw [if_neg (by rw [n1 z]; decide), if_neg (by rw [n2 z]; decide), if_neg (by rw [n3 z]; decide), if_neg (by rw [n4 z]; decide), if_neg (by rw [n5 z]; decide), if_neg (by rw [n6 z]; decide)])))
/-- what a condition looks at, as the class has it -/
def fV (f : Nat) : Nat := if f = 1 then 0 else f + 1
theorem N_factOf {tp : Md} {B : Nat → Nat} {T : Nat} {s : PS} (h : TN tp B T s) {Q : Int32 → Md → Prop} (h0 : (s.1 = 0 → fK B T s.2.2 = 0) → Q (-1) tp) (hk : ∀ f, 1 ≤ f → f ≤ 4 → (s.1 = 0 → fK B T s.2.2 = f) → Q (nI (fV f)) tp) : qX0_factOf tp Q := by
  unfold qX0_factOf
  refine N_isWord (k := 12) (by decide) h (fun e => b_1' (hk 1 (by decide) (by decide) (fun z => by unfold fK; rw [if_pos (e z)]))) (fun n1 => b_0' ?_)
  refine N_isWord (k := 13) (by decide) h (fun e => b_1' (hk 2 (by decide) (by decide) (fun z => by unfold fK; rw [if_neg (by rw [n1 z]; decide), if_pos (e z)]))) (fun n2 => b_0' ?_)
  refine N_isWord (k := 14) (by decide) h (fun e => b_1' (hk 3 (by decide) (by decide) (fun z => by unfold fK; rw [if_neg (by rw [n1 z]; decide), if_neg (by rw [n2 z]; decide), if_pos (e z)]))) (fun n3 => b_0' ?_)
  refine N_isWord (k := 15) (by decide) h (fun e => b_1' (hk 4 (by decide) (by decide) (fun z => by unfold fK; rw [if_neg (by rw [n1 z]; decide), if_neg (by rw [n2 z]; decide), if_neg (by rw [n3 z]; decide), if_pos (e z)]))) (fun n4 => b_0' (h0 (fun z => by unfold fK; rw [if_neg (by rw [n1 z]; decide), if_neg (by rw [n2 z]; decide), if_neg (by rw [n3 z]; decide), if_neg (by rw [n4 z]; decide)])))
theorem N_c109 {ac tp : Md} {B : Nat → Nat} {T q c : Nat} {t : PS} {z : Int32} (hq : q < 384) (hc : (c = 60 ∧ z = -1) ∨ (c = 61 ∧ z = 0) ∨ (c = 62 ∧ z = 1)) (he : xa4 B T t = oS B T c t) (h : TN tp B T t) {Q : Md → Md → Prop} (hQ : ∀ ac' tp', Fr [(1, 10), (1, 11)] ac ac' → (∀ i, i ≠ q → gA ac' 10 i = gA ac 10 i ∧ gA ac' 11 i = gA ac 11 i) → TN tp' B T (oN B T 9999 (xa4 B T t)) → ((oN B T 9999 (xa4 B T t)).1 = 0 → gA ac' 10 q = nI (B (tF B T t.2.2)) - 61 ∧ gA ac' 11 q = nI (tV B T (xa4 B T t).2.2)) → Q ac' tp') : qX0_readCond_109 Q ac tp (nI q) z (nI q) := by
  unfold qX0_readCond_109
  refine ⟨vp_in_nI hq (by decide), fun w hw => ⟨vp_in_nI hq (by decide), ?_⟩⟩
  have w10 : gA w 10 = va_up (gA ac 10) q z := by rw [hw, gA_tA, if_pos rfl, nI_clamp (by omega)]
  have k141 : c < 128 → qX0_readCond_141 Q w tp (nI q) (nI c) := by
    intro hc128
    unfold qX0_readCond_141
    refine N_takeSign hc128 h (fun tp1 h1 => ?_)
    rw [← he] at h1
    refine N_takeNumber (mo := 9999) (by decide) h1 (fun v tp2 hv h2 ev => ⟨vp_in_nI hq (by decide), fun w2 hw2 => ?_⟩)
    refine hQ w2 tp2 (by rw [hw2, hw]; exact Fr.tr (Fr.tA 10 _ _ (by decide)) (Fr.tA 11 _ _ (by decide))) (fun i hi => ⟨?_, ?_⟩) h2 (fun zz => ⟨?_, ?_⟩)
    · rw [hw2]; show gA w 10 i = _; rw [w10, va_up_ne' _ _ hi]
    · rw [hw2, gA_tA, if_pos rfl, nI_clamp (by omega), va_up_ne' _ _ hi, hw]; rfl
    · rw [hw2]; show gA w 10 q = _; rw [w10, va_up_eq]
      have z1 := (oN_ok zz).1
      rw [he] at z1
      have hs : tS B T t.2.2 c = true := by
        unfold oS at z1
        by_cases cc : tS B T t.2.2 c = true
        · exact cc
        · rw [if_neg cc] at z1; exact absurd z1 (oW_n (by decide))
      rw [(tS_1 hs).2]
      rcases hc with ⟨e, e'⟩ | ⟨e, e'⟩ | ⟨e, e'⟩
      · rw [e, e']; decide
      · rw [e, e']; decide
      · rw [e, e']; decide
    · rw [hw2, gA_tA, if_pos rfl, nI_clamp (by omega), va_up_eq, ev zz]
  rw [nI_clamp (by omega), w10, va_up_eq]
  rcases hc with ⟨e, e'⟩ | ⟨e, e'⟩ | ⟨e, e'⟩
  · rw [e'] ; rw [e] at k141
    exact c_n (by decide) (k141 (by decide))
  · rw [e'] ; rw [e] at k141
    exact c_y (by decide) ⟨vp_in_nI hq (by decide), c_y (by decide) (k141 (by decide))⟩
  · rw [e'] ; rw [e] at k141
    exact c_y (by decide) ⟨vp_in_nI hq (by decide), c_n (by decide) (k141 (by decide))⟩
theorem N_c70 {ac tp : Md} {B : Nat → Nat} {T q : Nat} {t : PS} {y : Int32} (hq : q < 384) (h : TN tp B T t) {Q : Md → Md → Prop} (hQ : ∀ ac' tp', Fr [(1, 9), (1, 10), (1, 11)] ac ac' → (∀ i, i ≠ q → gA ac' 9 i = gA ac 9 i ∧ gA ac' 10 i = gA ac 10 i ∧ gA ac' 11 i = gA ac 11 i) → gA ac' 9 q = y → TN tp' B T (oN B T 9999 (xa4 B T t)) → ((oN B T 9999 (xa4 B T t)).1 = 0 → gA ac' 10 q = nI (B (tF B T t.2.2)) - 61 ∧ gA ac' 11 q = nI (tV B T (xa4 B T t).2.2)) → Q ac' tp') : qX0_readCond_70 Q ac tp (nI q) y := by
  unfold qX0_readCond_70
  refine ⟨vp_in_nI hq (by decide), fun w hw => ?_⟩
  have w9 : gA w 9 = va_up (gA ac 9) q y := by rw [hw, gA_tA, if_pos rfl, nI_clamp (by omega)]
  have go : ∀ (z : Int32) (c : Nat), ((c = 60 ∧ z = -1) ∨ (c = 61 ∧ z = 0) ∨ (c = 62 ∧ z = 1)) → xa4 B T t = oS B T c t → qX0_readCond_109 Q w tp (nI q) z (nI q) := by
    intro z c hc he
    refine N_c109 hq hc he h (fun ac' tp' fr g ht hv => hQ ac' tp' ?_ (fun i hi => ⟨?_, ?_, ?_⟩) ?_ ht hv)
    · refine Fr.tr ?_ (fr.mono (by decide))
      rw [hw]; exact Fr.tA 9 _ _ (by decide)
    · rw [fr.2.1 9 (by decide), w9, va_up_ne' _ _ hi]
    · rw [(g i hi).1, hw]; rfl
    · rw [(g i hi).2, hw]; rfl
    · rw [fr.2.1 9 (by decide), w9, va_up_eq]
  refine N_isSign (c := 60) (by decide) h (fun a1 => b_1' (go (-1) 60 (Or.inl ⟨rfl, rfl⟩) ?_)) (fun n1 => b_0' (N_isSign (c := 62) (by decide) h (fun a2 => b_1' (go 1 62 (Or.inr (Or.inr ⟨rfl, rfl⟩)) ?_)) (fun n2 => b_0' (go 0 61 (Or.inr (Or.inl ⟨rfl, rfl⟩)) ?_))))
  · unfold xa4 oS
    rw [pk_t oA_f oW_f a1, pk_t oA_f oW_f (fun z => by unfold xaS; rw [a1 z]; rfl)]
  · unfold xa4 oS
    rw [pk_t oA_f oW_f a2, pk_t oA_f oW_f (fun z => by unfold xaS; rw [a2 z, Bool.or_true, Bool.or_true])]
  · by_cases z : t.1 = 0
    · unfold xa4 oS xaS
      rw [n1 z, n2 z, Bool.false_or, Bool.or_false]
    · rw [xa4_f z, oS_f z]
def SmC (ac ac' : Md) (q S : Nat) : Prop := (∀ i, i ≠ q → gZ ac' 8 i = gZ ac 8 i ∧ gA ac' 9 i = gA ac 9 i ∧ gA ac' 10 i = gA ac 10 i ∧ gA ac' 11 i = gA ac 11 i) ∧ (∀ i, i ≠ S → gZ ac' 3 i = gZ ac 3 i) ∧ (gZ ac 3 S = true → gZ ac' 3 S = true)
def fcV (B : Nat → Nat) (T : Nat) (s : PS) : Nat := if v33 B T s = 0 then v34 B T s else v33 B T s + 2
def CoN (ac : Md) (q S : Nat) (B : Nat → Nat) (T : Nat) (s : PS) : Prop := gZ ac 8 q = (v32 B T s == 1) ∧ gA ac 9 q = nI (fcV B T s) ∧ gA ac 10 q = nI (v35 B T s) - 61 ∧ gA ac 11 q = nI (v36 B T s) ∧ (v33 B T s = 3 → gZ ac 3 S = true)
/-- from the word that tells what a condition looks at -/
theorem N_c25 {ac tp : Md} {B : Nat → Nat} {T q S : Nat} {t : PS} (hq : q < 384) (hS : S < 8) (a0 : gF ac 0 = nI S) (h : TN tp B T t) {Q : Md → Md → Prop} (hQ : ∀ ac' tp', Fr [(4, 3), (1, 9), (1, 10), (1, 11)] ac ac' → SmC ac ac' q S → TN tp' B T (xa5 B T (fK B T t.2.2) t) → ((xa5 B T (fK B T t.2.2) t).1 = 0 → gA ac' 9 q = nI (if fK B T t.2.2 = 1 then tV B T (xa2 B T t).2.2 else fK B T t.2.2 + 1) ∧ gA ac' 10 q = nI (B (tF B T (xa3 B T (fK B T t.2.2) (xa2 B T t)).2.2)) - 61 ∧ gA ac' 11 q = nI (tV B T (xa4 B T (xa3 B T (fK B T t.2.2) (xa2 B T t))).2.2) ∧ (fK B T t.2.2 = 4 → gZ ac' 3 S = true)) → Q ac' tp') : qX0_readCond_25 Q ac tp (nI q) := by
  unfold qX0_readCond_25
  refine N_factOf h (fun e => ⟨fun z => absurd rfl z, fun _ => N_blame (n := 1) h (by decide) (by decide) (fun tp1 h1 => ?_)⟩) (fun f f1 f4 e => ?_)
  · have eo : xa5 B T (fK B T t.2.2) t = oW B T 1 t := by
      by_cases z : t.1 = 0
      · have hn : (oW B T 1 t).1 ≠ 0 := oW_n (by decide)
        have e2' : xa2 B T t = oW B T 1 t := by unfold xa2; rw [if_neg (fun c => absurd (e z) (of_decide_eq_true c))]
        unfold xa5; rw [e2', xa3_f hn, xa4_f hn, oN_f hn]
      · rw [xa5_f z, oW_f z]
    exact hQ ac tp1 Fr.rf ⟨fun _ _ => ⟨rfl, rfl, rfl, rfl⟩, fun _ _ => rfl, fun z => z⟩ (by rw [eo]; exact h1) (fun z => by rw [eo] at z; exact absurd z (oW_n (by decide)))
  · have e2' : xa2 B T t = oA B T t := by unfold xa2; rw [pk_t oA_f oW_f (fun z => decide_eq_true (by rw [e z]; omega))]
    have hfV : fV f < 2 ^ 31 := by unfold fV; split <;> omega
    refine ⟨fun _ => N_advance h (fun tp1 h1 => ?_), fun z => absurd z (nI_m1 hfV)⟩
    rw [← e2'] at h1
    have c55 : ∀ (v : Nat) (tp2 : Md), v ≤ 5 → TN tp2 B T (xa3 B T (fK B T t.2.2) (xa2 B T t)) → ((xa3 B T (fK B T t.2.2) (xa2 B T t)).1 = 0 → v = (if fK B T t.2.2 = 1 then tV B T (xa2 B T t).2.2 else fK B T t.2.2 + 1)) → (f = 4 → v = 5) → (f ≠ 4 → v ≠ 5) → qX0_readCond_55 Q ac tp2 (nI q) (nI v) := by
      intro v tp2 hv h2 ev hy hny
      unfold qX0_readCond_55
      have fin : ∀ w : Md, Fr [(4, 3)] ac w → (∀ i, i ≠ S → gZ w 3 i = gZ ac 3 i) → (gZ ac 3 S = true → gZ w 3 S = true) → (f = 4 → gZ w 3 S = true) → qX0_readCond_70 Q w tp2 (nI q) (nI v) := by
        intro w fw g3 g3S g4
        refine N_c70 hq h2 (fun ac' tp' fr g g9 ht hv' => hQ ac' tp' ((fw.mono (by decide)).tr (fr.mono (by decide))) ⟨fun i hi => ⟨?_, ?_, ?_, ?_⟩, fun i hi => ?_, fun z => ?_⟩ ht (fun z => ?_))
        · rw [fr.2.2.2.2.1 8 (by decide), fw.2.2.2.2.1 8 (by decide)]
        · rw [(g i hi).1, fw.2.1 9 (by decide)]
        · rw [(g i hi).2.1, fw.2.1 10 (by decide)]
        · rw [(g i hi).2.2, fw.2.1 11 (by decide)]
        · rw [fr.2.2.2.2.1 3 (by decide)]; exact g3 i hi
        · rw [fr.2.2.2.2.1 3 (by decide)]; exact g3S z
        · have z4 := (oN_ok z).1
          have z3 := ok_of (f := xa4 B T) xa4_f z4
          have z2 := ok_of (f := xa3 B T (fK B T t.2.2)) xa3_f z3
          have z0 : t.1 = 0 := ok_of (f := xa2 B T) xa2_f z2
          obtain ⟨k1, k2⟩ := hv' z
          exact ⟨by rw [g9, ev z3], k1, k2, fun e4 => by rw [fr.2.2.2.2.1 3 (by decide)]; exact g4 (by rw [← e z0]; exact e4)⟩
      refine c_eq' (b := 5) rfl rfl (by omega) (by decide) (fun e5 => ⟨by rw [a0]; exact vp_in_nI hS (by decide), fun w hw => ?_⟩) (fun n5 => fin ac Fr.rf (fun _ _ => rfl) (fun z => z) (fun e4 => absurd (hy e4) n5))
      have w3 : gZ w 3 = va_up (gZ ac 3) S true := by rw [hw, gZ_tZ, if_pos rfl, a0, nI_clamp (by omega)]; rfl
      exact fin w (by rw [hw]; exact Fr.tZ 3 _ _ (by decide)) (fun i hi => by rw [w3, va_up_ne' _ _ hi]) (fun _ => by rw [w3, va_up_eq]) (fun _ => by rw [w3, va_up_eq])
    by_cases ef : f = 1
    · subst ef
      refine ⟨fun z => absurd rfl z, fun _ => N_takeNumber (mo := 2) (by decide) h1 (fun v tp2 hv h2 ev => ?_)⟩
      have e3' : xa3 B T (fK B T t.2.2) (xa2 B T t) = oN B T 2 (xa2 B T t) := by
        by_cases z : t.1 = 0
        · unfold xa3; rw [if_pos (decide_eq_true (e z))]
        · rw [xa2_f z, xa3_f z, oN_f z]
      rw [← e3'] at h2 ev
      refine c55 v tp2 (by omega) h2 (fun z => ?_) (fun z => by omega) (fun _ => by omega)
      have z2 := ok_of (f := xa3 B T (fK B T t.2.2)) xa3_f z
      have z0 : t.1 = 0 := ok_of (f := xa2 B T) xa2_f z2
      rw [if_pos (e z0)]; exact ev z
    · have efv : fV f = f + 1 := by unfold fV; rw [if_neg ef]
      have e3' : xa3 B T (fK B T t.2.2) (xa2 B T t) = xa2 B T t := by
        by_cases z : t.1 = 0
        · unfold xa3; rw [if_neg (fun c => ef (by rw [← e z]; exact of_decide_eq_true c))]
        · rw [xa2_f z, xa3_f z]
      rw [efv]
      refine ⟨fun _ => c55 (f + 1) tp1 (by omega) (by rw [e3']; exact h1) (fun z => ?_) (fun z => by omega) (fun z => by omega), fun z => absurd ((nI_eq (b := 0) (by omega) (by decide)).1 z) (by omega)⟩
      have z2 := ok_of (f := xa3 B T (fK B T t.2.2)) xa3_f z
      have z0 : t.1 = 0 := ok_of (f := xa2 B T) xa2_f z2
      rw [e z0, if_neg ef]
theorem N_readCond {ac tp : Md} {B : Nat → Nat} {T q S : Nat} {s : PS} (hq : q < 384) (hS : S < 8) (a0 : gF ac 0 = nI S) (h : TN tp B T s) {Q : Md → Md → Prop} (hQ : ∀ ac' tp', Fr [(4, 3), (4, 8), (1, 9), (1, 10), (1, 11)] ac ac' → SmC ac ac' q S → TN tp' B T (oC B T s) → ((oC B T s).1 = 0 → CoN ac' q S B T s) → Q ac' tp') : qX0_readCond ac tp (nI q) Q := by
  have go : ∀ (w tp1 : Md) (b : Bool), Fr [(4, 8)] ac w → gZ w 8 = va_up (gZ ac 8) q b → (s.1 = 0 → b = (v32 B T s == 1)) → TN tp1 B T (xa1 B T s) → qX0_readCond_25 Q w tp1 (nI q) := by
    intro w tp1 b fw w8 hb h1
    refine N_c25 hq hS (by rw [fw.1 0 (by decide)]; exact a0) h1 (fun ac' tp' fr g ht hv => hQ ac' tp' ((fw.mono (by decide)).tr (fr.mono (by decide))) ⟨fun i hi => ⟨?_, ?_, ?_, ?_⟩, fun i hi => ?_, fun z => ?_⟩ ht (fun z => ?_))
    · rw [fr.2.2.2.2.1 8 (by decide), w8, va_up_ne' _ _ hi]
    · rw [(g.1 i hi).2.1, fw.2.1 9 (by decide)]
    · rw [(g.1 i hi).2.2.1, fw.2.1 10 (by decide)]
    · rw [(g.1 i hi).2.2.2, fw.2.1 11 (by decide)]
    · rw [g.2.1 i hi, fw.2.2.2.2.1 3 (by decide)]
    · exact g.2.2 (by rw [fw.2.2.2.2.1 3 (by decide)]; exact z)
    · obtain ⟨o0, o1, o2, o3, o4, of, o5, o6, o7, -⟩ := oC_ok z
      obtain ⟨k1, k2, k3, k4⟩ := hv z
      have hf4 := fK_le B T (xa1 B T s).2.2
      refine ⟨by rw [fr.2.2.2.2.1 8 (by decide), w8, va_up_eq]; exact hb o0, ?_, k2, k3, fun e => k4 (by unfold v33 at e; omega)⟩
      rw [k1]
      unfold fcV v33 v34
      by_cases e1 : fK B T (xa1 B T s).2.2 = 1
      · rw [if_pos e1, if_pos (by omega), if_pos e1]
      · rw [if_neg e1, if_neg (by omega)]
        congr 1; omega
  unfold qX0_readCond
  refine N_isWord (k := 11) (by decide) h (fun e _ => ⟨vp_in_nI hq (by decide), fun w hw => ⟨vp_in_nI hq (by decide), ?_⟩⟩) (fun e _ => ⟨vp_in_nI hq (by decide), fun w hw => ⟨vp_in_nI hq (by decide), ?_⟩⟩)
  · have w8 : gZ w 8 = va_up (gZ ac 8) q true := by rw [hw, gZ_tZ, if_pos rfl, nI_clamp (by omega)]; rfl
    rw [nI_clamp (by omega), w8, va_up_eq]
    refine c_n (by decide) (N_advance h (fun tp1 h1 => go w tp1 true (by rw [hw]; exact Fr.tZ 8 _ _ (by decide)) w8 (fun z => ?_) ?_))
    · unfold v32; rw [if_pos (e z)]; rfl
    · have : xa1 B T s = oA B T s := by unfold xa1; rw [pk_t oA_f (fun _ => rfl) e]
      rw [this]; exact h1
  · have w8 : gZ w 8 = va_up (gZ ac 8) q false := by rw [hw, gZ_tZ, if_pos rfl, nI_clamp (by omega)]; rfl
    rw [nI_clamp (by omega), w8, va_up_eq]
    refine c_y (by decide) (go w tp false (by rw [hw]; exact Fr.tZ 8 _ _ (by decide)) w8 (fun z => ?_) ?_)
    · unfold v32; rw [if_neg (by rw [e z]; decide)]; rfl
    · have : xa1 B T s = s := by unfold xa1; rw [pk_f oA_f (fun _ => rfl) e]
      rw [this]; exact h
