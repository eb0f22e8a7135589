theorem N_readHead {ac tp : Md} {B : Nat → Nat} {T l k : Nat} {s : PS} (hl : l < 96) (hk : k < 6) (h : TN tp B T s) {Q : Md → Md → Prop} (hQ : ∀ ac' tp', Fr [(1, 4), (1, 5), (1, 6), (1, 7)] ac ac' → (∀ i, i ≠ l → gA ac' 4 i = gA ac 4 i ∧ gA ac' 5 i = gA ac 5 i ∧ gA ac' 6 i = gA ac 6 i ∧ gA ac' 7 i = gA ac 7 i) → TN tp' B T (xhh B T k s) → gA ac' 4 l = nI k → gA ac' 7 l = nI 0 → ((xhh B T k s).1 = 0 → gA ac' 5 l = nI (v29 B T k s) ∧ gA ac' 6 l = nI (v30 B T k s)) → Q ac' tp') : qX0_readHead ac tp (nI l) (nI k) Q := by
  unfold qX0_readHead
  refine N_advance h (fun tp1 h1 => ⟨vp_in_nI hl (by decide), fun w1 k1 => ⟨vp_in_nI hl (by decide), fun w2 k2 => ⟨vp_in_nI hl (by decide), fun w3 k3 => ⟨vp_in_nI hl (by decide), fun w4 k4 => ?_⟩⟩⟩⟩)
  have fw : Fr [(1, 4), (1, 5), (1, 6), (1, 7)] ac w4 := by
    rw [k4, k3, k2, k1]; exact Fr.tr (Fr.tr (Fr.tr (Fr.tA 4 _ _ (by decide)) (Fr.tA 5 _ _ (by decide))) (Fr.tA 6 _ _ (by decide))) (Fr.tA 7 _ _ (by decide))
  have x4 : gA w4 4 = va_up (gA ac 4) l (nI k) := by rw [k4, k3, k2, k1]; show va_up (gA ac 4) (nI l).toNatClampNeg _ = _; rw [nI_clamp (by omega)]
  have x5 : gA w4 5 = va_up (gA ac 5) l (nI 0) := by rw [k4, k3, k2, k1]; show va_up (gA ac 5) (nI l).toNatClampNeg _ = _; rw [nI_clamp (by omega)]; rfl
  have x6 : gA w4 6 = va_up (gA ac 6) l (nI 0) := by rw [k4, k3, k2, k1]; show va_up (gA ac 6) (nI l).toNatClampNeg _ = _; rw [nI_clamp (by omega)]; rfl
  have x7 : gA w4 7 = va_up (gA ac 7) l (nI 0) := by rw [k4, k3, k2, k1]; show va_up (gA ac 7) (nI l).toNatClampNeg _ = _; rw [nI_clamp (by omega)]; rfl
  have k68 : ∀ (w tp2 : Md) (v : Nat), Fr [(1, 5)] w4 w → gA w 5 = va_up (gA ac 5) l (nI v) → TN tp2 B T (xh1 B T k (oA B T s)) → ((xh1 B T k (oA B T s)).1 = 0 → v = v29 B T k s) → qX0_readHead_68 Q w tp2 (nI l) (nI k) := by
    intro w tp2 v f5 w5 h2 hv
    unfold qX0_readHead_68
    have y4 : gA w 4 = va_up (gA ac 4) l (nI k) := (f5.2.1 4 (by decide)).trans x4
    have y6 : gA w 6 = va_up (gA ac 6) l (nI 0) := (f5.2.1 6 (by decide)).trans x6
    have y7 : gA w 7 = va_up (gA ac 7) l (nI 0) := (f5.2.1 7 (by decide)).trans x7
    refine c_eq' (b := 2) rfl rfl (by omega) (by decide) (fun e => ?_) (fun e => ?_)
    · have eh : xhh B T k s = oN B T 9999 (oK B T 8 (xh1 B T k (oA B T s))) := by unfold xhh xh2; rw [if_pos (decide_eq_true e)]
      refine N_takeWord (k := 8) (by decide) h2 (fun tp3 h3 => N_takeNumber (mo := 9999) (by decide) h3 (fun u tp4 hu h4 eu => ⟨vp_in_nI hl (by decide), fun w5' k5 => ?_⟩))
      rw [← eh] at h4 eu
      refine hQ w5' tp4 (by rw [k5]; exact (fw.tr (f5.mono (by decide))).tr (Fr.tA 6 _ _ (by decide))) (fun i hi => ⟨?_, ?_, ?_, ?_⟩) h4 ?_ ?_ (fun z => ⟨?_, ?_⟩)
      · rw [k5]; show gA w 4 i = _; rw [y4, va_up_ne' _ _ hi]
      · rw [k5]; show gA w 5 i = _; rw [w5, va_up_ne' _ _ hi]
      · rw [k5, gA_tA, if_pos rfl, nI_clamp (by omega), va_up_ne' _ _ hi, y6, va_up_ne' _ _ hi]
      · rw [k5]; show gA w 7 i = _; rw [y7, va_up_ne' _ _ hi]
      · rw [k5]; show gA w 4 l = _; rw [y4, va_up_eq]
      · rw [k5]; show gA w 7 l = _; rw [y7, va_up_eq]
      · rw [k5]; show gA w 5 l = _
        have z2 : (xh1 B T k (oA B T s)).1 = 0 := ok_of (f := xh2 B T k) xh2_f z
        rw [w5, va_up_eq, hv z2]
      · rw [k5, gA_tA, if_pos rfl, nI_clamp (by omega), va_up_eq, eu z]; unfold v30; rw [if_pos e]
    · have eh : xhh B T k s = xh1 B T k (oA B T s) := by unfold xhh xh2; rw [if_neg (fun z => e (of_decide_eq_true z))]
      refine hQ w tp2 (fw.tr (f5.mono (by decide))) (fun i hi => ⟨?_, ?_, ?_, ?_⟩) (by rw [eh]; exact h2) ?_ ?_ (fun z => ⟨?_, ?_⟩)
      · rw [y4, va_up_ne' _ _ hi]
      · rw [w5, va_up_ne' _ _ hi]
      · rw [y6, va_up_ne' _ _ hi]
      · rw [y7, va_up_ne' _ _ hi]
      · rw [y4, va_up_eq]
      · rw [y7, va_up_eq]
      · rw [eh] at z; rw [w5, va_up_eq, hv z]
      · rw [y6, va_up_eq]; unfold v30; rw [if_neg e]
  refine c_eq' (b := 0) rfl rfl (by omega) (by decide) (fun e0 => ?_) (fun e0 => ?_)
  · have eh : xh1 B T k (oA B T s) = oN B T 2 (oA B T s) := by unfold xh1; rw [if_pos (decide_eq_true e0)]
    refine N_takeNumber (mo := 2) (by decide) h1 (fun u tp2 hu h2 eu => ⟨vp_in_nI hl (by decide), fun w5 k5 => ?_⟩)
    rw [← eh] at h2 eu
    refine k68 w5 tp2 u (by rw [k5]; exact Fr.tA 5 _ _ (by decide)) ?_ h2 (fun z => ?_)
    · rw [k5, gA_tA, if_pos rfl, nI_clamp (by omega), x5, bx_uu]
    · rw [eu z]; unfold v29; rw [if_neg (by omega)]
  · refine c_eq (b := 1) rfl rfl (by omega) (by decide) (fun e1 => ?_) (fun e1 => ?_)
    · have eh : xh1 B T k (oA B T s) = oA B T s := by unfold xh1; rw [if_neg (fun z => e0 (of_decide_eq_true z)), if_pos (decide_eq_true e1)]
      refine k68 w4 tp1 0 Fr.rf x5 (by rw [eh]; exact h1) (fun z => ?_)
      unfold v29; rw [if_pos e1]
    · have eh : xh1 B T k (oA B T s) = oN B T 9999 (oA B T s) := by unfold xh1; rw [if_neg (fun z => e0 (of_decide_eq_true z)), if_neg (fun z => e1 (of_decide_eq_true z))]
      refine N_takeNumber (mo := 9999) (by decide) h1 (fun u tp2 hu h2 eu => ⟨vp_in_nI hl (by decide), fun w5 k5 => ?_⟩)
      rw [← eh] at h2 eu
      refine k68 w5 tp2 u (by rw [k5]; exact Fr.tA 5 _ _ (by decide)) ?_ h2 (fun z => ?_)
      · rw [k5, gA_tA, if_pos rfl, nI_clamp (by omega), x5, bx_uu]
      · rw [eu z]; unfold v29; rw [if_neg e1]
/-- what the conditions of a line leave as it was -/
def InF (ac0 ac : Md) (l S : Nat) : Prop := Fr [(4, 3), (1, 7), (4, 8), (1, 9), (1, 10), (1, 11)] ac0 ac ∧ (∀ j, j ≠ l → gA ac 7 j = gA ac0 7 j) ∧ (∀ j, j < 4 * l ∨ 4 * l + 4 ≤ j → gZ ac 8 j = gZ ac0 8 j ∧ gA ac 9 j = gA ac0 9 j ∧ gA ac 10 j = gA ac0 10 j ∧ gA ac 11 j = gA ac0 11 j) ∧ (∀ j, j ≠ S → gZ ac 3 j = gZ ac0 3 j) ∧ (gZ ac0 3 S = true → gZ ac 3 S = true)
theorem N_cl {ac0 : Md} {B : Nat → Nat} {T l S : Nat} {s0 : PS} (hl : l < 96) (hS : S < 8) (a0 : gF ac0 0 = nI S) {Q : Md → Md → Prop} : ∀ n i ac tp t, n + i = 4 → TN tp B T t → t.1 = 0 → oA B T t = cq B T s0 i → InF ac0 ac l S → gA ac 7 l = nI i → (∀ j, j < i → CoN ac (4 * l + j) S B T (cq B T s0 j)) → (∀ C Z ac' tp', cl B T (n + 1) i (cq B T s0 i) = (C, Z) → TN tp' B T Z → InF ac0 ac' l S → (Z.1 = 0 → gA ac' 7 l = nI C ∧ ∀ j, j < C → CoN ac' (4 * l + j) S B T (cq B T s0 j)) → qX0_readLine_131 Q ac' tp') → qX0_readLine_35 Q (n + 2) ac tp (nI l) 1 (nI i) := by
  intro n
  induction n with
  | zero =>
    intro i ac tp t hi h ht0 et hF h7 hC hE
    obtain rfl : i = 4 := by omega
    have k117 : ∀ tp', TN tp' B T (oD B T 4 (cq B T s0 4)) → qX0_readLine_117 Q (qX0_readLine_35 Q 1) ac tp' (nI l) (nI 4) := by
      intro tp' h'
      have hn : (oD B T 4 (cq B T s0 4)).1 ≠ 0 := oD_4 (by decide)
      have fin : qX0_readLine_131 Q ac tp' := hE 5 _ ac tp' (cl_e (Or.inl hn)) h' hF (fun z => absurd z hn)
      have hd : ∀ r : Int32, qX0_readLine_35 Q 1 ac tp' (nI l) r (nI 4 + Int32.ofInt 1) := by
        intro r
        unfold qX0_readLine_35
        exact c_y (by decide) fin
      unfold qX0_readLine_117
      exact N_isWord (k := 10) (by decide) h' (fun _ _ => hd 1) (fun _ _ => hd 0)
    unfold qX0_readLine_35
    refine c_n (by decide) (c_n (by decide) (c_y' (by rw [h.2.2.2.1, ht0]; rfl) (N_advance h (fun tp1 h1 => ?_))))
    rw [et] at h1
    have k82 : (cq B T s0 4).1 = 0 → (tW B T (cq B T s0 4).2.2 11 || decide (fK B T (cq B T s0 4).2.2 ≠ 0)) = true → qX0_readLine_82 Q (qX0_readLine_35 Q 1) ac tp1 (nI l) (nI 4) := by
      intro z hw
      unfold qX0_readLine_82
      refine c_n (by decide) (N_blame (n := 3) h1 (by decide) (by decide) (fun tp2 h2 => k117 tp2 ?_))
      unfold oD; rw [if_pos hw, if_pos (decide_eq_true (by omega))]; exact h2
    have z0 : (cq B T s0 4).1 = 0 := by rw [← et]; exact oA_1 ht0
    refine N_isWord (k := 11) (by decide) h1 (fun e => b_1 (k82 z0 (by rw [e z0]; rfl))) (fun e => b_0 ?_)
    refine N_factOf h1 (fun e2 => ⟨fun z => absurd rfl z, fun _ => N_blame (n := 1) h1 (by decide) (by decide) (fun tp2 h2 => k117 tp2 ?_)⟩) (fun f f1 f4 e2 => ⟨fun _ => k82 z0 (by rw [e z0, e2 z0]; exact decide_eq_true (by omega)), fun z => absurd z (nI_m1 (by unfold fV; split <;> omega))⟩)
    unfold oD; rw [if_neg (by rw [e z0, e2 z0]; decide)]; exact h2
  | succ n ih =>
    intro i ac tp t hi h ht0 et hF h7 hC hE
    have hi4 : i < 4 := by omega
    have z0 : (cq B T s0 i).1 = 0 := by rw [← et]; exact oA_1 ht0
    have eD : oD B T i (cq B T s0 i) = oC B T (cq B T s0 i) := oD_lt hi4
    have k117 : ∀ ac' tp', TN tp' B T (oD B T i (cq B T s0 i)) → InF ac0 ac' l S → ((oD B T i (cq B T s0 i)).1 = 0 → gA ac' 7 l = nI (i + 1) ∧ ∀ j, j < i + 1 → CoN ac' (4 * l + j) S B T (cq B T s0 j)) → qX0_readLine_117 Q (qX0_readLine_35 Q (n + 2)) ac' tp' (nI l) (nI i) := by
      intro ac' tp' h' hF' hv'
      have fin : ((oD B T i (cq B T s0 i)).1 ≠ 0 ∨ tW B T (oD B T i (cq B T s0 i)).2.2 10 = false) → qX0_readLine_131 Q ac' tp' := fun c => hE (i + 1) _ ac' tp' (cl_e c) h' hF' hv'
      unfold qX0_readLine_117
      rw [ofI1, nI_add]
      refine N_isWord (k := 10) (by decide) h' (fun e _ => ?_) (fun e _ => ?_)
      · by_cases z : (oD B T i (cq B T s0 i)).1 = 0
        · obtain ⟨y7, yC⟩ := hv' z
          refine ih (i + 1) ac' tp' _ (by omega) h' z (by rw [eD]; rfl) hF' y7 yC (fun C Z ac2 tp2 eZ => hE C Z ac2 tp2 ?_)
          rw [cl_n z (e z), eD]; exact eZ
        · unfold qX0_readLine_35
          have b3 := h'.2.2.2.2.2.1
          exact ⟨fun _ => fin (Or.inl z), fun _ => c_n (by decide) (c_n' (fun y => z ((nI_eq (b := 0) (by omega) (by decide)).1 (h'.2.2.2.1.symm.trans y))) (fin (Or.inl z)))⟩
      · unfold qX0_readLine_35
        have f0 : qX0_readLine_131 Q ac' tp' := by
          by_cases z : (oD B T i (cq B T s0 i)).1 = 0
          · exact fin (Or.inr (e z))
          · exact fin (Or.inl z)
        exact ⟨fun _ => f0, fun _ => c_y rfl f0⟩
    unfold qX0_readLine_35
    refine c_n (nI_nlt (a := 4) (by omega) (by decide)) (c_n (by decide) (c_y' (by rw [h.2.2.2.1, ht0]; rfl) (N_advance h (fun tp1 h1 => ?_))))
    rw [et] at h1
    have k82 : qX0_readLine_82 Q (qX0_readLine_35 Q (n + 2)) ac tp1 (nI l) (nI i) := by
      unfold qX0_readLine_82
      rw [nl_4, pk_mul, nI_add, Nat.mul_comm l 4, nI_1]
      refine c_y (nI_lt (by omega) (by decide)) (N_readCond (S := S) (by omega) hS (by rw [hF.1.1 0 (by decide)]; exact a0) h1 (fun ac1 tp2 fr g ht hv => ⟨vp_in_nI hl (by decide), fun w hw => ?_⟩))
      have w7 : gA w 7 = va_up (gA ac1 7) l (nI (i + 1)) := by rw [hw, gA_tA, if_pos rfl, nI_clamp (by omega)]
      obtain ⟨F1, F2, F3, F4, F5⟩ := hF
      refine k117 w tp2 (by rw [eD]; exact ht) ⟨?_, fun j hj => ?_, fun j hj => ?_, fun j hj => ?_, fun z => ?_⟩ (fun z => ⟨by rw [w7, va_up_eq], fun j hj => ?_⟩)
      · rw [hw]; exact (F1.tr (fr.mono (by decide))).tr (Fr.tA 7 _ _ (by decide))
      · rw [w7, va_up_ne' _ _ hj, fr.2.1 7 (by decide)]; exact F2 j hj
      · obtain ⟨a1, a2, a3, a4⟩ := g.1 j (by omega)
        obtain ⟨d1, d2, d3, d4⟩ := F3 j hj
        rw [hw]; exact ⟨a1.trans d1, a2.trans d2, a3.trans d3, a4.trans d4⟩
      · rw [hw]; exact (g.2.1 j hj).trans (F4 j hj)
      · rw [hw]; exact g.2.2 (F5 z)
      · rw [eD] at z
        by_cases ej : j = i
        · rw [ej, hw]; exact hv z
        · obtain ⟨p1, p2, p3, p4, p5⟩ := hC j (by omega)
          obtain ⟨a1, a2, a3, a4⟩ := g.1 (4 * l + j) (by omega)
          rw [hw]; exact ⟨a1.trans p1, a2.trans p2, a3.trans p3, a4.trans p4, fun e => g.2.2 (p5 e)⟩
    refine N_isWord (k := 11) (by decide) h1 (fun e => b_1 k82) (fun e => b_0 ?_)
    refine N_factOf h1 (fun e2 => ⟨fun z => absurd rfl z, fun _ => N_blame (n := 1) h1 (by decide) (by decide) (fun tp2 h2 => ?_)⟩) (fun f f1 f4 e2 => ⟨fun _ => k82, fun z => absurd z (nI_m1 (by unfold fV; split <;> omega))⟩)
    have eo : oD B T i (cq B T s0 i) = oW B T 1 (cq B T s0 i) := by unfold oD; rw [if_neg (by rw [e z0, e2 z0]; decide)]
    exact k117 ac tp2 (by rw [eo]; exact h2) hF (fun z => by rw [eo] at z; exact absurd z (oW_n (by decide)))
/-- the class has a line's numbers -/
def LnN (ac : Md) (l S k : Nat) (B : Nat → Nat) (T : Nat) (s : PS) : Prop := gA ac 4 l = nI k ∧ gA ac 5 l = nI (v29 B T k s) ∧ gA ac 6 l = nI (v30 B T k s) ∧ gA ac 7 l = nI (v31 B T k s) ∧ ∀ j, j < v31 B T k s → CoN ac (4 * l + j) S B T (cq B T (oA B T (xhh B T k s)) j)
def SmL (ac ac' : Md) (l S : Nat) : Prop := (∀ i, i ≠ l → gA ac' 4 i = gA ac 4 i ∧ gA ac' 5 i = gA ac 5 i ∧ gA ac' 6 i = gA ac 6 i ∧ gA ac' 7 i = gA ac 7 i) ∧ (∀ j, j < 4 * l ∨ 4 * l + 4 ≤ j → gZ ac' 8 j = gZ ac 8 j ∧ gA ac' 9 j = gA ac 9 j ∧ gA ac' 10 j = gA ac 10 j ∧ gA ac' 11 j = gA ac 11 j) ∧ (∀ j, j ≠ S → gZ ac' 3 j = gZ ac 3 j) ∧ (gZ ac 3 S = true → gZ ac' 3 S = true)
theorem N_readLine {ac tp : Md} {B : Nat → Nat} {T l S k : Nat} {s : PS} (hl : l < 96) (hS : S < 8) (hk : k < 6) (a0 : gF ac 0 = nI S) (h : TN tp B T s) {Q : Md → Md → Prop} (hQ : ∀ ac' tp', Fr [(4, 3), (1, 4), (1, 5), (1, 6), (1, 7), (4, 8), (1, 9), (1, 10), (1, 11)] ac ac' → SmL ac ac' l S → TN tp' B T (oL B T k s) → ((oL B T k s).1 = 0 → LnN ac' l S k B T s) → Q ac' tp') : qX0_readLine ac tp (nI l) (nI k) Q := by
  unfold qX0_readLine
  refine N_readHead hl hk h (fun ac1 tp1 f1 g1 h1 q4 q7 hv => ?_)
  have fin : ∀ (ac2 tp2 : Md) (C : Nat) (Z : PS), InF ac1 ac2 l S → TN tp2 B T Z → Z = cz B T k (xhh B T k s) → (Z.1 = 0 → C = v31 B T k s ∧ gA ac2 7 l = nI C ∧ ∀ j, j < C → CoN ac2 (4 * l + j) S B T (cq B T (oA B T (xhh B T k s)) j)) → qX0_readLine_131 Q ac2 tp2 := by
    intro ac2 tp2 C Z hF h2 eZ hC
    obtain ⟨F1, F2, F3, F4, F5⟩ := hF
    unfold qX0_readLine_131
    subst eZ
    refine N_takeSign (c := 59) (by decide) h2 (fun tp3 h3 => hQ ac2 tp3 ((f1.mono (by decide)).tr (F1.mono (by decide))) ⟨fun i hi => ?_, fun j hj => ?_, fun j hj => ?_, fun z => ?_⟩ h3 (fun z => ?_))
    · obtain ⟨d1, d2, d3, d4⟩ := g1 i hi
      exact ⟨by rw [F1.2.1 4 (by decide)]; exact d1, by rw [F1.2.1 5 (by decide)]; exact d2, by rw [F1.2.1 6 (by decide)]; exact d3, (F2 i hi).trans d4⟩
    · obtain ⟨d1, d2, d3, d4⟩ := F3 j hj
      rw [d1, d2, d3, d4, f1.2.2.2.2.1 8 (by decide), f1.2.1 9 (by decide), f1.2.1 10 (by decide), f1.2.1 11 (by decide)]
      exact ⟨rfl, rfl, rfl, rfl⟩
    · rw [F4 j hj, f1.2.2.2.2.1 3 (by decide)]
    · exact F5 (by rw [f1.2.2.2.2.1 3 (by decide)]; exact z)
    · have z1 : (cz B T k (xhh B T k s)).1 = 0 := ok_of (f := oS B T 59) oS_f z
      have z2 : (xhh B T k s).1 = 0 := ok_of (f := cz B T k) cz_f z1
      obtain ⟨eC, c7, cC⟩ := hC z1
      obtain ⟨y5, y6⟩ := hv z2
      refine ⟨by rw [F1.2.1 4 (by decide)]; exact q4, by rw [F1.2.1 5 (by decide)]; exact y5, by rw [F1.2.1 6 (by decide)]; exact y6, by rw [c7, eC], fun j hj => cC j (by rw [eC]; exact hj)⟩
  have iF : InF ac1 ac1 l S := ⟨Fr.rf, fun _ _ => rfl, fun _ _ => ⟨rfl, rfl, rfl, rfl⟩, fun _ _ => rfl, fun z => z⟩
  have k29 : ∀ tp2, TN tp2 B T (xhh B T k s) → ((xhh B T k s).1 = 0 → iB B T k (xhh B T k s) = false) → qX0_readLine_29 Q ac1 tp2 (nI l) := by
    intro tp2 h2 e
    unfold qX0_readLine_29
    refine ⟨1, ?_⟩
    unfold qX0_readLine_35
    have ez : cz B T k (xhh B T k s) = xhh B T k s := by unfold cz; rw [pk_f clA_f (fun _ => rfl) e]
    have f0 : qX0_readLine_131 Q ac1 tp2 := fin ac1 tp2 0 (xhh B T k s) iF h2 ez.symm (fun z => ⟨by unfold v31 cn; rw [if_neg (by rw [e z]; decide)], q7, fun j hj => by omega⟩)
    exact ⟨fun _ => f0, fun _ => c_y rfl f0⟩
  have k16 : k ≤ 1 → qX0_readLine_16 Q ac1 tp1 (nI l) := by
    intro k1
    unfold qX0_readLine_16
    refine N_isWord (k := 9) (by decide) h1 (fun e => b_1' ?_) (fun e => b_0' (k29 tp1 h1 (fun z => by unfold iB; rw [e z, Bool.and_false])))
    by_cases z : (xhh B T k s).1 = 0
    · have ei : iB B T k (xhh B T k s) = true := by unfold iB; rw [e z, decide_eq_true k1]; rfl
      refine ⟨4 + 2, N_cl (s0 := oA B T (xhh B T k s)) hl hS (by rw [f1.1 0 (by decide)]; exact a0) 4 0 ac1 tp1 _ (by omega) h1 z rfl iF q7 (fun j hj => by omega) (fun C Z ac2 tp2 eZ h2 hF hC => ?_)⟩
      have eZ' : cl B T 5 0 (oA B T (xhh B T k s)) = (C, Z) := eZ
      refine fin ac2 tp2 C Z hF h2 (by unfold cz; rw [if_pos ei, eZ']) (fun zz => ⟨by unfold v31 cn; rw [if_pos ei, eZ'], hC zz⟩)
    · refine ⟨1, ?_⟩
      have b3 := h1.2.2.2.2.2.1
      have f0 : qX0_readLine_131 Q ac1 tp1 := fin ac1 tp1 0 (xhh B T k s) iF h1 (by rw [cz_f z]) (fun y => absurd y z)
      unfold qX0_readLine_35
      exact c_n (by decide) (c_n (by decide) (c_n' (fun y => z ((nI_eq (b := 0) (by omega) (by decide)).1 (h1.2.2.2.1.symm.trans y))) f0))
  refine c_eq (b := 0) rfl rfl (by omega) (by decide) (fun e0 => k16 (by omega)) (fun e0 => ?_)
  exact c_eq' (b := 1) rfl rfl (by omega) (by decide) (fun e1 => k16 (by omega)) (fun e1 => k29 tp1 h1 (fun _ => by unfold iB; rw [decide_eq_false (by omega)]; rfl))
