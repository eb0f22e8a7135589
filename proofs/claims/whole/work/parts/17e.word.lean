/-- the letters f .. f + n - 1 as bits -/
def stM (B : Nat → Nat) (f : Nat) : Nat → Nat
  | 0 => 0
  | n + 1 => stM B f n ||| 2 ^ (B (f + n) - 97)
theorem stM_lt {B : Nat → Nat} {f : Nat} : ∀ n, (∀ j, j < n → B (f + j) ≤ 122) → stM B f n < 2 ^ 26 := by
  intro n
  induction n with
  | zero => intro _; show 0 < 2 ^ 26; decide
  | succ n ih =>
    intro h
    have h1 := h n (by omega)
    exact Nat.or_lt_two_pow (ih (fun j hj => h j (by omega))) (Nat.pow_lt_pow_right (by decide) (by omega))
theorem shl26 : ∀ k : Fin 26, ((1 : Int32) <<< ((nI (k.val + 97) - 97) &&& 31)) = nI (2 ^ k.val) := by decide +kernel
theorem shlB {b : Nat} (h1 : 97 ≤ b) (h2 : b ≤ 122) : ((1 : Int32) <<< ((nI b - 97) &&& 31)) = nI (2 ^ (b - 97)) := by
  have := shl26 ⟨b - 97, by omega⟩
  rw [show b - 97 + 97 = b by omega] at this
  exact this
theorem p2lt {b : Nat} (h2 : b ≤ 122) : 2 ^ (b - 97) < 2 ^ 31 := Nat.pow_lt_pow_right (by decide) (by omega)
def sK (B : Nat → Nat) (T p : Nat) : Nat := if tS B T p 35 = true then 1 else 2
def sM (B : Nat → Nat) (T p : Nat) : Nat := if tS B T p 35 = true then 0 else stM B (tF B T p) (tE B T p - tF B T p)
theorem N_readWord {tp : Md} {B : Nat → Nat} {T x : Nat} {s : PS} {f2 : Nat → Int8} (hx : x + 3 ≤ 576) (h : TN tp B T s) {Q : Int32 → Md → (Nat → Int8) → Prop} (hQ : ∀ l tp' f', l ≤ 3 → TN tp' B T (oR B T s) → (∀ i, i < x ∨ x + 3 ≤ i → f' i = f2 i) → ((oR B T s).1 = 0 → l = tE B T s.2.2 - tF B T s.2.2 ∧ ∀ j, j < l → byn (f' (x + j)) = B (tF B T s.2.2 + j)) → Q (nI l) tp' f') : qX7_readWord 576 tp f2 (nI x) Q := by
  unfold qX7_readWord
  refine N_isWordOf (c := 3) (by decide) h (fun e hp => b_1 ?_) (fun e => b_0 (N_blame (n := 1) h (by decide) (by decide) (fun tp' h' => ?_)))
  · obtain ⟨p, hp, he, ⟨y4, y5, y6, y7⟩, ho⟩ := hp
    obtain ⟨k1, l3⟩ := tO_1 ho
    obtain ⟨e1, e2, e3, e4⟩ := tE_w hp (Or.inl k1)
    obtain ⟨hT, t1, tb, -⟩ := id h
    have eo : oR B T s = oA B T s := by unfold oR; rw [pk_t oA_f oW_f e]
    rw [y4, y5, pk_sub (Nat.le_of_lt e1), nI_clamp (by omega), nI_clamp (by omega), nI_clamp (by omega)]
    refine ⟨of_eq_true (cpyT (by omega) (by omega) (by decide) (by decide)), N_advance h (fun tp' h' => hQ _ tp' _ l3 (by rw [eo]; exact h') (fun i hi => pk_cpy_out (by omega)) (fun z => ?_))⟩
    rw [← he (ok_of (f := oR B T) oR_f z)]
    refine ⟨rfl, fun j hj => ?_⟩
    rw [pk_cpy_in (by omega) (by omega), show x + j - x = j by omega]
    exact tb _ (by omega)
  · have eo : oR B T s = oW B T 1 s := by unfold oR; rw [pk_f oA_f oW_f e]
    exact hQ 0 tp' f2 (by omega) (by rw [eo]; exact h') (fun _ _ => rfl) (fun z => by rw [eo] at z; exact absurd z (oW_n (by decide)))
theorem N_readSet {tp : Md} {B : Nat → Nat} {T : Nat} {s : PS} (h : TN tp B T s) {Q : Int32 → Md → Prop} (hQ : ∀ r tp', TN tp' B T (oT B T s) → ((oT B T s).1 = 0 → r = nI (msk (sK B T s.2.2) (sM B T s.2.2))) → Q r tp') : qX7_readSet tp Q := by
  have k88 : (s.1 = 0 → tS B T s.2.2 35 = false) → (s.1 = 0 → oG B T s.2.2 = false) → qX7_readSet_88 Q tp 0 := by
    intro e1 e2
    have eo : oT B T s = oW B T 1 s := by unfold oT; rw [pk_f oA_f (pk_s oA_f oW_f) e1, pk_f oA_f oW_f e2]
    unfold qX7_readSet_88
    exact N_blame (n := 1) h (by decide) (by decide) (fun tp' h' => hQ 0 tp' (by rw [eo]; exact h') (fun z => by rw [eo] at z; exact absurd z (oW_n (by decide))))
  unfold qX7_readSet
  refine N_isSign (c := 35) (by decide) h (fun e => b_1' (N_advance h (fun tp' h' => ?_))) (fun e => b_0' ?_)
  · have eo : oT B T s = oA B T s := by unfold oT; rw [pk_t oA_f (pk_s oA_f oW_f) e]
    refine hQ _ tp' (by rw [eo]; exact h') (fun z => ?_)
    have z0 := ok_of (f := oT B T) oT_f z
    unfold sK sM
    rw [if_pos (e z0), if_pos (e z0)]; rfl
  · refine N_isWordOf (c := 26) (by decide) h (fun e1 hp => b_1' ?_) (fun e1 => b_0' (k88 e (fun z => by unfold oG; rw [e1 z]; rfl)))
    refine N_isWord (k := 0) (by decide) h (fun e2 => b_1 (k88 e (fun z => by unfold oG; rw [e2 z, Bool.not_true, Bool.false_and, Bool.and_false]))) (fun e2 => b_0 ?_)
    refine N_isWord (k := 1) (by decide) h (fun e3 => b_1 (k88 e (fun z => by unfold oG; rw [e3 z, Bool.not_true, Bool.and_false, Bool.and_false]))) (fun e3 => b_0 ?_)
    have eo : oT B T s = oA B T s := by
      unfold oT; rw [pk_f oA_f (pk_s oA_f oW_f) e, pk_t oA_f oW_f (fun z => by unfold oG; rw [e1 z, e2 z, e3 z]; rfl)]
    obtain ⟨p, hp, he, ⟨y4, y5, y6, y7⟩, ho⟩ := hp
    obtain ⟨k1, l26⟩ := tO_1 ho
    obtain ⟨w1, w2, w3, w4⟩ := tE_w hp (Or.inl k1)
    obtain ⟨hT, t1, tb, -⟩ := id h
    have hlet : ∀ j, tF B T p ≤ j → j < tE B T p → 97 ≤ B j ∧ B j ≤ 122 := fun j h1 h2 => kd_1.1 ((w3 j h1 h2).trans k1)
    rw [y4]
    refine pk_loop (fun n i (_ : Unit) => qX7_readSet_53 Q n tp (nI (stM B (tF B T p) (i - tF B T p))) (nI i)) (fun i _ => tF B T p ≤ i) (tE B T p) (tF B T p) () (Nat.le_of_lt w1) (Nat.le_refl _) (fun n _ hI => ?_) (fun n i _ hi hI ih => ?_) |> (fun z => by rw [Nat.sub_self] at z; exact z)
    · unfold qX7_readSet_53
      refine c_y (by rw [y5]; exact nI_le (Nat.le_refl _) (by omega)) (N_advance h (fun tp' h' => hQ _ tp' (by rw [eo]; exact h') (fun z => ?_)))
      have z0 := ok_of (f := oT B T) oT_f z
      have hs : tS B T s.2.2 35 = false := e z0
      unfold sK sM
      rw [if_neg (by rw [hs]; decide), if_neg (by rw [hs]; decide), ← he z0]; rfl
    · have hb := hlet i hI hi
      have hM : stM B (tF B T p) (i - tF B T p) < 2 ^ 26 := stM_lt _ (fun j hj => (hlet _ (by omega) (by omega)).2)
      unfold qX7_readSet_53
      refine c_n (by rw [y5]; exact nI_ge hi (by omega)) ⟨vp_in_nI (by omega) (by decide), ?_⟩
      rw [nI_clamp (by omega), b_nI (tb i (by omega)) (by omega), shlB hb.1 hb.2, nI_or (by omega) (p2lt hb.2), ofI1, nI_add]
      have := ih () (by omega)
      rw [show i + 1 - tF B T p = (i - tF B T p) + 1 by omega] at this
      have e' : stM B (tF B T p) (i - tF B T p + 1) = stM B (tF B T p) (i - tF B T p) ||| 2 ^ (B i - 97) := by
        show _ ||| 2 ^ (B (tF B T p + (i - tF B T p)) - 97) = _
        rw [show tF B T p + (i - tF B T p) = i by omega]
      rw [e'] at this
      exact this
theorem M_ruleWord {m : Md} {B : Nat → Nat} {T a x : Nat} {s : PS} (hx : x + 4 ≤ 290) (h : TM m B T a s) {Q : Md → Prop} (hQ : ∀ m', Fr LT m m' → TM m' B T a (oR B T s) → (∀ i, i < x ∨ x + 4 ≤ i → gA m' 18 i = gA m 18 i) → ((oR B T s).1 = 0 → gA m' 18 x = nI (tE B T s.2.2 - tF B T s.2.2) ∧ ∀ j, j < tE B T s.2.2 - tF B T s.2.2 → gA m' 18 (x + 1 + j) = nI (B (tF B T s.2.2 + j))) → Q m') : qX12_ruleWord m (nI x) Q := by
  unfold qX12_ruleWord
  refine M_isRuleWord h (fun e0 e => b_1 ?_) (fun e => b_0 (M_wrong (n := 1) h (by decide) (by decide) (fun m1 f1 h1 => ?_)))
  · have eo : oR B T s = oA B T s := by unfold oR; rw [if_pos e]
    obtain ⟨k1, l3⟩ := tO_1 e
    obtain ⟨hT, m10, mb, m15, m16, b1, m17, ha, ht⟩ := id h
    obtain ⟨hp, k12, k11, -⟩ := ht e0
    obtain ⟨w1, w2, w3, w4⟩ := tE_w hp (Or.inl k1)
    have m11 := k11 (by omega)
    have hlet : ∀ j, tF B T s.2.2 ≤ j → j < tE B T s.2.2 → 97 ≤ B j ∧ B j ≤ 122 := fun j h1 h2 => kd_1.1 ((w3 j h1 h2).trans k1)
    unfold qX12_ruleWord_12
    refine M_good h (fun _ => b_1 ⟨vp_in_nI (by omega) (by decide), fun w hw => ?_⟩) (fun z => absurd e0 z)
    rw [m11, k12, pk_sub (Nat.le_of_lt w1)] at hw
    have ew : gF w 12 = nI (tF B T s.2.2) := by rw [hw]; exact k12
    rw [ew]
    refine pk_loop (fun n i u => qX12_ruleWord_40 Q n u (nI x) (nI i)) (fun i u => tF B T s.2.2 ≤ i ∧ Fr [(1, 18)] m u ∧ gA u 18 x = nI (tE B T s.2.2 - tF B T s.2.2) ∧ (∀ j, j < i - tF B T s.2.2 → gA u 18 (x + 1 + j) = nI (B (tF B T s.2.2 + j))) ∧ ∀ j, j < x ∨ x + 4 ≤ j → gA u 18 j = gA m 18 j) (tE B T s.2.2) (tF B T s.2.2) w (Nat.le_of_lt w1) ⟨Nat.le_refl _, by rw [hw]; exact Fr.tA 18 _ _ (by decide), ?_, fun j hj => by omega, fun j hj => ?_⟩ (fun n u hI => ?_) (fun n i u hi hI ih => ?_)
    · rw [hw, gA_tA, if_pos rfl, nI_clamp (by omega), va_up_eq]
    · rw [hw, gA_tA, if_pos rfl, nI_clamp (by omega), va_up_ne' _ _ (by omega)]
    · obtain ⟨-, fu, u1, u2, u3⟩ := hI
      unfold qX12_ruleWord_40
      refine c_y (by rw [fu.1 11 (by decide), m11]; exact nI_le (Nat.le_refl _) (by omega)) (M_next (TM.fr h fu) e0 (by omega) (fun m' f' h' => hQ m' ((fu.mono (by decide)).tr (f'.mono (by decide))) (by rw [eo]; exact h') ?_ (fun _ => ?_)))
      · rw [f'.2.1 18 (by decide)]; exact u3
      · rw [f'.2.1 18 (by decide)]; exact ⟨u1, u2⟩
    · obtain ⟨hle, fu, u1, u2, u3⟩ := hI
      have hb := hlet i hle hi
      unfold qX12_ruleWord_40
      rw [fu.1 11 (by decide), m11, fu.1 12 (by decide), k12]
      refine c_n (nI_ge hi (by omega)) ⟨vp_in_nI (by omega) (by decide), ?_⟩
      rw [nl_1, nI_add, nI_add, pk_sub (by omega), nI_clamp (by omega), fu.2.2.2.1 4 (by decide), b_nI (mb i (by omega)) (by omega), ofI1, nI_add]
      refine ⟨vp_in_nI (by omega) (by decide), fun w2 hw2 => ih w2 ⟨by omega, by rw [hw2]; exact Fr.tr fu (Fr.tA 18 _ _ (by decide)), ?_, fun j hj => ?_, fun j hj => ?_⟩⟩
      · rw [hw2, gA_tA, if_pos rfl, nI_clamp (by omega), va_up_ne' _ _ (by omega)]; exact u1
      · rw [hw2, gA_tA, if_pos rfl, nI_clamp (by omega)]
        by_cases ej : j = i - tF B T s.2.2
        · rw [ej, show x + 1 + (i - tF B T s.2.2) = x + 1 + i - tF B T s.2.2 by omega, va_up_eq, show tF B T s.2.2 + (i - tF B T s.2.2) = i by omega]
        · rw [va_up_ne' _ _ (by omega)]; exact u2 j (by omega)
      · rw [hw2, gA_tA, if_pos rfl, nI_clamp (by omega), va_up_ne' _ _ (by omega)]; exact u3 j hj
  · have eo : oR B T s = oW B T 1 s := by unfold oR; rw [pk_f oA_f oW_f e]
    unfold qX12_ruleWord_12
    refine M_good h1 (fun z => absurd z (oW_n (by decide))) (fun _ => b_0 (hQ m1 (f1.mono (by decide)) (by rw [eo]; exact h1) (fun i _ => by rw [f1.2.1 18 (by decide)]) (fun z => by rw [eo] at z; exact absurd z (oW_n (by decide)))))
theorem M_set {m : Md} {B : Nat → Nat} {T a x : Nat} {s : PS} (hx : x + 2 ≤ 290) (hz : gA m 18 (x + 1) = nI 0) (h : TM m B T a s) {Q : Md → Prop} (hQ : ∀ m', Fr LT m m' → TM m' B T a (oT B T s) → (∀ i, i < x ∨ x + 2 ≤ i → gA m' 18 i = gA m 18 i) → ((oT B T s).1 = 0 → gA m' 18 x = nI (sK B T s.2.2) ∧ gA m' 18 (x + 1) = nI (sM B T s.2.2)) → Q m') : qX12_set m (nI x) Q := by
  have k61 : (s.1 = 0 → tS B T s.2.2 35 = false) → (s.1 = 0 → oG B T s.2.2 = false) → qX12_set_61 Q m (nI x) := by
    intro e1 e2
    have eo : oT B T s = oW B T 1 s := by unfold oT; rw [pk_f oA_f (pk_s oA_f oW_f) e1, pk_f oA_f oW_f e2]
    unfold qX12_set_61
    refine M_wrong (n := 1) h (by decide) (by decide) (fun m1 f1 h1 => ?_)
    unfold qX12_set_66
    exact M_good h1 (fun z => absurd z (oW_n (by decide))) (fun _ => b_0 (hQ m1 (f1.mono (by decide)) (by rw [eo]; exact h1) (fun i _ => by rw [f1.2.1 18 (by decide)]) (fun z => by rw [eo] at z; exact absurd z (oW_n (by decide)))))
  unfold qX12_set
  refine M_isSign (c := 35) (by decide) (by unfold sgB; rfl) h (fun e0 e => b_1' ⟨vp_in_nI (by omega) (by decide), fun w hw => ?_⟩) (fun e => b_0' ?_)
  · have eo : oT B T s = oA B T s := by unfold oT; rw [if_pos e]
    have fw : Fr [(1, 18)] m w := by rw [hw]; exact Fr.tA 18 _ _ (by decide)
    refine M_next (TM.fr h fw) e0 (by have := (tS_1 e).1; omega) (fun m' f' h' => hQ m' ((fw.mono (by decide)).tr (f'.mono (by decide))) (by rw [eo]; exact h') (fun i hi => ?_) (fun _ => ⟨?_, ?_⟩))
    · rw [f'.2.1 18 (by decide), hw, gA_tA, if_pos rfl, nI_clamp (by omega), va_up_ne' _ _ (by omega)]
    · rw [f'.2.1 18 (by decide), hw, gA_tA, if_pos rfl, nI_clamp (by omega), va_up_eq]; unfold sK; rw [if_pos e]; rfl
    · rw [f'.2.1 18 (by decide), hw, gA_tA, if_pos rfl, nI_clamp (by omega), va_up_ne' _ _ (by omega), hz]; unfold sM; rw [if_pos e]
  · have k66 : (s.1 = 0 → oG B T s.2.2 = true) → qX12_set_66 Q m (nI x) := by
      intro e2
      unfold qX12_set_66
      refine M_good h (fun e0 => b_1 ⟨vp_in_nI (by omega) (by decide), fun w hw => ?_⟩) (fun n0 => b_0 (hQ m Fr.rf (by rw [oT_f n0]; exact h) (fun _ _ => rfl) (fun z => absurd (ok_of (f := oT B T) oT_f z) n0)))
      have eo : oT B T s = oA B T s := by unfold oT; rw [if_neg (by rw [e e0]; decide), if_pos (e2 e0)]
      have ho : tO B T s.2.2 26 = true := by
        have := e2 e0; unfold oG at this; rw [Bool.and_eq_true] at this; exact this.1
      obtain ⟨k1, l26⟩ := tO_1 ho
      obtain ⟨hT, m10, mb, m15, m16, b1, m17, ha, ht⟩ := id h
      obtain ⟨hp, k12, k11, -⟩ := ht e0
      obtain ⟨w1, w2, w3, w4⟩ := tE_w hp (Or.inl k1)
      have m11 := k11 (by omega)
      have hlet : ∀ j, tF B T s.2.2 ≤ j → j < tE B T s.2.2 → 97 ≤ B j ∧ B j ≤ 122 := fun j h1 h2 => kd_1.1 ((w3 j h1 h2).trans k1)
      have ew : gF w 12 = nI (tF B T s.2.2) := by rw [hw]; exact k12
      rw [ew]
      refine pk_loop (fun n i u => qX12_set_86 Q n u (nI x) (nI i)) (fun i u => tF B T s.2.2 ≤ i ∧ Fr [(1, 18)] m u ∧ gA u 18 x = nI 2 ∧ gA u 18 (x + 1) = nI (stM B (tF B T s.2.2) (i - tF B T s.2.2)) ∧ ∀ j, j < x ∨ x + 2 ≤ j → gA u 18 j = gA m 18 j) (tE B T s.2.2) (tF B T s.2.2) w (Nat.le_of_lt w1) ⟨Nat.le_refl _, by rw [hw]; exact Fr.tA 18 _ _ (by decide), ?_, ?_, fun j hj => ?_⟩ (fun n u hI => ?_) (fun n i u hi hI ih => ?_)
      · rw [hw, gA_tA, if_pos rfl, nI_clamp (by omega), va_up_eq]; rfl
      · rw [hw, gA_tA, if_pos rfl, nI_clamp (by omega), va_up_ne' _ _ (by omega), hz, Nat.sub_self]; rfl
      · rw [hw, gA_tA, if_pos rfl, nI_clamp (by omega), va_up_ne' _ _ (by omega)]
      · obtain ⟨-, fu, u1, u2, u3⟩ := hI
        unfold qX12_set_86
        refine c_y (by rw [fu.1 11 (by decide), m11]; exact nI_le (Nat.le_refl _) (by omega)) (M_next (TM.fr h fu) e0 (by omega) (fun m' f' h' => hQ m' ((fu.mono (by decide)).tr (f'.mono (by decide))) (by rw [eo]; exact h') ?_ (fun _ => ?_)))
        · rw [f'.2.1 18 (by decide)]; exact u3
        · rw [f'.2.1 18 (by decide)]
          unfold sK sM
          rw [if_neg (by rw [e e0]; decide), if_neg (by rw [e e0]; decide)]
          exact ⟨u1, u2⟩
      · obtain ⟨hle, fu, u1, u2, u3⟩ := hI
        have hb := hlet i hle hi
        have hM : stM B (tF B T s.2.2) (i - tF B T s.2.2) < 2 ^ 26 := stM_lt _ (fun j hj => (hlet _ (by omega) (by omega)).2)
        unfold qX12_set_86
        rw [fu.1 11 (by decide), m11]
        refine c_n (nI_ge hi (by omega)) ?_
        rw [nl_1, nI_add, nI_clamp (by omega), nI_clamp (by omega), fu.2.2.2.1 4 (by decide), b_nI (mb i (by omega)) (by omega), u2, ← nl_1, shlB hb.1 hb.2, nI_or (by omega) (p2lt hb.2), ofI1, nI_add]
        refine ⟨vp_in_nI (by omega) (by decide), vp_in_nI (by omega) (by decide), vp_in_nI (by omega) (by decide), fun w2 hw2 => ih w2 ⟨by omega, by rw [hw2]; exact Fr.tr fu (Fr.tA 18 _ _ (by decide)), ?_, ?_, fun j hj => ?_⟩⟩
        · rw [hw2, gA_tA, if_pos rfl, nI_clamp (by omega), va_up_ne' _ _ (by omega)]; exact u1
        · rw [hw2, gA_tA, if_pos rfl, nI_clamp (by omega), va_up_eq, show i + 1 - tF B T s.2.2 = (i - tF B T s.2.2) + 1 by omega]
          show _ = nI (_ ||| 2 ^ (B (tF B T s.2.2 + (i - tF B T s.2.2)) - 97))
          rw [show tF B T s.2.2 + (i - tF B T s.2.2) = i by omega]
        · rw [hw2, gA_tA, if_pos rfl, nI_clamp (by omega), va_up_ne' _ _ (by omega)]; exact u3 j hj
    by_cases e0 : s.1 = 0
    · obtain ⟨hT, m10, mb, m15, m16, b1, m17, ha, ht⟩ := id h
      obtain ⟨hp, k12, k11, q0, q1, q2, q3, q4⟩ := ht e0
      have k3 := tK_le B T s.2.2
      have hE := tE_b (B := B) hp
      by_cases c1 : tK B T s.2.2 = 1
      · refine c_y' (by rw [q1 c1]; rfl) ?_
        rw [k11 (by omega), k12, pk_sub hE.1]
        refine c_lt (a := 26) rfl rfl (by omega) (by omega) (fun n2 => k61 e (fun _ => ?_)) (fun e2 => ?_)
        · unfold oG tO; rw [decide_eq_false (show ¬ tE B T s.2.2 - tF B T s.2.2 ≤ 26 by omega), Bool.and_false, Bool.false_and]
        · have ho : tO B T s.2.2 26 = true := by unfold tO; rw [decide_eq_true c1, decide_eq_true (by omega)]; rfl
          refine M_is (k := 0) (by decide) h (fun _ a1 => b_1 (k61 e (fun _ => by unfold oG; rw [a1, Bool.not_true, Bool.false_and, Bool.and_false]))) (fun a1 => b_0 ?_)
          refine M_is (k := 1) (by decide) h (fun _ a2 => b_1' (k61 e (fun _ => by unfold oG; rw [a2, Bool.not_true, Bool.and_false, Bool.and_false]))) (fun a2 => b_0' (k66 (fun _ => ?_)))
          unfold oG; rw [ho, a1 e0, a2 e0]; rfl
      · refine c_n' ?_ (k61 e (fun _ => by unfold oG tO; rw [decide_eq_false c1]; rfl))
        rcases (show tK B T s.2.2 = 0 ∨ tK B T s.2.2 = 2 ∨ tK B T s.2.2 = 3 by omega) with e | e | e
        · rw [q0 e]; decide
        · rcases (show a = 0 ∨ a = 1 by omega) with ea | ea
          · rw [q2 e ea]; decide
          · rw [(q3 e ea).1]; decide
        · rw [(q4 e).2]; split <;> decide
    · have z61 := k61 (fun z => absurd z e0) (fun z => absurd z e0)
      refine ⟨fun _ => z61, fun _ => ⟨fun _ => z61, fun _ => ?_⟩⟩
      refine M_is (k := 0) (by decide) h (fun z _ => absurd z e0) (fun _ => b_0 ?_)
      exact M_is (k := 1) (by decide) h (fun z _ => absurd z e0) (fun _ => b_0' (k66 (fun z => absurd z e0)))
