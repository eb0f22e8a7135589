def u1 (B : Nat → Nat) (T : Nat) (s : PS) : PS := if tW B T s.2.2 0 = true then oT B T (oA B T s) else s
def u4 (B : Nat → Nat) (T : Nat) (s : PS) : PS := if tS B T s.2.2 45 = true then oA B T s else oR B T s
def u5 (B : Nat → Nat) (T : Nat) (s : PS) : PS := if tW B T s.2.2 1 = true then oT B T (oA B T s) else s
def u3 (B : Nat → Nat) (T : Nat) (s : PS) : PS := oS B T 62 (oR B T s)
def u6 (B : Nat → Nat) (T : Nat) (s : PS) : PS := oS B T 59 (u5 B T s)
def u7 (B : Nat → Nat) (T : Nat) (s : PS) : PS := u6 B T (u4 B T (u3 B T s))
def oU (B : Nat → Nat) (T : Nat) (s : PS) : PS := u7 B T (u1 B T s)
theorem oTA_f {B : Nat → Nat} {T : Nat} {s : PS} (h : s.1 ≠ 0) : oT B T (oA B T s) = s := by rw [oA_f h, oT_f h]
theorem u1_f {B : Nat → Nat} {T : Nat} {s : PS} (h : s.1 ≠ 0) : u1 B T s = s := pk_s oTA_f (fun _ => rfl) h
theorem u4_f {B : Nat → Nat} {T : Nat} {s : PS} (h : s.1 ≠ 0) : u4 B T s = s := pk_s oA_f oR_f h
theorem u5_f {B : Nat → Nat} {T : Nat} {s : PS} (h : s.1 ≠ 0) : u5 B T s = s := pk_s oTA_f (fun _ => rfl) h
theorem u3_f {B : Nat → Nat} {T : Nat} {s : PS} (h : s.1 ≠ 0) : u3 B T s = s := by unfold u3; rw [oR_f h, oS_f h]
theorem u6_f {B : Nat → Nat} {T : Nat} {s : PS} (h : s.1 ≠ 0) : u6 B T s = s := by unfold u6; rw [u5_f h, oS_f h]
theorem u7_f {B : Nat → Nat} {T : Nat} {s : PS} (h : s.1 ≠ 0) : u7 B T s = s := by unfold u7; rw [u3_f h, u4_f h, u6_f h]
theorem oU_f {B : Nat → Nat} {T : Nat} {s : PS} (h : s.1 ≠ 0) : oU B T s = s := by unfold oU; rw [u1_f h, u7_f h]
theorem oA_p {B : Nat → Nat} {T : Nat} {s : PS} (h : s.1 = 0) : (oA B T s).2.2 = tE B T s.2.2 := by unfold oA; rw [if_pos h]
theorem oA_1 {B : Nat → Nat} {T : Nat} {s : PS} (h : s.1 = 0) : (oA B T s).1 = 0 := by unfold oA; rw [if_pos h]
/-! places stay within the text -/
theorem oA_l {B : Nat → Nat} {T : Nat} {s : PS} (h : s.2.2 ≤ T) : (oA B T s).2.2 ≤ T := by
  unfold oA; split
  · exact (tE_b h).2
  · exact h
theorem oW_l {B : Nat → Nat} {T n : Nat} {s : PS} (h : s.2.2 ≤ T) : (oW B T n s).2.2 ≤ T := by
  unfold oW; split
  · exact h
  · exact h
theorem oS_l {B : Nat → Nat} {T n : Nat} {s : PS} (h : s.2.2 ≤ T) : (oS B T n s).2.2 ≤ T := by
  unfold oS; split
  · exact oA_l h
  · exact oW_l h
theorem oR_l {B : Nat → Nat} {T : Nat} {s : PS} (h : s.2.2 ≤ T) : (oR B T s).2.2 ≤ T := by
  unfold oR; split
  · exact oA_l h
  · exact oW_l h
theorem oT_l {B : Nat → Nat} {T : Nat} {s : PS} (h : s.2.2 ≤ T) : (oT B T s).2.2 ≤ T := by
  unfold oT; split
  · exact oA_l h
  · split
    · exact oA_l h
    · exact oW_l h
theorem u1_l {B : Nat → Nat} {T : Nat} {s : PS} (h : s.2.2 ≤ T) : (u1 B T s).2.2 ≤ T := by
  unfold u1; split
  · exact oT_l (oA_l h)
  · exact h
theorem u5_l {B : Nat → Nat} {T : Nat} {s : PS} (h : s.2.2 ≤ T) : (u5 B T s).2.2 ≤ T := by
  unfold u5; split
  · exact oT_l (oA_l h)
  · exact h
theorem u4_l {B : Nat → Nat} {T : Nat} {s : PS} (h : s.2.2 ≤ T) : (u4 B T s).2.2 ≤ T := by
  unfold u4; split
  · exact oA_l h
  · exact oR_l h
theorem u3_l {B : Nat → Nat} {T : Nat} {s : PS} (h : s.2.2 ≤ T) : (u3 B T s).2.2 ≤ T := oS_l (oR_l h)
theorem oU_l {B : Nat → Nat} {T : Nat} {s : PS} (h : s.2.2 ≤ T) : (oU B T s).2.2 ≤ T := oS_l (u5_l (u4_l (u3_l (u1_l h))))
/-! what a rule tells -/
def c18 (B : Nat → Nat) (T : Nat) (s : PS) : Nat := if tW B T s.2.2 0 = true then sK B T (tE B T s.2.2) else 0
def c19 (B : Nat → Nat) (T : Nat) (s : PS) : Nat := if tW B T s.2.2 0 = true then sM B T (tE B T s.2.2) else 0
def c20 (B : Nat → Nat) (T : Nat) (s : PS) : Nat := tE B T s.2.2 - tF B T s.2.2
def c21 (B : Nat → Nat) (T : Nat) (s : PS) (j : Nat) : Nat := B (tF B T s.2.2 + j)
def c22 (B : Nat → Nat) (T : Nat) (s : PS) : Nat := if tS B T s.2.2 45 = true then 0 else tE B T s.2.2 - tF B T s.2.2
def c24 (B : Nat → Nat) (T : Nat) (s : PS) : Nat := if tW B T s.2.2 1 = true then sK B T (tE B T s.2.2) else 0
def c25 (B : Nat → Nat) (T : Nat) (s : PS) : Nat := if tW B T s.2.2 1 = true then sM B T (tE B T s.2.2) else 0
theorem oR_ok {B : Nat → Nat} {T : Nat} {s : PS} (h : (oR B T s).1 = 0) (hp : s.2.2 ≤ T) : s.1 = 0 ∧ 1 ≤ tE B T s.2.2 - tF B T s.2.2 ∧ tE B T s.2.2 - tF B T s.2.2 ≤ 3 ∧ ∀ j, j < tE B T s.2.2 - tF B T s.2.2 → 97 ≤ B (tF B T s.2.2 + j) ∧ B (tF B T s.2.2 + j) ≤ 122 := by
  have h0 := ok_of (f := oR B T) oR_f h
  unfold oR at h
  by_cases c : tO B T s.2.2 3 = true
  · obtain ⟨k1, l3⟩ := tO_1 c
    obtain ⟨e1, e2, e3, e4⟩ := tE_w hp (Or.inl k1)
    exact ⟨h0, by omega, l3, fun j hj => kd_1.1 ((e3 _ (by omega) (by omega)).trans k1)⟩
  · rw [if_neg c] at h; exact absurd h (oW_n (by decide))
theorem sKM {B : Nat → Nat} {T : Nat} {s : PS} (h : (oT B T s).1 = 0) (hp : s.2.2 ≤ T) : sK B T s.2.2 ≤ 2 ∧ sM B T s.2.2 < 2 ^ 26 := by
  unfold oT at h
  unfold sK sM
  by_cases c : tS B T s.2.2 35 = true
  · rw [if_pos c, if_pos c]; exact ⟨by omega, by decide⟩
  · rw [if_neg c] at h
    rw [if_neg c, if_neg c]
    refine ⟨by omega, ?_⟩
    by_cases g : oG B T s.2.2 = true
    · have ho : tO B T s.2.2 26 = true := by
        unfold oG at g; rw [Bool.and_eq_true] at g; exact g.1
      obtain ⟨k1, l26⟩ := tO_1 ho
      obtain ⟨e1, e2, e3, e4⟩ := tE_w hp (Or.inl k1)
      exact stM_lt _ (fun j hj => (kd_1.1 ((e3 _ (by omega) (by omega)).trans k1)).2)
    · rw [if_neg g] at h; exact absurd h (oW_n (by decide))
theorem oU_ok {B : Nat → Nat} {T : Nat} {s : PS} (h : (oU B T s).1 = 0) : (u4 B T (u3 B T (u1 B T s))).1 = 0 ∧ (u5 B T (u4 B T (u3 B T (u1 B T s)))).1 = 0 ∧ (u3 B T (u1 B T s)).1 = 0 ∧ (oR B T (u1 B T s)).1 = 0 ∧ (u1 B T s).1 = 0 ∧ s.1 = 0 := by
  have a1 := ok_of (f := oS B T 59) oS_f h
  have a2 := ok_of (f := u5 B T) u5_f a1
  have a3 := ok_of (f := u4 B T) u4_f a2
  have a4 := ok_of (f := oS B T 62) oS_f a3
  have a5 := ok_of (f := oR B T) oR_f a4
  exact ⟨a2, a1, a3, a4, a5, ok_of (f := u1 B T) u1_f a5⟩
/-- what holds of a rule's numbers -/
theorem ru_b {B : Nat → Nat} {T : Nat} {s : PS} (h : (oU B T s).1 = 0) (hp : s.2.2 ≤ T) : c18 B T s ≤ 2 ∧ c19 B T s < 2 ^ 26 ∧ 1 ≤ c20 B T (u1 B T s) ∧ c20 B T (u1 B T s) ≤ 3 ∧ (∀ j, j < c20 B T (u1 B T s) → 97 ≤ c21 B T (u1 B T s) j ∧ c21 B T (u1 B T s) j ≤ 122) ∧ c22 B T (u3 B T (u1 B T s)) ≤ 3 ∧ (∀ j, j < c22 B T (u3 B T (u1 B T s)) → 97 ≤ c21 B T (u3 B T (u1 B T s)) j ∧ c21 B T (u3 B T (u1 B T s)) j ≤ 122) ∧ c24 B T (u4 B T (u3 B T (u1 B T s))) ≤ 2 ∧ c25 B T (u4 B T (u3 B T (u1 B T s))) < 2 ^ 26 := by
  obtain ⟨a4, a5, a3, aR, a1, a0⟩ := oU_ok h
  have l1 := u1_l (B := B) hp
  have l3 := u3_l (B := B) l1
  have l4 := u4_l (B := B) l3
  obtain ⟨-, r1, r2, r3⟩ := oR_ok aR l1
  have k1 : c18 B T s ≤ 2 ∧ c19 B T s < 2 ^ 26 := by
    unfold c18 c19
    by_cases c : tW B T s.2.2 0 = true
    · rw [if_pos c, if_pos c]
      unfold u1 at a1
      rw [if_pos c] at a1
      have := sKM a1 (oA_l hp)
      rw [oA_p a0] at this; exact this
    · rw [if_neg c, if_neg c]; exact ⟨by omega, by decide⟩
  have k4 : c24 B T (u4 B T (u3 B T (u1 B T s))) ≤ 2 ∧ c25 B T (u4 B T (u3 B T (u1 B T s))) < 2 ^ 26 := by
    generalize u4 B T (u3 B T (u1 B T s)) = t at a4 a5 l4
    unfold c24 c25
    by_cases c : tW B T t.2.2 1 = true
    · rw [if_pos c, if_pos c]
      unfold u5 at a5
      rw [if_pos c] at a5
      have := sKM a5 (oA_l l4)
      rw [oA_p a4] at this; exact this
    · rw [if_neg c, if_neg c]; exact ⟨by omega, by decide⟩
  have k3 : c22 B T (u3 B T (u1 B T s)) ≤ 3 ∧ (∀ j, j < c22 B T (u3 B T (u1 B T s)) → 97 ≤ c21 B T (u3 B T (u1 B T s)) j ∧ c21 B T (u3 B T (u1 B T s)) j ≤ 122) := by
    generalize u3 B T (u1 B T s) = t at a4 l3
    unfold c22
    by_cases c : tS B T t.2.2 45 = true
    · rw [if_pos c]; exact ⟨by omega, fun j hj => by omega⟩
    · rw [if_neg c]
      unfold u4 at a4
      rw [if_neg c] at a4
      obtain ⟨-, q1, q2, q3⟩ := oR_ok a4 l3
      exact ⟨q2, q3⟩
  exact ⟨k1.1, k1.2, r1, r2, r3, k3.1, k3.2, k4.1, k4.2⟩
/-! the class -/
theorem N_r105 {sp tp : Md} {B : Nat → Nat} {T q : Nat} {s : PS} (hq : q < 192) (h : TN tp B T s) {Q : Md → Md → Prop} (hQ : ∀ sp' tp', Fr [(1, 11)] sp sp' → (∀ i, i ≠ q → gA sp' 11 i = gA sp 11 i) → TN tp' B T (u6 B T s) → ((u6 B T s).1 = 0 → gA sp' 11 q = if tW B T s.2.2 1 = true then nI (msk (c24 B T s) (c25 B T s)) else gA sp 11 q) → Q sp' tp') : qX7_readRule_105 Q sp tp (nI q) := by
  unfold qX7_readRule_105
  refine N_isWord (k := 1) (by decide) h (fun e => b_1' (N_advance h (fun tp1 h1 => N_readSet h1 (fun r tp2 h2 hr => ⟨vp_in_nI hq (by decide), fun w hw => ?_⟩)))) (fun e => b_0' ?_)
  · have eu : u5 B T s = oT B T (oA B T s) := by unfold u5; rw [pk_t oTA_f (fun _ => rfl) e]
    unfold qX7_readRule_129
    refine N_takeSign (c := 59) (by decide) h2 (fun tp3 h3 => hQ w tp3 (by rw [hw]; exact Fr.tA 11 _ _ (by decide)) (fun i hi => ?_) (by unfold u6; rw [eu]; exact h3) (fun z => ?_))
    · rw [hw, gA_tA, if_pos rfl, nI_clamp (by omega), va_up_ne' _ _ hi]
    · unfold u6 at z
      rw [eu] at z
      have z1 := ok_of (f := oS B T 59) oS_f z
      have z2 := ok_of (f := oT B T) oT_f z1
      have z0 := ok_of (f := oA B T) oA_f z2
      rw [hw, gA_tA, if_pos rfl, nI_clamp (by omega), va_up_eq, hr z1, if_pos (e z0), oA_p z0]
      unfold c24 c25
      rw [if_pos (e z0), if_pos (e z0)]
  · have eu : u5 B T s = s := by unfold u5; rw [pk_f oTA_f (fun _ => rfl) e]
    unfold qX7_readRule_129
    refine N_takeSign (c := 59) (by decide) h (fun tp3 h3 => hQ sp tp3 Fr.rf (fun i hi => rfl) (by unfold u6; rw [eu]; exact h3) (fun z => ?_))
    unfold u6 at z
    rw [eu] at z
    have z1 := ok_of (f := oS B T 59) oS_f z
    rw [if_neg (by rw [e z1]; decide)]
theorem N_r47 {sp tp : Md} {B : Nat → Nat} {T q : Nat} {s : PS} (hq : q < 192) (h : TN tp B T s) {Q : Md → Md → Prop} (hQ : ∀ sp' tp', Fr [(1, 11), (1, 12), (1, 13), (3, 14), (3, 15)] sp sp' → (∀ i, i ≠ q → gA sp' 11 i = gA sp 11 i ∧ gA sp' 12 i = gA sp 12 i ∧ gA sp' 13 i = gA sp 13 i) → (∀ i, i < 3 * q ∨ 3 * q + 3 ≤ i → gB sp' 14 i = gB sp 14 i ∧ gB sp' 15 i = gB sp 15 i) → TN tp' B T (u7 B T s) → ((u7 B T s).1 = 0 → gA sp' 12 q = nI (c20 B T s) ∧ (∀ j, j < c20 B T s → byn (gB sp' 14 (3 * q + j)) = c21 B T s j) ∧ gA sp' 13 q = (if tS B T (u3 B T s).2.2 45 = true then gA sp 13 q else nI (c22 B T (u3 B T s))) ∧ (∀ j, j < c22 B T (u3 B T s) → byn (gB sp' 15 (3 * q + j)) = c21 B T (u3 B T s) j) ∧ gA sp' 11 q = if tW B T (u4 B T (u3 B T s)).2.2 1 = true then nI (msk (c24 B T (u4 B T (u3 B T s))) (c25 B T (u4 B T (u3 B T s)))) else gA sp 11 q) → Q sp' tp') : qX7_readRule_47 Q sp tp (nI q) := by
  unfold qX7_readRule_47
  rw [nl_3, pk_mul, Nat.mul_comm q 3]
  refine N_readWord (by omega) h (fun l tp1 f1 hl h1 g1 g2 => ⟨vp_in_nI hq (by decide), fun w hw => ?_⟩)
  refine N_takeSign (c := 62) (by decide) h1 (fun tp2 h2 => ?_)
  have h2' : TN tp2 B T (u3 B T s) := h2
  have fw : Fr [(1, 11), (1, 12), (1, 13), (3, 14), (3, 15)] sp w := by rw [hw]; exact Fr.tr (Fr.sB 14 _ (by decide)) (Fr.tA 12 _ _ (by decide))
  have w14 : gB w 14 = f1 := by rw [hw]; rfl
  have w15 : gB w 15 = gB sp 15 := by rw [hw]; rfl
  have w11 : gA w 11 = gA sp 11 := by rw [hw]; rfl
  have w13 : gA w 13 = gA sp 13 := by rw [hw]; rfl
  have w12 : gA w 12 = va_up (gA sp 12) q (nI l) := by rw [hw, gA_tA, if_pos rfl, nI_clamp (by omega)]; rfl
  refine N_isSign (c := 45) (by decide) h2' (fun e => b_1' (N_advance h2' (fun tp3 h3 => ?_))) (fun e => b_0' ?_)
  · have eu : u4 B T (u3 B T s) = oA B T (u3 B T s) := by unfold u4; rw [pk_t oA_f oR_f e]
    refine N_r105 hq h3 (fun sp' tp' fs gs ht hv => hQ sp' tp' (fw.tr (fs.mono (by decide))) (fun i hi => ⟨by rw [gs i hi, w11], by rw [fs.2.1 12 (by decide), w12, va_up_ne' _ _ hi], by rw [fs.2.1 13 (by decide), w13]⟩) (fun i hi => ⟨by rw [fs.2.2.2.1 14 (by decide), w14, g1 i hi], by rw [fs.2.2.2.1 15 (by decide), w15]⟩) (by unfold u7; rw [eu]; exact ht) (fun z => ?_))
    unfold u7 at z
    rw [eu] at z
    have z3 := ok_of (f := u6 B T) u6_f z
    have z2 : (u3 B T s).1 = 0 := ok_of (f := oA B T) oA_f z3
    have z1 := ok_of (f := oS B T 62) oS_f z2
    obtain ⟨a1, a2⟩ := g2 z1
    refine ⟨by rw [fs.2.1 12 (by decide), w12, va_up_eq, a1]; rfl, fun j hj => ?_, ?_, fun j hj => ?_, ?_⟩
    · rw [fs.2.2.2.1 14 (by decide), w14]; exact a2 j (by rw [a1]; exact hj)
    · rw [fs.2.1 13 (by decide), w13, if_pos (e z2)]
    · unfold c22 at hj; rw [if_pos (e z2)] at hj; omega
    · rw [eu, hv z, w11]
  · have eu : u4 B T (u3 B T s) = oR B T (u3 B T s) := by unfold u4; rw [pk_f oA_f oR_f e]
    refine N_readWord (by omega) h2' (fun l2 tp3 f3 hl2 h3 k1 k2 => ⟨vp_in_nI hq (by decide), fun w2 hw2 => ?_⟩)
    have fw2 : Fr [(1, 11), (1, 12), (1, 13), (3, 14), (3, 15)] sp w2 := by rw [hw2]; exact fw.tr (Fr.tr (Fr.sB 15 _ (by decide)) (Fr.tA 13 _ _ (by decide)))
    have v14 : gB w2 14 = f1 := by rw [hw2]; exact w14
    have v15 : gB w2 15 = f3 := by rw [hw2]; rfl
    have v11 : gA w2 11 = gA sp 11 := by rw [hw2]; exact w11
    have v12 : gA w2 12 = va_up (gA sp 12) q (nI l) := by rw [hw2]; exact w12
    have v13 : gA w2 13 = va_up (gA sp 13) q (nI l2) := by rw [hw2, gA_tA, if_pos rfl, nI_clamp (by omega)]; show va_up (gA w 13) q _ = _; rw [w13]
    refine N_r105 hq h3 (fun sp' tp' fs gs ht hv => hQ sp' tp' (fw2.tr (fs.mono (by decide))) (fun i hi => ⟨by rw [gs i hi, v11], by rw [fs.2.1 12 (by decide), v12, va_up_ne' _ _ hi], by rw [fs.2.1 13 (by decide), v13, va_up_ne' _ _ hi]⟩) (fun i hi => ⟨by rw [fs.2.2.2.1 14 (by decide), v14, g1 i hi], by rw [fs.2.2.2.1 15 (by decide), v15, k1 i hi, w15]⟩) (by unfold u7; rw [eu]; exact ht) (fun z => ?_))
    unfold u7 at z
    rw [eu] at z
    have z3 := ok_of (f := u6 B T) u6_f z
    have z2 : (u3 B T s).1 = 0 := ok_of (f := oR B T) oR_f z3
    have z1 := ok_of (f := oS B T 62) oS_f z2
    obtain ⟨a1, a2⟩ := g2 z1
    obtain ⟨d1, d2⟩ := k2 z3
    have ef : ¬ tS B T (u3 B T s).2.2 45 = true := by rw [e z2]; decide
    refine ⟨by rw [fs.2.1 12 (by decide), v12, va_up_eq, a1]; rfl, fun j hj => ?_, ?_, fun j hj => ?_, ?_⟩
    · rw [fs.2.2.2.1 14 (by decide), v14]; exact a2 j (by rw [a1]; exact hj)
    · rw [fs.2.1 13 (by decide), v13, va_up_eq, if_neg ef, d1]; unfold c22; rw [if_neg ef]
    · unfold c22 at hj; rw [if_neg ef] at hj
      rw [fs.2.2.2.1 15 (by decide), v15]; exact d2 j (by rw [d1]; exact hj)
    · rw [eu, hv z, v11]
/-- the class has a rule's numbers -/
def RuN (sp : Md) (q : Nat) (B : Nat → Nat) (T : Nat) (s : PS) : Prop := gA sp 10 q = nI (msk (c18 B T s) (c19 B T s)) ∧ gA sp 11 q = nI (msk (c24 B T (u4 B T (u3 B T (u1 B T s)))) (c25 B T (u4 B T (u3 B T (u1 B T s))))) ∧ gA sp 12 q = nI (c20 B T (u1 B T s)) ∧ gA sp 13 q = nI (c22 B T (u3 B T (u1 B T s))) ∧ (∀ j, j < c20 B T (u1 B T s) → (gB sp 14 (3 * q + j)).toInt32 = nI (c21 B T (u1 B T s) j)) ∧ ∀ j, j < c22 B T (u3 B T (u1 B T s)) → (gB sp 15 (3 * q + j)).toInt32 = nI (c21 B T (u3 B T (u1 B T s)) j)
def SmN (sp sp' : Md) (q : Nat) : Prop := (∀ i, i ≠ q → gA sp' 10 i = gA sp 10 i ∧ gA sp' 11 i = gA sp 11 i ∧ gA sp' 12 i = gA sp 12 i ∧ gA sp' 13 i = gA sp 13 i) ∧ ∀ i, i < 3 * q ∨ 3 * q + 3 ≤ i → gB sp' 14 i = gB sp 14 i ∧ gB sp' 15 i = gB sp 15 i
theorem N_readRule {sp tp : Md} {B : Nat → Nat} {T q : Nat} {s : PS} (hq : q < 192) (h : TN tp B T s) (hp : s.2.2 ≤ T) {Q : Md → Md → Prop} (hQ : ∀ sp' tp', Fr [(1, 10), (1, 11), (1, 12), (1, 13), (3, 14), (3, 15)] sp sp' → SmN sp sp' q → TN tp' B T (oU B T s) → ((oU B T s).1 = 0 → RuN sp' q B T s) → Q sp' tp') : qX7_readRule sp tp (nI q) Q := by
  unfold qX7_readRule
  refine ⟨vp_in_nI hq (by decide), fun w hw => ⟨vp_in_nI hq (by decide), fun w2 hw2 => ⟨vp_in_nI hq (by decide), fun w3 hw3 => ?_⟩⟩⟩
  have x10 : gA w3 10 = va_up (gA sp 10) q 134217727 := by rw [hw3, hw2, hw]; show va_up _ (nI q).toNatClampNeg _ = _; rw [nI_clamp (by omega)]
  have x11 : gA w3 11 = va_up (gA sp 11) q 134217727 := by rw [hw3, hw2, hw]; show va_up _ (nI q).toNatClampNeg _ = _; rw [nI_clamp (by omega)]; rfl
  have x13 : gA w3 13 = va_up (gA sp 13) q 0 := by rw [hw3, hw2, hw]; show va_up _ (nI q).toNatClampNeg _ = _; rw [nI_clamp (by omega)]; rfl
  have fw : Fr [(1, 10), (1, 11), (1, 12), (1, 13), (3, 14), (3, 15)] sp w3 := by
    rw [hw3, hw2, hw]; exact Fr.tr (Fr.tr (Fr.tA 10 _ _ (by decide)) (Fr.tA 11 _ _ (by decide))) (Fr.tA 13 _ _ (by decide))
  have go : ∀ (y : Md) (tp1 : Md) (v : Int32), Fr [(1, 10)] w3 y → gA y 10 = va_up (gA sp 10) q v → TN tp1 B T (u1 B T s) → ((u1 B T s).1 = 0 → v = nI (msk (c18 B T s) (c19 B T s))) → qX7_readRule_47 Q y tp1 (nI q) := by
    intro y tp1 v fy y10 h1 hv
    refine N_r47 hq h1 (fun sp' tp' fs g1 g2 ht hval => hQ sp' tp' (fw.tr ((fy.mono (by decide)).tr (fs.mono (by decide)))) ⟨fun i hi => ?_, fun i hi => ?_⟩ ht (fun z => ?_))
    · obtain ⟨e1, e2, e3⟩ := g1 i hi
      refine ⟨by rw [fs.2.1 10 (by decide), y10, va_up_ne' _ _ hi], ?_, ?_, ?_⟩
      · rw [e1, fy.2.1 11 (by decide), x11, va_up_ne' _ _ hi]
      · rw [e2, fy.2.1 12 (by decide), hw3, hw2, hw]; rfl
      · rw [e3, fy.2.1 13 (by decide), x13, va_up_ne' _ _ hi]
    · obtain ⟨e1, e2⟩ := g2 i hi
      rw [e1, e2, fy.2.2.2.1 14 (by decide), fy.2.2.2.1 15 (by decide), hw3, hw2, hw]; exact ⟨rfl, rfl⟩
    · obtain ⟨a4, a5, a3, aR, a1, a0⟩ := oU_ok z
      obtain ⟨-, -, -, -, bl, -, bl2, -, -⟩ := ru_b z hp
      obtain ⟨v1, v2, v3, v4, v5⟩ := hval z
      refine ⟨by rw [fs.2.1 10 (by decide), y10, va_up_eq, hv a1], ?_, v1, ?_, fun j hj => ?_, fun j hj => ?_⟩
      · rw [v5]
        by_cases c : tW B T (u4 B T (u3 B T (u1 B T s))).2.2 1 = true
        · rw [if_pos c]
        · rw [if_neg c, fy.2.1 11 (by decide), x11, va_up_eq]
          unfold c24; rw [if_neg c]; rfl
      · rw [v3]
        by_cases c : tS B T (u3 B T (u1 B T s)).2.2 45 = true
        · rw [if_pos c, fy.2.1 13 (by decide), x13, va_up_eq]
          unfold c22; rw [if_pos c]; rfl
        · rw [if_neg c]
      · have := bl j hj
        exact b_nI (v2 j hj) (by omega)
      · have := bl2 j hj
        exact b_nI (v4 j hj) (by omega)
  refine N_isWord (k := 0) (by decide) h (fun e => b_1' (N_advance h (fun tp1 h1 => N_readSet h1 (fun r tp2 h2 hr => ⟨vp_in_nI hq (by decide), fun w4 hw4 => ?_⟩)))) (fun e => b_0' ?_)
  · have eu : u1 B T s = oT B T (oA B T s) := by unfold u1; rw [pk_t oTA_f (fun _ => rfl) e]
    refine go w4 tp2 r (by rw [hw4]; exact Fr.tA 10 _ _ (by decide)) ?_ (by rw [eu]; exact h2) (fun z => ?_)
    · rw [hw4, gA_tA, if_pos rfl, nI_clamp (by omega), x10, bx_uu]
    · rw [eu] at z
      have z2 := ok_of (f := oT B T) oT_f z
      have z0 := ok_of (f := oA B T) oA_f z2
      rw [hr z, oA_p z0]
      unfold c18 c19
      rw [if_pos (e z0), if_pos (e z0)]
  · have eu : u1 B T s = s := by unfold u1; rw [pk_f oTA_f (fun _ => rfl) e]
    refine go w3 tp 134217727 Fr.rf x10 (by rw [eu]; exact h) (fun z => ?_)
    rw [eu] at z
    unfold c18
    rw [if_neg (by rw [e z]; decide)]; rfl
