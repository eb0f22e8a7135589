/-! acts: what their texts tell -/
/-- the kind of a line, one more (0 none); what a condition looks at, one more (0 none) -/
def lnK (B : Nat → Nat) (T p : Nat) : Nat := if tW B T p 2 = true then 1 else if tW B T p 3 = true then 2 else if tW B T p 4 = true then 3 else if tW B T p 5 = true then 4 else if tW B T p 6 = true then 5 else if tW B T p 7 = true then 6 else 0
def fK (B : Nat → Nat) (T p : Nat) : Nat := if tW B T p 12 = true then 1 else if tW B T p 13 = true then 2 else if tW B T p 14 = true then 3 else if tW B T p 15 = true then 4 else 0
theorem lnK_le (B : Nat → Nat) (T p : Nat) : lnK B T p ≤ 6 := by
  unfold lnK
  repeat' split
  all_goals omega
theorem fK_le (B : Nat → Nat) (T p : Nat) : fK B T p ≤ 4 := by
  unfold fK
  repeat' split
  all_goals omega
theorem fK_1 {B : Nat → Nat} {T p : Nat} (h : fK B T p ≠ 0) : tK B T p = 1 := by
  unfold fK at h
  by_cases c1 : tW B T p 12 = true
  · exact tW_1 c1
  by_cases c2 : tW B T p 13 = true
  · exact tW_1 c2
  by_cases c3 : tW B T p 14 = true
  · exact tW_1 c3
  by_cases c4 : tW B T p 15 = true
  · exact tW_1 c4
  rw [if_neg c1, if_neg c2, if_neg c3, if_neg c4] at h
  exact absurd rfl h
theorem lnK_1 {B : Nat → Nat} {T p : Nat} (h : lnK B T p ≠ 0) : tK B T p = 1 := by
  unfold lnK at h
  by_cases c1 : tW B T p 2 = true
  · exact tW_1 c1
  by_cases c2 : tW B T p 3 = true
  · exact tW_1 c2
  by_cases c3 : tW B T p 4 = true
  · exact tW_1 c3
  by_cases c4 : tW B T p 5 = true
  · exact tW_1 c4
  by_cases c5 : tW B T p 6 = true
  · exact tW_1 c5
  by_cases c6 : tW B T p 7 = true
  · exact tW_1 c6
  rw [if_neg c1, if_neg c2, if_neg c3, if_neg c4, if_neg c5, if_neg c6] at h
  exact absurd rfl h
def xa1 (B : Nat → Nat) (T : Nat) (s : PS) : PS := if tW B T s.2.2 11 = true then oA B T s else s
def xa2 (B : Nat → Nat) (T : Nat) (s : PS) : PS := if decide (fK B T s.2.2 ≠ 0) = true then oA B T s else oW B T 1 s
def xa3 (B : Nat → Nat) (T f : Nat) (s : PS) : PS := if decide (f = 1) = true then oN B T 2 s else s
def xaS (B : Nat → Nat) (T p : Nat) : Bool := tS B T p 60 || (tS B T p 61 || tS B T p 62)
def xa4 (B : Nat → Nat) (T : Nat) (s : PS) : PS := if xaS B T s.2.2 = true then oA B T s else oW B T 1 s
def xa5 (B : Nat → Nat) (T f : Nat) (s : PS) : PS := oN B T 9999 (xa4 B T (xa3 B T f (xa2 B T s)))
def oC (B : Nat → Nat) (T : Nat) (s : PS) : PS := xa5 B T (fK B T (xa1 B T s).2.2) (xa1 B T s)
theorem xa1_f {B : Nat → Nat} {T : Nat} {s : PS} (h : s.1 ≠ 0) : xa1 B T s = s := pk_s oA_f (fun _ => rfl) h
theorem xa2_f {B : Nat → Nat} {T : Nat} {s : PS} (h : s.1 ≠ 0) : xa2 B T s = s := pk_s oA_f oW_f h
theorem xa3_f {B : Nat → Nat} {T f : Nat} {s : PS} (h : s.1 ≠ 0) : xa3 B T f s = s := pk_s oN_f (fun _ => rfl) h
theorem xa4_f {B : Nat → Nat} {T : Nat} {s : PS} (h : s.1 ≠ 0) : xa4 B T s = s := pk_s oA_f oW_f h
theorem xa5_f {B : Nat → Nat} {T f : Nat} {s : PS} (h : s.1 ≠ 0) : xa5 B T f s = s := by unfold xa5; rw [xa2_f h, xa3_f h, xa4_f h, oN_f h]
theorem oC_f {B : Nat → Nat} {T : Nat} {s : PS} (h : s.1 ≠ 0) : oC B T s = s := by unfold oC; rw [xa1_f h, xa5_f h]
/-- the condition i of a line -/
def oD (B : Nat → Nat) (T i : Nat) (s : PS) : PS := if (tW B T s.2.2 11 || decide (fK B T s.2.2 ≠ 0)) = true then (if decide (4 ≤ i) = true then oW B T 3 s else oC B T s) else oW B T 1 s
theorem oD_f {B : Nat → Nat} {T i : Nat} {s : PS} (h : s.1 ≠ 0) : oD B T i s = s := pk_s (pk_s oW_f oC_f) oW_f h
theorem oD_lt {B : Nat → Nat} {T i : Nat} {s : PS} (hi : i < 4) : oD B T i s = oC B T s := by
  unfold oD
  rw [if_neg (show ¬ decide (4 ≤ i) = true from fun z => absurd (of_decide_eq_true z) (by omega))]
  by_cases c : (tW B T s.2.2 11 || decide (fK B T s.2.2 ≠ 0)) = true
  · rw [if_pos c]
  · rw [if_neg c]
    rw [Bool.or_eq_true] at c
    have c1 : ¬ tW B T s.2.2 11 = true := fun z => c (Or.inl z)
    have c2 : ¬ decide (fK B T s.2.2 ≠ 0) = true := fun z => c (Or.inr z)
    unfold oC
    have ee : xa1 B T s = s := by unfold xa1; rw [if_neg c1]
    rw [ee]
    unfold xa5
    have e' : xa2 B T s = oW B T 1 s := by unfold xa2; rw [if_neg c2]
    have hn : (oW B T 1 s).1 ≠ 0 := oW_n (by decide)
    rw [e', xa3_f hn, xa4_f hn, oN_f hn]
theorem oD_4 {B : Nat → Nat} {T i : Nat} {s : PS} (hi : 4 ≤ i) : (oD B T i s).1 ≠ 0 := by
  unfold oD
  rw [if_pos (decide_eq_true hi)]
  split
  · exact oW_n (by decide)
  · exact oW_n (by decide)
def cl (B : Nat → Nat) (T : Nat) : Nat → Nat → PS → Nat × PS
  | 0, i, s => (i, s)
  | n + 1, i, s => if (oD B T i s).1 ≠ 0 ∨ tW B T (oD B T i s).2.2 10 = false then (i + 1, oD B T i s) else cl B T n (i + 1) (oA B T (oD B T i s))
theorem cl_e {B : Nat → Nat} {T n i : Nat} {s : PS} (h : (oD B T i s).1 ≠ 0 ∨ tW B T (oD B T i s).2.2 10 = false) : cl B T (n + 1) i s = (i + 1, oD B T i s) := if_pos h
theorem cl_n {B : Nat → Nat} {T n i : Nat} {s : PS} (h : (oD B T i s).1 = 0) (h1 : tW B T (oD B T i s).2.2 10 = true) : cl B T (n + 1) i s = cl B T n (i + 1) (oA B T (oD B T i s)) := if_neg (fun z => z.elim (fun z => z h) (fun z => by rw [h1] at z; cases z))
theorem cl_f {B : Nat → Nat} {T n i : Nat} {s : PS} (h : s.1 ≠ 0) : (cl B T (n + 1) i s).2 = s := by
  rw [cl_e (Or.inl (by rw [oD_f h]; exact h)), oD_f h]
/-- where the conditions of a line begin -/
def cq (B : Nat → Nat) (T : Nat) (s : PS) : Nat → PS
  | 0 => s
  | i + 1 => oA B T (oC B T (cq B T s i))
def iB (B : Nat → Nat) (T k : Nat) (s : PS) : Bool := decide (k ≤ 1) && tW B T s.2.2 9
def xh1 (B : Nat → Nat) (T k : Nat) (s : PS) : PS := if decide (k = 0) = true then oN B T 2 s else (if decide (k = 1) = true then s else oN B T 9999 s)
def xh2 (B : Nat → Nat) (T k : Nat) (s : PS) : PS := if decide (k = 2) = true then oN B T 9999 (oK B T 8 s) else s
def cz (B : Nat → Nat) (T k : Nat) (s : PS) : PS := if iB B T k s = true then (cl B T 5 0 (oA B T s)).2 else s
def cn (B : Nat → Nat) (T k : Nat) (s : PS) : Nat := if iB B T k s = true then (cl B T 5 0 (oA B T s)).1 else 0
def xhh (B : Nat → Nat) (T k : Nat) (s : PS) : PS := xh2 B T k (xh1 B T k (oA B T s))
def oL (B : Nat → Nat) (T k : Nat) (s : PS) : PS := oS B T 59 (cz B T k (xhh B T k s))
theorem xh1_f {B : Nat → Nat} {T k : Nat} {s : PS} (h : s.1 ≠ 0) : xh1 B T k s = s := pk_s oN_f (pk_s (fun _ => rfl) oN_f) h
theorem oNK_f {B : Nat → Nat} {T : Nat} {s : PS} (h : s.1 ≠ 0) : oN B T 9999 (oK B T 8 s) = s := by rw [oK_f h, oN_f h]
theorem xh2_f {B : Nat → Nat} {T k : Nat} {s : PS} (h : s.1 ≠ 0) : xh2 B T k s = s := pk_s oNK_f (fun _ => rfl) h
theorem clA_f {B : Nat → Nat} {T : Nat} {s : PS} (h : s.1 ≠ 0) : (cl B T 5 0 (oA B T s)).2 = s := by rw [oA_f h]; exact cl_f h
theorem cz_f {B : Nat → Nat} {T k : Nat} {s : PS} (h : s.1 ≠ 0) : cz B T k s = s := pk_s clA_f (fun _ => rfl) h
theorem xhh_f {B : Nat → Nat} {T k : Nat} {s : PS} (h : s.1 ≠ 0) : xhh B T k s = s := by unfold xhh; rw [oA_f h, xh1_f h, xh2_f h]
theorem oL_f {B : Nat → Nat} {T k : Nat} {s : PS} (h : s.1 ≠ 0) : oL B T k s = s := by unfold oL; rw [xhh_f h, cz_f h, oS_f h]
/-! places stay within the text -/
theorem oN_l {B : Nat → Nat} {T n : Nat} {s : PS} (h : s.2.2 ≤ T) : (oN B T n s).2.2 ≤ T := by
  unfold oN; split
  · split
    · exact oA_l h
    · exact oW_l h
  · exact oW_l h
theorem oK_l {B : Nat → Nat} {T n : Nat} {s : PS} (h : s.2.2 ≤ T) : (oK B T n s).2.2 ≤ T := by
  unfold oK; split
  · exact oA_l h
  · exact oW_l h
theorem xa1_l {B : Nat → Nat} {T : Nat} {s : PS} (h : s.2.2 ≤ T) : (xa1 B T s).2.2 ≤ T := by
  unfold xa1; split
  · exact oA_l h
  · exact h
theorem xa2_l {B : Nat → Nat} {T : Nat} {s : PS} (h : s.2.2 ≤ T) : (xa2 B T s).2.2 ≤ T := by
  unfold xa2; split
  · exact oA_l h
  · exact oW_l h
theorem xa3_l {B : Nat → Nat} {T f : Nat} {s : PS} (h : s.2.2 ≤ T) : (xa3 B T f s).2.2 ≤ T := by
  unfold xa3; split
  · exact oN_l h
  · exact h
theorem xa4_l {B : Nat → Nat} {T : Nat} {s : PS} (h : s.2.2 ≤ T) : (xa4 B T s).2.2 ≤ T := by
  unfold xa4; split
  · exact oA_l h
  · exact oW_l h
theorem oC_l {B : Nat → Nat} {T : Nat} {s : PS} (h : s.2.2 ≤ T) : (oC B T s).2.2 ≤ T := oN_l (xa4_l (xa3_l (xa2_l (xa1_l h))))
theorem oD_l {B : Nat → Nat} {T i : Nat} {s : PS} (h : s.2.2 ≤ T) : (oD B T i s).2.2 ≤ T := by
  unfold oD; split
  · split
    · exact oW_l h
    · exact oC_l h
  · exact oW_l h
theorem cl_l {B : Nat → Nat} {T : Nat} : ∀ n i s, s.2.2 ≤ T → (cl B T n i s).2.2.2 ≤ T := by
  intro n
  induction n with
  | zero => intro i s h; exact h
  | succ n ih =>
    intro i s h
    by_cases c : (oD B T i s).1 ≠ 0 ∨ tW B T (oD B T i s).2.2 10 = false
    · rw [cl_e c]; exact oD_l h
    · have e : cl B T (n + 1) i s = cl B T n (i + 1) (oA B T (oD B T i s)) := if_neg c
      rw [e]; exact ih _ _ (oA_l (oD_l h))
theorem xh1_l {B : Nat → Nat} {T k : Nat} {s : PS} (h : s.2.2 ≤ T) : (xh1 B T k s).2.2 ≤ T := by
  unfold xh1; split
  · exact oN_l h
  · split
    · exact h
    · exact oN_l h
theorem xh2_l {B : Nat → Nat} {T k : Nat} {s : PS} (h : s.2.2 ≤ T) : (xh2 B T k s).2.2 ≤ T := by
  unfold xh2; split
  · exact oN_l (oK_l h)
  · exact h
theorem xhh_l {B : Nat → Nat} {T k : Nat} {s : PS} (h : s.2.2 ≤ T) : (xhh B T k s).2.2 ≤ T := xh2_l (xh1_l (oA_l h))
theorem cz_l {B : Nat → Nat} {T k : Nat} {s : PS} (h : s.2.2 ≤ T) : (cz B T k s).2.2 ≤ T := by
  unfold cz; split
  · exact cl_l _ _ _ (oA_l h)
  · exact h
theorem oL_l {B : Nat → Nat} {T k : Nat} {s : PS} (h : s.2.2 ≤ T) : (oL B T k s).2.2 ≤ T := oS_l (cz_l (xhh_l h))
/-! the numbers of a condition and of a line -/
def v32 (B : Nat → Nat) (T : Nat) (s : PS) : Nat := if tW B T s.2.2 11 = true then 1 else 0
def v33 (B : Nat → Nat) (T : Nat) (s : PS) : Nat := fK B T (xa1 B T s).2.2 - 1
def v34 (B : Nat → Nat) (T : Nat) (s : PS) : Nat := if fK B T (xa1 B T s).2.2 = 1 then tV B T (xa2 B T (xa1 B T s)).2.2 else 0
def p35 (B : Nat → Nat) (T : Nat) (s : PS) : PS := xa3 B T (fK B T (xa1 B T s).2.2) (xa2 B T (xa1 B T s))
def v35 (B : Nat → Nat) (T : Nat) (s : PS) : Nat := B (tF B T (p35 B T s).2.2)
def v36 (B : Nat → Nat) (T : Nat) (s : PS) : Nat := tV B T (xa4 B T (p35 B T s)).2.2
def v29 (B : Nat → Nat) (T k : Nat) (s : PS) : Nat := if k = 1 then 0 else tV B T (oA B T s).2.2
def v30 (B : Nat → Nat) (T k : Nat) (s : PS) : Nat := if k = 2 then tV B T (oK B T 8 (xh1 B T k (oA B T s))).2.2 else 0
def v31 (B : Nat → Nat) (T k : Nat) (s : PS) : Nat := cn B T k (xhh B T k s)
theorem oN_ok {B : Nat → Nat} {T mo : Nat} {s : PS} (h : (oN B T mo s).1 = 0) : s.1 = 0 ∧ tV B T s.2.2 ≤ mo := by
  refine ⟨ok_of (f := oN B T mo) oN_f h, ?_⟩
  unfold oN at h
  by_cases c : decide (tK B T s.2.2 = 2) = true
  · rw [if_pos c] at h
    by_cases c2 : decide (tV B T s.2.2 ≤ mo) = true
    · exact of_decide_eq_true c2
    · rw [if_neg c2] at h; exact absurd h (oW_n (by decide))
  · rw [if_neg c] at h; exact absurd h (oW_n (by decide))
theorem oC_ok {B : Nat → Nat} {T : Nat} {s : PS} (h : (oC B T s).1 = 0) : s.1 = 0 ∧ (xa1 B T s).1 = 0 ∧ (xa2 B T (xa1 B T s)).1 = 0 ∧ (p35 B T s).1 = 0 ∧ (xa4 B T (p35 B T s)).1 = 0 ∧ fK B T (xa1 B T s).2.2 ≠ 0 ∧ v36 B T s ≤ 9999 ∧ v34 B T s ≤ 2 ∧ xaS B T (p35 B T s).2.2 = true ∧ 60 ≤ v35 B T s ∧ v35 B T s ≤ 62 := by
  obtain ⟨a4, a5⟩ := oN_ok h
  have a3 : (p35 B T s).1 = 0 := ok_of (f := xa4 B T) xa4_f a4
  have a2 : (xa2 B T (xa1 B T s)).1 = 0 := ok_of (f := xa3 B T (fK B T (xa1 B T s).2.2)) xa3_f a3
  have a1 : (xa1 B T s).1 = 0 := ok_of (f := xa2 B T) xa2_f a2
  have a0 : s.1 = 0 := ok_of (f := xa1 B T) xa1_f a1
  have hf : fK B T (xa1 B T s).2.2 ≠ 0 := by
    unfold xa2 at a2
    by_cases c : decide (fK B T (xa1 B T s).2.2 ≠ 0) = true
    · exact of_decide_eq_true c
    · rw [if_neg c] at a2; exact absurd a2 (oW_n (by decide))
  have h4 : v34 B T s ≤ 2 := by
    unfold v34
    by_cases c : fK B T (xa1 B T s).2.2 = 1
    · rw [if_pos c]
      unfold p35 xa3 at a3
      rw [if_pos (decide_eq_true c)] at a3
      exact (oN_ok a3).2
    · rw [if_neg c]; omega
  have hs : xaS B T (p35 B T s).2.2 = true := by
    have a4' : (xa4 B T (p35 B T s)).1 = 0 := a4
    unfold xa4 at a4'
    by_cases c : xaS B T (p35 B T s).2.2 = true
    · exact c
    · rw [if_neg c] at a4'; exact absurd a4' (oW_n (by decide))
  have hb : 60 ≤ v35 B T s ∧ v35 B T s ≤ 62 := by
    unfold v35
    have z := hs
    unfold xaS at z
    rw [Bool.or_eq_true, Bool.or_eq_true] at z
    rcases z with z | z | z
    · rw [(tS_1 z).2]; omega
    · rw [(tS_1 z).2]; omega
    · rw [(tS_1 z).2]; omega
  exact ⟨a0, a1, a2, a3, a4, hf, a5, h4, hs, hb.1, hb.2⟩
theorem cl_ok {B : Nat → Nat} {T : Nat} {s0 : PS} : ∀ n i, n + i = 5 → 1 ≤ n → ((cl B T n i (cq B T s0 i)).2.1 = 0 → i < (cl B T n i (cq B T s0 i)).1 ∧ (cl B T n i (cq B T s0 i)).1 ≤ 4 ∧ ∀ j, i ≤ j → j < (cl B T n i (cq B T s0 i)).1 → (oC B T (cq B T s0 j)).1 = 0) := by
  intro n
  induction n with
  | zero => intro i _ h; omega
  | succ n ih =>
    intro i hn _
    by_cases c : (oD B T i (cq B T s0 i)).1 ≠ 0 ∨ tW B T (oD B T i (cq B T s0 i)).2.2 10 = false
    · rw [cl_e c]
      intro z
      have hi : i < 4 := by
        rcases Nat.lt_or_ge i 4 with h | h
        · exact h
        · exact absurd z (oD_4 h)
      refine ⟨Nat.lt_succ_self i, hi, fun j h1 h2 => ?_⟩
      have h2' : j < i + 1 := h2
      rw [show j = i by omega, ← oD_lt (B := B) (T := T) (s := cq B T s0 i) hi]; exact z
    · have c1 : (oD B T i (cq B T s0 i)).1 = 0 := Classical.byContradiction (fun z => c (Or.inl z))
      have c2 : tW B T (oD B T i (cq B T s0 i)).2.2 10 = true := by
        cases hb : tW B T (oD B T i (cq B T s0 i)).2.2 10 with
        | true => rfl
        | false => exact absurd (Or.inr hb) c
      have hi : i < 4 := by
        rcases Nat.lt_or_ge i 4 with h | h
        · exact h
        · exact absurd c1 (oD_4 h)
      rw [cl_n c1 c2, oD_lt hi]
      intro z
      obtain ⟨z1, z2, z3⟩ := ih (i + 1) (by omega) (by omega) z
      have z1' : i + 1 < (cl B T n (i + 1) (oA B T (oC B T (cq B T s0 i)))).1 := z1
      refine ⟨by omega, z2, fun j h1 h2 => ?_⟩
      by_cases ej : j = i
      · rw [ej, ← oD_lt (B := B) (T := T) (s := cq B T s0 i) hi]; exact c1
      · exact z3 j (by omega) h2
/-- what holds of a line's numbers -/
theorem ln_b {B : Nat → Nat} {T k : Nat} {s : PS} (h : (oL B T k s).1 = 0) : s.1 = 0 ∧ (xhh B T k s).1 = 0 ∧ (cz B T k (xhh B T k s)).1 = 0 ∧ v29 B T k s ≤ 9999 ∧ (k = 0 → v29 B T k s ≤ 2) ∧ v30 B T k s ≤ 9999 ∧ v31 B T k s ≤ 4 ∧ ∀ j, j < v31 B T k s → (oC B T (cq B T (oA B T (xhh B T k s)) j)).1 = 0 := by
  have a1 : (cz B T k (xhh B T k s)).1 = 0 := ok_of (f := oS B T 59) oS_f h
  have a2 : (xhh B T k s).1 = 0 := ok_of (f := cz B T k) cz_f a1
  have a3 : (xh1 B T k (oA B T s)).1 = 0 := ok_of (f := xh2 B T k) xh2_f a2
  have a4 : (oA B T s).1 = 0 := ok_of (f := xh1 B T k) xh1_f a3
  have a5 : s.1 = 0 := ok_of (f := oA B T) oA_f a4
  have k9 : v29 B T k s ≤ 9999 ∧ (k = 0 → v29 B T k s ≤ 2) := by
    unfold v29
    unfold xh1 at a3
    by_cases c0 : k = 0
    · rw [if_pos (decide_eq_true c0)] at a3
      have := (oN_ok a3).2
      rw [if_neg (by omega)]
      exact ⟨by omega, fun _ => this⟩
    · rw [if_neg (fun z => c0 (of_decide_eq_true z))] at a3
      by_cases c1 : k = 1
      · rw [if_pos c1]; exact ⟨by omega, fun _ => by omega⟩
      · rw [if_neg (fun z => c1 (of_decide_eq_true z))] at a3
        rw [if_neg c1]
        exact ⟨(oN_ok a3).2, fun z => absurd z c0⟩
  have k30 : v30 B T k s ≤ 9999 := by
    unfold v30
    by_cases c : k = 2
    · rw [if_pos c]
      have a2' := a2
      unfold xhh xh2 at a2'
      rw [if_pos (decide_eq_true c)] at a2'
      exact (oN_ok a2').2
    · rw [if_neg c]; omega
  refine ⟨a5, a2, a1, k9.1, k9.2, k30, ?_⟩
  unfold v31 cn
  by_cases c : iB B T k (xhh B T k s) = true
  · rw [if_pos c]
    have a1' := a1
    unfold cz at a1'
    rw [if_pos c] at a1'
    obtain ⟨z1, z2, z3⟩ := cl_ok (B := B) (T := T) (s0 := oA B T (xhh B T k s)) 5 0 (by omega) (by omega) a1'
    exact ⟨z2, fun j hj => z3 j (Nat.zero_le _) hj⟩
  · rw [if_neg c]; exact ⟨by omega, fun j hj => by omega⟩
