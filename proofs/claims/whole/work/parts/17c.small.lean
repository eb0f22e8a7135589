/-- how far a text is read: the kind of its fault (0 none), the fault's place, the place behind which the token at hand lies -/
abbrev PS : Type := Nat × Nat × Nat
def fI (s : PS) : Int32 := if s.1 = 0 then -1 else nI s.2.1
def sN (k j : Nat) : Nat := ((s_byt.getD k []).getD j 0).toInt.toNat
theorem s_all : ∀ k : Fin 16, 2 ≤ s_len.getD k.val 0 ∧ s_len.getD k.val 0 ≤ 6 ∧ ∀ j : Fin 6, j.val < s_len.getD k.val 0 → (s_byt.getD k.val []).getD j.val 0 = nI (sN k.val j.val) ∧ sN k.val j.val < 128 := by decide +kernel
theorem s_b {k : Nat} (hk : k < 16) : 2 ≤ s_len.getD k 0 ∧ s_len.getD k 0 ≤ 6 := ⟨(s_all ⟨k, hk⟩).1, (s_all ⟨k, hk⟩).2.1⟩
theorem s_at {k j : Nat} (hk : k < 16) (hj : j < s_len.getD k 0) : (s_byt.getD k []).getD j 0 = nI (sN k j) ∧ sN k j < 128 := (s_all ⟨k, hk⟩).2.2 ⟨j, by have := (s_b hk).2; omega⟩ hj
/-- the token is the word k; the sign c; a word of at most n letters -/
def tW (B : Nat → Nat) (T p k : Nat) : Bool := decide (tK B T p = 1) && (decide (tE B T p - tF B T p = s_len.getD k 0) && eqB (fun j => B (tF B T p + j)) (fun j => sN k j) (s_len.getD k 0))
def tS (B : Nat → Nat) (T p c : Nat) : Bool := decide (tK B T p = 3) && decide (B (tF B T p) = c)
def tO (B : Nat → Nat) (T p n : Nat) : Bool := decide (tK B T p = 1) && decide (tE B T p - tF B T p ≤ n)
theorem tO_1 {B : Nat → Nat} {T p n : Nat} (h : tO B T p n = true) : tK B T p = 1 ∧ tE B T p - tF B T p ≤ n := by
  unfold tO at h; simpa using h
theorem tW_1 {B : Nat → Nat} {T p k : Nat} (h : tW B T p k = true) : tK B T p = 1 := by
  unfold tW at h; rw [Bool.and_eq_true] at h; exact of_decide_eq_true h.1
theorem tS_1 {B : Nat → Nat} {T p c : Nat} (h : tS B T p c = true) : tK B T p = 3 ∧ B (tF B T p) = c := by
  unfold tS at h; simpa using h
def oA (B : Nat → Nat) (T : Nat) (s : PS) : PS := if s.1 = 0 then (0, 0, tE B T s.2.2) else s
def oW (B : Nat → Nat) (T n : Nat) (s : PS) : PS := if s.1 = 0 then (n, tF B T s.2.2, s.2.2) else s
def oS (B : Nat → Nat) (T c : Nat) (s : PS) : PS := if tS B T s.2.2 c = true then oA B T s else oW B T 1 s
def oK (B : Nat → Nat) (T k : Nat) (s : PS) : PS := if tW B T s.2.2 k = true then oA B T s else oW B T 1 s
def oN (B : Nat → Nat) (T mo : Nat) (s : PS) : PS := if decide (tK B T s.2.2 = 2) = true then (if decide (tV B T s.2.2 ≤ mo) = true then oA B T s else oW B T 2 s) else oW B T 1 s
def oR (B : Nat → Nat) (T : Nat) (s : PS) : PS := if tO B T s.2.2 3 = true then oA B T s else oW B T 1 s
def oG (B : Nat → Nat) (T p : Nat) : Bool := tO B T p 26 && (!tW B T p 0 && !tW B T p 1)
def oT (B : Nat → Nat) (T : Nat) (s : PS) : PS := if tS B T s.2.2 35 = true then oA B T s else (if oG B T s.2.2 = true then oA B T s else oW B T 1 s)
theorem pk_t {s x y : PS} {b : Bool} (hx : s.1 ≠ 0 → x = s) (hy : s.1 ≠ 0 → y = s) (e : s.1 = 0 → b = true) : (if b = true then x else y) = x := by
  by_cases h : s.1 = 0
  · rw [if_pos (e h)]
  · rw [hx h, hy h, ite_self]
theorem pk_f {s x y : PS} {b : Bool} (hx : s.1 ≠ 0 → x = s) (hy : s.1 ≠ 0 → y = s) (e : s.1 = 0 → b = false) : (if b = true then x else y) = y := by
  by_cases h : s.1 = 0
  · rw [if_neg (by rw [e h]; decide)]
  · rw [hx h, hy h, ite_self]
theorem pk_s {s x y : PS} {b : Bool} (hx : s.1 ≠ 0 → x = s) (hy : s.1 ≠ 0 → y = s) (h : s.1 ≠ 0) : (if b = true then x else y) = s := by
  rw [hx h, hy h, ite_self]
theorem oA_f {B : Nat → Nat} {T : Nat} {s : PS} (h : s.1 ≠ 0) : oA B T s = s := if_neg h
theorem oW_f {B : Nat → Nat} {T n : Nat} {s : PS} (h : s.1 ≠ 0) : oW B T n s = s := if_neg h
theorem oS_f {B : Nat → Nat} {T c : Nat} {s : PS} (h : s.1 ≠ 0) : oS B T c s = s := pk_s oA_f oW_f h
theorem oK_f {B : Nat → Nat} {T c : Nat} {s : PS} (h : s.1 ≠ 0) : oK B T c s = s := pk_s oA_f oW_f h
theorem oN_f {B : Nat → Nat} {T c : Nat} {s : PS} (h : s.1 ≠ 0) : oN B T c s = s := pk_s (pk_s oA_f oW_f) oW_f h
theorem oR_f {B : Nat → Nat} {T : Nat} {s : PS} (h : s.1 ≠ 0) : oR B T s = s := pk_s oA_f oW_f h
theorem oT_f {B : Nat → Nat} {T : Nat} {s : PS} (h : s.1 ≠ 0) : oT B T s = s := pk_s oA_f (pk_s oA_f oW_f) h
theorem ok_of {s : PS} {f : PS → PS} (hf : s.1 ≠ 0 → f s = s) (h : (f s).1 = 0) : s.1 = 0 := by
  by_cases e : s.1 = 0
  · exact e
  · rw [hf e] at h; exact h
theorem oW_n {B : Nat → Nat} {T n : Nat} {s : PS} (hn : n ≠ 0) : (oW B T n s).1 ≠ 0 := by
  by_cases h : s.1 = 0
  · unfold oW; rw [if_pos h]; exact hn
  · rw [oW_f h]; exact h
/-! the class's tape -/
def TN (tp : Md) (B : Nat → Nat) (T : Nat) (s : PS) : Prop := T ≤ 500 ∧ gF tp 1 = nI T ∧ (∀ j, j < T → byn (gB tp 0 j) = B j) ∧ gF tp 2 = nI s.1 ∧ gF tp 3 = fI s ∧ s.1 ≤ 3 ∧ ∃ p, p ≤ T ∧ (s.1 = 0 → p = s.2.2) ∧ TKN tp B T p
theorem TN.le {tp : Md} {B : Nat → Nat} {T : Nat} {s : PS} (h : TN tp B T s) (h0 : s.1 = 0) : s.2.2 ≤ T := by
  obtain ⟨-, -, -, -, -, -, p, hp, he, -⟩ := h
  rw [← he h0]; exact hp
theorem N_advance {tp : Md} {B : Nat → Nat} {T : Nat} {s : PS} (h : TN tp B T s) {Q : Md → Prop} (hQ : ∀ tp', TN tp' B T (oA B T s) → Q tp') : qX9_advance tp Q := by
  obtain ⟨hT, t1, tb, t2, t3, b1, p, hp, he, y4, y5, y6, y7⟩ := h
  have hE := tE_b (B := B) hp
  refine N_adv0 hT t1 tb hE.2 y5 (fun tp' fr hk => hQ tp' ⟨hT, (fr.1 1 (by decide)).trans t1, by rw [fr.2.2.2.1 0 (by decide)]; exact tb, ?_, ?_, ?_, tE B T p, hE.2, ?_, hk⟩)
  · rw [fr.1 2 (by decide), t2]; unfold oA; split
    · rename_i h; rw [h]
    · rfl
  · rw [fr.1 3 (by decide), t3]; unfold oA fI; split
    · rfl
    · rfl
  · unfold oA; split
    · show 0 ≤ 3; omega
    · exact b1
  · intro h0
    have h1 : s.1 = 0 := ok_of (f := oA B T) oA_f h0
    unfold oA; rw [if_pos h1, he h1]
theorem N_blame {tp : Md} {B : Nat → Nat} {T n : Nat} {s : PS} (h : TN tp B T s) (hn : 1 ≤ n) (hn3 : n ≤ 3) {Q : Md → Prop} (hQ : ∀ tp', TN tp' B T (oW B T n s) → Q tp') : qX9_blame tp (nI n) Q := by
  obtain ⟨hT, t1, tb, t2, t3, b1, p, hp, he, y4, y5, y6, y7⟩ := id h
  unfold qX9_blame
  refine c_eq' (b := 0) t2 rfl (by omega) (by decide) (fun e w hw w2 hw2 => ?_) (fun e => hQ tp (by rw [oW_f e]; exact h))
  have ew : oW B T n s = (n, tF B T s.2.2, s.2.2) := if_pos e
  refine hQ w2 ⟨hT, by rw [hw2, hw]; exact t1, by rw [hw2, hw]; exact tb, ?_, ?_, by rw [ew]; exact hn3, p, hp, ?_, by rw [hw2, hw]; exact y4, by rw [hw2, hw]; exact y5, by rw [hw2, hw]; exact y6, by rw [hw2, hw]; exact y7⟩
  · rw [hw2, hw, ew]; rfl
  · rw [hw2, gF_sF, if_pos rfl, hw, ew]
    show gF tp 4 = fI (n, tF B T s.2.2, s.2.2)
    unfold fI
    rw [if_neg (show ¬ n = 0 by omega), y4, he e]
  · rw [ew]; intro h0; have : n = 0 := h0; omega
theorem N_isWord {tp : Md} {B : Nat → Nat} {T k : Nat} {s : PS} (hk : k < 16) (h : TN tp B T s) {Q : Int32 → Md → Prop} (h1 : (s.1 = 0 → tW B T s.2.2 k = true) → Q 1 tp) (h0 : (s.1 = 0 → tW B T s.2.2 k = false) → Q 0 tp) : qX9_isWord tp k Q := by
  obtain ⟨hT, t1, tb, t2, t3, b1, p, hp, he, y4, y5, y6, y7⟩ := h
  have g1 : tW B T p k = true → Q 1 tp := fun h => h1 (fun z => by rw [← he z]; exact h)
  have g0 : tW B T p k = false → Q 0 tp := fun h => h0 (fun z => by rw [← he z]; exact h)
  have hE := tE_b (B := B) hp
  have hl := s_b hk
  have k3 := tK_le B T p
  unfold qX9_isWord
  refine c_eq' (b := 1) y6 rfl (by omega) (by decide) (fun e1 => ?_) (fun n1 => g0 (by unfold tW; rw [decide_eq_false n1]; rfl))
  rw [y5, y4, pk_sub hE.1]
  refine c_eq (b := s_len.getD k 0) rfl rfl (by omega) (by omega) (fun e2 => ?_) (fun n2 => g0 (by unfold tW; rw [decide_eq_false n2, Bool.false_and, Bool.and_false]))
  refine pk_loop (fun n i (_ : Unit) => qX9_isWord_31 k Q n tp (nI i)) (fun i _ => tF B T p ≤ i ∧ ∀ j, j < i - tF B T p → B (tF B T p + j) = sN k j) (tE B T p) (tF B T p) () hE.1 ⟨Nat.le_refl _, fun j hj => by omega⟩ (fun n _ hI => ?_) (fun n i _ hi hI ih => ?_)
  · unfold qX9_isWord_31
    refine c_y (by rw [y5]; exact nI_le (Nat.le_refl _) (by omega)) (g1 ?_)
    unfold tW
    rw [decide_eq_true e1, decide_eq_true e2, eqB_t _ (fun j hj => hI.2 j (by omega))]; rfl
  · obtain ⟨hle, hI⟩ := hI
    obtain ⟨a1, a2⟩ := s_at (k := k) (j := i - tF B T p) hk (by omega)
    unfold qX9_isWord_31
    refine c_n (by rw [y5]; exact nI_ge hi (by omega)) ⟨vp_in_nI (by omega) (by decide), ?_⟩
    rw [y4, pk_sub hle, nI_clamp (by omega), nI_clamp (by omega), a1, ofI1, nI_add]
    refine ⟨vp_in_nI (by omega) (by omega), b_c (tb i (by omega)) a2 (fun e => ih () ⟨by omega, fun j hj => ?_⟩) (fun e => g0 ?_)⟩
    · by_cases ej : j = i - tF B T p
      · rw [ej, show tF B T p + (i - tF B T p) = i by omega]; exact e
      · exact hI j (by omega)
    · unfold tW
      rw [eqB_f (f := fun j => B (tF B T p + j)) (g := fun j => sN k j) _ (i - tF B T p) (by omega) (by show ¬ B (tF B T p + (i - tF B T p)) = _; rw [show tF B T p + (i - tF B T p) = i by omega]; exact e), Bool.and_false, Bool.and_false]
theorem N_isSign {tp : Md} {B : Nat → Nat} {T c : Nat} {s : PS} (hc : c < 128) (h : TN tp B T s) {Q : Int32 → Md → Prop} (h1 : (s.1 = 0 → tS B T s.2.2 c = true) → Q 1 tp) (h0 : (s.1 = 0 → tS B T s.2.2 c = false) → Q 0 tp) : qX9_isSign tp (nI c) Q := by
  obtain ⟨hT, t1, tb, t2, t3, b1, p, hp, he, y4, y5, y6, y7⟩ := h
  have g1 : tS B T p c = true → Q 1 tp := fun h => h1 (fun z => by rw [← he z]; exact h)
  have g0 : tS B T p c = false → Q 0 tp := fun h => h0 (fun z => by rw [← he z]; exact h)
  have hE := tE_b (B := B) hp
  have hF := tF_b (B := B) hp
  have k3 := tK_le B T p
  unfold qX9_isSign
  refine c_eq' (b := 3) y6 rfl (by omega) (by decide) (fun e1 => ?_) (fun n1 => g0 (by unfold tS; rw [decide_eq_false n1]; rfl))
  have hn := (tK_n (B := B) (T := T) (p := p) (by omega)).1
  refine c_n (by rw [t1, y4]; exact nI_ge hn (by omega)) ⟨by rw [y4]; exact vp_in_nI (by omega) (by decide), ?_⟩
  rw [y4, nI_clamp (by omega)]
  exact b_c' (tb _ hn) hc (fun e => g1 (by unfold tS; rw [decide_eq_true e1, decide_eq_true e]; rfl)) (fun e => g0 (by unfold tS; rw [decide_eq_false e, Bool.and_false]))
theorem N_isWordOf {tp : Md} {B : Nat → Nat} {T c : Nat} {s : PS} (hc : c < 128) (h : TN tp B T s) {Q : Int32 → Md → Prop} (h1 : (s.1 = 0 → tO B T s.2.2 c = true) → (∃ p, p ≤ T ∧ (s.1 = 0 → p = s.2.2) ∧ TKN tp B T p ∧ tO B T p c = true) → Q 1 tp) (h0 : (s.1 = 0 → tO B T s.2.2 c = false) → Q 0 tp) : qX9_isWordOf tp (nI c) Q := by
  obtain ⟨hT, t1, tb, t2, t3, b1, p, hp, he, y4, y5, y6, y7⟩ := h
  have g1 : tO B T p c = true → Q 1 tp := fun h => h1 (fun z => by rw [← he z]; exact h) ⟨p, hp, he, ⟨y4, y5, y6, y7⟩, h⟩
  have g0 : tO B T p c = false → Q 0 tp := fun h => h0 (fun z => by rw [← he z]; exact h)
  have hE := tE_b (B := B) hp
  have k3 := tK_le B T p
  unfold qX9_isWordOf
  refine c_eq' (b := 1) y6 rfl (by omega) (by decide) (fun e1 => ?_) (fun n1 => g0 (by unfold tO; rw [decide_eq_false n1]; rfl))
  rw [y5, y4, pk_sub hE.1]
  exact c_lt rfl rfl (by omega) (by omega) (fun e => g0 (by unfold tO; rw [decide_eq_false (show ¬ tE B T p - tF B T p ≤ c by omega), Bool.and_false])) (fun e => g1 (by unfold tO; rw [decide_eq_true e1, decide_eq_true (by omega)]; rfl))
theorem N_takeSign {tp : Md} {B : Nat → Nat} {T c : Nat} {s : PS} (hc : c < 128) (h : TN tp B T s) {Q : Md → Prop} (hQ : ∀ tp', TN tp' B T (oS B T c s) → Q tp') : qX9_takeSign tp (nI c) Q := by
  unfold qX9_takeSign
  refine N_isSign hc h (fun e => b_1' (N_advance h (fun tp' h' => hQ tp' ?_))) (fun e => b_0' (N_blame (n := 1) h (by decide) (by decide) (fun tp' h' => hQ tp' ?_)))
  · unfold oS; rw [pk_t oA_f oW_f e]; exact h'
  · unfold oS; rw [pk_f oA_f oW_f e]; exact h'
theorem N_takeWord {tp : Md} {B : Nat → Nat} {T k : Nat} {s : PS} (hk : k < 16) (h : TN tp B T s) {Q : Md → Prop} (hQ : ∀ tp', TN tp' B T (oK B T k s) → Q tp') : qX9_takeWord tp k Q := by
  unfold qX9_takeWord
  refine N_isWord hk h (fun e => b_1' (N_advance h (fun tp' h' => hQ tp' ?_))) (fun e => b_0' (N_blame (n := 1) h (by decide) (by decide) (fun tp' h' => hQ tp' ?_)))
  · unfold oK; rw [pk_t oA_f oW_f e]; exact h'
  · unfold oK; rw [pk_f oA_f oW_f e]; exact h'
theorem N_takeNumber {tp : Md} {B : Nat → Nat} {T mo : Nat} {s : PS} (hm : mo ≤ 9999) (h : TN tp B T s) {Q : Int32 → Md → Prop} (hQ : ∀ v tp', v ≤ mo → TN tp' B T (oN B T mo s) → ((oN B T mo s).1 = 0 → v = tV B T s.2.2) → Q (nI v) tp') : qX9_takeNumber tp (nI mo) Q := by
  obtain ⟨hT, t1, tb, t2, t3, b1, p, hp, he, y4, y5, y6, y7⟩ := id h
  have k3 := tK_le B T p
  have kv := tV_le B T p
  unfold qX9_takeNumber
  refine c_eq (b := 2) y6 rfl (by omega) (by decide) (fun e1 => ?_) (fun n1 => ?_)
  · refine c_le y7 rfl (by omega) (by omega) (fun e2 => N_advance h (fun tp' h' => ?_)) (fun n2 => N_blame (n := 2) h (by decide) (by decide) (fun tp' h' => hQ 0 tp' (by omega) ?_ (fun z => ?_)))
    · have eo : oN B T mo s = oA B T s := by
        unfold oN
        rw [pk_t (pk_s oA_f oW_f) oW_f (fun z => by rw [← he z]; exact decide_eq_true e1), pk_t oA_f oW_f (fun z => by rw [← he z]; exact decide_eq_true e2)]
      rw [y7]
      exact hQ _ tp' e2 (by rw [eo]; exact h') (fun z => by rw [he (ok_of (f := oN B T mo) oN_f z)])
    · have eo : oN B T mo s = oW B T 2 s := by
        unfold oN
        rw [pk_t (pk_s oA_f oW_f) oW_f (fun z => by rw [← he z]; exact decide_eq_true e1), pk_f oA_f oW_f (fun z => by rw [← he z]; exact decide_eq_false n2)]
      rw [eo]; exact h'
    · have eo : oN B T mo s = oW B T 2 s := by
        unfold oN
        rw [pk_t (pk_s oA_f oW_f) oW_f (fun z => by rw [← he z]; exact decide_eq_true e1), pk_f oA_f oW_f (fun z => by rw [← he z]; exact decide_eq_false n2)]
      rw [eo] at z; exact absurd z (oW_n (by decide))
  · have eo : oN B T mo s = oW B T 1 s := by
      unfold oN
      rw [pk_f (pk_s oA_f oW_f) oW_f (fun z => by rw [← he z]; exact decide_eq_false n1)]
    refine N_blame (n := 1) h (by decide) (by decide) (fun tp' h' => hQ 0 tp' (by omega) (by rw [eo]; exact h') (fun z => ?_))
    rw [eo] at z; exact absurd z (oW_n (by decide))
