/-- a byte as a number 0 .. 255 -/
def byn (x : Int8) : Nat := x.toBitVec.toNat
theorem by8 (P : Int8 → Prop) (h : ∀ b : Fin 256, P (Int8.ofBitVec (BitVec.ofFin b))) (x : Int8) : P x := h x.toBitVec.toFin
theorem byn_lt (x : Int8) : byn x < 256 := x.toBitVec.isLt
theorem b_i32 (x : Int8) : x.toInt32.toInt = if byn x < 128 then (byn x : Int) else (byn x : Int) - 256 := by
  revert x
  exact by8 (fun x => x.toInt32.toInt = if byn x < 128 then (byn x : Int) else (byn x : Int) - 256) (by decide +kernel)
theorem b_and (x : Int8) : x.toInt32 &&& 255 = nI (byn x) := by
  revert x
  exact by8 (fun x => x.toInt32 &&& 255 = nI (byn x)) (by decide +kernel)
theorem b_eq {x : Int8} {c : Nat} (hc : c < 128) : x.toInt32 = nI c ↔ byn x = c := by
  have e := b_i32 x
  have l := byn_lt x
  rw [← Int32.toInt_inj, nI_toInt (by omega), e]
  split <;> omega
theorem b_nI {x : Int8} {n : Nat} (h : byn x = n) (hn : n < 128) : x.toInt32 = nI n := (b_eq hn).2 h
theorem b_c {x : Int8} {n c : Nat} {P R : Prop} (hx : byn x = n) (hc : c < 128) (f : n = c → P) (g : ¬ n = c → R) : (x.toInt32 = nI c → P) ∧ (¬ x.toInt32 = nI c → R) := by
  rw [b_eq hc, hx]; exact ⟨f, g⟩
theorem b_c' {x : Int8} {n c : Nat} {P R : Prop} (hx : byn x = n) (hc : c < 128) (f : n = c → P) (g : ¬ n = c → R) : (¬ x.toInt32 = nI c → R) ∧ (x.toInt32 = nI c → P) := (b_c hx hc f g).symm
/-- the kind of a byte: 1 a letter, 2 a digit, 3 another -/
def kd (b : Nat) : Nat := if 97 ≤ b ∧ b ≤ 122 then 1 else if 48 ≤ b ∧ b ≤ 57 then 2 else 3
theorem kd_b (b : Nat) : 1 ≤ kd b ∧ kd b ≤ 3 := by unfold kd; split <;> (try split) <;> omega
theorem kd_1 {b : Nat} : kd b = 1 ↔ 97 ≤ b ∧ b ≤ 122 := by unfold kd; split <;> (try split) <;> omega
theorem kd_2 {b : Nat} : kd b = 2 ↔ 48 ≤ b ∧ b ≤ 57 := by unfold kd; split <;> (try split) <;> omega
theorem kd_3 {b : Nat} : kd b = 3 ↔ ¬ (97 ≤ b ∧ b ≤ 122) ∧ ¬ (48 ≤ b ∧ b ≤ 57) := by unfold kd; split <;> (try split) <;> omega
theorem N_kind {x : Int8} {n : Nat} (hx : byn x = n) {Q : Int32 → Prop} (hQ : Q (nI (kd n))) : qX9_kindOf x.toInt32 Q := by
  have e := b_i32 x
  have l := byn_lt x
  subst hx
  have h1 : kd (byn x) = 1 → Q 1 := fun h => by rw [h] at hQ; exact hQ
  have h2 : kd (byn x) = 2 → Q 2 := fun h => by rw [h] at hQ; exact hQ
  have h3 : kd (byn x) = 3 → Q 3 := fun h => by rw [h] at hQ; exact hQ
  rw [kd_1] at h1
  rw [kd_2] at h2
  rw [kd_3] at h3
  unfold qX9_kindOf qX9_kindOf_14
  simp only [Int32.lt_iff_toInt_lt, Int32.le_iff_toInt_le, ← Int32.toInt_inj, tl_0, tl_1, tl_2, tl_3, tl_4, tl_5, tl_6, tl_7, tl_8, tl_9, tl_10, tl_11, tl_12, tl_13, tl_15, tl_16, tl_20, tl_24, tl_26, tl_30, tl_32, tl_36, tl_39, tl_40, tl_45, tl_48, tl_50, tl_57, tl_59, tl_60, tl_61, tl_62, tl_64, tl_72, tl_73, tl_80, tl_90, tl_97, tl_99, tl_100, tl_120, tl_122, tl_123, tl_127, tl_128, tl_199, tl_200, tl_255, tl_256, tl_290, tl_399, tl_400, tl_500, tl_512, tl_520, tl_600, tl_999, tl_1000, tl_2000, tl_9999, tl_10000, tm_1, tm_2, tm_3, tm_4, tm_5, tm_6, tm_7, tm_8, tm_9, tm_128, e]
  by_cases hl : byn x < 128
  · simp only [if_pos hl]
    refine ⟨fun a => ⟨fun b => h3 (by omega), fun b => ⟨fun c => h3 (by omega), fun c => h2 (by omega)⟩⟩, fun a => ⟨fun d => ⟨fun b => h3 (by omega), fun b => ⟨fun c => h3 (by omega), fun c => h2 (by omega)⟩⟩, fun d => h1 (by omega)⟩⟩
  · simp only [if_neg hl]
    refine ⟨fun a => ⟨fun b => h3 (by omega), fun b => ⟨fun c => h3 (by omega), fun c => h2 (by omega)⟩⟩, fun a => ⟨fun d => ⟨fun b => h3 (by omega), fun b => ⟨fun c => h3 (by omega), fun c => h2 (by omega)⟩⟩, fun d => h1 (by omega)⟩⟩
/-- the first place at or behind p, below T, where P doesn't hold; T -/
def stp (P : Nat → Bool) (T : Nat) : Nat → Nat → Nat
  | 0, p => p
  | n + 1, p => if p < T ∧ P p = true then stp P T n (p + 1) else p
def run (P : Nat → Bool) (T p : Nat) : Nat := stp P T (T - p) p
theorem stp_b {P : Nat → Bool} {T : Nat} : ∀ n p, p + n = T → p ≤ stp P T n p ∧ stp P T n p ≤ T ∧ (∀ j, p ≤ j → j < stp P T n p → P j = true) ∧ (stp P T n p < T → P (stp P T n p) = false) := by
  intro n
  induction n with
  | zero => intro p h; show p ≤ p ∧ p ≤ T ∧ (∀ j, p ≤ j → j < p → P j = true) ∧ (p < T → P p = false); exact ⟨by omega, by omega, fun j _ _ => by omega, fun _ => by omega⟩
  | succ n ih =>
    intro p h
    by_cases c : p < T ∧ P p = true
    · have e : stp P T (n + 1) p = stp P T n (p + 1) := if_pos c
      rw [e]
      obtain ⟨a1, a2, a3, a4⟩ := ih (p + 1) (by omega)
      refine ⟨by omega, a2, fun j h1 h2 => ?_, a4⟩
      by_cases ej : j = p
      · rw [ej]; exact c.2
      · exact a3 j (by omega) h2
    · have e : stp P T (n + 1) p = p := if_neg c
      rw [e]
      refine ⟨by omega, by omega, fun j _ _ => by omega, fun hl => ?_⟩
      cases hb : P p with
      | false => rfl
      | true => exact absurd ⟨hl, hb⟩ c
theorem run_b {P : Nat → Bool} {T p : Nat} (h : p ≤ T) : p ≤ run P T p ∧ run P T p ≤ T ∧ (∀ j, p ≤ j → j < run P T p → P j = true) ∧ (run P T p < T → P (run P T p) = false) := stp_b (T - p) p (by omega)
theorem run_lt {P : Nat → Bool} {T p : Nat} (h : p < T) (hp : P p = true) : p < run P T p := by
  obtain ⟨a1, a2, a3, a4⟩ := run_b (P := P) (Nat.le_of_lt h)
  by_cases e : run P T p = p
  · rw [e] at a4; rw [a4 h] at hp; cases hp
  · omega
def blB (b : Nat) : Bool := b == 32 || b == 10
theorem bl_t {b : Nat} (h : blB b = true) : b = 32 ∨ b = 10 := by unfold blB at h; simpa using h
theorem bl_f {b : Nat} (h : blB b = false) : ¬ b = 32 ∧ ¬ b = 10 := by unfold blB at h; simpa using h
/-! the token behind p: where it begins, its kind (0 the end), where it ends, its number -/
def tF (B : Nat → Nat) (T p : Nat) : Nat := run (fun j => blB (B j)) T p
def tK (B : Nat → Nat) (T p : Nat) : Nat := if tF B T p < T then kd (B (tF B T p)) else 0
def tE (B : Nat → Nat) (T p : Nat) : Nat := if tK B T p = 0 then tF B T p else if tK B T p = 3 then tF B T p + 1 else run (fun j => kd (B j) == tK B T p) T (tF B T p)
def vlF (B : Nat → Nat) (f : Nat) : Nat → Nat
  | 0 => 0
  | n + 1 => min 10000 (vlF B f n * 10 + B (f + n) - 48)
def tV (B : Nat → Nat) (T p : Nat) : Nat := if tK B T p = 2 then vlF B (tF B T p) (tE B T p - tF B T p) else 0
theorem vlF_le (B : Nat → Nat) (f : Nat) : ∀ n, vlF B f n ≤ 10000 := by
  intro n
  cases n with
  | zero => show 0 ≤ 10000; omega
  | succ n => show min 10000 _ ≤ 10000; omega
theorem tV_le (B : Nat → Nat) (T p : Nat) : tV B T p ≤ 10000 := by
  unfold tV; split
  · exact vlF_le _ _ _
  · omega
theorem tF_b {B : Nat → Nat} {T p : Nat} (h : p ≤ T) : p ≤ tF B T p ∧ tF B T p ≤ T := ⟨(run_b h).1, (run_b h).2.1⟩
theorem tK_0 {B : Nat → Nat} {T p : Nat} (h : p ≤ T) : tK B T p = 0 ↔ tF B T p = T := by
  have hb := tF_b (B := B) h
  unfold tK
  by_cases c : tF B T p < T
  · rw [if_pos c]; have := kd_b (B (tF B T p)); omega
  · rw [if_neg c]; omega
theorem tK_le (B : Nat → Nat) (T p : Nat) : tK B T p ≤ 3 := by
  unfold tK; split
  · exact (kd_b _).2
  · omega
theorem tK_n {B : Nat → Nat} {T p : Nat} (h : tK B T p ≠ 0) : tF B T p < T ∧ tK B T p = kd (B (tF B T p)) := by
  unfold tK at h ⊢
  by_cases c : tF B T p < T
  · rw [if_pos c]; exact ⟨c, rfl⟩
  · rw [if_neg c] at h; exact absurd rfl h
theorem tE_0 {B : Nat → Nat} {T p : Nat} (h : tK B T p = 0) : tE B T p = tF B T p := by unfold tE; rw [if_pos h]
theorem tE_3 {B : Nat → Nat} {T p : Nat} (h : tK B T p = 3) : tE B T p = tF B T p + 1 := by unfold tE; rw [if_neg (by omega), if_pos h]
theorem tE_r {B : Nat → Nat} {T p : Nat} (h : tK B T p = 1 ∨ tK B T p = 2) : tE B T p = run (fun j => kd (B j) == tK B T p) T (tF B T p) := by unfold tE; rw [if_neg (by omega), if_neg (by omega)]
theorem tE_w {B : Nat → Nat} {T p : Nat} (h : p ≤ T) (hk : tK B T p = 1 ∨ tK B T p = 2) : tF B T p < tE B T p ∧ tE B T p ≤ T ∧ (∀ j, tF B T p ≤ j → j < tE B T p → kd (B j) = tK B T p) ∧ (tE B T p < T → kd (B (tE B T p)) ≠ tK B T p) := by
  obtain ⟨hn, he⟩ := tK_n (B := B) (T := T) (p := p) (by omega)
  rw [tE_r hk]
  obtain ⟨a1, a2, a3, a4⟩ := run_b (P := fun j => kd (B j) == tK B T p) (tF_b (B := B) h).2
  refine ⟨run_lt hn ?_, a2, fun j h1 h2 => ?_, fun hl => ?_⟩
  · show (kd (B (tF B T p)) == tK B T p) = true
    rw [← he]; exact beq_self_eq_true _
  · exact eq_of_beq (a3 j h1 h2)
  · exact ne_of_beq_false (a4 hl)
theorem tE_b {B : Nat → Nat} {T p : Nat} (h : p ≤ T) : tF B T p ≤ tE B T p ∧ tE B T p ≤ T := by
  have hb := tF_b (B := B) h
  have hk := tK_le B T p
  rcases (show tK B T p = 0 ∨ tK B T p = 3 ∨ (tK B T p = 1 ∨ tK B T p = 2) by omega) with e | e | e
  · rw [tE_0 e]; omega
  · rw [tE_3 e]; have := (tK_n (B := B) (T := T) (p := p) (by omega)).1; omega
  · have := tE_w h e; omega
