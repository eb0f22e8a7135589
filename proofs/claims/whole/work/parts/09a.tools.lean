theorem nl_14 : (14 : Int32) = nI 14 := rfl
theorem nl_17 : (17 : Int32) = nI 17 := rfl
theorem nl_18 : (18 : Int32) = nI 18 := rfl
theorem nl_19 : (19 : Int32) = nI 19 := rfl
theorem nl_21 : (21 : Int32) = nI 21 := rfl
theorem nl_22 : (22 : Int32) = nI 22 := rfl
theorem nl_23 : (23 : Int32) = nI 23 := rfl
theorem nl_25 : (25 : Int32) = nI 25 := rfl
theorem nl_27 : (27 : Int32) = nI 27 := rfl
theorem nl_28 : (28 : Int32) = nI 28 := rfl
theorem nl_29 : (29 : Int32) = nI 29 := rfl
theorem nl_31 : (31 : Int32) = nI 31 := rfl
theorem nl_33 : (33 : Int32) = nI 33 := rfl
theorem nl_34 : (34 : Int32) = nI 34 := rfl
theorem nl_35 : (35 : Int32) = nI 35 := rfl
theorem nl_47 : (47 : Int32) = nI 47 := rfl
theorem nl_51 : (51 : Int32) = nI 51 := rfl
theorem nl_63 : (63 : Int32) = nI 63 := rfl
theorem nl_110 : (110 : Int32) = nI 110 := rfl
theorem nl_195 : (195 : Int32) = nI 195 := rfl
theorem nl_240 : (240 : Int32) = nI 240 := rfl
theorem nl_1370 : (1370 : Int32) = nI 1370 := rfl
theorem nl_3710 : (3710 : Int32) = nI 3710 := rfl
theorem nl_6030 : (6030 : Int32) = nI 6030 := rfl
theorem nl_6690 : (6690 : Int32) = nI 6690 := rfl
theorem nl_7490 : (7490 : Int32) = nI 7490 := rfl
theorem nl_7610 : (7610 : Int32) = nI 7610 := rfl
theorem nl_9170 : (9170 : Int32) = nI 9170 := rfl
theorem nl_11570 : (11570 : Int32) = nI 11570 := rfl
def oI (n : Nat) : Int32 := nI n - 1
theorem oI_0 : oI 0 = -1 := by decide
theorem oI_s (n : Nat) : oI (n + 1) = nI n := nI_pred n
theorem oI_toInt {n : Nat} (h : n < 2 ^ 30) : (oI n).toInt = (n : Int) - 1 := nI_pred_toInt h
theorem oI_pos {n : Nat} (h : 0 < n) : oI n = nI (n - 1) := by
  obtain ⟨k, rfl⟩ : ∃ k, n = k + 1 := ⟨n - 1, by omega⟩
  exact oI_s k
theorem oI_eqn {n k : Nat} (h : n < 2 ^ 30) (hk : k < 2 ^ 30) : oI n = nI k ↔ n = k + 1 := by
  rw [← Int32.toInt_inj, oI_toInt h, nI_toInt (by omega)]; omega
theorem oI_eqm {n : Nat} (h : n < 2 ^ 30) : oI n = -1 ↔ n = 0 := by
  rw [← Int32.toInt_inj, oI_toInt h, tm_1]; omega
theorem oI_inj {n k : Nat} (h : n < 2 ^ 30) (hk : k < 2 ^ 30) : oI n = oI k ↔ n = k := by
  rw [← Int32.toInt_inj, oI_toInt h, oI_toInt hk]; omega
theorem nI_m1 {n : Nat} (h : n < 2 ^ 31) : ¬ nI n = -1 := by
  rw [← Int32.toInt_inj, nI_toInt h, tm_1]; omega
theorem nI_neg {n k : Nat} (h : n < 2 ^ 31) (hk : (-(nI k)).toInt < 0) : ¬ nI n = -(nI k) := by
  rw [← Int32.toInt_inj, nI_toInt h]; omega
theorem ofI1 : Int32.ofInt 1 = nI 1 := rfl
theorem ofIm1 (n : Nat) : nI (n + 1) + Int32.ofInt (-1) = nI n := pk_m1 n
theorem oI_dec (n : Nat) : nI n + Int32.ofInt (-1) = oI n := by
  unfold oI; rw [Int32.sub_eq_add_neg]; rfl
def upc (A : Nat → Nat → Nat) (c i v : Nat) : Nat → Nat → Nat := fun d => if d = c then va_up (A c) i v else A d
theorem upc_eq (A : Nat → Nat → Nat) (c i v : Nat) : upc A c i v c = va_up (A c) i v := if_pos rfl
theorem upc_ne (A : Nat → Nat → Nat) {c d : Nat} (i v : Nat) (h : d ≠ c) : upc A c i v d = A d := if_neg h
theorem c_lt {x y : Int32} {a b : Nat} {P R : Prop} (hx : x = nI a) (hy : y = nI b) (ha : a < 2 ^ 31) (hb : b < 2 ^ 31) (f : a < b → P) (g : ¬ a < b → R) : (x < y → P) ∧ (¬ x < y → R) := by
  subst hx hy
  rw [nI_ltI ha hb]; exact ⟨f, g⟩
theorem c_lt' {x y : Int32} {a b : Nat} {P R : Prop} (hx : x = nI a) (hy : y = nI b) (ha : a < 2 ^ 31) (hb : b < 2 ^ 31) (f : a < b → P) (g : ¬ a < b → R) : (¬ x < y → R) ∧ (x < y → P) := (c_lt hx hy ha hb f g).symm
theorem c_le {x y : Int32} {a b : Nat} {P R : Prop} (hx : x = nI a) (hy : y = nI b) (ha : a < 2 ^ 31) (hb : b < 2 ^ 31) (f : a ≤ b → P) (g : ¬ a ≤ b → R) : (x ≤ y → P) ∧ (¬ x ≤ y → R) := by
  subst hx hy
  rw [nI_leI ha hb]; exact ⟨f, g⟩
theorem c_le' {x y : Int32} {a b : Nat} {P R : Prop} (hx : x = nI a) (hy : y = nI b) (ha : a < 2 ^ 31) (hb : b < 2 ^ 31) (f : a ≤ b → P) (g : ¬ a ≤ b → R) : (¬ x ≤ y → R) ∧ (x ≤ y → P) := (c_le hx hy ha hb f g).symm
theorem c_eq {x y : Int32} {a b : Nat} {P R : Prop} (hx : x = nI a) (hy : y = nI b) (ha : a < 2 ^ 31) (hb : b < 2 ^ 31) (f : a = b → P) (g : ¬ a = b → R) : (x = y → P) ∧ (¬ x = y → R) := by
  subst hx hy
  rw [nI_eq ha hb]; exact ⟨f, g⟩
theorem c_eq' {x y : Int32} {a b : Nat} {P R : Prop} (hx : x = nI a) (hy : y = nI b) (ha : a < 2 ^ 31) (hb : b < 2 ^ 31) (f : a = b → P) (g : ¬ a = b → R) : (¬ x = y → R) ∧ (x = y → P) := (c_eq hx hy ha hb f g).symm
theorem c_in {x : Int32} {n N : Nat} {P : Prop} (hx : x = nI n) (h : n < N) (hN : N < 2 ^ 31) (k : P) : vp_in x N ∧ P := ⟨by rw [hx]; exact vp_in_nI h hN, k⟩
theorem c_y {c P R : Prop} (h : c) (k : P) : (c → P) ∧ (¬ c → R) := ⟨fun _ => k, fun n => absurd h n⟩
theorem c_n {c P R : Prop} (h : ¬ c) (k : R) : (c → P) ∧ (¬ c → R) := ⟨fun n => absurd n h, fun _ => k⟩
theorem c_y' {c P R : Prop} (h : c) (k : P) : (¬ c → R) ∧ (c → P) := ⟨fun n => absurd h n, fun _ => k⟩
theorem c_n' {c P R : Prop} (h : ¬ c) (k : R) : (¬ c → R) ∧ (c → P) := ⟨fun _ => k, fun n => absurd n h⟩
/-- behind a call that answers 0 or 1 -/
theorem b_1 {P R : Prop} (k : P) : ((1 : Int32) = 0 ∨ (1 : Int32) = 1) → (¬ (1 : Int32) = 0 → P) ∧ ((1 : Int32) = 0 → R) := fun _ => ⟨fun _ => k, fun h => absurd h (by decide)⟩
theorem b_1' {P R : Prop} (k : P) : ((1 : Int32) = 0 ∨ (1 : Int32) = 1) → ((1 : Int32) = 0 → R) ∧ (¬ (1 : Int32) = 0 → P) := fun _ => ⟨fun h => absurd h (by decide), fun _ => k⟩
theorem b_0 {P R : Prop} (k : R) : ((0 : Int32) = 0 ∨ (0 : Int32) = 1) → (¬ (0 : Int32) = 0 → P) ∧ ((0 : Int32) = 0 → R) := fun _ => ⟨fun h => absurd rfl h, fun _ => k⟩
theorem b_0' {P R : Prop} (k : R) : ((0 : Int32) = 0 ∨ (0 : Int32) = 1) → ((0 : Int32) = 0 → R) ∧ (¬ (0 : Int32) = 0 → P) := fun _ => ⟨fun _ => k, fun h => absurd rfl h⟩
/-- x is one of 0 .. n - 1, or not: class and reference -/
theorem N_ix {x y : Int32} {n : Nat} {P0 P1 : Prop} (hn : n < 2 ^ 31) (hy : y = nI n) (h0 : ¬ (0 ≤ x.toInt ∧ x.toInt < n) → P0) (h1 : ∀ s, s < n → x = nI s → P1) : (x < 0 → P0) ∧ (¬ x < 0 → (y ≤ x → P0) ∧ (¬ y ≤ x → P1)) := by
  rcases ix32 x hn with hb | ⟨s, hs, rfl⟩
  · exact has_bad hn hy hb (h0 hb)
  · exact has_ok hn hy hs (h1 s hs rfl)
theorem q_yr0 {x : Int32} {Q : Int32 → Prop} (h : ¬ (0 ≤ x.toInt ∧ x.toInt < 400)) (hQ : Q 0) : qX11_isYear x Q := by
  unfold qX11_isYear; exact has_bad (n := 400) (by decide) rfl h hQ
theorem q_yr1 {s : Nat} {Q : Int32 → Prop} (h : s < 400) (hQ : Q 1) : qX11_isYear (nI s) Q := by
  unfold qX11_isYear; exact has_ok (n := 400) (by decide) rfl h hQ
theorem q_to0 {x : Int32} {Q : Int32 → Prop} (h : ¬ (0 ≤ x.toInt ∧ x.toInt < 3)) (hQ : Q 0) : qX11_isTongue x Q := by
  unfold qX11_isTongue; exact has_bad (n := 3) (by decide) rfl h hQ
theorem q_to1 {s : Nat} {Q : Int32 → Prop} (h : s < 3) (hQ : Q 1) : qX11_isTongue (nI s) Q := by
  unfold qX11_isTongue; exact has_ok (n := 3) (by decide) rfl h hQ
theorem q_nu0 {x : Int32} {Q : Int32 → Prop} (h : ¬ (0 ≤ x.toInt ∧ x.toInt < 10000)) (hQ : Q 0) : qX11_isNumber x Q := by
  unfold qX11_isNumber
  refine ⟨fun _ => hQ, fun h1 => ⟨fun _ => hQ, fun h2 => ?_⟩⟩
  simp only [Int32.lt_iff_toInt_lt, Int32.le_iff_toInt_le, ← Int32.toInt_inj, tl_0, tl_1, tl_2, tl_3, tl_4, tl_5, tl_6, tl_7, tl_8, tl_9, tl_10, tl_11, tl_12, tl_13, tl_15, tl_16, tl_20, tl_24, tl_26, tl_30, tl_32, tl_36, tl_39, tl_40, tl_45, tl_48, tl_50, tl_57, tl_59, tl_60, tl_61, tl_62, tl_64, tl_72, tl_73, tl_80, tl_90, tl_97, tl_99, tl_100, tl_120, tl_122, tl_123, tl_127, tl_128, tl_199, tl_200, tl_255, tl_256, tl_290, tl_399, tl_400, tl_500, tl_512, tl_520, tl_600, tl_999, tl_1000, tl_2000, tl_9999, tl_10000, tm_1, tm_2, tm_3, tm_4, tm_5, tm_6, tm_7, tm_8, tm_9, tm_128] at h1 h2; omega
theorem q_nu1 {s : Nat} {Q : Int32 → Prop} (h : s < 10000) (hQ : Q 1) : qX11_isNumber (nI s) Q := by
  unfold qX11_isNumber
  exact ⟨fun h1 => absurd h1 (nI_pos (by omega)), fun _ => ⟨fun h2 => absurd h2 (nI_nlt (a := 9999) (by omega) (by decide)), fun _ => hQ⟩⟩
theorem m_yr0 {x : Int32} {Q : Int32 → Prop} (h : ¬ (0 ≤ x.toInt ∧ x.toInt < 400)) (hQ : Q 0) : qX12_isYear x Q := by
  unfold qX12_isYear; exact inN_bad (n := 399) rfl h (fun _ => hQ)
theorem m_yr1 {s : Nat} {Q : Int32 → Prop} (h : s < 400) (hQ : Q 1) : qX12_isYear (nI s) Q := by
  unfold qX12_isYear; exact inN_ok (n := 399) (by decide) rfl (by omega) (fun _ => hQ)
theorem m_to0 {x : Int32} {Q : Int32 → Prop} (h : ¬ (0 ≤ x.toInt ∧ x.toInt < 3)) (hQ : Q 0) : qX12_isTongue x Q := by
  unfold qX12_isTongue; exact inN_bad (n := 2) rfl h (fun _ => hQ)
theorem m_to1 {s : Nat} {Q : Int32 → Prop} (h : s < 3) (hQ : Q 1) : qX12_isTongue (nI s) Q := by
  unfold qX12_isTongue; exact inN_ok (n := 2) (by decide) rfl (by omega) (fun _ => hQ)
theorem imin_nI {a b : Nat} (ha : a < 2 ^ 31) (hb : b < 2 ^ 31) : imin (nI a) (nI b) = nI (min a b) := by
  unfold imin
  simp only [nI_ltI hb ha]
  by_cases h : b < a
  · rw [if_pos h]; congr 1; omega
  · rw [if_neg h]; congr 1; omega
theorem imax_nI {a b : Nat} (ha : a < 2 ^ 31) (hb : b < 2 ^ 31) : imax (nI a) (nI b) = nI (max a b) := by
  unfold imax
  simp only [nI_ltI ha hb]
  by_cases h : a < b
  · rw [if_pos h]; congr 1; omega
  · rw [if_neg h]; congr 1; omega
theorem cpyT {a b n N0 N1 : Nat} (h0 : a + n ≤ N0) (h1 : b + n ≤ N1) (k0 : N0 < 2 ^ 31) (k1 : N1 < 2 ^ 31) : cpyOK (nI a) (nI b) (nI n) N0 N1 = True := by
  apply eq_true
  unfold cpyOK
  rw [nI_clamp (by omega), nI_clamp (by omega), nI_clamp (by omega)]
  exact ⟨nI_pos (by omega), nI_pos (by omega), nI_pos (by omega), h0, h1⟩
