def TKN (tp : Md) (B : Nat → Nat) (T p : Nat) : Prop := gF tp 4 = nI (tF B T p) ∧ gF tp 5 = nI (tE B T p) ∧ gF tp 6 = nI (tK B T p) ∧ gF tp 7 = nI (tV B T p)
theorem N_adv0 {tp : Md} {B : Nat → Nat} {T q : Nat} (hT : T ≤ 500) (t1 : gF tp 1 = nI T) (tb : ∀ j, j < T → byn (gB tp 0 j) = B j) (hq : q ≤ T) (t5 : gF tp 5 = nI q) {Q : Md → Prop} (hQ : ∀ tp', Fr [(0, 4), (0, 5), (0, 6), (0, 7)] tp tp' → TKN tp' B T q → Q tp') : qX9_advance tp Q := by
  obtain ⟨f1, f2, f3, f4⟩ := run_b (P := fun j => blB (B j)) hq
  have k3 := tK_le B T q
  have fE := tE_b (B := B) hq
  unfold qX9_advance
  intro w5 hw5
  refine pk_loop (fun n i s => qX9_advance_8 Q n s) (fun i s => Fr [(0, 4), (0, 5), (0, 6), (0, 7)] tp s ∧ gF s 4 = nI i ∧ q ≤ i) (tF B T q) q w5 f1 ⟨by rw [hw5]; exact Fr.sF 4 _ (by decide), by rw [hw5, gF_sF, if_pos rfl]; exact t5, Nat.le_refl _⟩ (fun n s hI => ?_) (fun n i s hi hI ih => ?_)
  · obtain ⟨fr, s4, -⟩ := hI
    have s1 : gF s 1 = nI T := (fr.1 1 (by decide)).trans t1
    have sb : gB s 0 = gB tp 0 := fr.2.2.2.1 0 (by decide)
    have f2' : tF B T q ≤ T := f2
    have k60 : qX9_advance_60 Q s := by
      unfold qX9_advance_60
      intro w65 h65 w70 h70
      have fw : Fr [(0, 4), (0, 5), (0, 6), (0, 7)] tp w70 := by rw [h70, h65]; exact Fr.tr (Fr.tr fr (Fr.sF 5 _ (by decide))) (Fr.sF 7 _ (by decide))
      have w1 : gF w70 1 = nI T := (fw.1 1 (by decide)).trans t1
      have wb : gB w70 0 = gB tp 0 := fw.2.2.2.1 0 (by decide)
      have w4 : gF w70 4 = nI (tF B T q) := by rw [h70, h65]; exact s4
      have w5' : gF w70 5 = nI (tF B T q) := by rw [h70, h65]; exact s4
      have w7 : gF w70 7 = nI 0 := by rw [h70]; rfl
      have k101 : ∀ z : Int32, z = nI (tK B T q) → qX9_advance_101 Q w70 z := by
        intro z hz
        unfold qX9_advance_101
        intro w101 h101
        have fx : Fr [(0, 4), (0, 5), (0, 6), (0, 7)] tp w101 := by rw [h101]; exact Fr.tr fw (Fr.sF 6 _ (by decide))
        have x1 : gF w101 1 = nI T := (fx.1 1 (by decide)).trans t1
        have xb : gB w101 0 = gB tp 0 := fx.2.2.2.1 0 (by decide)
        have x4 : gF w101 4 = nI (tF B T q) := by rw [h101]; exact w4
        have x5 : gF w101 5 = nI (tF B T q) := by rw [h101]; exact w5'
        have x6 : gF w101 6 = nI (tK B T q) := by rw [h101]; exact hz
        have x7 : gF w101 7 = nI 0 := by rw [h101]; exact w7
        refine c_eq' (b := 3) x6 rfl (by omega) (by omega) (fun h => ?_) (fun h => ?_)
        · intro w119 h119
          refine hQ w119 (by rw [h119]; exact Fr.tr fx (Fr.sF 5 _ (by decide))) ⟨by rw [h119]; exact x4, ?_, by rw [h119]; exact x6, ?_⟩
          · rw [h119, gF_sF, if_pos rfl, x5, nI_1, tE_3 h]
          · rw [h119]; show gF w101 7 = _; rw [x7]; unfold tV; rw [if_neg (by omega)]
        · refine pk_loop (fun n i s => qX9_advance_123 Q n s) (fun i s => Fr [(0, 4), (0, 5), (0, 6), (0, 7)] tp s ∧ gF s 4 = nI (tF B T q) ∧ gF s 5 = nI i ∧ gF s 6 = nI (tK B T q) ∧ gF s 7 = nI (if tK B T q = 2 then vlF B (tF B T q) (i - tF B T q) else 0) ∧ tF B T q ≤ i) (tE B T q) (tF B T q) w101 fE.1 ⟨fx, x4, x5, x6, ?_, Nat.le_refl _⟩ (fun n s hI => ?_) (fun n i s hi hI ih => ?_)
          · rw [x7]; split
            · rw [Nat.sub_self]; rfl
            · rfl
          · obtain ⟨fy, y4, y5, y6, y7, -⟩ := hI
            have y1 : gF s 1 = nI T := (fy.1 1 (by decide)).trans t1
            have yb : gB s 0 = gB tp 0 := fy.2.2.2.1 0 (by decide)
            have fin : Q s := hQ s fy ⟨y4, y5, y6, y7⟩
            unfold qX9_advance_123
            refine c_le y1 y5 (by omega) (by omega) (fun _ => fin) (fun hl => ⟨by rw [y5]; exact vp_in_nI (by omega) (by decide), ?_⟩)
            have hk : tK B T q = 1 ∨ tK B T q = 2 := by
              rcases (show tK B T q = 0 ∨ tK B T q = 1 ∨ tK B T q = 2 by omega) with e | e | e
              · have e1 := tE_0 e; have e2 := (tK_0 hq).1 e; omega
              · exact Or.inl e
              · exact Or.inr e
            have ne := (tE_w hq hk).2.2.2 (by omega)
            have kb := kd_b (B (tE B T q))
            rw [y5, nI_clamp (by omega), yb]
            refine N_kind (tb _ (by omega)) ?_
            exact c_eq' rfl y6 (by omega) (by omega) (fun e => absurd e ne) (fun _ => fin)
          · obtain ⟨fy, y4, y5, y6, y7, hle⟩ := hI
            have y1 : gF s 1 = nI T := (fy.1 1 (by decide)).trans t1
            have yb : gB s 0 = gB tp 0 := fy.2.2.2.1 0 (by decide)
            have hk : tK B T q = 1 ∨ tK B T q = 2 := by
              rcases (show tK B T q = 0 ∨ tK B T q = 1 ∨ tK B T q = 2 by omega) with e | e | e
              · have e1 := tE_0 e; omega
              · exact Or.inl e
              · exact Or.inr e
            have hkd := (tE_w hq hk).2.2.1 i hle hi
            have kb := kd_b (B i)
            unfold qX9_advance_123
            refine c_n (by rw [y1, y5]; exact nI_ge (by omega) (by omega)) ⟨by rw [y5]; exact vp_in_nI (by omega) (by decide), ?_⟩
            have hbi := tb i (by omega)
            rw [y5, nI_clamp (by omega), yb]
            refine N_kind hbi ?_
            refine c_eq' rfl y6 (by omega) (by omega) (fun e => ?_) (fun e => absurd hkd e)
            refine c_eq' (b := 2) y6 rfl (by omega) (by omega) (fun e2 => ⟨vp_in_nI (by omega) (by decide), fun w188 h188 => ?_⟩) (fun e2 => ?_)
            · unfold qX9_advance_191
              intro w198 h198
              refine ih w198 ⟨by rw [h198, h188]; exact Fr.tr (Fr.tr fy (Fr.sF 7 _ (by decide))) (Fr.sF 5 _ (by decide)), by rw [h198, h188]; exact y4, ?_, by rw [h198, h188]; exact y6, ?_, by omega⟩
              · rw [h198, gF_sF, if_pos rfl, h188]; show gF s 5 + 1 = _; rw [y5, nI_1]
              · rw [h198]; show gF w188 7 = _
                rw [e2] at hkd
                have hd := kd_2.1 hkd
                have hv := vlF_le B (tF B T q) (i - tF B T q)
                rw [h188, gF_sF, if_pos rfl, y7, if_pos e2, b_nI hbi (by omega), if_pos e2, show i + 1 - tF B T q = (i - tF B T q) + 1 by omega]
                rw [nl_10, pk_mul, nI_add, nl_48, pk_sub (by omega), nl_10000, imin_nI (by omega) (by omega)]
                show _ = nI (min 10000 (vlF B (tF B T q) (i - tF B T q) * 10 + B (tF B T q + (i - tF B T q)) - 48))
                rw [show tF B T q + (i - tF B T q) = i by omega]
            · unfold qX9_advance_191
              intro w198 h198
              refine ih w198 ⟨by rw [h198]; exact Fr.tr fy (Fr.sF 5 _ (by decide)), by rw [h198]; exact y4, ?_, by rw [h198]; exact y6, ?_, by omega⟩
              · rw [h198, gF_sF, if_pos rfl, y5, nI_1]
              · rw [h198]; show gF s 7 = _; rw [y7, if_neg e2, if_neg e2]
      refine c_le w1 w4 (by omega) (by omega) (fun h => k101 0 ?_) (fun h => ⟨by rw [w4]; exact vp_in_nI (by omega) (by decide), ?_⟩)
      · rw [(tK_0 hq).2 (by omega)]; rfl
      · rw [w4, nI_clamp (by omega), wb]
        refine N_kind (tb _ (by omega)) (k101 _ ?_)
        unfold tK; rw [if_pos (by omega)]
    unfold qX9_advance_8
    refine c_le s1 s4 (by omega) (by omega) (fun _ => k60) (fun h => ⟨by rw [s4]; exact vp_in_nI (by omega) (by decide), ?_⟩)
    obtain ⟨n1, n2⟩ := bl_f (f4 (by show tF B T q < T; omega))
    have hb := tb (tF B T q) (by omega)
    rw [s4, nI_clamp (by omega), sb]
    exact b_c (c := 32) hb (by decide) (fun e => absurd e n1) (fun _ => ⟨vp_in_nI (by omega) (by decide), b_c' (c := 10) hb (by decide) (fun e => absurd e n2) (fun _ => k60)⟩)
  · obtain ⟨fr, s4, hqi⟩ := hI
    have s1 : gF s 1 = nI T := (fr.1 1 (by decide)).trans t1
    have sb : gB s 0 = gB tp 0 := fr.2.2.2.1 0 (by decide)
    have hiT : i < T := Nat.lt_of_lt_of_le hi f2
    unfold qX9_advance_8
    have k47 : qX9_advance_47 Q (qX9_advance_8 Q n) s := by
      unfold qX9_advance_47
      intro w54 h54
      refine ih w54 ⟨by rw [h54]; exact Fr.tr fr (Fr.sF 4 _ (by decide)), ?_, by omega⟩
      rw [h54, gF_sF, if_pos rfl, s4, nI_1]
    have hbl := bl_t (f3 i hqi hi)
    have hb := tb i hiT
    refine c_n (by rw [s1, s4]; exact nI_ge hiT (by omega)) ⟨by rw [s4]; exact vp_in_nI (by omega) (by decide), ?_⟩
    rw [s4, nI_clamp (by omega), sb]
    exact b_c (c := 32) hb (by decide) (fun _ => k47) (fun n1 => ⟨vp_in_nI (by omega) (by decide), b_c' (c := 10) hb (by decide) (fun _ => k47) (fun n2 => absurd hbl (by omega))⟩)

def sgB (a b : Nat) : Bool := b == 62 || b == 59 || b == 35 || b == 45 || (a == 1 && (b == 60 || b == 61))
def TKM (m : Md) (B : Nat → Nat) (T a p : Nat) : Prop := gF m 12 = nI (tF B T p) ∧ (¬ (tK B T p = 2 ∧ a = 0) → gF m 11 = nI (tE B T p)) ∧ (tK B T p = 0 → gF m 13 = nI 0) ∧ (tK B T p = 1 → gF m 13 = nI 1) ∧ (tK B T p = 2 → a = 0 → gF m 13 = nI 4) ∧ (tK B T p = 2 → a = 1 → gF m 13 = nI 2 ∧ ∃ v : Nat, v ≤ 99999 ∧ min 10000 v = tV B T p ∧ gF m 14 = nI v) ∧ (tK B T p = 3 → gF m 14 = nI (B (tF B T p)) ∧ gF m 13 = nI (if sgB a (B (tF B T p)) then 3 else 4))
theorem M_see {m : Md} {B : Nat → Nat} {T i : Nat} {x : Int32} (hT : T ≤ 500) (m10 : gF m 10 = nI T) (mb : ∀ j, j < T → byn (gB m 4 j) = B j) (hx : x = nI i) (hi : i ≤ 500) {Q : Int32 → Md → Prop} (h1 : i < T → Q (nI (B i)) m) (h0 : ¬ i < T → Q (-1) m) : qX12_see m x Q := by
  subst hx
  unfold qX12_see
  refine c_le m10 rfl (by omega) (by omega) (fun h => h0 (by omega)) (fun h => ⟨vp_in_nI (by omega) (by decide), ?_⟩)
  rw [nI_clamp (by omega), b_and, mb i (by omega)]
  exact h1 (by omega)
theorem M_inB {b lo hi : Nat} {L H : Int64} (hL : L.toInt = (lo : Int)) (hH : H.toInt = (hi : Int)) (hb : b < 256) {Q : Int32 → Prop} (f : lo ≤ b → b ≤ hi → Q 1) (g : ¬ (lo ≤ b ∧ b ≤ hi) → Q 0) : qX12_in (nI b).toInt64 L H Q := by
  refine s_in (fun a1 a2 => ?_) (fun a1 => ?_)
  · rw [Int32.toInt_toInt64, nI_toInt (by omega)] at a1 a2
    exact f (by omega) (by omega)
  · rw [Int32.toInt_toInt64, nI_toInt (by omega)] at a1
    exact g (by omega)
theorem M_in1 {lo : Nat} {L H : Int64} (hL : L.toInt = (lo : Int)) {Q : Int32 → Prop} (g : Q 0) : qX12_in (-1 : Int32).toInt64 L H Q := by
  refine s_in (fun a1 a2 => ?_) (fun _ => g)
  rw [Int32.toInt_toInt64, tm_1] at a1
  omega
theorem M_single {u : Md} {f a b : Nat} (h11 : gF u 11 = nI f) (h17 : gF u 17 = nI a) (ha : a ≤ 1) (hb : b < 256) {Q : Md → Prop} (hQ : ∀ w, Fr [(0, 11), (0, 12), (0, 13), (0, 14)] u w → gF w 12 = gF u 12 → gF w 11 = nI (f + 1) → gF w 14 = nI b → gF w 13 = nI (if sgB a b then 3 else 4) → Q w) : qX12_next__221 Q u (nI b) := by
  have k285 : ∀ (u' : Md) (z : Nat), u' = sF u 14 (nI b) → z = (if sgB a b then 3 else 4) → qX12_next__285 Q u' (nI z) := by
    intro u' z hu hz
    unfold qX12_next__285
    intro w hw w2 hw2
    refine hQ w2 (by rw [hw2, hw, hu]; exact Fr.tr (Fr.tr (Fr.sF 14 _ (by decide)) (Fr.sF 13 _ (by decide))) (Fr.sF 11 _ (by decide))) (by rw [hw2, hw, hu]; rfl) ?_ ?_ ?_
    · rw [hw2, gF_sF, if_pos rfl, hw, hu]; show gF u 11 + 1 = _; rw [h11, nI_1]
    · rw [hw2, hw, hu]; rfl
    · rw [hw2, hw, ← hz]; rfl
  have k1 : sgB a b = true → qX12_next__245 Q u (nI b) := by
    intro h
    unfold qX12_next__245 qX12_next__250
    intro w hw
    refine ⟨fun _ => ?_, fun h => absurd h (by decide)⟩
    unfold qX12_next__280
    exact k285 w 3 hw (by rw [h]; rfl)
  unfold qX12_next__221
  refine c_eq (b := 62) rfl rfl (by omega) (by decide) (fun e => k1 (by simp [sgB, e])) (fun n1 => ?_)
  refine c_eq (b := 59) rfl rfl (by omega) (by decide) (fun e => k1 (by simp [sgB, e])) (fun n2 => ?_)
  refine c_eq (b := 35) rfl rfl (by omega) (by decide) (fun e => k1 (by simp [sgB, e])) (fun n3 => ?_)
  refine c_eq' (b := 45) rfl rfl (by omega) (by decide) (fun e => k1 (by simp [sgB, e])) (fun n4 => ?_)
  unfold qX12_next__250
  intro w hw
  refine ⟨fun h => absurd rfl h, fun _ => ?_⟩
  refine c_eq (a := a) (b := 0) (by rw [hw]; exact h17) rfl (by omega) (by decide) (fun e0 => ?_) (fun e1 => ?_)
  · unfold qX12_next__284
    exact k285 w 4 hw (by simp [sgB, n1, n2, n3, n4, e0])
  · have ea : a = 1 := by omega
    refine c_eq (b := 60) rfl rfl (by omega) (by decide) (fun e => ?_) (fun n5 => ?_)
    · unfold qX12_next__280
      exact k285 w 3 hw (by simp [sgB, e, ea])
    · refine c_eq' (b := 61) rfl rfl (by omega) (by decide) (fun e => ?_) (fun n6 => ?_)
      · unfold qX12_next__280
        exact k285 w 3 hw (by simp [sgB, e, ea])
      · unfold qX12_next__284
        exact k285 w 4 hw (by simp [sgB, n1, n2, n3, n4, n5, n6])
theorem M_next0 {m : Md} {B : Nat → Nat} {T a q : Nat} (hT : T ≤ 500) (m10 : gF m 10 = nI T) (mb : ∀ j, j < T → byn (gB m 4 j) = B j) (m17 : gF m 17 = nI a) (ha : a ≤ 1) (hq : q ≤ T) (m11 : gF m 11 = nI q) {Q : Md → Prop} (hQ : ∀ m', Fr [(0, 11), (0, 12), (0, 13), (0, 14)] m m' → TKM m' B T a q → Q m') : qX12_next_ m Q := by
  obtain ⟨f1, f2, f3, f4⟩ := run_b (P := fun j => blB (B j)) hq
  have k3 := tK_le B T q
  have fE := tE_b (B := B) hq
  have hB : ∀ j, j < T → B j < 256 := fun j hj => by rw [← mb j hj]; exact byn_lt _
  unfold qX12_next_
  refine pk_loop (fun n i s => qX12_next__0 Q n s) (fun i s => Fr [(0, 11), (0, 12), (0, 13), (0, 14)] m s ∧ gF s 11 = nI i ∧ q ≤ i) (tF B T q) q m f1 ⟨Fr.rf, m11, Nat.le_refl _⟩ (fun n s hI => ?_) (fun n i s hi hI ih => ?_)
  · obtain ⟨fr, s11, -⟩ := hI
    have f2' : tF B T q ≤ T := f2
    have s10 : gF s 10 = nI T := (fr.1 10 (by decide)).trans m10
    have sb : ∀ j, j < T → byn (gB s 4 j) = B j := by rw [fr.2.2.2.1 4 (by decide)]; exact mb
    have go : ∀ w44 : Md, w44 = sF s 12 (gF s 11) → qX12_see w44 (gF w44 11) (fun r52 v52_0 => (¬ r52 = ((-1)) → qX12_in r52.toInt64 97 122 (fun r77 => (r77 = 0 ∨ r77 = 1) → (r77 = 0 → ((gF v52_0 17) = 0 → qX12_next__221 Q v52_0 r52) ∧ (¬ (gF v52_0 17) = 0 → qX12_in r52.toInt64 48 57 (fun r140 => (r140 = 0 ∨ r140 = 1) → (r140 = 0 → qX12_next__221 Q v52_0 r52) ∧ (¬ r140 = 0 → ∀ w148 : Md, w148 = sF v52_0 14 0 → ∃ n' : Nat, qX12_next__151 Q n' w148)))) ∧ (¬ r77 = 0 → ∃ n' : Nat, qX12_next__83 Q n' v52_0))) ∧ (r52 = ((-1)) → ∀ w63 : Md, w63 = sF v52_0 13 0 → Q w63)) := by
      intro w hw
      have fw : Fr [(0, 11), (0, 12), (0, 13), (0, 14)] m w := by rw [hw]; exact Fr.tr fr (Fr.sF 12 _ (by decide))
      have w10 : gF w 10 = nI T := (fw.1 10 (by decide)).trans m10
      have w17 : gF w 17 = nI a := (fw.1 17 (by decide)).trans m17
      have wb : ∀ j, j < T → byn (gB w 4 j) = B j := by rw [fw.2.2.2.1 4 (by decide)]; exact mb
      have w11 : gF w 11 = nI (tF B T q) := by rw [hw]; exact s11
      have w12 : gF w 12 = nI (tF B T q) := by rw [hw]; exact s11
      refine M_see hT w10 wb w11 (by omega) (fun hl => ?_) (fun hl => ?_)
      · have hkB : tK B T q = kd (B (tF B T q)) := by unfold tK; rw [if_pos hl]
        have hb := hB _ hl
        refine ⟨fun _ => ?_, fun h => absurd h (nI_m1 (by omega))⟩
        have single : (¬ (97 ≤ B (tF B T q) ∧ B (tF B T q) ≤ 122)) → (a = 0 ∨ ¬ (48 ≤ B (tF B T q) ∧ B (tF B T q) ≤ 57)) → qX12_next__221 Q w (nI (B (tF B T q))) := by
          intro c1 c2
          refine M_single w11 w17 ha hb (fun w' fw' g12 g11 g14 g13 => hQ w' (fw.tr fw') ⟨g12.trans w12, fun h => ?_, fun h => ?_, fun h => ?_, fun h h2 => ?_, fun h h2 => ?_, fun h => ⟨g14, g13⟩⟩)
          · have : tK B T q = 3 := by
              rw [hkB, kd_3]; refine ⟨c1, fun c => ?_⟩
              rcases c2 with c2 | c2
              · exact h ⟨by rw [hkB, kd_2]; exact c, c2⟩
              · exact c2 c
            rw [tE_3 this]; exact g11
          · have := kd_b (B (tF B T q)); omega
          · rw [hkB, kd_1] at h; exact absurd h c1
          · rw [hkB, kd_2] at h
            rw [g13, h2]
            have hs : sgB 0 (B (tF B T q)) = false := by
              simp [sgB]; omega
            rw [hs]; rfl
          · rw [hkB, kd_2] at h
            rcases c2 with c2 | c2
            · omega
            · exact absurd h c2
        refine M_inB (lo := 97) (hi := 122) rfl rfl hb (fun a1 a2 => b_1' ?_) (fun c1 => b_0' ?_)
        · have hk : tK B T q = 1 := by rw [hkB, kd_1]; exact ⟨a1, a2⟩
          obtain ⟨e1, e2, e3, e4⟩ := tE_w hq (Or.inl hk)
          refine pk_loop (fun n i s => qX12_next__83 Q n s) (fun i s => Fr [(0, 11), (0, 12), (0, 13), (0, 14)] m s ∧ gF s 11 = nI i ∧ gF s 12 = nI (tF B T q) ∧ tF B T q ≤ i) (tE B T q) (tF B T q) w fE.1 ⟨fw, w11, w12, Nat.le_refl _⟩ (fun n s hI => ?_) (fun n i s hi hI ih => ?_)
          · obtain ⟨fy, y11, y12, -⟩ := hI
            have y10 : gF s 10 = nI T := (fy.1 10 (by decide)).trans m10
            have yb : ∀ j, j < T → byn (gB s 4 j) = B j := by rw [fy.2.2.2.1 4 (by decide)]; exact mb
            have fin : ∀ w119 : Md, w119 = sF s 13 1 → Q w119 := by
              intro x hx
              refine hQ x (by rw [hx]; exact Fr.tr fy (Fr.sF 13 _ (by decide))) ⟨by rw [hx]; exact y12, fun _ => by rw [hx]; exact y11, fun h => by omega, fun _ => by rw [hx]; rfl, fun h => by omega, fun h => by omega, fun h => by omega⟩
            unfold qX12_next__83
            refine M_see hT y10 yb y11 (by omega) (fun hl => ?_) (fun hl => M_in1 (lo := 97) rfl (b_0' fin))
            refine M_inB (lo := 97) (hi := 122) rfl rfl (hB _ hl) (fun c1 c2 => ?_) (fun _ => b_0' fin)
            exact absurd (kd_1.2 ⟨c1, c2⟩) (by rw [← hk]; exact e4 hl)
          · obtain ⟨fy, y11, y12, hle⟩ := hI
            have y10 : gF s 10 = nI T := (fy.1 10 (by decide)).trans m10
            have yb : ∀ j, j < T → byn (gB s 4 j) = B j := by rw [fy.2.2.2.1 4 (by decide)]; exact mb
            have hd := e3 i hle hi
            rw [hk, kd_1] at hd
            unfold qX12_next__83
            refine M_see hT y10 yb y11 (by omega) (fun hl => ?_) (fun hl => absurd (Nat.lt_of_lt_of_le hi e2) hl)
            refine M_inB (lo := 97) (hi := 122) rfl rfl (hB _ hl) (fun c1 c2 => b_1' ?_) (fun c => absurd hd c)
            intro x hx
            refine ih x ⟨by rw [hx]; exact Fr.tr fy (Fr.sF 11 _ (by decide)), ?_, by rw [hx]; exact y12, by omega⟩
            rw [hx, gF_sF, if_pos rfl, y11, nI_1]
        · refine c_eq (b := 0) w17 rfl (by omega) (by decide) (fun e0 => single c1 (Or.inl e0)) (fun e1 => ?_)
          have ea : a = 1 := by omega
          refine M_inB (lo := 48) (hi := 57) rfl rfl hb (fun a1 a2 => b_1' ?_) (fun c2 => b_0' (single c1 (Or.inr c2)))
          intro w148 h148
          have hk : tK B T q = 2 := by rw [hkB, kd_2]; exact ⟨a1, a2⟩
          obtain ⟨e1, e2, e3, e4⟩ := tE_w hq (Or.inr hk)
          refine pk_loop (fun n i s => qX12_next__151 Q n s) (fun i s => Fr [(0, 11), (0, 12), (0, 13), (0, 14)] m s ∧ gF s 11 = nI i ∧ gF s 12 = nI (tF B T q) ∧ tF B T q ≤ i ∧ ∃ v : Nat, v ≤ 99999 ∧ min 10000 v = vlF B (tF B T q) (i - tF B T q) ∧ gF s 14 = nI v) (tE B T q) (tF B T q) w148 fE.1 ⟨by rw [h148]; exact Fr.tr fw (Fr.sF 14 _ (by decide)), by rw [h148]; exact w11, by rw [h148]; exact w12, Nat.le_refl _, 0, by omega, by rw [Nat.sub_self]; rfl, by rw [h148]; rfl⟩ (fun n s hI => ?_) (fun n i s hi hI ih => ?_)
          · obtain ⟨fy, y11, y12, -, v, v1, v2, v3⟩ := hI
            have y10 : gF s 10 = nI T := (fy.1 10 (by decide)).trans m10
            have yb : ∀ j, j < T → byn (gB s 4 j) = B j := by rw [fy.2.2.2.1 4 (by decide)]; exact mb
            have fin : ∀ w215 : Md, w215 = sF s 13 2 → Q w215 := by
              intro x hx
              refine hQ x (by rw [hx]; exact Fr.tr fy (Fr.sF 13 _ (by decide))) ⟨by rw [hx]; exact y12, fun _ => by rw [hx]; exact y11, fun h => by omega, fun h => by omega, fun _ h => by omega, fun _ _ => ⟨by rw [hx]; rfl, v, v1, ?_, by rw [hx]; exact v3⟩, fun h => by omega⟩
              unfold tV; rw [if_pos hk]; exact v2
            unfold qX12_next__151
            refine M_see hT y10 yb y11 (by omega) (fun hl => ?_) (fun hl => M_in1 (lo := 48) rfl (b_0' fin))
            refine M_inB (lo := 48) (hi := 57) rfl rfl (hB _ hl) (fun c1 c2 => ?_) (fun _ => b_0' fin)
            exact absurd (kd_2.2 ⟨c1, c2⟩) (by rw [← hk]; exact e4 hl)
          · obtain ⟨fy, y11, y12, hle, v, v1, v2, v3⟩ := hI
            have y10 : gF s 10 = nI T := (fy.1 10 (by decide)).trans m10
            have yb : ∀ j, j < T → byn (gB s 4 j) = B j := by rw [fy.2.2.2.1 4 (by decide)]; exact mb
            have hd := e3 i hle hi
            rw [hk, kd_2] at hd
            unfold qX12_next__151
            refine M_see hT y10 yb y11 (by omega) (fun hl => ?_) (fun hl => absurd (Nat.lt_of_lt_of_le hi e2) hl)
            refine M_inB (lo := 48) (hi := 57) rfl rfl (hB _ hl) (fun c1 c2 => b_1' ?_) (fun c => absurd hd c)
            refine M_see hT y10 yb y11 (by omega) (fun hl => ?_) (fun hl => absurd (Nat.lt_of_lt_of_le hi e2) hl)
            intro x hx x2 hx2
            refine ih x2 ⟨by rw [hx2, hx]; exact Fr.tr (Fr.tr fy (Fr.sF 14 _ (by decide))) (Fr.sF 11 _ (by decide)), ?_, by rw [hx2, hx]; exact y12, by omega, min 99999 (10 * v + B i - 48), by omega, ?_, ?_⟩
            · rw [hx2, gF_sF, if_pos rfl, hx]; show gF s 11 + 1 = _; rw [y11, nI_1]
            · rw [show i + 1 - tF B T q = (i - tF B T q) + 1 by omega]
              show _ = min 10000 (vlF B (tF B T q) (i - tF B T q) * 10 + B (tF B T q + (i - tF B T q)) - 48)
              rw [← v2, show tF B T q + (i - tF B T q) = i by omega]
              omega
            · rw [hx2]; show gF x 14 = _
              rw [hx, gF_sF, if_pos rfl, v3, nl_10, pk_mul, nI_add, nl_48, pk_sub (by omega), show (99999 : Int32) = nI 99999 from rfl, imin_nI (by omega) (by omega)]
      · refine ⟨fun h => absurd rfl h, fun _ x hx => ?_⟩
        have hk : tK B T q = 0 := (tK_0 hq).2 (by omega)
        refine hQ x (by rw [hx]; exact Fr.tr fw (Fr.sF 13 _ (by decide))) ⟨by rw [hx]; exact w12, fun _ => by rw [hx, tE_0 hk]; exact w11, fun _ => by rw [hx]; rfl, fun h => by omega, fun h => by omega, fun h => by omega, fun h => by omega⟩
    unfold qX12_next__0
    refine M_see hT s10 sb s11 (by omega) (fun hl => ?_) (fun hl => ?_)
    · have n12 : ¬ B (tF B T q) = 32 ∧ ¬ B (tF B T q) = 10 := bl_f (f4 hl)
      obtain ⟨n1, n2⟩ := n12
      have hb := hB _ hl
      refine c_n (fun h => n1 ((nI_eq (b := 32) (by omega) (by decide)).1 h)) ?_
      refine M_see hT s10 sb s11 (by omega) (fun hl => ?_) (fun hl' => absurd hl hl')
      exact c_n' (fun h => n2 ((nI_eq (b := 10) (by omega) (by decide)).1 h)) go
    · refine c_n (by decide) ?_
      refine M_see hT s10 sb s11 (by omega) (fun hl' => absurd hl' hl) (fun _ => ?_)
      exact c_n' (by decide) go
  · obtain ⟨fr, s11, hqi⟩ := hI
    have s10 : gF s 10 = nI T := (fr.1 10 (by decide)).trans m10
    have sb : ∀ j, j < T → byn (gB s 4 j) = B j := by rw [fr.2.2.2.1 4 (by decide)]; exact mb
    have hiT : i < T := Nat.lt_of_lt_of_le hi f2
    have k26 : qX12_next__26 Q (qX12_next__0 Q n) s := by
      unfold qX12_next__26
      intro x hx
      refine ih x ⟨by rw [hx]; exact Fr.tr fr (Fr.sF 11 _ (by decide)), ?_, by omega⟩
      rw [hx, gF_sF, if_pos rfl, s11, nI_1]
    have hbl := bl_t (f3 i hqi hi)
    have hb := hB _ hiT
    unfold qX12_next__0
    refine M_see hT s10 sb s11 (by omega) (fun hl => ?_) (fun hl => absurd hiT hl)
    refine c_eq (b := 32) rfl rfl (by omega) (by decide) (fun _ => k26) (fun n1 => ?_)
    refine M_see hT s10 sb s11 (by omega) (fun hl => ?_) (fun hl => absurd hiT hl)
    exact c_eq' (b := 10) rfl rfl (by omega) (by decide) (fun _ => k26) (fun n2 => absurd hbl (by omega))
