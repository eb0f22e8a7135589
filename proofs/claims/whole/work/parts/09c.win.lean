theorem Mpl.w {V V' : Nat → Int32} {A : Nat → Nat → Nat} (h : Mpl V A) (hb : A 51 0 ≤ 40) (hv : ∀ k, 10 ≤ k → k < 90 → V' k = V k) : Mpl V' A := by
  intro p hp
  rw [hv _ (by omega) (by omega), hv _ (by omega) (by omega)]
  exact h p hp
theorem Mpt.w {V V' : Nat → Int32} {A : Nat → Nat → Nat} (h : Mpt V A) (hb : A 58 0 ≤ 512) (hv : ∀ k, 7610 ≤ k → k < 9170 → V' k = V k) : Mpt V' A := by
  intro p hp
  rw [hv _ (by omega) (by omega), hv _ (by omega) (by omega), hv _ (by omega) (by omega)]
  exact h p hp
theorem Mco.w {V V' : Nat → Int32} {A : Nat → Nat → Nat} (h : Mco V A) (hb : A 56 0 ≤ 200) (hv : ∀ k, 6690 ≤ k → k < 7490 → V' k = V k) : Mco V' A := by
  intro p hp
  rw [hv _ (by omega) (by omega), hv _ (by omega) (by omega), hv _ (by omega) (by omega), hv _ (by omega) (by omega)]
  exact h p hp
theorem Mev.w {V V' : Nat → Int32} {A : Nat → Nat → Nat} (h : Mev V A) (hb : A 59 0 ≤ 512) (hv : ∀ k, 9170 ≤ k → k < 11570 → V' k = V k) : Mev V' A := by
  intro p hp
  rw [hv _ (by omega) (by omega), hv _ (by omega) (by omega), hv _ (by omega) (by omega), hv _ (by omega) (by omega)]
  exact h p hp
theorem Msi.w {V V' : Nat → Int32} {A : Nat → Nat → Nat} (h : Msi V A) (hb : A 57 0 ≤ 40) (hv : ∀ k, 7490 ≤ k → k < 7610 → V' k = V k) : Msi V' A := by
  intro p hp
  rw [hv _ (by omega) (by omega), hv _ (by omega) (by omega), hv _ (by omega) (by omega)]
  exact h p hp
theorem Mhe.w {V V' : Nat → Int32} {A : Nat → Nat → Nat} (h : Mhe V A) (hb : A 55 0 ≤ 60) (hv : ∀ k, 6030 ≤ k → k < 6690 → V' k = V k) : Mhe V' A := by
  intro p hp
  rw [hv _ (by omega) (by omega), hv _ (by omega) (by omega)]
  obtain ⟨a, b, d⟩ := h p hp
  exact ⟨a, b, fun v hv' => by rw [hv _ (by omega) (by omega)]; exact d v hv'⟩
theorem Mna.w {V V' : Nat → Int32} {A : Nat → Nat → Nat} (h : Mna V A) (hb : A 52 0 ≤ 80) (hw : Wna A) (hv : ∀ k, 90 ≤ k → k < 1370 → V' k = V k) : Mna V' A := by
  intro p hp
  rw [hv _ (by omega) (by omega), hv _ (by omega) (by omega), hv _ (by omega) (by omega), hv _ (by omega) (by omega)]
  obtain ⟨a, b, d, e, f⟩ := h p hp
  have h12 := (hw p hp).2.2.2.2.1
  exact ⟨a, b, d, e, fun v hv' => by rw [hv _ (by omega) (by omega)]; exact f v hv'⟩
theorem Msp.w {V V' : Nat → Int32} {A : Nat → Nat → Nat} (h : Msp V A) (hb : A 53 0 ≤ 12) (hw : Wsp A) (hv : ∀ k, 1370 ≤ k → k < 3710 → V' k = V k) : Msp V' A := by
  intro p hp
  rw [hv _ (by omega) (by omega), hv _ (by omega) (by omega), hv _ (by omega) (by omega)]
  obtain ⟨a, b, d, e⟩ := h p hp
  obtain ⟨w1, w2, w3, w4⟩ := hw p hp
  refine ⟨a, b, d, fun r hr => ?_⟩
  obtain ⟨e1, e2, e3, e4, e5, e6, e7, e8⟩ := e r hr
  obtain ⟨-, -, -, f1, -, f2, -⟩ := w4 r hr
  rw [hv _ (by omega) (by omega), hv _ (by omega) (by omega), hv _ (by omega) (by omega), hv (1370 + 195 * p + 3 + 12 * r + 6) (by omega) (by omega), hv (1370 + 195 * p + 3 + 12 * r + 10) (by omega) (by omega), hv (1370 + 195 * p + 3 + 12 * r + 11) (by omega) (by omega)]
  exact ⟨e1, e2, e3, fun j hj => by rw [hv _ (by omega) (by omega)]; exact e4 j hj, e5, fun j hj => by rw [hv _ (by omega) (by omega)]; exact e6 j hj, e7, e8⟩
theorem Mac.w {V V' : Nat → Int32} {A : Nat → Nat → Nat} (h : Mac V A) (hb : A 54 0 ≤ 8) (hw : Wac A) (hv : ∀ k, 3710 ≤ k → k < 6030 → V' k = V k) : Mac V' A := by
  intro p hp
  rw [hv _ (by omega) (by omega), hv _ (by omega) (by omega)]
  obtain ⟨a, b, e⟩ := h p hp
  obtain ⟨w1, w2, w4⟩ := hw p hp
  refine ⟨a, b, fun r hr => ?_⟩
  obtain ⟨e1, e2, e3, e4, e5⟩ := e r hr
  obtain ⟨-, -, -, -, f1, -⟩ := w4 r hr
  rw [hv _ (by omega) (by omega), hv _ (by omega) (by omega), hv _ (by omega) (by omega), hv _ (by omega) (by omega)]
  refine ⟨e1, e2, e3, e4, fun c hc => ?_⟩
  rw [hv _ (by omega) (by omega), hv _ (by omega) (by omega), hv _ (by omega) (by omega), hv _ (by omega) (by omega), hv _ (by omega) (by omega)]
  exact e5 c hc
theorem MW.w {V V' : Nat → Int32} {A : Nat → Nat → Nat} {c : Nat} (h : MW V A) (hw : Wf A c) (hv : ∀ k, k < 11570 → V' k = V k) : MW V' A := by
  obtain ⟨hsc, h1, h2, h3, h4, h5, h6, h7, h8, h9⟩ := h
  obtain ⟨⟨w0, w1, w2, w3, w4, w5, w6, w7, w8, w9, wc⟩, -, -, -, wn, ws, wa, -⟩ := hw
  refine ⟨?_, h1.w (by omega) (fun k _ _ => hv k (by omega)), h2.w (by omega) (fun k _ _ => hv k (by omega)), h3.w (by omega) (fun k _ _ => hv k (by omega)), h4.w (by omega) wn (fun k _ _ => hv k (by omega)), h5.w (by omega) ws (fun k _ _ => hv k (by omega)), h6.w (by omega) wa (fun k _ _ => hv k (by omega)), h7.w (by omega) (fun k _ _ => hv k (by omega)), h8.w (by omega) (fun k _ _ => hv k (by omega)), h9.w (by omega) (fun k _ _ => hv k (by omega))⟩
  unfold Msc
  rw [hv 0 (by decide), hv 1 (by decide), hv 2 (by decide), hv 3 (by decide), hv 4 (by decide), hv 5 (by decide), hv 6 (by decide), hv 7 (by decide), hv 8 (by decide), hv 9 (by decide)]
  exact hsc
theorem Wsc.up {A : Nat → Nat → Nat} {c : Nat} (h : Wsc A c) (hc : c + 1 ≤ 512) : Wsc A (c + 1) := by
  obtain ⟨w0, w1, w2, w3, w4, w5, w6, w7, w8, w9, wc⟩ := h
  exact ⟨w0, w1, w2, w3, w4, w5, w6, w7, by omega, by omega, hc⟩
theorem Wf.up {A : Nat → Nat → Nat} {c : Nat} (h : Wf A c) (hc : c + 1 ≤ 512) : Wf A (c + 1) := ⟨h.1.up hc, h.2⟩
theorem RW.up {c : Nat} {m st la sp ac bd sg : Md} (h : RW c m st la sp ac bd sg) (hc : c + 1 ≤ 512) : RW (c + 1) m st la sp ac bd sg := by
  obtain ⟨A, h1, h2, h3⟩ := h
  exact ⟨A, h1, h2.up hc, h3⟩
theorem RW.fr {c : Nat} {m m' st la sp ac bd sg : Md} {L : List (Nat × Nat)} (h : RW c m st la sp ac bd sg) (hf : Fr L m m') (h1 : (1, 1) ∉ L) : RW c m' st la sp ac bd sg := by
  obtain ⟨A, h2, h3, h4⟩ := h
  exact ⟨A, by rw [hf.2.1 1 h1]; exact h2, h3, h4⟩
theorem sim_next {c : Nat} {nb m st la sp ac bd sg : Md} (hR : RW c m st la sp ac bd sg) {x1 : Int32} {Q : Int32 → Md → Md → Int32 → Md → Prop} (hQ : ∀ r st' m', RW c m' st' la sp ac bd sg → Fr [(1, 1)] m m' → Q r nb st' r m') : qX11_next nb st x1 (fun r nb' st' => qX12_next m x1 (fun r' m' => Q r nb' st' r' m')) := by
  obtain ⟨A, hm, hw, hs, hn⟩ := id hR
  have e0 : gA m 1 0 = nI (A 50 0) := hm.1.1
  have s0 : gF st 0 = nI (A 50 0) := hs.1
  have b0 : A 50 0 < 400 := hw.1.1
  unfold qX11_next qX12_next
  rcases ix32 x1 (n := 400) (by decide) with hb | ⟨y, hy, rfl⟩
  · refine q_yr0 hb (b_0' (inN_bad (n := 399) rfl hb (b_0' (hQ _ _ _ hR Fr.rf))))
  refine q_yr1 hy (b_1' ?_)
  have ew : gF st 0 + nI y = nI (A 50 0 + y) := by rw [s0, nI_add]
  rw [ew]
  have hM : ∀ {P : Int32 → Md → Prop}, (A 50 0 + y ≤ 399 → P (nI (A 50 0 + y)) (tA m 1 0 (nI (A 50 0 + y)))) → (¬ A 50 0 + y ≤ 399 → P (-1) m) → qX12_in (nI y).toInt64 0 399 (fun r6 => (r6 = 0 ∨ r6 = 1) → (r6 = 0 → P ((-1)) m) ∧ (¬ r6 = 0 → qX12_now m (fun r13 v13_0 => ((r13 + nI y) ≤ 399 → vp_in 0 11570 ∧ (vp_in 0 11570 ∧ (∀ w35 : Md, w35 = tA v13_0 1 0 ((gA v13_0 1 (0 : Int32).toNatClampNeg) + nI y) → qX12_now w35 (fun r37 v37_0 => P r37 v37_0)))) ∧ (¬ (r13 + nI y) ≤ 399 → P ((-1)) v13_0)))) := by
    intro P h1 h2
    refine inN_ok (n := 399) (by decide) rfl (by omega) (b_1' ?_)
    unfold qX12_now
    have z : vp_in 0 11570 := vp_in_nI (n := 0) (by decide) (by decide)
    refine ⟨z, ?_⟩
    have ei : gA m 1 (0 : Int32).toNatClampNeg + nI y = nI (A 50 0 + y) := by rw [show (0 : Int32).toNatClampNeg = 0 from rfl, e0, nI_add]
    dsimp only
    rw [ei]
    refine c_le rfl nl_399 (by omega) (by decide) (fun h => ⟨z, z, fun w hw => ⟨z, ?_⟩⟩) h2
    subst hw
    have := h1 h
    exact this
  by_cases hy2 : A 50 0 + y < 400
  · refine q_yr1 hy2 (b_1 ?_)
    intro w hw'
    subst hw'
    have g0 : gF (sF st 0 (nI (A 50 0 + y))) 0 = nI (A 50 0 + y) := rfl
    rw [g0]
    refine hM (fun _ => ?_) (fun h => absurd (by omega) h)
    refine hQ _ _ _ ⟨upc A 50 0 (A 50 0 + y), ?_, ?_, ⟨g0, hs.2⟩, ⟨hn.1.1, ?_, hn.1.2.2⟩, hn.2.1, hn.2.2.1, ⟨hn.2.2.2.1.1, ?_⟩, hn.2.2.2.2⟩ (Fr.tA 1 _ _ (by decide))
    · have hv : ∀ k, 0 < k → gA (tA m 1 0 (nI (A 50 0 + y))) 1 k = gA m 1 k := fun k hk => va_up_ne' _ _ (by show k ≠ 0; omega)
      obtain ⟨⟨k0, k1, k2, k3, k4, k5, k6, k7, k8, k9⟩, h1, h2, h3, h4, h5, h6, h7, h8, h9⟩ := hm
      obtain ⟨⟨w0, w1, w2, w3, w4, w5, w6, w7, w8, w9, wc⟩, -, -, -, wn, ws, wa, -⟩ := hw
      exact ⟨⟨rfl, k1, k2, k3, k4, k5, k6, k7, k8, k9⟩, h1.w w1 (fun k _ _ => hv k (by omega)), h2.w (by omega) (fun k _ _ => hv k (by omega)), h3.w w6 (fun k _ _ => hv k (by omega)), h4.w w2 wn (fun k _ _ => hv k (by omega)), h5.w w3 ws (fun k _ _ => hv k (by omega)), h6.w w4 wa (fun k _ _ => hv k (by omega)), h7.w w5 (fun k _ _ => hv k (by omega)), h8.w w7 (fun k _ _ => hv k (by omega)), h9.w (by omega) (fun k _ _ => hv k (by omega))⟩
    · obtain ⟨⟨w0, w1, w2, w3, w4, w5, w6, w7, w8, w9, wc⟩, v1, ⟨v2, v2b, v2c⟩, ⟨v3, v3b, v3c⟩, v4, v5, v6, v7, v8, ⟨v9, v9b, v9c⟩⟩ := hw
      exact ⟨⟨hy2, w1, w2, w3, w4, w5, w6, w7, w8, w9, wc⟩, v1, ⟨fun k hk => ⟨(v2 k hk).1, (v2 k hk).2.1, Nat.le_trans (v2 k hk).2.2 (Nat.le_add_right _ _)⟩, v2b, v2c⟩, ⟨fun k hk => ⟨(v3 k hk).1, (v3 k hk).2.1, (v3 k hk).2.2.1, Nat.le_trans (v3 k hk).2.2.2 (Nat.le_add_right _ _)⟩, v3b, v3c⟩, fun k hk => ⟨(v4 k hk).1, (v4 k hk).2.1, Nat.le_trans (v4 k hk).2.2.1 (Nat.add_le_add_right (Nat.le_add_right _ _) 2), (v4 k hk).2.2.2⟩, fun k hk => ⟨(v5 k hk).1, Nat.le_trans (v5 k hk).2.1 (Nat.le_add_right _ _), (v5 k hk).2.2⟩, fun k hk => ⟨Nat.le_trans (v6 k hk).1 (Nat.le_add_right _ _), (v6 k hk).2⟩, v7, fun k hk => ⟨(v8 k hk).1, (v8 k hk).2.1, Nat.le_trans (v8 k hk).2.2 (Nat.le_add_right _ _)⟩, ⟨fun k hk => ⟨(v9 k hk).1, (v9 k hk).2.1, (v9 k hk).2.2.1, Nat.le_trans (v9 k hk).2.2.2 (Nat.le_add_right _ _)⟩, v9b, v9c⟩⟩
    · obtain ⟨n, pl, of, yr, k1, k2, k3, k4⟩ := hn.1.2.1
      exact ⟨n, pl, of, yr, k1, k2, fun i hi => ⟨(k3 i hi).1, (k3 i hi).2.1, Nat.le_trans (k3 i hi).2.2.1 (Nat.le_add_right _ _), (k3 i hi).2.2.2⟩, k4⟩
    · obtain ⟨n, na, pl, to, yr, un, k1, k2, k3, k4⟩ := hn.2.2.2.1.2
      refine ⟨n, na, pl, to, yr, un, k1, k2, fun i hi => ?_, k4⟩
      obtain ⟨j1, j2, j3, j4, j5, j6, j7⟩ := k3 i hi
      exact ⟨j1, j2, j3, Nat.le_trans j4 (Nat.le_add_right _ _), j5, j6.imp (fun h => Nat.le_trans h (Nat.le_add_right _ _)) id, j7⟩
  · refine q_yr0 (by rw [nI_toInt (by omega)]; omega) (b_0 ?_)
    exact hM (fun h => absurd h (by omega)) (fun _ => hQ _ _ _ hR Fr.rf)
