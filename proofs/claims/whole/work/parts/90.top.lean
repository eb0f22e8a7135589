theorem Wf.upto {A : Nat → Nat → Nat} {c c' : Nat} (h : Wf A c) (h1 : c ≤ c') (h2 : c' ≤ 512) : Wf A c' := by
  obtain ⟨⟨w0, w1, w2, w3, w4, w5, w6, w7, w8, w9, wc⟩, r⟩ := h
  exact ⟨⟨w0, w1, w2, w3, w4, w5, w6, w7, Nat.le_trans w8 h1, Nat.le_trans w9 h1, h2⟩, r⟩
theorem RW.kept {c c' : Nat} {m m' st la sp ac bd sg : Md} (h : RW c m st la sp ac bd sg) (e : gA m' 1 = gA m 1) (h1 : c ≤ c') (h2 : c' ≤ 512) : RW c' m' st la sp ac bd sg := by
  obtain ⟨A, a, b, r⟩ := h
  exact ⟨A, by rw [e]; exact a, b.upto h1 h2, r⟩
/-- the image k: none, or there, with the world that it keeps -/
def RI (E : VE) (c : Nat) (nb m : Md) (k : Nat) (w : va_W) : Prop := (gO nb 1 k = none ∧ gZ m 3 k = false ∧ w = []) ∨ ∃ (h : Nat) (c0 c1 c2 c3 c4 c5 : Nat → Nat) (d0 d1 d2 d3 d4 d5 : Md), gO nb 1 k = some h ∧ gZ m 3 k = true ∧ w = imB E h c0 c1 c2 c3 c4 c5 d0 d1 d2 d3 d4 d5 ∧ ∃ A : Nat → Nat → Nat, MW (imV m k) A ∧ Wf A c ∧ RC A d0 d1 d2 d3 d4 d5
theorem RI.fr {E : VE} {c c' : Nat} {nb nb' m m' : Md} {k : Nat} {w : va_W} (h : RI E c nb m k w) (e1 : gO nb' 1 k = gO nb 1 k) (e2 : gZ m' 3 k = gZ m 3 k) (e3 : ∀ i, i < 11570 → imV m' k i = imV m k i) (h1 : c ≤ c') (h2 : c' ≤ 512) : RI E c' nb' m' k w := by
  rcases h with ⟨a1, a2, a3⟩ | ⟨q, c0, c1, c2, c3, c4, c5, d0, d1, d2, d3, d4, d5, a1, a2, a3, A, b1, b2, b3⟩
  · exact Or.inl ⟨e1.trans a1, e2.trans a2, a3⟩
  · exact Or.inr ⟨q, c0, c1, c2, c3, c4, c5, d0, d1, d2, d3, d4, d5, e1.trans a1, e2.trans a2, a3, A, b1.w b2 e3, b2.upto h1 h2, b3⟩
/-- class and reference stand alike, c calls being done -/
def TopR (E : VE) (c : Nat) (nb m st la sp ac bd sg tp hd pl pp : Md) (i0 i1 i2 : va_W) : Prop := RW c m st la sp ac bd sg ∧ RTape tp m ∧ RSlot nb m ∧ RHand hd m ∧ RPlan pl m ∧ PZ pl ∧ RPaper pp m ∧ (∀ j, 3 ≤ j → gO nb 1 j = none) ∧ RI E c nb m 0 i0 ∧ RI E c nb m 1 i1 ∧ RI E c nb m 2 i2
theorem TopR.go {E : VE} {c : Nat} {nb m st la sp ac bd sg tp hd pl pp : Md} {i0 i1 i2 : va_W} (h : TopR E c nb m st la sp ac bd sg tp hd pl pp i0 i1 i2) {L : List (Nat × Nat)} {nb' m' st' la' sp' ac' bd' sg' tp' hd' pl' pp' : Md} (fm : Fr L m m') (hI : (4, 3) ∉ L ∧ (1, 2) ∉ L) (fn : gO nb' 1 = gO nb 1) (hc : c + 1 ≤ 512) (hW : RW (c + 1) m' st' la' sp' ac' bd' sg') (hT : RTape tp' m') (hS : RSlot nb' m') (hH : RHand hd' m') (hP : RPlan pl' m') (hZ : PZ pl') (hA : RPaper pp' m') : TopR E (c + 1) nb' m' st' la' sp' ac' bd' sg' tp' hd' pl' pp' i0 i1 i2 := by
  have z : gZ m' 3 = gZ m 3 := fm.2.2.2.2.1 3 hI.1
  have a : gA m' 2 = gA m 2 := fm.2.1 2 hI.2
  have e3 : ∀ k i, i < 11570 → imV m' k i = imV m k i := fun k i _ => by unfold imV; rw [a]
  obtain ⟨-, -, -, -, -, -, -, j3, r0, r1, r2⟩ := h
  exact ⟨hW, hT, hS, hH, hP, hZ, hA, by rw [fn]; exact j3, r0.fr (by rw [fn]) (by rw [z]) (e3 0) (Nat.le_succ c) hc, r1.fr (by rw [fn]) (by rw [z]) (e3 1) (Nat.le_succ c) hc, r2.fr (by rw [fn]) (by rw [z]) (e3 2) (Nat.le_succ c) hc⟩
theorem rw0 : RW 0 uX12 uX8 uX2 uX7 uX0 uX1 uX6 := by
  refine ⟨fun _ _ => 0, ?_, ?_, ?_⟩
  · refine ⟨⟨rfl, rfl, rfl, rfl, rfl, rfl, rfl, rfl, rfl, rfl⟩, ?_, ?_, ?_, ?_, ?_, ?_, ?_, ?_, ?_⟩ <;> exact fun _ h => absurd h (Nat.not_lt_zero _)
  · refine ⟨⟨by decide, by decide, by decide, by decide, by decide, by decide, by decide, by decide, by decide, by decide, by decide⟩, fun _ h => absurd h (Nat.not_lt_zero _), ⟨fun _ h => absurd h (Nat.not_lt_zero _), fun _ _ _ h => absurd h (Nat.not_lt_zero _), fun _ => ⟨fun _ => 0, fun _ h => absurd h (Nat.not_lt_zero _)⟩⟩, ⟨fun _ h => absurd h (Nat.not_lt_zero _), fun _ _ _ h => absurd h (Nat.not_lt_zero _), fun _ _ _ h => absurd h (Nat.not_lt_zero _)⟩, fun _ h => absurd h (Nat.not_lt_zero _), fun _ h => absurd h (Nat.not_lt_zero _), fun _ h => absurd h (Nat.not_lt_zero _), ⟨fun _ h => absurd h (Nat.not_lt_zero _), Nat.le_refl 0⟩, fun _ h => absurd h (Nat.not_lt_zero _), ⟨fun _ h => absurd h (Nat.not_lt_zero _), fun _ _ _ h => absurd h (Nat.not_lt_zero _), fun _ h => absurd h (Nat.not_lt_zero _)⟩⟩
  · refine ⟨⟨rfl, fun y _ _ => ⟨rfl, rfl, fun _ => rfl, rfl, fun _ _ => rfl⟩⟩, ⟨⟨rfl, fun _ h => absurd h (Nat.not_lt_zero _)⟩, ⟨0, fun _ => 0, fun _ => 0, fun _ => 0, Nat.le_refl 0, rfl, fun _ h => absurd h (Nat.not_lt_zero _), fun _ _ _ h => absurd h (Nat.not_lt_zero _), fun _ _ _ h => absurd h (Nat.not_lt_zero _), fun _ => rfl⟩, ⟨rfl, fun _ h => absurd h (Nat.not_lt_zero _)⟩⟩, ⟨⟨rfl, fun _ h => absurd h (Nat.not_lt_zero _)⟩, ⟨rfl, fun _ h => absurd h (Nat.not_lt_zero _)⟩⟩, ⟨rfl, fun _ h => absurd h (Nat.not_lt_zero _)⟩, ⟨⟨rfl, fun _ h => absurd h (Nat.not_lt_zero _)⟩, ⟨0, fun _ => 0, fun _ => 0, fun _ => 0, fun _ => 0, fun _ => 0, rfl, rfl, fun _ h => absurd h (Nat.not_lt_zero _), fun _ _ _ _ => rfl⟩⟩, ⟨rfl, fun _ h => absurd h (Nat.not_lt_zero _)⟩⟩
theorem top0 (E : VE) (qp : Nat) : TopR E 0 uX11 uX12 uX8 uX2 uX7 uX0 uX1 uX6 uX9 uX5 uX4 (sX (sX uX3 0 qp) 1 0) [] [] [] := by
  refine ⟨rw0, ⟨0, by decide, rfl, rfl, fun _ h => absurd h (Nat.not_lt_zero _), rfl, rfl⟩, fun s hs => ?_, ⟨0, by decide, rfl, rfl, fun _ h => absurd h (Nat.not_lt_zero _)⟩, ⟨Or.inl rfl, fun j hj => ?_⟩, ⟨rfl, rfl, rfl⟩, ⟨rfl, Or.inl rfl, ⟨0, by decide, rfl, rfl, fun _ h => absurd h (Nat.not_lt_zero _)⟩, ⟨0, by decide, rfl, Or.inr ⟨rfl, rfl⟩, fun _ h => absurd h (Nat.not_lt_zero _)⟩, Or.inl rfl⟩, fun _ _ => rfl, Or.inl ⟨rfl, rfl, rfl⟩, Or.inl ⟨rfl, rfl, rfl⟩, Or.inl ⟨rfl, rfl, rfl⟩⟩
  · rcases (show s = 0 ∨ s = 1 ∨ s = 2 ∨ s = 3 by omega) with rfl | rfl | rfl | rfl <;> exact ⟨rfl, rfl, ⟨0, by decide, rfl⟩, Or.inl rfl⟩
  · show (if j < 40 then (-1 : Int32) else 0) = if (0 : Int32) = 0 then -1 else gA uX12 33 j
    rw [if_pos hj, if_pos rfl]
