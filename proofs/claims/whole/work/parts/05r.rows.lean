theorem v_aaldq {X : VX} {cc : ByteArray} {n : Nat} {own : String} {R : Room} {E : VE} {l : Launch} (C : VC X cc n own R E l) {a b : Nat} {ws : va_W} {lv : List (Nat × Value)} {pc : Nat} {st : List Value} {N ad : Nat} {f : Nat → Option Nat} {i : Int32} {v : Value} (q0 : Nat) (he : ws[q0]? = some (ad, .inl (eS E, N, .inr (.inr (.inr (.inr f)))))) (hi : vp_in i N) (hv : va_rf (f i.toNatClampNeg) = v) (hdg : decode cc pc = .ok (.aaload, 1)) (kk : VV X a b ws lv (pc + 1) (v :: st)) : VV X a b ws lv pc (.int i :: .ref ad :: st) := by
  obtain ⟨p, l', e, R', s, m, args, below, meth, c, Q, A, nL, E'⟩ := X
  obtain ⟨hx, hb, hml, hown, hts, hK, hSF, hA, rfl, rfl, rfl, rfl⟩ := C
  intro H locs ls hP hD hS hl
  subst hv
  exact va_aldq hx hb hK hP q0 4 he rfl hi hdg (kk H locs ls hP hD hS hl)
theorem v_aast {X : VX} {cc : ByteArray} {n : Nat} {own : String} {R : Room} {E : VE} {l : Launch} (C : VC X cc n own R E l) {a b : Nat} {ws : va_W} {lv : List (Nat × Value)} {pc : Nat} {st : List Value} {N ad ci v : Nat} {r : vw_C} {vs : List Value} {f : Nat → Option Nat} {i : Int32} {ws' : va_W} (q0 qk : Nat) (he : ws[q0]? = some (ad, .inl (eS E, N, .inr (.inr (.inr (.inr f)))))) (hv : ws[qk]? = some (v, .inr (ci, vs))) (hc : vwCl[ci]? = some r) (hr1 : r.1 = "NameBoard$State") (hi : vp_in i N) (hr : ws.set q0 (ad, .inl (eS E, N, .inr (.inr (.inr (.inr (va_up f i.toNatClampNeg (some v))))))) = ws') (hdg : decode cc pc = .ok (.aastore, 1)) (kk : VV X a b ws' lv (pc + 1) st) : VV X a b ws lv pc (.ref v :: .int i :: .ref ad :: st) := by
  obtain ⟨p, l', e, R', s, m, args, below, meth, c, Q, A, nL, E'⟩ := X
  obtain ⟨hx, hb, hml, hown, hts, hK, hSF, hA, rfl, rfl, rfl, rfl⟩ := C
  intro H locs ls hP hD hS hl
  subst hr
  exact va_astq hx hb hK hP hD hS q0 4 qk ci he (by rw [hr1]; rfl) hv hc hi hdg (fun H locs hP hD hS => kk H locs ls hP hD hS hl)
theorem v_ifnonnull {X : VX} {cc : ByteArray} {n : Nat} {own : String} {R : Room} {E : VE} {l : Launch} (C : VC X cc n own R E l) {a b : Nat} {ws : va_W} {lv : List (Nat × Value)} {pc : Nat} {st : List Value} {ad : Nat} {off : Int} {tgt : Nat} (hdg : decode cc pc = .ok (.ifnonnull off, 3)) (ht : (pc : Int) + off = (tgt : Int)) (kk : VV X a b ws lv tgt st) : VV X a b ws lv pc (.ref ad :: st) := by
  obtain ⟨p, l', e, R', s, m, args, below, meth, c, Q, A, nL, E'⟩ := X
  obtain ⟨hx, hb, hml, hown, hts, hK, hSF, hA, rfl, rfl, rfl, rfl⟩ := C
  intro H locs ls hP hD hS hl
  exact lv_ifnonnull hx hb hdg ht (kk H locs ls hP hD hS hl)
theorem v_ifnonnullN {X : VX} {cc : ByteArray} {n : Nat} {own : String} {R : Room} {E : VE} {l : Launch} (C : VC X cc n own R E l) {a b : Nat} {ws : va_W} {lv : List (Nat × Value)} {pc : Nat} {st : List Value} {off : Int} (hdg : decode cc pc = .ok (.ifnonnull off, 3)) (kk : VV X a b ws lv (pc + 3) st) : VV X a b ws lv pc (.null :: st) := by
  obtain ⟨p, l', e, R', s, m, args, below, meth, c, Q, A, nL, E'⟩ := X
  obtain ⟨hx, hb, hml, hown, hts, hK, hSF, hA, rfl, rfl, rfl, rfl⟩ := C
  intro H locs ls hP hD hS hl
  exact lv_ifnonnullN hx hb hdg (kk H locs ls hP hD hS hl)
