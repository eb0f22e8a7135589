/-- the script, and where it lies -/
def LWX (X : VX) (bb L : Nat) (xs : Nat → Int32) : Prop := match X with
  | (_, _, _, _, s, _, _, _, _, _, _, A, _, _) => va_X bb L xs s s.heap ∧ bb < s.heap.size ∧ ¬ A bb
theorem v_sld {X : VX} {cc : ByteArray} {n : Nat} {own : String} {R : Room} {E : VE} {l : Launch} (C : VC X cc n own R E l) {a b : Nat} {ws : va_W} {lv : List (Nat × Value)} {pc : Nat} {st : List Value} {bb L j : Nat} {xs : Nat → Int32} {x : Int32} (hL : LWX X bb L xs) (hx0 : x = nI j) (hj : j < L) (hL2 : L ≤ 3072) (hdg : decode cc pc = .ok (.iaload, 1)) (kk : VV X a b ws lv (pc + 1) (.int (xs j) :: st)) : VV X a b ws lv pc (.int x :: .ref bb :: st) := by
  subst hx0
  obtain ⟨p, l', e, R', s, m, args, below, meth, c, Q, A, nL, E'⟩ := X
  obtain ⟨hx, hb, hml, hown, hts, hK, hSF, hA, rfl, rfl, rfl, rfl⟩ := C
  intro H locs ls hP hD hS hl
  have kk2 := kk H locs ls hP hD hS hl
  refine va_sld hx hb hL.1 hL.2.1 hL.2.2 hS (vp_in_nI hj (by omega)) hdg ?_
  rw [nI_clamp (by omega)]
  exact kk2
theorem v_slenA {X : VX} {cc : ByteArray} {n : Nat} {own : String} {R : Room} {E : VE} {l : Launch} (C : VC X cc n own R E l) {a b : Nat} {ws : va_W} {lv : List (Nat × Value)} {pc : Nat} {st : List Value} {bb L : Nat} {xs : Nat → Int32} (hL : LWX X bb L xs) (hdg : decode cc pc = .ok (.arraylength, 1)) (kk : VV X a b ws lv (pc + 1) (.int (nI L) :: st)) : VV X a b ws lv pc (.ref bb :: st) := by
  obtain ⟨p, l', e, R', s, m, args, below, meth, c, Q, A, nL, E'⟩ := X
  obtain ⟨hx, hb, hml, hown, hts, hK, hSF, hA, rfl, rfl, rfl, rfl⟩ := C
  intro H locs ls hP hD hS hl
  exact va_slen hx hb hL.1 hL.2.1 hL.2.2 hS hdg (kk H locs ls hP hD hS hl)
set_option maxHeartbeats 4000000 in
set_option maxRecDepth 100000 in
theorem lawc_0 {X : VX} {E : VE} {l : Launch} {bb L : Nat} {xs : Nat → Int32} (C : VC X code 4 R_law room_1 E l) (hL : LWX X bb L xs) (hL2 : L ≤ 3072) (i : Nat) (hi : i + 6 ≤ L) {a b : Nat} (hab : a + 53 ≤ 139614 ∧ b + 10240 ≤ 8683408) (h0 hm : Nat) (a_nb : Nat → Nat) (a_m : Nat → Nat) (a_st : Nat → Nat) (a_la : Nat → Nat) (a_sp : Nat → Nat) (a_ac : Nat → Nat) (a_bd : Nat → Nat) (a_sg : Nat → Nat) (a_tp : Nat → Nat) (a_hd : Nat → Nat) (a_vw : Nat → Nat) (a_o1 : Nat → Nat) (a_o2 : Nat → Nat) (a_pl : Nat → Nat) (a_pp : Nat → Nat) (nb : Md) (m : Md) (st : Md) (la : Md) (sp : Md) (ac : Md) (bd : Md) (sg : Md) (tp : Md) (hd : Md) (vw : Md) (o1 : Md) (o2 : Md) (pl : Md) (pp : Md) (i0 i1 i2 : va_W) (P : Md → Md → Md → Md → Md → Md → Md → Md → Md → Md → Md → Md → Md → Md → Md → Prop) (hw : qX11_feed nb tp (xs (i + 1)) (xs (i + 2)) (xs (i + 3)) (xs (i + 4)) (xs (i + 5)) (fun r1 nb1 tp1 => qX12_feed m (xs (i + 1)) (xs (i + 2)) (xs (i + 3)) (xs (i + 4)) (xs (i + 5)) (fun r2 m1 => r1 = r2 ∧ P nb1 m1 st la sp ac bd sg tp1 hd vw o1 o2 pl pp))) (kk : ∀ (nb1 : Md) (m1 : Md) (st1 : Md) (la1 : Md) (sp1 : Md) (ac1 : Md) (bd1 : Md) (sg1 : Md) (tp1 : Md) (hd1 : Md) (vw1 : Md) (o11 : Md) (o21 : Md) (pl1 : Md) (pp1 : Md), P nb1 m1 st1 la1 sp1 ac1 bd1 sg1 tp1 hd1 vw1 o11 o21 pl1 pp1 → VV X (a + 53) (b + 10240) ([wX11 E h0 a_nb nb1, wX12 E hm a_m m1, wX8 E (a_nb 0) a_st st1, wX2 E (a_st 2) a_la la1, wX7 E (a_st 3) a_sp sp1, wX0 E (a_st 4) a_ac ac1, wX1 E (a_st 5) a_bd bd1, wX6 E (a_st 6) a_sg sg1, wX9 E (a_nb 2) a_tp tp1, wX5 E (a_nb 3) a_hd hd1, wX10 E (a_nb 4) a_vw vw1, wX5 E (a_vw 6) a_o1 o11, wX5 E (a_vw 7) a_o2 o21, wX4 E (a_nb 5) a_pl pl1, wX3 E (a_nb 6) a_pp pp1, i0, i1, i2].flatten) [(0, .ref bb), (1, .ref h0), (2, .ref hm), (3, .int (nI i))] 1578 []) : VV X a b ([wX11 E h0 a_nb nb, wX12 E hm a_m m, wX8 E (a_nb 0) a_st st, wX2 E (a_st 2) a_la la, wX7 E (a_st 3) a_sp sp, wX0 E (a_st 4) a_ac ac, wX1 E (a_st 5) a_bd bd, wX6 E (a_st 6) a_sg sg, wX9 E (a_nb 2) a_tp tp, wX5 E (a_nb 3) a_hd hd, wX10 E (a_nb 4) a_vw vw, wX5 E (a_vw 6) a_o1 o1, wX5 E (a_vw 7) a_o2 o2, wX4 E (a_nb 5) a_pl pl, wX3 E (a_nb 6) a_pp pp, i0, i1, i2].flatten) [(0, .ref bb), (1, .ref h0), (2, .ref hm), (3, .int (nI i))] 216 [] := by
  refine v_aload_n C dL_law_216 1 rfl ?_
  refine v_aload_n C dL_law_217 0 rfl ?_
  refine v_iload_n C dL_law_218 3 rfl ?_
  refine v_iconst (v := 1) C dL_law_219 (by decide) ?_
  refine v_iadd C dL_law_220 ?_
  refine v_sld (j := i + 1) C hL (nI_add i 1) (by omega) hL2 dL_law_221 ?_
  refine v_aload_n C dL_law_222 0 rfl ?_
  refine v_iload_n C dL_law_223 3 rfl ?_
  refine v_iconst (v := 2) C dL_law_224 (by decide) ?_
  refine v_iadd C dL_law_225 ?_
  refine v_sld (j := i + 2) C hL (nI_add i 2) (by omega) hL2 dL_law_226 ?_
  refine v_aload_n C dL_law_227 0 rfl ?_
  refine v_iload_n C dL_law_228 3 rfl ?_
  refine v_iconst (v := 3) C dL_law_229 (by decide) ?_
  refine v_iadd C dL_law_230 ?_
  refine v_sld (j := i + 3) C hL (nI_add i 3) (by omega) hL2 dL_law_231 ?_
  refine v_aload_n C dL_law_232 0 rfl ?_
  refine v_iload_n C dL_law_233 3 rfl ?_
  refine v_iconst (v := 4) C dL_law_234 (by decide) ?_
  refine v_iadd C dL_law_235 ?_
  refine v_sld (j := i + 4) C hL (nI_add i 4) (by omega) hL2 dL_law_236 ?_
  refine v_aload_n C dL_law_237 0 rfl ?_
  refine v_iload_n C dL_law_238 3 rfl ?_
  refine v_iconst (v := 5) C dL_law_239 (by decide) ?_
  refine v_iadd C dL_law_240 ?_
  refine v_sld (j := i + 5) C hL (nI_add i 5) (by omega) hL2 dL_law_241 ?_
  refine v_callVMi (st := []) (ci := 11) (qb := 0) C (kX11_feed h0 a_nb a_tp _ _ _ _ _ _ _ hw) mL_13 mI_X11 mC_X11_feed mN_X11_feed mS_X11_feed rfl rfl hd_X11_feed ⟨Nat.le_of_ble_eq_true rfl, Nat.le_of_ble_eq_true rfl⟩ ⟨by show _ + 0 ≤ 139614; omega, by show _ + 0 ≤ 8683408; omega⟩ [0, 8] [1, 2, 3, 4, 5, 6, 7, 9, 10, 11, 12, 13, 14, 15, 16, 17] (N0 := 18) rfl (by decide) (ms2 := (fun (U : Md × Md) => [wX11 E h0 a_nb U.1, wX12 E hm a_m m, wX8 E (a_nb 0) a_st st, wX2 E (a_st 2) a_la la, wX7 E (a_st 3) a_sp sp, wX0 E (a_st 4) a_ac ac, wX1 E (a_st 5) a_bd bd, wX6 E (a_st 6) a_sg sg, wX9 E (a_nb 2) a_tp U.2, wX5 E (a_nb 3) a_hd hd, wX10 E (a_nb 4) a_vw vw, wX5 E (a_vw 6) a_o1 o1, wX5 E (a_vw 7) a_o2 o2, wX4 E (a_nb 5) a_pl pl, wX3 E (a_nb 6) a_pp pp, i0, i1, i2])) rfl (fun _ => rfl) (fun _ => rfl) (fun _ => rfl) rfl (Nat.le_of_ble_eq_true rfl) dL_law_242 (fun r1 U hw => ?_)
  obtain ⟨nb1, tp1⟩ := U
  refine v_aload_n C dL_law_245 2 rfl ?_
  refine v_aload_n C dL_law_246 0 rfl ?_
  refine v_iload_n C dL_law_247 3 rfl ?_
  refine v_iconst (v := 1) C dL_law_248 (by decide) ?_
  refine v_iadd C dL_law_249 ?_
  refine v_sld (j := i + 1) C hL (nI_add i 1) (by omega) hL2 dL_law_250 ?_
  refine v_aload_n C dL_law_251 0 rfl ?_
  refine v_iload_n C dL_law_252 3 rfl ?_
  refine v_iconst (v := 2) C dL_law_253 (by decide) ?_
  refine v_iadd C dL_law_254 ?_
  refine v_sld (j := i + 2) C hL (nI_add i 2) (by omega) hL2 dL_law_255 ?_
  refine v_aload_n C dL_law_256 0 rfl ?_
  refine v_iload_n C dL_law_257 3 rfl ?_
  refine v_iconst (v := 3) C dL_law_258 (by decide) ?_
  refine v_iadd C dL_law_259 ?_
  refine v_sld (j := i + 3) C hL (nI_add i 3) (by omega) hL2 dL_law_260 ?_
  refine v_aload_n C dL_law_261 0 rfl ?_
  refine v_iload_n C dL_law_262 3 rfl ?_
  refine v_iconst (v := 4) C dL_law_263 (by decide) ?_
  refine v_iadd C dL_law_264 ?_
  refine v_sld (j := i + 4) C hL (nI_add i 4) (by omega) hL2 dL_law_265 ?_
  refine v_aload_n C dL_law_266 0 rfl ?_
  refine v_iload_n C dL_law_267 3 rfl ?_
  refine v_iconst (v := 5) C dL_law_268 (by decide) ?_
  refine v_iadd C dL_law_269 ?_
  refine v_sld (j := i + 5) C hL (nI_add i 5) (by omega) hL2 dL_law_270 ?_
  refine v_callVMi (st := [.int r1]) (ci := 12) (qb := 5) C (kX12_feed hm a_m _ _ _ _ _ _ hw) mL_17 mI_X12 mC_X12_feed mN_X12_feed mS_X12_feed rfl rfl hd_X12_feed ⟨Nat.le_of_ble_eq_true rfl, Nat.le_of_ble_eq_true rfl⟩ ⟨by show _ + 0 ≤ 139614; omega, by show _ + 0 ≤ 8683408; omega⟩ [1] [0, 2, 3, 4, 5, 6, 7, 8, 9, 10, 11, 12, 13, 14, 15, 16, 17] (N0 := 18) rfl (by decide) (ms2 := (fun (U : Md) => [wX11 E h0 a_nb nb1, wX12 E hm a_m U, wX8 E (a_nb 0) a_st st, wX2 E (a_st 2) a_la la, wX7 E (a_st 3) a_sp sp, wX0 E (a_st 4) a_ac ac, wX1 E (a_st 5) a_bd bd, wX6 E (a_st 6) a_sg sg, wX9 E (a_nb 2) a_tp tp1, wX5 E (a_nb 3) a_hd hd, wX10 E (a_nb 4) a_vw vw, wX5 E (a_vw 6) a_o1 o1, wX5 E (a_vw 7) a_o2 o2, wX4 E (a_nb 5) a_pl pl, wX3 E (a_nb 6) a_pp pp, i0, i1, i2])) rfl (fun _ => rfl) (fun _ => rfl) (fun _ => rfl) rfl (Nat.le_of_ble_eq_true rfl) dL_law_271 (fun r2 m1 hw => ?_)
  obtain ⟨he, hw⟩ := hw
  refine v_icmp_eq (tgt := 1578) C dL_law_274 (by decide) (fun _ => ?_) (fun hc => absurd he hc)
  refine v_widen (a' := a + 53) (b' := b + 10240) C (by omega) (by omega) ?_
  exact kk nb1 m1 st la sp ac bd sg tp1 hd vw o1 o2 pl pp hw
set_option maxHeartbeats 4000000 in
set_option maxRecDepth 100000 in
theorem lawc_1 {X : VX} {E : VE} {l : Launch} {bb L : Nat} {xs : Nat → Int32} (C : VC X code 4 R_law room_1 E l) (hL : LWX X bb L xs) (hL2 : L ≤ 3072) (i : Nat) (hi : i + 6 ≤ L) {a b : Nat} (hab : a + 53 ≤ 139614 ∧ b + 10240 ≤ 8683408) (h0 hm : Nat) (a_nb : Nat → Nat) (a_m : Nat → Nat) (a_st : Nat → Nat) (a_la : Nat → Nat) (a_sp : Nat → Nat) (a_ac : Nat → Nat) (a_bd : Nat → Nat) (a_sg : Nat → Nat) (a_tp : Nat → Nat) (a_hd : Nat → Nat) (a_vw : Nat → Nat) (a_o1 : Nat → Nat) (a_o2 : Nat → Nat) (a_pl : Nat → Nat) (a_pp : Nat → Nat) (nb : Md) (m : Md) (st : Md) (la : Md) (sp : Md) (ac : Md) (bd : Md) (sg : Md) (tp : Md) (hd : Md) (vw : Md) (o1 : Md) (o2 : Md) (pl : Md) (pp : Md) (i0 i1 i2 : va_W) (P : Md → Md → Md → Md → Md → Md → Md → Md → Md → Md → Md → Md → Md → Md → Md → Prop) (hw : qX11_end nb tp (xs (i + 1)) (fun r1 nb1 tp1 => qX12_end m (xs (i + 1)) (fun r2 m1 => r1 = r2 ∧ P nb1 m1 st la sp ac bd sg tp1 hd vw o1 o2 pl pp))) (kk : ∀ (nb1 : Md) (m1 : Md) (st1 : Md) (la1 : Md) (sp1 : Md) (ac1 : Md) (bd1 : Md) (sg1 : Md) (tp1 : Md) (hd1 : Md) (vw1 : Md) (o11 : Md) (o21 : Md) (pl1 : Md) (pp1 : Md), P nb1 m1 st1 la1 sp1 ac1 bd1 sg1 tp1 hd1 vw1 o11 o21 pl1 pp1 → VV X (a + 53) (b + 10240) ([wX11 E h0 a_nb nb1, wX12 E hm a_m m1, wX8 E (a_nb 0) a_st st1, wX2 E (a_st 2) a_la la1, wX7 E (a_st 3) a_sp sp1, wX0 E (a_st 4) a_ac ac1, wX1 E (a_st 5) a_bd bd1, wX6 E (a_st 6) a_sg sg1, wX9 E (a_nb 2) a_tp tp1, wX5 E (a_nb 3) a_hd hd1, wX10 E (a_nb 4) a_vw vw1, wX5 E (a_vw 6) a_o1 o11, wX5 E (a_vw 7) a_o2 o21, wX4 E (a_nb 5) a_pl pl1, wX3 E (a_nb 6) a_pp pp1, i0, i1, i2].flatten) [(0, .ref bb), (1, .ref h0), (2, .ref hm), (3, .int (nI i))] 1578 []) : VV X a b ([wX11 E h0 a_nb nb, wX12 E hm a_m m, wX8 E (a_nb 0) a_st st, wX2 E (a_st 2) a_la la, wX7 E (a_st 3) a_sp sp, wX0 E (a_st 4) a_ac ac, wX1 E (a_st 5) a_bd bd, wX6 E (a_st 6) a_sg sg, wX9 E (a_nb 2) a_tp tp, wX5 E (a_nb 3) a_hd hd, wX10 E (a_nb 4) a_vw vw, wX5 E (a_vw 6) a_o1 o1, wX5 E (a_vw 7) a_o2 o2, wX4 E (a_nb 5) a_pl pl, wX3 E (a_nb 6) a_pp pp, i0, i1, i2].flatten) [(0, .ref bb), (1, .ref h0), (2, .ref hm), (3, .int (nI i))] 279 [] := by
  refine v_aload_n C dL_law_279 1 rfl ?_
  refine v_aload_n C dL_law_280 0 rfl ?_
  refine v_iload_n C dL_law_281 3 rfl ?_
  refine v_iconst (v := 1) C dL_law_282 (by decide) ?_
  refine v_iadd C dL_law_283 ?_
  refine v_sld (j := i + 1) C hL (nI_add i 1) (by omega) hL2 dL_law_284 ?_
  refine v_callVMi (st := []) (ci := 11) (qb := 0) C (kX11_end h0 a_nb a_tp _ _ _ hw) mL_18 mI_X11 mC_X11_end mN_X11_end mS_X11_end rfl rfl hd_X11_end ⟨Nat.le_of_ble_eq_true rfl, Nat.le_of_ble_eq_true rfl⟩ ⟨by show _ + 0 ≤ 139614; omega, by show _ + 0 ≤ 8683408; omega⟩ [0, 8] [1, 2, 3, 4, 5, 6, 7, 9, 10, 11, 12, 13, 14, 15, 16, 17] (N0 := 18) rfl (by decide) (ms2 := (fun (U : Md × Md) => [wX11 E h0 a_nb U.1, wX12 E hm a_m m, wX8 E (a_nb 0) a_st st, wX2 E (a_st 2) a_la la, wX7 E (a_st 3) a_sp sp, wX0 E (a_st 4) a_ac ac, wX1 E (a_st 5) a_bd bd, wX6 E (a_st 6) a_sg sg, wX9 E (a_nb 2) a_tp U.2, wX5 E (a_nb 3) a_hd hd, wX10 E (a_nb 4) a_vw vw, wX5 E (a_vw 6) a_o1 o1, wX5 E (a_vw 7) a_o2 o2, wX4 E (a_nb 5) a_pl pl, wX3 E (a_nb 6) a_pp pp, i0, i1, i2])) rfl (fun _ => rfl) (fun _ => rfl) (fun _ => rfl) rfl (Nat.le_of_ble_eq_true rfl) dL_law_285 (fun r1 U hw => ?_)
  obtain ⟨nb1, tp1⟩ := U
  refine v_aload_n C dL_law_288 2 rfl ?_
  refine v_aload_n C dL_law_289 0 rfl ?_
  refine v_iload_n C dL_law_290 3 rfl ?_
  refine v_iconst (v := 1) C dL_law_291 (by decide) ?_
  refine v_iadd C dL_law_292 ?_
  refine v_sld (j := i + 1) C hL (nI_add i 1) (by omega) hL2 dL_law_293 ?_
  refine v_callVMi (st := [.int r1]) (ci := 12) (qb := 5) C (kX12_end hm a_m _ _ hw) mL_22 mI_X12 mC_X12_end mN_X12_end mS_X12_end rfl rfl hd_X12_end ⟨Nat.le_of_ble_eq_true rfl, Nat.le_of_ble_eq_true rfl⟩ ⟨by show _ + 0 ≤ 139614; omega, by show _ + 0 ≤ 8683408; omega⟩ [1] [0, 2, 3, 4, 5, 6, 7, 8, 9, 10, 11, 12, 13, 14, 15, 16, 17] (N0 := 18) rfl (by decide) (ms2 := (fun (U : Md) => [wX11 E h0 a_nb nb1, wX12 E hm a_m U, wX8 E (a_nb 0) a_st st, wX2 E (a_st 2) a_la la, wX7 E (a_st 3) a_sp sp, wX0 E (a_st 4) a_ac ac, wX1 E (a_st 5) a_bd bd, wX6 E (a_st 6) a_sg sg, wX9 E (a_nb 2) a_tp tp1, wX5 E (a_nb 3) a_hd hd, wX10 E (a_nb 4) a_vw vw, wX5 E (a_vw 6) a_o1 o1, wX5 E (a_vw 7) a_o2 o2, wX4 E (a_nb 5) a_pl pl, wX3 E (a_nb 6) a_pp pp, i0, i1, i2])) rfl (fun _ => rfl) (fun _ => rfl) (fun _ => rfl) rfl (Nat.le_of_ble_eq_true rfl) dL_law_294 (fun r2 m1 hw => ?_)
  obtain ⟨he, hw⟩ := hw
  refine v_icmp_eq (tgt := 1578) C dL_law_297 (by decide) (fun _ => ?_) (fun hc => absurd he hc)
  refine v_widen (a' := a + 53) (b' := b + 10240) C (by omega) (by omega) ?_
  exact kk nb1 m1 st la sp ac bd sg tp1 hd vw o1 o2 pl pp hw
set_option maxHeartbeats 4000000 in
set_option maxRecDepth 100000 in
theorem lawc_2 {X : VX} {E : VE} {l : Launch} {bb L : Nat} {xs : Nat → Int32} (C : VC X code 4 R_law room_1 E l) (hL : LWX X bb L xs) (hL2 : L ≤ 3072) (i : Nat) (hi : i + 6 ≤ L) {a b : Nat} (hab : a + 53 ≤ 139614 ∧ b + 10240 ≤ 8683408) (h0 hm : Nat) (a_nb : Nat → Nat) (a_m : Nat → Nat) (a_st : Nat → Nat) (a_la : Nat → Nat) (a_sp : Nat → Nat) (a_ac : Nat → Nat) (a_bd : Nat → Nat) (a_sg : Nat → Nat) (a_tp : Nat → Nat) (a_hd : Nat → Nat) (a_vw : Nat → Nat) (a_o1 : Nat → Nat) (a_o2 : Nat → Nat) (a_pl : Nat → Nat) (a_pp : Nat → Nat) (nb : Md) (m : Md) (st : Md) (la : Md) (sp : Md) (ac : Md) (bd : Md) (sg : Md) (tp : Md) (hd : Md) (vw : Md) (o1 : Md) (o2 : Md) (pl : Md) (pp : Md) (i0 i1 i2 : va_W) (P : Md → Md → Md → Md → Md → Md → Md → Md → Md → Md → Md → Md → Md → Md → Md → Prop) (hw : qX11_next nb st (xs (i + 1)) (fun r1 nb1 st1 => qX12_next m (xs (i + 1)) (fun r2 m1 => r1 = r2 ∧ P nb1 m1 st1 la sp ac bd sg tp hd vw o1 o2 pl pp))) (kk : ∀ (nb1 : Md) (m1 : Md) (st1 : Md) (la1 : Md) (sp1 : Md) (ac1 : Md) (bd1 : Md) (sg1 : Md) (tp1 : Md) (hd1 : Md) (vw1 : Md) (o11 : Md) (o21 : Md) (pl1 : Md) (pp1 : Md), P nb1 m1 st1 la1 sp1 ac1 bd1 sg1 tp1 hd1 vw1 o11 o21 pl1 pp1 → VV X (a + 53) (b + 10240) ([wX11 E h0 a_nb nb1, wX12 E hm a_m m1, wX8 E (a_nb 0) a_st st1, wX2 E (a_st 2) a_la la1, wX7 E (a_st 3) a_sp sp1, wX0 E (a_st 4) a_ac ac1, wX1 E (a_st 5) a_bd bd1, wX6 E (a_st 6) a_sg sg1, wX9 E (a_nb 2) a_tp tp1, wX5 E (a_nb 3) a_hd hd1, wX10 E (a_nb 4) a_vw vw1, wX5 E (a_vw 6) a_o1 o11, wX5 E (a_vw 7) a_o2 o21, wX4 E (a_nb 5) a_pl pl1, wX3 E (a_nb 6) a_pp pp1, i0, i1, i2].flatten) [(0, .ref bb), (1, .ref h0), (2, .ref hm), (3, .int (nI i))] 1578 []) : VV X a b ([wX11 E h0 a_nb nb, wX12 E hm a_m m, wX8 E (a_nb 0) a_st st, wX2 E (a_st 2) a_la la, wX7 E (a_st 3) a_sp sp, wX0 E (a_st 4) a_ac ac, wX1 E (a_st 5) a_bd bd, wX6 E (a_st 6) a_sg sg, wX9 E (a_nb 2) a_tp tp, wX5 E (a_nb 3) a_hd hd, wX10 E (a_nb 4) a_vw vw, wX5 E (a_vw 6) a_o1 o1, wX5 E (a_vw 7) a_o2 o2, wX4 E (a_nb 5) a_pl pl, wX3 E (a_nb 6) a_pp pp, i0, i1, i2].flatten) [(0, .ref bb), (1, .ref h0), (2, .ref hm), (3, .int (nI i))] 302 [] := by
  refine v_aload_n C dL_law_302 1 rfl ?_
  refine v_aload_n C dL_law_303 0 rfl ?_
  refine v_iload_n C dL_law_304 3 rfl ?_
  refine v_iconst (v := 1) C dL_law_305 (by decide) ?_
  refine v_iadd C dL_law_306 ?_
  refine v_sld (j := i + 1) C hL (nI_add i 1) (by omega) hL2 dL_law_307 ?_
  refine v_callVMi (st := []) (ci := 11) (qb := 0) C (kX11_next h0 a_nb a_st _ _ _ hw) mL_23 mI_X11 mC_X11_next mN_X11_next mS_X11_next rfl rfl hd_X11_next ⟨Nat.le_of_ble_eq_true rfl, Nat.le_of_ble_eq_true rfl⟩ ⟨by show _ + 0 ≤ 139614; omega, by show _ + 0 ≤ 8683408; omega⟩ [0, 2] [1, 3, 4, 5, 6, 7, 8, 9, 10, 11, 12, 13, 14, 15, 16, 17] (N0 := 18) rfl (by decide) (ms2 := (fun (U : Md × Md) => [wX11 E h0 a_nb U.1, wX12 E hm a_m m, wX8 E (a_nb 0) a_st U.2, wX2 E (a_st 2) a_la la, wX7 E (a_st 3) a_sp sp, wX0 E (a_st 4) a_ac ac, wX1 E (a_st 5) a_bd bd, wX6 E (a_st 6) a_sg sg, wX9 E (a_nb 2) a_tp tp, wX5 E (a_nb 3) a_hd hd, wX10 E (a_nb 4) a_vw vw, wX5 E (a_vw 6) a_o1 o1, wX5 E (a_vw 7) a_o2 o2, wX4 E (a_nb 5) a_pl pl, wX3 E (a_nb 6) a_pp pp, i0, i1, i2])) rfl (fun _ => rfl) (fun _ => rfl) (fun _ => rfl) rfl (Nat.le_of_ble_eq_true rfl) dL_law_308 (fun r1 U hw => ?_)
  obtain ⟨nb1, st1⟩ := U
  refine v_aload_n C dL_law_311 2 rfl ?_
  refine v_aload_n C dL_law_312 0 rfl ?_
  refine v_iload_n C dL_law_313 3 rfl ?_
  refine v_iconst (v := 1) C dL_law_314 (by decide) ?_
  refine v_iadd C dL_law_315 ?_
  refine v_sld (j := i + 1) C hL (nI_add i 1) (by omega) hL2 dL_law_316 ?_
  refine v_callVMi (st := [.int r1]) (ci := 12) (qb := 5) C (kX12_next hm a_m _ _ hw) mL_26 mI_X12 mC_X12_next mN_X12_next mS_X12_next rfl rfl hd_X12_next ⟨Nat.le_of_ble_eq_true rfl, Nat.le_of_ble_eq_true rfl⟩ ⟨by show _ + 0 ≤ 139614; omega, by show _ + 0 ≤ 8683408; omega⟩ [1] [0, 2, 3, 4, 5, 6, 7, 8, 9, 10, 11, 12, 13, 14, 15, 16, 17] (N0 := 18) rfl (by decide) (ms2 := (fun (U : Md) => [wX11 E h0 a_nb nb1, wX12 E hm a_m U, wX8 E (a_nb 0) a_st st1, wX2 E (a_st 2) a_la la, wX7 E (a_st 3) a_sp sp, wX0 E (a_st 4) a_ac ac, wX1 E (a_st 5) a_bd bd, wX6 E (a_st 6) a_sg sg, wX9 E (a_nb 2) a_tp tp, wX5 E (a_nb 3) a_hd hd, wX10 E (a_nb 4) a_vw vw, wX5 E (a_vw 6) a_o1 o1, wX5 E (a_vw 7) a_o2 o2, wX4 E (a_nb 5) a_pl pl, wX3 E (a_nb 6) a_pp pp, i0, i1, i2])) rfl (fun _ => rfl) (fun _ => rfl) (fun _ => rfl) rfl (Nat.le_of_ble_eq_true rfl) dL_law_317 (fun r2 m1 hw => ?_)
  obtain ⟨he, hw⟩ := hw
  refine v_icmp_eq (tgt := 1578) C dL_law_320 (by decide) (fun _ => ?_) (fun hc => absurd he hc)
  refine v_widen (a' := a + 53) (b' := b + 10240) C (by omega) (by omega) ?_
  exact kk nb1 m1 st1 la sp ac bd sg tp hd vw o1 o2 pl pp hw
set_option maxHeartbeats 4000000 in
set_option maxRecDepth 100000 in
theorem lawc_3 {X : VX} {E : VE} {l : Launch} {bb L : Nat} {xs : Nat → Int32} (C : VC X code 4 R_law room_1 E l) (hL : LWX X bb L xs) (hL2 : L ≤ 3072) (i : Nat) (hi : i + 6 ≤ L) {a b : Nat} (hab : a + 53 ≤ 139614 ∧ b + 10240 ≤ 8683408) (h0 hm : Nat) (a_nb : Nat → Nat) (a_m : Nat → Nat) (a_st : Nat → Nat) (a_la : Nat → Nat) (a_sp : Nat → Nat) (a_ac : Nat → Nat) (a_bd : Nat → Nat) (a_sg : Nat → Nat) (a_tp : Nat → Nat) (a_hd : Nat → Nat) (a_vw : Nat → Nat) (a_o1 : Nat → Nat) (a_o2 : Nat → Nat) (a_pl : Nat → Nat) (a_pp : Nat → Nat) (nb : Md) (m : Md) (st : Md) (la : Md) (sp : Md) (ac : Md) (bd : Md) (sg : Md) (tp : Md) (hd : Md) (vw : Md) (o1 : Md) (o2 : Md) (pl : Md) (pp : Md) (i0 i1 i2 : va_W) (P : Md → Md → Md → Md → Md → Md → Md → Md → Md → Md → Md → Md → Md → Md → Md → Prop) (hw : qX11_place nb st la (xs (i + 1)) (xs (i + 2)) (fun r1 nb1 st1 la1 => qX12_place m (xs (i + 1)) (xs (i + 2)) (fun r2 m1 => r1 = r2 ∧ P nb1 m1 st1 la1 sp ac bd sg tp hd vw o1 o2 pl pp))) (kk : ∀ (nb1 : Md) (m1 : Md) (st1 : Md) (la1 : Md) (sp1 : Md) (ac1 : Md) (bd1 : Md) (sg1 : Md) (tp1 : Md) (hd1 : Md) (vw1 : Md) (o11 : Md) (o21 : Md) (pl1 : Md) (pp1 : Md), P nb1 m1 st1 la1 sp1 ac1 bd1 sg1 tp1 hd1 vw1 o11 o21 pl1 pp1 → VV X (a + 53) (b + 10240) ([wX11 E h0 a_nb nb1, wX12 E hm a_m m1, wX8 E (a_nb 0) a_st st1, wX2 E (a_st 2) a_la la1, wX7 E (a_st 3) a_sp sp1, wX0 E (a_st 4) a_ac ac1, wX1 E (a_st 5) a_bd bd1, wX6 E (a_st 6) a_sg sg1, wX9 E (a_nb 2) a_tp tp1, wX5 E (a_nb 3) a_hd hd1, wX10 E (a_nb 4) a_vw vw1, wX5 E (a_vw 6) a_o1 o11, wX5 E (a_vw 7) a_o2 o21, wX4 E (a_nb 5) a_pl pl1, wX3 E (a_nb 6) a_pp pp1, i0, i1, i2].flatten) [(0, .ref bb), (1, .ref h0), (2, .ref hm), (3, .int (nI i))] 1578 []) : VV X a b ([wX11 E h0 a_nb nb, wX12 E hm a_m m, wX8 E (a_nb 0) a_st st, wX2 E (a_st 2) a_la la, wX7 E (a_st 3) a_sp sp, wX0 E (a_st 4) a_ac ac, wX1 E (a_st 5) a_bd bd, wX6 E (a_st 6) a_sg sg, wX9 E (a_nb 2) a_tp tp, wX5 E (a_nb 3) a_hd hd, wX10 E (a_nb 4) a_vw vw, wX5 E (a_vw 6) a_o1 o1, wX5 E (a_vw 7) a_o2 o2, wX4 E (a_nb 5) a_pl pl, wX3 E (a_nb 6) a_pp pp, i0, i1, i2].flatten) [(0, .ref bb), (1, .ref h0), (2, .ref hm), (3, .int (nI i))] 325 [] := by
  refine v_aload_n C dL_law_325 1 rfl ?_
  refine v_aload_n C dL_law_326 0 rfl ?_
  refine v_iload_n C dL_law_327 3 rfl ?_
  refine v_iconst (v := 1) C dL_law_328 (by decide) ?_
  refine v_iadd C dL_law_329 ?_
  refine v_sld (j := i + 1) C hL (nI_add i 1) (by omega) hL2 dL_law_330 ?_
  refine v_aload_n C dL_law_331 0 rfl ?_
  refine v_iload_n C dL_law_332 3 rfl ?_
  refine v_iconst (v := 2) C dL_law_333 (by decide) ?_
  refine v_iadd C dL_law_334 ?_
  refine v_sld (j := i + 2) C hL (nI_add i 2) (by omega) hL2 dL_law_335 ?_
  refine v_callVMi (st := []) (ci := 11) (qb := 0) C (kX11_place h0 a_nb a_st a_la _ _ _ _ _ hw) mL_27 mI_X11 mC_X11_place mN_X11_place mS_X11_place rfl rfl hd_X11_place ⟨Nat.le_of_ble_eq_true rfl, Nat.le_of_ble_eq_true rfl⟩ ⟨by show _ + 0 ≤ 139614; omega, by show _ + 0 ≤ 8683408; omega⟩ [0, 2, 3] [1, 4, 5, 6, 7, 8, 9, 10, 11, 12, 13, 14, 15, 16, 17] (N0 := 18) rfl (by decide) (ms2 := (fun (U : Md × Md × Md) => [wX11 E h0 a_nb U.1, wX12 E hm a_m m, wX8 E (a_nb 0) a_st U.2.1, wX2 E (a_st 2) a_la U.2.2, wX7 E (a_st 3) a_sp sp, wX0 E (a_st 4) a_ac ac, wX1 E (a_st 5) a_bd bd, wX6 E (a_st 6) a_sg sg, wX9 E (a_nb 2) a_tp tp, wX5 E (a_nb 3) a_hd hd, wX10 E (a_nb 4) a_vw vw, wX5 E (a_vw 6) a_o1 o1, wX5 E (a_vw 7) a_o2 o2, wX4 E (a_nb 5) a_pl pl, wX3 E (a_nb 6) a_pp pp, i0, i1, i2])) rfl (fun _ => rfl) (fun _ => rfl) (fun _ => rfl) rfl (Nat.le_of_ble_eq_true rfl) dL_law_336 (fun r1 U hw => ?_)
  obtain ⟨nb1, st1, la1⟩ := U
  refine v_aload_n C dL_law_339 2 rfl ?_
  refine v_aload_n C dL_law_340 0 rfl ?_
  refine v_iload_n C dL_law_341 3 rfl ?_
  refine v_iconst (v := 1) C dL_law_342 (by decide) ?_
  refine v_iadd C dL_law_343 ?_
  refine v_sld (j := i + 1) C hL (nI_add i 1) (by omega) hL2 dL_law_344 ?_
  refine v_aload_n C dL_law_345 0 rfl ?_
  refine v_iload_n C dL_law_346 3 rfl ?_
  refine v_iconst (v := 2) C dL_law_347 (by decide) ?_
  refine v_iadd C dL_law_348 ?_
  refine v_sld (j := i + 2) C hL (nI_add i 2) (by omega) hL2 dL_law_349 ?_
  refine v_callVMi (st := [.int r1]) (ci := 12) (qb := 5) C (kX12_place hm a_m _ _ _ hw) mL_31 mI_X12 mC_X12_place mN_X12_place mS_X12_place rfl rfl hd_X12_place ⟨Nat.le_of_ble_eq_true rfl, Nat.le_of_ble_eq_true rfl⟩ ⟨by show _ + 0 ≤ 139614; omega, by show _ + 0 ≤ 8683408; omega⟩ [1] [0, 2, 3, 4, 5, 6, 7, 8, 9, 10, 11, 12, 13, 14, 15, 16, 17] (N0 := 18) rfl (by decide) (ms2 := (fun (U : Md) => [wX11 E h0 a_nb nb1, wX12 E hm a_m U, wX8 E (a_nb 0) a_st st1, wX2 E (a_st 2) a_la la1, wX7 E (a_st 3) a_sp sp, wX0 E (a_st 4) a_ac ac, wX1 E (a_st 5) a_bd bd, wX6 E (a_st 6) a_sg sg, wX9 E (a_nb 2) a_tp tp, wX5 E (a_nb 3) a_hd hd, wX10 E (a_nb 4) a_vw vw, wX5 E (a_vw 6) a_o1 o1, wX5 E (a_vw 7) a_o2 o2, wX4 E (a_nb 5) a_pl pl, wX3 E (a_nb 6) a_pp pp, i0, i1, i2])) rfl (fun _ => rfl) (fun _ => rfl) (fun _ => rfl) rfl (Nat.le_of_ble_eq_true rfl) dL_law_350 (fun r2 m1 hw => ?_)
  obtain ⟨he, hw⟩ := hw
  refine v_icmp_eq (tgt := 1578) C dL_law_353 (by decide) (fun _ => ?_) (fun hc => absurd he hc)
  refine v_widen (a' := a + 53) (b' := b + 10240) C (by omega) (by omega) ?_
  exact kk nb1 m1 st1 la1 sp ac bd sg tp hd vw o1 o2 pl pp hw
set_option maxHeartbeats 4000000 in
set_option maxRecDepth 100000 in
theorem lawc_4 {X : VX} {E : VE} {l : Launch} {bb L : Nat} {xs : Nat → Int32} (C : VC X code 4 R_law room_1 E l) (hL : LWX X bb L xs) (hL2 : L ≤ 3072) (i : Nat) (hi : i + 6 ≤ L) {a b : Nat} (hab : a + 53 ≤ 139614 ∧ b + 10240 ≤ 8683408) (h0 hm : Nat) (a_nb : Nat → Nat) (a_m : Nat → Nat) (a_st : Nat → Nat) (a_la : Nat → Nat) (a_sp : Nat → Nat) (a_ac : Nat → Nat) (a_bd : Nat → Nat) (a_sg : Nat → Nat) (a_tp : Nat → Nat) (a_hd : Nat → Nat) (a_vw : Nat → Nat) (a_o1 : Nat → Nat) (a_o2 : Nat → Nat) (a_pl : Nat → Nat) (a_pp : Nat → Nat) (nb : Md) (m : Md) (st : Md) (la : Md) (sp : Md) (ac : Md) (bd : Md) (sg : Md) (tp : Md) (hd : Md) (vw : Md) (o1 : Md) (o2 : Md) (pl : Md) (pp : Md) (i0 i1 i2 : va_W) (P : Md → Md → Md → Md → Md → Md → Md → Md → Md → Md → Md → Md → Md → Md → Md → Prop) (hw : qX11_part nb st la vw (xs (i + 1)) (xs (i + 2)) (fun r1 nb1 st1 la1 vw1 => qX12_part m (xs (i + 1)) (xs (i + 2)) (fun r2 m1 => r1 = r2 ∧ P nb1 m1 st1 la1 sp ac bd sg tp hd vw1 o1 o2 pl pp))) (kk : ∀ (nb1 : Md) (m1 : Md) (st1 : Md) (la1 : Md) (sp1 : Md) (ac1 : Md) (bd1 : Md) (sg1 : Md) (tp1 : Md) (hd1 : Md) (vw1 : Md) (o11 : Md) (o21 : Md) (pl1 : Md) (pp1 : Md), P nb1 m1 st1 la1 sp1 ac1 bd1 sg1 tp1 hd1 vw1 o11 o21 pl1 pp1 → VV X (a + 53) (b + 10240) ([wX11 E h0 a_nb nb1, wX12 E hm a_m m1, wX8 E (a_nb 0) a_st st1, wX2 E (a_st 2) a_la la1, wX7 E (a_st 3) a_sp sp1, wX0 E (a_st 4) a_ac ac1, wX1 E (a_st 5) a_bd bd1, wX6 E (a_st 6) a_sg sg1, wX9 E (a_nb 2) a_tp tp1, wX5 E (a_nb 3) a_hd hd1, wX10 E (a_nb 4) a_vw vw1, wX5 E (a_vw 6) a_o1 o11, wX5 E (a_vw 7) a_o2 o21, wX4 E (a_nb 5) a_pl pl1, wX3 E (a_nb 6) a_pp pp1, i0, i1, i2].flatten) [(0, .ref bb), (1, .ref h0), (2, .ref hm), (3, .int (nI i))] 1578 []) : VV X a b ([wX11 E h0 a_nb nb, wX12 E hm a_m m, wX8 E (a_nb 0) a_st st, wX2 E (a_st 2) a_la la, wX7 E (a_st 3) a_sp sp, wX0 E (a_st 4) a_ac ac, wX1 E (a_st 5) a_bd bd, wX6 E (a_st 6) a_sg sg, wX9 E (a_nb 2) a_tp tp, wX5 E (a_nb 3) a_hd hd, wX10 E (a_nb 4) a_vw vw, wX5 E (a_vw 6) a_o1 o1, wX5 E (a_vw 7) a_o2 o2, wX4 E (a_nb 5) a_pl pl, wX3 E (a_nb 6) a_pp pp, i0, i1, i2].flatten) [(0, .ref bb), (1, .ref h0), (2, .ref hm), (3, .int (nI i))] 358 [] := by
  refine v_aload_n C dL_law_358 1 rfl ?_
  refine v_aload_n C dL_law_359 0 rfl ?_
  refine v_iload_n C dL_law_360 3 rfl ?_
  refine v_iconst (v := 1) C dL_law_361 (by decide) ?_
  refine v_iadd C dL_law_362 ?_
  refine v_sld (j := i + 1) C hL (nI_add i 1) (by omega) hL2 dL_law_363 ?_
  refine v_aload_n C dL_law_364 0 rfl ?_
  refine v_iload_n C dL_law_365 3 rfl ?_
  refine v_iconst (v := 2) C dL_law_366 (by decide) ?_
  refine v_iadd C dL_law_367 ?_
  refine v_sld (j := i + 2) C hL (nI_add i 2) (by omega) hL2 dL_law_368 ?_
  refine v_callVMi (st := []) (ci := 11) (qb := 0) C (kX11_part h0 a_nb a_st a_la a_vw _ _ _ _ _ _ hw) mL_32 mI_X11 mC_X11_part mN_X11_part mS_X11_part rfl rfl hd_X11_part ⟨Nat.le_of_ble_eq_true rfl, Nat.le_of_ble_eq_true rfl⟩ ⟨by show _ + 0 ≤ 139614; omega, by show _ + 0 ≤ 8683408; omega⟩ [0, 2, 3, 10] [1, 4, 5, 6, 7, 8, 9, 11, 12, 13, 14, 15, 16, 17] (N0 := 18) rfl (by decide) (ms2 := (fun (U : Md × Md × Md × Md) => [wX11 E h0 a_nb U.1, wX12 E hm a_m m, wX8 E (a_nb 0) a_st U.2.1, wX2 E (a_st 2) a_la U.2.2.1, wX7 E (a_st 3) a_sp sp, wX0 E (a_st 4) a_ac ac, wX1 E (a_st 5) a_bd bd, wX6 E (a_st 6) a_sg sg, wX9 E (a_nb 2) a_tp tp, wX5 E (a_nb 3) a_hd hd, wX10 E (a_nb 4) a_vw U.2.2.2, wX5 E (a_vw 6) a_o1 o1, wX5 E (a_vw 7) a_o2 o2, wX4 E (a_nb 5) a_pl pl, wX3 E (a_nb 6) a_pp pp, i0, i1, i2])) rfl (fun _ => rfl) (fun _ => rfl) (fun _ => rfl) rfl (Nat.le_of_ble_eq_true rfl) dL_law_369 (fun r1 U hw => ?_)
  obtain ⟨nb1, st1, la1, vw1⟩ := U
  refine v_aload_n C dL_law_372 2 rfl ?_
  refine v_aload_n C dL_law_373 0 rfl ?_
  refine v_iload_n C dL_law_374 3 rfl ?_
  refine v_iconst (v := 1) C dL_law_375 (by decide) ?_
  refine v_iadd C dL_law_376 ?_
  refine v_sld (j := i + 1) C hL (nI_add i 1) (by omega) hL2 dL_law_377 ?_
  refine v_aload_n C dL_law_378 0 rfl ?_
  refine v_iload_n C dL_law_379 3 rfl ?_
  refine v_iconst (v := 2) C dL_law_380 (by decide) ?_
  refine v_iadd C dL_law_381 ?_
  refine v_sld (j := i + 2) C hL (nI_add i 2) (by omega) hL2 dL_law_382 ?_
  refine v_callVMi (st := [.int r1]) (ci := 12) (qb := 5) C (kX12_part hm a_m _ _ _ hw) mL_35 mI_X12 mC_X12_part mN_X12_part mS_X12_part rfl rfl hd_X12_part ⟨Nat.le_of_ble_eq_true rfl, Nat.le_of_ble_eq_true rfl⟩ ⟨by show _ + 0 ≤ 139614; omega, by show _ + 0 ≤ 8683408; omega⟩ [1] [0, 2, 3, 4, 5, 6, 7, 8, 9, 10, 11, 12, 13, 14, 15, 16, 17] (N0 := 18) rfl (by decide) (ms2 := (fun (U : Md) => [wX11 E h0 a_nb nb1, wX12 E hm a_m U, wX8 E (a_nb 0) a_st st1, wX2 E (a_st 2) a_la la1, wX7 E (a_st 3) a_sp sp, wX0 E (a_st 4) a_ac ac, wX1 E (a_st 5) a_bd bd, wX6 E (a_st 6) a_sg sg, wX9 E (a_nb 2) a_tp tp, wX5 E (a_nb 3) a_hd hd, wX10 E (a_nb 4) a_vw vw1, wX5 E (a_vw 6) a_o1 o1, wX5 E (a_vw 7) a_o2 o2, wX4 E (a_nb 5) a_pl pl, wX3 E (a_nb 6) a_pp pp, i0, i1, i2])) rfl (fun _ => rfl) (fun _ => rfl) (fun _ => rfl) rfl (Nat.le_of_ble_eq_true rfl) dL_law_383 (fun r2 m1 hw => ?_)
  obtain ⟨he, hw⟩ := hw
  refine v_icmp_eq (tgt := 1578) C dL_law_386 (by decide) (fun _ => ?_) (fun hc => absurd he hc)
  refine v_widen (a' := a + 53) (b' := b + 10240) C (by omega) (by omega) ?_
  exact kk nb1 m1 st1 la1 sp ac bd sg tp hd vw1 o1 o2 pl pp hw
set_option maxHeartbeats 4000000 in
set_option maxRecDepth 100000 in
theorem lawc_5 {X : VX} {E : VE} {l : Launch} {bb L : Nat} {xs : Nat → Int32} (C : VC X code 4 R_law room_1 E l) (hL : LWX X bb L xs) (hL2 : L ≤ 3072) (i : Nat) (hi : i + 6 ≤ L) {a b : Nat} (hab : a + 53 ≤ 139614 ∧ b + 10240 ≤ 8683408) (h0 hm : Nat) (a_nb : Nat → Nat) (a_m : Nat → Nat) (a_st : Nat → Nat) (a_la : Nat → Nat) (a_sp : Nat → Nat) (a_ac : Nat → Nat) (a_bd : Nat → Nat) (a_sg : Nat → Nat) (a_tp : Nat → Nat) (a_hd : Nat → Nat) (a_vw : Nat → Nat) (a_o1 : Nat → Nat) (a_o2 : Nat → Nat) (a_pl : Nat → Nat) (a_pp : Nat → Nat) (nb : Md) (m : Md) (st : Md) (la : Md) (sp : Md) (ac : Md) (bd : Md) (sg : Md) (tp : Md) (hd : Md) (vw : Md) (o1 : Md) (o2 : Md) (pl : Md) (pp : Md) (i0 i1 i2 : va_W) (P : Md → Md → Md → Md → Md → Md → Md → Md → Md → Md → Md → Md → Md → Md → Md → Prop) (hw : qX11_people nb st la (xs (i + 1)) (xs (i + 2)) (xs (i + 3)) (fun r1 nb1 st1 la1 => qX12_people m (xs (i + 1)) (xs (i + 2)) (xs (i + 3)) (fun r2 m1 => r1 = r2 ∧ P nb1 m1 st1 la1 sp ac bd sg tp hd vw o1 o2 pl pp))) (kk : ∀ (nb1 : Md) (m1 : Md) (st1 : Md) (la1 : Md) (sp1 : Md) (ac1 : Md) (bd1 : Md) (sg1 : Md) (tp1 : Md) (hd1 : Md) (vw1 : Md) (o11 : Md) (o21 : Md) (pl1 : Md) (pp1 : Md), P nb1 m1 st1 la1 sp1 ac1 bd1 sg1 tp1 hd1 vw1 o11 o21 pl1 pp1 → VV X (a + 53) (b + 10240) ([wX11 E h0 a_nb nb1, wX12 E hm a_m m1, wX8 E (a_nb 0) a_st st1, wX2 E (a_st 2) a_la la1, wX7 E (a_st 3) a_sp sp1, wX0 E (a_st 4) a_ac ac1, wX1 E (a_st 5) a_bd bd1, wX6 E (a_st 6) a_sg sg1, wX9 E (a_nb 2) a_tp tp1, wX5 E (a_nb 3) a_hd hd1, wX10 E (a_nb 4) a_vw vw1, wX5 E (a_vw 6) a_o1 o11, wX5 E (a_vw 7) a_o2 o21, wX4 E (a_nb 5) a_pl pl1, wX3 E (a_nb 6) a_pp pp1, i0, i1, i2].flatten) [(0, .ref bb), (1, .ref h0), (2, .ref hm), (3, .int (nI i))] 1578 []) : VV X a b ([wX11 E h0 a_nb nb, wX12 E hm a_m m, wX8 E (a_nb 0) a_st st, wX2 E (a_st 2) a_la la, wX7 E (a_st 3) a_sp sp, wX0 E (a_st 4) a_ac ac, wX1 E (a_st 5) a_bd bd, wX6 E (a_st 6) a_sg sg, wX9 E (a_nb 2) a_tp tp, wX5 E (a_nb 3) a_hd hd, wX10 E (a_nb 4) a_vw vw, wX5 E (a_vw 6) a_o1 o1, wX5 E (a_vw 7) a_o2 o2, wX4 E (a_nb 5) a_pl pl, wX3 E (a_nb 6) a_pp pp, i0, i1, i2].flatten) [(0, .ref bb), (1, .ref h0), (2, .ref hm), (3, .int (nI i))] 391 [] := by
  refine v_aload_n C dL_law_391 1 rfl ?_
  refine v_aload_n C dL_law_392 0 rfl ?_
  refine v_iload_n C dL_law_393 3 rfl ?_
  refine v_iconst (v := 1) C dL_law_394 (by decide) ?_
  refine v_iadd C dL_law_395 ?_
  refine v_sld (j := i + 1) C hL (nI_add i 1) (by omega) hL2 dL_law_396 ?_
  refine v_aload_n C dL_law_397 0 rfl ?_
  refine v_iload_n C dL_law_398 3 rfl ?_
  refine v_iconst (v := 2) C dL_law_399 (by decide) ?_
  refine v_iadd C dL_law_400 ?_
  refine v_sld (j := i + 2) C hL (nI_add i 2) (by omega) hL2 dL_law_401 ?_
  refine v_aload_n C dL_law_402 0 rfl ?_
  refine v_iload_n C dL_law_403 3 rfl ?_
  refine v_iconst (v := 3) C dL_law_404 (by decide) ?_
  refine v_iadd C dL_law_405 ?_
  refine v_sld (j := i + 3) C hL (nI_add i 3) (by omega) hL2 dL_law_406 ?_
  refine v_callVMi (st := []) (ci := 11) (qb := 0) C (kX11_people h0 a_nb a_st a_la _ _ _ _ _ _ hw) mL_36 mI_X11 mC_X11_people mN_X11_people mS_X11_people rfl rfl hd_X11_people ⟨Nat.le_of_ble_eq_true rfl, Nat.le_of_ble_eq_true rfl⟩ ⟨by show _ + 0 ≤ 139614; omega, by show _ + 0 ≤ 8683408; omega⟩ [0, 2, 3] [1, 4, 5, 6, 7, 8, 9, 10, 11, 12, 13, 14, 15, 16, 17] (N0 := 18) rfl (by decide) (ms2 := (fun (U : Md × Md × Md) => [wX11 E h0 a_nb U.1, wX12 E hm a_m m, wX8 E (a_nb 0) a_st U.2.1, wX2 E (a_st 2) a_la U.2.2, wX7 E (a_st 3) a_sp sp, wX0 E (a_st 4) a_ac ac, wX1 E (a_st 5) a_bd bd, wX6 E (a_st 6) a_sg sg, wX9 E (a_nb 2) a_tp tp, wX5 E (a_nb 3) a_hd hd, wX10 E (a_nb 4) a_vw vw, wX5 E (a_vw 6) a_o1 o1, wX5 E (a_vw 7) a_o2 o2, wX4 E (a_nb 5) a_pl pl, wX3 E (a_nb 6) a_pp pp, i0, i1, i2])) rfl (fun _ => rfl) (fun _ => rfl) (fun _ => rfl) rfl (Nat.le_of_ble_eq_true rfl) dL_law_407 (fun r1 U hw => ?_)
  obtain ⟨nb1, st1, la1⟩ := U
  refine v_aload_n C dL_law_410 2 rfl ?_
  refine v_aload_n C dL_law_411 0 rfl ?_
  refine v_iload_n C dL_law_412 3 rfl ?_
  refine v_iconst (v := 1) C dL_law_413 (by decide) ?_
  refine v_iadd C dL_law_414 ?_
  refine v_sld (j := i + 1) C hL (nI_add i 1) (by omega) hL2 dL_law_415 ?_
  refine v_aload_n C dL_law_416 0 rfl ?_
  refine v_iload_n C dL_law_417 3 rfl ?_
  refine v_iconst (v := 2) C dL_law_418 (by decide) ?_
  refine v_iadd C dL_law_419 ?_
  refine v_sld (j := i + 2) C hL (nI_add i 2) (by omega) hL2 dL_law_420 ?_
  refine v_aload_n C dL_law_421 0 rfl ?_
  refine v_iload_n C dL_law_422 3 rfl ?_
  refine v_iconst (v := 3) C dL_law_423 (by decide) ?_
  refine v_iadd C dL_law_424 ?_
  refine v_sld (j := i + 3) C hL (nI_add i 3) (by omega) hL2 dL_law_425 ?_
  refine v_callVMi (st := [.int r1]) (ci := 12) (qb := 5) C (kX12_people hm a_m _ _ _ _ hw) mL_40 mI_X12 mC_X12_people mN_X12_people mS_X12_people rfl rfl hd_X12_people ⟨Nat.le_of_ble_eq_true rfl, Nat.le_of_ble_eq_true rfl⟩ ⟨by show _ + 0 ≤ 139614; omega, by show _ + 0 ≤ 8683408; omega⟩ [1] [0, 2, 3, 4, 5, 6, 7, 8, 9, 10, 11, 12, 13, 14, 15, 16, 17] (N0 := 18) rfl (by decide) (ms2 := (fun (U : Md) => [wX11 E h0 a_nb nb1, wX12 E hm a_m U, wX8 E (a_nb 0) a_st st1, wX2 E (a_st 2) a_la la1, wX7 E (a_st 3) a_sp sp, wX0 E (a_st 4) a_ac ac, wX1 E (a_st 5) a_bd bd, wX6 E (a_st 6) a_sg sg, wX9 E (a_nb 2) a_tp tp, wX5 E (a_nb 3) a_hd hd, wX10 E (a_nb 4) a_vw vw, wX5 E (a_vw 6) a_o1 o1, wX5 E (a_vw 7) a_o2 o2, wX4 E (a_nb 5) a_pl pl, wX3 E (a_nb 6) a_pp pp, i0, i1, i2])) rfl (fun _ => rfl) (fun _ => rfl) (fun _ => rfl) rfl (Nat.le_of_ble_eq_true rfl) dL_law_426 (fun r2 m1 hw => ?_)
  obtain ⟨he, hw⟩ := hw
  refine v_icmp_eq (tgt := 1578) C dL_law_429 (by decide) (fun _ => ?_) (fun hc => absurd he hc)
  refine v_widen (a' := a + 53) (b' := b + 10240) C (by omega) (by omega) ?_
  exact kk nb1 m1 st1 la1 sp ac bd sg tp hd vw o1 o2 pl pp hw
set_option maxHeartbeats 4000000 in
set_option maxRecDepth 100000 in
theorem lawc_6 {X : VX} {E : VE} {l : Launch} {bb L : Nat} {xs : Nat → Int32} (C : VC X code 4 R_law room_1 E l) (hL : LWX X bb L xs) (hL2 : L ≤ 3072) (i : Nat) (hi : i + 6 ≤ L) {a b : Nat} (hab : a + 53 ≤ 139614 ∧ b + 10240 ≤ 8683408) (h0 hm : Nat) (a_nb : Nat → Nat) (a_m : Nat → Nat) (a_st : Nat → Nat) (a_la : Nat → Nat) (a_sp : Nat → Nat) (a_ac : Nat → Nat) (a_bd : Nat → Nat) (a_sg : Nat → Nat) (a_tp : Nat → Nat) (a_hd : Nat → Nat) (a_vw : Nat → Nat) (a_o1 : Nat → Nat) (a_o2 : Nat → Nat) (a_pl : Nat → Nat) (a_pp : Nat → Nat) (nb : Md) (m : Md) (st : Md) (la : Md) (sp : Md) (ac : Md) (bd : Md) (sg : Md) (tp : Md) (hd : Md) (vw : Md) (o1 : Md) (o2 : Md) (pl : Md) (pp : Md) (i0 i1 i2 : va_W) (P : Md → Md → Md → Md → Md → Md → Md → Md → Md → Md → Md → Md → Md → Md → Md → Prop) (hw : qX11_counted nb st la (xs (i + 1)) (fun r1 nb1 st1 la1 => qX12_counted m (xs (i + 1)) (fun r2 m1 => r1 = r2 ∧ P nb1 m1 st1 la1 sp ac bd sg tp hd vw o1 o2 pl pp))) (kk : ∀ (nb1 : Md) (m1 : Md) (st1 : Md) (la1 : Md) (sp1 : Md) (ac1 : Md) (bd1 : Md) (sg1 : Md) (tp1 : Md) (hd1 : Md) (vw1 : Md) (o11 : Md) (o21 : Md) (pl1 : Md) (pp1 : Md), P nb1 m1 st1 la1 sp1 ac1 bd1 sg1 tp1 hd1 vw1 o11 o21 pl1 pp1 → VV X (a + 53) (b + 10240) ([wX11 E h0 a_nb nb1, wX12 E hm a_m m1, wX8 E (a_nb 0) a_st st1, wX2 E (a_st 2) a_la la1, wX7 E (a_st 3) a_sp sp1, wX0 E (a_st 4) a_ac ac1, wX1 E (a_st 5) a_bd bd1, wX6 E (a_st 6) a_sg sg1, wX9 E (a_nb 2) a_tp tp1, wX5 E (a_nb 3) a_hd hd1, wX10 E (a_nb 4) a_vw vw1, wX5 E (a_vw 6) a_o1 o11, wX5 E (a_vw 7) a_o2 o21, wX4 E (a_nb 5) a_pl pl1, wX3 E (a_nb 6) a_pp pp1, i0, i1, i2].flatten) [(0, .ref bb), (1, .ref h0), (2, .ref hm), (3, .int (nI i))] 1578 []) : VV X a b ([wX11 E h0 a_nb nb, wX12 E hm a_m m, wX8 E (a_nb 0) a_st st, wX2 E (a_st 2) a_la la, wX7 E (a_st 3) a_sp sp, wX0 E (a_st 4) a_ac ac, wX1 E (a_st 5) a_bd bd, wX6 E (a_st 6) a_sg sg, wX9 E (a_nb 2) a_tp tp, wX5 E (a_nb 3) a_hd hd, wX10 E (a_nb 4) a_vw vw, wX5 E (a_vw 6) a_o1 o1, wX5 E (a_vw 7) a_o2 o2, wX4 E (a_nb 5) a_pl pl, wX3 E (a_nb 6) a_pp pp, i0, i1, i2].flatten) [(0, .ref bb), (1, .ref h0), (2, .ref hm), (3, .int (nI i))] 434 [] := by
  refine v_aload_n C dL_law_434 1 rfl ?_
  refine v_aload_n C dL_law_435 0 rfl ?_
  refine v_iload_n C dL_law_436 3 rfl ?_
  refine v_iconst (v := 1) C dL_law_437 (by decide) ?_
  refine v_iadd C dL_law_438 ?_
  refine v_sld (j := i + 1) C hL (nI_add i 1) (by omega) hL2 dL_law_439 ?_
  refine v_callVMi (st := []) (ci := 11) (qb := 0) C (kX11_counted h0 a_nb a_st a_la _ _ _ _ hw) mL_41 mI_X11 mC_X11_counted mN_X11_counted mS_X11_counted rfl rfl hd_X11_counted ⟨Nat.le_of_ble_eq_true rfl, Nat.le_of_ble_eq_true rfl⟩ ⟨by show _ + 0 ≤ 139614; omega, by show _ + 0 ≤ 8683408; omega⟩ [0, 2, 3] [1, 4, 5, 6, 7, 8, 9, 10, 11, 12, 13, 14, 15, 16, 17] (N0 := 18) rfl (by decide) (ms2 := (fun (U : Md × Md × Md) => [wX11 E h0 a_nb U.1, wX12 E hm a_m m, wX8 E (a_nb 0) a_st U.2.1, wX2 E (a_st 2) a_la U.2.2, wX7 E (a_st 3) a_sp sp, wX0 E (a_st 4) a_ac ac, wX1 E (a_st 5) a_bd bd, wX6 E (a_st 6) a_sg sg, wX9 E (a_nb 2) a_tp tp, wX5 E (a_nb 3) a_hd hd, wX10 E (a_nb 4) a_vw vw, wX5 E (a_vw 6) a_o1 o1, wX5 E (a_vw 7) a_o2 o2, wX4 E (a_nb 5) a_pl pl, wX3 E (a_nb 6) a_pp pp, i0, i1, i2])) rfl (fun _ => rfl) (fun _ => rfl) (fun _ => rfl) rfl (Nat.le_of_ble_eq_true rfl) dL_law_440 (fun r1 U hw => ?_)
  obtain ⟨nb1, st1, la1⟩ := U
  refine v_aload_n C dL_law_443 2 rfl ?_
  refine v_aload_n C dL_law_444 0 rfl ?_
  refine v_iload_n C dL_law_445 3 rfl ?_
  refine v_iconst (v := 1) C dL_law_446 (by decide) ?_
  refine v_iadd C dL_law_447 ?_
  refine v_sld (j := i + 1) C hL (nI_add i 1) (by omega) hL2 dL_law_448 ?_
  refine v_callVMi (st := [.int r1]) (ci := 12) (qb := 5) C (kX12_counted hm a_m _ _ hw) mL_44 mI_X12 mC_X12_counted mN_X12_counted mS_X12_counted rfl rfl hd_X12_counted ⟨Nat.le_of_ble_eq_true rfl, Nat.le_of_ble_eq_true rfl⟩ ⟨by show _ + 0 ≤ 139614; omega, by show _ + 0 ≤ 8683408; omega⟩ [1] [0, 2, 3, 4, 5, 6, 7, 8, 9, 10, 11, 12, 13, 14, 15, 16, 17] (N0 := 18) rfl (by decide) (ms2 := (fun (U : Md) => [wX11 E h0 a_nb nb1, wX12 E hm a_m U, wX8 E (a_nb 0) a_st st1, wX2 E (a_st 2) a_la la1, wX7 E (a_st 3) a_sp sp, wX0 E (a_st 4) a_ac ac, wX1 E (a_st 5) a_bd bd, wX6 E (a_st 6) a_sg sg, wX9 E (a_nb 2) a_tp tp, wX5 E (a_nb 3) a_hd hd, wX10 E (a_nb 4) a_vw vw, wX5 E (a_vw 6) a_o1 o1, wX5 E (a_vw 7) a_o2 o2, wX4 E (a_nb 5) a_pl pl, wX3 E (a_nb 6) a_pp pp, i0, i1, i2])) rfl (fun _ => rfl) (fun _ => rfl) (fun _ => rfl) rfl (Nat.le_of_ble_eq_true rfl) dL_law_449 (fun r2 m1 hw => ?_)
  obtain ⟨he, hw⟩ := hw
  refine v_icmp_eq (tgt := 1578) C dL_law_452 (by decide) (fun _ => ?_) (fun hc => absurd he hc)
  refine v_widen (a' := a + 53) (b' := b + 10240) C (by omega) (by omega) ?_
  exact kk nb1 m1 st1 la1 sp ac bd sg tp hd vw o1 o2 pl pp hw
set_option maxHeartbeats 4000000 in
set_option maxRecDepth 100000 in
theorem lawc_7 {X : VX} {E : VE} {l : Launch} {bb L : Nat} {xs : Nat → Int32} (C : VC X code 4 R_law room_1 E l) (hL : LWX X bb L xs) (hL2 : L ≤ 3072) (i : Nat) (hi : i + 6 ≤ L) {a b : Nat} (hab : a + 53 ≤ 139614 ∧ b + 10240 ≤ 8683408) (h0 hm : Nat) (a_nb : Nat → Nat) (a_m : Nat → Nat) (a_st : Nat → Nat) (a_la : Nat → Nat) (a_sp : Nat → Nat) (a_ac : Nat → Nat) (a_bd : Nat → Nat) (a_sg : Nat → Nat) (a_tp : Nat → Nat) (a_hd : Nat → Nat) (a_vw : Nat → Nat) (a_o1 : Nat → Nat) (a_o2 : Nat → Nat) (a_pl : Nat → Nat) (a_pp : Nat → Nat) (nb : Md) (m : Md) (st : Md) (la : Md) (sp : Md) (ac : Md) (bd : Md) (sg : Md) (tp : Md) (hd : Md) (vw : Md) (o1 : Md) (o2 : Md) (pl : Md) (pp : Md) (i0 i1 i2 : va_W) (P : Md → Md → Md → Md → Md → Md → Md → Md → Md → Md → Md → Md → Md → Md → Md → Prop) (hw : qX11_live nb st la vw (xs (i + 1)) (xs (i + 2)) (xs (i + 3)) (xs (i + 4)) (fun r1 nb1 st1 la1 vw1 => qX12_live m (xs (i + 1)) (xs (i + 2)) (xs (i + 3)) (xs (i + 4)) (fun r2 m1 => r1 = r2 ∧ P nb1 m1 st1 la1 sp ac bd sg tp hd vw1 o1 o2 pl pp))) (kk : ∀ (nb1 : Md) (m1 : Md) (st1 : Md) (la1 : Md) (sp1 : Md) (ac1 : Md) (bd1 : Md) (sg1 : Md) (tp1 : Md) (hd1 : Md) (vw1 : Md) (o11 : Md) (o21 : Md) (pl1 : Md) (pp1 : Md), P nb1 m1 st1 la1 sp1 ac1 bd1 sg1 tp1 hd1 vw1 o11 o21 pl1 pp1 → VV X (a + 53) (b + 10240) ([wX11 E h0 a_nb nb1, wX12 E hm a_m m1, wX8 E (a_nb 0) a_st st1, wX2 E (a_st 2) a_la la1, wX7 E (a_st 3) a_sp sp1, wX0 E (a_st 4) a_ac ac1, wX1 E (a_st 5) a_bd bd1, wX6 E (a_st 6) a_sg sg1, wX9 E (a_nb 2) a_tp tp1, wX5 E (a_nb 3) a_hd hd1, wX10 E (a_nb 4) a_vw vw1, wX5 E (a_vw 6) a_o1 o11, wX5 E (a_vw 7) a_o2 o21, wX4 E (a_nb 5) a_pl pl1, wX3 E (a_nb 6) a_pp pp1, i0, i1, i2].flatten) [(0, .ref bb), (1, .ref h0), (2, .ref hm), (3, .int (nI i))] 1578 []) : VV X a b ([wX11 E h0 a_nb nb, wX12 E hm a_m m, wX8 E (a_nb 0) a_st st, wX2 E (a_st 2) a_la la, wX7 E (a_st 3) a_sp sp, wX0 E (a_st 4) a_ac ac, wX1 E (a_st 5) a_bd bd, wX6 E (a_st 6) a_sg sg, wX9 E (a_nb 2) a_tp tp, wX5 E (a_nb 3) a_hd hd, wX10 E (a_nb 4) a_vw vw, wX5 E (a_vw 6) a_o1 o1, wX5 E (a_vw 7) a_o2 o2, wX4 E (a_nb 5) a_pl pl, wX3 E (a_nb 6) a_pp pp, i0, i1, i2].flatten) [(0, .ref bb), (1, .ref h0), (2, .ref hm), (3, .int (nI i))] 457 [] := by
  refine v_aload_n C dL_law_457 1 rfl ?_
  refine v_aload_n C dL_law_458 0 rfl ?_
  refine v_iload_n C dL_law_459 3 rfl ?_
  refine v_iconst (v := 1) C dL_law_460 (by decide) ?_
  refine v_iadd C dL_law_461 ?_
  refine v_sld (j := i + 1) C hL (nI_add i 1) (by omega) hL2 dL_law_462 ?_
  refine v_aload_n C dL_law_463 0 rfl ?_
  refine v_iload_n C dL_law_464 3 rfl ?_
  refine v_iconst (v := 2) C dL_law_465 (by decide) ?_
  refine v_iadd C dL_law_466 ?_
  refine v_sld (j := i + 2) C hL (nI_add i 2) (by omega) hL2 dL_law_467 ?_
  refine v_aload_n C dL_law_468 0 rfl ?_
  refine v_iload_n C dL_law_469 3 rfl ?_
  refine v_iconst (v := 3) C dL_law_470 (by decide) ?_
  refine v_iadd C dL_law_471 ?_
  refine v_sld (j := i + 3) C hL (nI_add i 3) (by omega) hL2 dL_law_472 ?_
  refine v_aload_n C dL_law_473 0 rfl ?_
  refine v_iload_n C dL_law_474 3 rfl ?_
  refine v_iconst (v := 4) C dL_law_475 (by decide) ?_
  refine v_iadd C dL_law_476 ?_
  refine v_sld (j := i + 4) C hL (nI_add i 4) (by omega) hL2 dL_law_477 ?_
  refine v_callVMi (st := []) (ci := 11) (qb := 0) C (kX11_live h0 a_nb a_st a_la a_vw _ _ _ _ _ _ _ _ hw) mL_45 mI_X11 mC_X11_live mN_X11_live mS_X11_live rfl rfl hd_X11_live ⟨Nat.le_of_ble_eq_true rfl, Nat.le_of_ble_eq_true rfl⟩ ⟨by show _ + 0 ≤ 139614; omega, by show _ + 0 ≤ 8683408; omega⟩ [0, 2, 3, 10] [1, 4, 5, 6, 7, 8, 9, 11, 12, 13, 14, 15, 16, 17] (N0 := 18) rfl (by decide) (ms2 := (fun (U : Md × Md × Md × Md) => [wX11 E h0 a_nb U.1, wX12 E hm a_m m, wX8 E (a_nb 0) a_st U.2.1, wX2 E (a_st 2) a_la U.2.2.1, wX7 E (a_st 3) a_sp sp, wX0 E (a_st 4) a_ac ac, wX1 E (a_st 5) a_bd bd, wX6 E (a_st 6) a_sg sg, wX9 E (a_nb 2) a_tp tp, wX5 E (a_nb 3) a_hd hd, wX10 E (a_nb 4) a_vw U.2.2.2, wX5 E (a_vw 6) a_o1 o1, wX5 E (a_vw 7) a_o2 o2, wX4 E (a_nb 5) a_pl pl, wX3 E (a_nb 6) a_pp pp, i0, i1, i2])) rfl (fun _ => rfl) (fun _ => rfl) (fun _ => rfl) rfl (Nat.le_of_ble_eq_true rfl) dL_law_478 (fun r1 U hw => ?_)
  obtain ⟨nb1, st1, la1, vw1⟩ := U
  refine v_aload_n C dL_law_481 2 rfl ?_
  refine v_aload_n C dL_law_482 0 rfl ?_
  refine v_iload_n C dL_law_483 3 rfl ?_
  refine v_iconst (v := 1) C dL_law_484 (by decide) ?_
  refine v_iadd C dL_law_485 ?_
  refine v_sld (j := i + 1) C hL (nI_add i 1) (by omega) hL2 dL_law_486 ?_
  refine v_aload_n C dL_law_487 0 rfl ?_
  refine v_iload_n C dL_law_488 3 rfl ?_
  refine v_iconst (v := 2) C dL_law_489 (by decide) ?_
  refine v_iadd C dL_law_490 ?_
  refine v_sld (j := i + 2) C hL (nI_add i 2) (by omega) hL2 dL_law_491 ?_
  refine v_aload_n C dL_law_492 0 rfl ?_
  refine v_iload_n C dL_law_493 3 rfl ?_
  refine v_iconst (v := 3) C dL_law_494 (by decide) ?_
  refine v_iadd C dL_law_495 ?_
  refine v_sld (j := i + 3) C hL (nI_add i 3) (by omega) hL2 dL_law_496 ?_
  refine v_aload_n C dL_law_497 0 rfl ?_
  refine v_iload_n C dL_law_498 3 rfl ?_
  refine v_iconst (v := 4) C dL_law_499 (by decide) ?_
  refine v_iadd C dL_law_500 ?_
  refine v_sld (j := i + 4) C hL (nI_add i 4) (by omega) hL2 dL_law_501 ?_
  refine v_callVMi (st := [.int r1]) (ci := 12) (qb := 5) C (kX12_live hm a_m _ _ _ _ _ hw) mL_49 mI_X12 mC_X12_live mN_X12_live mS_X12_live rfl rfl hd_X12_live ⟨Nat.le_of_ble_eq_true rfl, Nat.le_of_ble_eq_true rfl⟩ ⟨by show _ + 0 ≤ 139614; omega, by show _ + 0 ≤ 8683408; omega⟩ [1] [0, 2, 3, 4, 5, 6, 7, 8, 9, 10, 11, 12, 13, 14, 15, 16, 17] (N0 := 18) rfl (by decide) (ms2 := (fun (U : Md) => [wX11 E h0 a_nb nb1, wX12 E hm a_m U, wX8 E (a_nb 0) a_st st1, wX2 E (a_st 2) a_la la1, wX7 E (a_st 3) a_sp sp, wX0 E (a_st 4) a_ac ac, wX1 E (a_st 5) a_bd bd, wX6 E (a_st 6) a_sg sg, wX9 E (a_nb 2) a_tp tp, wX5 E (a_nb 3) a_hd hd, wX10 E (a_nb 4) a_vw vw1, wX5 E (a_vw 6) a_o1 o1, wX5 E (a_vw 7) a_o2 o2, wX4 E (a_nb 5) a_pl pl, wX3 E (a_nb 6) a_pp pp, i0, i1, i2])) rfl (fun _ => rfl) (fun _ => rfl) (fun _ => rfl) rfl (Nat.le_of_ble_eq_true rfl) dL_law_502 (fun r2 m1 hw => ?_)
  obtain ⟨he, hw⟩ := hw
  refine v_icmp_eq (tgt := 1578) C dL_law_505 (by decide) (fun _ => ?_) (fun hc => absurd he hc)
  refine v_widen (a' := a + 53) (b' := b + 10240) C (by omega) (by omega) ?_
  exact kk nb1 m1 st1 la1 sp ac bd sg tp hd vw1 o1 o2 pl pp hw
set_option maxHeartbeats 4000000 in
set_option maxRecDepth 100000 in
theorem lawc_8 {X : VX} {E : VE} {l : Launch} {bb L : Nat} {xs : Nat → Int32} (C : VC X code 4 R_law room_1 E l) (hL : LWX X bb L xs) (hL2 : L ≤ 3072) (i : Nat) (hi : i + 6 ≤ L) {a b : Nat} (hab : a + 53 ≤ 139614 ∧ b + 10240 ≤ 8683408) (h0 hm : Nat) (a_nb : Nat → Nat) (a_m : Nat → Nat) (a_st : Nat → Nat) (a_la : Nat → Nat) (a_sp : Nat → Nat) (a_ac : Nat → Nat) (a_bd : Nat → Nat) (a_sg : Nat → Nat) (a_tp : Nat → Nat) (a_hd : Nat → Nat) (a_vw : Nat → Nat) (a_o1 : Nat → Nat) (a_o2 : Nat → Nat) (a_pl : Nat → Nat) (a_pp : Nat → Nat) (nb : Md) (m : Md) (st : Md) (la : Md) (sp : Md) (ac : Md) (bd : Md) (sg : Md) (tp : Md) (hd : Md) (vw : Md) (o1 : Md) (o2 : Md) (pl : Md) (pp : Md) (i0 i1 i2 : va_W) (P : Md → Md → Md → Md → Md → Md → Md → Md → Md → Md → Md → Md → Md → Md → Md → Prop) (hw : qX11_name nb st la sp tp (xs (i + 1)) (xs (i + 2)) (xs (i + 3)) (fun r1 nb1 st1 la1 sp1 tp1 => qX12_name m (xs (i + 1)) (xs (i + 2)) (xs (i + 3)) (fun r2 m1 => r1 = r2 ∧ P nb1 m1 st1 la1 sp1 ac bd sg tp1 hd vw o1 o2 pl pp))) (kk : ∀ (nb1 : Md) (m1 : Md) (st1 : Md) (la1 : Md) (sp1 : Md) (ac1 : Md) (bd1 : Md) (sg1 : Md) (tp1 : Md) (hd1 : Md) (vw1 : Md) (o11 : Md) (o21 : Md) (pl1 : Md) (pp1 : Md), P nb1 m1 st1 la1 sp1 ac1 bd1 sg1 tp1 hd1 vw1 o11 o21 pl1 pp1 → VV X (a + 53) (b + 10240) ([wX11 E h0 a_nb nb1, wX12 E hm a_m m1, wX8 E (a_nb 0) a_st st1, wX2 E (a_st 2) a_la la1, wX7 E (a_st 3) a_sp sp1, wX0 E (a_st 4) a_ac ac1, wX1 E (a_st 5) a_bd bd1, wX6 E (a_st 6) a_sg sg1, wX9 E (a_nb 2) a_tp tp1, wX5 E (a_nb 3) a_hd hd1, wX10 E (a_nb 4) a_vw vw1, wX5 E (a_vw 6) a_o1 o11, wX5 E (a_vw 7) a_o2 o21, wX4 E (a_nb 5) a_pl pl1, wX3 E (a_nb 6) a_pp pp1, i0, i1, i2].flatten) [(0, .ref bb), (1, .ref h0), (2, .ref hm), (3, .int (nI i))] 1578 []) : VV X a b ([wX11 E h0 a_nb nb, wX12 E hm a_m m, wX8 E (a_nb 0) a_st st, wX2 E (a_st 2) a_la la, wX7 E (a_st 3) a_sp sp, wX0 E (a_st 4) a_ac ac, wX1 E (a_st 5) a_bd bd, wX6 E (a_st 6) a_sg sg, wX9 E (a_nb 2) a_tp tp, wX5 E (a_nb 3) a_hd hd, wX10 E (a_nb 4) a_vw vw, wX5 E (a_vw 6) a_o1 o1, wX5 E (a_vw 7) a_o2 o2, wX4 E (a_nb 5) a_pl pl, wX3 E (a_nb 6) a_pp pp, i0, i1, i2].flatten) [(0, .ref bb), (1, .ref h0), (2, .ref hm), (3, .int (nI i))] 510 [] := by
  refine v_aload_n C dL_law_510 1 rfl ?_
  refine v_aload_n C dL_law_511 0 rfl ?_
  refine v_iload_n C dL_law_512 3 rfl ?_
  refine v_iconst (v := 1) C dL_law_513 (by decide) ?_
  refine v_iadd C dL_law_514 ?_
  refine v_sld (j := i + 1) C hL (nI_add i 1) (by omega) hL2 dL_law_515 ?_
  refine v_aload_n C dL_law_516 0 rfl ?_
  refine v_iload_n C dL_law_517 3 rfl ?_
  refine v_iconst (v := 2) C dL_law_518 (by decide) ?_
  refine v_iadd C dL_law_519 ?_
  refine v_sld (j := i + 2) C hL (nI_add i 2) (by omega) hL2 dL_law_520 ?_
  refine v_aload_n C dL_law_521 0 rfl ?_
  refine v_iload_n C dL_law_522 3 rfl ?_
  refine v_iconst (v := 3) C dL_law_523 (by decide) ?_
  refine v_iadd C dL_law_524 ?_
  refine v_sld (j := i + 3) C hL (nI_add i 3) (by omega) hL2 dL_law_525 ?_
  refine v_callVMi (st := []) (ci := 11) (qb := 0) C (kX11_name h0 a_nb a_st a_la a_sp a_tp _ _ _ _ _ _ _ _ hw) mL_50 mI_X11 mC_X11_name mN_X11_name mS_X11_name rfl rfl hd_X11_name ⟨Nat.le_of_ble_eq_true rfl, Nat.le_of_ble_eq_true rfl⟩ ⟨by show _ + 0 ≤ 139614; omega, by show _ + 0 ≤ 8683408; omega⟩ [0, 2, 3, 4, 8] [1, 5, 6, 7, 9, 10, 11, 12, 13, 14, 15, 16, 17] (N0 := 18) rfl (by decide) (ms2 := (fun (U : Md × Md × Md × Md × Md) => [wX11 E h0 a_nb U.1, wX12 E hm a_m m, wX8 E (a_nb 0) a_st U.2.1, wX2 E (a_st 2) a_la U.2.2.1, wX7 E (a_st 3) a_sp U.2.2.2.1, wX0 E (a_st 4) a_ac ac, wX1 E (a_st 5) a_bd bd, wX6 E (a_st 6) a_sg sg, wX9 E (a_nb 2) a_tp U.2.2.2.2, wX5 E (a_nb 3) a_hd hd, wX10 E (a_nb 4) a_vw vw, wX5 E (a_vw 6) a_o1 o1, wX5 E (a_vw 7) a_o2 o2, wX4 E (a_nb 5) a_pl pl, wX3 E (a_nb 6) a_pp pp, i0, i1, i2])) rfl (fun _ => rfl) (fun _ => rfl) (fun _ => rfl) rfl (Nat.le_of_ble_eq_true rfl) dL_law_526 (fun r1 U hw => ?_)
  obtain ⟨nb1, st1, la1, sp1, tp1⟩ := U
  refine v_aload_n C dL_law_529 2 rfl ?_
  refine v_aload_n C dL_law_530 0 rfl ?_
  refine v_iload_n C dL_law_531 3 rfl ?_
  refine v_iconst (v := 1) C dL_law_532 (by decide) ?_
  refine v_iadd C dL_law_533 ?_
  refine v_sld (j := i + 1) C hL (nI_add i 1) (by omega) hL2 dL_law_534 ?_
  refine v_aload_n C dL_law_535 0 rfl ?_
  refine v_iload_n C dL_law_536 3 rfl ?_
  refine v_iconst (v := 2) C dL_law_537 (by decide) ?_
  refine v_iadd C dL_law_538 ?_
  refine v_sld (j := i + 2) C hL (nI_add i 2) (by omega) hL2 dL_law_539 ?_
  refine v_aload_n C dL_law_540 0 rfl ?_
  refine v_iload_n C dL_law_541 3 rfl ?_
  refine v_iconst (v := 3) C dL_law_542 (by decide) ?_
  refine v_iadd C dL_law_543 ?_
  refine v_sld (j := i + 3) C hL (nI_add i 3) (by omega) hL2 dL_law_544 ?_
  refine v_callVMi (st := [.int r1]) (ci := 12) (qb := 5) C (kX12_name hm a_m _ _ _ _ hw) mL_53 mI_X12 mC_X12_name mN_X12_name mS_X12_name rfl rfl hd_X12_name ⟨Nat.le_of_ble_eq_true rfl, Nat.le_of_ble_eq_true rfl⟩ ⟨by show _ + 0 ≤ 139614; omega, by show _ + 0 ≤ 8683408; omega⟩ [1] [0, 2, 3, 4, 5, 6, 7, 8, 9, 10, 11, 12, 13, 14, 15, 16, 17] (N0 := 18) rfl (by decide) (ms2 := (fun (U : Md) => [wX11 E h0 a_nb nb1, wX12 E hm a_m U, wX8 E (a_nb 0) a_st st1, wX2 E (a_st 2) a_la la1, wX7 E (a_st 3) a_sp sp1, wX0 E (a_st 4) a_ac ac, wX1 E (a_st 5) a_bd bd, wX6 E (a_st 6) a_sg sg, wX9 E (a_nb 2) a_tp tp1, wX5 E (a_nb 3) a_hd hd, wX10 E (a_nb 4) a_vw vw, wX5 E (a_vw 6) a_o1 o1, wX5 E (a_vw 7) a_o2 o2, wX4 E (a_nb 5) a_pl pl, wX3 E (a_nb 6) a_pp pp, i0, i1, i2])) rfl (fun _ => rfl) (fun _ => rfl) (fun _ => rfl) rfl (Nat.le_of_ble_eq_true rfl) dL_law_545 (fun r2 m1 hw => ?_)
  obtain ⟨he, hw⟩ := hw
  refine v_icmp_eq (tgt := 1578) C dL_law_548 (by decide) (fun _ => ?_) (fun hc => absurd he hc)
  refine v_widen (a' := a + 53) (b' := b + 10240) C (by omega) (by omega) ?_
  exact kk nb1 m1 st1 la1 sp1 ac bd sg tp1 hd vw o1 o2 pl pp hw
set_option maxHeartbeats 4000000 in
set_option maxRecDepth 100000 in
theorem lawc_9 {X : VX} {E : VE} {l : Launch} {bb L : Nat} {xs : Nat → Int32} (C : VC X code 4 R_law room_1 E l) (hL : LWX X bb L xs) (hL2 : L ≤ 3072) (i : Nat) (hi : i + 6 ≤ L) {a b : Nat} (hab : a + 53 ≤ 139614 ∧ b + 10240 ≤ 8683408) (h0 hm : Nat) (a_nb : Nat → Nat) (a_m : Nat → Nat) (a_st : Nat → Nat) (a_la : Nat → Nat) (a_sp : Nat → Nat) (a_ac : Nat → Nat) (a_bd : Nat → Nat) (a_sg : Nat → Nat) (a_tp : Nat → Nat) (a_hd : Nat → Nat) (a_vw : Nat → Nat) (a_o1 : Nat → Nat) (a_o2 : Nat → Nat) (a_pl : Nat → Nat) (a_pp : Nat → Nat) (nb : Md) (m : Md) (st : Md) (la : Md) (sp : Md) (ac : Md) (bd : Md) (sg : Md) (tp : Md) (hd : Md) (vw : Md) (o1 : Md) (o2 : Md) (pl : Md) (pp : Md) (i0 i1 i2 : va_W) (P : Md → Md → Md → Md → Md → Md → Md → Md → Md → Md → Md → Md → Md → Md → Md → Prop) (hw : qX11_spelling nb st sp tp (xs (i + 1)) (fun r1 nb1 st1 sp1 tp1 => qX12_spelling m (xs (i + 1)) (fun r2 m1 => r1 = r2 ∧ P nb1 m1 st1 la sp1 ac bd sg tp1 hd vw o1 o2 pl pp))) (kk : ∀ (nb1 : Md) (m1 : Md) (st1 : Md) (la1 : Md) (sp1 : Md) (ac1 : Md) (bd1 : Md) (sg1 : Md) (tp1 : Md) (hd1 : Md) (vw1 : Md) (o11 : Md) (o21 : Md) (pl1 : Md) (pp1 : Md), P nb1 m1 st1 la1 sp1 ac1 bd1 sg1 tp1 hd1 vw1 o11 o21 pl1 pp1 → VV X (a + 53) (b + 10240) ([wX11 E h0 a_nb nb1, wX12 E hm a_m m1, wX8 E (a_nb 0) a_st st1, wX2 E (a_st 2) a_la la1, wX7 E (a_st 3) a_sp sp1, wX0 E (a_st 4) a_ac ac1, wX1 E (a_st 5) a_bd bd1, wX6 E (a_st 6) a_sg sg1, wX9 E (a_nb 2) a_tp tp1, wX5 E (a_nb 3) a_hd hd1, wX10 E (a_nb 4) a_vw vw1, wX5 E (a_vw 6) a_o1 o11, wX5 E (a_vw 7) a_o2 o21, wX4 E (a_nb 5) a_pl pl1, wX3 E (a_nb 6) a_pp pp1, i0, i1, i2].flatten) [(0, .ref bb), (1, .ref h0), (2, .ref hm), (3, .int (nI i))] 1578 []) : VV X a b ([wX11 E h0 a_nb nb, wX12 E hm a_m m, wX8 E (a_nb 0) a_st st, wX2 E (a_st 2) a_la la, wX7 E (a_st 3) a_sp sp, wX0 E (a_st 4) a_ac ac, wX1 E (a_st 5) a_bd bd, wX6 E (a_st 6) a_sg sg, wX9 E (a_nb 2) a_tp tp, wX5 E (a_nb 3) a_hd hd, wX10 E (a_nb 4) a_vw vw, wX5 E (a_vw 6) a_o1 o1, wX5 E (a_vw 7) a_o2 o2, wX4 E (a_nb 5) a_pl pl, wX3 E (a_nb 6) a_pp pp, i0, i1, i2].flatten) [(0, .ref bb), (1, .ref h0), (2, .ref hm), (3, .int (nI i))] 553 [] := by
  refine v_aload_n C dL_law_553 1 rfl ?_
  refine v_aload_n C dL_law_554 0 rfl ?_
  refine v_iload_n C dL_law_555 3 rfl ?_
  refine v_iconst (v := 1) C dL_law_556 (by decide) ?_
  refine v_iadd C dL_law_557 ?_
  refine v_sld (j := i + 1) C hL (nI_add i 1) (by omega) hL2 dL_law_558 ?_
  refine v_callVMi (st := []) (ci := 11) (qb := 0) C (kX11_spelling h0 a_nb a_st a_sp a_tp _ _ _ _ _ hw) mL_54 mI_X11 mC_X11_spelling mN_X11_spelling mS_X11_spelling rfl rfl hd_X11_spelling ⟨Nat.le_of_ble_eq_true rfl, Nat.le_of_ble_eq_true rfl⟩ ⟨by show _ + 0 ≤ 139614; omega, by show _ + 0 ≤ 8683408; omega⟩ [0, 2, 4, 8] [1, 3, 5, 6, 7, 9, 10, 11, 12, 13, 14, 15, 16, 17] (N0 := 18) rfl (by decide) (ms2 := (fun (U : Md × Md × Md × Md) => [wX11 E h0 a_nb U.1, wX12 E hm a_m m, wX8 E (a_nb 0) a_st U.2.1, wX2 E (a_st 2) a_la la, wX7 E (a_st 3) a_sp U.2.2.1, wX0 E (a_st 4) a_ac ac, wX1 E (a_st 5) a_bd bd, wX6 E (a_st 6) a_sg sg, wX9 E (a_nb 2) a_tp U.2.2.2, wX5 E (a_nb 3) a_hd hd, wX10 E (a_nb 4) a_vw vw, wX5 E (a_vw 6) a_o1 o1, wX5 E (a_vw 7) a_o2 o2, wX4 E (a_nb 5) a_pl pl, wX3 E (a_nb 6) a_pp pp, i0, i1, i2])) rfl (fun _ => rfl) (fun _ => rfl) (fun _ => rfl) rfl (Nat.le_of_ble_eq_true rfl) dL_law_559 (fun r1 U hw => ?_)
  obtain ⟨nb1, st1, sp1, tp1⟩ := U
  refine v_aload_n C dL_law_562 2 rfl ?_
  refine v_aload_n C dL_law_563 0 rfl ?_
  refine v_iload_n C dL_law_564 3 rfl ?_
  refine v_iconst (v := 1) C dL_law_565 (by decide) ?_
  refine v_iadd C dL_law_566 ?_
  refine v_sld (j := i + 1) C hL (nI_add i 1) (by omega) hL2 dL_law_567 ?_
  refine v_callVMi (st := [.int r1]) (ci := 12) (qb := 5) C (kX12_spelling hm a_m _ _ hw) mL_57 mI_X12 mC_X12_spelling mN_X12_spelling mS_X12_spelling rfl rfl hd_X12_spelling ⟨Nat.le_of_ble_eq_true rfl, Nat.le_of_ble_eq_true rfl⟩ ⟨by show _ + 0 ≤ 139614; omega, by show _ + 0 ≤ 8683408; omega⟩ [1] [0, 2, 3, 4, 5, 6, 7, 8, 9, 10, 11, 12, 13, 14, 15, 16, 17] (N0 := 18) rfl (by decide) (ms2 := (fun (U : Md) => [wX11 E h0 a_nb nb1, wX12 E hm a_m U, wX8 E (a_nb 0) a_st st1, wX2 E (a_st 2) a_la la, wX7 E (a_st 3) a_sp sp1, wX0 E (a_st 4) a_ac ac, wX1 E (a_st 5) a_bd bd, wX6 E (a_st 6) a_sg sg, wX9 E (a_nb 2) a_tp tp1, wX5 E (a_nb 3) a_hd hd, wX10 E (a_nb 4) a_vw vw, wX5 E (a_vw 6) a_o1 o1, wX5 E (a_vw 7) a_o2 o2, wX4 E (a_nb 5) a_pl pl, wX3 E (a_nb 6) a_pp pp, i0, i1, i2])) rfl (fun _ => rfl) (fun _ => rfl) (fun _ => rfl) rfl (Nat.le_of_ble_eq_true rfl) dL_law_568 (fun r2 m1 hw => ?_)
  obtain ⟨he, hw⟩ := hw
  refine v_icmp_eq (tgt := 1578) C dL_law_571 (by decide) (fun _ => ?_) (fun hc => absurd he hc)
  refine v_widen (a' := a + 53) (b' := b + 10240) C (by omega) (by omega) ?_
  exact kk nb1 m1 st1 la sp1 ac bd sg tp1 hd vw o1 o2 pl pp hw
set_option maxHeartbeats 4000000 in
set_option maxRecDepth 100000 in
theorem lawc_10 {X : VX} {E : VE} {l : Launch} {bb L : Nat} {xs : Nat → Int32} (C : VC X code 4 R_law room_1 E l) (hL : LWX X bb L xs) (hL2 : L ≤ 3072) (i : Nat) (hi : i + 6 ≤ L) {a b : Nat} (hab : a + 53 ≤ 139614 ∧ b + 10240 ≤ 8683408) (h0 hm : Nat) (a_nb : Nat → Nat) (a_m : Nat → Nat) (a_st : Nat → Nat) (a_la : Nat → Nat) (a_sp : Nat → Nat) (a_ac : Nat → Nat) (a_bd : Nat → Nat) (a_sg : Nat → Nat) (a_tp : Nat → Nat) (a_hd : Nat → Nat) (a_vw : Nat → Nat) (a_o1 : Nat → Nat) (a_o2 : Nat → Nat) (a_pl : Nat → Nat) (a_pp : Nat → Nat) (nb : Md) (m : Md) (st : Md) (la : Md) (sp : Md) (ac : Md) (bd : Md) (sg : Md) (tp : Md) (hd : Md) (vw : Md) (o1 : Md) (o2 : Md) (pl : Md) (pp : Md) (i0 i1 i2 : va_W) (P : Md → Md → Md → Md → Md → Md → Md → Md → Md → Md → Md → Md → Md → Md → Md → Prop) (hw : qX11_act nb st ac tp  (fun r1 nb1 st1 ac1 tp1 => qX12_act m  (fun r2 m1 => r1 = r2 ∧ P nb1 m1 st1 la sp ac1 bd sg tp1 hd vw o1 o2 pl pp))) (kk : ∀ (nb1 : Md) (m1 : Md) (st1 : Md) (la1 : Md) (sp1 : Md) (ac1 : Md) (bd1 : Md) (sg1 : Md) (tp1 : Md) (hd1 : Md) (vw1 : Md) (o11 : Md) (o21 : Md) (pl1 : Md) (pp1 : Md), P nb1 m1 st1 la1 sp1 ac1 bd1 sg1 tp1 hd1 vw1 o11 o21 pl1 pp1 → VV X (a + 53) (b + 10240) ([wX11 E h0 a_nb nb1, wX12 E hm a_m m1, wX8 E (a_nb 0) a_st st1, wX2 E (a_st 2) a_la la1, wX7 E (a_st 3) a_sp sp1, wX0 E (a_st 4) a_ac ac1, wX1 E (a_st 5) a_bd bd1, wX6 E (a_st 6) a_sg sg1, wX9 E (a_nb 2) a_tp tp1, wX5 E (a_nb 3) a_hd hd1, wX10 E (a_nb 4) a_vw vw1, wX5 E (a_vw 6) a_o1 o11, wX5 E (a_vw 7) a_o2 o21, wX4 E (a_nb 5) a_pl pl1, wX3 E (a_nb 6) a_pp pp1, i0, i1, i2].flatten) [(0, .ref bb), (1, .ref h0), (2, .ref hm), (3, .int (nI i))] 1578 []) : VV X a b ([wX11 E h0 a_nb nb, wX12 E hm a_m m, wX8 E (a_nb 0) a_st st, wX2 E (a_st 2) a_la la, wX7 E (a_st 3) a_sp sp, wX0 E (a_st 4) a_ac ac, wX1 E (a_st 5) a_bd bd, wX6 E (a_st 6) a_sg sg, wX9 E (a_nb 2) a_tp tp, wX5 E (a_nb 3) a_hd hd, wX10 E (a_nb 4) a_vw vw, wX5 E (a_vw 6) a_o1 o1, wX5 E (a_vw 7) a_o2 o2, wX4 E (a_nb 5) a_pl pl, wX3 E (a_nb 6) a_pp pp, i0, i1, i2].flatten) [(0, .ref bb), (1, .ref h0), (2, .ref hm), (3, .int (nI i))] 576 [] := by
  refine v_aload_n C dL_law_576 1 rfl ?_
  refine v_callVMi (st := []) (ci := 11) (qb := 0) C (kX11_act h0 a_nb a_st a_ac a_tp _ _ _ _ hw) mL_58 mI_X11 mC_X11_act mN_X11_act mS_X11_act rfl rfl hd_X11_act ⟨Nat.le_of_ble_eq_true rfl, Nat.le_of_ble_eq_true rfl⟩ ⟨by show _ + 0 ≤ 139614; omega, by show _ + 0 ≤ 8683408; omega⟩ [0, 2, 5, 8] [1, 3, 4, 6, 7, 9, 10, 11, 12, 13, 14, 15, 16, 17] (N0 := 18) rfl (by decide) (ms2 := (fun (U : Md × Md × Md × Md) => [wX11 E h0 a_nb U.1, wX12 E hm a_m m, wX8 E (a_nb 0) a_st U.2.1, wX2 E (a_st 2) a_la la, wX7 E (a_st 3) a_sp sp, wX0 E (a_st 4) a_ac U.2.2.1, wX1 E (a_st 5) a_bd bd, wX6 E (a_st 6) a_sg sg, wX9 E (a_nb 2) a_tp U.2.2.2, wX5 E (a_nb 3) a_hd hd, wX10 E (a_nb 4) a_vw vw, wX5 E (a_vw 6) a_o1 o1, wX5 E (a_vw 7) a_o2 o2, wX4 E (a_nb 5) a_pl pl, wX3 E (a_nb 6) a_pp pp, i0, i1, i2])) rfl (fun _ => rfl) (fun _ => rfl) (fun _ => rfl) rfl (Nat.le_of_ble_eq_true rfl) dL_law_577 (fun r1 U hw => ?_)
  obtain ⟨nb1, st1, ac1, tp1⟩ := U
  refine v_aload_n C dL_law_580 2 rfl ?_
  refine v_callVMi (st := [.int r1]) (ci := 12) (qb := 5) C (kX12_act hm a_m _ hw) mL_62 mI_X12 mC_X12_act mN_X12_act mS_X12_act rfl rfl hd_X12_act ⟨Nat.le_of_ble_eq_true rfl, Nat.le_of_ble_eq_true rfl⟩ ⟨by show _ + 0 ≤ 139614; omega, by show _ + 0 ≤ 8683408; omega⟩ [1] [0, 2, 3, 4, 5, 6, 7, 8, 9, 10, 11, 12, 13, 14, 15, 16, 17] (N0 := 18) rfl (by decide) (ms2 := (fun (U : Md) => [wX11 E h0 a_nb nb1, wX12 E hm a_m U, wX8 E (a_nb 0) a_st st1, wX2 E (a_st 2) a_la la, wX7 E (a_st 3) a_sp sp, wX0 E (a_st 4) a_ac ac1, wX1 E (a_st 5) a_bd bd, wX6 E (a_st 6) a_sg sg, wX9 E (a_nb 2) a_tp tp1, wX5 E (a_nb 3) a_hd hd, wX10 E (a_nb 4) a_vw vw, wX5 E (a_vw 6) a_o1 o1, wX5 E (a_vw 7) a_o2 o2, wX4 E (a_nb 5) a_pl pl, wX3 E (a_nb 6) a_pp pp, i0, i1, i2])) rfl (fun _ => rfl) (fun _ => rfl) (fun _ => rfl) rfl (Nat.le_of_ble_eq_true rfl) dL_law_581 (fun r2 m1 hw => ?_)
  obtain ⟨he, hw⟩ := hw
  refine v_icmp_eq (tgt := 1578) C dL_law_584 (by decide) (fun _ => ?_) (fun hc => absurd he hc)
  refine v_widen (a' := a + 53) (b' := b + 10240) C (by omega) (by omega) ?_
  exact kk nb1 m1 st1 la sp ac1 bd sg tp1 hd vw o1 o2 pl pp hw
set_option maxHeartbeats 4000000 in
set_option maxRecDepth 100000 in
theorem lawc_11 {X : VX} {E : VE} {l : Launch} {bb L : Nat} {xs : Nat → Int32} (C : VC X code 4 R_law room_1 E l) (hL : LWX X bb L xs) (hL2 : L ≤ 3072) (i : Nat) (hi : i + 6 ≤ L) {a b : Nat} (hab : a + 53 ≤ 139614 ∧ b + 10240 ≤ 8683408) (h0 hm : Nat) (a_nb : Nat → Nat) (a_m : Nat → Nat) (a_st : Nat → Nat) (a_la : Nat → Nat) (a_sp : Nat → Nat) (a_ac : Nat → Nat) (a_bd : Nat → Nat) (a_sg : Nat → Nat) (a_tp : Nat → Nat) (a_hd : Nat → Nat) (a_vw : Nat → Nat) (a_o1 : Nat → Nat) (a_o2 : Nat → Nat) (a_pl : Nat → Nat) (a_pp : Nat → Nat) (nb : Md) (m : Md) (st : Md) (la : Md) (sp : Md) (ac : Md) (bd : Md) (sg : Md) (tp : Md) (hd : Md) (vw : Md) (o1 : Md) (o2 : Md) (pl : Md) (pp : Md) (i0 i1 i2 : va_W) (P : Md → Md → Md → Md → Md → Md → Md → Md → Md → Md → Md → Md → Md → Md → Md → Prop) (hw : qX11_fault nb tp (xs (i + 1)) (fun r1 nb1 tp1 => qX12_fault m (xs (i + 1)) (fun r2 m1 => r1 = r2 ∧ P nb1 m1 st la sp ac bd sg tp1 hd vw o1 o2 pl pp))) (kk : ∀ (nb1 : Md) (m1 : Md) (st1 : Md) (la1 : Md) (sp1 : Md) (ac1 : Md) (bd1 : Md) (sg1 : Md) (tp1 : Md) (hd1 : Md) (vw1 : Md) (o11 : Md) (o21 : Md) (pl1 : Md) (pp1 : Md), P nb1 m1 st1 la1 sp1 ac1 bd1 sg1 tp1 hd1 vw1 o11 o21 pl1 pp1 → VV X (a + 53) (b + 10240) ([wX11 E h0 a_nb nb1, wX12 E hm a_m m1, wX8 E (a_nb 0) a_st st1, wX2 E (a_st 2) a_la la1, wX7 E (a_st 3) a_sp sp1, wX0 E (a_st 4) a_ac ac1, wX1 E (a_st 5) a_bd bd1, wX6 E (a_st 6) a_sg sg1, wX9 E (a_nb 2) a_tp tp1, wX5 E (a_nb 3) a_hd hd1, wX10 E (a_nb 4) a_vw vw1, wX5 E (a_vw 6) a_o1 o11, wX5 E (a_vw 7) a_o2 o21, wX4 E (a_nb 5) a_pl pl1, wX3 E (a_nb 6) a_pp pp1, i0, i1, i2].flatten) [(0, .ref bb), (1, .ref h0), (2, .ref hm), (3, .int (nI i))] 1578 []) : VV X a b ([wX11 E h0 a_nb nb, wX12 E hm a_m m, wX8 E (a_nb 0) a_st st, wX2 E (a_st 2) a_la la, wX7 E (a_st 3) a_sp sp, wX0 E (a_st 4) a_ac ac, wX1 E (a_st 5) a_bd bd, wX6 E (a_st 6) a_sg sg, wX9 E (a_nb 2) a_tp tp, wX5 E (a_nb 3) a_hd hd, wX10 E (a_nb 4) a_vw vw, wX5 E (a_vw 6) a_o1 o1, wX5 E (a_vw 7) a_o2 o2, wX4 E (a_nb 5) a_pl pl, wX3 E (a_nb 6) a_pp pp, i0, i1, i2].flatten) [(0, .ref bb), (1, .ref h0), (2, .ref hm), (3, .int (nI i))] 589 [] := by
  refine v_aload_n C dL_law_589 1 rfl ?_
  refine v_aload_n C dL_law_590 0 rfl ?_
  refine v_iload_n C dL_law_591 3 rfl ?_
  refine v_iconst (v := 1) C dL_law_592 (by decide) ?_
  refine v_iadd C dL_law_593 ?_
  refine v_sld (j := i + 1) C hL (nI_add i 1) (by omega) hL2 dL_law_594 ?_
  refine v_callVMi (st := []) (ci := 11) (qb := 0) C (kX11_fault h0 a_nb a_tp _ _ _ hw) mL_63 mI_X11 mC_X11_fault mN_X11_fault mS_X11_fault rfl rfl hd_X11_fault ⟨Nat.le_of_ble_eq_true rfl, Nat.le_of_ble_eq_true rfl⟩ ⟨by show _ + 0 ≤ 139614; omega, by show _ + 0 ≤ 8683408; omega⟩ [0, 8] [1, 2, 3, 4, 5, 6, 7, 9, 10, 11, 12, 13, 14, 15, 16, 17] (N0 := 18) rfl (by decide) (ms2 := (fun (U : Md × Md) => [wX11 E h0 a_nb U.1, wX12 E hm a_m m, wX8 E (a_nb 0) a_st st, wX2 E (a_st 2) a_la la, wX7 E (a_st 3) a_sp sp, wX0 E (a_st 4) a_ac ac, wX1 E (a_st 5) a_bd bd, wX6 E (a_st 6) a_sg sg, wX9 E (a_nb 2) a_tp U.2, wX5 E (a_nb 3) a_hd hd, wX10 E (a_nb 4) a_vw vw, wX5 E (a_vw 6) a_o1 o1, wX5 E (a_vw 7) a_o2 o2, wX4 E (a_nb 5) a_pl pl, wX3 E (a_nb 6) a_pp pp, i0, i1, i2])) rfl (fun _ => rfl) (fun _ => rfl) (fun _ => rfl) rfl (Nat.le_of_ble_eq_true rfl) dL_law_595 (fun r1 U hw => ?_)
  obtain ⟨nb1, tp1⟩ := U
  refine v_aload_n C dL_law_598 2 rfl ?_
  refine v_aload_n C dL_law_599 0 rfl ?_
  refine v_iload_n C dL_law_600 3 rfl ?_
  refine v_iconst (v := 1) C dL_law_601 (by decide) ?_
  refine v_iadd C dL_law_602 ?_
  refine v_sld (j := i + 1) C hL (nI_add i 1) (by omega) hL2 dL_law_603 ?_
  refine v_callVMi (st := [.int r1]) (ci := 12) (qb := 5) C (kX12_fault hm a_m _ _ hw) mL_66 mI_X12 mC_X12_fault mN_X12_fault mS_X12_fault rfl rfl hd_X12_fault ⟨Nat.le_of_ble_eq_true rfl, Nat.le_of_ble_eq_true rfl⟩ ⟨by show _ + 0 ≤ 139614; omega, by show _ + 0 ≤ 8683408; omega⟩ [1] [0, 2, 3, 4, 5, 6, 7, 8, 9, 10, 11, 12, 13, 14, 15, 16, 17] (N0 := 18) rfl (by decide) (ms2 := (fun (U : Md) => [wX11 E h0 a_nb nb1, wX12 E hm a_m U, wX8 E (a_nb 0) a_st st, wX2 E (a_st 2) a_la la, wX7 E (a_st 3) a_sp sp, wX0 E (a_st 4) a_ac ac, wX1 E (a_st 5) a_bd bd, wX6 E (a_st 6) a_sg sg, wX9 E (a_nb 2) a_tp tp1, wX5 E (a_nb 3) a_hd hd, wX10 E (a_nb 4) a_vw vw, wX5 E (a_vw 6) a_o1 o1, wX5 E (a_vw 7) a_o2 o2, wX4 E (a_nb 5) a_pl pl, wX3 E (a_nb 6) a_pp pp, i0, i1, i2])) rfl (fun _ => rfl) (fun _ => rfl) (fun _ => rfl) rfl (Nat.le_of_ble_eq_true rfl) dL_law_604 (fun r2 m1 hw => ?_)
  obtain ⟨he, hw⟩ := hw
  refine v_icmp_eq (tgt := 1578) C dL_law_607 (by decide) (fun _ => ?_) (fun hc => absurd he hc)
  refine v_widen (a' := a + 53) (b' := b + 10240) C (by omega) (by omega) ?_
  exact kk nb1 m1 st la sp ac bd sg tp1 hd vw o1 o2 pl pp hw
set_option maxHeartbeats 4000000 in
set_option maxRecDepth 100000 in
theorem lawc_12 {X : VX} {E : VE} {l : Launch} {bb L : Nat} {xs : Nat → Int32} (C : VC X code 4 R_law room_1 E l) (hL : LWX X bb L xs) (hL2 : L ≤ 3072) (i : Nat) (hi : i + 6 ≤ L) {a b : Nat} (hab : a + 53 ≤ 139614 ∧ b + 10240 ≤ 8683408) (h0 hm : Nat) (a_nb : Nat → Nat) (a_m : Nat → Nat) (a_st : Nat → Nat) (a_la : Nat → Nat) (a_sp : Nat → Nat) (a_ac : Nat → Nat) (a_bd : Nat → Nat) (a_sg : Nat → Nat) (a_tp : Nat → Nat) (a_hd : Nat → Nat) (a_vw : Nat → Nat) (a_o1 : Nat → Nat) (a_o2 : Nat → Nat) (a_pl : Nat → Nat) (a_pp : Nat → Nat) (nb : Md) (m : Md) (st : Md) (la : Md) (sp : Md) (ac : Md) (bd : Md) (sg : Md) (tp : Md) (hd : Md) (vw : Md) (o1 : Md) (o2 : Md) (pl : Md) (pp : Md) (i0 i1 i2 : va_W) (P : Md → Md → Md → Md → Md → Md → Md → Md → Md → Md → Md → Md → Md → Md → Md → Prop) (hw : qX11_spell nb st sp hd (xs (i + 1)) (xs (i + 2)) (fun r1 nb1 st1 sp1 hd1 => qX12_spell m (xs (i + 1)) (xs (i + 2)) (fun r2 m1 => r1 = r2 ∧ P nb1 m1 st1 la sp1 ac bd sg tp hd1 vw o1 o2 pl pp))) (kk : ∀ (nb1 : Md) (m1 : Md) (st1 : Md) (la1 : Md) (sp1 : Md) (ac1 : Md) (bd1 : Md) (sg1 : Md) (tp1 : Md) (hd1 : Md) (vw1 : Md) (o11 : Md) (o21 : Md) (pl1 : Md) (pp1 : Md), P nb1 m1 st1 la1 sp1 ac1 bd1 sg1 tp1 hd1 vw1 o11 o21 pl1 pp1 → VV X (a + 53) (b + 10240) ([wX11 E h0 a_nb nb1, wX12 E hm a_m m1, wX8 E (a_nb 0) a_st st1, wX2 E (a_st 2) a_la la1, wX7 E (a_st 3) a_sp sp1, wX0 E (a_st 4) a_ac ac1, wX1 E (a_st 5) a_bd bd1, wX6 E (a_st 6) a_sg sg1, wX9 E (a_nb 2) a_tp tp1, wX5 E (a_nb 3) a_hd hd1, wX10 E (a_nb 4) a_vw vw1, wX5 E (a_vw 6) a_o1 o11, wX5 E (a_vw 7) a_o2 o21, wX4 E (a_nb 5) a_pl pl1, wX3 E (a_nb 6) a_pp pp1, i0, i1, i2].flatten) [(0, .ref bb), (1, .ref h0), (2, .ref hm), (3, .int (nI i))] 1578 []) : VV X a b ([wX11 E h0 a_nb nb, wX12 E hm a_m m, wX8 E (a_nb 0) a_st st, wX2 E (a_st 2) a_la la, wX7 E (a_st 3) a_sp sp, wX0 E (a_st 4) a_ac ac, wX1 E (a_st 5) a_bd bd, wX6 E (a_st 6) a_sg sg, wX9 E (a_nb 2) a_tp tp, wX5 E (a_nb 3) a_hd hd, wX10 E (a_nb 4) a_vw vw, wX5 E (a_vw 6) a_o1 o1, wX5 E (a_vw 7) a_o2 o2, wX4 E (a_nb 5) a_pl pl, wX3 E (a_nb 6) a_pp pp, i0, i1, i2].flatten) [(0, .ref bb), (1, .ref h0), (2, .ref hm), (3, .int (nI i))] 612 [] := by
  refine v_aload_n C dL_law_612 1 rfl ?_
  refine v_aload_n C dL_law_613 0 rfl ?_
  refine v_iload_n C dL_law_614 3 rfl ?_
  refine v_iconst (v := 1) C dL_law_615 (by decide) ?_
  refine v_iadd C dL_law_616 ?_
  refine v_sld (j := i + 1) C hL (nI_add i 1) (by omega) hL2 dL_law_617 ?_
  refine v_aload_n C dL_law_618 0 rfl ?_
  refine v_iload_n C dL_law_619 3 rfl ?_
  refine v_iconst (v := 2) C dL_law_620 (by decide) ?_
  refine v_iadd C dL_law_621 ?_
  refine v_sld (j := i + 2) C hL (nI_add i 2) (by omega) hL2 dL_law_622 ?_
  refine v_callVMi (st := []) (ci := 11) (qb := 0) C (kX11_spell h0 a_nb a_st a_sp a_hd _ _ _ _ _ _ hw) mL_67 mI_X11 mC_X11_spell mN_X11_spell mS_X11_spell rfl rfl hd_X11_spell ⟨Nat.le_of_ble_eq_true rfl, Nat.le_of_ble_eq_true rfl⟩ ⟨by show _ + 0 ≤ 139614; omega, by show _ + 0 ≤ 8683408; omega⟩ [0, 2, 4, 9] [1, 3, 5, 6, 7, 8, 10, 11, 12, 13, 14, 15, 16, 17] (N0 := 18) rfl (by decide) (ms2 := (fun (U : Md × Md × Md × Md) => [wX11 E h0 a_nb U.1, wX12 E hm a_m m, wX8 E (a_nb 0) a_st U.2.1, wX2 E (a_st 2) a_la la, wX7 E (a_st 3) a_sp U.2.2.1, wX0 E (a_st 4) a_ac ac, wX1 E (a_st 5) a_bd bd, wX6 E (a_st 6) a_sg sg, wX9 E (a_nb 2) a_tp tp, wX5 E (a_nb 3) a_hd U.2.2.2, wX10 E (a_nb 4) a_vw vw, wX5 E (a_vw 6) a_o1 o1, wX5 E (a_vw 7) a_o2 o2, wX4 E (a_nb 5) a_pl pl, wX3 E (a_nb 6) a_pp pp, i0, i1, i2])) rfl (fun _ => rfl) (fun _ => rfl) (fun _ => rfl) rfl (Nat.le_of_ble_eq_true rfl) dL_law_623 (fun r1 U hw => ?_)
  obtain ⟨nb1, st1, sp1, hd1⟩ := U
  refine v_aload_n C dL_law_626 2 rfl ?_
  refine v_aload_n C dL_law_627 0 rfl ?_
  refine v_iload_n C dL_law_628 3 rfl ?_
  refine v_iconst (v := 1) C dL_law_629 (by decide) ?_
  refine v_iadd C dL_law_630 ?_
  refine v_sld (j := i + 1) C hL (nI_add i 1) (by omega) hL2 dL_law_631 ?_
  refine v_aload_n C dL_law_632 0 rfl ?_
  refine v_iload_n C dL_law_633 3 rfl ?_
  refine v_iconst (v := 2) C dL_law_634 (by decide) ?_
  refine v_iadd C dL_law_635 ?_
  refine v_sld (j := i + 2) C hL (nI_add i 2) (by omega) hL2 dL_law_636 ?_
  refine v_callVMi (st := [.int r1]) (ci := 12) (qb := 5) C (kX12_spell hm a_m _ _ _ hw) mL_70 mI_X12 mC_X12_spell mN_X12_spell mS_X12_spell rfl rfl hd_X12_spell ⟨Nat.le_of_ble_eq_true rfl, Nat.le_of_ble_eq_true rfl⟩ ⟨by show _ + 0 ≤ 139614; omega, by show _ + 0 ≤ 8683408; omega⟩ [1] [0, 2, 3, 4, 5, 6, 7, 8, 9, 10, 11, 12, 13, 14, 15, 16, 17] (N0 := 18) rfl (by decide) (ms2 := (fun (U : Md) => [wX11 E h0 a_nb nb1, wX12 E hm a_m U, wX8 E (a_nb 0) a_st st1, wX2 E (a_st 2) a_la la, wX7 E (a_st 3) a_sp sp1, wX0 E (a_st 4) a_ac ac, wX1 E (a_st 5) a_bd bd, wX6 E (a_st 6) a_sg sg, wX9 E (a_nb 2) a_tp tp, wX5 E (a_nb 3) a_hd hd1, wX10 E (a_nb 4) a_vw vw, wX5 E (a_vw 6) a_o1 o1, wX5 E (a_vw 7) a_o2 o2, wX4 E (a_nb 5) a_pl pl, wX3 E (a_nb 6) a_pp pp, i0, i1, i2])) rfl (fun _ => rfl) (fun _ => rfl) (fun _ => rfl) rfl (Nat.le_of_ble_eq_true rfl) dL_law_637 (fun r2 m1 hw => ?_)
  obtain ⟨he, hw⟩ := hw
  refine v_icmp_eq (tgt := 1578) C dL_law_640 (by decide) (fun _ => ?_) (fun hc => absurd he hc)
  refine v_widen (a' := a + 53) (b' := b + 10240) C (by omega) (by omega) ?_
  exact kk nb1 m1 st1 la sp1 ac bd sg tp hd1 vw o1 o2 pl pp hw
set_option maxHeartbeats 4000000 in
set_option maxRecDepth 100000 in
theorem lawc_13 {X : VX} {E : VE} {l : Launch} {bb L : Nat} {xs : Nat → Int32} (C : VC X code 4 R_law room_1 E l) (hL : LWX X bb L xs) (hL2 : L ≤ 3072) (i : Nat) (hi : i + 6 ≤ L) {a b : Nat} (hab : a + 53 ≤ 139614 ∧ b + 10240 ≤ 8683408) (h0 hm : Nat) (a_nb : Nat → Nat) (a_m : Nat → Nat) (a_st : Nat → Nat) (a_la : Nat → Nat) (a_sp : Nat → Nat) (a_ac : Nat → Nat) (a_bd : Nat → Nat) (a_sg : Nat → Nat) (a_tp : Nat → Nat) (a_hd : Nat → Nat) (a_vw : Nat → Nat) (a_o1 : Nat → Nat) (a_o2 : Nat → Nat) (a_pl : Nat → Nat) (a_pp : Nat → Nat) (nb : Md) (m : Md) (st : Md) (la : Md) (sp : Md) (ac : Md) (bd : Md) (sg : Md) (tp : Md) (hd : Md) (vw : Md) (o1 : Md) (o2 : Md) (pl : Md) (pp : Md) (i0 i1 i2 : va_W) (P : Md → Md → Md → Md → Md → Md → Md → Md → Md → Md → Md → Md → Md → Md → Md → Prop) (hw : qX11_letter nb hd (xs (i + 1)) (fun r1 nb1 hd1 => qX12_letter m (xs (i + 1)) (fun r2 m1 => r1 = r2 ∧ P nb1 m1 st la sp ac bd sg tp hd1 vw o1 o2 pl pp))) (kk : ∀ (nb1 : Md) (m1 : Md) (st1 : Md) (la1 : Md) (sp1 : Md) (ac1 : Md) (bd1 : Md) (sg1 : Md) (tp1 : Md) (hd1 : Md) (vw1 : Md) (o11 : Md) (o21 : Md) (pl1 : Md) (pp1 : Md), P nb1 m1 st1 la1 sp1 ac1 bd1 sg1 tp1 hd1 vw1 o11 o21 pl1 pp1 → VV X (a + 53) (b + 10240) ([wX11 E h0 a_nb nb1, wX12 E hm a_m m1, wX8 E (a_nb 0) a_st st1, wX2 E (a_st 2) a_la la1, wX7 E (a_st 3) a_sp sp1, wX0 E (a_st 4) a_ac ac1, wX1 E (a_st 5) a_bd bd1, wX6 E (a_st 6) a_sg sg1, wX9 E (a_nb 2) a_tp tp1, wX5 E (a_nb 3) a_hd hd1, wX10 E (a_nb 4) a_vw vw1, wX5 E (a_vw 6) a_o1 o11, wX5 E (a_vw 7) a_o2 o21, wX4 E (a_nb 5) a_pl pl1, wX3 E (a_nb 6) a_pp pp1, i0, i1, i2].flatten) [(0, .ref bb), (1, .ref h0), (2, .ref hm), (3, .int (nI i))] 1578 []) : VV X a b ([wX11 E h0 a_nb nb, wX12 E hm a_m m, wX8 E (a_nb 0) a_st st, wX2 E (a_st 2) a_la la, wX7 E (a_st 3) a_sp sp, wX0 E (a_st 4) a_ac ac, wX1 E (a_st 5) a_bd bd, wX6 E (a_st 6) a_sg sg, wX9 E (a_nb 2) a_tp tp, wX5 E (a_nb 3) a_hd hd, wX10 E (a_nb 4) a_vw vw, wX5 E (a_vw 6) a_o1 o1, wX5 E (a_vw 7) a_o2 o2, wX4 E (a_nb 5) a_pl pl, wX3 E (a_nb 6) a_pp pp, i0, i1, i2].flatten) [(0, .ref bb), (1, .ref h0), (2, .ref hm), (3, .int (nI i))] 645 [] := by
  refine v_aload_n C dL_law_645 1 rfl ?_
  refine v_aload_n C dL_law_646 0 rfl ?_
  refine v_iload_n C dL_law_647 3 rfl ?_
  refine v_iconst (v := 1) C dL_law_648 (by decide) ?_
  refine v_iadd C dL_law_649 ?_
  refine v_sld (j := i + 1) C hL (nI_add i 1) (by omega) hL2 dL_law_650 ?_
  refine v_callVMi (st := []) (ci := 11) (qb := 0) C (kX11_letter h0 a_nb a_hd _ _ _ hw) mL_71 mI_X11 mC_X11_letter mN_X11_letter mS_X11_letter rfl rfl hd_X11_letter ⟨Nat.le_of_ble_eq_true rfl, Nat.le_of_ble_eq_true rfl⟩ ⟨by show _ + 0 ≤ 139614; omega, by show _ + 0 ≤ 8683408; omega⟩ [0, 9] [1, 2, 3, 4, 5, 6, 7, 8, 10, 11, 12, 13, 14, 15, 16, 17] (N0 := 18) rfl (by decide) (ms2 := (fun (U : Md × Md) => [wX11 E h0 a_nb U.1, wX12 E hm a_m m, wX8 E (a_nb 0) a_st st, wX2 E (a_st 2) a_la la, wX7 E (a_st 3) a_sp sp, wX0 E (a_st 4) a_ac ac, wX1 E (a_st 5) a_bd bd, wX6 E (a_st 6) a_sg sg, wX9 E (a_nb 2) a_tp tp, wX5 E (a_nb 3) a_hd U.2, wX10 E (a_nb 4) a_vw vw, wX5 E (a_vw 6) a_o1 o1, wX5 E (a_vw 7) a_o2 o2, wX4 E (a_nb 5) a_pl pl, wX3 E (a_nb 6) a_pp pp, i0, i1, i2])) rfl (fun _ => rfl) (fun _ => rfl) (fun _ => rfl) rfl (Nat.le_of_ble_eq_true rfl) dL_law_651 (fun r1 U hw => ?_)
  obtain ⟨nb1, hd1⟩ := U
  refine v_aload_n C dL_law_654 2 rfl ?_
  refine v_aload_n C dL_law_655 0 rfl ?_
  refine v_iload_n C dL_law_656 3 rfl ?_
  refine v_iconst (v := 1) C dL_law_657 (by decide) ?_
  refine v_iadd C dL_law_658 ?_
  refine v_sld (j := i + 1) C hL (nI_add i 1) (by omega) hL2 dL_law_659 ?_
  refine v_callVMi (st := [.int r1]) (ci := 12) (qb := 5) C (kX12_letter hm a_m _ _ hw) mL_74 mI_X12 mC_X12_letter mN_X12_letter mS_X12_letter rfl rfl hd_X12_letter ⟨Nat.le_of_ble_eq_true rfl, Nat.le_of_ble_eq_true rfl⟩ ⟨by show _ + 0 ≤ 139614; omega, by show _ + 0 ≤ 8683408; omega⟩ [1] [0, 2, 3, 4, 5, 6, 7, 8, 9, 10, 11, 12, 13, 14, 15, 16, 17] (N0 := 18) rfl (by decide) (ms2 := (fun (U : Md) => [wX11 E h0 a_nb nb1, wX12 E hm a_m U, wX8 E (a_nb 0) a_st st, wX2 E (a_st 2) a_la la, wX7 E (a_st 3) a_sp sp, wX0 E (a_st 4) a_ac ac, wX1 E (a_st 5) a_bd bd, wX6 E (a_st 6) a_sg sg, wX9 E (a_nb 2) a_tp tp, wX5 E (a_nb 3) a_hd hd1, wX10 E (a_nb 4) a_vw vw, wX5 E (a_vw 6) a_o1 o1, wX5 E (a_vw 7) a_o2 o2, wX4 E (a_nb 5) a_pl pl, wX3 E (a_nb 6) a_pp pp, i0, i1, i2])) rfl (fun _ => rfl) (fun _ => rfl) (fun _ => rfl) rfl (Nat.le_of_ble_eq_true rfl) dL_law_660 (fun r2 m1 hw => ?_)
  obtain ⟨he, hw⟩ := hw
  refine v_icmp_eq (tgt := 1578) C dL_law_663 (by decide) (fun _ => ?_) (fun hc => absurd he hc)
  refine v_widen (a' := a + 53) (b' := b + 10240) C (by omega) (by omega) ?_
  exact kk nb1 m1 st la sp ac bd sg tp hd1 vw o1 o2 pl pp hw
set_option maxHeartbeats 4000000 in
set_option maxRecDepth 100000 in
theorem lawc_14 {X : VX} {E : VE} {l : Launch} {bb L : Nat} {xs : Nat → Int32} (C : VC X code 4 R_law room_1 E l) (hL : LWX X bb L xs) (hL2 : L ≤ 3072) (i : Nat) (hi : i + 6 ≤ L) {a b : Nat} (hab : a + 53 ≤ 139614 ∧ b + 10240 ≤ 8683408) (h0 hm : Nat) (a_nb : Nat → Nat) (a_m : Nat → Nat) (a_st : Nat → Nat) (a_la : Nat → Nat) (a_sp : Nat → Nat) (a_ac : Nat → Nat) (a_bd : Nat → Nat) (a_sg : Nat → Nat) (a_tp : Nat → Nat) (a_hd : Nat → Nat) (a_vw : Nat → Nat) (a_o1 : Nat → Nat) (a_o2 : Nat → Nat) (a_pl : Nat → Nat) (a_pp : Nat → Nat) (nb : Md) (m : Md) (st : Md) (la : Md) (sp : Md) (ac : Md) (bd : Md) (sg : Md) (tp : Md) (hd : Md) (vw : Md) (o1 : Md) (o2 : Md) (pl : Md) (pp : Md) (i0 i1 i2 : va_W) (P : Md → Md → Md → Md → Md → Md → Md → Md → Md → Md → Md → Md → Md → Md → Md → Prop) (hw : qX11_led nb hd (xs (i + 1)) (fun r1 nb1 hd1 => qX12_led m (xs (i + 1)) (fun r2 m1 => r1 = r2 ∧ P nb1 m1 st la sp ac bd sg tp hd1 vw o1 o2 pl pp))) (kk : ∀ (nb1 : Md) (m1 : Md) (st1 : Md) (la1 : Md) (sp1 : Md) (ac1 : Md) (bd1 : Md) (sg1 : Md) (tp1 : Md) (hd1 : Md) (vw1 : Md) (o11 : Md) (o21 : Md) (pl1 : Md) (pp1 : Md), P nb1 m1 st1 la1 sp1 ac1 bd1 sg1 tp1 hd1 vw1 o11 o21 pl1 pp1 → VV X (a + 53) (b + 10240) ([wX11 E h0 a_nb nb1, wX12 E hm a_m m1, wX8 E (a_nb 0) a_st st1, wX2 E (a_st 2) a_la la1, wX7 E (a_st 3) a_sp sp1, wX0 E (a_st 4) a_ac ac1, wX1 E (a_st 5) a_bd bd1, wX6 E (a_st 6) a_sg sg1, wX9 E (a_nb 2) a_tp tp1, wX5 E (a_nb 3) a_hd hd1, wX10 E (a_nb 4) a_vw vw1, wX5 E (a_vw 6) a_o1 o11, wX5 E (a_vw 7) a_o2 o21, wX4 E (a_nb 5) a_pl pl1, wX3 E (a_nb 6) a_pp pp1, i0, i1, i2].flatten) [(0, .ref bb), (1, .ref h0), (2, .ref hm), (3, .int (nI i))] 1578 []) : VV X a b ([wX11 E h0 a_nb nb, wX12 E hm a_m m, wX8 E (a_nb 0) a_st st, wX2 E (a_st 2) a_la la, wX7 E (a_st 3) a_sp sp, wX0 E (a_st 4) a_ac ac, wX1 E (a_st 5) a_bd bd, wX6 E (a_st 6) a_sg sg, wX9 E (a_nb 2) a_tp tp, wX5 E (a_nb 3) a_hd hd, wX10 E (a_nb 4) a_vw vw, wX5 E (a_vw 6) a_o1 o1, wX5 E (a_vw 7) a_o2 o2, wX4 E (a_nb 5) a_pl pl, wX3 E (a_nb 6) a_pp pp, i0, i1, i2].flatten) [(0, .ref bb), (1, .ref h0), (2, .ref hm), (3, .int (nI i))] 668 [] := by
  refine v_aload_n C dL_law_668 1 rfl ?_
  refine v_aload_n C dL_law_669 0 rfl ?_
  refine v_iload_n C dL_law_670 3 rfl ?_
  refine v_iconst (v := 1) C dL_law_671 (by decide) ?_
  refine v_iadd C dL_law_672 ?_
  refine v_sld (j := i + 1) C hL (nI_add i 1) (by omega) hL2 dL_law_673 ?_
  refine v_callVMi (st := []) (ci := 11) (qb := 0) C (kX11_led h0 a_nb a_hd _ _ _ hw) mL_75 mI_X11 mC_X11_led mN_X11_led mS_X11_led rfl rfl hd_X11_led ⟨Nat.le_of_ble_eq_true rfl, Nat.le_of_ble_eq_true rfl⟩ ⟨by show _ + 0 ≤ 139614; omega, by show _ + 0 ≤ 8683408; omega⟩ [0, 9] [1, 2, 3, 4, 5, 6, 7, 8, 10, 11, 12, 13, 14, 15, 16, 17] (N0 := 18) rfl (by decide) (ms2 := (fun (U : Md × Md) => [wX11 E h0 a_nb U.1, wX12 E hm a_m m, wX8 E (a_nb 0) a_st st, wX2 E (a_st 2) a_la la, wX7 E (a_st 3) a_sp sp, wX0 E (a_st 4) a_ac ac, wX1 E (a_st 5) a_bd bd, wX6 E (a_st 6) a_sg sg, wX9 E (a_nb 2) a_tp tp, wX5 E (a_nb 3) a_hd U.2, wX10 E (a_nb 4) a_vw vw, wX5 E (a_vw 6) a_o1 o1, wX5 E (a_vw 7) a_o2 o2, wX4 E (a_nb 5) a_pl pl, wX3 E (a_nb 6) a_pp pp, i0, i1, i2])) rfl (fun _ => rfl) (fun _ => rfl) (fun _ => rfl) rfl (Nat.le_of_ble_eq_true rfl) dL_law_674 (fun r1 U hw => ?_)
  obtain ⟨nb1, hd1⟩ := U
  refine v_aload_n C dL_law_677 2 rfl ?_
  refine v_aload_n C dL_law_678 0 rfl ?_
  refine v_iload_n C dL_law_679 3 rfl ?_
  refine v_iconst (v := 1) C dL_law_680 (by decide) ?_
  refine v_iadd C dL_law_681 ?_
  refine v_sld (j := i + 1) C hL (nI_add i 1) (by omega) hL2 dL_law_682 ?_
  refine v_callVMi (st := [.int r1]) (ci := 12) (qb := 5) C (kX12_led hm a_m _ _ hw) mL_78 mI_X12 mC_X12_led mN_X12_led mS_X12_led rfl rfl hd_X12_led ⟨Nat.le_of_ble_eq_true rfl, Nat.le_of_ble_eq_true rfl⟩ ⟨by show _ + 0 ≤ 139614; omega, by show _ + 0 ≤ 8683408; omega⟩ [1] [0, 2, 3, 4, 5, 6, 7, 8, 9, 10, 11, 12, 13, 14, 15, 16, 17] (N0 := 18) rfl (by decide) (ms2 := (fun (U : Md) => [wX11 E h0 a_nb nb1, wX12 E hm a_m U, wX8 E (a_nb 0) a_st st, wX2 E (a_st 2) a_la la, wX7 E (a_st 3) a_sp sp, wX0 E (a_st 4) a_ac ac, wX1 E (a_st 5) a_bd bd, wX6 E (a_st 6) a_sg sg, wX9 E (a_nb 2) a_tp tp, wX5 E (a_nb 3) a_hd hd1, wX10 E (a_nb 4) a_vw vw, wX5 E (a_vw 6) a_o1 o1, wX5 E (a_vw 7) a_o2 o2, wX4 E (a_nb 5) a_pl pl, wX3 E (a_nb 6) a_pp pp, i0, i1, i2])) rfl (fun _ => rfl) (fun _ => rfl) (fun _ => rfl) rfl (Nat.le_of_ble_eq_true rfl) dL_law_683 (fun r2 m1 hw => ?_)
  obtain ⟨he, hw⟩ := hw
  refine v_icmp_eq (tgt := 1578) C dL_law_686 (by decide) (fun _ => ?_) (fun hc => absurd he hc)
  refine v_widen (a' := a + 53) (b' := b + 10240) C (by omega) (by omega) ?_
  exact kk nb1 m1 st la sp ac bd sg tp hd1 vw o1 o2 pl pp hw
set_option maxHeartbeats 4000000 in
set_option maxRecDepth 100000 in
theorem lawc_15 {X : VX} {E : VE} {l : Launch} {bb L : Nat} {xs : Nat → Int32} (C : VC X code 4 R_law room_1 E l) (hL : LWX X bb L xs) (hL2 : L ≤ 3072) (i : Nat) (hi : i + 6 ≤ L) {a b : Nat} (hab : a + 53 ≤ 139614 ∧ b + 10240 ≤ 8683408) (h0 hm : Nat) (a_nb : Nat → Nat) (a_m : Nat → Nat) (a_st : Nat → Nat) (a_la : Nat → Nat) (a_sp : Nat → Nat) (a_ac : Nat → Nat) (a_bd : Nat → Nat) (a_sg : Nat → Nat) (a_tp : Nat → Nat) (a_hd : Nat → Nat) (a_vw : Nat → Nat) (a_o1 : Nat → Nat) (a_o2 : Nat → Nat) (a_pl : Nat → Nat) (a_pp : Nat → Nat) (nb : Md) (m : Md) (st : Md) (la : Md) (sp : Md) (ac : Md) (bd : Md) (sg : Md) (tp : Md) (hd : Md) (vw : Md) (o1 : Md) (o2 : Md) (pl : Md) (pp : Md) (i0 i1 i2 : va_W) (P : Md → Md → Md → Md → Md → Md → Md → Md → Md → Md → Md → Md → Md → Md → Md → Prop) (hw : qX11_alikes nb st sp vw o1 (xs (i + 1)) (fun r1 nb1 st1 sp1 vw1 o11 => qX12_alikes m (xs (i + 1)) (fun r2 m1 => r1 = r2 ∧ P nb1 m1 st1 la sp1 ac bd sg tp hd vw1 o11 o2 pl pp))) (kk : ∀ (nb1 : Md) (m1 : Md) (st1 : Md) (la1 : Md) (sp1 : Md) (ac1 : Md) (bd1 : Md) (sg1 : Md) (tp1 : Md) (hd1 : Md) (vw1 : Md) (o11 : Md) (o21 : Md) (pl1 : Md) (pp1 : Md), P nb1 m1 st1 la1 sp1 ac1 bd1 sg1 tp1 hd1 vw1 o11 o21 pl1 pp1 → VV X (a + 53) (b + 10240) ([wX11 E h0 a_nb nb1, wX12 E hm a_m m1, wX8 E (a_nb 0) a_st st1, wX2 E (a_st 2) a_la la1, wX7 E (a_st 3) a_sp sp1, wX0 E (a_st 4) a_ac ac1, wX1 E (a_st 5) a_bd bd1, wX6 E (a_st 6) a_sg sg1, wX9 E (a_nb 2) a_tp tp1, wX5 E (a_nb 3) a_hd hd1, wX10 E (a_nb 4) a_vw vw1, wX5 E (a_vw 6) a_o1 o11, wX5 E (a_vw 7) a_o2 o21, wX4 E (a_nb 5) a_pl pl1, wX3 E (a_nb 6) a_pp pp1, i0, i1, i2].flatten) [(0, .ref bb), (1, .ref h0), (2, .ref hm), (3, .int (nI i))] 1578 []) : VV X a b ([wX11 E h0 a_nb nb, wX12 E hm a_m m, wX8 E (a_nb 0) a_st st, wX2 E (a_st 2) a_la la, wX7 E (a_st 3) a_sp sp, wX0 E (a_st 4) a_ac ac, wX1 E (a_st 5) a_bd bd, wX6 E (a_st 6) a_sg sg, wX9 E (a_nb 2) a_tp tp, wX5 E (a_nb 3) a_hd hd, wX10 E (a_nb 4) a_vw vw, wX5 E (a_vw 6) a_o1 o1, wX5 E (a_vw 7) a_o2 o2, wX4 E (a_nb 5) a_pl pl, wX3 E (a_nb 6) a_pp pp, i0, i1, i2].flatten) [(0, .ref bb), (1, .ref h0), (2, .ref hm), (3, .int (nI i))] 691 [] := by
  refine v_aload_n C dL_law_691 1 rfl ?_
  refine v_aload_n C dL_law_692 0 rfl ?_
  refine v_iload_n C dL_law_693 3 rfl ?_
  refine v_iconst (v := 1) C dL_law_694 (by decide) ?_
  refine v_iadd C dL_law_695 ?_
  refine v_sld (j := i + 1) C hL (nI_add i 1) (by omega) hL2 dL_law_696 ?_
  refine v_callVMi (st := []) (ci := 11) (qb := 0) C (kX11_alikes h0 a_nb a_st a_sp a_vw a_o1 _ _ _ _ _ _ hw) mL_79 mI_X11 mC_X11_alikes mN_X11_alikes mS_X11_alikes rfl rfl hd_X11_alikes ⟨Nat.le_of_ble_eq_true rfl, Nat.le_of_ble_eq_true rfl⟩ ⟨by show _ + 0 ≤ 139614; omega, by show _ + 0 ≤ 8683408; omega⟩ [0, 2, 4, 10, 11] [1, 3, 5, 6, 7, 8, 9, 12, 13, 14, 15, 16, 17] (N0 := 18) rfl (by decide) (ms2 := (fun (U : Md × Md × Md × Md × Md) => [wX11 E h0 a_nb U.1, wX12 E hm a_m m, wX8 E (a_nb 0) a_st U.2.1, wX2 E (a_st 2) a_la la, wX7 E (a_st 3) a_sp U.2.2.1, wX0 E (a_st 4) a_ac ac, wX1 E (a_st 5) a_bd bd, wX6 E (a_st 6) a_sg sg, wX9 E (a_nb 2) a_tp tp, wX5 E (a_nb 3) a_hd hd, wX10 E (a_nb 4) a_vw U.2.2.2.1, wX5 E (a_vw 6) a_o1 U.2.2.2.2, wX5 E (a_vw 7) a_o2 o2, wX4 E (a_nb 5) a_pl pl, wX3 E (a_nb 6) a_pp pp, i0, i1, i2])) rfl (fun _ => rfl) (fun _ => rfl) (fun _ => rfl) rfl (Nat.le_of_ble_eq_true rfl) dL_law_697 (fun r1 U hw => ?_)
  obtain ⟨nb1, st1, sp1, vw1, o11⟩ := U
  refine v_aload_n C dL_law_700 2 rfl ?_
  refine v_aload_n C dL_law_701 0 rfl ?_
  refine v_iload_n C dL_law_702 3 rfl ?_
  refine v_iconst (v := 1) C dL_law_703 (by decide) ?_
  refine v_iadd C dL_law_704 ?_
  refine v_sld (j := i + 1) C hL (nI_add i 1) (by omega) hL2 dL_law_705 ?_
  refine v_callVMi (st := [.int r1]) (ci := 12) (qb := 5) C (kX12_alikes hm a_m _ _ hw) mL_82 mI_X12 mC_X12_alikes mN_X12_alikes mS_X12_alikes rfl rfl hd_X12_alikes ⟨Nat.le_of_ble_eq_true rfl, Nat.le_of_ble_eq_true rfl⟩ ⟨by show _ + 0 ≤ 139614; omega, by show _ + 0 ≤ 8683408; omega⟩ [1] [0, 2, 3, 4, 5, 6, 7, 8, 9, 10, 11, 12, 13, 14, 15, 16, 17] (N0 := 18) rfl (by decide) (ms2 := (fun (U : Md) => [wX11 E h0 a_nb nb1, wX12 E hm a_m U, wX8 E (a_nb 0) a_st st1, wX2 E (a_st 2) a_la la, wX7 E (a_st 3) a_sp sp1, wX0 E (a_st 4) a_ac ac, wX1 E (a_st 5) a_bd bd, wX6 E (a_st 6) a_sg sg, wX9 E (a_nb 2) a_tp tp, wX5 E (a_nb 3) a_hd hd, wX10 E (a_nb 4) a_vw vw1, wX5 E (a_vw 6) a_o1 o11, wX5 E (a_vw 7) a_o2 o2, wX4 E (a_nb 5) a_pl pl, wX3 E (a_nb 6) a_pp pp, i0, i1, i2])) rfl (fun _ => rfl) (fun _ => rfl) (fun _ => rfl) rfl (Nat.le_of_ble_eq_true rfl) dL_law_706 (fun r2 m1 hw => ?_)
  obtain ⟨he, hw⟩ := hw
  refine v_icmp_eq (tgt := 1578) C dL_law_709 (by decide) (fun _ => ?_) (fun hc => absurd he hc)
  refine v_widen (a' := a + 53) (b' := b + 10240) C (by omega) (by omega) ?_
  exact kk nb1 m1 st1 la sp1 ac bd sg tp hd vw1 o11 o2 pl pp hw
set_option maxHeartbeats 4000000 in
set_option maxRecDepth 100000 in
theorem lawc_16 {X : VX} {E : VE} {l : Launch} {bb L : Nat} {xs : Nat → Int32} (C : VC X code 4 R_law room_1 E l) (hL : LWX X bb L xs) (hL2 : L ≤ 3072) (i : Nat) (hi : i + 6 ≤ L) {a b : Nat} (hab : a + 53 ≤ 139614 ∧ b + 10240 ≤ 8683408) (h0 hm : Nat) (a_nb : Nat → Nat) (a_m : Nat → Nat) (a_st : Nat → Nat) (a_la : Nat → Nat) (a_sp : Nat → Nat) (a_ac : Nat → Nat) (a_bd : Nat → Nat) (a_sg : Nat → Nat) (a_tp : Nat → Nat) (a_hd : Nat → Nat) (a_vw : Nat → Nat) (a_o1 : Nat → Nat) (a_o2 : Nat → Nat) (a_pl : Nat → Nat) (a_pp : Nat → Nat) (nb : Md) (m : Md) (st : Md) (la : Md) (sp : Md) (ac : Md) (bd : Md) (sg : Md) (tp : Md) (hd : Md) (vw : Md) (o1 : Md) (o2 : Md) (pl : Md) (pp : Md) (i0 i1 i2 : va_W) (P : Md → Md → Md → Md → Md → Md → Md → Md → Md → Md → Md → Md → Md → Md → Md → Prop) (hw : qX11_edits nb st sp vw o1 o2 (xs (i + 1)) (xs (i + 2)) (xs (i + 3)) (fun r1 nb1 st1 sp1 vw1 o11 o21 => qX12_edits m (xs (i + 1)) (xs (i + 2)) (xs (i + 3)) (fun r2 m1 => r1 = r2 ∧ P nb1 m1 st1 la sp1 ac bd sg tp hd vw1 o11 o21 pl pp))) (kk : ∀ (nb1 : Md) (m1 : Md) (st1 : Md) (la1 : Md) (sp1 : Md) (ac1 : Md) (bd1 : Md) (sg1 : Md) (tp1 : Md) (hd1 : Md) (vw1 : Md) (o11 : Md) (o21 : Md) (pl1 : Md) (pp1 : Md), P nb1 m1 st1 la1 sp1 ac1 bd1 sg1 tp1 hd1 vw1 o11 o21 pl1 pp1 → VV X (a + 53) (b + 10240) ([wX11 E h0 a_nb nb1, wX12 E hm a_m m1, wX8 E (a_nb 0) a_st st1, wX2 E (a_st 2) a_la la1, wX7 E (a_st 3) a_sp sp1, wX0 E (a_st 4) a_ac ac1, wX1 E (a_st 5) a_bd bd1, wX6 E (a_st 6) a_sg sg1, wX9 E (a_nb 2) a_tp tp1, wX5 E (a_nb 3) a_hd hd1, wX10 E (a_nb 4) a_vw vw1, wX5 E (a_vw 6) a_o1 o11, wX5 E (a_vw 7) a_o2 o21, wX4 E (a_nb 5) a_pl pl1, wX3 E (a_nb 6) a_pp pp1, i0, i1, i2].flatten) [(0, .ref bb), (1, .ref h0), (2, .ref hm), (3, .int (nI i))] 1578 []) : VV X a b ([wX11 E h0 a_nb nb, wX12 E hm a_m m, wX8 E (a_nb 0) a_st st, wX2 E (a_st 2) a_la la, wX7 E (a_st 3) a_sp sp, wX0 E (a_st 4) a_ac ac, wX1 E (a_st 5) a_bd bd, wX6 E (a_st 6) a_sg sg, wX9 E (a_nb 2) a_tp tp, wX5 E (a_nb 3) a_hd hd, wX10 E (a_nb 4) a_vw vw, wX5 E (a_vw 6) a_o1 o1, wX5 E (a_vw 7) a_o2 o2, wX4 E (a_nb 5) a_pl pl, wX3 E (a_nb 6) a_pp pp, i0, i1, i2].flatten) [(0, .ref bb), (1, .ref h0), (2, .ref hm), (3, .int (nI i))] 714 [] := by
  refine v_aload_n C dL_law_714 1 rfl ?_
  refine v_aload_n C dL_law_715 0 rfl ?_
  refine v_iload_n C dL_law_716 3 rfl ?_
  refine v_iconst (v := 1) C dL_law_717 (by decide) ?_
  refine v_iadd C dL_law_718 ?_
  refine v_sld (j := i + 1) C hL (nI_add i 1) (by omega) hL2 dL_law_719 ?_
  refine v_aload_n C dL_law_720 0 rfl ?_
  refine v_iload_n C dL_law_721 3 rfl ?_
  refine v_iconst (v := 2) C dL_law_722 (by decide) ?_
  refine v_iadd C dL_law_723 ?_
  refine v_sld (j := i + 2) C hL (nI_add i 2) (by omega) hL2 dL_law_724 ?_
  refine v_aload_n C dL_law_725 0 rfl ?_
  refine v_iload_n C dL_law_726 3 rfl ?_
  refine v_iconst (v := 3) C dL_law_727 (by decide) ?_
  refine v_iadd C dL_law_728 ?_
  refine v_sld (j := i + 3) C hL (nI_add i 3) (by omega) hL2 dL_law_729 ?_
  refine v_callVMi (st := []) (ci := 11) (qb := 0) C (kX11_edits h0 a_nb a_st a_sp a_vw a_o1 a_o2 _ _ _ _ _ _ _ _ _ hw) mL_83 mI_X11 mC_X11_edits mN_X11_edits mS_X11_edits rfl rfl hd_X11_edits ⟨Nat.le_of_ble_eq_true rfl, Nat.le_of_ble_eq_true rfl⟩ ⟨by show _ + 0 ≤ 139614; omega, by show _ + 0 ≤ 8683408; omega⟩ [0, 2, 4, 10, 11, 12] [1, 3, 5, 6, 7, 8, 9, 13, 14, 15, 16, 17] (N0 := 18) rfl (by decide) (ms2 := (fun (U : Md × Md × Md × Md × Md × Md) => [wX11 E h0 a_nb U.1, wX12 E hm a_m m, wX8 E (a_nb 0) a_st U.2.1, wX2 E (a_st 2) a_la la, wX7 E (a_st 3) a_sp U.2.2.1, wX0 E (a_st 4) a_ac ac, wX1 E (a_st 5) a_bd bd, wX6 E (a_st 6) a_sg sg, wX9 E (a_nb 2) a_tp tp, wX5 E (a_nb 3) a_hd hd, wX10 E (a_nb 4) a_vw U.2.2.2.1, wX5 E (a_vw 6) a_o1 U.2.2.2.2.1, wX5 E (a_vw 7) a_o2 U.2.2.2.2.2, wX4 E (a_nb 5) a_pl pl, wX3 E (a_nb 6) a_pp pp, i0, i1, i2])) rfl (fun _ => rfl) (fun _ => rfl) (fun _ => rfl) rfl (Nat.le_of_ble_eq_true rfl) dL_law_730 (fun r1 U hw => ?_)
  obtain ⟨nb1, st1, sp1, vw1, o11, o21⟩ := U
  refine v_aload_n C dL_law_733 2 rfl ?_
  refine v_aload_n C dL_law_734 0 rfl ?_
  refine v_iload_n C dL_law_735 3 rfl ?_
  refine v_iconst (v := 1) C dL_law_736 (by decide) ?_
  refine v_iadd C dL_law_737 ?_
  refine v_sld (j := i + 1) C hL (nI_add i 1) (by omega) hL2 dL_law_738 ?_
  refine v_aload_n C dL_law_739 0 rfl ?_
  refine v_iload_n C dL_law_740 3 rfl ?_
  refine v_iconst (v := 2) C dL_law_741 (by decide) ?_
  refine v_iadd C dL_law_742 ?_
  refine v_sld (j := i + 2) C hL (nI_add i 2) (by omega) hL2 dL_law_743 ?_
  refine v_aload_n C dL_law_744 0 rfl ?_
  refine v_iload_n C dL_law_745 3 rfl ?_
  refine v_iconst (v := 3) C dL_law_746 (by decide) ?_
  refine v_iadd C dL_law_747 ?_
  refine v_sld (j := i + 3) C hL (nI_add i 3) (by omega) hL2 dL_law_748 ?_
  refine v_callVMi (st := [.int r1]) (ci := 12) (qb := 5) C (kX12_edits hm a_m _ _ _ _ hw) mL_86 mI_X12 mC_X12_edits mN_X12_edits mS_X12_edits rfl rfl hd_X12_edits ⟨Nat.le_of_ble_eq_true rfl, Nat.le_of_ble_eq_true rfl⟩ ⟨by show _ + 0 ≤ 139614; omega, by show _ + 0 ≤ 8683408; omega⟩ [1] [0, 2, 3, 4, 5, 6, 7, 8, 9, 10, 11, 12, 13, 14, 15, 16, 17] (N0 := 18) rfl (by decide) (ms2 := (fun (U : Md) => [wX11 E h0 a_nb nb1, wX12 E hm a_m U, wX8 E (a_nb 0) a_st st1, wX2 E (a_st 2) a_la la, wX7 E (a_st 3) a_sp sp1, wX0 E (a_st 4) a_ac ac, wX1 E (a_st 5) a_bd bd, wX6 E (a_st 6) a_sg sg, wX9 E (a_nb 2) a_tp tp, wX5 E (a_nb 3) a_hd hd, wX10 E (a_nb 4) a_vw vw1, wX5 E (a_vw 6) a_o1 o11, wX5 E (a_vw 7) a_o2 o21, wX4 E (a_nb 5) a_pl pl, wX3 E (a_nb 6) a_pp pp, i0, i1, i2])) rfl (fun _ => rfl) (fun _ => rfl) (fun _ => rfl) rfl (Nat.le_of_ble_eq_true rfl) dL_law_749 (fun r2 m1 hw => ?_)
  obtain ⟨he, hw⟩ := hw
  refine v_icmp_eq (tgt := 1578) C dL_law_752 (by decide) (fun _ => ?_) (fun hc => absurd he hc)
  refine v_widen (a' := a + 53) (b' := b + 10240) C (by omega) (by omega) ?_
  exact kk nb1 m1 st1 la sp1 ac bd sg tp hd vw1 o11 o21 pl pp hw
set_option maxHeartbeats 4000000 in
set_option maxRecDepth 100000 in
theorem lawc_17 {X : VX} {E : VE} {l : Launch} {bb L : Nat} {xs : Nat → Int32} (C : VC X code 4 R_law room_1 E l) (hL : LWX X bb L xs) (hL2 : L ≤ 3072) (i : Nat) (hi : i + 6 ≤ L) {a b : Nat} (hab : a + 53 ≤ 139614 ∧ b + 10240 ≤ 8683408) (h0 hm : Nat) (a_nb : Nat → Nat) (a_m : Nat → Nat) (a_st : Nat → Nat) (a_la : Nat → Nat) (a_sp : Nat → Nat) (a_ac : Nat → Nat) (a_bd : Nat → Nat) (a_sg : Nat → Nat) (a_tp : Nat → Nat) (a_hd : Nat → Nat) (a_vw : Nat → Nat) (a_o1 : Nat → Nat) (a_o2 : Nat → Nat) (a_pl : Nat → Nat) (a_pp : Nat → Nat) (nb : Md) (m : Md) (st : Md) (la : Md) (sp : Md) (ac : Md) (bd : Md) (sg : Md) (tp : Md) (hd : Md) (vw : Md) (o1 : Md) (o2 : Md) (pl : Md) (pp : Md) (i0 i1 i2 : va_W) (P : Md → Md → Md → Md → Md → Md → Md → Md → Md → Md → Md → Md → Md → Md → Md → Prop) (hw : qX11_first nb st la ac vw (xs (i + 1)) (xs (i + 2)) (xs (i + 3)) (fun r1 nb1 st1 la1 ac1 vw1 => qX12_first m (xs (i + 1)) (xs (i + 2)) (xs (i + 3)) (fun r2 m1 => r1 = r2 ∧ P nb1 m1 st1 la1 sp ac1 bd sg tp hd vw1 o1 o2 pl pp))) (kk : ∀ (nb1 : Md) (m1 : Md) (st1 : Md) (la1 : Md) (sp1 : Md) (ac1 : Md) (bd1 : Md) (sg1 : Md) (tp1 : Md) (hd1 : Md) (vw1 : Md) (o11 : Md) (o21 : Md) (pl1 : Md) (pp1 : Md), P nb1 m1 st1 la1 sp1 ac1 bd1 sg1 tp1 hd1 vw1 o11 o21 pl1 pp1 → VV X (a + 53) (b + 10240) ([wX11 E h0 a_nb nb1, wX12 E hm a_m m1, wX8 E (a_nb 0) a_st st1, wX2 E (a_st 2) a_la la1, wX7 E (a_st 3) a_sp sp1, wX0 E (a_st 4) a_ac ac1, wX1 E (a_st 5) a_bd bd1, wX6 E (a_st 6) a_sg sg1, wX9 E (a_nb 2) a_tp tp1, wX5 E (a_nb 3) a_hd hd1, wX10 E (a_nb 4) a_vw vw1, wX5 E (a_vw 6) a_o1 o11, wX5 E (a_vw 7) a_o2 o21, wX4 E (a_nb 5) a_pl pl1, wX3 E (a_nb 6) a_pp pp1, i0, i1, i2].flatten) [(0, .ref bb), (1, .ref h0), (2, .ref hm), (3, .int (nI i))] 1578 []) : VV X a b ([wX11 E h0 a_nb nb, wX12 E hm a_m m, wX8 E (a_nb 0) a_st st, wX2 E (a_st 2) a_la la, wX7 E (a_st 3) a_sp sp, wX0 E (a_st 4) a_ac ac, wX1 E (a_st 5) a_bd bd, wX6 E (a_st 6) a_sg sg, wX9 E (a_nb 2) a_tp tp, wX5 E (a_nb 3) a_hd hd, wX10 E (a_nb 4) a_vw vw, wX5 E (a_vw 6) a_o1 o1, wX5 E (a_vw 7) a_o2 o2, wX4 E (a_nb 5) a_pl pl, wX3 E (a_nb 6) a_pp pp, i0, i1, i2].flatten) [(0, .ref bb), (1, .ref h0), (2, .ref hm), (3, .int (nI i))] 757 [] := by
  refine v_aload_n C dL_law_757 1 rfl ?_
  refine v_aload_n C dL_law_758 0 rfl ?_
  refine v_iload_n C dL_law_759 3 rfl ?_
  refine v_iconst (v := 1) C dL_law_760 (by decide) ?_
  refine v_iadd C dL_law_761 ?_
  refine v_sld (j := i + 1) C hL (nI_add i 1) (by omega) hL2 dL_law_762 ?_
  refine v_aload_n C dL_law_763 0 rfl ?_
  refine v_iload_n C dL_law_764 3 rfl ?_
  refine v_iconst (v := 2) C dL_law_765 (by decide) ?_
  refine v_iadd C dL_law_766 ?_
  refine v_sld (j := i + 2) C hL (nI_add i 2) (by omega) hL2 dL_law_767 ?_
  refine v_aload_n C dL_law_768 0 rfl ?_
  refine v_iload_n C dL_law_769 3 rfl ?_
  refine v_iconst (v := 3) C dL_law_770 (by decide) ?_
  refine v_iadd C dL_law_771 ?_
  refine v_sld (j := i + 3) C hL (nI_add i 3) (by omega) hL2 dL_law_772 ?_
  refine v_callVMi (st := []) (ci := 11) (qb := 0) C (kX11_first h0 a_nb a_st a_la a_ac a_vw _ _ _ _ _ _ _ _ hw) mL_87 mI_X11 mC_X11_first mN_X11_first mS_X11_first rfl rfl hd_X11_first ⟨Nat.le_of_ble_eq_true rfl, Nat.le_of_ble_eq_true rfl⟩ ⟨by show _ + 0 ≤ 139614; omega, by show _ + 0 ≤ 8683408; omega⟩ [0, 2, 3, 5, 10] [1, 4, 6, 7, 8, 9, 11, 12, 13, 14, 15, 16, 17] (N0 := 18) rfl (by decide) (ms2 := (fun (U : Md × Md × Md × Md × Md) => [wX11 E h0 a_nb U.1, wX12 E hm a_m m, wX8 E (a_nb 0) a_st U.2.1, wX2 E (a_st 2) a_la U.2.2.1, wX7 E (a_st 3) a_sp sp, wX0 E (a_st 4) a_ac U.2.2.2.1, wX1 E (a_st 5) a_bd bd, wX6 E (a_st 6) a_sg sg, wX9 E (a_nb 2) a_tp tp, wX5 E (a_nb 3) a_hd hd, wX10 E (a_nb 4) a_vw U.2.2.2.2, wX5 E (a_vw 6) a_o1 o1, wX5 E (a_vw 7) a_o2 o2, wX4 E (a_nb 5) a_pl pl, wX3 E (a_nb 6) a_pp pp, i0, i1, i2])) rfl (fun _ => rfl) (fun _ => rfl) (fun _ => rfl) rfl (Nat.le_of_ble_eq_true rfl) dL_law_773 (fun r1 U hw => ?_)
  obtain ⟨nb1, st1, la1, ac1, vw1⟩ := U
  refine v_aload_n C dL_law_776 2 rfl ?_
  refine v_aload_n C dL_law_777 0 rfl ?_
  refine v_iload_n C dL_law_778 3 rfl ?_
  refine v_iconst (v := 1) C dL_law_779 (by decide) ?_
  refine v_iadd C dL_law_780 ?_
  refine v_sld (j := i + 1) C hL (nI_add i 1) (by omega) hL2 dL_law_781 ?_
  refine v_aload_n C dL_law_782 0 rfl ?_
  refine v_iload_n C dL_law_783 3 rfl ?_
  refine v_iconst (v := 2) C dL_law_784 (by decide) ?_
  refine v_iadd C dL_law_785 ?_
  refine v_sld (j := i + 2) C hL (nI_add i 2) (by omega) hL2 dL_law_786 ?_
  refine v_aload_n C dL_law_787 0 rfl ?_
  refine v_iload_n C dL_law_788 3 rfl ?_
  refine v_iconst (v := 3) C dL_law_789 (by decide) ?_
  refine v_iadd C dL_law_790 ?_
  refine v_sld (j := i + 3) C hL (nI_add i 3) (by omega) hL2 dL_law_791 ?_
  refine v_callVMi (st := [.int r1]) (ci := 12) (qb := 5) C (kX12_first hm a_m _ _ _ _ hw) mL_90 mI_X12 mC_X12_first mN_X12_first mS_X12_first rfl rfl hd_X12_first ⟨Nat.le_of_ble_eq_true rfl, Nat.le_of_ble_eq_true rfl⟩ ⟨by show _ + 0 ≤ 139614; omega, by show _ + 0 ≤ 8683408; omega⟩ [1] [0, 2, 3, 4, 5, 6, 7, 8, 9, 10, 11, 12, 13, 14, 15, 16, 17] (N0 := 18) rfl (by decide) (ms2 := (fun (U : Md) => [wX11 E h0 a_nb nb1, wX12 E hm a_m U, wX8 E (a_nb 0) a_st st1, wX2 E (a_st 2) a_la la1, wX7 E (a_st 3) a_sp sp, wX0 E (a_st 4) a_ac ac1, wX1 E (a_st 5) a_bd bd, wX6 E (a_st 6) a_sg sg, wX9 E (a_nb 2) a_tp tp, wX5 E (a_nb 3) a_hd hd, wX10 E (a_nb 4) a_vw vw1, wX5 E (a_vw 6) a_o1 o1, wX5 E (a_vw 7) a_o2 o2, wX4 E (a_nb 5) a_pl pl, wX3 E (a_nb 6) a_pp pp, i0, i1, i2])) rfl (fun _ => rfl) (fun _ => rfl) (fun _ => rfl) rfl (Nat.le_of_ble_eq_true rfl) dL_law_792 (fun r2 m1 hw => ?_)
  obtain ⟨he, hw⟩ := hw
  refine v_icmp_eq (tgt := 1578) C dL_law_795 (by decide) (fun _ => ?_) (fun hc => absurd he hc)
  refine v_widen (a' := a + 53) (b' := b + 10240) C (by omega) (by omega) ?_
  exact kk nb1 m1 st1 la1 sp ac1 bd sg tp hd vw1 o1 o2 pl pp hw
set_option maxHeartbeats 4000000 in
set_option maxRecDepth 100000 in
theorem lawc_18 {X : VX} {E : VE} {l : Launch} {bb L : Nat} {xs : Nat → Int32} (C : VC X code 4 R_law room_1 E l) (hL : LWX X bb L xs) (hL2 : L ≤ 3072) (i : Nat) (hi : i + 6 ≤ L) {a b : Nat} (hab : a + 53 ≤ 139614 ∧ b + 10240 ≤ 8683408) (h0 hm : Nat) (a_nb : Nat → Nat) (a_m : Nat → Nat) (a_st : Nat → Nat) (a_la : Nat → Nat) (a_sp : Nat → Nat) (a_ac : Nat → Nat) (a_bd : Nat → Nat) (a_sg : Nat → Nat) (a_tp : Nat → Nat) (a_hd : Nat → Nat) (a_vw : Nat → Nat) (a_o1 : Nat → Nat) (a_o2 : Nat → Nat) (a_pl : Nat → Nat) (a_pp : Nat → Nat) (nb : Md) (m : Md) (st : Md) (la : Md) (sp : Md) (ac : Md) (bd : Md) (sg : Md) (tp : Md) (hd : Md) (vw : Md) (o1 : Md) (o2 : Md) (pl : Md) (pp : Md) (i0 i1 i2 : va_W) (P : Md → Md → Md → Md → Md → Md → Md → Md → Md → Md → Md → Md → Md → Md → Md → Prop) (hw : qX11_beside nb st la ac vw (xs (i + 1)) (xs (i + 2)) (xs (i + 3)) (fun r1 nb1 st1 la1 ac1 vw1 => qX12_beside m (xs (i + 1)) (xs (i + 2)) (xs (i + 3)) (fun r2 m1 => r1 = r2 ∧ P nb1 m1 st1 la1 sp ac1 bd sg tp hd vw1 o1 o2 pl pp))) (kk : ∀ (nb1 : Md) (m1 : Md) (st1 : Md) (la1 : Md) (sp1 : Md) (ac1 : Md) (bd1 : Md) (sg1 : Md) (tp1 : Md) (hd1 : Md) (vw1 : Md) (o11 : Md) (o21 : Md) (pl1 : Md) (pp1 : Md), P nb1 m1 st1 la1 sp1 ac1 bd1 sg1 tp1 hd1 vw1 o11 o21 pl1 pp1 → VV X (a + 53) (b + 10240) ([wX11 E h0 a_nb nb1, wX12 E hm a_m m1, wX8 E (a_nb 0) a_st st1, wX2 E (a_st 2) a_la la1, wX7 E (a_st 3) a_sp sp1, wX0 E (a_st 4) a_ac ac1, wX1 E (a_st 5) a_bd bd1, wX6 E (a_st 6) a_sg sg1, wX9 E (a_nb 2) a_tp tp1, wX5 E (a_nb 3) a_hd hd1, wX10 E (a_nb 4) a_vw vw1, wX5 E (a_vw 6) a_o1 o11, wX5 E (a_vw 7) a_o2 o21, wX4 E (a_nb 5) a_pl pl1, wX3 E (a_nb 6) a_pp pp1, i0, i1, i2].flatten) [(0, .ref bb), (1, .ref h0), (2, .ref hm), (3, .int (nI i))] 1578 []) : VV X a b ([wX11 E h0 a_nb nb, wX12 E hm a_m m, wX8 E (a_nb 0) a_st st, wX2 E (a_st 2) a_la la, wX7 E (a_st 3) a_sp sp, wX0 E (a_st 4) a_ac ac, wX1 E (a_st 5) a_bd bd, wX6 E (a_st 6) a_sg sg, wX9 E (a_nb 2) a_tp tp, wX5 E (a_nb 3) a_hd hd, wX10 E (a_nb 4) a_vw vw, wX5 E (a_vw 6) a_o1 o1, wX5 E (a_vw 7) a_o2 o2, wX4 E (a_nb 5) a_pl pl, wX3 E (a_nb 6) a_pp pp, i0, i1, i2].flatten) [(0, .ref bb), (1, .ref h0), (2, .ref hm), (3, .int (nI i))] 800 [] := by
  refine v_aload_n C dL_law_800 1 rfl ?_
  refine v_aload_n C dL_law_801 0 rfl ?_
  refine v_iload_n C dL_law_802 3 rfl ?_
  refine v_iconst (v := 1) C dL_law_803 (by decide) ?_
  refine v_iadd C dL_law_804 ?_
  refine v_sld (j := i + 1) C hL (nI_add i 1) (by omega) hL2 dL_law_805 ?_
  refine v_aload_n C dL_law_806 0 rfl ?_
  refine v_iload_n C dL_law_807 3 rfl ?_
  refine v_iconst (v := 2) C dL_law_808 (by decide) ?_
  refine v_iadd C dL_law_809 ?_
  refine v_sld (j := i + 2) C hL (nI_add i 2) (by omega) hL2 dL_law_810 ?_
  refine v_aload_n C dL_law_811 0 rfl ?_
  refine v_iload_n C dL_law_812 3 rfl ?_
  refine v_iconst (v := 3) C dL_law_813 (by decide) ?_
  refine v_iadd C dL_law_814 ?_
  refine v_sld (j := i + 3) C hL (nI_add i 3) (by omega) hL2 dL_law_815 ?_
  refine v_callVMi (st := []) (ci := 11) (qb := 0) C (kX11_beside h0 a_nb a_st a_la a_ac a_vw _ _ _ _ _ _ _ _ hw) mL_91 mI_X11 mC_X11_beside mN_X11_beside mS_X11_beside rfl rfl hd_X11_beside ⟨Nat.le_of_ble_eq_true rfl, Nat.le_of_ble_eq_true rfl⟩ ⟨by show _ + 0 ≤ 139614; omega, by show _ + 0 ≤ 8683408; omega⟩ [0, 2, 3, 5, 10] [1, 4, 6, 7, 8, 9, 11, 12, 13, 14, 15, 16, 17] (N0 := 18) rfl (by decide) (ms2 := (fun (U : Md × Md × Md × Md × Md) => [wX11 E h0 a_nb U.1, wX12 E hm a_m m, wX8 E (a_nb 0) a_st U.2.1, wX2 E (a_st 2) a_la U.2.2.1, wX7 E (a_st 3) a_sp sp, wX0 E (a_st 4) a_ac U.2.2.2.1, wX1 E (a_st 5) a_bd bd, wX6 E (a_st 6) a_sg sg, wX9 E (a_nb 2) a_tp tp, wX5 E (a_nb 3) a_hd hd, wX10 E (a_nb 4) a_vw U.2.2.2.2, wX5 E (a_vw 6) a_o1 o1, wX5 E (a_vw 7) a_o2 o2, wX4 E (a_nb 5) a_pl pl, wX3 E (a_nb 6) a_pp pp, i0, i1, i2])) rfl (fun _ => rfl) (fun _ => rfl) (fun _ => rfl) rfl (Nat.le_of_ble_eq_true rfl) dL_law_816 (fun r1 U hw => ?_)
  obtain ⟨nb1, st1, la1, ac1, vw1⟩ := U
  refine v_aload_n C dL_law_819 2 rfl ?_
  refine v_aload_n C dL_law_820 0 rfl ?_
  refine v_iload_n C dL_law_821 3 rfl ?_
  refine v_iconst (v := 1) C dL_law_822 (by decide) ?_
  refine v_iadd C dL_law_823 ?_
  refine v_sld (j := i + 1) C hL (nI_add i 1) (by omega) hL2 dL_law_824 ?_
  refine v_aload_n C dL_law_825 0 rfl ?_
  refine v_iload_n C dL_law_826 3 rfl ?_
  refine v_iconst (v := 2) C dL_law_827 (by decide) ?_
  refine v_iadd C dL_law_828 ?_
  refine v_sld (j := i + 2) C hL (nI_add i 2) (by omega) hL2 dL_law_829 ?_
  refine v_aload_n C dL_law_830 0 rfl ?_
  refine v_iload_n C dL_law_831 3 rfl ?_
  refine v_iconst (v := 3) C dL_law_832 (by decide) ?_
  refine v_iadd C dL_law_833 ?_
  refine v_sld (j := i + 3) C hL (nI_add i 3) (by omega) hL2 dL_law_834 ?_
  refine v_callVMi (st := [.int r1]) (ci := 12) (qb := 5) C (kX12_beside hm a_m _ _ _ _ hw) mL_94 mI_X12 mC_X12_beside mN_X12_beside mS_X12_beside rfl rfl hd_X12_beside ⟨Nat.le_of_ble_eq_true rfl, Nat.le_of_ble_eq_true rfl⟩ ⟨by show _ + 0 ≤ 139614; omega, by show _ + 0 ≤ 8683408; omega⟩ [1] [0, 2, 3, 4, 5, 6, 7, 8, 9, 10, 11, 12, 13, 14, 15, 16, 17] (N0 := 18) rfl (by decide) (ms2 := (fun (U : Md) => [wX11 E h0 a_nb nb1, wX12 E hm a_m U, wX8 E (a_nb 0) a_st st1, wX2 E (a_st 2) a_la la1, wX7 E (a_st 3) a_sp sp, wX0 E (a_st 4) a_ac ac1, wX1 E (a_st 5) a_bd bd, wX6 E (a_st 6) a_sg sg, wX9 E (a_nb 2) a_tp tp, wX5 E (a_nb 3) a_hd hd, wX10 E (a_nb 4) a_vw vw1, wX5 E (a_vw 6) a_o1 o1, wX5 E (a_vw 7) a_o2 o2, wX4 E (a_nb 5) a_pl pl, wX3 E (a_nb 6) a_pp pp, i0, i1, i2])) rfl (fun _ => rfl) (fun _ => rfl) (fun _ => rfl) rfl (Nat.le_of_ble_eq_true rfl) dL_law_835 (fun r2 m1 hw => ?_)
  obtain ⟨he, hw⟩ := hw
  refine v_icmp_eq (tgt := 1578) C dL_law_838 (by decide) (fun _ => ?_) (fun hc => absurd he hc)
  refine v_widen (a' := a + 53) (b' := b + 10240) C (by omega) (by omega) ?_
  exact kk nb1 m1 st1 la1 sp ac1 bd sg tp hd vw1 o1 o2 pl pp hw
set_option maxHeartbeats 4000000 in
set_option maxRecDepth 100000 in
theorem lawc_19 {X : VX} {E : VE} {l : Launch} {bb L : Nat} {xs : Nat → Int32} (C : VC X code 4 R_law room_1 E l) (hL : LWX X bb L xs) (hL2 : L ≤ 3072) (i : Nat) (hi : i + 6 ≤ L) {a b : Nat} (hab : a + 53 ≤ 139614 ∧ b + 10240 ≤ 8683408) (h0 hm : Nat) (a_nb : Nat → Nat) (a_m : Nat → Nat) (a_st : Nat → Nat) (a_la : Nat → Nat) (a_sp : Nat → Nat) (a_ac : Nat → Nat) (a_bd : Nat → Nat) (a_sg : Nat → Nat) (a_tp : Nat → Nat) (a_hd : Nat → Nat) (a_vw : Nat → Nat) (a_o1 : Nat → Nat) (a_o2 : Nat → Nat) (a_pl : Nat → Nat) (a_pp : Nat → Nat) (nb : Md) (m : Md) (st : Md) (la : Md) (sp : Md) (ac : Md) (bd : Md) (sg : Md) (tp : Md) (hd : Md) (vw : Md) (o1 : Md) (o2 : Md) (pl : Md) (pp : Md) (i0 i1 i2 : va_W) (P : Md → Md → Md → Md → Md → Md → Md → Md → Md → Md → Md → Md → Md → Md → Md → Prop) (hw : qX11_swings nb st la ac vw (xs (i + 1)) (fun r1 nb1 st1 la1 ac1 vw1 => qX12_swings m (xs (i + 1)) (fun r2 m1 => r1 = r2 ∧ P nb1 m1 st1 la1 sp ac1 bd sg tp hd vw1 o1 o2 pl pp))) (kk : ∀ (nb1 : Md) (m1 : Md) (st1 : Md) (la1 : Md) (sp1 : Md) (ac1 : Md) (bd1 : Md) (sg1 : Md) (tp1 : Md) (hd1 : Md) (vw1 : Md) (o11 : Md) (o21 : Md) (pl1 : Md) (pp1 : Md), P nb1 m1 st1 la1 sp1 ac1 bd1 sg1 tp1 hd1 vw1 o11 o21 pl1 pp1 → VV X (a + 53) (b + 10240) ([wX11 E h0 a_nb nb1, wX12 E hm a_m m1, wX8 E (a_nb 0) a_st st1, wX2 E (a_st 2) a_la la1, wX7 E (a_st 3) a_sp sp1, wX0 E (a_st 4) a_ac ac1, wX1 E (a_st 5) a_bd bd1, wX6 E (a_st 6) a_sg sg1, wX9 E (a_nb 2) a_tp tp1, wX5 E (a_nb 3) a_hd hd1, wX10 E (a_nb 4) a_vw vw1, wX5 E (a_vw 6) a_o1 o11, wX5 E (a_vw 7) a_o2 o21, wX4 E (a_nb 5) a_pl pl1, wX3 E (a_nb 6) a_pp pp1, i0, i1, i2].flatten) [(0, .ref bb), (1, .ref h0), (2, .ref hm), (3, .int (nI i))] 1578 []) : VV X a b ([wX11 E h0 a_nb nb, wX12 E hm a_m m, wX8 E (a_nb 0) a_st st, wX2 E (a_st 2) a_la la, wX7 E (a_st 3) a_sp sp, wX0 E (a_st 4) a_ac ac, wX1 E (a_st 5) a_bd bd, wX6 E (a_st 6) a_sg sg, wX9 E (a_nb 2) a_tp tp, wX5 E (a_nb 3) a_hd hd, wX10 E (a_nb 4) a_vw vw, wX5 E (a_vw 6) a_o1 o1, wX5 E (a_vw 7) a_o2 o2, wX4 E (a_nb 5) a_pl pl, wX3 E (a_nb 6) a_pp pp, i0, i1, i2].flatten) [(0, .ref bb), (1, .ref h0), (2, .ref hm), (3, .int (nI i))] 843 [] := by
  refine v_aload_n C dL_law_843 1 rfl ?_
  refine v_aload_n C dL_law_844 0 rfl ?_
  refine v_iload_n C dL_law_845 3 rfl ?_
  refine v_iconst (v := 1) C dL_law_846 (by decide) ?_
  refine v_iadd C dL_law_847 ?_
  refine v_sld (j := i + 1) C hL (nI_add i 1) (by omega) hL2 dL_law_848 ?_
  refine v_callVMi (st := []) (ci := 11) (qb := 0) C (kX11_swings h0 a_nb a_st a_la a_ac a_vw _ _ _ _ _ _ hw) mL_95 mI_X11 mC_X11_swings mN_X11_swings mS_X11_swings rfl rfl hd_X11_swings ⟨Nat.le_of_ble_eq_true rfl, Nat.le_of_ble_eq_true rfl⟩ ⟨by show _ + 0 ≤ 139614; omega, by show _ + 0 ≤ 8683408; omega⟩ [0, 2, 3, 5, 10] [1, 4, 6, 7, 8, 9, 11, 12, 13, 14, 15, 16, 17] (N0 := 18) rfl (by decide) (ms2 := (fun (U : Md × Md × Md × Md × Md) => [wX11 E h0 a_nb U.1, wX12 E hm a_m m, wX8 E (a_nb 0) a_st U.2.1, wX2 E (a_st 2) a_la U.2.2.1, wX7 E (a_st 3) a_sp sp, wX0 E (a_st 4) a_ac U.2.2.2.1, wX1 E (a_st 5) a_bd bd, wX6 E (a_st 6) a_sg sg, wX9 E (a_nb 2) a_tp tp, wX5 E (a_nb 3) a_hd hd, wX10 E (a_nb 4) a_vw U.2.2.2.2, wX5 E (a_vw 6) a_o1 o1, wX5 E (a_vw 7) a_o2 o2, wX4 E (a_nb 5) a_pl pl, wX3 E (a_nb 6) a_pp pp, i0, i1, i2])) rfl (fun _ => rfl) (fun _ => rfl) (fun _ => rfl) rfl (Nat.le_of_ble_eq_true rfl) dL_law_849 (fun r1 U hw => ?_)
  obtain ⟨nb1, st1, la1, ac1, vw1⟩ := U
  refine v_aload_n C dL_law_852 2 rfl ?_
  refine v_aload_n C dL_law_853 0 rfl ?_
  refine v_iload_n C dL_law_854 3 rfl ?_
  refine v_iconst (v := 1) C dL_law_855 (by decide) ?_
  refine v_iadd C dL_law_856 ?_
  refine v_sld (j := i + 1) C hL (nI_add i 1) (by omega) hL2 dL_law_857 ?_
  refine v_callVMi (st := [.int r1]) (ci := 12) (qb := 5) C (kX12_swings hm a_m _ _ hw) mL_98 mI_X12 mC_X12_swings mN_X12_swings mS_X12_swings rfl rfl hd_X12_swings ⟨Nat.le_of_ble_eq_true rfl, Nat.le_of_ble_eq_true rfl⟩ ⟨by show _ + 0 ≤ 139614; omega, by show _ + 0 ≤ 8683408; omega⟩ [1] [0, 2, 3, 4, 5, 6, 7, 8, 9, 10, 11, 12, 13, 14, 15, 16, 17] (N0 := 18) rfl (by decide) (ms2 := (fun (U : Md) => [wX11 E h0 a_nb nb1, wX12 E hm a_m U, wX8 E (a_nb 0) a_st st1, wX2 E (a_st 2) a_la la1, wX7 E (a_st 3) a_sp sp, wX0 E (a_st 4) a_ac ac1, wX1 E (a_st 5) a_bd bd, wX6 E (a_st 6) a_sg sg, wX9 E (a_nb 2) a_tp tp, wX5 E (a_nb 3) a_hd hd, wX10 E (a_nb 4) a_vw vw1, wX5 E (a_vw 6) a_o1 o1, wX5 E (a_vw 7) a_o2 o2, wX4 E (a_nb 5) a_pl pl, wX3 E (a_nb 6) a_pp pp, i0, i1, i2])) rfl (fun _ => rfl) (fun _ => rfl) (fun _ => rfl) rfl (Nat.le_of_ble_eq_true rfl) dL_law_858 (fun r2 m1 hw => ?_)
  obtain ⟨he, hw⟩ := hw
  refine v_icmp_eq (tgt := 1578) C dL_law_861 (by decide) (fun _ => ?_) (fun hc => absurd he hc)
  refine v_widen (a' := a + 53) (b' := b + 10240) C (by omega) (by omega) ?_
  exact kk nb1 m1 st1 la1 sp ac1 bd sg tp hd vw1 o1 o2 pl pp hw
set_option maxHeartbeats 4000000 in
set_option maxRecDepth 100000 in
theorem lawc_20 {X : VX} {E : VE} {l : Launch} {bb L : Nat} {xs : Nat → Int32} (C : VC X code 4 R_law room_1 E l) (hL : LWX X bb L xs) (hL2 : L ≤ 3072) (i : Nat) (hi : i + 6 ≤ L) {a b : Nat} (hab : a + 53 ≤ 139614 ∧ b + 10240 ≤ 8683408) (h0 hm : Nat) (a_nb : Nat → Nat) (a_m : Nat → Nat) (a_st : Nat → Nat) (a_la : Nat → Nat) (a_sp : Nat → Nat) (a_ac : Nat → Nat) (a_bd : Nat → Nat) (a_sg : Nat → Nat) (a_tp : Nat → Nat) (a_hd : Nat → Nat) (a_vw : Nat → Nat) (a_o1 : Nat → Nat) (a_o2 : Nat → Nat) (a_pl : Nat → Nat) (a_pp : Nat → Nat) (nb : Md) (m : Md) (st : Md) (la : Md) (sp : Md) (ac : Md) (bd : Md) (sg : Md) (tp : Md) (hd : Md) (vw : Md) (o1 : Md) (o2 : Md) (pl : Md) (pp : Md) (i0 i1 i2 : va_W) (P : Md → Md → Md → Md → Md → Md → Md → Md → Md → Md → Md → Md → Md → Md → Md → Prop) (hw : qX11_ask nb st sp bd (xs (i + 1)) (fun r1 nb1 st1 sp1 bd1 => qX12_ask m (xs (i + 1)) (fun r2 m1 => r1 = r2 ∧ P nb1 m1 st1 la sp1 ac bd1 sg tp hd vw o1 o2 pl pp))) (kk : ∀ (nb1 : Md) (m1 : Md) (st1 : Md) (la1 : Md) (sp1 : Md) (ac1 : Md) (bd1 : Md) (sg1 : Md) (tp1 : Md) (hd1 : Md) (vw1 : Md) (o11 : Md) (o21 : Md) (pl1 : Md) (pp1 : Md), P nb1 m1 st1 la1 sp1 ac1 bd1 sg1 tp1 hd1 vw1 o11 o21 pl1 pp1 → VV X (a + 53) (b + 10240) ([wX11 E h0 a_nb nb1, wX12 E hm a_m m1, wX8 E (a_nb 0) a_st st1, wX2 E (a_st 2) a_la la1, wX7 E (a_st 3) a_sp sp1, wX0 E (a_st 4) a_ac ac1, wX1 E (a_st 5) a_bd bd1, wX6 E (a_st 6) a_sg sg1, wX9 E (a_nb 2) a_tp tp1, wX5 E (a_nb 3) a_hd hd1, wX10 E (a_nb 4) a_vw vw1, wX5 E (a_vw 6) a_o1 o11, wX5 E (a_vw 7) a_o2 o21, wX4 E (a_nb 5) a_pl pl1, wX3 E (a_nb 6) a_pp pp1, i0, i1, i2].flatten) [(0, .ref bb), (1, .ref h0), (2, .ref hm), (3, .int (nI i))] 1578 []) : VV X a b ([wX11 E h0 a_nb nb, wX12 E hm a_m m, wX8 E (a_nb 0) a_st st, wX2 E (a_st 2) a_la la, wX7 E (a_st 3) a_sp sp, wX0 E (a_st 4) a_ac ac, wX1 E (a_st 5) a_bd bd, wX6 E (a_st 6) a_sg sg, wX9 E (a_nb 2) a_tp tp, wX5 E (a_nb 3) a_hd hd, wX10 E (a_nb 4) a_vw vw, wX5 E (a_vw 6) a_o1 o1, wX5 E (a_vw 7) a_o2 o2, wX4 E (a_nb 5) a_pl pl, wX3 E (a_nb 6) a_pp pp, i0, i1, i2].flatten) [(0, .ref bb), (1, .ref h0), (2, .ref hm), (3, .int (nI i))] 866 [] := by
  refine v_aload_n C dL_law_866 1 rfl ?_
  refine v_aload_n C dL_law_867 0 rfl ?_
  refine v_iload_n C dL_law_868 3 rfl ?_
  refine v_iconst (v := 1) C dL_law_869 (by decide) ?_
  refine v_iadd C dL_law_870 ?_
  refine v_sld (j := i + 1) C hL (nI_add i 1) (by omega) hL2 dL_law_871 ?_
  refine v_callVMi (st := []) (ci := 11) (qb := 0) C (kX11_ask h0 a_nb a_st a_sp a_bd _ _ _ _ _ hw) mL_99 mI_X11 mC_X11_ask mN_X11_ask mS_X11_ask rfl rfl hd_X11_ask ⟨Nat.le_of_ble_eq_true rfl, Nat.le_of_ble_eq_true rfl⟩ ⟨by show _ + 0 ≤ 139614; omega, by show _ + 0 ≤ 8683408; omega⟩ [0, 2, 4, 6] [1, 3, 5, 7, 8, 9, 10, 11, 12, 13, 14, 15, 16, 17] (N0 := 18) rfl (by decide) (ms2 := (fun (U : Md × Md × Md × Md) => [wX11 E h0 a_nb U.1, wX12 E hm a_m m, wX8 E (a_nb 0) a_st U.2.1, wX2 E (a_st 2) a_la la, wX7 E (a_st 3) a_sp U.2.2.1, wX0 E (a_st 4) a_ac ac, wX1 E (a_st 5) a_bd U.2.2.2, wX6 E (a_st 6) a_sg sg, wX9 E (a_nb 2) a_tp tp, wX5 E (a_nb 3) a_hd hd, wX10 E (a_nb 4) a_vw vw, wX5 E (a_vw 6) a_o1 o1, wX5 E (a_vw 7) a_o2 o2, wX4 E (a_nb 5) a_pl pl, wX3 E (a_nb 6) a_pp pp, i0, i1, i2])) rfl (fun _ => rfl) (fun _ => rfl) (fun _ => rfl) rfl (Nat.le_of_ble_eq_true rfl) dL_law_872 (fun r1 U hw => ?_)
  obtain ⟨nb1, st1, sp1, bd1⟩ := U
  refine v_aload_n C dL_law_875 2 rfl ?_
  refine v_aload_n C dL_law_876 0 rfl ?_
  refine v_iload_n C dL_law_877 3 rfl ?_
  refine v_iconst (v := 1) C dL_law_878 (by decide) ?_
  refine v_iadd C dL_law_879 ?_
  refine v_sld (j := i + 1) C hL (nI_add i 1) (by omega) hL2 dL_law_880 ?_
  refine v_callVMi (st := [.int r1]) (ci := 12) (qb := 5) C (kX12_ask hm a_m _ _ hw) mL_102 mI_X12 mC_X12_ask mN_X12_ask mS_X12_ask rfl rfl hd_X12_ask ⟨Nat.le_of_ble_eq_true rfl, Nat.le_of_ble_eq_true rfl⟩ ⟨by show _ + 0 ≤ 139614; omega, by show _ + 0 ≤ 8683408; omega⟩ [1] [0, 2, 3, 4, 5, 6, 7, 8, 9, 10, 11, 12, 13, 14, 15, 16, 17] (N0 := 18) rfl (by decide) (ms2 := (fun (U : Md) => [wX11 E h0 a_nb nb1, wX12 E hm a_m U, wX8 E (a_nb 0) a_st st1, wX2 E (a_st 2) a_la la, wX7 E (a_st 3) a_sp sp1, wX0 E (a_st 4) a_ac ac, wX1 E (a_st 5) a_bd bd1, wX6 E (a_st 6) a_sg sg, wX9 E (a_nb 2) a_tp tp, wX5 E (a_nb 3) a_hd hd, wX10 E (a_nb 4) a_vw vw, wX5 E (a_vw 6) a_o1 o1, wX5 E (a_vw 7) a_o2 o2, wX4 E (a_nb 5) a_pl pl, wX3 E (a_nb 6) a_pp pp, i0, i1, i2])) rfl (fun _ => rfl) (fun _ => rfl) (fun _ => rfl) rfl (Nat.le_of_ble_eq_true rfl) dL_law_881 (fun r2 m1 hw => ?_)
  obtain ⟨he, hw⟩ := hw
  refine v_icmp_eq (tgt := 1578) C dL_law_884 (by decide) (fun _ => ?_) (fun hc => absurd he hc)
  refine v_widen (a' := a + 53) (b' := b + 10240) C (by omega) (by omega) ?_
  exact kk nb1 m1 st1 la sp1 ac bd1 sg tp hd vw o1 o2 pl pp hw
set_option maxHeartbeats 4000000 in
set_option maxRecDepth 100000 in
theorem lawc_21 {X : VX} {E : VE} {l : Launch} {bb L : Nat} {xs : Nat → Int32} (C : VC X code 4 R_law room_1 E l) (hL : LWX X bb L xs) (hL2 : L ≤ 3072) (i : Nat) (hi : i + 6 ≤ L) {a b : Nat} (hab : a + 53 ≤ 139614 ∧ b + 10240 ≤ 8683408) (h0 hm : Nat) (a_nb : Nat → Nat) (a_m : Nat → Nat) (a_st : Nat → Nat) (a_la : Nat → Nat) (a_sp : Nat → Nat) (a_ac : Nat → Nat) (a_bd : Nat → Nat) (a_sg : Nat → Nat) (a_tp : Nat → Nat) (a_hd : Nat → Nat) (a_vw : Nat → Nat) (a_o1 : Nat → Nat) (a_o2 : Nat → Nat) (a_pl : Nat → Nat) (a_pp : Nat → Nat) (nb : Md) (m : Md) (st : Md) (la : Md) (sp : Md) (ac : Md) (bd : Md) (sg : Md) (tp : Md) (hd : Md) (vw : Md) (o1 : Md) (o2 : Md) (pl : Md) (pp : Md) (i0 i1 i2 : va_W) (P : Md → Md → Md → Md → Md → Md → Md → Md → Md → Md → Md → Md → Md → Md → Md → Prop) (hw : qX11_vote nb st bd (xs (i + 1)) (xs (i + 2)) ((if xs (i + 3) = 0 then 0 else 1)) (fun r1 nb1 st1 bd1 => qX12_vote m (xs (i + 1)) (xs (i + 2)) ((if xs (i + 3) = 0 then 0 else 1)) (fun r2 m1 => r1 = r2 ∧ P nb1 m1 st1 la sp ac bd1 sg tp hd vw o1 o2 pl pp))) (kk : ∀ (nb1 : Md) (m1 : Md) (st1 : Md) (la1 : Md) (sp1 : Md) (ac1 : Md) (bd1 : Md) (sg1 : Md) (tp1 : Md) (hd1 : Md) (vw1 : Md) (o11 : Md) (o21 : Md) (pl1 : Md) (pp1 : Md), P nb1 m1 st1 la1 sp1 ac1 bd1 sg1 tp1 hd1 vw1 o11 o21 pl1 pp1 → VV X (a + 53) (b + 10240) ([wX11 E h0 a_nb nb1, wX12 E hm a_m m1, wX8 E (a_nb 0) a_st st1, wX2 E (a_st 2) a_la la1, wX7 E (a_st 3) a_sp sp1, wX0 E (a_st 4) a_ac ac1, wX1 E (a_st 5) a_bd bd1, wX6 E (a_st 6) a_sg sg1, wX9 E (a_nb 2) a_tp tp1, wX5 E (a_nb 3) a_hd hd1, wX10 E (a_nb 4) a_vw vw1, wX5 E (a_vw 6) a_o1 o11, wX5 E (a_vw 7) a_o2 o21, wX4 E (a_nb 5) a_pl pl1, wX3 E (a_nb 6) a_pp pp1, i0, i1, i2].flatten) [(0, .ref bb), (1, .ref h0), (2, .ref hm), (3, .int (nI i))] 1578 []) : VV X a b ([wX11 E h0 a_nb nb, wX12 E hm a_m m, wX8 E (a_nb 0) a_st st, wX2 E (a_st 2) a_la la, wX7 E (a_st 3) a_sp sp, wX0 E (a_st 4) a_ac ac, wX1 E (a_st 5) a_bd bd, wX6 E (a_st 6) a_sg sg, wX9 E (a_nb 2) a_tp tp, wX5 E (a_nb 3) a_hd hd, wX10 E (a_nb 4) a_vw vw, wX5 E (a_vw 6) a_o1 o1, wX5 E (a_vw 7) a_o2 o2, wX4 E (a_nb 5) a_pl pl, wX3 E (a_nb 6) a_pp pp, i0, i1, i2].flatten) [(0, .ref bb), (1, .ref h0), (2, .ref hm), (3, .int (nI i))] 889 [] := by
  refine v_aload_n C dL_law_889 1 rfl ?_
  refine v_aload_n C dL_law_890 0 rfl ?_
  refine v_iload_n C dL_law_891 3 rfl ?_
  refine v_iconst (v := 1) C dL_law_892 (by decide) ?_
  refine v_iadd C dL_law_893 ?_
  refine v_sld (j := i + 1) C hL (nI_add i 1) (by omega) hL2 dL_law_894 ?_
  refine v_aload_n C dL_law_895 0 rfl ?_
  refine v_iload_n C dL_law_896 3 rfl ?_
  refine v_iconst (v := 2) C dL_law_897 (by decide) ?_
  refine v_iadd C dL_law_898 ?_
  refine v_sld (j := i + 2) C hL (nI_add i 2) (by omega) hL2 dL_law_899 ?_
  refine v_aload_n C dL_law_900 0 rfl ?_
  refine v_iload_n C dL_law_901 3 rfl ?_
  refine v_iconst (v := 3) C dL_law_902 (by decide) ?_
  refine v_iadd C dL_law_903 ?_
  refine v_sld (j := i + 3) C hL (nI_add i 3) (by omega) hL2 dL_law_904 ?_
  refine v_if_eq (tgt := 912) C dL_law_905 (by decide) (fun hz905 => ?_) (fun hz905 => ?_)
  · rw [if_pos hz905] at hw
    refine v_iconst (v := 0) C dL_law_912 (by decide) ?_
    refine v_callVMi (st := []) (ci := 11) (qb := 0) C (kX11_vote h0 a_nb a_st a_bd _ _ _ _ _ _ hw) mL_103 mI_X11 mC_X11_vote mN_X11_vote mS_X11_vote rfl rfl hd_X11_vote ⟨Nat.le_of_ble_eq_true rfl, Nat.le_of_ble_eq_true rfl⟩ ⟨by show _ + 0 ≤ 139614; omega, by show _ + 0 ≤ 8683408; omega⟩ [0, 2, 6] [1, 3, 4, 5, 7, 8, 9, 10, 11, 12, 13, 14, 15, 16, 17] (N0 := 18) rfl (by decide) (ms2 := (fun (U : Md × Md × Md) => [wX11 E h0 a_nb U.1, wX12 E hm a_m m, wX8 E (a_nb 0) a_st U.2.1, wX2 E (a_st 2) a_la la, wX7 E (a_st 3) a_sp sp, wX0 E (a_st 4) a_ac ac, wX1 E (a_st 5) a_bd U.2.2, wX6 E (a_st 6) a_sg sg, wX9 E (a_nb 2) a_tp tp, wX5 E (a_nb 3) a_hd hd, wX10 E (a_nb 4) a_vw vw, wX5 E (a_vw 6) a_o1 o1, wX5 E (a_vw 7) a_o2 o2, wX4 E (a_nb 5) a_pl pl, wX3 E (a_nb 6) a_pp pp, i0, i1, i2])) rfl (fun _ => rfl) (fun _ => rfl) (fun _ => rfl) rfl (Nat.le_of_ble_eq_true rfl) dL_law_913 (fun r1 U hw => ?_)
    obtain ⟨nb1, st1, bd1⟩ := U
    refine v_aload_n C dL_law_916 2 rfl ?_
    refine v_aload_n C dL_law_917 0 rfl ?_
    refine v_iload_n C dL_law_918 3 rfl ?_
    refine v_iconst (v := 1) C dL_law_919 (by decide) ?_
    refine v_iadd C dL_law_920 ?_
    refine v_sld (j := i + 1) C hL (nI_add i 1) (by omega) hL2 dL_law_921 ?_
    refine v_aload_n C dL_law_922 0 rfl ?_
    refine v_iload_n C dL_law_923 3 rfl ?_
    refine v_iconst (v := 2) C dL_law_924 (by decide) ?_
    refine v_iadd C dL_law_925 ?_
    refine v_sld (j := i + 2) C hL (nI_add i 2) (by omega) hL2 dL_law_926 ?_
    refine v_aload_n C dL_law_927 0 rfl ?_
    refine v_iload_n C dL_law_928 3 rfl ?_
    refine v_iconst (v := 3) C dL_law_929 (by decide) ?_
    refine v_iadd C dL_law_930 ?_
    refine v_sld (j := i + 3) C hL (nI_add i 3) (by omega) hL2 dL_law_931 ?_
    refine v_if_eq (tgt := 939) C dL_law_932 (by decide) (fun hc => ?_) (fun hc => absurd hz905 hc)
    refine v_iconst (v := 0) C dL_law_939 (by decide) ?_
    refine v_callVMi (st := [.int r1]) (ci := 12) (qb := 5) C (kX12_vote hm a_m _ _ _ _ hw) mL_107 mI_X12 mC_X12_vote mN_X12_vote mS_X12_vote rfl rfl hd_X12_vote ⟨Nat.le_of_ble_eq_true rfl, Nat.le_of_ble_eq_true rfl⟩ ⟨by show _ + 0 ≤ 139614; omega, by show _ + 0 ≤ 8683408; omega⟩ [1] [0, 2, 3, 4, 5, 6, 7, 8, 9, 10, 11, 12, 13, 14, 15, 16, 17] (N0 := 18) rfl (by decide) (ms2 := (fun (U : Md) => [wX11 E h0 a_nb nb1, wX12 E hm a_m U, wX8 E (a_nb 0) a_st st1, wX2 E (a_st 2) a_la la, wX7 E (a_st 3) a_sp sp, wX0 E (a_st 4) a_ac ac, wX1 E (a_st 5) a_bd bd1, wX6 E (a_st 6) a_sg sg, wX9 E (a_nb 2) a_tp tp, wX5 E (a_nb 3) a_hd hd, wX10 E (a_nb 4) a_vw vw, wX5 E (a_vw 6) a_o1 o1, wX5 E (a_vw 7) a_o2 o2, wX4 E (a_nb 5) a_pl pl, wX3 E (a_nb 6) a_pp pp, i0, i1, i2])) rfl (fun _ => rfl) (fun _ => rfl) (fun _ => rfl) rfl (Nat.le_of_ble_eq_true rfl) dL_law_940 (fun r2 m1 hw => ?_)
    obtain ⟨he, hw⟩ := hw
    refine v_icmp_eq (tgt := 1578) C dL_law_943 (by decide) (fun _ => ?_) (fun hc => absurd he hc)
    refine v_widen (a' := a + 53) (b' := b + 10240) C (by omega) (by omega) ?_
    exact kk nb1 m1 st1 la sp ac bd1 sg tp hd vw o1 o2 pl pp hw
  · rw [if_neg hz905] at hw
    refine v_iconst (v := 1) C dL_law_908 (by decide) ?_
    refine v_goto (tgt := 913) C dL_law_909 (by decide) ?_
    refine v_callVMi (st := []) (ci := 11) (qb := 0) C (kX11_vote h0 a_nb a_st a_bd _ _ _ _ _ _ hw) mL_103 mI_X11 mC_X11_vote mN_X11_vote mS_X11_vote rfl rfl hd_X11_vote ⟨Nat.le_of_ble_eq_true rfl, Nat.le_of_ble_eq_true rfl⟩ ⟨by show _ + 0 ≤ 139614; omega, by show _ + 0 ≤ 8683408; omega⟩ [0, 2, 6] [1, 3, 4, 5, 7, 8, 9, 10, 11, 12, 13, 14, 15, 16, 17] (N0 := 18) rfl (by decide) (ms2 := (fun (U : Md × Md × Md) => [wX11 E h0 a_nb U.1, wX12 E hm a_m m, wX8 E (a_nb 0) a_st U.2.1, wX2 E (a_st 2) a_la la, wX7 E (a_st 3) a_sp sp, wX0 E (a_st 4) a_ac ac, wX1 E (a_st 5) a_bd U.2.2, wX6 E (a_st 6) a_sg sg, wX9 E (a_nb 2) a_tp tp, wX5 E (a_nb 3) a_hd hd, wX10 E (a_nb 4) a_vw vw, wX5 E (a_vw 6) a_o1 o1, wX5 E (a_vw 7) a_o2 o2, wX4 E (a_nb 5) a_pl pl, wX3 E (a_nb 6) a_pp pp, i0, i1, i2])) rfl (fun _ => rfl) (fun _ => rfl) (fun _ => rfl) rfl (Nat.le_of_ble_eq_true rfl) dL_law_913 (fun r1 U hw => ?_)
    obtain ⟨nb1, st1, bd1⟩ := U
    refine v_aload_n C dL_law_916 2 rfl ?_
    refine v_aload_n C dL_law_917 0 rfl ?_
    refine v_iload_n C dL_law_918 3 rfl ?_
    refine v_iconst (v := 1) C dL_law_919 (by decide) ?_
    refine v_iadd C dL_law_920 ?_
    refine v_sld (j := i + 1) C hL (nI_add i 1) (by omega) hL2 dL_law_921 ?_
    refine v_aload_n C dL_law_922 0 rfl ?_
    refine v_iload_n C dL_law_923 3 rfl ?_
    refine v_iconst (v := 2) C dL_law_924 (by decide) ?_
    refine v_iadd C dL_law_925 ?_
    refine v_sld (j := i + 2) C hL (nI_add i 2) (by omega) hL2 dL_law_926 ?_
    refine v_aload_n C dL_law_927 0 rfl ?_
    refine v_iload_n C dL_law_928 3 rfl ?_
    refine v_iconst (v := 3) C dL_law_929 (by decide) ?_
    refine v_iadd C dL_law_930 ?_
    refine v_sld (j := i + 3) C hL (nI_add i 3) (by omega) hL2 dL_law_931 ?_
    refine v_if_eq (tgt := 939) C dL_law_932 (by decide) (fun hc => absurd hc hz905) (fun hc => ?_)
    refine v_iconst (v := 1) C dL_law_935 (by decide) ?_
    refine v_goto (tgt := 940) C dL_law_936 (by decide) ?_
    refine v_callVMi (st := [.int r1]) (ci := 12) (qb := 5) C (kX12_vote hm a_m _ _ _ _ hw) mL_107 mI_X12 mC_X12_vote mN_X12_vote mS_X12_vote rfl rfl hd_X12_vote ⟨Nat.le_of_ble_eq_true rfl, Nat.le_of_ble_eq_true rfl⟩ ⟨by show _ + 0 ≤ 139614; omega, by show _ + 0 ≤ 8683408; omega⟩ [1] [0, 2, 3, 4, 5, 6, 7, 8, 9, 10, 11, 12, 13, 14, 15, 16, 17] (N0 := 18) rfl (by decide) (ms2 := (fun (U : Md) => [wX11 E h0 a_nb nb1, wX12 E hm a_m U, wX8 E (a_nb 0) a_st st1, wX2 E (a_st 2) a_la la, wX7 E (a_st 3) a_sp sp, wX0 E (a_st 4) a_ac ac, wX1 E (a_st 5) a_bd bd1, wX6 E (a_st 6) a_sg sg, wX9 E (a_nb 2) a_tp tp, wX5 E (a_nb 3) a_hd hd, wX10 E (a_nb 4) a_vw vw, wX5 E (a_vw 6) a_o1 o1, wX5 E (a_vw 7) a_o2 o2, wX4 E (a_nb 5) a_pl pl, wX3 E (a_nb 6) a_pp pp, i0, i1, i2])) rfl (fun _ => rfl) (fun _ => rfl) (fun _ => rfl) rfl (Nat.le_of_ble_eq_true rfl) dL_law_940 (fun r2 m1 hw => ?_)
    obtain ⟨he, hw⟩ := hw
    refine v_icmp_eq (tgt := 1578) C dL_law_943 (by decide) (fun _ => ?_) (fun hc => absurd he hc)
    refine v_widen (a' := a + 53) (b' := b + 10240) C (by omega) (by omega) ?_
    exact kk nb1 m1 st1 la sp ac bd1 sg tp hd vw o1 o2 pl pp hw
set_option maxHeartbeats 4000000 in
set_option maxRecDepth 100000 in
theorem lawc_22 {X : VX} {E : VE} {l : Launch} {bb L : Nat} {xs : Nat → Int32} (C : VC X code 4 R_law room_1 E l) (hL : LWX X bb L xs) (hL2 : L ≤ 3072) (i : Nat) (hi : i + 6 ≤ L) {a b : Nat} (hab : a + 53 ≤ 139614 ∧ b + 10240 ≤ 8683408) (h0 hm : Nat) (a_nb : Nat → Nat) (a_m : Nat → Nat) (a_st : Nat → Nat) (a_la : Nat → Nat) (a_sp : Nat → Nat) (a_ac : Nat → Nat) (a_bd : Nat → Nat) (a_sg : Nat → Nat) (a_tp : Nat → Nat) (a_hd : Nat → Nat) (a_vw : Nat → Nat) (a_o1 : Nat → Nat) (a_o2 : Nat → Nat) (a_pl : Nat → Nat) (a_pp : Nat → Nat) (nb : Md) (m : Md) (st : Md) (la : Md) (sp : Md) (ac : Md) (bd : Md) (sg : Md) (tp : Md) (hd : Md) (vw : Md) (o1 : Md) (o2 : Md) (pl : Md) (pp : Md) (i0 i1 i2 : va_W) (P : Md → Md → Md → Md → Md → Md → Md → Md → Md → Md → Md → Md → Md → Md → Md → Prop) (hw : qX11_close nb st la sp ac bd vw o1 o2 (xs (i + 1)) (fun r1 nb1 st1 la1 sp1 ac1 bd1 vw1 o11 o21 => qX12_close m (xs (i + 1)) (fun r2 m1 => r1 = r2 ∧ P nb1 m1 st1 la1 sp1 ac1 bd1 sg tp hd vw1 o11 o21 pl pp))) (kk : ∀ (nb1 : Md) (m1 : Md) (st1 : Md) (la1 : Md) (sp1 : Md) (ac1 : Md) (bd1 : Md) (sg1 : Md) (tp1 : Md) (hd1 : Md) (vw1 : Md) (o11 : Md) (o21 : Md) (pl1 : Md) (pp1 : Md), P nb1 m1 st1 la1 sp1 ac1 bd1 sg1 tp1 hd1 vw1 o11 o21 pl1 pp1 → VV X (a + 53) (b + 10240) ([wX11 E h0 a_nb nb1, wX12 E hm a_m m1, wX8 E (a_nb 0) a_st st1, wX2 E (a_st 2) a_la la1, wX7 E (a_st 3) a_sp sp1, wX0 E (a_st 4) a_ac ac1, wX1 E (a_st 5) a_bd bd1, wX6 E (a_st 6) a_sg sg1, wX9 E (a_nb 2) a_tp tp1, wX5 E (a_nb 3) a_hd hd1, wX10 E (a_nb 4) a_vw vw1, wX5 E (a_vw 6) a_o1 o11, wX5 E (a_vw 7) a_o2 o21, wX4 E (a_nb 5) a_pl pl1, wX3 E (a_nb 6) a_pp pp1, i0, i1, i2].flatten) [(0, .ref bb), (1, .ref h0), (2, .ref hm), (3, .int (nI i))] 1578 []) : VV X a b ([wX11 E h0 a_nb nb, wX12 E hm a_m m, wX8 E (a_nb 0) a_st st, wX2 E (a_st 2) a_la la, wX7 E (a_st 3) a_sp sp, wX0 E (a_st 4) a_ac ac, wX1 E (a_st 5) a_bd bd, wX6 E (a_st 6) a_sg sg, wX9 E (a_nb 2) a_tp tp, wX5 E (a_nb 3) a_hd hd, wX10 E (a_nb 4) a_vw vw, wX5 E (a_vw 6) a_o1 o1, wX5 E (a_vw 7) a_o2 o2, wX4 E (a_nb 5) a_pl pl, wX3 E (a_nb 6) a_pp pp, i0, i1, i2].flatten) [(0, .ref bb), (1, .ref h0), (2, .ref hm), (3, .int (nI i))] 948 [] := by
  refine v_aload_n C dL_law_948 1 rfl ?_
  refine v_aload_n C dL_law_949 0 rfl ?_
  refine v_iload_n C dL_law_950 3 rfl ?_
  refine v_iconst (v := 1) C dL_law_951 (by decide) ?_
  refine v_iadd C dL_law_952 ?_
  refine v_sld (j := i + 1) C hL (nI_add i 1) (by omega) hL2 dL_law_953 ?_
  refine v_callVMi (st := []) (ci := 11) (qb := 0) C (kX11_close h0 a_nb a_st a_la a_sp a_ac a_bd a_vw a_o1 a_o2 _ _ _ _ _ _ _ _ _ _ hw) mL_108 mI_X11 mC_X11_close mN_X11_close mS_X11_close rfl rfl hd_X11_close ⟨Nat.le_of_ble_eq_true rfl, Nat.le_of_ble_eq_true rfl⟩ ⟨by show _ + 0 ≤ 139614; omega, by show _ + 0 ≤ 8683408; omega⟩ [0, 2, 3, 4, 5, 6, 10, 11, 12] [1, 7, 8, 9, 13, 14, 15, 16, 17] (N0 := 18) rfl (by decide) (ms2 := (fun (U : Md × Md × Md × Md × Md × Md × Md × Md × Md) => [wX11 E h0 a_nb U.1, wX12 E hm a_m m, wX8 E (a_nb 0) a_st U.2.1, wX2 E (a_st 2) a_la U.2.2.1, wX7 E (a_st 3) a_sp U.2.2.2.1, wX0 E (a_st 4) a_ac U.2.2.2.2.1, wX1 E (a_st 5) a_bd U.2.2.2.2.2.1, wX6 E (a_st 6) a_sg sg, wX9 E (a_nb 2) a_tp tp, wX5 E (a_nb 3) a_hd hd, wX10 E (a_nb 4) a_vw U.2.2.2.2.2.2.1, wX5 E (a_vw 6) a_o1 U.2.2.2.2.2.2.2.1, wX5 E (a_vw 7) a_o2 U.2.2.2.2.2.2.2.2, wX4 E (a_nb 5) a_pl pl, wX3 E (a_nb 6) a_pp pp, i0, i1, i2])) rfl (fun _ => rfl) (fun _ => rfl) (fun _ => rfl) rfl (Nat.le_of_ble_eq_true rfl) dL_law_954 (fun r1 U hw => ?_)
  obtain ⟨nb1, st1, la1, sp1, ac1, bd1, vw1, o11, o21⟩ := U
  refine v_aload_n C dL_law_957 2 rfl ?_
  refine v_aload_n C dL_law_958 0 rfl ?_
  refine v_iload_n C dL_law_959 3 rfl ?_
  refine v_iconst (v := 1) C dL_law_960 (by decide) ?_
  refine v_iadd C dL_law_961 ?_
  refine v_sld (j := i + 1) C hL (nI_add i 1) (by omega) hL2 dL_law_962 ?_
  refine v_callVMi (st := [.int r1]) (ci := 12) (qb := 5) C (kX12_close hm a_m _ _ hw) mL_111 mI_X12 mC_X12_close mN_X12_close mS_X12_close rfl rfl hd_X12_close ⟨Nat.le_of_ble_eq_true rfl, Nat.le_of_ble_eq_true rfl⟩ ⟨by show _ + 0 ≤ 139614; omega, by show _ + 0 ≤ 8683408; omega⟩ [1] [0, 2, 3, 4, 5, 6, 7, 8, 9, 10, 11, 12, 13, 14, 15, 16, 17] (N0 := 18) rfl (by decide) (ms2 := (fun (U : Md) => [wX11 E h0 a_nb nb1, wX12 E hm a_m U, wX8 E (a_nb 0) a_st st1, wX2 E (a_st 2) a_la la1, wX7 E (a_st 3) a_sp sp1, wX0 E (a_st 4) a_ac ac1, wX1 E (a_st 5) a_bd bd1, wX6 E (a_st 6) a_sg sg, wX9 E (a_nb 2) a_tp tp, wX5 E (a_nb 3) a_hd hd, wX10 E (a_nb 4) a_vw vw1, wX5 E (a_vw 6) a_o1 o11, wX5 E (a_vw 7) a_o2 o21, wX4 E (a_nb 5) a_pl pl, wX3 E (a_nb 6) a_pp pp, i0, i1, i2])) rfl (fun _ => rfl) (fun _ => rfl) (fun _ => rfl) rfl (Nat.le_of_ble_eq_true rfl) dL_law_963 (fun r2 m1 hw => ?_)
  obtain ⟨he, hw⟩ := hw
  refine v_icmp_eq (tgt := 1578) C dL_law_966 (by decide) (fun _ => ?_) (fun hc => absurd he hc)
  refine v_widen (a' := a + 53) (b' := b + 10240) C (by omega) (by omega) ?_
  exact kk nb1 m1 st1 la1 sp1 ac1 bd1 sg tp hd vw1 o11 o21 pl pp hw
set_option maxHeartbeats 4000000 in
set_option maxRecDepth 100000 in
theorem lawc_23 {X : VX} {E : VE} {l : Launch} {bb L : Nat} {xs : Nat → Int32} (C : VC X code 4 R_law room_1 E l) (hL : LWX X bb L xs) (hL2 : L ≤ 3072) (i : Nat) (hi : i + 6 ≤ L) {a b : Nat} (hab : a + 53 ≤ 139614 ∧ b + 10240 ≤ 8683408) (h0 hm : Nat) (a_nb : Nat → Nat) (a_m : Nat → Nat) (a_st : Nat → Nat) (a_la : Nat → Nat) (a_sp : Nat → Nat) (a_ac : Nat → Nat) (a_bd : Nat → Nat) (a_sg : Nat → Nat) (a_tp : Nat → Nat) (a_hd : Nat → Nat) (a_vw : Nat → Nat) (a_o1 : Nat → Nat) (a_o2 : Nat → Nat) (a_pl : Nat → Nat) (a_pp : Nat → Nat) (nb : Md) (m : Md) (st : Md) (la : Md) (sp : Md) (ac : Md) (bd : Md) (sg : Md) (tp : Md) (hd : Md) (vw : Md) (o1 : Md) (o2 : Md) (pl : Md) (pp : Md) (i0 i1 i2 : va_W) (P : Md → Md → Md → Md → Md → Md → Md → Md → Md → Md → Md → Md → Md → Md → Md → Prop) (hw : qX11_settled nb st la bd (xs (i + 1)) (xs (i + 2)) (xs (i + 3)) (xs (i + 4)) (fun r1 nb1 st1 la1 bd1 => qX12_settled m (xs (i + 1)) (xs (i + 2)) (xs (i + 3)) (xs (i + 4)) (fun r2 m1 => r1 = r2 ∧ P nb1 m1 st1 la1 sp ac bd1 sg tp hd vw o1 o2 pl pp))) (kk : ∀ (nb1 : Md) (m1 : Md) (st1 : Md) (la1 : Md) (sp1 : Md) (ac1 : Md) (bd1 : Md) (sg1 : Md) (tp1 : Md) (hd1 : Md) (vw1 : Md) (o11 : Md) (o21 : Md) (pl1 : Md) (pp1 : Md), P nb1 m1 st1 la1 sp1 ac1 bd1 sg1 tp1 hd1 vw1 o11 o21 pl1 pp1 → VV X (a + 53) (b + 10240) ([wX11 E h0 a_nb nb1, wX12 E hm a_m m1, wX8 E (a_nb 0) a_st st1, wX2 E (a_st 2) a_la la1, wX7 E (a_st 3) a_sp sp1, wX0 E (a_st 4) a_ac ac1, wX1 E (a_st 5) a_bd bd1, wX6 E (a_st 6) a_sg sg1, wX9 E (a_nb 2) a_tp tp1, wX5 E (a_nb 3) a_hd hd1, wX10 E (a_nb 4) a_vw vw1, wX5 E (a_vw 6) a_o1 o11, wX5 E (a_vw 7) a_o2 o21, wX4 E (a_nb 5) a_pl pl1, wX3 E (a_nb 6) a_pp pp1, i0, i1, i2].flatten) [(0, .ref bb), (1, .ref h0), (2, .ref hm), (3, .int (nI i))] 1578 []) : VV X a b ([wX11 E h0 a_nb nb, wX12 E hm a_m m, wX8 E (a_nb 0) a_st st, wX2 E (a_st 2) a_la la, wX7 E (a_st 3) a_sp sp, wX0 E (a_st 4) a_ac ac, wX1 E (a_st 5) a_bd bd, wX6 E (a_st 6) a_sg sg, wX9 E (a_nb 2) a_tp tp, wX5 E (a_nb 3) a_hd hd, wX10 E (a_nb 4) a_vw vw, wX5 E (a_vw 6) a_o1 o1, wX5 E (a_vw 7) a_o2 o2, wX4 E (a_nb 5) a_pl pl, wX3 E (a_nb 6) a_pp pp, i0, i1, i2].flatten) [(0, .ref bb), (1, .ref h0), (2, .ref hm), (3, .int (nI i))] 971 [] := by
  refine v_aload_n C dL_law_971 1 rfl ?_
  refine v_aload_n C dL_law_972 0 rfl ?_
  refine v_iload_n C dL_law_973 3 rfl ?_
  refine v_iconst (v := 1) C dL_law_974 (by decide) ?_
  refine v_iadd C dL_law_975 ?_
  refine v_sld (j := i + 1) C hL (nI_add i 1) (by omega) hL2 dL_law_976 ?_
  refine v_aload_n C dL_law_977 0 rfl ?_
  refine v_iload_n C dL_law_978 3 rfl ?_
  refine v_iconst (v := 2) C dL_law_979 (by decide) ?_
  refine v_iadd C dL_law_980 ?_
  refine v_sld (j := i + 2) C hL (nI_add i 2) (by omega) hL2 dL_law_981 ?_
  refine v_aload_n C dL_law_982 0 rfl ?_
  refine v_iload_n C dL_law_983 3 rfl ?_
  refine v_iconst (v := 3) C dL_law_984 (by decide) ?_
  refine v_iadd C dL_law_985 ?_
  refine v_sld (j := i + 3) C hL (nI_add i 3) (by omega) hL2 dL_law_986 ?_
  refine v_aload_n C dL_law_987 0 rfl ?_
  refine v_iload_n C dL_law_988 3 rfl ?_
  refine v_iconst (v := 4) C dL_law_989 (by decide) ?_
  refine v_iadd C dL_law_990 ?_
  refine v_sld (j := i + 4) C hL (nI_add i 4) (by omega) hL2 dL_law_991 ?_
  refine v_callVMi (st := []) (ci := 11) (qb := 0) C (kX11_settled h0 a_nb a_st a_la a_bd _ _ _ _ _ _ _ _ hw) mL_112 mI_X11 mC_X11_settled mN_X11_settled mS_X11_settled rfl rfl hd_X11_settled ⟨Nat.le_of_ble_eq_true rfl, Nat.le_of_ble_eq_true rfl⟩ ⟨by show _ + 0 ≤ 139614; omega, by show _ + 0 ≤ 8683408; omega⟩ [0, 2, 3, 6] [1, 4, 5, 7, 8, 9, 10, 11, 12, 13, 14, 15, 16, 17] (N0 := 18) rfl (by decide) (ms2 := (fun (U : Md × Md × Md × Md) => [wX11 E h0 a_nb U.1, wX12 E hm a_m m, wX8 E (a_nb 0) a_st U.2.1, wX2 E (a_st 2) a_la U.2.2.1, wX7 E (a_st 3) a_sp sp, wX0 E (a_st 4) a_ac ac, wX1 E (a_st 5) a_bd U.2.2.2, wX6 E (a_st 6) a_sg sg, wX9 E (a_nb 2) a_tp tp, wX5 E (a_nb 3) a_hd hd, wX10 E (a_nb 4) a_vw vw, wX5 E (a_vw 6) a_o1 o1, wX5 E (a_vw 7) a_o2 o2, wX4 E (a_nb 5) a_pl pl, wX3 E (a_nb 6) a_pp pp, i0, i1, i2])) rfl (fun _ => rfl) (fun _ => rfl) (fun _ => rfl) rfl (Nat.le_of_ble_eq_true rfl) dL_law_992 (fun r1 U hw => ?_)
  obtain ⟨nb1, st1, la1, bd1⟩ := U
  refine v_aload_n C dL_law_995 2 rfl ?_
  refine v_aload_n C dL_law_996 0 rfl ?_
  refine v_iload_n C dL_law_997 3 rfl ?_
  refine v_iconst (v := 1) C dL_law_998 (by decide) ?_
  refine v_iadd C dL_law_999 ?_
  refine v_sld (j := i + 1) C hL (nI_add i 1) (by omega) hL2 dL_law_1000 ?_
  refine v_aload_n C dL_law_1001 0 rfl ?_
  refine v_iload_n C dL_law_1002 3 rfl ?_
  refine v_iconst (v := 2) C dL_law_1003 (by decide) ?_
  refine v_iadd C dL_law_1004 ?_
  refine v_sld (j := i + 2) C hL (nI_add i 2) (by omega) hL2 dL_law_1005 ?_
  refine v_aload_n C dL_law_1006 0 rfl ?_
  refine v_iload_n C dL_law_1007 3 rfl ?_
  refine v_iconst (v := 3) C dL_law_1008 (by decide) ?_
  refine v_iadd C dL_law_1009 ?_
  refine v_sld (j := i + 3) C hL (nI_add i 3) (by omega) hL2 dL_law_1010 ?_
  refine v_aload_n C dL_law_1011 0 rfl ?_
  refine v_iload_n C dL_law_1012 3 rfl ?_
  refine v_iconst (v := 4) C dL_law_1013 (by decide) ?_
  refine v_iadd C dL_law_1014 ?_
  refine v_sld (j := i + 4) C hL (nI_add i 4) (by omega) hL2 dL_law_1015 ?_
  refine v_callVMi (st := [.int r1]) (ci := 12) (qb := 5) C (kX12_settled hm a_m _ _ _ _ _ hw) mL_115 mI_X12 mC_X12_settled mN_X12_settled mS_X12_settled rfl rfl hd_X12_settled ⟨Nat.le_of_ble_eq_true rfl, Nat.le_of_ble_eq_true rfl⟩ ⟨by show _ + 0 ≤ 139614; omega, by show _ + 0 ≤ 8683408; omega⟩ [1] [0, 2, 3, 4, 5, 6, 7, 8, 9, 10, 11, 12, 13, 14, 15, 16, 17] (N0 := 18) rfl (by decide) (ms2 := (fun (U : Md) => [wX11 E h0 a_nb nb1, wX12 E hm a_m U, wX8 E (a_nb 0) a_st st1, wX2 E (a_st 2) a_la la1, wX7 E (a_st 3) a_sp sp, wX0 E (a_st 4) a_ac ac, wX1 E (a_st 5) a_bd bd1, wX6 E (a_st 6) a_sg sg, wX9 E (a_nb 2) a_tp tp, wX5 E (a_nb 3) a_hd hd, wX10 E (a_nb 4) a_vw vw, wX5 E (a_vw 6) a_o1 o1, wX5 E (a_vw 7) a_o2 o2, wX4 E (a_nb 5) a_pl pl, wX3 E (a_nb 6) a_pp pp, i0, i1, i2])) rfl (fun _ => rfl) (fun _ => rfl) (fun _ => rfl) rfl (Nat.le_of_ble_eq_true rfl) dL_law_1016 (fun r2 m1 hw => ?_)
  obtain ⟨he, hw⟩ := hw
  refine v_icmp_eq (tgt := 1578) C dL_law_1019 (by decide) (fun _ => ?_) (fun hc => absurd he hc)
  refine v_widen (a' := a + 53) (b' := b + 10240) C (by omega) (by omega) ?_
  exact kk nb1 m1 st1 la1 sp ac bd1 sg tp hd vw o1 o2 pl pp hw
set_option maxHeartbeats 4000000 in
set_option maxRecDepth 100000 in
theorem lawc_24 {X : VX} {E : VE} {l : Launch} {bb L : Nat} {xs : Nat → Int32} (C : VC X code 4 R_law room_1 E l) (hL : LWX X bb L xs) (hL2 : L ≤ 3072) (i : Nat) (hi : i + 6 ≤ L) {a b : Nat} (hab : a + 53 ≤ 139614 ∧ b + 10240 ≤ 8683408) (h0 hm : Nat) (a_nb : Nat → Nat) (a_m : Nat → Nat) (a_st : Nat → Nat) (a_la : Nat → Nat) (a_sp : Nat → Nat) (a_ac : Nat → Nat) (a_bd : Nat → Nat) (a_sg : Nat → Nat) (a_tp : Nat → Nat) (a_hd : Nat → Nat) (a_vw : Nat → Nat) (a_o1 : Nat → Nat) (a_o2 : Nat → Nat) (a_pl : Nat → Nat) (a_pp : Nat → Nat) (nb : Md) (m : Md) (st : Md) (la : Md) (sp : Md) (ac : Md) (bd : Md) (sg : Md) (tp : Md) (hd : Md) (vw : Md) (o1 : Md) (o2 : Md) (pl : Md) (pp : Md) (i0 i1 i2 : va_W) (P : Md → Md → Md → Md → Md → Md → Md → Md → Md → Md → Md → Md → Md → Md → Md → Prop) (hw : qX11_undo nb st la bd (xs (i + 1)) (xs (i + 2)) (fun r1 nb1 st1 la1 bd1 => qX12_undo m (xs (i + 1)) (xs (i + 2)) (fun r2 m1 => r1 = r2 ∧ P nb1 m1 st1 la1 sp ac bd1 sg tp hd vw o1 o2 pl pp))) (kk : ∀ (nb1 : Md) (m1 : Md) (st1 : Md) (la1 : Md) (sp1 : Md) (ac1 : Md) (bd1 : Md) (sg1 : Md) (tp1 : Md) (hd1 : Md) (vw1 : Md) (o11 : Md) (o21 : Md) (pl1 : Md) (pp1 : Md), P nb1 m1 st1 la1 sp1 ac1 bd1 sg1 tp1 hd1 vw1 o11 o21 pl1 pp1 → VV X (a + 53) (b + 10240) ([wX11 E h0 a_nb nb1, wX12 E hm a_m m1, wX8 E (a_nb 0) a_st st1, wX2 E (a_st 2) a_la la1, wX7 E (a_st 3) a_sp sp1, wX0 E (a_st 4) a_ac ac1, wX1 E (a_st 5) a_bd bd1, wX6 E (a_st 6) a_sg sg1, wX9 E (a_nb 2) a_tp tp1, wX5 E (a_nb 3) a_hd hd1, wX10 E (a_nb 4) a_vw vw1, wX5 E (a_vw 6) a_o1 o11, wX5 E (a_vw 7) a_o2 o21, wX4 E (a_nb 5) a_pl pl1, wX3 E (a_nb 6) a_pp pp1, i0, i1, i2].flatten) [(0, .ref bb), (1, .ref h0), (2, .ref hm), (3, .int (nI i))] 1578 []) : VV X a b ([wX11 E h0 a_nb nb, wX12 E hm a_m m, wX8 E (a_nb 0) a_st st, wX2 E (a_st 2) a_la la, wX7 E (a_st 3) a_sp sp, wX0 E (a_st 4) a_ac ac, wX1 E (a_st 5) a_bd bd, wX6 E (a_st 6) a_sg sg, wX9 E (a_nb 2) a_tp tp, wX5 E (a_nb 3) a_hd hd, wX10 E (a_nb 4) a_vw vw, wX5 E (a_vw 6) a_o1 o1, wX5 E (a_vw 7) a_o2 o2, wX4 E (a_nb 5) a_pl pl, wX3 E (a_nb 6) a_pp pp, i0, i1, i2].flatten) [(0, .ref bb), (1, .ref h0), (2, .ref hm), (3, .int (nI i))] 1024 [] := by
  refine v_aload_n C dL_law_1024 1 rfl ?_
  refine v_aload_n C dL_law_1025 0 rfl ?_
  refine v_iload_n C dL_law_1026 3 rfl ?_
  refine v_iconst (v := 1) C dL_law_1027 (by decide) ?_
  refine v_iadd C dL_law_1028 ?_
  refine v_sld (j := i + 1) C hL (nI_add i 1) (by omega) hL2 dL_law_1029 ?_
  refine v_aload_n C dL_law_1030 0 rfl ?_
  refine v_iload_n C dL_law_1031 3 rfl ?_
  refine v_iconst (v := 2) C dL_law_1032 (by decide) ?_
  refine v_iadd C dL_law_1033 ?_
  refine v_sld (j := i + 2) C hL (nI_add i 2) (by omega) hL2 dL_law_1034 ?_
  refine v_callVMi (st := []) (ci := 11) (qb := 0) C (kX11_undo h0 a_nb a_st a_la a_bd _ _ _ _ _ _ hw) mL_116 mI_X11 mC_X11_undo mN_X11_undo mS_X11_undo rfl rfl hd_X11_undo ⟨Nat.le_of_ble_eq_true rfl, Nat.le_of_ble_eq_true rfl⟩ ⟨by show _ + 0 ≤ 139614; omega, by show _ + 0 ≤ 8683408; omega⟩ [0, 2, 3, 6] [1, 4, 5, 7, 8, 9, 10, 11, 12, 13, 14, 15, 16, 17] (N0 := 18) rfl (by decide) (ms2 := (fun (U : Md × Md × Md × Md) => [wX11 E h0 a_nb U.1, wX12 E hm a_m m, wX8 E (a_nb 0) a_st U.2.1, wX2 E (a_st 2) a_la U.2.2.1, wX7 E (a_st 3) a_sp sp, wX0 E (a_st 4) a_ac ac, wX1 E (a_st 5) a_bd U.2.2.2, wX6 E (a_st 6) a_sg sg, wX9 E (a_nb 2) a_tp tp, wX5 E (a_nb 3) a_hd hd, wX10 E (a_nb 4) a_vw vw, wX5 E (a_vw 6) a_o1 o1, wX5 E (a_vw 7) a_o2 o2, wX4 E (a_nb 5) a_pl pl, wX3 E (a_nb 6) a_pp pp, i0, i1, i2])) rfl (fun _ => rfl) (fun _ => rfl) (fun _ => rfl) rfl (Nat.le_of_ble_eq_true rfl) dL_law_1035 (fun r1 U hw => ?_)
  obtain ⟨nb1, st1, la1, bd1⟩ := U
  refine v_aload_n C dL_law_1038 2 rfl ?_
  refine v_aload_n C dL_law_1039 0 rfl ?_
  refine v_iload_n C dL_law_1040 3 rfl ?_
  refine v_iconst (v := 1) C dL_law_1041 (by decide) ?_
  refine v_iadd C dL_law_1042 ?_
  refine v_sld (j := i + 1) C hL (nI_add i 1) (by omega) hL2 dL_law_1043 ?_
  refine v_aload_n C dL_law_1044 0 rfl ?_
  refine v_iload_n C dL_law_1045 3 rfl ?_
  refine v_iconst (v := 2) C dL_law_1046 (by decide) ?_
  refine v_iadd C dL_law_1047 ?_
  refine v_sld (j := i + 2) C hL (nI_add i 2) (by omega) hL2 dL_law_1048 ?_
  refine v_callVMi (st := [.int r1]) (ci := 12) (qb := 5) C (kX12_undo hm a_m _ _ _ hw) mL_119 mI_X12 mC_X12_undo mN_X12_undo mS_X12_undo rfl rfl hd_X12_undo ⟨Nat.le_of_ble_eq_true rfl, Nat.le_of_ble_eq_true rfl⟩ ⟨by show _ + 0 ≤ 139614; omega, by show _ + 0 ≤ 8683408; omega⟩ [1] [0, 2, 3, 4, 5, 6, 7, 8, 9, 10, 11, 12, 13, 14, 15, 16, 17] (N0 := 18) rfl (by decide) (ms2 := (fun (U : Md) => [wX11 E h0 a_nb nb1, wX12 E hm a_m U, wX8 E (a_nb 0) a_st st1, wX2 E (a_st 2) a_la la1, wX7 E (a_st 3) a_sp sp, wX0 E (a_st 4) a_ac ac, wX1 E (a_st 5) a_bd bd1, wX6 E (a_st 6) a_sg sg, wX9 E (a_nb 2) a_tp tp, wX5 E (a_nb 3) a_hd hd, wX10 E (a_nb 4) a_vw vw, wX5 E (a_vw 6) a_o1 o1, wX5 E (a_vw 7) a_o2 o2, wX4 E (a_nb 5) a_pl pl, wX3 E (a_nb 6) a_pp pp, i0, i1, i2])) rfl (fun _ => rfl) (fun _ => rfl) (fun _ => rfl) rfl (Nat.le_of_ble_eq_true rfl) dL_law_1049 (fun r2 m1 hw => ?_)
  obtain ⟨he, hw⟩ := hw
  refine v_icmp_eq (tgt := 1578) C dL_law_1052 (by decide) (fun _ => ?_) (fun hc => absurd he hc)
  refine v_widen (a' := a + 53) (b' := b + 10240) C (by omega) (by omega) ?_
  exact kk nb1 m1 st1 la1 sp ac bd1 sg tp hd vw o1 o2 pl pp hw
set_option maxHeartbeats 4000000 in
set_option maxRecDepth 100000 in
theorem lawc_25 {X : VX} {E : VE} {l : Launch} {bb L : Nat} {xs : Nat → Int32} (C : VC X code 4 R_law room_1 E l) (hL : LWX X bb L xs) (hL2 : L ≤ 3072) (i : Nat) (hi : i + 6 ≤ L) {a b : Nat} (hab : a + 53 ≤ 139614 ∧ b + 10240 ≤ 8683408) (h0 hm : Nat) (a_nb : Nat → Nat) (a_m : Nat → Nat) (a_st : Nat → Nat) (a_la : Nat → Nat) (a_sp : Nat → Nat) (a_ac : Nat → Nat) (a_bd : Nat → Nat) (a_sg : Nat → Nat) (a_tp : Nat → Nat) (a_hd : Nat → Nat) (a_vw : Nat → Nat) (a_o1 : Nat → Nat) (a_o2 : Nat → Nat) (a_pl : Nat → Nat) (a_pp : Nat → Nat) (nb : Md) (m : Md) (st : Md) (la : Md) (sp : Md) (ac : Md) (bd : Md) (sg : Md) (tp : Md) (hd : Md) (vw : Md) (o1 : Md) (o2 : Md) (pl : Md) (pp : Md) (i0 i1 i2 : va_W) (P : Md → Md → Md → Md → Md → Md → Md → Md → Md → Md → Md → Md → Md → Md → Md → Prop) (hw : qX11_shown nb st la sp ac bd hd vw (xs (i + 1)) (xs (i + 2)) (xs (i + 3)) (fun r1 nb1 st1 la1 sp1 ac1 bd1 hd1 vw1 => qX12_shown m (xs (i + 1)) (xs (i + 2)) (xs (i + 3)) (fun r2 m1 => r1 = r2 ∧ P nb1 m1 st1 la1 sp1 ac1 bd1 sg tp hd1 vw1 o1 o2 pl pp))) (kk : ∀ (nb1 : Md) (m1 : Md) (st1 : Md) (la1 : Md) (sp1 : Md) (ac1 : Md) (bd1 : Md) (sg1 : Md) (tp1 : Md) (hd1 : Md) (vw1 : Md) (o11 : Md) (o21 : Md) (pl1 : Md) (pp1 : Md), P nb1 m1 st1 la1 sp1 ac1 bd1 sg1 tp1 hd1 vw1 o11 o21 pl1 pp1 → VV X (a + 53) (b + 10240) ([wX11 E h0 a_nb nb1, wX12 E hm a_m m1, wX8 E (a_nb 0) a_st st1, wX2 E (a_st 2) a_la la1, wX7 E (a_st 3) a_sp sp1, wX0 E (a_st 4) a_ac ac1, wX1 E (a_st 5) a_bd bd1, wX6 E (a_st 6) a_sg sg1, wX9 E (a_nb 2) a_tp tp1, wX5 E (a_nb 3) a_hd hd1, wX10 E (a_nb 4) a_vw vw1, wX5 E (a_vw 6) a_o1 o11, wX5 E (a_vw 7) a_o2 o21, wX4 E (a_nb 5) a_pl pl1, wX3 E (a_nb 6) a_pp pp1, i0, i1, i2].flatten) [(0, .ref bb), (1, .ref h0), (2, .ref hm), (3, .int (nI i))] 1578 []) : VV X a b ([wX11 E h0 a_nb nb, wX12 E hm a_m m, wX8 E (a_nb 0) a_st st, wX2 E (a_st 2) a_la la, wX7 E (a_st 3) a_sp sp, wX0 E (a_st 4) a_ac ac, wX1 E (a_st 5) a_bd bd, wX6 E (a_st 6) a_sg sg, wX9 E (a_nb 2) a_tp tp, wX5 E (a_nb 3) a_hd hd, wX10 E (a_nb 4) a_vw vw, wX5 E (a_vw 6) a_o1 o1, wX5 E (a_vw 7) a_o2 o2, wX4 E (a_nb 5) a_pl pl, wX3 E (a_nb 6) a_pp pp, i0, i1, i2].flatten) [(0, .ref bb), (1, .ref h0), (2, .ref hm), (3, .int (nI i))] 1057 [] := by
  refine v_aload_n C dL_law_1057 1 rfl ?_
  refine v_aload_n C dL_law_1058 0 rfl ?_
  refine v_iload_n C dL_law_1059 3 rfl ?_
  refine v_iconst (v := 1) C dL_law_1060 (by decide) ?_
  refine v_iadd C dL_law_1061 ?_
  refine v_sld (j := i + 1) C hL (nI_add i 1) (by omega) hL2 dL_law_1062 ?_
  refine v_aload_n C dL_law_1063 0 rfl ?_
  refine v_iload_n C dL_law_1064 3 rfl ?_
  refine v_iconst (v := 2) C dL_law_1065 (by decide) ?_
  refine v_iadd C dL_law_1066 ?_
  refine v_sld (j := i + 2) C hL (nI_add i 2) (by omega) hL2 dL_law_1067 ?_
  refine v_aload_n C dL_law_1068 0 rfl ?_
  refine v_iload_n C dL_law_1069 3 rfl ?_
  refine v_iconst (v := 3) C dL_law_1070 (by decide) ?_
  refine v_iadd C dL_law_1071 ?_
  refine v_sld (j := i + 3) C hL (nI_add i 3) (by omega) hL2 dL_law_1072 ?_
  refine v_callVMi (st := []) (ci := 11) (qb := 0) C (kX11_shown h0 a_nb a_st a_la a_sp a_ac a_bd a_hd a_vw _ _ _ _ _ _ _ _ _ _ _ hw) mL_120 mI_X11 mC_X11_shown mN_X11_shown mS_X11_shown rfl rfl hd_X11_shown ⟨Nat.le_of_ble_eq_true rfl, Nat.le_of_ble_eq_true rfl⟩ ⟨by show _ + 0 ≤ 139614; omega, by show _ + 0 ≤ 8683408; omega⟩ [0, 2, 3, 4, 5, 6, 9, 10] [1, 7, 8, 11, 12, 13, 14, 15, 16, 17] (N0 := 18) rfl (by decide) (ms2 := (fun (U : Md × Md × Md × Md × Md × Md × Md × Md) => [wX11 E h0 a_nb U.1, wX12 E hm a_m m, wX8 E (a_nb 0) a_st U.2.1, wX2 E (a_st 2) a_la U.2.2.1, wX7 E (a_st 3) a_sp U.2.2.2.1, wX0 E (a_st 4) a_ac U.2.2.2.2.1, wX1 E (a_st 5) a_bd U.2.2.2.2.2.1, wX6 E (a_st 6) a_sg sg, wX9 E (a_nb 2) a_tp tp, wX5 E (a_nb 3) a_hd U.2.2.2.2.2.2.1, wX10 E (a_nb 4) a_vw U.2.2.2.2.2.2.2, wX5 E (a_vw 6) a_o1 o1, wX5 E (a_vw 7) a_o2 o2, wX4 E (a_nb 5) a_pl pl, wX3 E (a_nb 6) a_pp pp, i0, i1, i2])) rfl (fun _ => rfl) (fun _ => rfl) (fun _ => rfl) rfl (Nat.le_of_ble_eq_true rfl) dL_law_1073 (fun r1 U hw => ?_)
  obtain ⟨nb1, st1, la1, sp1, ac1, bd1, hd1, vw1⟩ := U
  refine v_aload_n C dL_law_1076 2 rfl ?_
  refine v_aload_n C dL_law_1077 0 rfl ?_
  refine v_iload_n C dL_law_1078 3 rfl ?_
  refine v_iconst (v := 1) C dL_law_1079 (by decide) ?_
  refine v_iadd C dL_law_1080 ?_
  refine v_sld (j := i + 1) C hL (nI_add i 1) (by omega) hL2 dL_law_1081 ?_
  refine v_aload_n C dL_law_1082 0 rfl ?_
  refine v_iload_n C dL_law_1083 3 rfl ?_
  refine v_iconst (v := 2) C dL_law_1084 (by decide) ?_
  refine v_iadd C dL_law_1085 ?_
  refine v_sld (j := i + 2) C hL (nI_add i 2) (by omega) hL2 dL_law_1086 ?_
  refine v_aload_n C dL_law_1087 0 rfl ?_
  refine v_iload_n C dL_law_1088 3 rfl ?_
  refine v_iconst (v := 3) C dL_law_1089 (by decide) ?_
  refine v_iadd C dL_law_1090 ?_
  refine v_sld (j := i + 3) C hL (nI_add i 3) (by omega) hL2 dL_law_1091 ?_
  refine v_callVMi (st := [.int r1]) (ci := 12) (qb := 5) C (kX12_shown hm a_m _ _ _ _ hw) mL_123 mI_X12 mC_X12_shown mN_X12_shown mS_X12_shown rfl rfl hd_X12_shown ⟨Nat.le_of_ble_eq_true rfl, Nat.le_of_ble_eq_true rfl⟩ ⟨by show _ + 0 ≤ 139614; omega, by show _ + 0 ≤ 8683408; omega⟩ [1] [0, 2, 3, 4, 5, 6, 7, 8, 9, 10, 11, 12, 13, 14, 15, 16, 17] (N0 := 18) rfl (by decide) (ms2 := (fun (U : Md) => [wX11 E h0 a_nb nb1, wX12 E hm a_m U, wX8 E (a_nb 0) a_st st1, wX2 E (a_st 2) a_la la1, wX7 E (a_st 3) a_sp sp1, wX0 E (a_st 4) a_ac ac1, wX1 E (a_st 5) a_bd bd1, wX6 E (a_st 6) a_sg sg, wX9 E (a_nb 2) a_tp tp, wX5 E (a_nb 3) a_hd hd1, wX10 E (a_nb 4) a_vw vw1, wX5 E (a_vw 6) a_o1 o1, wX5 E (a_vw 7) a_o2 o2, wX4 E (a_nb 5) a_pl pl, wX3 E (a_nb 6) a_pp pp, i0, i1, i2])) rfl (fun _ => rfl) (fun _ => rfl) (fun _ => rfl) rfl (Nat.le_of_ble_eq_true rfl) dL_law_1092 (fun r2 m1 hw => ?_)
  obtain ⟨he, hw⟩ := hw
  refine v_icmp_eq (tgt := 1578) C dL_law_1095 (by decide) (fun _ => ?_) (fun hc => absurd he hc)
  refine v_widen (a' := a + 53) (b' := b + 10240) C (by omega) (by omega) ?_
  exact kk nb1 m1 st1 la1 sp1 ac1 bd1 sg tp hd1 vw1 o1 o2 pl pp hw
set_option maxHeartbeats 4000000 in
set_option maxRecDepth 100000 in
theorem lawc_26 {X : VX} {E : VE} {l : Launch} {bb L : Nat} {xs : Nat → Int32} (C : VC X code 4 R_law room_1 E l) (hL : LWX X bb L xs) (hL2 : L ≤ 3072) (i : Nat) (hi : i + 6 ≤ L) {a b : Nat} (hab : a + 53 ≤ 139614 ∧ b + 10240 ≤ 8683408) (h0 hm : Nat) (a_nb : Nat → Nat) (a_m : Nat → Nat) (a_st : Nat → Nat) (a_la : Nat → Nat) (a_sp : Nat → Nat) (a_ac : Nat → Nat) (a_bd : Nat → Nat) (a_sg : Nat → Nat) (a_tp : Nat → Nat) (a_hd : Nat → Nat) (a_vw : Nat → Nat) (a_o1 : Nat → Nat) (a_o2 : Nat → Nat) (a_pl : Nat → Nat) (a_pp : Nat → Nat) (nb : Md) (m : Md) (st : Md) (la : Md) (sp : Md) (ac : Md) (bd : Md) (sg : Md) (tp : Md) (hd : Md) (vw : Md) (o1 : Md) (o2 : Md) (pl : Md) (pp : Md) (i0 i1 i2 : va_W) (P : Md → Md → Md → Md → Md → Md → Md → Md → Md → Md → Md → Md → Md → Md → Md → Prop) (hw : qX11_sign nb st la sg (xs (i + 1)) (xs (i + 2)) (fun r1 nb1 st1 la1 sg1 => qX12_sign m (xs (i + 1)) (xs (i + 2)) (fun r2 m1 => r1 = r2 ∧ P nb1 m1 st1 la1 sp ac bd sg1 tp hd vw o1 o2 pl pp))) (kk : ∀ (nb1 : Md) (m1 : Md) (st1 : Md) (la1 : Md) (sp1 : Md) (ac1 : Md) (bd1 : Md) (sg1 : Md) (tp1 : Md) (hd1 : Md) (vw1 : Md) (o11 : Md) (o21 : Md) (pl1 : Md) (pp1 : Md), P nb1 m1 st1 la1 sp1 ac1 bd1 sg1 tp1 hd1 vw1 o11 o21 pl1 pp1 → VV X (a + 53) (b + 10240) ([wX11 E h0 a_nb nb1, wX12 E hm a_m m1, wX8 E (a_nb 0) a_st st1, wX2 E (a_st 2) a_la la1, wX7 E (a_st 3) a_sp sp1, wX0 E (a_st 4) a_ac ac1, wX1 E (a_st 5) a_bd bd1, wX6 E (a_st 6) a_sg sg1, wX9 E (a_nb 2) a_tp tp1, wX5 E (a_nb 3) a_hd hd1, wX10 E (a_nb 4) a_vw vw1, wX5 E (a_vw 6) a_o1 o11, wX5 E (a_vw 7) a_o2 o21, wX4 E (a_nb 5) a_pl pl1, wX3 E (a_nb 6) a_pp pp1, i0, i1, i2].flatten) [(0, .ref bb), (1, .ref h0), (2, .ref hm), (3, .int (nI i))] 1578 []) : VV X a b ([wX11 E h0 a_nb nb, wX12 E hm a_m m, wX8 E (a_nb 0) a_st st, wX2 E (a_st 2) a_la la, wX7 E (a_st 3) a_sp sp, wX0 E (a_st 4) a_ac ac, wX1 E (a_st 5) a_bd bd, wX6 E (a_st 6) a_sg sg, wX9 E (a_nb 2) a_tp tp, wX5 E (a_nb 3) a_hd hd, wX10 E (a_nb 4) a_vw vw, wX5 E (a_vw 6) a_o1 o1, wX5 E (a_vw 7) a_o2 o2, wX4 E (a_nb 5) a_pl pl, wX3 E (a_nb 6) a_pp pp, i0, i1, i2].flatten) [(0, .ref bb), (1, .ref h0), (2, .ref hm), (3, .int (nI i))] 1100 [] := by
  refine v_aload_n C dL_law_1100 1 rfl ?_
  refine v_aload_n C dL_law_1101 0 rfl ?_
  refine v_iload_n C dL_law_1102 3 rfl ?_
  refine v_iconst (v := 1) C dL_law_1103 (by decide) ?_
  refine v_iadd C dL_law_1104 ?_
  refine v_sld (j := i + 1) C hL (nI_add i 1) (by omega) hL2 dL_law_1105 ?_
  refine v_aload_n C dL_law_1106 0 rfl ?_
  refine v_iload_n C dL_law_1107 3 rfl ?_
  refine v_iconst (v := 2) C dL_law_1108 (by decide) ?_
  refine v_iadd C dL_law_1109 ?_
  refine v_sld (j := i + 2) C hL (nI_add i 2) (by omega) hL2 dL_law_1110 ?_
  refine v_callVMi (st := []) (ci := 11) (qb := 0) C (kX11_sign h0 a_nb a_st a_la a_sg _ _ _ _ _ _ hw) mL_124 mI_X11 mC_X11_sign mN_X11_sign mS_X11_sign rfl rfl hd_X11_sign ⟨Nat.le_of_ble_eq_true rfl, Nat.le_of_ble_eq_true rfl⟩ ⟨by show _ + 0 ≤ 139614; omega, by show _ + 0 ≤ 8683408; omega⟩ [0, 2, 3, 7] [1, 4, 5, 6, 8, 9, 10, 11, 12, 13, 14, 15, 16, 17] (N0 := 18) rfl (by decide) (ms2 := (fun (U : Md × Md × Md × Md) => [wX11 E h0 a_nb U.1, wX12 E hm a_m m, wX8 E (a_nb 0) a_st U.2.1, wX2 E (a_st 2) a_la U.2.2.1, wX7 E (a_st 3) a_sp sp, wX0 E (a_st 4) a_ac ac, wX1 E (a_st 5) a_bd bd, wX6 E (a_st 6) a_sg U.2.2.2, wX9 E (a_nb 2) a_tp tp, wX5 E (a_nb 3) a_hd hd, wX10 E (a_nb 4) a_vw vw, wX5 E (a_vw 6) a_o1 o1, wX5 E (a_vw 7) a_o2 o2, wX4 E (a_nb 5) a_pl pl, wX3 E (a_nb 6) a_pp pp, i0, i1, i2])) rfl (fun _ => rfl) (fun _ => rfl) (fun _ => rfl) rfl (Nat.le_of_ble_eq_true rfl) dL_law_1111 (fun r1 U hw => ?_)
  obtain ⟨nb1, st1, la1, sg1⟩ := U
  refine v_aload_n C dL_law_1114 2 rfl ?_
  refine v_aload_n C dL_law_1115 0 rfl ?_
  refine v_iload_n C dL_law_1116 3 rfl ?_
  refine v_iconst (v := 1) C dL_law_1117 (by decide) ?_
  refine v_iadd C dL_law_1118 ?_
  refine v_sld (j := i + 1) C hL (nI_add i 1) (by omega) hL2 dL_law_1119 ?_
  refine v_aload_n C dL_law_1120 0 rfl ?_
  refine v_iload_n C dL_law_1121 3 rfl ?_
  refine v_iconst (v := 2) C dL_law_1122 (by decide) ?_
  refine v_iadd C dL_law_1123 ?_
  refine v_sld (j := i + 2) C hL (nI_add i 2) (by omega) hL2 dL_law_1124 ?_
  refine v_callVMi (st := [.int r1]) (ci := 12) (qb := 5) C (kX12_sign hm a_m _ _ _ hw) mL_127 mI_X12 mC_X12_sign mN_X12_sign mS_X12_sign rfl rfl hd_X12_sign ⟨Nat.le_of_ble_eq_true rfl, Nat.le_of_ble_eq_true rfl⟩ ⟨by show _ + 0 ≤ 139614; omega, by show _ + 0 ≤ 8683408; omega⟩ [1] [0, 2, 3, 4, 5, 6, 7, 8, 9, 10, 11, 12, 13, 14, 15, 16, 17] (N0 := 18) rfl (by decide) (ms2 := (fun (U : Md) => [wX11 E h0 a_nb nb1, wX12 E hm a_m U, wX8 E (a_nb 0) a_st st1, wX2 E (a_st 2) a_la la1, wX7 E (a_st 3) a_sp sp, wX0 E (a_st 4) a_ac ac, wX1 E (a_st 5) a_bd bd, wX6 E (a_st 6) a_sg sg1, wX9 E (a_nb 2) a_tp tp, wX5 E (a_nb 3) a_hd hd, wX10 E (a_nb 4) a_vw vw, wX5 E (a_vw 6) a_o1 o1, wX5 E (a_vw 7) a_o2 o2, wX4 E (a_nb 5) a_pl pl, wX3 E (a_nb 6) a_pp pp, i0, i1, i2])) rfl (fun _ => rfl) (fun _ => rfl) (fun _ => rfl) rfl (Nat.le_of_ble_eq_true rfl) dL_law_1125 (fun r2 m1 hw => ?_)
  obtain ⟨he, hw⟩ := hw
  refine v_icmp_eq (tgt := 1578) C dL_law_1128 (by decide) (fun _ => ?_) (fun hc => absurd he hc)
  refine v_widen (a' := a + 53) (b' := b + 10240) C (by omega) (by omega) ?_
  exact kk nb1 m1 st1 la1 sp ac bd sg1 tp hd vw o1 o2 pl pp hw
set_option maxHeartbeats 4000000 in
set_option maxRecDepth 100000 in
theorem lawc_27 {X : VX} {E : VE} {l : Launch} {bb L : Nat} {xs : Nat → Int32} (C : VC X code 4 R_law room_1 E l) (hL : LWX X bb L xs) (hL2 : L ≤ 3072) (i : Nat) (hi : i + 6 ≤ L) {a b : Nat} (hab : a + 53 ≤ 139614 ∧ b + 10240 ≤ 8683408) (h0 hm : Nat) (a_nb : Nat → Nat) (a_m : Nat → Nat) (a_st : Nat → Nat) (a_la : Nat → Nat) (a_sp : Nat → Nat) (a_ac : Nat → Nat) (a_bd : Nat → Nat) (a_sg : Nat → Nat) (a_tp : Nat → Nat) (a_hd : Nat → Nat) (a_vw : Nat → Nat) (a_o1 : Nat → Nat) (a_o2 : Nat → Nat) (a_pl : Nat → Nat) (a_pp : Nat → Nat) (nb : Md) (m : Md) (st : Md) (la : Md) (sp : Md) (ac : Md) (bd : Md) (sg : Md) (tp : Md) (hd : Md) (vw : Md) (o1 : Md) (o2 : Md) (pl : Md) (pp : Md) (i0 i1 i2 : va_W) (P : Md → Md → Md → Md → Md → Md → Md → Md → Md → Md → Md → Md → Md → Md → Md → Prop) (hw : qX11_anew nb st sg (xs (i + 1)) (fun r1 nb1 st1 sg1 => qX12_anew m (xs (i + 1)) (fun r2 m1 => r1 = r2 ∧ P nb1 m1 st1 la sp ac bd sg1 tp hd vw o1 o2 pl pp))) (kk : ∀ (nb1 : Md) (m1 : Md) (st1 : Md) (la1 : Md) (sp1 : Md) (ac1 : Md) (bd1 : Md) (sg1 : Md) (tp1 : Md) (hd1 : Md) (vw1 : Md) (o11 : Md) (o21 : Md) (pl1 : Md) (pp1 : Md), P nb1 m1 st1 la1 sp1 ac1 bd1 sg1 tp1 hd1 vw1 o11 o21 pl1 pp1 → VV X (a + 53) (b + 10240) ([wX11 E h0 a_nb nb1, wX12 E hm a_m m1, wX8 E (a_nb 0) a_st st1, wX2 E (a_st 2) a_la la1, wX7 E (a_st 3) a_sp sp1, wX0 E (a_st 4) a_ac ac1, wX1 E (a_st 5) a_bd bd1, wX6 E (a_st 6) a_sg sg1, wX9 E (a_nb 2) a_tp tp1, wX5 E (a_nb 3) a_hd hd1, wX10 E (a_nb 4) a_vw vw1, wX5 E (a_vw 6) a_o1 o11, wX5 E (a_vw 7) a_o2 o21, wX4 E (a_nb 5) a_pl pl1, wX3 E (a_nb 6) a_pp pp1, i0, i1, i2].flatten) [(0, .ref bb), (1, .ref h0), (2, .ref hm), (3, .int (nI i))] 1578 []) : VV X a b ([wX11 E h0 a_nb nb, wX12 E hm a_m m, wX8 E (a_nb 0) a_st st, wX2 E (a_st 2) a_la la, wX7 E (a_st 3) a_sp sp, wX0 E (a_st 4) a_ac ac, wX1 E (a_st 5) a_bd bd, wX6 E (a_st 6) a_sg sg, wX9 E (a_nb 2) a_tp tp, wX5 E (a_nb 3) a_hd hd, wX10 E (a_nb 4) a_vw vw, wX5 E (a_vw 6) a_o1 o1, wX5 E (a_vw 7) a_o2 o2, wX4 E (a_nb 5) a_pl pl, wX3 E (a_nb 6) a_pp pp, i0, i1, i2].flatten) [(0, .ref bb), (1, .ref h0), (2, .ref hm), (3, .int (nI i))] 1133 [] := by
  refine v_aload_n C dL_law_1133 1 rfl ?_
  refine v_aload_n C dL_law_1134 0 rfl ?_
  refine v_iload_n C dL_law_1135 3 rfl ?_
  refine v_iconst (v := 1) C dL_law_1136 (by decide) ?_
  refine v_iadd C dL_law_1137 ?_
  refine v_sld (j := i + 1) C hL (nI_add i 1) (by omega) hL2 dL_law_1138 ?_
  refine v_callVMi (st := []) (ci := 11) (qb := 0) C (kX11_anew h0 a_nb a_st a_sg _ _ _ _ hw) mL_128 mI_X11 mC_X11_anew mN_X11_anew mS_X11_anew rfl rfl hd_X11_anew ⟨Nat.le_of_ble_eq_true rfl, Nat.le_of_ble_eq_true rfl⟩ ⟨by show _ + 0 ≤ 139614; omega, by show _ + 0 ≤ 8683408; omega⟩ [0, 2, 7] [1, 3, 4, 5, 6, 8, 9, 10, 11, 12, 13, 14, 15, 16, 17] (N0 := 18) rfl (by decide) (ms2 := (fun (U : Md × Md × Md) => [wX11 E h0 a_nb U.1, wX12 E hm a_m m, wX8 E (a_nb 0) a_st U.2.1, wX2 E (a_st 2) a_la la, wX7 E (a_st 3) a_sp sp, wX0 E (a_st 4) a_ac ac, wX1 E (a_st 5) a_bd bd, wX6 E (a_st 6) a_sg U.2.2, wX9 E (a_nb 2) a_tp tp, wX5 E (a_nb 3) a_hd hd, wX10 E (a_nb 4) a_vw vw, wX5 E (a_vw 6) a_o1 o1, wX5 E (a_vw 7) a_o2 o2, wX4 E (a_nb 5) a_pl pl, wX3 E (a_nb 6) a_pp pp, i0, i1, i2])) rfl (fun _ => rfl) (fun _ => rfl) (fun _ => rfl) rfl (Nat.le_of_ble_eq_true rfl) dL_law_1139 (fun r1 U hw => ?_)
  obtain ⟨nb1, st1, sg1⟩ := U
  refine v_aload_n C dL_law_1142 2 rfl ?_
  refine v_aload_n C dL_law_1143 0 rfl ?_
  refine v_iload_n C dL_law_1144 3 rfl ?_
  refine v_iconst (v := 1) C dL_law_1145 (by decide) ?_
  refine v_iadd C dL_law_1146 ?_
  refine v_sld (j := i + 1) C hL (nI_add i 1) (by omega) hL2 dL_law_1147 ?_
  refine v_callVMi (st := [.int r1]) (ci := 12) (qb := 5) C (kX12_anew hm a_m _ _ hw) mL_131 mI_X12 mC_X12_anew mN_X12_anew mS_X12_anew rfl rfl hd_X12_anew ⟨Nat.le_of_ble_eq_true rfl, Nat.le_of_ble_eq_true rfl⟩ ⟨by show _ + 0 ≤ 139614; omega, by show _ + 0 ≤ 8683408; omega⟩ [1] [0, 2, 3, 4, 5, 6, 7, 8, 9, 10, 11, 12, 13, 14, 15, 16, 17] (N0 := 18) rfl (by decide) (ms2 := (fun (U : Md) => [wX11 E h0 a_nb nb1, wX12 E hm a_m U, wX8 E (a_nb 0) a_st st1, wX2 E (a_st 2) a_la la, wX7 E (a_st 3) a_sp sp, wX0 E (a_st 4) a_ac ac, wX1 E (a_st 5) a_bd bd, wX6 E (a_st 6) a_sg sg1, wX9 E (a_nb 2) a_tp tp, wX5 E (a_nb 3) a_hd hd, wX10 E (a_nb 4) a_vw vw, wX5 E (a_vw 6) a_o1 o1, wX5 E (a_vw 7) a_o2 o2, wX4 E (a_nb 5) a_pl pl, wX3 E (a_nb 6) a_pp pp, i0, i1, i2])) rfl (fun _ => rfl) (fun _ => rfl) (fun _ => rfl) rfl (Nat.le_of_ble_eq_true rfl) dL_law_1148 (fun r2 m1 hw => ?_)
  obtain ⟨he, hw⟩ := hw
  refine v_icmp_eq (tgt := 1578) C dL_law_1151 (by decide) (fun _ => ?_) (fun hc => absurd he hc)
  refine v_widen (a' := a + 53) (b' := b + 10240) C (by omega) (by omega) ?_
  exact kk nb1 m1 st1 la sp ac bd sg1 tp hd vw o1 o2 pl pp hw
set_option maxHeartbeats 4000000 in
set_option maxRecDepth 100000 in
theorem lawc_28 {X : VX} {E : VE} {l : Launch} {bb L : Nat} {xs : Nat → Int32} (C : VC X code 4 R_law room_1 E l) (hL : LWX X bb L xs) (hL2 : L ≤ 3072) (i : Nat) (hi : i + 6 ≤ L) {a b : Nat} (hab : a + 53 ≤ 139614 ∧ b + 10240 ≤ 8683408) (h0 hm : Nat) (a_nb : Nat → Nat) (a_m : Nat → Nat) (a_st : Nat → Nat) (a_la : Nat → Nat) (a_sp : Nat → Nat) (a_ac : Nat → Nat) (a_bd : Nat → Nat) (a_sg : Nat → Nat) (a_tp : Nat → Nat) (a_hd : Nat → Nat) (a_vw : Nat → Nat) (a_o1 : Nat → Nat) (a_o2 : Nat → Nat) (a_pl : Nat → Nat) (a_pp : Nat → Nat) (nb : Md) (m : Md) (st : Md) (la : Md) (sp : Md) (ac : Md) (bd : Md) (sg : Md) (tp : Md) (hd : Md) (vw : Md) (o1 : Md) (o2 : Md) (pl : Md) (pp : Md) (i0 i1 i2 : va_W) (P : Md → Md → Md → Md → Md → Md → Md → Md → Md → Md → Md → Md → Md → Md → Md → Prop) (hw : qX11_signOf nb st la sp ac bd sg vw o1 o2 (xs (i + 1)) (xs (i + 2)) (fun r1 nb1 st1 la1 sp1 ac1 bd1 sg1 vw1 o11 o21 => qX12_signOf m (xs (i + 1)) (xs (i + 2)) (fun r2 m1 => r1 = r2 ∧ P nb1 m1 st1 la1 sp1 ac1 bd1 sg1 tp hd vw1 o11 o21 pl pp))) (kk : ∀ (nb1 : Md) (m1 : Md) (st1 : Md) (la1 : Md) (sp1 : Md) (ac1 : Md) (bd1 : Md) (sg1 : Md) (tp1 : Md) (hd1 : Md) (vw1 : Md) (o11 : Md) (o21 : Md) (pl1 : Md) (pp1 : Md), P nb1 m1 st1 la1 sp1 ac1 bd1 sg1 tp1 hd1 vw1 o11 o21 pl1 pp1 → VV X (a + 53) (b + 10240) ([wX11 E h0 a_nb nb1, wX12 E hm a_m m1, wX8 E (a_nb 0) a_st st1, wX2 E (a_st 2) a_la la1, wX7 E (a_st 3) a_sp sp1, wX0 E (a_st 4) a_ac ac1, wX1 E (a_st 5) a_bd bd1, wX6 E (a_st 6) a_sg sg1, wX9 E (a_nb 2) a_tp tp1, wX5 E (a_nb 3) a_hd hd1, wX10 E (a_nb 4) a_vw vw1, wX5 E (a_vw 6) a_o1 o11, wX5 E (a_vw 7) a_o2 o21, wX4 E (a_nb 5) a_pl pl1, wX3 E (a_nb 6) a_pp pp1, i0, i1, i2].flatten) [(0, .ref bb), (1, .ref h0), (2, .ref hm), (3, .int (nI i))] 1578 []) : VV X a b ([wX11 E h0 a_nb nb, wX12 E hm a_m m, wX8 E (a_nb 0) a_st st, wX2 E (a_st 2) a_la la, wX7 E (a_st 3) a_sp sp, wX0 E (a_st 4) a_ac ac, wX1 E (a_st 5) a_bd bd, wX6 E (a_st 6) a_sg sg, wX9 E (a_nb 2) a_tp tp, wX5 E (a_nb 3) a_hd hd, wX10 E (a_nb 4) a_vw vw, wX5 E (a_vw 6) a_o1 o1, wX5 E (a_vw 7) a_o2 o2, wX4 E (a_nb 5) a_pl pl, wX3 E (a_nb 6) a_pp pp, i0, i1, i2].flatten) [(0, .ref bb), (1, .ref h0), (2, .ref hm), (3, .int (nI i))] 1156 [] := by
  refine v_aload_n C dL_law_1156 1 rfl ?_
  refine v_aload_n C dL_law_1157 0 rfl ?_
  refine v_iload_n C dL_law_1158 3 rfl ?_
  refine v_iconst (v := 1) C dL_law_1159 (by decide) ?_
  refine v_iadd C dL_law_1160 ?_
  refine v_sld (j := i + 1) C hL (nI_add i 1) (by omega) hL2 dL_law_1161 ?_
  refine v_aload_n C dL_law_1162 0 rfl ?_
  refine v_iload_n C dL_law_1163 3 rfl ?_
  refine v_iconst (v := 2) C dL_law_1164 (by decide) ?_
  refine v_iadd C dL_law_1165 ?_
  refine v_sld (j := i + 2) C hL (nI_add i 2) (by omega) hL2 dL_law_1166 ?_
  refine v_callVMi (st := []) (ci := 11) (qb := 0) C (kX11_signOf h0 a_nb a_st a_la a_sp a_ac a_bd a_sg a_vw a_o1 a_o2 _ _ _ _ _ _ _ _ _ _ _ _ hw) mL_132 mI_X11 mC_X11_signOf mN_X11_signOf mS_X11_signOf rfl rfl hd_X11_signOf ⟨Nat.le_of_ble_eq_true rfl, Nat.le_of_ble_eq_true rfl⟩ ⟨by show _ + 0 ≤ 139614; omega, by show _ + 0 ≤ 8683408; omega⟩ [0, 2, 3, 4, 5, 6, 7, 10, 11, 12] [1, 8, 9, 13, 14, 15, 16, 17] (N0 := 18) rfl (by decide) (ms2 := (fun (U : Md × Md × Md × Md × Md × Md × Md × Md × Md × Md) => [wX11 E h0 a_nb U.1, wX12 E hm a_m m, wX8 E (a_nb 0) a_st U.2.1, wX2 E (a_st 2) a_la U.2.2.1, wX7 E (a_st 3) a_sp U.2.2.2.1, wX0 E (a_st 4) a_ac U.2.2.2.2.1, wX1 E (a_st 5) a_bd U.2.2.2.2.2.1, wX6 E (a_st 6) a_sg U.2.2.2.2.2.2.1, wX9 E (a_nb 2) a_tp tp, wX5 E (a_nb 3) a_hd hd, wX10 E (a_nb 4) a_vw U.2.2.2.2.2.2.2.1, wX5 E (a_vw 6) a_o1 U.2.2.2.2.2.2.2.2.1, wX5 E (a_vw 7) a_o2 U.2.2.2.2.2.2.2.2.2, wX4 E (a_nb 5) a_pl pl, wX3 E (a_nb 6) a_pp pp, i0, i1, i2])) rfl (fun _ => rfl) (fun _ => rfl) (fun _ => rfl) rfl (Nat.le_of_ble_eq_true rfl) dL_law_1167 (fun r1 U hw => ?_)
  obtain ⟨nb1, st1, la1, sp1, ac1, bd1, sg1, vw1, o11, o21⟩ := U
  refine v_aload_n C dL_law_1170 2 rfl ?_
  refine v_aload_n C dL_law_1171 0 rfl ?_
  refine v_iload_n C dL_law_1172 3 rfl ?_
  refine v_iconst (v := 1) C dL_law_1173 (by decide) ?_
  refine v_iadd C dL_law_1174 ?_
  refine v_sld (j := i + 1) C hL (nI_add i 1) (by omega) hL2 dL_law_1175 ?_
  refine v_aload_n C dL_law_1176 0 rfl ?_
  refine v_iload_n C dL_law_1177 3 rfl ?_
  refine v_iconst (v := 2) C dL_law_1178 (by decide) ?_
  refine v_iadd C dL_law_1179 ?_
  refine v_sld (j := i + 2) C hL (nI_add i 2) (by omega) hL2 dL_law_1180 ?_
  refine v_callVMi (st := [.int r1]) (ci := 12) (qb := 5) C (kX12_signOf hm a_m _ _ _ hw) mL_135 mI_X12 mC_X12_signOf mN_X12_signOf mS_X12_signOf rfl rfl hd_X12_signOf ⟨Nat.le_of_ble_eq_true rfl, Nat.le_of_ble_eq_true rfl⟩ ⟨by show _ + 0 ≤ 139614; omega, by show _ + 0 ≤ 8683408; omega⟩ [1] [0, 2, 3, 4, 5, 6, 7, 8, 9, 10, 11, 12, 13, 14, 15, 16, 17] (N0 := 18) rfl (by decide) (ms2 := (fun (U : Md) => [wX11 E h0 a_nb nb1, wX12 E hm a_m U, wX8 E (a_nb 0) a_st st1, wX2 E (a_st 2) a_la la1, wX7 E (a_st 3) a_sp sp1, wX0 E (a_st 4) a_ac ac1, wX1 E (a_st 5) a_bd bd1, wX6 E (a_st 6) a_sg sg1, wX9 E (a_nb 2) a_tp tp, wX5 E (a_nb 3) a_hd hd, wX10 E (a_nb 4) a_vw vw1, wX5 E (a_vw 6) a_o1 o11, wX5 E (a_vw 7) a_o2 o21, wX4 E (a_nb 5) a_pl pl, wX3 E (a_nb 6) a_pp pp, i0, i1, i2])) rfl (fun _ => rfl) (fun _ => rfl) (fun _ => rfl) rfl (Nat.le_of_ble_eq_true rfl) dL_law_1181 (fun r2 m1 hw => ?_)
  obtain ⟨he, hw⟩ := hw
  refine v_icmp_eq (tgt := 1578) C dL_law_1184 (by decide) (fun _ => ?_) (fun hc => absurd he hc)
  refine v_widen (a' := a + 53) (b' := b + 10240) C (by omega) (by omega) ?_
  exact kk nb1 m1 st1 la1 sp1 ac1 bd1 sg1 tp hd vw1 o11 o21 pl pp hw
set_option maxHeartbeats 4000000 in
set_option maxRecDepth 100000 in
theorem lawc_29 {X : VX} {E : VE} {l : Launch} {bb L : Nat} {xs : Nat → Int32} (C : VC X code 4 R_law room_1 E l) (hL : LWX X bb L xs) (hL2 : L ≤ 3072) (i : Nat) (hi : i + 6 ≤ L) {a b : Nat} (hab : a + 53 ≤ 139614 ∧ b + 10240 ≤ 8683408) (h0 hm : Nat) (a_nb : Nat → Nat) (a_m : Nat → Nat) (a_st : Nat → Nat) (a_la : Nat → Nat) (a_sp : Nat → Nat) (a_ac : Nat → Nat) (a_bd : Nat → Nat) (a_sg : Nat → Nat) (a_tp : Nat → Nat) (a_hd : Nat → Nat) (a_vw : Nat → Nat) (a_o1 : Nat → Nat) (a_o2 : Nat → Nat) (a_pl : Nat → Nat) (a_pp : Nat → Nat) (nb : Md) (m : Md) (st : Md) (la : Md) (sp : Md) (ac : Md) (bd : Md) (sg : Md) (tp : Md) (hd : Md) (vw : Md) (o1 : Md) (o2 : Md) (pl : Md) (pp : Md) (i0 i1 i2 : va_W) (P : Md → Md → Md → Md → Md → Md → Md → Md → Md → Md → Md → Md → Md → Md → Md → Prop) (hw : qX11_plan nb st la sp ac bd sg vw o1 o2 pl (xs (i + 1)) (fun r1 nb1 st1 la1 sp1 ac1 bd1 sg1 vw1 o11 o21 pl1 => qX12_plan m (xs (i + 1)) (fun r2 m1 => r1 = r2 ∧ P nb1 m1 st1 la1 sp1 ac1 bd1 sg1 tp hd vw1 o11 o21 pl1 pp))) (kk : ∀ (nb1 : Md) (m1 : Md) (st1 : Md) (la1 : Md) (sp1 : Md) (ac1 : Md) (bd1 : Md) (sg1 : Md) (tp1 : Md) (hd1 : Md) (vw1 : Md) (o11 : Md) (o21 : Md) (pl1 : Md) (pp1 : Md), P nb1 m1 st1 la1 sp1 ac1 bd1 sg1 tp1 hd1 vw1 o11 o21 pl1 pp1 → VV X (a + 53) (b + 10240) ([wX11 E h0 a_nb nb1, wX12 E hm a_m m1, wX8 E (a_nb 0) a_st st1, wX2 E (a_st 2) a_la la1, wX7 E (a_st 3) a_sp sp1, wX0 E (a_st 4) a_ac ac1, wX1 E (a_st 5) a_bd bd1, wX6 E (a_st 6) a_sg sg1, wX9 E (a_nb 2) a_tp tp1, wX5 E (a_nb 3) a_hd hd1, wX10 E (a_nb 4) a_vw vw1, wX5 E (a_vw 6) a_o1 o11, wX5 E (a_vw 7) a_o2 o21, wX4 E (a_nb 5) a_pl pl1, wX3 E (a_nb 6) a_pp pp1, i0, i1, i2].flatten) [(0, .ref bb), (1, .ref h0), (2, .ref hm), (3, .int (nI i))] 1578 []) : VV X a b ([wX11 E h0 a_nb nb, wX12 E hm a_m m, wX8 E (a_nb 0) a_st st, wX2 E (a_st 2) a_la la, wX7 E (a_st 3) a_sp sp, wX0 E (a_st 4) a_ac ac, wX1 E (a_st 5) a_bd bd, wX6 E (a_st 6) a_sg sg, wX9 E (a_nb 2) a_tp tp, wX5 E (a_nb 3) a_hd hd, wX10 E (a_nb 4) a_vw vw, wX5 E (a_vw 6) a_o1 o1, wX5 E (a_vw 7) a_o2 o2, wX4 E (a_nb 5) a_pl pl, wX3 E (a_nb 6) a_pp pp, i0, i1, i2].flatten) [(0, .ref bb), (1, .ref h0), (2, .ref hm), (3, .int (nI i))] 1189 [] := by
  refine v_aload_n C dL_law_1189 1 rfl ?_
  refine v_aload_n C dL_law_1190 0 rfl ?_
  refine v_iload_n C dL_law_1191 3 rfl ?_
  refine v_iconst (v := 1) C dL_law_1192 (by decide) ?_
  refine v_iadd C dL_law_1193 ?_
  refine v_sld (j := i + 1) C hL (nI_add i 1) (by omega) hL2 dL_law_1194 ?_
  refine v_callVMi (st := []) (ci := 11) (qb := 0) C (kX11_plan h0 a_nb a_st a_la a_sp a_ac a_bd a_sg a_vw a_o1 a_o2 a_pl _ _ _ _ _ _ _ _ _ _ _ _ hw) mL_136 mI_X11 mC_X11_plan mN_X11_plan mS_X11_plan rfl rfl hd_X11_plan ⟨Nat.le_of_ble_eq_true rfl, Nat.le_of_ble_eq_true rfl⟩ ⟨by show _ + 0 ≤ 139614; omega, by show _ + 0 ≤ 8683408; omega⟩ [0, 2, 3, 4, 5, 6, 7, 10, 11, 12, 13] [1, 8, 9, 14, 15, 16, 17] (N0 := 18) rfl (by decide) (ms2 := (fun (U : Md × Md × Md × Md × Md × Md × Md × Md × Md × Md × Md) => [wX11 E h0 a_nb U.1, wX12 E hm a_m m, wX8 E (a_nb 0) a_st U.2.1, wX2 E (a_st 2) a_la U.2.2.1, wX7 E (a_st 3) a_sp U.2.2.2.1, wX0 E (a_st 4) a_ac U.2.2.2.2.1, wX1 E (a_st 5) a_bd U.2.2.2.2.2.1, wX6 E (a_st 6) a_sg U.2.2.2.2.2.2.1, wX9 E (a_nb 2) a_tp tp, wX5 E (a_nb 3) a_hd hd, wX10 E (a_nb 4) a_vw U.2.2.2.2.2.2.2.1, wX5 E (a_vw 6) a_o1 U.2.2.2.2.2.2.2.2.1, wX5 E (a_vw 7) a_o2 U.2.2.2.2.2.2.2.2.2.1, wX4 E (a_nb 5) a_pl U.2.2.2.2.2.2.2.2.2.2, wX3 E (a_nb 6) a_pp pp, i0, i1, i2])) rfl (fun _ => rfl) (fun _ => rfl) (fun _ => rfl) rfl (Nat.le_of_ble_eq_true rfl) dL_law_1195 (fun r1 U hw => ?_)
  obtain ⟨nb1, st1, la1, sp1, ac1, bd1, sg1, vw1, o11, o21, pl1⟩ := U
  refine v_aload_n C dL_law_1198 2 rfl ?_
  refine v_aload_n C dL_law_1199 0 rfl ?_
  refine v_iload_n C dL_law_1200 3 rfl ?_
  refine v_iconst (v := 1) C dL_law_1201 (by decide) ?_
  refine v_iadd C dL_law_1202 ?_
  refine v_sld (j := i + 1) C hL (nI_add i 1) (by omega) hL2 dL_law_1203 ?_
  refine v_callVMi (st := [.int r1]) (ci := 12) (qb := 5) C (kX12_plan hm a_m _ _ hw) mL_139 mI_X12 mC_X12_plan mN_X12_plan mS_X12_plan rfl rfl hd_X12_plan ⟨Nat.le_of_ble_eq_true rfl, Nat.le_of_ble_eq_true rfl⟩ ⟨by show _ + 0 ≤ 139614; omega, by show _ + 0 ≤ 8683408; omega⟩ [1] [0, 2, 3, 4, 5, 6, 7, 8, 9, 10, 11, 12, 13, 14, 15, 16, 17] (N0 := 18) rfl (by decide) (ms2 := (fun (U : Md) => [wX11 E h0 a_nb nb1, wX12 E hm a_m U, wX8 E (a_nb 0) a_st st1, wX2 E (a_st 2) a_la la1, wX7 E (a_st 3) a_sp sp1, wX0 E (a_st 4) a_ac ac1, wX1 E (a_st 5) a_bd bd1, wX6 E (a_st 6) a_sg sg1, wX9 E (a_nb 2) a_tp tp, wX5 E (a_nb 3) a_hd hd, wX10 E (a_nb 4) a_vw vw1, wX5 E (a_vw 6) a_o1 o11, wX5 E (a_vw 7) a_o2 o21, wX4 E (a_nb 5) a_pl pl1, wX3 E (a_nb 6) a_pp pp, i0, i1, i2])) rfl (fun _ => rfl) (fun _ => rfl) (fun _ => rfl) rfl (Nat.le_of_ble_eq_true rfl) dL_law_1204 (fun r2 m1 hw => ?_)
  obtain ⟨he, hw⟩ := hw
  refine v_icmp_eq (tgt := 1578) C dL_law_1207 (by decide) (fun _ => ?_) (fun hc => absurd he hc)
  refine v_widen (a' := a + 53) (b' := b + 10240) C (by omega) (by omega) ?_
  exact kk nb1 m1 st1 la1 sp1 ac1 bd1 sg1 tp hd vw1 o11 o21 pl1 pp hw
set_option maxHeartbeats 4000000 in
set_option maxRecDepth 100000 in
theorem lawc_30 {X : VX} {E : VE} {l : Launch} {bb L : Nat} {xs : Nat → Int32} (C : VC X code 4 R_law room_1 E l) (hL : LWX X bb L xs) (hL2 : L ≤ 3072) (i : Nat) (hi : i + 6 ≤ L) {a b : Nat} (hab : a + 53 ≤ 139614 ∧ b + 10240 ≤ 8683408) (h0 hm : Nat) (a_nb : Nat → Nat) (a_m : Nat → Nat) (a_st : Nat → Nat) (a_la : Nat → Nat) (a_sp : Nat → Nat) (a_ac : Nat → Nat) (a_bd : Nat → Nat) (a_sg : Nat → Nat) (a_tp : Nat → Nat) (a_hd : Nat → Nat) (a_vw : Nat → Nat) (a_o1 : Nat → Nat) (a_o2 : Nat → Nat) (a_pl : Nat → Nat) (a_pp : Nat → Nat) (nb : Md) (m : Md) (st : Md) (la : Md) (sp : Md) (ac : Md) (bd : Md) (sg : Md) (tp : Md) (hd : Md) (vw : Md) (o1 : Md) (o2 : Md) (pl : Md) (pp : Md) (i0 i1 i2 : va_W) (P : Md → Md → Md → Md → Md → Md → Md → Md → Md → Md → Md → Md → Md → Md → Md → Prop) (hw : qX11_planned nb pl (xs (i + 1)) (fun r1 nb1 pl1 => qX12_planned m (xs (i + 1)) (fun r2 m1 => r1 = r2 ∧ P nb1 m1 st la sp ac bd sg tp hd vw o1 o2 pl1 pp))) (kk : ∀ (nb1 : Md) (m1 : Md) (st1 : Md) (la1 : Md) (sp1 : Md) (ac1 : Md) (bd1 : Md) (sg1 : Md) (tp1 : Md) (hd1 : Md) (vw1 : Md) (o11 : Md) (o21 : Md) (pl1 : Md) (pp1 : Md), P nb1 m1 st1 la1 sp1 ac1 bd1 sg1 tp1 hd1 vw1 o11 o21 pl1 pp1 → VV X (a + 53) (b + 10240) ([wX11 E h0 a_nb nb1, wX12 E hm a_m m1, wX8 E (a_nb 0) a_st st1, wX2 E (a_st 2) a_la la1, wX7 E (a_st 3) a_sp sp1, wX0 E (a_st 4) a_ac ac1, wX1 E (a_st 5) a_bd bd1, wX6 E (a_st 6) a_sg sg1, wX9 E (a_nb 2) a_tp tp1, wX5 E (a_nb 3) a_hd hd1, wX10 E (a_nb 4) a_vw vw1, wX5 E (a_vw 6) a_o1 o11, wX5 E (a_vw 7) a_o2 o21, wX4 E (a_nb 5) a_pl pl1, wX3 E (a_nb 6) a_pp pp1, i0, i1, i2].flatten) [(0, .ref bb), (1, .ref h0), (2, .ref hm), (3, .int (nI i))] 1578 []) : VV X a b ([wX11 E h0 a_nb nb, wX12 E hm a_m m, wX8 E (a_nb 0) a_st st, wX2 E (a_st 2) a_la la, wX7 E (a_st 3) a_sp sp, wX0 E (a_st 4) a_ac ac, wX1 E (a_st 5) a_bd bd, wX6 E (a_st 6) a_sg sg, wX9 E (a_nb 2) a_tp tp, wX5 E (a_nb 3) a_hd hd, wX10 E (a_nb 4) a_vw vw, wX5 E (a_vw 6) a_o1 o1, wX5 E (a_vw 7) a_o2 o2, wX4 E (a_nb 5) a_pl pl, wX3 E (a_nb 6) a_pp pp, i0, i1, i2].flatten) [(0, .ref bb), (1, .ref h0), (2, .ref hm), (3, .int (nI i))] 1212 [] := by
  refine v_aload_n C dL_law_1212 1 rfl ?_
  refine v_aload_n C dL_law_1213 0 rfl ?_
  refine v_iload_n C dL_law_1214 3 rfl ?_
  refine v_iconst (v := 1) C dL_law_1215 (by decide) ?_
  refine v_iadd C dL_law_1216 ?_
  refine v_sld (j := i + 1) C hL (nI_add i 1) (by omega) hL2 dL_law_1217 ?_
  refine v_callVMi (st := []) (ci := 11) (qb := 0) C (kX11_planned h0 a_nb a_pl _ _ _ hw) mL_140 mI_X11 mC_X11_planned mN_X11_planned mS_X11_planned rfl rfl hd_X11_planned ⟨Nat.le_of_ble_eq_true rfl, Nat.le_of_ble_eq_true rfl⟩ ⟨by show _ + 0 ≤ 139614; omega, by show _ + 0 ≤ 8683408; omega⟩ [0, 13] [1, 2, 3, 4, 5, 6, 7, 8, 9, 10, 11, 12, 14, 15, 16, 17] (N0 := 18) rfl (by decide) (ms2 := (fun (U : Md × Md) => [wX11 E h0 a_nb U.1, wX12 E hm a_m m, wX8 E (a_nb 0) a_st st, wX2 E (a_st 2) a_la la, wX7 E (a_st 3) a_sp sp, wX0 E (a_st 4) a_ac ac, wX1 E (a_st 5) a_bd bd, wX6 E (a_st 6) a_sg sg, wX9 E (a_nb 2) a_tp tp, wX5 E (a_nb 3) a_hd hd, wX10 E (a_nb 4) a_vw vw, wX5 E (a_vw 6) a_o1 o1, wX5 E (a_vw 7) a_o2 o2, wX4 E (a_nb 5) a_pl U.2, wX3 E (a_nb 6) a_pp pp, i0, i1, i2])) rfl (fun _ => rfl) (fun _ => rfl) (fun _ => rfl) rfl (Nat.le_of_ble_eq_true rfl) dL_law_1218 (fun r1 U hw => ?_)
  obtain ⟨nb1, pl1⟩ := U
  refine v_aload_n C dL_law_1221 2 rfl ?_
  refine v_aload_n C dL_law_1222 0 rfl ?_
  refine v_iload_n C dL_law_1223 3 rfl ?_
  refine v_iconst (v := 1) C dL_law_1224 (by decide) ?_
  refine v_iadd C dL_law_1225 ?_
  refine v_sld (j := i + 1) C hL (nI_add i 1) (by omega) hL2 dL_law_1226 ?_
  refine v_callVMi (st := [.int r1]) (ci := 12) (qb := 5) C (kX12_planned hm a_m _ _ hw) mL_143 mI_X12 mC_X12_planned mN_X12_planned mS_X12_planned rfl rfl hd_X12_planned ⟨Nat.le_of_ble_eq_true rfl, Nat.le_of_ble_eq_true rfl⟩ ⟨by show _ + 0 ≤ 139614; omega, by show _ + 0 ≤ 8683408; omega⟩ [1] [0, 2, 3, 4, 5, 6, 7, 8, 9, 10, 11, 12, 13, 14, 15, 16, 17] (N0 := 18) rfl (by decide) (ms2 := (fun (U : Md) => [wX11 E h0 a_nb nb1, wX12 E hm a_m U, wX8 E (a_nb 0) a_st st, wX2 E (a_st 2) a_la la, wX7 E (a_st 3) a_sp sp, wX0 E (a_st 4) a_ac ac, wX1 E (a_st 5) a_bd bd, wX6 E (a_st 6) a_sg sg, wX9 E (a_nb 2) a_tp tp, wX5 E (a_nb 3) a_hd hd, wX10 E (a_nb 4) a_vw vw, wX5 E (a_vw 6) a_o1 o1, wX5 E (a_vw 7) a_o2 o2, wX4 E (a_nb 5) a_pl pl1, wX3 E (a_nb 6) a_pp pp, i0, i1, i2])) rfl (fun _ => rfl) (fun _ => rfl) (fun _ => rfl) rfl (Nat.le_of_ble_eq_true rfl) dL_law_1227 (fun r2 m1 hw => ?_)
  obtain ⟨he, hw⟩ := hw
  refine v_icmp_eq (tgt := 1578) C dL_law_1230 (by decide) (fun _ => ?_) (fun hc => absurd he hc)
  refine v_widen (a' := a + 53) (b' := b + 10240) C (by omega) (by omega) ?_
  exact kk nb1 m1 st la sp ac bd sg tp hd vw o1 o2 pl1 pp hw
set_option maxHeartbeats 4000000 in
set_option maxRecDepth 100000 in
theorem lawc_31 {X : VX} {E : VE} {l : Launch} {bb L : Nat} {xs : Nat → Int32} (C : VC X code 4 R_law room_1 E l) (hL : LWX X bb L xs) (hL2 : L ≤ 3072) (i : Nat) (hi : i + 6 ≤ L) {a b : Nat} (hab : a + 53 ≤ 139614 ∧ b + 10240 ≤ 8683408) (h0 hm : Nat) (a_nb : Nat → Nat) (a_m : Nat → Nat) (a_st : Nat → Nat) (a_la : Nat → Nat) (a_sp : Nat → Nat) (a_ac : Nat → Nat) (a_bd : Nat → Nat) (a_sg : Nat → Nat) (a_tp : Nat → Nat) (a_hd : Nat → Nat) (a_vw : Nat → Nat) (a_o1 : Nat → Nat) (a_o2 : Nat → Nat) (a_pl : Nat → Nat) (a_pp : Nat → Nat) (nb : Md) (m : Md) (st : Md) (la : Md) (sp : Md) (ac : Md) (bd : Md) (sg : Md) (tp : Md) (hd : Md) (vw : Md) (o1 : Md) (o2 : Md) (pl : Md) (pp : Md) (i0 i1 i2 : va_W) (P : Md → Md → Md → Md → Md → Md → Md → Md → Md → Md → Md → Md → Md → Md → Md → Prop) (hw : qX11_paper nb st pp (xs (i + 1)) (fun r1 nb1 st1 pp1 => qX12_paper m (xs (i + 1)) (fun r2 m1 => r1 = r2 ∧ P nb1 m1 st1 la sp ac bd sg tp hd vw o1 o2 pl pp1))) (kk : ∀ (nb1 : Md) (m1 : Md) (st1 : Md) (la1 : Md) (sp1 : Md) (ac1 : Md) (bd1 : Md) (sg1 : Md) (tp1 : Md) (hd1 : Md) (vw1 : Md) (o11 : Md) (o21 : Md) (pl1 : Md) (pp1 : Md), P nb1 m1 st1 la1 sp1 ac1 bd1 sg1 tp1 hd1 vw1 o11 o21 pl1 pp1 → VV X (a + 53) (b + 10240) ([wX11 E h0 a_nb nb1, wX12 E hm a_m m1, wX8 E (a_nb 0) a_st st1, wX2 E (a_st 2) a_la la1, wX7 E (a_st 3) a_sp sp1, wX0 E (a_st 4) a_ac ac1, wX1 E (a_st 5) a_bd bd1, wX6 E (a_st 6) a_sg sg1, wX9 E (a_nb 2) a_tp tp1, wX5 E (a_nb 3) a_hd hd1, wX10 E (a_nb 4) a_vw vw1, wX5 E (a_vw 6) a_o1 o11, wX5 E (a_vw 7) a_o2 o21, wX4 E (a_nb 5) a_pl pl1, wX3 E (a_nb 6) a_pp pp1, i0, i1, i2].flatten) [(0, .ref bb), (1, .ref h0), (2, .ref hm), (3, .int (nI i))] 1578 []) : VV X a b ([wX11 E h0 a_nb nb, wX12 E hm a_m m, wX8 E (a_nb 0) a_st st, wX2 E (a_st 2) a_la la, wX7 E (a_st 3) a_sp sp, wX0 E (a_st 4) a_ac ac, wX1 E (a_st 5) a_bd bd, wX6 E (a_st 6) a_sg sg, wX9 E (a_nb 2) a_tp tp, wX5 E (a_nb 3) a_hd hd, wX10 E (a_nb 4) a_vw vw, wX5 E (a_vw 6) a_o1 o1, wX5 E (a_vw 7) a_o2 o2, wX4 E (a_nb 5) a_pl pl, wX3 E (a_nb 6) a_pp pp, i0, i1, i2].flatten) [(0, .ref bb), (1, .ref h0), (2, .ref hm), (3, .int (nI i))] 1235 [] := by
  refine v_aload_n C dL_law_1235 1 rfl ?_
  refine v_aload_n C dL_law_1236 0 rfl ?_
  refine v_iload_n C dL_law_1237 3 rfl ?_
  refine v_iconst (v := 1) C dL_law_1238 (by decide) ?_
  refine v_iadd C dL_law_1239 ?_
  refine v_sld (j := i + 1) C hL (nI_add i 1) (by omega) hL2 dL_law_1240 ?_
  refine v_callVMi (st := []) (ci := 11) (qb := 0) C (kX11_paper h0 a_nb a_st a_pp _ _ _ _ hw) mL_144 mI_X11 mC_X11_paper mN_X11_paper mS_X11_paper rfl rfl hd_X11_paper ⟨Nat.le_of_ble_eq_true rfl, Nat.le_of_ble_eq_true rfl⟩ ⟨by show _ + 0 ≤ 139614; omega, by show _ + 0 ≤ 8683408; omega⟩ [0, 2, 14] [1, 3, 4, 5, 6, 7, 8, 9, 10, 11, 12, 13, 15, 16, 17] (N0 := 18) rfl (by decide) (ms2 := (fun (U : Md × Md × Md) => [wX11 E h0 a_nb U.1, wX12 E hm a_m m, wX8 E (a_nb 0) a_st U.2.1, wX2 E (a_st 2) a_la la, wX7 E (a_st 3) a_sp sp, wX0 E (a_st 4) a_ac ac, wX1 E (a_st 5) a_bd bd, wX6 E (a_st 6) a_sg sg, wX9 E (a_nb 2) a_tp tp, wX5 E (a_nb 3) a_hd hd, wX10 E (a_nb 4) a_vw vw, wX5 E (a_vw 6) a_o1 o1, wX5 E (a_vw 7) a_o2 o2, wX4 E (a_nb 5) a_pl pl, wX3 E (a_nb 6) a_pp U.2.2, i0, i1, i2])) rfl (fun _ => rfl) (fun _ => rfl) (fun _ => rfl) rfl (Nat.le_of_ble_eq_true rfl) dL_law_1241 (fun r1 U hw => ?_)
  obtain ⟨nb1, st1, pp1⟩ := U
  refine v_aload_n C dL_law_1244 2 rfl ?_
  refine v_aload_n C dL_law_1245 0 rfl ?_
  refine v_iload_n C dL_law_1246 3 rfl ?_
  refine v_iconst (v := 1) C dL_law_1247 (by decide) ?_
  refine v_iadd C dL_law_1248 ?_
  refine v_sld (j := i + 1) C hL (nI_add i 1) (by omega) hL2 dL_law_1249 ?_
  refine v_callVMi (st := [.int r1]) (ci := 12) (qb := 5) C (kX12_paper hm a_m _ _ hw) mL_147 mI_X12 mC_X12_paper mN_X12_paper mS_X12_paper rfl rfl hd_X12_paper ⟨Nat.le_of_ble_eq_true rfl, Nat.le_of_ble_eq_true rfl⟩ ⟨by show _ + 0 ≤ 139614; omega, by show _ + 0 ≤ 8683408; omega⟩ [1] [0, 2, 3, 4, 5, 6, 7, 8, 9, 10, 11, 12, 13, 14, 15, 16, 17] (N0 := 18) rfl (by decide) (ms2 := (fun (U : Md) => [wX11 E h0 a_nb nb1, wX12 E hm a_m U, wX8 E (a_nb 0) a_st st1, wX2 E (a_st 2) a_la la, wX7 E (a_st 3) a_sp sp, wX0 E (a_st 4) a_ac ac, wX1 E (a_st 5) a_bd bd, wX6 E (a_st 6) a_sg sg, wX9 E (a_nb 2) a_tp tp, wX5 E (a_nb 3) a_hd hd, wX10 E (a_nb 4) a_vw vw, wX5 E (a_vw 6) a_o1 o1, wX5 E (a_vw 7) a_o2 o2, wX4 E (a_nb 5) a_pl pl, wX3 E (a_nb 6) a_pp pp1, i0, i1, i2])) rfl (fun _ => rfl) (fun _ => rfl) (fun _ => rfl) rfl (Nat.le_of_ble_eq_true rfl) dL_law_1250 (fun r2 m1 hw => ?_)
  obtain ⟨he, hw⟩ := hw
  refine v_icmp_eq (tgt := 1578) C dL_law_1253 (by decide) (fun _ => ?_) (fun hc => absurd he hc)
  refine v_widen (a' := a + 53) (b' := b + 10240) C (by omega) (by omega) ?_
  exact kk nb1 m1 st1 la sp ac bd sg tp hd vw o1 o2 pl pp1 hw
set_option maxHeartbeats 4000000 in
set_option maxRecDepth 100000 in
theorem lawc_32 {X : VX} {E : VE} {l : Launch} {bb L : Nat} {xs : Nat → Int32} (C : VC X code 4 R_law room_1 E l) (hL : LWX X bb L xs) (hL2 : L ≤ 3072) (i : Nat) (hi : i + 6 ≤ L) {a b : Nat} (hab : a + 53 ≤ 139614 ∧ b + 10240 ≤ 8683408) (h0 hm : Nat) (a_nb : Nat → Nat) (a_m : Nat → Nat) (a_st : Nat → Nat) (a_la : Nat → Nat) (a_sp : Nat → Nat) (a_ac : Nat → Nat) (a_bd : Nat → Nat) (a_sg : Nat → Nat) (a_tp : Nat → Nat) (a_hd : Nat → Nat) (a_vw : Nat → Nat) (a_o1 : Nat → Nat) (a_o2 : Nat → Nat) (a_pl : Nat → Nat) (a_pp : Nat → Nat) (nb : Md) (m : Md) (st : Md) (la : Md) (sp : Md) (ac : Md) (bd : Md) (sg : Md) (tp : Md) (hd : Md) (vw : Md) (o1 : Md) (o2 : Md) (pl : Md) (pp : Md) (i0 i1 i2 : va_W) (P : Md → Md → Md → Md → Md → Md → Md → Md → Md → Md → Md → Md → Md → Md → Md → Prop) (hw : qX11_written nb tp pp  (fun r1 nb1 tp1 pp1 => qX12_written m  (fun r2 m1 => r1 = r2 ∧ P nb1 m1 st la sp ac bd sg tp1 hd vw o1 o2 pl pp1))) (kk : ∀ (nb1 : Md) (m1 : Md) (st1 : Md) (la1 : Md) (sp1 : Md) (ac1 : Md) (bd1 : Md) (sg1 : Md) (tp1 : Md) (hd1 : Md) (vw1 : Md) (o11 : Md) (o21 : Md) (pl1 : Md) (pp1 : Md), P nb1 m1 st1 la1 sp1 ac1 bd1 sg1 tp1 hd1 vw1 o11 o21 pl1 pp1 → VV X (a + 53) (b + 10240) ([wX11 E h0 a_nb nb1, wX12 E hm a_m m1, wX8 E (a_nb 0) a_st st1, wX2 E (a_st 2) a_la la1, wX7 E (a_st 3) a_sp sp1, wX0 E (a_st 4) a_ac ac1, wX1 E (a_st 5) a_bd bd1, wX6 E (a_st 6) a_sg sg1, wX9 E (a_nb 2) a_tp tp1, wX5 E (a_nb 3) a_hd hd1, wX10 E (a_nb 4) a_vw vw1, wX5 E (a_vw 6) a_o1 o11, wX5 E (a_vw 7) a_o2 o21, wX4 E (a_nb 5) a_pl pl1, wX3 E (a_nb 6) a_pp pp1, i0, i1, i2].flatten) [(0, .ref bb), (1, .ref h0), (2, .ref hm), (3, .int (nI i))] 1578 []) : VV X a b ([wX11 E h0 a_nb nb, wX12 E hm a_m m, wX8 E (a_nb 0) a_st st, wX2 E (a_st 2) a_la la, wX7 E (a_st 3) a_sp sp, wX0 E (a_st 4) a_ac ac, wX1 E (a_st 5) a_bd bd, wX6 E (a_st 6) a_sg sg, wX9 E (a_nb 2) a_tp tp, wX5 E (a_nb 3) a_hd hd, wX10 E (a_nb 4) a_vw vw, wX5 E (a_vw 6) a_o1 o1, wX5 E (a_vw 7) a_o2 o2, wX4 E (a_nb 5) a_pl pl, wX3 E (a_nb 6) a_pp pp, i0, i1, i2].flatten) [(0, .ref bb), (1, .ref h0), (2, .ref hm), (3, .int (nI i))] 1258 [] := by
  refine v_aload_n C dL_law_1258 1 rfl ?_
  refine v_callVMi (st := []) (ci := 11) (qb := 0) C (kX11_written h0 a_nb a_tp a_pp _ _ _ hw) mL_148 mI_X11 mC_X11_written mN_X11_written mS_X11_written rfl rfl hd_X11_written ⟨Nat.le_of_ble_eq_true rfl, Nat.le_of_ble_eq_true rfl⟩ ⟨by show _ + 0 ≤ 139614; omega, by show _ + 0 ≤ 8683408; omega⟩ [0, 8, 14] [1, 2, 3, 4, 5, 6, 7, 9, 10, 11, 12, 13, 15, 16, 17] (N0 := 18) rfl (by decide) (ms2 := (fun (U : Md × Md × Md) => [wX11 E h0 a_nb U.1, wX12 E hm a_m m, wX8 E (a_nb 0) a_st st, wX2 E (a_st 2) a_la la, wX7 E (a_st 3) a_sp sp, wX0 E (a_st 4) a_ac ac, wX1 E (a_st 5) a_bd bd, wX6 E (a_st 6) a_sg sg, wX9 E (a_nb 2) a_tp U.2.1, wX5 E (a_nb 3) a_hd hd, wX10 E (a_nb 4) a_vw vw, wX5 E (a_vw 6) a_o1 o1, wX5 E (a_vw 7) a_o2 o2, wX4 E (a_nb 5) a_pl pl, wX3 E (a_nb 6) a_pp U.2.2, i0, i1, i2])) rfl (fun _ => rfl) (fun _ => rfl) (fun _ => rfl) rfl (Nat.le_of_ble_eq_true rfl) dL_law_1259 (fun r1 U hw => ?_)
  obtain ⟨nb1, tp1, pp1⟩ := U
  refine v_aload_n C dL_law_1262 2 rfl ?_
  refine v_callVMi (st := [.int r1]) (ci := 12) (qb := 5) C (kX12_written hm a_m _ hw) mL_151 mI_X12 mC_X12_written mN_X12_written mS_X12_written rfl rfl hd_X12_written ⟨Nat.le_of_ble_eq_true rfl, Nat.le_of_ble_eq_true rfl⟩ ⟨by show _ + 0 ≤ 139614; omega, by show _ + 0 ≤ 8683408; omega⟩ [1] [0, 2, 3, 4, 5, 6, 7, 8, 9, 10, 11, 12, 13, 14, 15, 16, 17] (N0 := 18) rfl (by decide) (ms2 := (fun (U : Md) => [wX11 E h0 a_nb nb1, wX12 E hm a_m U, wX8 E (a_nb 0) a_st st, wX2 E (a_st 2) a_la la, wX7 E (a_st 3) a_sp sp, wX0 E (a_st 4) a_ac ac, wX1 E (a_st 5) a_bd bd, wX6 E (a_st 6) a_sg sg, wX9 E (a_nb 2) a_tp tp1, wX5 E (a_nb 3) a_hd hd, wX10 E (a_nb 4) a_vw vw, wX5 E (a_vw 6) a_o1 o1, wX5 E (a_vw 7) a_o2 o2, wX4 E (a_nb 5) a_pl pl, wX3 E (a_nb 6) a_pp pp1, i0, i1, i2])) rfl (fun _ => rfl) (fun _ => rfl) (fun _ => rfl) rfl (Nat.le_of_ble_eq_true rfl) dL_law_1263 (fun r2 m1 hw => ?_)
  obtain ⟨he, hw⟩ := hw
  refine v_icmp_eq (tgt := 1578) C dL_law_1266 (by decide) (fun _ => ?_) (fun hc => absurd he hc)
  refine v_widen (a' := a + 53) (b' := b + 10240) C (by omega) (by omega) ?_
  exact kk nb1 m1 st la sp ac bd sg tp1 hd vw o1 o2 pl pp1 hw
set_option maxHeartbeats 4000000 in
set_option maxRecDepth 100000 in
theorem lawc_33 {X : VX} {E : VE} {l : Launch} {bb L : Nat} {xs : Nat → Int32} (C : VC X code 4 R_law room_1 E l) (hL : LWX X bb L xs) (hL2 : L ≤ 3072) (i : Nat) (hi : i + 6 ≤ L) {a b : Nat} (hab : a + 53 ≤ 139614 ∧ b + 10240 ≤ 8683408) (h0 hm : Nat) (a_nb : Nat → Nat) (a_m : Nat → Nat) (a_st : Nat → Nat) (a_la : Nat → Nat) (a_sp : Nat → Nat) (a_ac : Nat → Nat) (a_bd : Nat → Nat) (a_sg : Nat → Nat) (a_tp : Nat → Nat) (a_hd : Nat → Nat) (a_vw : Nat → Nat) (a_o1 : Nat → Nat) (a_o2 : Nat → Nat) (a_pl : Nat → Nat) (a_pp : Nat → Nat) (nb : Md) (m : Md) (st : Md) (la : Md) (sp : Md) (ac : Md) (bd : Md) (sg : Md) (tp : Md) (hd : Md) (vw : Md) (o1 : Md) (o2 : Md) (pl : Md) (pp : Md) (i0 i1 i2 : va_W) (P : Md → Md → Md → Md → Md → Md → Md → Md → Md → Md → Md → Md → Md → Md → Md → Prop) (hw : qX11_join nb st la sp vw o1 o2 pp  (fun r1 nb1 st1 la1 sp1 vw1 o11 o21 pp1 => qX12_join m  (fun r2 m1 => r1 = r2 ∧ P nb1 m1 st1 la1 sp1 ac bd sg tp hd vw1 o11 o21 pl pp1))) (kk : ∀ (nb1 : Md) (m1 : Md) (st1 : Md) (la1 : Md) (sp1 : Md) (ac1 : Md) (bd1 : Md) (sg1 : Md) (tp1 : Md) (hd1 : Md) (vw1 : Md) (o11 : Md) (o21 : Md) (pl1 : Md) (pp1 : Md), P nb1 m1 st1 la1 sp1 ac1 bd1 sg1 tp1 hd1 vw1 o11 o21 pl1 pp1 → VV X (a + 53) (b + 10240) ([wX11 E h0 a_nb nb1, wX12 E hm a_m m1, wX8 E (a_nb 0) a_st st1, wX2 E (a_st 2) a_la la1, wX7 E (a_st 3) a_sp sp1, wX0 E (a_st 4) a_ac ac1, wX1 E (a_st 5) a_bd bd1, wX6 E (a_st 6) a_sg sg1, wX9 E (a_nb 2) a_tp tp1, wX5 E (a_nb 3) a_hd hd1, wX10 E (a_nb 4) a_vw vw1, wX5 E (a_vw 6) a_o1 o11, wX5 E (a_vw 7) a_o2 o21, wX4 E (a_nb 5) a_pl pl1, wX3 E (a_nb 6) a_pp pp1, i0, i1, i2].flatten) [(0, .ref bb), (1, .ref h0), (2, .ref hm), (3, .int (nI i))] 1578 []) : VV X a b ([wX11 E h0 a_nb nb, wX12 E hm a_m m, wX8 E (a_nb 0) a_st st, wX2 E (a_st 2) a_la la, wX7 E (a_st 3) a_sp sp, wX0 E (a_st 4) a_ac ac, wX1 E (a_st 5) a_bd bd, wX6 E (a_st 6) a_sg sg, wX9 E (a_nb 2) a_tp tp, wX5 E (a_nb 3) a_hd hd, wX10 E (a_nb 4) a_vw vw, wX5 E (a_vw 6) a_o1 o1, wX5 E (a_vw 7) a_o2 o2, wX4 E (a_nb 5) a_pl pl, wX3 E (a_nb 6) a_pp pp, i0, i1, i2].flatten) [(0, .ref bb), (1, .ref h0), (2, .ref hm), (3, .int (nI i))] 1271 [] := by
  refine v_aload_n C dL_law_1271 1 rfl ?_
  refine v_callVMi (st := []) (ci := 11) (qb := 0) C (kX11_join h0 a_nb a_st a_la a_sp a_vw a_o1 a_o2 a_pp _ _ _ _ _ _ _ _ hw) mL_152 mI_X11 mC_X11_join mN_X11_join mS_X11_join rfl rfl hd_X11_join ⟨Nat.le_of_ble_eq_true rfl, Nat.le_of_ble_eq_true rfl⟩ ⟨by show _ + 1 ≤ 139614; omega, by show _ + 10240 ≤ 8683408; omega⟩ [0, 2, 3, 4, 10, 11, 12, 14] [1, 5, 6, 7, 8, 9, 13, 15, 16, 17] (N0 := 18) rfl (by decide) (ms2 := (fun (U : Md × Md × Md × Md × Md × Md × Md × Md) => [wX11 E h0 a_nb U.1, wX12 E hm a_m m, wX8 E (a_nb 0) a_st U.2.1, wX2 E (a_st 2) a_la U.2.2.1, wX7 E (a_st 3) a_sp U.2.2.2.1, wX0 E (a_st 4) a_ac ac, wX1 E (a_st 5) a_bd bd, wX6 E (a_st 6) a_sg sg, wX9 E (a_nb 2) a_tp tp, wX5 E (a_nb 3) a_hd hd, wX10 E (a_nb 4) a_vw U.2.2.2.2.1, wX5 E (a_vw 6) a_o1 U.2.2.2.2.2.1, wX5 E (a_vw 7) a_o2 U.2.2.2.2.2.2.1, wX4 E (a_nb 5) a_pl pl, wX3 E (a_nb 6) a_pp U.2.2.2.2.2.2.2, i0, i1, i2])) rfl (fun _ => rfl) (fun _ => rfl) (fun _ => rfl) rfl (Nat.le_of_ble_eq_true rfl) dL_law_1272 (fun r1 U hw => ?_)
  obtain ⟨nb1, st1, la1, sp1, vw1, o11, o21, pp1⟩ := U
  refine v_aload_n C dL_law_1275 2 rfl ?_
  refine v_callVMi (st := [.int r1]) (ci := 12) (qb := 5) C (kX12_join hm a_m _ hw) mL_155 mI_X12 mC_X12_join mN_X12_join mS_X12_join rfl rfl hd_X12_join ⟨Nat.le_of_ble_eq_true rfl, Nat.le_of_ble_eq_true rfl⟩ ⟨by show _ + 0 ≤ 139614; omega, by show _ + 0 ≤ 8683408; omega⟩ [1] [0, 2, 3, 4, 5, 6, 7, 8, 9, 10, 11, 12, 13, 14, 15, 16, 17] (N0 := 18) rfl (by decide) (ms2 := (fun (U : Md) => [wX11 E h0 a_nb nb1, wX12 E hm a_m U, wX8 E (a_nb 0) a_st st1, wX2 E (a_st 2) a_la la1, wX7 E (a_st 3) a_sp sp1, wX0 E (a_st 4) a_ac ac, wX1 E (a_st 5) a_bd bd, wX6 E (a_st 6) a_sg sg, wX9 E (a_nb 2) a_tp tp, wX5 E (a_nb 3) a_hd hd, wX10 E (a_nb 4) a_vw vw1, wX5 E (a_vw 6) a_o1 o11, wX5 E (a_vw 7) a_o2 o21, wX4 E (a_nb 5) a_pl pl, wX3 E (a_nb 6) a_pp pp1, i0, i1, i2])) rfl (fun _ => rfl) (fun _ => rfl) (fun _ => rfl) rfl (Nat.le_of_ble_eq_true rfl) dL_law_1276 (fun r2 m1 hw => ?_)
  obtain ⟨he, hw⟩ := hw
  refine v_icmp_eq (tgt := 1578) C dL_law_1279 (by decide) (fun _ => ?_) (fun hc => absurd he hc)
  refine v_widen (a' := a + 53) (b' := b + 10240) C (by omega) (by omega) ?_
  exact kk nb1 m1 st1 la1 sp1 ac bd sg tp hd vw1 o11 o21 pl pp1 hw
set_option maxHeartbeats 4000000 in
set_option maxRecDepth 100000 in
theorem lawc_34 {X : VX} {E : VE} {l : Launch} {bb L : Nat} {xs : Nat → Int32} (C : VC X code 4 R_law room_1 E l) (hL : LWX X bb L xs) (hL2 : L ≤ 3072) (i : Nat) (hi : i + 6 ≤ L) {a b : Nat} (hab : a + 53 ≤ 139614 ∧ b + 10240 ≤ 8683408) (h0 hm : Nat) (a_nb : Nat → Nat) (a_m : Nat → Nat) (a_st : Nat → Nat) (a_la : Nat → Nat) (a_sp : Nat → Nat) (a_ac : Nat → Nat) (a_bd : Nat → Nat) (a_sg : Nat → Nat) (a_tp : Nat → Nat) (a_hd : Nat → Nat) (a_vw : Nat → Nat) (a_o1 : Nat → Nat) (a_o2 : Nat → Nat) (a_pl : Nat → Nat) (a_pp : Nat → Nat) (nb : Md) (m : Md) (st : Md) (la : Md) (sp : Md) (ac : Md) (bd : Md) (sg : Md) (tp : Md) (hd : Md) (vw : Md) (o1 : Md) (o2 : Md) (pl : Md) (pp : Md) (i0 i1 i2 : va_W) (P : Md → Md → Md → Md → Md → Md → Md → Md → Md → Md → Md → Md → Md → Md → Md → Prop) (hw : qX11_joined nb pp (xs (i + 1)) (fun r1 nb1 pp1 => qX12_joined m (xs (i + 1)) (fun r2 m1 => r1 = r2 ∧ P nb1 m1 st la sp ac bd sg tp hd vw o1 o2 pl pp1))) (kk : ∀ (nb1 : Md) (m1 : Md) (st1 : Md) (la1 : Md) (sp1 : Md) (ac1 : Md) (bd1 : Md) (sg1 : Md) (tp1 : Md) (hd1 : Md) (vw1 : Md) (o11 : Md) (o21 : Md) (pl1 : Md) (pp1 : Md), P nb1 m1 st1 la1 sp1 ac1 bd1 sg1 tp1 hd1 vw1 o11 o21 pl1 pp1 → VV X (a + 53) (b + 10240) ([wX11 E h0 a_nb nb1, wX12 E hm a_m m1, wX8 E (a_nb 0) a_st st1, wX2 E (a_st 2) a_la la1, wX7 E (a_st 3) a_sp sp1, wX0 E (a_st 4) a_ac ac1, wX1 E (a_st 5) a_bd bd1, wX6 E (a_st 6) a_sg sg1, wX9 E (a_nb 2) a_tp tp1, wX5 E (a_nb 3) a_hd hd1, wX10 E (a_nb 4) a_vw vw1, wX5 E (a_vw 6) a_o1 o11, wX5 E (a_vw 7) a_o2 o21, wX4 E (a_nb 5) a_pl pl1, wX3 E (a_nb 6) a_pp pp1, i0, i1, i2].flatten) [(0, .ref bb), (1, .ref h0), (2, .ref hm), (3, .int (nI i))] 1578 []) : VV X a b ([wX11 E h0 a_nb nb, wX12 E hm a_m m, wX8 E (a_nb 0) a_st st, wX2 E (a_st 2) a_la la, wX7 E (a_st 3) a_sp sp, wX0 E (a_st 4) a_ac ac, wX1 E (a_st 5) a_bd bd, wX6 E (a_st 6) a_sg sg, wX9 E (a_nb 2) a_tp tp, wX5 E (a_nb 3) a_hd hd, wX10 E (a_nb 4) a_vw vw, wX5 E (a_vw 6) a_o1 o1, wX5 E (a_vw 7) a_o2 o2, wX4 E (a_nb 5) a_pl pl, wX3 E (a_nb 6) a_pp pp, i0, i1, i2].flatten) [(0, .ref bb), (1, .ref h0), (2, .ref hm), (3, .int (nI i))] 1284 [] := by
  refine v_aload_n C dL_law_1284 1 rfl ?_
  refine v_aload_n C dL_law_1285 0 rfl ?_
  refine v_iload_n C dL_law_1286 3 rfl ?_
  refine v_iconst (v := 1) C dL_law_1287 (by decide) ?_
  refine v_iadd C dL_law_1288 ?_
  refine v_sld (j := i + 1) C hL (nI_add i 1) (by omega) hL2 dL_law_1289 ?_
  refine v_callVMi (st := []) (ci := 11) (qb := 0) C (kX11_joined h0 a_nb a_pp _ _ _ hw) mL_156 mI_X11 mC_X11_joined mN_X11_joined mS_X11_joined rfl rfl hd_X11_joined ⟨Nat.le_of_ble_eq_true rfl, Nat.le_of_ble_eq_true rfl⟩ ⟨by show _ + 0 ≤ 139614; omega, by show _ + 0 ≤ 8683408; omega⟩ [0, 14] [1, 2, 3, 4, 5, 6, 7, 8, 9, 10, 11, 12, 13, 15, 16, 17] (N0 := 18) rfl (by decide) (ms2 := (fun (U : Md × Md) => [wX11 E h0 a_nb U.1, wX12 E hm a_m m, wX8 E (a_nb 0) a_st st, wX2 E (a_st 2) a_la la, wX7 E (a_st 3) a_sp sp, wX0 E (a_st 4) a_ac ac, wX1 E (a_st 5) a_bd bd, wX6 E (a_st 6) a_sg sg, wX9 E (a_nb 2) a_tp tp, wX5 E (a_nb 3) a_hd hd, wX10 E (a_nb 4) a_vw vw, wX5 E (a_vw 6) a_o1 o1, wX5 E (a_vw 7) a_o2 o2, wX4 E (a_nb 5) a_pl pl, wX3 E (a_nb 6) a_pp U.2, i0, i1, i2])) rfl (fun _ => rfl) (fun _ => rfl) (fun _ => rfl) rfl (Nat.le_of_ble_eq_true rfl) dL_law_1290 (fun r1 U hw => ?_)
  obtain ⟨nb1, pp1⟩ := U
  refine v_aload_n C dL_law_1293 2 rfl ?_
  refine v_aload_n C dL_law_1294 0 rfl ?_
  refine v_iload_n C dL_law_1295 3 rfl ?_
  refine v_iconst (v := 1) C dL_law_1296 (by decide) ?_
  refine v_iadd C dL_law_1297 ?_
  refine v_sld (j := i + 1) C hL (nI_add i 1) (by omega) hL2 dL_law_1298 ?_
  refine v_callVMi (st := [.int r1]) (ci := 12) (qb := 5) C (kX12_joined hm a_m _ _ hw) mL_159 mI_X12 mC_X12_joined mN_X12_joined mS_X12_joined rfl rfl hd_X12_joined ⟨Nat.le_of_ble_eq_true rfl, Nat.le_of_ble_eq_true rfl⟩ ⟨by show _ + 0 ≤ 139614; omega, by show _ + 0 ≤ 8683408; omega⟩ [1] [0, 2, 3, 4, 5, 6, 7, 8, 9, 10, 11, 12, 13, 14, 15, 16, 17] (N0 := 18) rfl (by decide) (ms2 := (fun (U : Md) => [wX11 E h0 a_nb nb1, wX12 E hm a_m U, wX8 E (a_nb 0) a_st st, wX2 E (a_st 2) a_la la, wX7 E (a_st 3) a_sp sp, wX0 E (a_st 4) a_ac ac, wX1 E (a_st 5) a_bd bd, wX6 E (a_st 6) a_sg sg, wX9 E (a_nb 2) a_tp tp, wX5 E (a_nb 3) a_hd hd, wX10 E (a_nb 4) a_vw vw, wX5 E (a_vw 6) a_o1 o1, wX5 E (a_vw 7) a_o2 o2, wX4 E (a_nb 5) a_pl pl, wX3 E (a_nb 6) a_pp pp1, i0, i1, i2])) rfl (fun _ => rfl) (fun _ => rfl) (fun _ => rfl) rfl (Nat.le_of_ble_eq_true rfl) dL_law_1299 (fun r2 m1 hw => ?_)
  obtain ⟨he, hw⟩ := hw
  refine v_icmp_eq (tgt := 1578) C dL_law_1302 (by decide) (fun _ => ?_) (fun hc => absurd he hc)
  refine v_widen (a' := a + 53) (b' := b + 10240) C (by omega) (by omega) ?_
  exact kk nb1 m1 st la sp ac bd sg tp hd vw o1 o2 pl pp1 hw
set_option maxHeartbeats 4000000 in
set_option maxRecDepth 100000 in
theorem lawc_35 {X : VX} {E : VE} {l : Launch} {bb L : Nat} {xs : Nat → Int32} (C : VC X code 4 R_law room_1 E l) (hL : LWX X bb L xs) (hL2 : L ≤ 3072) (i : Nat) (hi : i + 6 ≤ L) {a b : Nat} (hab : a + 53 ≤ 139614 ∧ b + 10240 ≤ 8683408) (h0 hm : Nat) (a_nb : Nat → Nat) (a_m : Nat → Nat) (a_st : Nat → Nat) (a_la : Nat → Nat) (a_sp : Nat → Nat) (a_ac : Nat → Nat) (a_bd : Nat → Nat) (a_sg : Nat → Nat) (a_tp : Nat → Nat) (a_hd : Nat → Nat) (a_vw : Nat → Nat) (a_o1 : Nat → Nat) (a_o2 : Nat → Nat) (a_pl : Nat → Nat) (a_pp : Nat → Nat) (nb : Md) (m : Md) (st : Md) (la : Md) (sp : Md) (ac : Md) (bd : Md) (sg : Md) (tp : Md) (hd : Md) (vw : Md) (o1 : Md) (o2 : Md) (pl : Md) (pp : Md) (i0 i1 i2 : va_W) (P : Md → Md → Md → Md → Md → Md → Md → Md → Md → Md → Md → Md → Md → Md → Md → Prop) (hw : qX11_count nb st la sp ac bd sg tp vw o1 o2 pp (xs (i + 1)) (fun r1 nb1 st1 la1 sp1 ac1 bd1 sg1 tp1 vw1 o11 o21 pp1 => qX12_count m (xs (i + 1)) (fun r2 m1 => r1 = r2 ∧ P nb1 m1 st1 la1 sp1 ac1 bd1 sg1 tp1 hd vw1 o11 o21 pl pp1))) (kk : ∀ (nb1 : Md) (m1 : Md) (st1 : Md) (la1 : Md) (sp1 : Md) (ac1 : Md) (bd1 : Md) (sg1 : Md) (tp1 : Md) (hd1 : Md) (vw1 : Md) (o11 : Md) (o21 : Md) (pl1 : Md) (pp1 : Md), P nb1 m1 st1 la1 sp1 ac1 bd1 sg1 tp1 hd1 vw1 o11 o21 pl1 pp1 → VV X (a + 53) (b + 10240) ([wX11 E h0 a_nb nb1, wX12 E hm a_m m1, wX8 E (a_nb 0) a_st st1, wX2 E (a_st 2) a_la la1, wX7 E (a_st 3) a_sp sp1, wX0 E (a_st 4) a_ac ac1, wX1 E (a_st 5) a_bd bd1, wX6 E (a_st 6) a_sg sg1, wX9 E (a_nb 2) a_tp tp1, wX5 E (a_nb 3) a_hd hd1, wX10 E (a_nb 4) a_vw vw1, wX5 E (a_vw 6) a_o1 o11, wX5 E (a_vw 7) a_o2 o21, wX4 E (a_nb 5) a_pl pl1, wX3 E (a_nb 6) a_pp pp1, i0, i1, i2].flatten) [(0, .ref bb), (1, .ref h0), (2, .ref hm), (3, .int (nI i))] 1578 []) : VV X a b ([wX11 E h0 a_nb nb, wX12 E hm a_m m, wX8 E (a_nb 0) a_st st, wX2 E (a_st 2) a_la la, wX7 E (a_st 3) a_sp sp, wX0 E (a_st 4) a_ac ac, wX1 E (a_st 5) a_bd bd, wX6 E (a_st 6) a_sg sg, wX9 E (a_nb 2) a_tp tp, wX5 E (a_nb 3) a_hd hd, wX10 E (a_nb 4) a_vw vw, wX5 E (a_vw 6) a_o1 o1, wX5 E (a_vw 7) a_o2 o2, wX4 E (a_nb 5) a_pl pl, wX3 E (a_nb 6) a_pp pp, i0, i1, i2].flatten) [(0, .ref bb), (1, .ref h0), (2, .ref hm), (3, .int (nI i))] 1307 [] := by
  refine v_aload_n C dL_law_1307 1 rfl ?_
  refine v_aload_n C dL_law_1308 0 rfl ?_
  refine v_iload_n C dL_law_1309 3 rfl ?_
  refine v_iconst (v := 1) C dL_law_1310 (by decide) ?_
  refine v_iadd C dL_law_1311 ?_
  refine v_sld (j := i + 1) C hL (nI_add i 1) (by omega) hL2 dL_law_1312 ?_
  refine v_callVMi (st := []) (ci := 11) (qb := 0) C (kX11_count h0 a_nb a_st a_la a_sp a_ac a_bd a_sg a_tp a_vw a_o1 a_o2 a_pp _ _ _ _ _ _ _ _ _ _ _ _ _ hw) mL_160 mI_X11 mC_X11_count mN_X11_count mS_X11_count rfl rfl hd_X11_count ⟨Nat.le_of_ble_eq_true rfl, Nat.le_of_ble_eq_true rfl⟩ ⟨by show _ + 0 ≤ 139614; omega, by show _ + 0 ≤ 8683408; omega⟩ [0, 2, 3, 4, 5, 6, 7, 8, 10, 11, 12, 14] [1, 9, 13, 15, 16, 17] (N0 := 18) rfl (by decide) (ms2 := (fun (U : Md × Md × Md × Md × Md × Md × Md × Md × Md × Md × Md × Md) => [wX11 E h0 a_nb U.1, wX12 E hm a_m m, wX8 E (a_nb 0) a_st U.2.1, wX2 E (a_st 2) a_la U.2.2.1, wX7 E (a_st 3) a_sp U.2.2.2.1, wX0 E (a_st 4) a_ac U.2.2.2.2.1, wX1 E (a_st 5) a_bd U.2.2.2.2.2.1, wX6 E (a_st 6) a_sg U.2.2.2.2.2.2.1, wX9 E (a_nb 2) a_tp U.2.2.2.2.2.2.2.1, wX5 E (a_nb 3) a_hd hd, wX10 E (a_nb 4) a_vw U.2.2.2.2.2.2.2.2.1, wX5 E (a_vw 6) a_o1 U.2.2.2.2.2.2.2.2.2.1, wX5 E (a_vw 7) a_o2 U.2.2.2.2.2.2.2.2.2.2.1, wX4 E (a_nb 5) a_pl pl, wX3 E (a_nb 6) a_pp U.2.2.2.2.2.2.2.2.2.2.2, i0, i1, i2])) rfl (fun _ => rfl) (fun _ => rfl) (fun _ => rfl) rfl (Nat.le_of_ble_eq_true rfl) dL_law_1313 (fun r1 U hw => ?_)
  obtain ⟨nb1, st1, la1, sp1, ac1, bd1, sg1, tp1, vw1, o11, o21, pp1⟩ := U
  refine v_aload_n C dL_law_1316 2 rfl ?_
  refine v_aload_n C dL_law_1317 0 rfl ?_
  refine v_iload_n C dL_law_1318 3 rfl ?_
  refine v_iconst (v := 1) C dL_law_1319 (by decide) ?_
  refine v_iadd C dL_law_1320 ?_
  refine v_sld (j := i + 1) C hL (nI_add i 1) (by omega) hL2 dL_law_1321 ?_
  refine v_callVMi (st := [.int r1]) (ci := 12) (qb := 5) C (kX12_count hm a_m _ _ hw) mL_163 mI_X12 mC_X12_count mN_X12_count mS_X12_count rfl rfl hd_X12_count ⟨Nat.le_of_ble_eq_true rfl, Nat.le_of_ble_eq_true rfl⟩ ⟨by show _ + 0 ≤ 139614; omega, by show _ + 0 ≤ 8683408; omega⟩ [1] [0, 2, 3, 4, 5, 6, 7, 8, 9, 10, 11, 12, 13, 14, 15, 16, 17] (N0 := 18) rfl (by decide) (ms2 := (fun (U : Md) => [wX11 E h0 a_nb nb1, wX12 E hm a_m U, wX8 E (a_nb 0) a_st st1, wX2 E (a_st 2) a_la la1, wX7 E (a_st 3) a_sp sp1, wX0 E (a_st 4) a_ac ac1, wX1 E (a_st 5) a_bd bd1, wX6 E (a_st 6) a_sg sg1, wX9 E (a_nb 2) a_tp tp1, wX5 E (a_nb 3) a_hd hd, wX10 E (a_nb 4) a_vw vw1, wX5 E (a_vw 6) a_o1 o11, wX5 E (a_vw 7) a_o2 o21, wX4 E (a_nb 5) a_pl pl, wX3 E (a_nb 6) a_pp pp1, i0, i1, i2])) rfl (fun _ => rfl) (fun _ => rfl) (fun _ => rfl) rfl (Nat.le_of_ble_eq_true rfl) dL_law_1322 (fun r2 m1 hw => ?_)
  obtain ⟨he, hw⟩ := hw
  refine v_icmp_eq (tgt := 1578) C dL_law_1325 (by decide) (fun _ => ?_) (fun hc => absurd he hc)
  refine v_widen (a' := a + 53) (b' := b + 10240) C (by omega) (by omega) ?_
  exact kk nb1 m1 st1 la1 sp1 ac1 bd1 sg1 tp1 hd vw1 o11 o21 pl pp1 hw
set_option maxHeartbeats 4000000 in
set_option maxRecDepth 100000 in
theorem lawc_38 {X : VX} {E : VE} {l : Launch} {bb L : Nat} {xs : Nat → Int32} (C : VC X code 4 R_law room_1 E l) (hL : LWX X bb L xs) (hL2 : L ≤ 3072) (i : Nat) (hi : i + 6 ≤ L) {a b : Nat} (hab : a + 53 ≤ 139614 ∧ b + 10240 ≤ 8683408) (h0 hm : Nat) (a_nb : Nat → Nat) (a_m : Nat → Nat) (a_st : Nat → Nat) (a_la : Nat → Nat) (a_sp : Nat → Nat) (a_ac : Nat → Nat) (a_bd : Nat → Nat) (a_sg : Nat → Nat) (a_tp : Nat → Nat) (a_hd : Nat → Nat) (a_vw : Nat → Nat) (a_o1 : Nat → Nat) (a_o2 : Nat → Nat) (a_pl : Nat → Nat) (a_pp : Nat → Nat) (nb : Md) (m : Md) (st : Md) (la : Md) (sp : Md) (ac : Md) (bd : Md) (sg : Md) (tp : Md) (hd : Md) (vw : Md) (o1 : Md) (o2 : Md) (pl : Md) (pp : Md) (i0 i1 i2 : va_W) (P : Md → Md → Md → Md → Md → Md → Md → Md → Md → Md → Md → Md → Md → Md → Md → Prop) (hw : qX11_row nb (xs (i + 1)) (xs (i + 2)) (xs (i + 3)) (fun r1 nb1 => qX12_row m (xs (i + 1)) (xs (i + 2)) (xs (i + 3)) (fun r2 m1 => r1 = r2 ∧ P nb1 m1 st la sp ac bd sg tp hd vw o1 o2 pl pp))) (kk : ∀ (nb1 : Md) (m1 : Md) (st1 : Md) (la1 : Md) (sp1 : Md) (ac1 : Md) (bd1 : Md) (sg1 : Md) (tp1 : Md) (hd1 : Md) (vw1 : Md) (o11 : Md) (o21 : Md) (pl1 : Md) (pp1 : Md), P nb1 m1 st1 la1 sp1 ac1 bd1 sg1 tp1 hd1 vw1 o11 o21 pl1 pp1 → VV X (a + 53) (b + 10240) ([wX11 E h0 a_nb nb1, wX12 E hm a_m m1, wX8 E (a_nb 0) a_st st1, wX2 E (a_st 2) a_la la1, wX7 E (a_st 3) a_sp sp1, wX0 E (a_st 4) a_ac ac1, wX1 E (a_st 5) a_bd bd1, wX6 E (a_st 6) a_sg sg1, wX9 E (a_nb 2) a_tp tp1, wX5 E (a_nb 3) a_hd hd1, wX10 E (a_nb 4) a_vw vw1, wX5 E (a_vw 6) a_o1 o11, wX5 E (a_vw 7) a_o2 o21, wX4 E (a_nb 5) a_pl pl1, wX3 E (a_nb 6) a_pp pp1, i0, i1, i2].flatten) [(0, .ref bb), (1, .ref h0), (2, .ref hm), (3, .int (nI i))] 1578 []) : VV X a b ([wX11 E h0 a_nb nb, wX12 E hm a_m m, wX8 E (a_nb 0) a_st st, wX2 E (a_st 2) a_la la, wX7 E (a_st 3) a_sp sp, wX0 E (a_st 4) a_ac ac, wX1 E (a_st 5) a_bd bd, wX6 E (a_st 6) a_sg sg, wX9 E (a_nb 2) a_tp tp, wX5 E (a_nb 3) a_hd hd, wX10 E (a_nb 4) a_vw vw, wX5 E (a_vw 6) a_o1 o1, wX5 E (a_vw 7) a_o2 o2, wX4 E (a_nb 5) a_pl pl, wX3 E (a_nb 6) a_pp pp, i0, i1, i2].flatten) [(0, .ref bb), (1, .ref h0), (2, .ref hm), (3, .int (nI i))] 1376 [] := by
  refine v_aload_n C dL_law_1376 1 rfl ?_
  refine v_aload_n C dL_law_1377 0 rfl ?_
  refine v_iload_n C dL_law_1378 3 rfl ?_
  refine v_iconst (v := 1) C dL_law_1379 (by decide) ?_
  refine v_iadd C dL_law_1380 ?_
  refine v_sld (j := i + 1) C hL (nI_add i 1) (by omega) hL2 dL_law_1381 ?_
  refine v_aload_n C dL_law_1382 0 rfl ?_
  refine v_iload_n C dL_law_1383 3 rfl ?_
  refine v_iconst (v := 2) C dL_law_1384 (by decide) ?_
  refine v_iadd C dL_law_1385 ?_
  refine v_sld (j := i + 2) C hL (nI_add i 2) (by omega) hL2 dL_law_1386 ?_
  refine v_aload_n C dL_law_1387 0 rfl ?_
  refine v_iload_n C dL_law_1388 3 rfl ?_
  refine v_iconst (v := 3) C dL_law_1389 (by decide) ?_
  refine v_iadd C dL_law_1390 ?_
  refine v_sld (j := i + 3) C hL (nI_add i 3) (by omega) hL2 dL_law_1391 ?_
  refine v_callVMi (st := []) (ci := 11) (qb := 0) C (kX11_row h0 a_nb _ _ _ _ hw) mL_172 mI_X11 mC_X11_row mN_X11_row mS_X11_row rfl rfl hd_X11_row ⟨Nat.le_of_ble_eq_true rfl, Nat.le_of_ble_eq_true rfl⟩ ⟨by show _ + 0 ≤ 139614; omega, by show _ + 0 ≤ 8683408; omega⟩ [0] [1, 2, 3, 4, 5, 6, 7, 8, 9, 10, 11, 12, 13, 14, 15, 16, 17] (N0 := 18) rfl (by decide) (ms2 := (fun (U : Md) => [wX11 E h0 a_nb U, wX12 E hm a_m m, wX8 E (a_nb 0) a_st st, wX2 E (a_st 2) a_la la, wX7 E (a_st 3) a_sp sp, wX0 E (a_st 4) a_ac ac, wX1 E (a_st 5) a_bd bd, wX6 E (a_st 6) a_sg sg, wX9 E (a_nb 2) a_tp tp, wX5 E (a_nb 3) a_hd hd, wX10 E (a_nb 4) a_vw vw, wX5 E (a_vw 6) a_o1 o1, wX5 E (a_vw 7) a_o2 o2, wX4 E (a_nb 5) a_pl pl, wX3 E (a_nb 6) a_pp pp, i0, i1, i2])) rfl (fun _ => rfl) (fun _ => rfl) (fun _ => rfl) rfl (Nat.le_of_ble_eq_true rfl) dL_law_1392 (fun r1 nb1 hw => ?_)
  refine v_aload_n C dL_law_1395 2 rfl ?_
  refine v_aload_n C dL_law_1396 0 rfl ?_
  refine v_iload_n C dL_law_1397 3 rfl ?_
  refine v_iconst (v := 1) C dL_law_1398 (by decide) ?_
  refine v_iadd C dL_law_1399 ?_
  refine v_sld (j := i + 1) C hL (nI_add i 1) (by omega) hL2 dL_law_1400 ?_
  refine v_aload_n C dL_law_1401 0 rfl ?_
  refine v_iload_n C dL_law_1402 3 rfl ?_
  refine v_iconst (v := 2) C dL_law_1403 (by decide) ?_
  refine v_iadd C dL_law_1404 ?_
  refine v_sld (j := i + 2) C hL (nI_add i 2) (by omega) hL2 dL_law_1405 ?_
  refine v_aload_n C dL_law_1406 0 rfl ?_
  refine v_iload_n C dL_law_1407 3 rfl ?_
  refine v_iconst (v := 3) C dL_law_1408 (by decide) ?_
  refine v_iadd C dL_law_1409 ?_
  refine v_sld (j := i + 3) C hL (nI_add i 3) (by omega) hL2 dL_law_1410 ?_
  refine v_callVMi (st := [.int r1]) (ci := 12) (qb := 5) C (kX12_row hm a_m _ _ _ _ hw) mL_175 mI_X12 mC_X12_row mN_X12_row mS_X12_row rfl rfl hd_X12_row ⟨Nat.le_of_ble_eq_true rfl, Nat.le_of_ble_eq_true rfl⟩ ⟨by show _ + 0 ≤ 139614; omega, by show _ + 0 ≤ 8683408; omega⟩ [1] [0, 2, 3, 4, 5, 6, 7, 8, 9, 10, 11, 12, 13, 14, 15, 16, 17] (N0 := 18) rfl (by decide) (ms2 := (fun (U : Md) => [wX11 E h0 a_nb nb1, wX12 E hm a_m U, wX8 E (a_nb 0) a_st st, wX2 E (a_st 2) a_la la, wX7 E (a_st 3) a_sp sp, wX0 E (a_st 4) a_ac ac, wX1 E (a_st 5) a_bd bd, wX6 E (a_st 6) a_sg sg, wX9 E (a_nb 2) a_tp tp, wX5 E (a_nb 3) a_hd hd, wX10 E (a_nb 4) a_vw vw, wX5 E (a_vw 6) a_o1 o1, wX5 E (a_vw 7) a_o2 o2, wX4 E (a_nb 5) a_pl pl, wX3 E (a_nb 6) a_pp pp, i0, i1, i2])) rfl (fun _ => rfl) (fun _ => rfl) (fun _ => rfl) rfl (Nat.le_of_ble_eq_true rfl) dL_law_1411 (fun r2 m1 hw => ?_)
  obtain ⟨he, hw⟩ := hw
  refine v_icmp_eq (tgt := 1578) C dL_law_1414 (by decide) (fun _ => ?_) (fun hc => absurd he hc)
  refine v_widen (a' := a + 53) (b' := b + 10240) C (by omega) (by omega) ?_
  exact kk nb1 m1 st la sp ac bd sg tp hd vw o1 o2 pl pp hw
set_option maxHeartbeats 4000000 in
set_option maxRecDepth 100000 in
theorem lawc_39 {X : VX} {E : VE} {l : Launch} {bb L : Nat} {xs : Nat → Int32} (C : VC X code 4 R_law room_1 E l) (hL : LWX X bb L xs) (hL2 : L ≤ 3072) (i : Nat) (hi : i + 6 ≤ L) {a b : Nat} (hab : a + 53 ≤ 139614 ∧ b + 10240 ≤ 8683408) (h0 hm : Nat) (a_nb : Nat → Nat) (a_m : Nat → Nat) (a_st : Nat → Nat) (a_la : Nat → Nat) (a_sp : Nat → Nat) (a_ac : Nat → Nat) (a_bd : Nat → Nat) (a_sg : Nat → Nat) (a_tp : Nat → Nat) (a_hd : Nat → Nat) (a_vw : Nat → Nat) (a_o1 : Nat → Nat) (a_o2 : Nat → Nat) (a_pl : Nat → Nat) (a_pp : Nat → Nat) (nb : Md) (m : Md) (st : Md) (la : Md) (sp : Md) (ac : Md) (bd : Md) (sg : Md) (tp : Md) (hd : Md) (vw : Md) (o1 : Md) (o2 : Md) (pl : Md) (pp : Md) (i0 i1 i2 : va_W) (P : Md → Md → Md → Md → Md → Md → Md → Md → Md → Md → Md → Md → Md → Md → Md → Prop) (hw : qX11_tear nb (xs (i + 1)) (fun r1 nb1 => qX12_tear m (xs (i + 1)) (fun r2 m1 => r1 = r2 ∧ P nb1 m1 st la sp ac bd sg tp hd vw o1 o2 pl pp))) (kk : ∀ (nb1 : Md) (m1 : Md) (st1 : Md) (la1 : Md) (sp1 : Md) (ac1 : Md) (bd1 : Md) (sg1 : Md) (tp1 : Md) (hd1 : Md) (vw1 : Md) (o11 : Md) (o21 : Md) (pl1 : Md) (pp1 : Md), P nb1 m1 st1 la1 sp1 ac1 bd1 sg1 tp1 hd1 vw1 o11 o21 pl1 pp1 → VV X (a + 53) (b + 10240) ([wX11 E h0 a_nb nb1, wX12 E hm a_m m1, wX8 E (a_nb 0) a_st st1, wX2 E (a_st 2) a_la la1, wX7 E (a_st 3) a_sp sp1, wX0 E (a_st 4) a_ac ac1, wX1 E (a_st 5) a_bd bd1, wX6 E (a_st 6) a_sg sg1, wX9 E (a_nb 2) a_tp tp1, wX5 E (a_nb 3) a_hd hd1, wX10 E (a_nb 4) a_vw vw1, wX5 E (a_vw 6) a_o1 o11, wX5 E (a_vw 7) a_o2 o21, wX4 E (a_nb 5) a_pl pl1, wX3 E (a_nb 6) a_pp pp1, i0, i1, i2].flatten) [(0, .ref bb), (1, .ref h0), (2, .ref hm), (3, .int (nI i))] 1578 []) : VV X a b ([wX11 E h0 a_nb nb, wX12 E hm a_m m, wX8 E (a_nb 0) a_st st, wX2 E (a_st 2) a_la la, wX7 E (a_st 3) a_sp sp, wX0 E (a_st 4) a_ac ac, wX1 E (a_st 5) a_bd bd, wX6 E (a_st 6) a_sg sg, wX9 E (a_nb 2) a_tp tp, wX5 E (a_nb 3) a_hd hd, wX10 E (a_nb 4) a_vw vw, wX5 E (a_vw 6) a_o1 o1, wX5 E (a_vw 7) a_o2 o2, wX4 E (a_nb 5) a_pl pl, wX3 E (a_nb 6) a_pp pp, i0, i1, i2].flatten) [(0, .ref bb), (1, .ref h0), (2, .ref hm), (3, .int (nI i))] 1419 [] := by
  refine v_aload_n C dL_law_1419 1 rfl ?_
  refine v_aload_n C dL_law_1420 0 rfl ?_
  refine v_iload_n C dL_law_1421 3 rfl ?_
  refine v_iconst (v := 1) C dL_law_1422 (by decide) ?_
  refine v_iadd C dL_law_1423 ?_
  refine v_sld (j := i + 1) C hL (nI_add i 1) (by omega) hL2 dL_law_1424 ?_
  refine v_callVMi (st := []) (ci := 11) (qb := 0) C (kX11_tear h0 a_nb _ _ hw) mL_176 mI_X11 mC_X11_tear mN_X11_tear mS_X11_tear rfl rfl hd_X11_tear ⟨Nat.le_of_ble_eq_true rfl, Nat.le_of_ble_eq_true rfl⟩ ⟨by show _ + 0 ≤ 139614; omega, by show _ + 0 ≤ 8683408; omega⟩ [0] [1, 2, 3, 4, 5, 6, 7, 8, 9, 10, 11, 12, 13, 14, 15, 16, 17] (N0 := 18) rfl (by decide) (ms2 := (fun (U : Md) => [wX11 E h0 a_nb U, wX12 E hm a_m m, wX8 E (a_nb 0) a_st st, wX2 E (a_st 2) a_la la, wX7 E (a_st 3) a_sp sp, wX0 E (a_st 4) a_ac ac, wX1 E (a_st 5) a_bd bd, wX6 E (a_st 6) a_sg sg, wX9 E (a_nb 2) a_tp tp, wX5 E (a_nb 3) a_hd hd, wX10 E (a_nb 4) a_vw vw, wX5 E (a_vw 6) a_o1 o1, wX5 E (a_vw 7) a_o2 o2, wX4 E (a_nb 5) a_pl pl, wX3 E (a_nb 6) a_pp pp, i0, i1, i2])) rfl (fun _ => rfl) (fun _ => rfl) (fun _ => rfl) rfl (Nat.le_of_ble_eq_true rfl) dL_law_1425 (fun r1 nb1 hw => ?_)
  obtain ⟨h01, hw⟩ := hw
  skip
  refine v_aload_n C dL_law_1428 2 rfl ?_
  refine v_aload_n C dL_law_1429 0 rfl ?_
  refine v_iload_n C dL_law_1430 3 rfl ?_
  refine v_iconst (v := 1) C dL_law_1431 (by decide) ?_
  refine v_iadd C dL_law_1432 ?_
  refine v_sld (j := i + 1) C hL (nI_add i 1) (by omega) hL2 dL_law_1433 ?_
  refine v_callVMi (st := [.int r1]) (ci := 12) (qb := 5) C (kX12_tear hm a_m _ _ hw) mL_180 mI_X12 mC_X12_tear mN_X12_tear mS_X12_tear rfl rfl hd_X12_tear ⟨Nat.le_of_ble_eq_true rfl, Nat.le_of_ble_eq_true rfl⟩ ⟨by show _ + 0 ≤ 139614; omega, by show _ + 0 ≤ 8683408; omega⟩ [1] [0, 2, 3, 4, 5, 6, 7, 8, 9, 10, 11, 12, 13, 14, 15, 16, 17] (N0 := 18) rfl (by decide) (ms2 := (fun (U : Md) => [wX11 E h0 a_nb nb1, wX12 E hm a_m U, wX8 E (a_nb 0) a_st st, wX2 E (a_st 2) a_la la, wX7 E (a_st 3) a_sp sp, wX0 E (a_st 4) a_ac ac, wX1 E (a_st 5) a_bd bd, wX6 E (a_st 6) a_sg sg, wX9 E (a_nb 2) a_tp tp, wX5 E (a_nb 3) a_hd hd, wX10 E (a_nb 4) a_vw vw, wX5 E (a_vw 6) a_o1 o1, wX5 E (a_vw 7) a_o2 o2, wX4 E (a_nb 5) a_pl pl, wX3 E (a_nb 6) a_pp pp, i0, i1, i2])) rfl (fun _ => rfl) (fun _ => rfl) (fun _ => rfl) rfl (Nat.le_of_ble_eq_true rfl) dL_law_1434 (fun r2 m1 hw => ?_)
  obtain ⟨h01, hw⟩ := hw
  skip
  obtain ⟨he, hw⟩ := hw
  refine v_icmp_eq (tgt := 1578) C dL_law_1437 (by decide) (fun _ => ?_) (fun hc => absurd he hc)
  refine v_widen (a' := a + 53) (b' := b + 10240) C (by omega) (by omega) ?_
  exact kk nb1 m1 st la sp ac bd sg tp hd vw o1 o2 pl pp hw
set_option maxHeartbeats 4000000 in
set_option maxRecDepth 100000 in
theorem lawc_40 {X : VX} {E : VE} {l : Launch} {bb L : Nat} {xs : Nat → Int32} (C : VC X code 4 R_law room_1 E l) (hL : LWX X bb L xs) (hL2 : L ≤ 3072) (i : Nat) (hi : i + 6 ≤ L) {a b : Nat} (hab : a + 53 ≤ 139614 ∧ b + 10240 ≤ 8683408) (h0 hm : Nat) (a_nb : Nat → Nat) (a_m : Nat → Nat) (a_st : Nat → Nat) (a_la : Nat → Nat) (a_sp : Nat → Nat) (a_ac : Nat → Nat) (a_bd : Nat → Nat) (a_sg : Nat → Nat) (a_tp : Nat → Nat) (a_hd : Nat → Nat) (a_vw : Nat → Nat) (a_o1 : Nat → Nat) (a_o2 : Nat → Nat) (a_pl : Nat → Nat) (a_pp : Nat → Nat) (nb : Md) (m : Md) (st : Md) (la : Md) (sp : Md) (ac : Md) (bd : Md) (sg : Md) (tp : Md) (hd : Md) (vw : Md) (o1 : Md) (o2 : Md) (pl : Md) (pp : Md) (i0 i1 i2 : va_W) (P : Md → Md → Md → Md → Md → Md → Md → Md → Md → Md → Md → Md → Md → Md → Md → Prop) (hw : qX11_write nb (xs (i + 1)) (xs (i + 2)) ((((xs (i + 3)).toInt64 <<< ((32 : Int32).toInt64 &&& 63)) ||| ((xs (i + 4)).toInt64 &&& 4294967295))) (fun r1 nb1 => qX12_write m (xs (i + 1)) (xs (i + 2)) ((((xs (i + 3)).toInt64 <<< ((32 : Int32).toInt64 &&& 63)) ||| ((xs (i + 4)).toInt64 &&& 4294967295))) (fun r2 m1 => r1 = r2 ∧ P nb1 m1 st la sp ac bd sg tp hd vw o1 o2 pl pp))) (kk : ∀ (nb1 : Md) (m1 : Md) (st1 : Md) (la1 : Md) (sp1 : Md) (ac1 : Md) (bd1 : Md) (sg1 : Md) (tp1 : Md) (hd1 : Md) (vw1 : Md) (o11 : Md) (o21 : Md) (pl1 : Md) (pp1 : Md), P nb1 m1 st1 la1 sp1 ac1 bd1 sg1 tp1 hd1 vw1 o11 o21 pl1 pp1 → VV X (a + 53) (b + 10240) ([wX11 E h0 a_nb nb1, wX12 E hm a_m m1, wX8 E (a_nb 0) a_st st1, wX2 E (a_st 2) a_la la1, wX7 E (a_st 3) a_sp sp1, wX0 E (a_st 4) a_ac ac1, wX1 E (a_st 5) a_bd bd1, wX6 E (a_st 6) a_sg sg1, wX9 E (a_nb 2) a_tp tp1, wX5 E (a_nb 3) a_hd hd1, wX10 E (a_nb 4) a_vw vw1, wX5 E (a_vw 6) a_o1 o11, wX5 E (a_vw 7) a_o2 o21, wX4 E (a_nb 5) a_pl pl1, wX3 E (a_nb 6) a_pp pp1, i0, i1, i2].flatten) [(0, .ref bb), (1, .ref h0), (2, .ref hm), (3, .int (nI i))] 1578 []) : VV X a b ([wX11 E h0 a_nb nb, wX12 E hm a_m m, wX8 E (a_nb 0) a_st st, wX2 E (a_st 2) a_la la, wX7 E (a_st 3) a_sp sp, wX0 E (a_st 4) a_ac ac, wX1 E (a_st 5) a_bd bd, wX6 E (a_st 6) a_sg sg, wX9 E (a_nb 2) a_tp tp, wX5 E (a_nb 3) a_hd hd, wX10 E (a_nb 4) a_vw vw, wX5 E (a_vw 6) a_o1 o1, wX5 E (a_vw 7) a_o2 o2, wX4 E (a_nb 5) a_pl pl, wX3 E (a_nb 6) a_pp pp, i0, i1, i2].flatten) [(0, .ref bb), (1, .ref h0), (2, .ref hm), (3, .int (nI i))] 1442 [] := by
  refine v_aload_n C dL_law_1442 1 rfl ?_
  refine v_aload_n C dL_law_1443 0 rfl ?_
  refine v_iload_n C dL_law_1444 3 rfl ?_
  refine v_iconst (v := 1) C dL_law_1445 (by decide) ?_
  refine v_iadd C dL_law_1446 ?_
  refine v_sld (j := i + 1) C hL (nI_add i 1) (by omega) hL2 dL_law_1447 ?_
  refine v_aload_n C dL_law_1448 0 rfl ?_
  refine v_iload_n C dL_law_1449 3 rfl ?_
  refine v_iconst (v := 2) C dL_law_1450 (by decide) ?_
  refine v_iadd C dL_law_1451 ?_
  refine v_sld (j := i + 2) C hL (nI_add i 2) (by omega) hL2 dL_law_1452 ?_
  refine v_aload_n C dL_law_1453 0 rfl ?_
  refine v_iload_n C dL_law_1454 3 rfl ?_
  refine v_iconst (v := 3) C dL_law_1455 (by decide) ?_
  refine v_iadd C dL_law_1456 ?_
  refine v_sld (j := i + 3) C hL (nI_add i 3) (by omega) hL2 dL_law_1457 ?_
  refine v_i2l C dL_law_1458 ?_
  refine v_bipush (v := 32) C dL_law_1459 (by decide) ?_
  refine v_lshl C dL_law_1461 ?_
  refine v_aload_n C dL_law_1462 0 rfl ?_
  refine v_iload_n C dL_law_1463 3 rfl ?_
  refine v_iconst (v := 4) C dL_law_1464 (by decide) ?_
  refine v_iadd C dL_law_1465 ?_
  refine v_sld (j := i + 4) C hL (nI_add i 4) (by omega) hL2 dL_law_1466 ?_
  refine v_i2l C dL_law_1467 ?_
  refine v_ldc2 C mLJ_181 dL_law_1468 ?_
  refine v_land C dL_law_1471 rfl ?_
  refine v_lor C dL_law_1472 rfl ?_
  refine v_callVMi (st := []) (ci := 11) (qb := 0) C (kX11_write h0 a_nb _ _ _ _ hw) mL_183 mI_X11 mC_X11_write mN_X11_write mS_X11_write rfl rfl hd_X11_write ⟨Nat.le_of_ble_eq_true rfl, Nat.le_of_ble_eq_true rfl⟩ ⟨by show _ + 0 ≤ 139614; omega, by show _ + 0 ≤ 8683408; omega⟩ [0] [1, 2, 3, 4, 5, 6, 7, 8, 9, 10, 11, 12, 13, 14, 15, 16, 17] (N0 := 18) rfl (by decide) (ms2 := (fun (U : Md) => [wX11 E h0 a_nb U, wX12 E hm a_m m, wX8 E (a_nb 0) a_st st, wX2 E (a_st 2) a_la la, wX7 E (a_st 3) a_sp sp, wX0 E (a_st 4) a_ac ac, wX1 E (a_st 5) a_bd bd, wX6 E (a_st 6) a_sg sg, wX9 E (a_nb 2) a_tp tp, wX5 E (a_nb 3) a_hd hd, wX10 E (a_nb 4) a_vw vw, wX5 E (a_vw 6) a_o1 o1, wX5 E (a_vw 7) a_o2 o2, wX4 E (a_nb 5) a_pl pl, wX3 E (a_nb 6) a_pp pp, i0, i1, i2])) rfl (fun _ => rfl) (fun _ => rfl) (fun _ => rfl) rfl (Nat.le_of_ble_eq_true rfl) dL_law_1473 (fun r1 nb1 hw => ?_)
  refine v_aload_n C dL_law_1476 2 rfl ?_
  refine v_aload_n C dL_law_1477 0 rfl ?_
  refine v_iload_n C dL_law_1478 3 rfl ?_
  refine v_iconst (v := 1) C dL_law_1479 (by decide) ?_
  refine v_iadd C dL_law_1480 ?_
  refine v_sld (j := i + 1) C hL (nI_add i 1) (by omega) hL2 dL_law_1481 ?_
  refine v_aload_n C dL_law_1482 0 rfl ?_
  refine v_iload_n C dL_law_1483 3 rfl ?_
  refine v_iconst (v := 2) C dL_law_1484 (by decide) ?_
  refine v_iadd C dL_law_1485 ?_
  refine v_sld (j := i + 2) C hL (nI_add i 2) (by omega) hL2 dL_law_1486 ?_
  refine v_aload_n C dL_law_1487 0 rfl ?_
  refine v_iload_n C dL_law_1488 3 rfl ?_
  refine v_iconst (v := 3) C dL_law_1489 (by decide) ?_
  refine v_iadd C dL_law_1490 ?_
  refine v_sld (j := i + 3) C hL (nI_add i 3) (by omega) hL2 dL_law_1491 ?_
  refine v_i2l C dL_law_1492 ?_
  refine v_bipush (v := 32) C dL_law_1493 (by decide) ?_
  refine v_lshl C dL_law_1495 ?_
  refine v_aload_n C dL_law_1496 0 rfl ?_
  refine v_iload_n C dL_law_1497 3 rfl ?_
  refine v_iconst (v := 4) C dL_law_1498 (by decide) ?_
  refine v_iadd C dL_law_1499 ?_
  refine v_sld (j := i + 4) C hL (nI_add i 4) (by omega) hL2 dL_law_1500 ?_
  refine v_i2l C dL_law_1501 ?_
  refine v_ldc2 C mLJ_181 dL_law_1502 ?_
  refine v_land C dL_law_1505 rfl ?_
  refine v_lor C dL_law_1506 rfl ?_
  refine v_callVMi (st := [.int r1]) (ci := 12) (qb := 5) C (kX12_write hm a_m _ _ _ _ hw) mL_187 mI_X12 mC_X12_write mN_X12_write mS_X12_write rfl rfl hd_X12_write ⟨Nat.le_of_ble_eq_true rfl, Nat.le_of_ble_eq_true rfl⟩ ⟨by show _ + 0 ≤ 139614; omega, by show _ + 0 ≤ 8683408; omega⟩ [1] [0, 2, 3, 4, 5, 6, 7, 8, 9, 10, 11, 12, 13, 14, 15, 16, 17] (N0 := 18) rfl (by decide) (ms2 := (fun (U : Md) => [wX11 E h0 a_nb nb1, wX12 E hm a_m U, wX8 E (a_nb 0) a_st st, wX2 E (a_st 2) a_la la, wX7 E (a_st 3) a_sp sp, wX0 E (a_st 4) a_ac ac, wX1 E (a_st 5) a_bd bd, wX6 E (a_st 6) a_sg sg, wX9 E (a_nb 2) a_tp tp, wX5 E (a_nb 3) a_hd hd, wX10 E (a_nb 4) a_vw vw, wX5 E (a_vw 6) a_o1 o1, wX5 E (a_vw 7) a_o2 o2, wX4 E (a_nb 5) a_pl pl, wX3 E (a_nb 6) a_pp pp, i0, i1, i2])) rfl (fun _ => rfl) (fun _ => rfl) (fun _ => rfl) rfl (Nat.le_of_ble_eq_true rfl) dL_law_1507 (fun r2 m1 hw => ?_)
  obtain ⟨he, hw⟩ := hw
  refine v_icmp_eq (tgt := 1578) C dL_law_1510 (by decide) (fun _ => ?_) (fun hc => absurd he hc)
  refine v_widen (a' := a + 53) (b' := b + 10240) C (by omega) (by omega) ?_
  exact kk nb1 m1 st la sp ac bd sg tp hd vw o1 o2 pl pp hw
set_option maxHeartbeats 4000000 in
set_option maxRecDepth 100000 in
theorem lawc_41 {X : VX} {E : VE} {l : Launch} {bb L : Nat} {xs : Nat → Int32} (C : VC X code 4 R_law room_1 E l) (hL : LWX X bb L xs) (hL2 : L ≤ 3072) (i : Nat) (hi : i + 6 ≤ L) {a b : Nat} (hab : a + 53 ≤ 139614 ∧ b + 10240 ≤ 8683408) (h0 hm : Nat) (a_nb : Nat → Nat) (a_m : Nat → Nat) (a_st : Nat → Nat) (a_la : Nat → Nat) (a_sp : Nat → Nat) (a_ac : Nat → Nat) (a_bd : Nat → Nat) (a_sg : Nat → Nat) (a_tp : Nat → Nat) (a_hd : Nat → Nat) (a_vw : Nat → Nat) (a_o1 : Nat → Nat) (a_o2 : Nat → Nat) (a_pl : Nat → Nat) (a_pp : Nat → Nat) (nb : Md) (m : Md) (st : Md) (la : Md) (sp : Md) (ac : Md) (bd : Md) (sg : Md) (tp : Md) (hd : Md) (vw : Md) (o1 : Md) (o2 : Md) (pl : Md) (pp : Md) (i0 i1 i2 : va_W) (P : Md → Md → Md → Md → Md → Md → Md → Md → Md → Md → Md → Md → Md → Md → Md → Prop) (hw : qX11_paste nb (xs (i + 1)) (xs (i + 2)) (xs (i + 3)) (xs (i + 4)) (xs (i + 5)) (fun r1 nb1 => qX12_paste m (xs (i + 1)) (xs (i + 2)) (xs (i + 3)) (xs (i + 4)) (xs (i + 5)) (fun r2 m1 => r1 = r2 ∧ P nb1 m1 st la sp ac bd sg tp hd vw o1 o2 pl pp))) (kk : ∀ (nb1 : Md) (m1 : Md) (st1 : Md) (la1 : Md) (sp1 : Md) (ac1 : Md) (bd1 : Md) (sg1 : Md) (tp1 : Md) (hd1 : Md) (vw1 : Md) (o11 : Md) (o21 : Md) (pl1 : Md) (pp1 : Md), P nb1 m1 st1 la1 sp1 ac1 bd1 sg1 tp1 hd1 vw1 o11 o21 pl1 pp1 → VV X (a + 53) (b + 10240) ([wX11 E h0 a_nb nb1, wX12 E hm a_m m1, wX8 E (a_nb 0) a_st st1, wX2 E (a_st 2) a_la la1, wX7 E (a_st 3) a_sp sp1, wX0 E (a_st 4) a_ac ac1, wX1 E (a_st 5) a_bd bd1, wX6 E (a_st 6) a_sg sg1, wX9 E (a_nb 2) a_tp tp1, wX5 E (a_nb 3) a_hd hd1, wX10 E (a_nb 4) a_vw vw1, wX5 E (a_vw 6) a_o1 o11, wX5 E (a_vw 7) a_o2 o21, wX4 E (a_nb 5) a_pl pl1, wX3 E (a_nb 6) a_pp pp1, i0, i1, i2].flatten) [(0, .ref bb), (1, .ref h0), (2, .ref hm), (3, .int (nI i))] 1578 []) : VV X a b ([wX11 E h0 a_nb nb, wX12 E hm a_m m, wX8 E (a_nb 0) a_st st, wX2 E (a_st 2) a_la la, wX7 E (a_st 3) a_sp sp, wX0 E (a_st 4) a_ac ac, wX1 E (a_st 5) a_bd bd, wX6 E (a_st 6) a_sg sg, wX9 E (a_nb 2) a_tp tp, wX5 E (a_nb 3) a_hd hd, wX10 E (a_nb 4) a_vw vw, wX5 E (a_vw 6) a_o1 o1, wX5 E (a_vw 7) a_o2 o2, wX4 E (a_nb 5) a_pl pl, wX3 E (a_nb 6) a_pp pp, i0, i1, i2].flatten) [(0, .ref bb), (1, .ref h0), (2, .ref hm), (3, .int (nI i))] 1515 [] := by
  refine v_aload_n C dL_law_1515 1 rfl ?_
  refine v_aload_n C dL_law_1516 0 rfl ?_
  refine v_iload_n C dL_law_1517 3 rfl ?_
  refine v_iconst (v := 1) C dL_law_1518 (by decide) ?_
  refine v_iadd C dL_law_1519 ?_
  refine v_sld (j := i + 1) C hL (nI_add i 1) (by omega) hL2 dL_law_1520 ?_
  refine v_aload_n C dL_law_1521 0 rfl ?_
  refine v_iload_n C dL_law_1522 3 rfl ?_
  refine v_iconst (v := 2) C dL_law_1523 (by decide) ?_
  refine v_iadd C dL_law_1524 ?_
  refine v_sld (j := i + 2) C hL (nI_add i 2) (by omega) hL2 dL_law_1525 ?_
  refine v_aload_n C dL_law_1526 0 rfl ?_
  refine v_iload_n C dL_law_1527 3 rfl ?_
  refine v_iconst (v := 3) C dL_law_1528 (by decide) ?_
  refine v_iadd C dL_law_1529 ?_
  refine v_sld (j := i + 3) C hL (nI_add i 3) (by omega) hL2 dL_law_1530 ?_
  refine v_aload_n C dL_law_1531 0 rfl ?_
  refine v_iload_n C dL_law_1532 3 rfl ?_
  refine v_iconst (v := 4) C dL_law_1533 (by decide) ?_
  refine v_iadd C dL_law_1534 ?_
  refine v_sld (j := i + 4) C hL (nI_add i 4) (by omega) hL2 dL_law_1535 ?_
  refine v_aload_n C dL_law_1536 0 rfl ?_
  refine v_iload_n C dL_law_1537 3 rfl ?_
  refine v_iconst (v := 5) C dL_law_1538 (by decide) ?_
  refine v_iadd C dL_law_1539 ?_
  refine v_sld (j := i + 5) C hL (nI_add i 5) (by omega) hL2 dL_law_1540 ?_
  refine v_callVMi (st := []) (ci := 11) (qb := 0) C (kX11_paste h0 a_nb _ _ _ _ _ _ hw) mL_188 mI_X11 mC_X11_paste mN_X11_paste mS_X11_paste rfl rfl hd_X11_paste ⟨Nat.le_of_ble_eq_true rfl, Nat.le_of_ble_eq_true rfl⟩ ⟨by show _ + 0 ≤ 139614; omega, by show _ + 0 ≤ 8683408; omega⟩ [0] [1, 2, 3, 4, 5, 6, 7, 8, 9, 10, 11, 12, 13, 14, 15, 16, 17] (N0 := 18) rfl (by decide) (ms2 := (fun (U : Md) => [wX11 E h0 a_nb U, wX12 E hm a_m m, wX8 E (a_nb 0) a_st st, wX2 E (a_st 2) a_la la, wX7 E (a_st 3) a_sp sp, wX0 E (a_st 4) a_ac ac, wX1 E (a_st 5) a_bd bd, wX6 E (a_st 6) a_sg sg, wX9 E (a_nb 2) a_tp tp, wX5 E (a_nb 3) a_hd hd, wX10 E (a_nb 4) a_vw vw, wX5 E (a_vw 6) a_o1 o1, wX5 E (a_vw 7) a_o2 o2, wX4 E (a_nb 5) a_pl pl, wX3 E (a_nb 6) a_pp pp, i0, i1, i2])) rfl (fun _ => rfl) (fun _ => rfl) (fun _ => rfl) rfl (Nat.le_of_ble_eq_true rfl) dL_law_1541 (fun r1 nb1 hw => ?_)
  refine v_aload_n C dL_law_1544 2 rfl ?_
  refine v_aload_n C dL_law_1545 0 rfl ?_
  refine v_iload_n C dL_law_1546 3 rfl ?_
  refine v_iconst (v := 1) C dL_law_1547 (by decide) ?_
  refine v_iadd C dL_law_1548 ?_
  refine v_sld (j := i + 1) C hL (nI_add i 1) (by omega) hL2 dL_law_1549 ?_
  refine v_aload_n C dL_law_1550 0 rfl ?_
  refine v_iload_n C dL_law_1551 3 rfl ?_
  refine v_iconst (v := 2) C dL_law_1552 (by decide) ?_
  refine v_iadd C dL_law_1553 ?_
  refine v_sld (j := i + 2) C hL (nI_add i 2) (by omega) hL2 dL_law_1554 ?_
  refine v_aload_n C dL_law_1555 0 rfl ?_
  refine v_iload_n C dL_law_1556 3 rfl ?_
  refine v_iconst (v := 3) C dL_law_1557 (by decide) ?_
  refine v_iadd C dL_law_1558 ?_
  refine v_sld (j := i + 3) C hL (nI_add i 3) (by omega) hL2 dL_law_1559 ?_
  refine v_aload_n C dL_law_1560 0 rfl ?_
  refine v_iload_n C dL_law_1561 3 rfl ?_
  refine v_iconst (v := 4) C dL_law_1562 (by decide) ?_
  refine v_iadd C dL_law_1563 ?_
  refine v_sld (j := i + 4) C hL (nI_add i 4) (by omega) hL2 dL_law_1564 ?_
  refine v_aload_n C dL_law_1565 0 rfl ?_
  refine v_iload_n C dL_law_1566 3 rfl ?_
  refine v_iconst (v := 5) C dL_law_1567 (by decide) ?_
  refine v_iadd C dL_law_1568 ?_
  refine v_sld (j := i + 5) C hL (nI_add i 5) (by omega) hL2 dL_law_1569 ?_
  refine v_callVMi (st := [.int r1]) (ci := 12) (qb := 5) C (kX12_paste hm a_m _ _ _ _ _ _ hw) mL_191 mI_X12 mC_X12_paste mN_X12_paste mS_X12_paste rfl rfl hd_X12_paste ⟨Nat.le_of_ble_eq_true rfl, Nat.le_of_ble_eq_true rfl⟩ ⟨by show _ + 0 ≤ 139614; omega, by show _ + 0 ≤ 8683408; omega⟩ [1] [0, 2, 3, 4, 5, 6, 7, 8, 9, 10, 11, 12, 13, 14, 15, 16, 17] (N0 := 18) rfl (by decide) (ms2 := (fun (U : Md) => [wX11 E h0 a_nb nb1, wX12 E hm a_m U, wX8 E (a_nb 0) a_st st, wX2 E (a_st 2) a_la la, wX7 E (a_st 3) a_sp sp, wX0 E (a_st 4) a_ac ac, wX1 E (a_st 5) a_bd bd, wX6 E (a_st 6) a_sg sg, wX9 E (a_nb 2) a_tp tp, wX5 E (a_nb 3) a_hd hd, wX10 E (a_nb 4) a_vw vw, wX5 E (a_vw 6) a_o1 o1, wX5 E (a_vw 7) a_o2 o2, wX4 E (a_nb 5) a_pl pl, wX3 E (a_nb 6) a_pp pp, i0, i1, i2])) rfl (fun _ => rfl) (fun _ => rfl) (fun _ => rfl) rfl (Nat.le_of_ble_eq_true rfl) dL_law_1570 (fun r2 m1 hw => ?_)
  obtain ⟨he, hw⟩ := hw
  refine v_icmp_eq (tgt := 1578) C dL_law_1573 (by decide) (fun _ => ?_) (fun hc => absurd he hc)
  refine v_widen (a' := a + 53) (b' := b + 10240) C (by omega) (by omega) ?_
  exact kk nb1 m1 st la sp ac bd sg tp hd vw o1 o2 pl pp hw
