theorem law_loop {X : VX} {E : VE} {l : Launch} {bb L : Nat} {xs : Nat → Int32} (C : VC X code 4 R_law room_1 E l) (hL : LWX X bb L xs) (hL2 : L ≤ 3072) (hend : ∀ (a b : Nat) (ws : va_W) (lv : List (Nat × Value)), a ≤ 139614 → b ≤ 8683408 → VV X a b ws lv 1585 [.int 1]) (h0 hm : Nat) (a_nb : Nat → Nat) (a_m : Nat → Nat) (a_st : Nat → Nat) (a_la : Nat → Nat) (a_sp : Nat → Nat) (a_ac : Nat → Nat) (a_bd : Nat → Nat) (a_sg : Nat → Nat) (a_tp : Nat → Nat) (a_hd : Nat → Nat) (a_vw : Nat → Nat) (a_o1 : Nat → Nat) (a_o2 : Nat → Nat) (a_pl : Nat → Nat) (a_pp : Nat → Nat) : ∀ (n c : Nat), c + n = 512 → ∀ (nb m st la sp ac bd sg tp hd vw o1 o2 pl pp : Md) (i0 i1 i2 : va_W), TopR E c nb m st la sp ac bd sg tp hd pl pp i0 i1 i2 → VV X (200 + 53 * c) (80000 + 10240 * c) ([wX11 E h0 a_nb nb, wX12 E hm a_m m, wX8 E (a_nb 0) a_st st, wX2 E (a_st 2) a_la la, wX7 E (a_st 3) a_sp sp, wX0 E (a_st 4) a_ac ac, wX1 E (a_st 5) a_bd bd, wX6 E (a_st 6) a_sg sg, wX9 E (a_nb 2) a_tp tp, wX5 E (a_nb 3) a_hd hd, wX10 E (a_nb 4) a_vw vw, wX5 E (a_vw 6) a_o1 o1, wX5 E (a_vw 7) a_o2 o2, wX4 E (a_nb 5) a_pl pl, wX3 E (a_nb 6) a_pp pp, i0, i1, i2].flatten) [(0, .ref bb), (1, .ref h0), (2, .ref hm), (3, .int (nI (6 * c)))] 18 [] := by
  intro n
  induction n with
  | zero =>
    intro c hc nb m st la sp ac bd sg tp hd vw o1 o2 pl pp i0 i1 i2 h
    refine v_iload_n C dL_law_18 3 rfl ?_
    refine v_aload_n C dL_law_19 0 rfl ?_
    refine v_slenA C hL dL_law_20 ?_
    refine v_bipush (v := 6) C dL_law_21 (by decide) ?_
    refine v_isub C dL_law_23 ?_
    refine v_icmp_gt (tgt := 1584) C dL_law_24 (by decide) (fun _ => ?_) (fun hle => ?_)
    · refine v_iconst (v := 1) C dL_law_1584 (by decide) ?_
      exact hend _ _ _ _ (by omega) (by omega)
    · exfalso
      rw [Int32.lt_iff_toInt_lt, nl_6, pk_sub_toInt (by omega) (by decide), nI_toInt (by omega)] at hle
      omega
  | succ n ih =>
    intro c hcn nb m st la sp ac bd sg tp hd vw o1 o2 pl pp i0 i1 i2 h
    refine v_iload_n C dL_law_18 3 rfl ?_
    refine v_aload_n C dL_law_19 0 rfl ?_
    refine v_slenA C hL dL_law_20 ?_
    refine v_bipush (v := 6) C dL_law_21 (by decide) ?_
    refine v_isub C dL_law_23 ?_
    refine v_icmp_gt (tgt := 1584) C dL_law_24 (by decide) (fun _ => ?_) (fun hle => ?_)
    · refine v_iconst (v := 1) C dL_law_1584 (by decide) ?_
      exact hend _ _ _ _ (by omega) (by omega)
    · have hi : 6 * c + 6 ≤ L := by
        rw [Int32.lt_iff_toInt_lt, nl_6, pk_sub_toInt (by omega) (by decide), nI_toInt (by omega)] at hle
        omega
      have hc : c + 1 ≤ 512 := by omega
      have hab : 200 + 53 * c + 53 ≤ 139614 ∧ 80000 + 10240 * c + 10240 ≤ 8683408 := by omega
      refine v_aload_n C dL_law_27 0 rfl ?_
      refine v_iload_n C dL_law_28 3 rfl ?_
      refine v_sld (j := 6 * c) C hL rfl (by omega) hL2 dL_law_29 ?_
      refine v_bipush (v := 63) C dL_law_30 (by decide) ?_
      refine v_iand C dL_law_32 ?_
      have next : ∀ (nb m st la sp ac bd sg tp hd vw o1 o2 pl pp : Md) (i0 i1 i2 : va_W), TopR E (c + 1) nb m st la sp ac bd sg tp hd pl pp i0 i1 i2 → VV X (200 + 53 * c + 53) (80000 + 10240 * c + 10240) ([wX11 E h0 a_nb nb, wX12 E hm a_m m, wX8 E (a_nb 0) a_st st, wX2 E (a_st 2) a_la la, wX7 E (a_st 3) a_sp sp, wX0 E (a_st 4) a_ac ac, wX1 E (a_st 5) a_bd bd, wX6 E (a_st 6) a_sg sg, wX9 E (a_nb 2) a_tp tp, wX5 E (a_nb 3) a_hd hd, wX10 E (a_nb 4) a_vw vw, wX5 E (a_vw 6) a_o1 o1, wX5 E (a_vw 7) a_o2 o2, wX4 E (a_nb 5) a_pl pl, wX3 E (a_nb 6) a_pp pp, i0, i1, i2].flatten) [(0, .ref bb), (1, .ref h0), (2, .ref hm), (3, .int (nI (6 * c)))] 1578 [] := by
        intro nb m st la sp ac bd sg tp hd vw o1 o2 pl pp i0 i1 i2 h'
        refine v_iinc (lv' := [(3, .int (nI (6 * c) + Int32.ofInt 6)), (0, .ref bb), (1, .ref h0), (2, .ref hm)]) C dL_law_1578 3 rfl (by decide) rfl ?_
        refine v_goto (tgt := 18) C dL_law_1581 (by decide) ?_
        refine v_lv C (lv' := [(0, .ref bb), (1, .ref h0), (2, .ref hm), (3, .int (nI (6 * c) + Int32.ofInt 6))]) [1, 2, 3, 0] rfl ?_
        have e := ih (c + 1) (by omega) nb m st la sp ac bd sg tp hd vw o1 o2 pl pp i0 i1 i2 h'
        rw [show nI (6 * c) + Int32.ofInt 6 = nI (6 * (c + 1)) from nI_add (6 * c) 6]
        rw [show 200 + 53 * c + 53 = 200 + 53 * (c + 1) by omega, show 80000 + 10240 * c + 10240 = 80000 + 10240 * (c + 1) by omega]
        exact e
      rcases ix32 (xs (6 * c) &&& 63) (n := 42) (by omega) with hb | ⟨k, hk, hz⟩
      · refine v_tsOut (tgt := 1578) C dL_law_33 (by omega) (by decide) ?_
        refine v_widen (a' := 200 + 53 * c + 53) (b' := 80000 + 10240 * c + 10240) C (by omega) (by omega) ?_
        exact next nb m st la sp ac bd sg tp hd vw o1 o2 pl pp i0 i1 i2 (h.go (Fr.rf (L := [])) (by decide) rfl hc (h.1.kept rfl (Nat.le_succ c) hc) h.2.1 h.2.2.1 h.2.2.2.1 h.2.2.2.2.1 h.2.2.2.2.2.1 h.2.2.2.2.2.2.1)
      rcases (show k = 0 ∨ k = 1 ∨ k = 2 ∨ k = 3 ∨ k = 4 ∨ k = 5 ∨ k = 6 ∨ k = 7 ∨ k = 8 ∨ k = 9 ∨ k = 10 ∨ k = 11 ∨ k = 12 ∨ k = 13 ∨ k = 14 ∨ k = 15 ∨ k = 16 ∨ k = 17 ∨ k = 18 ∨ k = 19 ∨ k = 20 ∨ k = 21 ∨ k = 22 ∨ k = 23 ∨ k = 24 ∨ k = 25 ∨ k = 26 ∨ k = 27 ∨ k = 28 ∨ k = 29 ∨ k = 30 ∨ k = 31 ∨ k = 32 ∨ k = 33 ∨ k = 34 ∨ k = 35 ∨ k = 36 ∨ k = 37 ∨ k = 38 ∨ k = 39 ∨ k = 40 ∨ k = 41 by omega) with rfl | rfl | rfl | rfl | rfl | rfl | rfl | rfl | rfl | rfl | rfl | rfl | rfl | rfl | rfl | rfl | rfl | rfl | rfl | rfl | rfl | rfl | rfl | rfl | rfl | rfl | rfl | rfl | rfl | rfl | rfl | rfl | rfl | rfl | rfl | rfl | rfl | rfl | rfl | rfl | rfl | rfl
      · exact v_tsIn (k := nI 0) (off := 183) (tgt := 216) C hz dL_law_33 (by decide) (by decide) (by decide) (by decide) (step_0 C hL hL2 (6 * c) hi hab h0 hm a_nb a_m a_st a_la a_sp a_ac a_bd a_sg a_tp a_hd a_vw a_o1 a_o2 a_pl a_pp hc nb m st la sp ac bd sg tp hd vw o1 o2 pl pp i0 i1 i2 h next)
      · exact v_tsIn (k := nI 1) (off := 246) (tgt := 279) C hz dL_law_33 (by decide) (by decide) (by decide) (by decide) (step_1 C hL hL2 (6 * c) hi hab h0 hm a_nb a_m a_st a_la a_sp a_ac a_bd a_sg a_tp a_hd a_vw a_o1 a_o2 a_pl a_pp hc nb m st la sp ac bd sg tp hd vw o1 o2 pl pp i0 i1 i2 h next)
      · exact v_tsIn (k := nI 2) (off := 269) (tgt := 302) C hz dL_law_33 (by decide) (by decide) (by decide) (by decide) (step_2 C hL hL2 (6 * c) hi hab h0 hm a_nb a_m a_st a_la a_sp a_ac a_bd a_sg a_tp a_hd a_vw a_o1 a_o2 a_pl a_pp hc nb m st la sp ac bd sg tp hd vw o1 o2 pl pp i0 i1 i2 h next)
      · exact v_tsIn (k := nI 3) (off := 292) (tgt := 325) C hz dL_law_33 (by decide) (by decide) (by decide) (by decide) (step_3 C hL hL2 (6 * c) hi hab h0 hm a_nb a_m a_st a_la a_sp a_ac a_bd a_sg a_tp a_hd a_vw a_o1 a_o2 a_pl a_pp hc nb m st la sp ac bd sg tp hd vw o1 o2 pl pp i0 i1 i2 h next)
      · exact v_tsIn (k := nI 4) (off := 325) (tgt := 358) C hz dL_law_33 (by decide) (by decide) (by decide) (by decide) (step_4 C hL hL2 (6 * c) hi hab h0 hm a_nb a_m a_st a_la a_sp a_ac a_bd a_sg a_tp a_hd a_vw a_o1 a_o2 a_pl a_pp hc nb m st la sp ac bd sg tp hd vw o1 o2 pl pp i0 i1 i2 h next)
      · exact v_tsIn (k := nI 5) (off := 358) (tgt := 391) C hz dL_law_33 (by decide) (by decide) (by decide) (by decide) (step_5 C hL hL2 (6 * c) hi hab h0 hm a_nb a_m a_st a_la a_sp a_ac a_bd a_sg a_tp a_hd a_vw a_o1 a_o2 a_pl a_pp hc nb m st la sp ac bd sg tp hd vw o1 o2 pl pp i0 i1 i2 h next)
      · exact v_tsIn (k := nI 6) (off := 401) (tgt := 434) C hz dL_law_33 (by decide) (by decide) (by decide) (by decide) (step_6 C hL hL2 (6 * c) hi hab h0 hm a_nb a_m a_st a_la a_sp a_ac a_bd a_sg a_tp a_hd a_vw a_o1 a_o2 a_pl a_pp hc nb m st la sp ac bd sg tp hd vw o1 o2 pl pp i0 i1 i2 h next)
      · exact v_tsIn (k := nI 7) (off := 424) (tgt := 457) C hz dL_law_33 (by decide) (by decide) (by decide) (by decide) (step_7 C hL hL2 (6 * c) hi hab h0 hm a_nb a_m a_st a_la a_sp a_ac a_bd a_sg a_tp a_hd a_vw a_o1 a_o2 a_pl a_pp hc nb m st la sp ac bd sg tp hd vw o1 o2 pl pp i0 i1 i2 h next)
      · exact v_tsIn (k := nI 8) (off := 477) (tgt := 510) C hz dL_law_33 (by decide) (by decide) (by decide) (by decide) (step_8 C hL hL2 (6 * c) hi hab h0 hm a_nb a_m a_st a_la a_sp a_ac a_bd a_sg a_tp a_hd a_vw a_o1 a_o2 a_pl a_pp hc nb m st la sp ac bd sg tp hd vw o1 o2 pl pp i0 i1 i2 h next)
      · exact v_tsIn (k := nI 9) (off := 520) (tgt := 553) C hz dL_law_33 (by decide) (by decide) (by decide) (by decide) (step_9 C hL hL2 (6 * c) hi hab h0 hm a_nb a_m a_st a_la a_sp a_ac a_bd a_sg a_tp a_hd a_vw a_o1 a_o2 a_pl a_pp hc nb m st la sp ac bd sg tp hd vw o1 o2 pl pp i0 i1 i2 h next)
      · exact v_tsIn (k := nI 10) (off := 543) (tgt := 576) C hz dL_law_33 (by decide) (by decide) (by decide) (by decide) (step_10 C hL hL2 (6 * c) hi hab h0 hm a_nb a_m a_st a_la a_sp a_ac a_bd a_sg a_tp a_hd a_vw a_o1 a_o2 a_pl a_pp hc nb m st la sp ac bd sg tp hd vw o1 o2 pl pp i0 i1 i2 h next)
      · exact v_tsIn (k := nI 11) (off := 556) (tgt := 589) C hz dL_law_33 (by decide) (by decide) (by decide) (by decide) (step_11 C hL hL2 (6 * c) hi hab h0 hm a_nb a_m a_st a_la a_sp a_ac a_bd a_sg a_tp a_hd a_vw a_o1 a_o2 a_pl a_pp hc nb m st la sp ac bd sg tp hd vw o1 o2 pl pp i0 i1 i2 h next)
      · exact v_tsIn (k := nI 12) (off := 579) (tgt := 612) C hz dL_law_33 (by decide) (by decide) (by decide) (by decide) (step_12 C hL hL2 (6 * c) hi hab h0 hm a_nb a_m a_st a_la a_sp a_ac a_bd a_sg a_tp a_hd a_vw a_o1 a_o2 a_pl a_pp hc nb m st la sp ac bd sg tp hd vw o1 o2 pl pp i0 i1 i2 h next)
      · exact v_tsIn (k := nI 13) (off := 612) (tgt := 645) C hz dL_law_33 (by decide) (by decide) (by decide) (by decide) (step_13 C hL hL2 (6 * c) hi hab h0 hm a_nb a_m a_st a_la a_sp a_ac a_bd a_sg a_tp a_hd a_vw a_o1 a_o2 a_pl a_pp hc nb m st la sp ac bd sg tp hd vw o1 o2 pl pp i0 i1 i2 h next)
      · exact v_tsIn (k := nI 14) (off := 635) (tgt := 668) C hz dL_law_33 (by decide) (by decide) (by decide) (by decide) (step_14 C hL hL2 (6 * c) hi hab h0 hm a_nb a_m a_st a_la a_sp a_ac a_bd a_sg a_tp a_hd a_vw a_o1 a_o2 a_pl a_pp hc nb m st la sp ac bd sg tp hd vw o1 o2 pl pp i0 i1 i2 h next)
      · exact v_tsIn (k := nI 15) (off := 658) (tgt := 691) C hz dL_law_33 (by decide) (by decide) (by decide) (by decide) (step_15 C hL hL2 (6 * c) hi hab h0 hm a_nb a_m a_st a_la a_sp a_ac a_bd a_sg a_tp a_hd a_vw a_o1 a_o2 a_pl a_pp hc nb m st la sp ac bd sg tp hd vw o1 o2 pl pp i0 i1 i2 h next)
      · exact v_tsIn (k := nI 16) (off := 681) (tgt := 714) C hz dL_law_33 (by decide) (by decide) (by decide) (by decide) (step_16 C hL hL2 (6 * c) hi hab h0 hm a_nb a_m a_st a_la a_sp a_ac a_bd a_sg a_tp a_hd a_vw a_o1 a_o2 a_pl a_pp hc nb m st la sp ac bd sg tp hd vw o1 o2 pl pp i0 i1 i2 h next)
      · exact v_tsIn (k := nI 17) (off := 724) (tgt := 757) C hz dL_law_33 (by decide) (by decide) (by decide) (by decide) (step_17 C hL hL2 (6 * c) hi hab h0 hm a_nb a_m a_st a_la a_sp a_ac a_bd a_sg a_tp a_hd a_vw a_o1 a_o2 a_pl a_pp hc nb m st la sp ac bd sg tp hd vw o1 o2 pl pp i0 i1 i2 h next)
      · exact v_tsIn (k := nI 18) (off := 767) (tgt := 800) C hz dL_law_33 (by decide) (by decide) (by decide) (by decide) (step_18 C hL hL2 (6 * c) hi hab h0 hm a_nb a_m a_st a_la a_sp a_ac a_bd a_sg a_tp a_hd a_vw a_o1 a_o2 a_pl a_pp hc nb m st la sp ac bd sg tp hd vw o1 o2 pl pp i0 i1 i2 h next)
      · exact v_tsIn (k := nI 19) (off := 810) (tgt := 843) C hz dL_law_33 (by decide) (by decide) (by decide) (by decide) (step_19 C hL hL2 (6 * c) hi hab h0 hm a_nb a_m a_st a_la a_sp a_ac a_bd a_sg a_tp a_hd a_vw a_o1 a_o2 a_pl a_pp hc nb m st la sp ac bd sg tp hd vw o1 o2 pl pp i0 i1 i2 h next)
      · exact v_tsIn (k := nI 20) (off := 833) (tgt := 866) C hz dL_law_33 (by decide) (by decide) (by decide) (by decide) (step_20 C hL hL2 (6 * c) hi hab h0 hm a_nb a_m a_st a_la a_sp a_ac a_bd a_sg a_tp a_hd a_vw a_o1 a_o2 a_pl a_pp hc nb m st la sp ac bd sg tp hd vw o1 o2 pl pp i0 i1 i2 h next)
      · exact v_tsIn (k := nI 21) (off := 856) (tgt := 889) C hz dL_law_33 (by decide) (by decide) (by decide) (by decide) (step_21 C hL hL2 (6 * c) hi hab h0 hm a_nb a_m a_st a_la a_sp a_ac a_bd a_sg a_tp a_hd a_vw a_o1 a_o2 a_pl a_pp hc nb m st la sp ac bd sg tp hd vw o1 o2 pl pp i0 i1 i2 h next)
      · exact v_tsIn (k := nI 22) (off := 915) (tgt := 948) C hz dL_law_33 (by decide) (by decide) (by decide) (by decide) (step_22 C hL hL2 (6 * c) hi hab h0 hm a_nb a_m a_st a_la a_sp a_ac a_bd a_sg a_tp a_hd a_vw a_o1 a_o2 a_pl a_pp hc nb m st la sp ac bd sg tp hd vw o1 o2 pl pp i0 i1 i2 h next)
      · exact v_tsIn (k := nI 23) (off := 938) (tgt := 971) C hz dL_law_33 (by decide) (by decide) (by decide) (by decide) (step_23 C hL hL2 (6 * c) hi hab h0 hm a_nb a_m a_st a_la a_sp a_ac a_bd a_sg a_tp a_hd a_vw a_o1 a_o2 a_pl a_pp hc nb m st la sp ac bd sg tp hd vw o1 o2 pl pp i0 i1 i2 h next)
      · exact v_tsIn (k := nI 24) (off := 991) (tgt := 1024) C hz dL_law_33 (by decide) (by decide) (by decide) (by decide) (step_24 C hL hL2 (6 * c) hi hab h0 hm a_nb a_m a_st a_la a_sp a_ac a_bd a_sg a_tp a_hd a_vw a_o1 a_o2 a_pl a_pp hc nb m st la sp ac bd sg tp hd vw o1 o2 pl pp i0 i1 i2 h next)
      · exact v_tsIn (k := nI 25) (off := 1024) (tgt := 1057) C hz dL_law_33 (by decide) (by decide) (by decide) (by decide) (step_25 C hL hL2 (6 * c) hi hab h0 hm a_nb a_m a_st a_la a_sp a_ac a_bd a_sg a_tp a_hd a_vw a_o1 a_o2 a_pl a_pp hc nb m st la sp ac bd sg tp hd vw o1 o2 pl pp i0 i1 i2 h next)
      · exact v_tsIn (k := nI 26) (off := 1067) (tgt := 1100) C hz dL_law_33 (by decide) (by decide) (by decide) (by decide) (step_26 C hL hL2 (6 * c) hi hab h0 hm a_nb a_m a_st a_la a_sp a_ac a_bd a_sg a_tp a_hd a_vw a_o1 a_o2 a_pl a_pp hc nb m st la sp ac bd sg tp hd vw o1 o2 pl pp i0 i1 i2 h next)
      · exact v_tsIn (k := nI 27) (off := 1100) (tgt := 1133) C hz dL_law_33 (by decide) (by decide) (by decide) (by decide) (step_27 C hL hL2 (6 * c) hi hab h0 hm a_nb a_m a_st a_la a_sp a_ac a_bd a_sg a_tp a_hd a_vw a_o1 a_o2 a_pl a_pp hc nb m st la sp ac bd sg tp hd vw o1 o2 pl pp i0 i1 i2 h next)
      · exact v_tsIn (k := nI 28) (off := 1123) (tgt := 1156) C hz dL_law_33 (by decide) (by decide) (by decide) (by decide) (step_28 C hL hL2 (6 * c) hi hab h0 hm a_nb a_m a_st a_la a_sp a_ac a_bd a_sg a_tp a_hd a_vw a_o1 a_o2 a_pl a_pp hc nb m st la sp ac bd sg tp hd vw o1 o2 pl pp i0 i1 i2 h next)
      · exact v_tsIn (k := nI 29) (off := 1156) (tgt := 1189) C hz dL_law_33 (by decide) (by decide) (by decide) (by decide) (step_29 C hL hL2 (6 * c) hi hab h0 hm a_nb a_m a_st a_la a_sp a_ac a_bd a_sg a_tp a_hd a_vw a_o1 a_o2 a_pl a_pp hc nb m st la sp ac bd sg tp hd vw o1 o2 pl pp i0 i1 i2 h next)
      · exact v_tsIn (k := nI 30) (off := 1179) (tgt := 1212) C hz dL_law_33 (by decide) (by decide) (by decide) (by decide) (step_30 C hL hL2 (6 * c) hi hab h0 hm a_nb a_m a_st a_la a_sp a_ac a_bd a_sg a_tp a_hd a_vw a_o1 a_o2 a_pl a_pp hc nb m st la sp ac bd sg tp hd vw o1 o2 pl pp i0 i1 i2 h next)
      · exact v_tsIn (k := nI 31) (off := 1202) (tgt := 1235) C hz dL_law_33 (by decide) (by decide) (by decide) (by decide) (step_31 C hL hL2 (6 * c) hi hab h0 hm a_nb a_m a_st a_la a_sp a_ac a_bd a_sg a_tp a_hd a_vw a_o1 a_o2 a_pl a_pp hc nb m st la sp ac bd sg tp hd vw o1 o2 pl pp i0 i1 i2 h next)
      · exact v_tsIn (k := nI 32) (off := 1225) (tgt := 1258) C hz dL_law_33 (by decide) (by decide) (by decide) (by decide) (step_32 C hL hL2 (6 * c) hi hab h0 hm a_nb a_m a_st a_la a_sp a_ac a_bd a_sg a_tp a_hd a_vw a_o1 a_o2 a_pl a_pp hc nb m st la sp ac bd sg tp hd vw o1 o2 pl pp i0 i1 i2 h next)
      · exact v_tsIn (k := nI 33) (off := 1238) (tgt := 1271) C hz dL_law_33 (by decide) (by decide) (by decide) (by decide) (step_33 C hL hL2 (6 * c) hi hab h0 hm a_nb a_m a_st a_la a_sp a_ac a_bd a_sg a_tp a_hd a_vw a_o1 a_o2 a_pl a_pp hc nb m st la sp ac bd sg tp hd vw o1 o2 pl pp i0 i1 i2 h next)
      · exact v_tsIn (k := nI 34) (off := 1251) (tgt := 1284) C hz dL_law_33 (by decide) (by decide) (by decide) (by decide) (step_34 C hL hL2 (6 * c) hi hab h0 hm a_nb a_m a_st a_la a_sp a_ac a_bd a_sg a_tp a_hd a_vw a_o1 a_o2 a_pl a_pp hc nb m st la sp ac bd sg tp hd vw o1 o2 pl pp i0 i1 i2 h next)
      · exact v_tsIn (k := nI 35) (off := 1274) (tgt := 1307) C hz dL_law_33 (by decide) (by decide) (by decide) (by decide) (step_35 C hL hL2 (6 * c) hi hab h0 hm a_nb a_m a_st a_la a_sp a_ac a_bd a_sg a_tp a_hd a_vw a_o1 a_o2 a_pl a_pp hc nb m st la sp ac bd sg tp hd vw o1 o2 pl pp i0 i1 i2 h next)
      · exact v_tsIn (k := nI 36) (off := 1297) (tgt := 1330) C hz dL_law_33 (by decide) (by decide) (by decide) (by decide) (step_36 C hL hL2 (6 * c) hi hab h0 hm a_nb a_m a_st a_la a_sp a_ac a_bd a_sg a_tp a_hd a_vw a_o1 a_o2 a_pl a_pp hc nb m st la sp ac bd sg tp hd vw o1 o2 pl pp i0 i1 i2 h next)
      · exact v_tsIn (k := nI 37) (off := 1320) (tgt := 1353) C hz dL_law_33 (by decide) (by decide) (by decide) (by decide) (step_37 C hL hL2 (6 * c) hi hab h0 hm a_nb a_m a_st a_la a_sp a_ac a_bd a_sg a_tp a_hd a_vw a_o1 a_o2 a_pl a_pp hc nb m st la sp ac bd sg tp hd vw o1 o2 pl pp i0 i1 i2 h next)
      · exact v_tsIn (k := nI 38) (off := 1343) (tgt := 1376) C hz dL_law_33 (by decide) (by decide) (by decide) (by decide) (step_38 C hL hL2 (6 * c) hi hab h0 hm a_nb a_m a_st a_la a_sp a_ac a_bd a_sg a_tp a_hd a_vw a_o1 a_o2 a_pl a_pp hc nb m st la sp ac bd sg tp hd vw o1 o2 pl pp i0 i1 i2 h next)
      · exact v_tsIn (k := nI 39) (off := 1386) (tgt := 1419) C hz dL_law_33 (by decide) (by decide) (by decide) (by decide) (step_39 C hL hL2 (6 * c) hi hab h0 hm a_nb a_m a_st a_la a_sp a_ac a_bd a_sg a_tp a_hd a_vw a_o1 a_o2 a_pl a_pp hc nb m st la sp ac bd sg tp hd vw o1 o2 pl pp i0 i1 i2 h next)
      · exact v_tsIn (k := nI 40) (off := 1409) (tgt := 1442) C hz dL_law_33 (by decide) (by decide) (by decide) (by decide) (step_40 C hL hL2 (6 * c) hi hab h0 hm a_nb a_m a_st a_la a_sp a_ac a_bd a_sg a_tp a_hd a_vw a_o1 a_o2 a_pl a_pp hc nb m st la sp ac bd sg tp hd vw o1 o2 pl pp i0 i1 i2 h next)
      · exact v_tsIn (k := nI 41) (off := 1482) (tgt := 1515) C hz dL_law_33 (by decide) (by decide) (by decide) (by decide) (step_41 C hL hL2 (6 * c) hi hab h0 hm a_nb a_m a_st a_la a_sp a_ac a_bd a_sg a_tp a_hd a_vw a_o1 a_o2 a_pl a_pp hc nb m st la sp ac bd sg tp hd vw o1 o2 pl pp i0 i1 i2 h next)
