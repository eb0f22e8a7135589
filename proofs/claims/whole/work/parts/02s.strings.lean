theorem mC_J0_charAt_5068e : Cond.code yJ0_charAt_5068e cJ0_charAt_5068e 2 (some .char) ∈ lwG := lwG_of 746 (by decide +kernel) (by decide +kernel)
theorem mC_J0_checkIndex_df160 : Cond.code yJ0_checkIndex_df160 cJ0_checkIndex_df160 2 none ∈ lwG := lwG_of 756 (by decide +kernel) (by decide +kernel)
theorem mC_J0_coder_7d493 : Cond.code yJ0_coder_7d493 cJ0_coder_7d493 1 (some .byte) ∈ lwG := lwG_of 740 (by decide +kernel) (by decide +kernel)
theorem mC_J0_isLatin1_aae02 : Cond.code yJ0_isLatin1_aae02 cJ0_isLatin1_aae02 1 (some .boolean) ∈ lwG := lwG_of 750 (by decide +kernel) (by decide +kernel)
theorem mC_J0_length_8abf5 : Cond.code yJ0_length_8abf5 cJ0_length_8abf5 1 (some .int) ∈ lwG := lwG_of 736 (by decide +kernel) (by decide +kernel)
theorem mC_J1_charAt_3b067 : Cond.code yJ1_charAt_3b067 cJ1_charAt_3b067 2 (some .char) ∈ lwG := lwG_of 753 (by decide +kernel) (by decide +kernel)
theorem mC_J3_checkIndex_8e157 : Cond.code yJ3_checkIndex_8e157 cJ3_checkIndex_8e157 3 (some .int) ∈ lwG := lwG_of 761 (by decide +kernel) (by decide +kernel)
theorem mI_J0 : Cond.initialized RJ0 ∈ lwG := lwG_of 82 (by decide +kernel) (by decide +kernel)
theorem mI_J1 : Cond.initialized RJ1 ∈ lwG := lwG_of 83 (by decide +kernel) (by decide +kernel)
theorem mI_J3 : Cond.initialized RJ3 ∈ lwG := lwG_of 84 (by decide +kernel) (by decide +kernel)
theorem mM_J0_1059 : Cond.methodLink RJ0 1059 yJ3_checkIndex_8e157 ∈ lwG := lwG_of 759 (by decide +kernel) (by decide +kernel)
theorem mM_J0_335 : Cond.methodLink RJ0 335 yJ0_coder_7d493 ∈ lwG := lwG_of 737 (by decide +kernel) (by decide +kernel)
theorem mM_J0_492 : Cond.methodLink RJ0 492 yJ0_isLatin1_aae02 ∈ lwG := lwG_of 747 (by decide +kernel) (by decide +kernel)
theorem mM_J0_495 : Cond.methodLink RJ0 495 yJ1_charAt_3b067 ∈ lwG := lwG_of 751 (by decide +kernel) (by decide +kernel)
theorem mM_J1_9 : Cond.methodLink RJ1 9 yJ0_checkIndex_df160 ∈ lwG := lwG_of 754 (by decide +kernel) (by decide +kernel)
theorem mN_J0_charAt_5068e : Cond.instanceMethod yJ0_charAt_5068e ∈ lwG := lwG_of 744 (by decide +kernel) (by decide +kernel)
theorem mN_J0_coder_7d493 : Cond.instanceMethod yJ0_coder_7d493 ∈ lwG := lwG_of 738 (by decide +kernel) (by decide +kernel)
theorem mN_J0_isLatin1_aae02 : Cond.instanceMethod yJ0_isLatin1_aae02 ∈ lwG := lwG_of 748 (by decide +kernel) (by decide +kernel)
theorem mN_J0_length_8abf5 : Cond.instanceMethod yJ0_length_8abf5 ∈ lwG := lwG_of 734 (by decide +kernel) (by decide +kernel)
theorem mS_J0_charAt_5068e : Cond.selects yJ0_charAt_5068e.cls yJ0_charAt_5068e yJ0_charAt_5068e ∈ lwG := lwG_of 745 (by decide +kernel) (by decide +kernel)
theorem mS_J0_coder_7d493 : Cond.selects yJ0_coder_7d493.cls yJ0_coder_7d493 yJ0_coder_7d493 ∈ lwG := lwG_of 739 (by decide +kernel) (by decide +kernel)
theorem mS_J0_isLatin1_aae02 : Cond.selects yJ0_isLatin1_aae02.cls yJ0_isLatin1_aae02 yJ0_isLatin1_aae02 ∈ lwG := lwG_of 749 (by decide +kernel) (by decide +kernel)
theorem mS_J0_length_8abf5 : Cond.selects yJ0_length_8abf5.cls yJ0_length_8abf5 yJ0_length_8abf5 ∈ lwG := lwG_of 735 (by decide +kernel) (by decide +kernel)
theorem mT_J0_checkIndex_df160 : Cond.static yJ0_checkIndex_df160 ∈ lwG := lwG_of 755 (by decide +kernel) (by decide +kernel)
theorem mT_J1_charAt_3b067 : Cond.static yJ1_charAt_3b067 ∈ lwG := lwG_of 752 (by decide +kernel) (by decide +kernel)
theorem mT_J3_checkIndex_8e157 : Cond.static yJ3_checkIndex_8e157 ∈ lwG := lwG_of 760 (by decide +kernel) (by decide +kernel)
theorem mFJ0_38 : Cond.fieldLink RJ0 38 "java/lang/String" "COMPACT_STRINGS" "Z" ∈ lwG := lwG_of 741 (by decide +kernel) (by decide +kernel)
theorem mFJ0_9 : Cond.fieldLink RJ0 9 "java/lang/String" "value" "[B" ∈ lwG := lwG_of 1946 (by decide +kernel) (by decide +kernel)
theorem mFJ0_15 : Cond.fieldLink RJ0 15 "java/lang/String" "coder" "B" ∈ lwG := lwG_of 1947 (by decide +kernel) (by decide +kernel)
theorem mFJ0_1053 : Cond.fieldLink RJ0 1053 "jdk/internal/util/Preconditions" "SIOOBE_FORMATTER" "Ljava/util/function/BiFunction;" ∈ lwG := lwG_of 757 (by decide +kernel) (by decide +kernel)
theorem hd_J0_length_8abf5 : yJ0_length_8abf5.cls ≠ "java/lang/invoke/MethodHandle" ∧ yJ0_length_8abf5.cls ≠ "java/lang/invoke/VarHandle" ∧ (parseMethodDescriptor yJ0_length_8abf5.desc).map (fun d => d.parameters.length) = some 0 := by decide +kernel
theorem hd_J0_coder_7d493 : yJ0_coder_7d493.cls ≠ "java/lang/invoke/MethodHandle" ∧ yJ0_coder_7d493.cls ≠ "java/lang/invoke/VarHandle" ∧ (parseMethodDescriptor yJ0_coder_7d493.desc).map (fun d => d.parameters.length) = some 0 := by decide +kernel
theorem hd_J0_isLatin1_aae02 : yJ0_isLatin1_aae02.cls ≠ "java/lang/invoke/MethodHandle" ∧ yJ0_isLatin1_aae02.cls ≠ "java/lang/invoke/VarHandle" ∧ (parseMethodDescriptor yJ0_isLatin1_aae02.desc).map (fun d => d.parameters.length) = some 0 := by decide +kernel
theorem hd_J0_charAt_5068e : yJ0_charAt_5068e.cls ≠ "java/lang/invoke/MethodHandle" ∧ yJ0_charAt_5068e.cls ≠ "java/lang/invoke/VarHandle" ∧ (parseMethodDescriptor yJ0_charAt_5068e.desc).map (fun d => d.parameters.length) = some 1 := by decide +kernel
theorem hd_J1_charAt_3b067 : yJ1_charAt_3b067.cls ≠ "java/lang/invoke/MethodHandle" ∧ yJ1_charAt_3b067.cls ≠ "java/lang/invoke/VarHandle" ∧ (parseMethodDescriptor yJ1_charAt_3b067.desc).map (fun d => d.parameters.length) = some 2 := by decide +kernel
theorem hd_J0_checkIndex_df160 : yJ0_checkIndex_df160.cls ≠ "java/lang/invoke/MethodHandle" ∧ yJ0_checkIndex_df160.cls ≠ "java/lang/invoke/VarHandle" ∧ (parseMethodDescriptor yJ0_checkIndex_df160.desc).map (fun d => d.parameters.length) = some 2 := by decide +kernel
theorem hd_J3_checkIndex_8e157 : yJ3_checkIndex_8e157.cls ≠ "java/lang/invoke/MethodHandle" ∧ yJ3_checkIndex_8e157.cls ≠ "java/lang/invoke/VarHandle" ∧ (parseMethodDescriptor yJ3_checkIndex_8e157.desc).map (fun d => d.parameters.length) = some 3 := by decide +kernel
theorem dJ0_length_8abf5_0 : decode cJ0_length_8abf5 0 = .ok (.aload_n 0, 1) := by decide +kernel
theorem dJ0_length_8abf5_1 : decode cJ0_length_8abf5 1 = .ok (.getfield 9, 3) := by decide +kernel
theorem dJ0_length_8abf5_4 : decode cJ0_length_8abf5 4 = .ok (.arraylength, 1) := by decide +kernel
theorem dJ0_length_8abf5_5 : decode cJ0_length_8abf5 5 = .ok (.aload_n 0, 1) := by decide +kernel
theorem dJ0_length_8abf5_6 : decode cJ0_length_8abf5 6 = .ok (.invokevirtual 335, 3) := by decide +kernel
theorem dJ0_length_8abf5_9 : decode cJ0_length_8abf5 9 = .ok (.ishr, 1) := by decide +kernel
theorem dJ0_length_8abf5_10 : decode cJ0_length_8abf5 10 = .ok (.ireturn, 1) := by decide +kernel
theorem dJ0_charAt_5068e_0 : decode cJ0_charAt_5068e 0 = .ok (.aload_n 0, 1) := by decide +kernel
theorem dJ0_charAt_5068e_1 : decode cJ0_charAt_5068e 1 = .ok (.invokevirtual 492, 3) := by decide +kernel
theorem dJ0_charAt_5068e_4 : decode cJ0_charAt_5068e 4 = .ok (.ifCond .eq 12, 3) := by decide +kernel
theorem dJ0_charAt_5068e_7 : decode cJ0_charAt_5068e 7 = .ok (.aload_n 0, 1) := by decide +kernel
theorem dJ0_charAt_5068e_8 : decode cJ0_charAt_5068e 8 = .ok (.getfield 9, 3) := by decide +kernel
theorem dJ0_charAt_5068e_11 : decode cJ0_charAt_5068e 11 = .ok (.iload_n 1, 1) := by decide +kernel
theorem dJ0_charAt_5068e_12 : decode cJ0_charAt_5068e 12 = .ok (.invokestatic 495, 3) := by decide +kernel
theorem dJ0_charAt_5068e_15 : decode cJ0_charAt_5068e 15 = .ok (.ireturn, 1) := by decide +kernel
theorem dJ0_charAt_5068e_16 : decode cJ0_charAt_5068e 16 = .ok (.aload_n 0, 1) := by decide +kernel
theorem dJ0_charAt_5068e_17 : decode cJ0_charAt_5068e 17 = .ok (.getfield 9, 3) := by decide +kernel
theorem dJ0_charAt_5068e_20 : decode cJ0_charAt_5068e 20 = .ok (.iload_n 1, 1) := by decide +kernel
theorem dJ0_charAt_5068e_21 : decode cJ0_charAt_5068e 21 = .ok (.invokestatic 498, 3) := by decide +kernel
theorem dJ0_charAt_5068e_24 : decode cJ0_charAt_5068e 24 = .ok (.ireturn, 1) := by decide +kernel
theorem dJ0_coder_7d493_0 : decode cJ0_coder_7d493 0 = .ok (.getstatic 38, 3) := by decide +kernel
theorem dJ0_coder_7d493_3 : decode cJ0_coder_7d493 3 = .ok (.ifCond .eq 10, 3) := by decide +kernel
theorem dJ0_coder_7d493_6 : decode cJ0_coder_7d493 6 = .ok (.aload_n 0, 1) := by decide +kernel
theorem dJ0_coder_7d493_7 : decode cJ0_coder_7d493 7 = .ok (.getfield 15, 3) := by decide +kernel
theorem dJ0_coder_7d493_10 : decode cJ0_coder_7d493 10 = .ok (.goto 4, 3) := by decide +kernel
theorem dJ0_coder_7d493_13 : decode cJ0_coder_7d493 13 = .ok (.iconst 1, 1) := by decide +kernel
theorem dJ0_coder_7d493_14 : decode cJ0_coder_7d493 14 = .ok (.ireturn, 1) := by decide +kernel
theorem dJ0_isLatin1_aae02_0 : decode cJ0_isLatin1_aae02 0 = .ok (.getstatic 38, 3) := by decide +kernel
theorem dJ0_isLatin1_aae02_3 : decode cJ0_isLatin1_aae02 3 = .ok (.ifCond .eq 14, 3) := by decide +kernel
theorem dJ0_isLatin1_aae02_6 : decode cJ0_isLatin1_aae02 6 = .ok (.aload_n 0, 1) := by decide +kernel
theorem dJ0_isLatin1_aae02_7 : decode cJ0_isLatin1_aae02 7 = .ok (.getfield 15, 3) := by decide +kernel
theorem dJ0_isLatin1_aae02_10 : decode cJ0_isLatin1_aae02 10 = .ok (.ifCond .ne 7, 3) := by decide +kernel
theorem dJ0_isLatin1_aae02_13 : decode cJ0_isLatin1_aae02 13 = .ok (.iconst 1, 1) := by decide +kernel
theorem dJ0_isLatin1_aae02_14 : decode cJ0_isLatin1_aae02 14 = .ok (.goto 4, 3) := by decide +kernel
theorem dJ0_isLatin1_aae02_17 : decode cJ0_isLatin1_aae02 17 = .ok (.iconst 0, 1) := by decide +kernel
theorem dJ0_isLatin1_aae02_18 : decode cJ0_isLatin1_aae02 18 = .ok (.ireturn, 1) := by decide +kernel
theorem dJ0_checkIndex_df160_0 : decode cJ0_checkIndex_df160 0 = .ok (.iload_n 0, 1) := by decide +kernel
theorem dJ0_checkIndex_df160_1 : decode cJ0_checkIndex_df160 1 = .ok (.iload_n 1, 1) := by decide +kernel
theorem dJ0_checkIndex_df160_2 : decode cJ0_checkIndex_df160 2 = .ok (.getstatic 1053, 3) := by decide +kernel
theorem dJ0_checkIndex_df160_5 : decode cJ0_checkIndex_df160 5 = .ok (.invokestatic 1059, 3) := by decide +kernel
theorem dJ0_checkIndex_df160_8 : decode cJ0_checkIndex_df160 8 = .ok (.pop, 1) := by decide +kernel
theorem dJ0_checkIndex_df160_9 : decode cJ0_checkIndex_df160 9 = .ok (.return_, 1) := by decide +kernel
theorem dJ1_charAt_3b067_0 : decode cJ1_charAt_3b067 0 = .ok (.iload_n 1, 1) := by decide +kernel
theorem dJ1_charAt_3b067_1 : decode cJ1_charAt_3b067 1 = .ok (.aload_n 0, 1) := by decide +kernel
theorem dJ1_charAt_3b067_2 : decode cJ1_charAt_3b067 2 = .ok (.arraylength, 1) := by decide +kernel
theorem dJ1_charAt_3b067_3 : decode cJ1_charAt_3b067 3 = .ok (.invokestatic 9, 3) := by decide +kernel
theorem dJ1_charAt_3b067_6 : decode cJ1_charAt_3b067 6 = .ok (.aload_n 0, 1) := by decide +kernel
theorem dJ1_charAt_3b067_7 : decode cJ1_charAt_3b067 7 = .ok (.iload_n 1, 1) := by decide +kernel
theorem dJ1_charAt_3b067_8 : decode cJ1_charAt_3b067 8 = .ok (.baload, 1) := by decide +kernel
theorem dJ1_charAt_3b067_9 : decode cJ1_charAt_3b067 9 = .ok (.sipush 255, 3) := by decide +kernel
theorem dJ1_charAt_3b067_12 : decode cJ1_charAt_3b067 12 = .ok (.iand, 1) := by decide +kernel
theorem dJ1_charAt_3b067_13 : decode cJ1_charAt_3b067 13 = .ok (.i2c, 1) := by decide +kernel
theorem dJ1_charAt_3b067_14 : decode cJ1_charAt_3b067 14 = .ok (.ireturn, 1) := by decide +kernel
theorem dJ3_checkIndex_8e157_0 : decode cJ3_checkIndex_8e157 0 = .ok (.iload_n 0, 1) := by decide +kernel
theorem dJ3_checkIndex_8e157_1 : decode cJ3_checkIndex_8e157 1 = .ok (.ifCond .lt 8, 3) := by decide +kernel
theorem dJ3_checkIndex_8e157_4 : decode cJ3_checkIndex_8e157 4 = .ok (.iload_n 0, 1) := by decide +kernel
theorem dJ3_checkIndex_8e157_5 : decode cJ3_checkIndex_8e157 5 = .ok (.iload_n 1, 1) := by decide +kernel
theorem dJ3_checkIndex_8e157_6 : decode cJ3_checkIndex_8e157 6 = .ok (.if_icmp .lt 10, 3) := by decide +kernel
theorem dJ3_checkIndex_8e157_9 : decode cJ3_checkIndex_8e157 9 = .ok (.aload_n 2, 1) := by decide +kernel
theorem dJ3_checkIndex_8e157_10 : decode cJ3_checkIndex_8e157 10 = .ok (.iload_n 0, 1) := by decide +kernel
theorem dJ3_checkIndex_8e157_11 : decode cJ3_checkIndex_8e157 11 = .ok (.iload_n 1, 1) := by decide +kernel
theorem dJ3_checkIndex_8e157_12 : decode cJ3_checkIndex_8e157 12 = .ok (.invokestatic 95, 3) := by decide +kernel
theorem dJ3_checkIndex_8e157_15 : decode cJ3_checkIndex_8e157 15 = .ok (.athrow, 1) := by decide +kernel
theorem dJ3_checkIndex_8e157_16 : decode cJ3_checkIndex_8e157 16 = .ok (.iload_n 0, 1) := by decide +kernel
theorem dJ3_checkIndex_8e157_17 : decode cJ3_checkIndex_8e157 17 = .ok (.ireturn, 1) := by decide +kernel
theorem v_ldcS {X : VX} {cc : ByteArray} {n : Nat} {own : String} {R : Room} {E : VE} {l : Launch} (C : VC X cc n own R E l) {a b : Nat} {ws : va_W} {lv : List (Nat × Value)} {pc : Nat} {st : List Value} {k : Nat} {tx : String} (i : Nat) (hm : (own, k, tx, i) ∈ s_refs) (hdg : decode cc pc = .ok (.ldc k, 2)) (kk : VV X a b ws lv (pc + 2) (.ref (E.2.2.1 i) :: st)) : VV X a b ws lv pc st := by
  obtain ⟨p, l', e, R', s, m, args, below, meth, c, Q, A, nL, E'⟩ := X
  obtain ⟨hx, hb, hml, hown, hts, hK, hSF, hA, rfl, rfl, rfl, rfl⟩ := C
  intro H locs ls hP hD hS hl
  exact va_ldcS hx hb hown (hSF.2.2.2.2.2 _ hm) hdg (kk H locs ls hP hD hS hl)
theorem v_ldcSw {X : VX} {cc : ByteArray} {n : Nat} {own : String} {R : Room} {E : VE} {l : Launch} (C : VC X cc n own R E l) {a b : Nat} {ws : va_W} {lv : List (Nat × Value)} {pc : Nat} {st : List Value} {k : Nat} {tx : String} (i : Nat) (hm : (own, k, tx, i) ∈ s_refs) (hdg : decode cc pc = .ok (.ldc_w k, 3)) (kk : VV X a b ws lv (pc + 3) (.ref (E.2.2.1 i) :: st)) : VV X a b ws lv pc st := by
  obtain ⟨p, l', e, R', s, m, args, below, meth, c, Q, A, nL, E'⟩ := X
  obtain ⟨hx, hb, hml, hown, hts, hK, hSF, hA, rfl, rfl, rfl, rfl⟩ := C
  intro H locs ls hP hD hS hl
  have hZ := hSF.2.2.2.2.2 _ hm
  intro T hT X
  obtain ⟨t, a1, b1⟩ := kk H locs ls hP hD hS hl T hT X
  exact ⟨t, X.ldcStringW hx hown (text := tx) (a := E'.2.2.1 i) hZ.1 hZ.2 (g := F0 m pc ls st) rfl (by rw [hb]; exact hdg) t a1, b1⟩
theorem v_sCS {X : VX} {cc : ByteArray} {n : Nat} {own : String} {R : Room} {E : VE} {l : Launch} (C : VC X cc n own R E l) {a b : Nat} {ws : va_W} {lv : List (Nat × Value)} {pc : Nat} {st : List Value} (ho : own = RJ0) (hdg : decode cc pc = .ok (.getstatic 38, 3)) (kk : VV X a b ws lv (pc + 3) (.int 1 :: st)) : VV X a b ws lv pc st := by
  subst ho
  obtain ⟨p, l', e, R', s, m, args, below, meth, c, Q, A, nL, E'⟩ := X
  obtain ⟨hx, hb, hml, hown, hts, hK, hSF, hA, rfl, rfl, rfl, rfl⟩ := C
  intro H locs ls hP hD hS hl
  exact va_gets hx hb hSF.2.1 hS hown (hts _ mFJ0_38) (fun _ h9 => h9) hdg (kk H locs ls hP hD hS hl)
theorem v_scoder {X : VX} {cc : ByteArray} {n : Nat} {own : String} {R : Room} {E : VE} {l : Launch} (C : VC X cc n own R E l) {a b : Nat} {ws : va_W} {lv : List (Nat × Value)} {pc : Nat} {st : List Value} {k : Nat} (hk : k < 16) (ho : own = RJ0) (hdg : decode cc pc = .ok (.getfield 15, 3)) (kk : VV X a b ws lv (pc + 3) (.int 0 :: st)) : VV X a b ws lv pc (.ref (E.2.2.1 k) :: st) := by
  subst ho
  obtain ⟨p, l', e, R', s, m, args, below, meth, c, Q, A, nL, E'⟩ := X
  obtain ⟨hx, hb, hml, hown, hts, hK, hSF, hA, rfl, rfl, rfl, rfl⟩ := C
  intro H locs ls hP hD hS hl
  exact vk_getf hx hb (hSF.1 k hk).2.1 hS hown (hts _ mFJ0_15) (fun _ h9 => h9) hdg (kk H locs ls hP hD hS hl)
theorem v_svalue {X : VX} {cc : ByteArray} {n : Nat} {own : String} {R : Room} {E : VE} {l : Launch} (C : VC X cc n own R E l) {a b : Nat} {ws : va_W} {lv : List (Nat × Value)} {pc : Nat} {st : List Value} {k : Nat} (hk : k < 16) (ho : own = RJ0) (hdg : decode cc pc = .ok (.getfield 9, 3)) (kk : VV X a b ws lv (pc + 3) (.ref (E.2.2.2 k) :: st)) : VV X a b ws lv pc (.ref (E.2.2.1 k) :: st) := by
  subst ho
  obtain ⟨p, l', e, R', s, m, args, below, meth, c, Q, A, nL, E'⟩ := X
  obtain ⟨hx, hb, hml, hown, hts, hK, hSF, hA, rfl, rfl, rfl, rfl⟩ := C
  intro H locs ls hP hD hS hl
  exact vk_getf hx hb (hSF.1 k hk).2.2.1 hS hown (hts _ mFJ0_9) (fun _ h9 => h9) hdg (kk H locs ls hP hD hS hl)
theorem v_stlen {X : VX} {cc : ByteArray} {n : Nat} {own : String} {R : Room} {E : VE} {l : Launch} (C : VC X cc n own R E l) {a b : Nat} {ws : va_W} {lv : List (Nat × Value)} {pc : Nat} {st : List Value} {k : Nat} (hk : k < 16) (hdg : decode cc pc = .ok (.arraylength, 1)) (kk : VV X a b ws lv (pc + 1) (.int (Int32.ofNat (s_len.getD k 0)) :: st)) : VV X a b ws lv pc (.ref (E.2.2.2 k) :: st) := by
  obtain ⟨p, l', e, R', s, m, args, below, meth, c, Q, A, nL, E'⟩ := X
  obtain ⟨hx, hb, hml, hown, hts, hK, hSF, hA, rfl, rfl, rfl, rfl⟩ := C
  intro H locs ls hP hD hS hl
  exact va_tlen hx hb (hSF.1 k hk).2.2.2 hS rfl hdg (kk H locs ls hP hD hS hl)
theorem v_stb {X : VX} {cc : ByteArray} {n : Nat} {own : String} {R : Room} {E : VE} {l : Launch} (C : VC X cc n own R E l) {a b : Nat} {ws : va_W} {lv : List (Nat × Value)} {pc : Nat} {st : List Value} {k : Nat} (hk : k < 16) {i : Int32} (hi : vp_in i (s_len.getD k 0)) (hdg : decode cc pc = .ok (.baload, 1)) (kk : VV X a b ws lv (pc + 1) (.int ((s_byt.getD k []).getD i.toNatClampNeg 0) :: st)) : VV X a b ws lv pc (.int i :: .ref (E.2.2.2 k) :: st) := by
  obtain ⟨p, l', e, R', s, m, args, below, meth, c, Q, A, nL, E'⟩ := X
  obtain ⟨hx, hb, hml, hown, hts, hK, hSF, hA, rfl, rfl, rfl, rfl⟩ := C
  intro H locs ls hP hD hS hl
  exact va_tb hx hb (hSF.1 k hk).2.2.2 hS hi rfl hdg (kk H locs ls hP hD hS hl)
theorem v_sform {X : VX} {cc : ByteArray} {n : Nat} {own : String} {R : Room} {E : VE} {l : Launch} (C : VC X cc n own R E l) {a b : Nat} {ws : va_W} {lv : List (Nat × Value)} {pc : Nat} {st : List Value} (ho : own = RJ0) (hdg : decode cc pc = .ok (.getstatic 1053, 3)) (kk : ∀ v : Value, (v = .null ∨ ∃ t : Nat, v = .ref t) → VV X a b ws lv (pc + 3) (v :: st)) : VV X a b ws lv pc st := by
  subst ho
  obtain ⟨p, l', e, R', s, m, args, below, meth, c, Q, A, nL, E'⟩ := X
  obtain ⟨hx, hb, hml, hown, hts, hK, hSF, hA, rfl, rfl, rfl, rfl⟩ := C
  intro H locs ls hP hD hS hl
  rcases hSF.2.2.1 with h | ⟨t, h⟩
  · exact va_gets hx hb h hS hown (hts _ mFJ0_1053) (fun _ h9 => h9) hdg (kk .null (Or.inl rfl) H locs ls hP hD hS hl)
  · exact va_gets hx hb h hS hown (hts _ mFJ0_1053) (fun _ h9 => h9) hdg (kk (.ref t) (Or.inr ⟨t, rfl⟩) H locs ls hP hD hS hl)
theorem v_callTi {X : VX} {cc : ByteArray} {n : Nat} {own : String} {R : Room} {E : VE} {l : Launch} (C : VC X cc n own R E l) {a b : Nat} {ws : va_W} {lv : List (Nat × Value)} {pc : Nat} {st : List Value} {y : MethodName} {yc : ByteArray} {yn : Nat} {yr : FieldType} {d : Nat} {As : List Value} {post : Int32 → Unit → Prop} {idx : Nat} {stk : List Value} (k : Nat) (hk : k < 16) (hM : MI l y yc yn yr d 0 0 E (.ref (E.2.2.1 k) :: As) [] (fun (_ : Unit) => ([] : va_W)) post) (hcls : y.cls = "java/lang/String") (hlk : Cond.methodLink own idx y ∈ lwG) (hini : Cond.initialized y.cls ∈ lwG) (hco : Cond.code y yc yn (some yr) ∈ lwG) (hin : Cond.instanceMethod y ∈ lwG) (hse : Cond.selects y.cls y y ∈ lwG) (hd : y.cls ≠ "java/lang/invoke/MethodHandle" ∧ y.cls ≠ "java/lang/invoke/VarHandle" ∧ (parseMethodDescriptor y.desc).map (fun d => d.parameters.length) = some As.length) (hR : d + 1 ≤ R.frames ∧ 8 + (yn + 11) + 40 * d ≤ R.locals) (hf : a + 0 ≤ R.cells ∧ b + 0 ≤ R.slots) (hstk : stk = As.reverse ++ .ref (E.2.2.1 k) :: st) (hW8 : (st.map fun v => v.category).sum ≤ 8) (hdg : decode cc pc = .ok (.invokevirtual idx, 3)) (kk : ∀ (r : Int32) (u : Unit), post r u → VV X a b ws lv (pc + 3) (.int r :: st)) : VV X a b ws lv pc stk := by
  obtain ⟨p, l', e, R', s, m, args, below, meth, c, Q, A, nL, E'⟩ := X
  obtain ⟨hx, hb, hml, hown, hts, hK, hSF, hA, rfl, rfl, rfl, rfl⟩ := C
  intro H locs ls hP hD hS hl
  subst hstk
  have hG : GoodIn lwG (Cond.code y yc yn (some yr) :: lwG) := fun w h => by
    rcases List.mem_cons.mp h with h | h
    · subst h; exact ⟨hco, good_of_word (lwG_good hco)⟩
    · exact ⟨h, good_of_word (lwG_good h)⟩
  have hFc : ∀ q, va_A [] H.size q → A q := fun q h => by
    rcases h with ⟨k, e, h⟩ | h
    · simp at h
    · exact hA q (Nat.le_trans hS.1 h)
  have hSc : SF E' (va_A [] H.size) s H := (hSF.kept (fun a h1 h2 => hS.2.1 a h1 h2)).narrow hFc
  refine va_calli (va_runV (As := As) (rest := st) (Ts := lwG) (C := y.cls) ⟨hx, hb, hml, hown, hts⟩ (hM H.size) ⟨callB_of (ret := (some yr)) As.length hts hG rfl rfl rfl (hts _ hini) (hts _ hlk) hd hR, hts _ hin, hts _ hse⟩ ⟨mPre_blind, by rw [hcls]; obtain ⟨cell, g1, g2, g3, -⟩ := (hSF.1 k hk).1.kept hS.2.1; exact ⟨cell, g1, g2, g3⟩, fun U hU hW => ⟨rfl, by rw [hU], fun k q h => by simp at h, ⟨va_K.moved hW.alike hK, by rw [hU]; exact hSc.warm hW⟩, ⟨fun i j p q h => by simp at h, fun k q h => by simp at h⟩⟩⟩ rfl rfl (hl.1) rfl (lv_room hW8) hdg hf) hS (fun q _ h => hFc q h) hFc (fun r u t H1 locs ht hvm hw hB hz1 hk1 hS => ?_)
  have hP2 : va_P E'.1 vwCl ws H1 := hP.kept (fun k q hq => by
    have hlt := (hP k q hq).lt
    exact hk1 q.1 hlt (fun h => by
      rcases h with ⟨k, e, h⟩ | h
      · simp at h
      · omega))
  exact kk r u hw H1 locs ls hP2 hD hS hl
theorem kS_coder {l : Launch} {E : VE} (k : Nat) (hk : k < 16) : MI l yJ0_coder_7d493 cJ0_coder_7d493 1 .byte 0 0 0 E [.ref (E.2.2.1 k)] [] (fun (_ : Unit) => ([] : va_W)) (fun r _ => r = 0) := by
  refine MI.of (own := RJ0) (by decide) rfl (Nat.le_of_ble_eq_true rfl) ?_
  intro X C hini hret
  show VV X 0 0 [] [(0, .ref (E.2.2.1 k))] 0 []
  refine v_sCS C rfl dJ0_coder_7d493_0 ?_
  refine v_if_eq (tgt := 13) C dJ0_coder_7d493_3 (by decide) (fun hc => absurd hc (by decide)) (fun hc => ?_)
  refine v_aload_n C dJ0_coder_7d493_6 0 rfl ?_
  refine v_scoder C hk rfl dJ0_coder_7d493_7 ?_
  refine v_goto (tgt := 14) C dJ0_coder_7d493_10 (by decide) ?_
  exact hret _ _ _ _ 0 () dJ0_coder_7d493_14 rfl rfl (Nat.le_of_ble_eq_true rfl) (Nat.le_of_ble_eq_true rfl)
theorem kS_isLatin1 {l : Launch} {E : VE} (k : Nat) (hk : k < 16) : MI l yJ0_isLatin1_aae02 cJ0_isLatin1_aae02 1 .boolean 0 0 0 E [.ref (E.2.2.1 k)] [] (fun (_ : Unit) => ([] : va_W)) (fun r _ => r = 1) := by
  refine MI.of (own := RJ0) (by decide) rfl (Nat.le_of_ble_eq_true rfl) ?_
  intro X C hini hret
  show VV X 0 0 [] [(0, .ref (E.2.2.1 k))] 0 []
  refine v_sCS C rfl dJ0_isLatin1_aae02_0 ?_
  refine v_if_eq (tgt := 17) C dJ0_isLatin1_aae02_3 (by decide) (fun hc => absurd hc (by decide)) (fun hc => ?_)
  refine v_aload_n C dJ0_isLatin1_aae02_6 0 rfl ?_
  refine v_scoder C hk rfl dJ0_isLatin1_aae02_7 ?_
  refine v_if_ne (tgt := 17) C dJ0_isLatin1_aae02_10 (by decide) (fun hc => absurd rfl hc) (fun hc => ?_)
  refine v_iconst (v := 1) C dJ0_isLatin1_aae02_13 (by decide) ?_
  refine v_goto (tgt := 18) C dJ0_isLatin1_aae02_14 (by decide) ?_
  exact hret _ _ _ _ 1 () dJ0_isLatin1_aae02_18 rfl rfl (Nat.le_of_ble_eq_true rfl) (Nat.le_of_ble_eq_true rfl)
theorem kS_length {l : Launch} {E : VE} (k : Nat) (hk : k < 16) : MI l yJ0_length_8abf5 cJ0_length_8abf5 1 .int 1 0 0 E [.ref (E.2.2.1 k)] [] (fun (_ : Unit) => ([] : va_W)) (fun r _ => r = Int32.ofNat (s_len.getD k 0)) := by
  refine MI.of (own := RJ0) (by decide) rfl (Nat.le_of_ble_eq_true rfl) ?_
  intro X C hini hret
  show VV X 0 0 [] [(0, .ref (E.2.2.1 k))] 0 []
  refine v_aload_n C dJ0_length_8abf5_0 0 rfl ?_
  refine v_svalue C hk rfl dJ0_length_8abf5_1 ?_
  refine v_stlen C hk dJ0_length_8abf5_4 ?_
  refine v_aload_n C dJ0_length_8abf5_5 0 rfl ?_
  refine v_callTi (st := [.int (Int32.ofNat (s_len.getD k 0))]) C k hk (kS_coder k hk) rfl mM_J0_335 mI_J0 mC_J0_coder_7d493 mN_J0_coder_7d493 mS_J0_coder_7d493 hd_J0_coder_7d493 ⟨Nat.le_of_ble_eq_true rfl, Nat.le_of_ble_eq_true rfl⟩ ⟨Nat.le_of_ble_eq_true rfl, Nat.le_of_ble_eq_true rfl⟩ rfl (Nat.le_of_ble_eq_true rfl) dJ0_length_8abf5_6 (fun r u hw => ?_)
  subst hw
  refine v_ishr C dJ0_length_8abf5_9 ?_
  exact hret _ _ _ _ _ () dJ0_length_8abf5_10 rfl (by
    have h : ∀ k, k < 16 → Int32.ofNat (s_len.getD k 0) >>> ((0 : Int32) &&& 31) = Int32.ofNat (s_len.getD k 0) := by decide +kernel
    exact h k hk) (Nat.le_of_ble_eq_true rfl) (Nat.le_of_ble_eq_true rfl)
theorem kS_check3 {l : Launch} {E : VE} (i n : Int32) (v : Value) (hv : v = .null ∨ ∃ t : Nat, v = .ref t) (h1 : ¬ i < 0) (h2 : i < n) : MI l yJ3_checkIndex_8e157 cJ3_checkIndex_8e157 3 .int 0 0 0 E [.int i, .int n, v] [] (fun (_ : Unit) => ([] : va_W)) (fun _ _ => True) := by
  have hc1 : v.category = 1 := by rcases hv with rfl | ⟨t, rfl⟩ <;> rfl
  refine MI.of (own := RJ3) (by decide) rfl (by rcases hv with rfl | ⟨t, rfl⟩ <;> exact Nat.le_of_ble_eq_true rfl) ?_
  intro X C hini hret
  have e : lv_args 0 [.int i, .int n, v] = [(0, .int i), (1, .int n), (2, v)] := by rcases hv with rfl | ⟨t, rfl⟩ <;> rfl
  rw [e]
  refine v_iload_n C dJ3_checkIndex_8e157_0 0 rfl ?_
  refine v_if_lt (tgt := 9) C dJ3_checkIndex_8e157_1 (by decide) (fun hc => absurd hc h1) (fun hc => ?_)
  refine v_iload_n C dJ3_checkIndex_8e157_4 0 rfl ?_
  refine v_iload_n C dJ3_checkIndex_8e157_5 1 rfl ?_
  refine v_icmp_lt (tgt := 16) C dJ3_checkIndex_8e157_6 (by decide) (fun hc => ?_) (fun hc => absurd h2 hc)
  refine v_iload_n C dJ3_checkIndex_8e157_16 0 rfl ?_
  exact hret _ _ _ _ i () dJ3_checkIndex_8e157_17 rfl trivial (Nat.le_of_ble_eq_true rfl) (Nat.le_of_ble_eq_true rfl)
theorem kS_check2 {l : Launch} {E : VE} (i n : Int32) (h1 : ¬ i < 0) (h2 : i < n) : MV l yJ0_checkIndex_df160 cJ0_checkIndex_df160 2 1 0 0 E [.int i, .int n] [] (fun (_ : Unit) => ([] : va_W)) (fun _ => True) := by
  refine MV.of (own := RJ0) (by decide) rfl (Nat.le_of_ble_eq_true rfl) ?_
  intro X C hini hret
  show VV X 0 0 [] [(0, .int i), (1, .int n)] 0 []
  refine v_iload_n C dJ0_checkIndex_df160_0 0 rfl ?_
  refine v_iload_n C dJ0_checkIndex_df160_1 1 rfl ?_
  refine v_sform C rfl dJ0_checkIndex_df160_2 (fun v hv => ?_)
  refine v_callSPi (st := []) C (kS_check3 i n v hv h1 h2) mM_J0_1059 mI_J3 mC_J3_checkIndex_8e157 mT_J3_checkIndex_8e157 hd_J3_checkIndex_8e157 ⟨Nat.le_of_ble_eq_true rfl, Nat.le_of_ble_eq_true rfl⟩ ⟨Nat.le_of_ble_eq_true rfl, Nat.le_of_ble_eq_true rfl⟩ rfl (Nat.le_of_ble_eq_true rfl) dJ0_checkIndex_df160_5 (fun r u _ => ?_)
  refine v_pop C dJ0_checkIndex_df160_8 rfl ?_
  exact hret _ _ _ _ () dJ0_checkIndex_df160_9 trivial (Nat.le_of_ble_eq_true rfl) (Nat.le_of_ble_eq_true rfl)
theorem s_ix {k : Nat} (hk : k < 16) {i : Int32} (hi : vp_in i (s_len.getD k 0)) : ¬ i < 0 ∧ i < Int32.ofNat (s_len.getD k 0) ∧ i.toNatClampNeg < s_len.getD k 0 := by
  have hb : s_len.getD k 0 < 7 := by
    have h : ∀ k, k < 16 → s_len.getD k 0 < 7 := by decide +kernel
    exact h k hk
  have h1 : ¬ i < 0 := fun h => hi (Or.inl h)
  have h2 : i.toNatClampNeg < s_len.getD k 0 := Nat.not_le.mp fun h => hi (Or.inr h)
  refine ⟨h1, ?_, h2⟩
  rw [Int32.lt_iff_toInt_lt] at h1 ⊢
  have e1 : (Int32.ofNat (s_len.getD k 0)).toInt = s_len.getD k 0 := Int32.toInt_ofNat_of_lt (by omega)
  rw [e1]
  have e2 : i.toNatClampNeg = i.toInt.toNat := rfl
  simp only [show (0 : Int32).toInt = 0 from rfl] at h1
  omega
theorem s_chr {k : Nat} (hk : k < 16) {j : Nat} (hj : j < s_len.getD k 0) : (((s_byt.getD k []).getD j 0 &&& 255).toUInt32 % 65536).toInt32 = (s_byt.getD k []).getD j 0 ∧ narrow .char (.int ((s_byt.getD k []).getD j 0)) = .int ((s_byt.getD k []).getD j 0) := by
  have h : ∀ k, k < 16 → ∀ j, j < s_len.getD k 0 → (((s_byt.getD k []).getD j 0 &&& 255).toUInt32 % 65536).toInt32 = (s_byt.getD k []).getD j 0 ∧ narrow .char (.int ((s_byt.getD k []).getD j 0)) = .int ((s_byt.getD k []).getD j 0) := by decide +kernel
  exact h k hk j hj
theorem kS_latin {l : Launch} {E : VE} (k : Nat) (hk : k < 16) (i : Int32) (hi : vp_in i (s_len.getD k 0)) : MI l yJ1_charAt_3b067 cJ1_charAt_3b067 2 .char 2 0 0 E [.ref (E.2.2.2 k), .int i] [] (fun (_ : Unit) => ([] : va_W)) (fun r _ => r = (s_byt.getD k []).getD i.toNatClampNeg 0) := by
  obtain ⟨h1, h2, h3⟩ := s_ix hk hi
  refine MI.of (own := RJ1) (by decide) rfl (Nat.le_of_ble_eq_true rfl) ?_
  intro X C hini hret
  show VV X 0 0 [] [(0, .ref (E.2.2.2 k)), (1, .int i)] 0 []
  refine v_iload_n C dJ1_charAt_3b067_0 1 rfl ?_
  refine v_aload_n C dJ1_charAt_3b067_1 0 rfl ?_
  refine v_stlen C hk dJ1_charAt_3b067_2 ?_
  refine v_callSPv (st := []) C (kS_check2 i _ h1 h2) mM_J1_9 mI_J0 mC_J0_checkIndex_df160 mT_J0_checkIndex_df160 hd_J0_checkIndex_df160 ⟨Nat.le_of_ble_eq_true rfl, Nat.le_of_ble_eq_true rfl⟩ ⟨Nat.le_of_ble_eq_true rfl, Nat.le_of_ble_eq_true rfl⟩ rfl (Nat.le_of_ble_eq_true rfl) dJ1_charAt_3b067_3 (fun u _ => ?_)
  refine v_aload_n C dJ1_charAt_3b067_6 0 rfl ?_
  refine v_iload_n C dJ1_charAt_3b067_7 1 rfl ?_
  refine v_stb C hk hi dJ1_charAt_3b067_8 ?_
  refine v_sipush (v := 255) C dJ1_charAt_3b067_9 (by decide) ?_
  refine v_iand C dJ1_charAt_3b067_12 ?_
  refine v_i2c C dJ1_charAt_3b067_13 ?_
  rw [(s_chr hk h3).1]
  exact hret _ _ _ _ _ () dJ1_charAt_3b067_14 (s_chr hk h3).2 rfl (Nat.le_of_ble_eq_true rfl) (Nat.le_of_ble_eq_true rfl)
theorem kS_charAt {l : Launch} {E : VE} (k : Nat) (hk : k < 16) (i : Int32) (hi : vp_in i (s_len.getD k 0)) : MI l yJ0_charAt_5068e cJ0_charAt_5068e 2 .char 3 0 0 E [.ref (E.2.2.1 k), .int i] [] (fun (_ : Unit) => ([] : va_W)) (fun r _ => r = (s_byt.getD k []).getD i.toNatClampNeg 0) := by
  obtain ⟨h1, h2, h3⟩ := s_ix hk hi
  refine MI.of (own := RJ0) (by decide) rfl (Nat.le_of_ble_eq_true rfl) ?_
  intro X C hini hret
  show VV X 0 0 [] [(0, .ref (E.2.2.1 k)), (1, .int i)] 0 []
  refine v_aload_n C dJ0_charAt_5068e_0 0 rfl ?_
  refine v_callTi (st := []) C k hk (kS_isLatin1 k hk) rfl mM_J0_492 mI_J0 mC_J0_isLatin1_aae02 mN_J0_isLatin1_aae02 mS_J0_isLatin1_aae02 hd_J0_isLatin1_aae02 ⟨Nat.le_of_ble_eq_true rfl, Nat.le_of_ble_eq_true rfl⟩ ⟨Nat.le_of_ble_eq_true rfl, Nat.le_of_ble_eq_true rfl⟩ rfl (Nat.le_of_ble_eq_true rfl) dJ0_charAt_5068e_1 (fun r u hw => ?_)
  subst hw
  refine v_if_eq (tgt := 16) C dJ0_charAt_5068e_4 (by decide) (fun hc => absurd hc (by decide)) (fun hc => ?_)
  refine v_aload_n C dJ0_charAt_5068e_7 0 rfl ?_
  refine v_svalue C hk rfl dJ0_charAt_5068e_8 ?_
  refine v_iload_n C dJ0_charAt_5068e_11 1 rfl ?_
  refine v_callSPi (st := []) C (kS_latin k hk i hi) mM_J0_495 mI_J1 mC_J1_charAt_3b067 mT_J1_charAt_3b067 hd_J1_charAt_3b067 ⟨Nat.le_of_ble_eq_true rfl, Nat.le_of_ble_eq_true rfl⟩ ⟨Nat.le_of_ble_eq_true rfl, Nat.le_of_ble_eq_true rfl⟩ rfl (Nat.le_of_ble_eq_true rfl) dJ0_charAt_5068e_12 (fun r u hw => ?_)
  subst hw
  exact hret _ _ _ _ _ () dJ0_charAt_5068e_15 (s_chr hk h3).2 rfl (Nat.le_of_ble_eq_true rfl) (Nat.le_of_ble_eq_true rfl)
theorem v_slen {X : VX} {cc : ByteArray} {n : Nat} {own : String} {R : Room} {E : VE} {l : Launch} (C : VC X cc n own R E l) {a b : Nat} {ws : va_W} {lv : List (Nat × Value)} {pc : Nat} {st : List Value} (k : Nat) (hk : k < 16) {idx : Nat} (hlk : Cond.methodLink own idx yJ0_length_8abf5 ∈ lwG) (hR : 1 + 1 ≤ R.frames ∧ 8 + (1 + 11) + 40 * 1 ≤ R.locals) (hf : a + 0 ≤ R.cells ∧ b + 0 ≤ R.slots) (hW8 : (st.map fun v => v.category).sum ≤ 8) (hdg : decode cc pc = .ok (.invokevirtual idx, 3)) (kk : VV X a b ws lv (pc + 3) (.int (Int32.ofNat (s_len.getD k 0)) :: st)) : VV X a b ws lv pc (.ref (E.2.2.1 k) :: st) :=
  v_callTi C k hk (kS_length k hk) rfl hlk mI_J0 mC_J0_length_8abf5 mN_J0_length_8abf5 mS_J0_length_8abf5 hd_J0_length_8abf5 hR hf rfl hW8 hdg (fun r u hw => by subst hw; exact kk)
theorem v_schar {X : VX} {cc : ByteArray} {n : Nat} {own : String} {R : Room} {E : VE} {l : Launch} (C : VC X cc n own R E l) {a b : Nat} {ws : va_W} {lv : List (Nat × Value)} {pc : Nat} {st : List Value} (k : Nat) (hk : k < 16) {i : Int32} {idx : Nat} (hlk : Cond.methodLink own idx yJ0_charAt_5068e ∈ lwG) (hi : vp_in i (s_len.getD k 0)) (hR : 3 + 1 ≤ R.frames ∧ 8 + (2 + 11) + 40 * 3 ≤ R.locals) (hf : a + 0 ≤ R.cells ∧ b + 0 ≤ R.slots) (hW8 : (st.map fun v => v.category).sum ≤ 8) (hdg : decode cc pc = .ok (.invokevirtual idx, 3)) (kk : VV X a b ws lv (pc + 3) (.int ((s_byt.getD k []).getD i.toNatClampNeg 0) :: st)) : VV X a b ws lv pc (.int i :: .ref (E.2.2.1 k) :: st) :=
  v_callTi C k hk (kS_charAt k hk i hi) rfl hlk mI_J0 mC_J0_charAt_5068e mN_J0_charAt_5068e mS_J0_charAt_5068e hd_J0_charAt_5068e hR hf rfl hW8 hdg (fun r u hw => by subst hw; exact kk)
