theorem dX9_advance_176 : decode cX9_advance 176 = .ok (.aload_n 0, 1) := by decide +kernel
theorem dX9_advance_177 : decode cX9_advance 177 = .ok (.getfield 29, 3) := by decide +kernel
theorem dX9_advance_180 : decode cX9_advance 180 = .ok (.baload, 1) := by decide +kernel
theorem dX9_advance_181 : decode cX9_advance 181 = .ok (.iadd, 1) := by decide +kernel
theorem dX9_advance_182 : decode cX9_advance 182 = .ok (.bipush 48, 2) := by decide +kernel
theorem dX9_advance_184 : decode cX9_advance 184 = .ok (.isub, 1) := by decide +kernel
theorem dX9_advance_185 : decode cX9_advance 185 = .ok (.invokestatic 44, 3) := by decide +kernel
theorem dX9_advance_188 : decode cX9_advance 188 = .ok (.putfield 41, 3) := by decide +kernel
theorem dX9_advance_191 : decode cX9_advance 191 = .ok (.aload_n 0, 1) := by decide +kernel
theorem dX9_advance_192 : decode cX9_advance 192 = .ok (.dup, 1) := by decide +kernel
theorem dX9_advance_193 : decode cX9_advance 193 = .ok (.getfield 29, 3) := by decide +kernel
theorem dX9_advance_196 : decode cX9_advance 196 = .ok (.iconst 1, 1) := by decide +kernel
theorem dX9_advance_197 : decode cX9_advance 197 = .ok (.iadd, 1) := by decide +kernel
theorem dX9_advance_198 : decode cX9_advance 198 = .ok (.putfield 29, 3) := by decide +kernel
theorem dX9_advance_201 : decode cX9_advance 201 = .ok (.goto (-78), 3) := by decide +kernel
theorem dX9_advance_204 : decode cX9_advance 204 = .ok (.return_, 1) := by decide +kernel
theorem dX9_blame_0 : decode cX9_blame 0 = .ok (.aload_n 0, 1) := by decide +kernel
theorem dX9_blame_1 : decode cX9_blame 1 = .ok (.getfield 26, 3) := by decide +kernel
theorem dX9_blame_4 : decode cX9_blame 4 = .ok (.ifCond .ne 16, 3) := by decide +kernel
theorem dX9_blame_7 : decode cX9_blame 7 = .ok (.aload_n 0, 1) := by decide +kernel
theorem dX9_blame_8 : decode cX9_blame 8 = .ok (.iload_n 1, 1) := by decide +kernel
theorem dX9_blame_9 : decode cX9_blame 9 = .ok (.putfield 26, 3) := by decide +kernel
theorem dX9_blame_12 : decode cX9_blame 12 = .ok (.aload_n 0, 1) := by decide +kernel
theorem dX9_blame_13 : decode cX9_blame 13 = .ok (.aload_n 0, 1) := by decide +kernel
theorem dX9_blame_14 : decode cX9_blame 14 = .ok (.getfield 38, 3) := by decide +kernel
theorem dX9_blame_17 : decode cX9_blame 17 = .ok (.putfield 15, 3) := by decide +kernel
theorem dX9_blame_20 : decode cX9_blame 20 = .ok (.return_, 1) := by decide +kernel
theorem dX9_isSign_0 : decode cX9_isSign 0 = .ok (.aload_n 0, 1) := by decide +kernel
theorem dX9_isSign_1 : decode cX9_isSign 1 = .ok (.getfield 35, 3) := by decide +kernel
theorem dX9_isSign_4 : decode cX9_isSign 4 = .ok (.iconst 3, 1) := by decide +kernel
theorem dX9_isSign_5 : decode cX9_isSign 5 = .ok (.if_icmp .ne 31, 3) := by decide +kernel
theorem dX9_isSign_8 : decode cX9_isSign 8 = .ok (.aload_n 0, 1) := by decide +kernel
theorem dX9_isSign_9 : decode cX9_isSign 9 = .ok (.getfield 38, 3) := by decide +kernel
theorem dX9_isSign_12 : decode cX9_isSign 12 = .ok (.aload_n 0, 1) := by decide +kernel
theorem dX9_isSign_13 : decode cX9_isSign 13 = .ok (.getfield 19, 3) := by decide +kernel
theorem dX9_isSign_16 : decode cX9_isSign 16 = .ok (.if_icmp .ge 20, 3) := by decide +kernel
theorem dX9_isSign_19 : decode cX9_isSign 19 = .ok (.aload_n 0, 1) := by decide +kernel
theorem dX9_isSign_20 : decode cX9_isSign 20 = .ok (.getfield 11, 3) := by decide +kernel
theorem dX9_isSign_23 : decode cX9_isSign 23 = .ok (.aload_n 0, 1) := by decide +kernel
theorem dX9_isSign_24 : decode cX9_isSign 24 = .ok (.getfield 38, 3) := by decide +kernel
theorem dX9_isSign_27 : decode cX9_isSign 27 = .ok (.baload, 1) := by decide +kernel
theorem dX9_isSign_28 : decode cX9_isSign 28 = .ok (.iload_n 1, 1) := by decide +kernel
theorem dX9_isSign_29 : decode cX9_isSign 29 = .ok (.if_icmp .ne 7, 3) := by decide +kernel
theorem dX9_isSign_32 : decode cX9_isSign 32 = .ok (.iconst 1, 1) := by decide +kernel
theorem dX9_isSign_33 : decode cX9_isSign 33 = .ok (.goto 4, 3) := by decide +kernel
theorem dX9_isSign_36 : decode cX9_isSign 36 = .ok (.iconst 0, 1) := by decide +kernel
theorem dX9_isSign_37 : decode cX9_isSign 37 = .ok (.ireturn, 1) := by decide +kernel
theorem dX9_isWordOf_0 : decode cX9_isWordOf 0 = .ok (.aload_n 0, 1) := by decide +kernel
theorem dX9_isWordOf_1 : decode cX9_isWordOf 1 = .ok (.getfield 35, 3) := by decide +kernel
theorem dX9_isWordOf_4 : decode cX9_isWordOf 4 = .ok (.iconst 1, 1) := by decide +kernel
theorem dX9_isWordOf_5 : decode cX9_isWordOf 5 = .ok (.if_icmp .ne 20, 3) := by decide +kernel
theorem dX9_isWordOf_8 : decode cX9_isWordOf 8 = .ok (.aload_n 0, 1) := by decide +kernel
theorem dX9_isWordOf_9 : decode cX9_isWordOf 9 = .ok (.getfield 29, 3) := by decide +kernel
theorem dX9_isWordOf_12 : decode cX9_isWordOf 12 = .ok (.aload_n 0, 1) := by decide +kernel
theorem dX9_isWordOf_13 : decode cX9_isWordOf 13 = .ok (.getfield 38, 3) := by decide +kernel
theorem dX9_isWordOf_16 : decode cX9_isWordOf 16 = .ok (.isub, 1) := by decide +kernel
theorem dX9_isWordOf_17 : decode cX9_isWordOf 17 = .ok (.iload_n 1, 1) := by decide +kernel
theorem dX9_isWordOf_18 : decode cX9_isWordOf 18 = .ok (.if_icmp .gt 7, 3) := by decide +kernel
theorem dX9_isWordOf_21 : decode cX9_isWordOf 21 = .ok (.iconst 1, 1) := by decide +kernel
theorem dX9_isWordOf_22 : decode cX9_isWordOf 22 = .ok (.goto 4, 3) := by decide +kernel
theorem dX9_isWordOf_25 : decode cX9_isWordOf 25 = .ok (.iconst 0, 1) := by decide +kernel
theorem dX9_isWordOf_26 : decode cX9_isWordOf 26 = .ok (.ireturn, 1) := by decide +kernel
theorem dX9_isWord_0 : decode cX9_isWord 0 = .ok (.aload_n 0, 1) := by decide +kernel
theorem dX9_isWord_1 : decode cX9_isWord 1 = .ok (.getfield 35, 3) := by decide +kernel
theorem dX9_isWord_4 : decode cX9_isWord 4 = .ok (.iconst 1, 1) := by decide +kernel
theorem dX9_isWord_5 : decode cX9_isWord 5 = .ok (.if_icmp .ne 19, 3) := by decide +kernel
theorem dX9_isWord_8 : decode cX9_isWord 8 = .ok (.aload_n 0, 1) := by decide +kernel
theorem dX9_isWord_9 : decode cX9_isWord 9 = .ok (.getfield 29, 3) := by decide +kernel
theorem dX9_isWord_12 : decode cX9_isWord 12 = .ok (.aload_n 0, 1) := by decide +kernel
theorem dX9_isWord_13 : decode cX9_isWord 13 = .ok (.getfield 38, 3) := by decide +kernel
theorem dX9_isWord_16 : decode cX9_isWord 16 = .ok (.isub, 1) := by decide +kernel
theorem dX9_isWord_17 : decode cX9_isWord 17 = .ok (.aload_n 1, 1) := by decide +kernel
theorem dX9_isWord_18 : decode cX9_isWord 18 = .ok (.invokevirtual 50, 3) := by decide +kernel
theorem dX9_isWord_21 : decode cX9_isWord 21 = .ok (.if_icmp .eq 5, 3) := by decide +kernel
theorem dX9_isWord_24 : decode cX9_isWord 24 = .ok (.iconst 0, 1) := by decide +kernel
theorem dX9_isWord_25 : decode cX9_isWord 25 = .ok (.ireturn, 1) := by decide +kernel
theorem dX9_isWord_26 : decode cX9_isWord 26 = .ok (.aload_n 0, 1) := by decide +kernel
theorem dX9_isWord_27 : decode cX9_isWord 27 = .ok (.getfield 38, 3) := by decide +kernel
theorem dX9_isWord_30 : decode cX9_isWord 30 = .ok (.istore_n 2, 1) := by decide +kernel
theorem dX9_isWord_31 : decode cX9_isWord 31 = .ok (.iload_n 2, 1) := by decide +kernel
theorem dX9_isWord_32 : decode cX9_isWord 32 = .ok (.aload_n 0, 1) := by decide +kernel
theorem dX9_isWord_33 : decode cX9_isWord 33 = .ok (.getfield 29, 3) := by decide +kernel
theorem dX9_isWord_36 : decode cX9_isWord 36 = .ok (.if_icmp .ge 30, 3) := by decide +kernel
theorem dX9_isWord_39 : decode cX9_isWord 39 = .ok (.aload_n 0, 1) := by decide +kernel
theorem dX9_isWord_40 : decode cX9_isWord 40 = .ok (.getfield 11, 3) := by decide +kernel
theorem dX9_isWord_43 : decode cX9_isWord 43 = .ok (.iload_n 2, 1) := by decide +kernel
theorem dX9_isWord_44 : decode cX9_isWord 44 = .ok (.baload, 1) := by decide +kernel
theorem dX9_isWord_45 : decode cX9_isWord 45 = .ok (.aload_n 1, 1) := by decide +kernel
theorem dX9_isWord_46 : decode cX9_isWord 46 = .ok (.iload_n 2, 1) := by decide +kernel
theorem dX9_isWord_47 : decode cX9_isWord 47 = .ok (.aload_n 0, 1) := by decide +kernel
theorem dX9_isWord_48 : decode cX9_isWord 48 = .ok (.getfield 38, 3) := by decide +kernel
theorem dX9_isWord_51 : decode cX9_isWord 51 = .ok (.isub, 1) := by decide +kernel
theorem dX9_isWord_52 : decode cX9_isWord 52 = .ok (.invokevirtual 56, 3) := by decide +kernel
theorem dX9_isWord_55 : decode cX9_isWord 55 = .ok (.if_icmp .eq 5, 3) := by decide +kernel
theorem dX9_isWord_58 : decode cX9_isWord 58 = .ok (.iconst 0, 1) := by decide +kernel
theorem dX9_isWord_59 : decode cX9_isWord 59 = .ok (.ireturn, 1) := by decide +kernel
theorem dX9_isWord_60 : decode cX9_isWord 60 = .ok (.iinc 2 1, 3) := by decide +kernel
theorem dX9_isWord_63 : decode cX9_isWord 63 = .ok (.goto (-32), 3) := by decide +kernel
theorem dX9_isWord_66 : decode cX9_isWord 66 = .ok (.iconst 1, 1) := by decide +kernel
theorem dX9_isWord_67 : decode cX9_isWord 67 = .ok (.ireturn, 1) := by decide +kernel
theorem dX9_takeSign_0 : decode cX9_takeSign 0 = .ok (.aload_n 0, 1) := by decide +kernel
theorem dX9_takeSign_1 : decode cX9_takeSign 1 = .ok (.iload_n 1, 1) := by decide +kernel
theorem dX9_takeSign_2 : decode cX9_takeSign 2 = .ok (.invokevirtual 60, 3) := by decide +kernel
theorem dX9_takeSign_5 : decode cX9_takeSign 5 = .ok (.ifCond .eq 10, 3) := by decide +kernel
theorem dX9_takeSign_8 : decode cX9_takeSign 8 = .ok (.aload_n 0, 1) := by decide +kernel
theorem dX9_takeSign_9 : decode cX9_takeSign 9 = .ok (.invokevirtual 32, 3) := by decide +kernel
theorem dX9_takeSign_12 : decode cX9_takeSign 12 = .ok (.goto 8, 3) := by decide +kernel
theorem dX9_takeSign_15 : decode cX9_takeSign 15 = .ok (.aload_n 0, 1) := by decide +kernel
theorem dX9_takeSign_16 : decode cX9_takeSign 16 = .ok (.iconst 1, 1) := by decide +kernel
theorem dX9_takeSign_17 : decode cX9_takeSign 17 = .ok (.invokevirtual 64, 3) := by decide +kernel
theorem dX9_takeSign_20 : decode cX9_takeSign 20 = .ok (.return_, 1) := by decide +kernel
theorem dX9_takeWord_0 : decode cX9_takeWord 0 = .ok (.aload_n 0, 1) := by decide +kernel
theorem dX9_takeWord_1 : decode cX9_takeWord 1 = .ok (.aload_n 1, 1) := by decide +kernel
theorem dX9_takeWord_2 : decode cX9_takeWord 2 = .ok (.invokevirtual 68, 3) := by decide +kernel
theorem dX9_takeWord_5 : decode cX9_takeWord 5 = .ok (.ifCond .eq 10, 3) := by decide +kernel
theorem dX9_takeWord_8 : decode cX9_takeWord 8 = .ok (.aload_n 0, 1) := by decide +kernel
theorem dX9_takeWord_9 : decode cX9_takeWord 9 = .ok (.invokevirtual 32, 3) := by decide +kernel
theorem dX9_takeWord_12 : decode cX9_takeWord 12 = .ok (.goto 8, 3) := by decide +kernel
theorem dX9_takeWord_15 : decode cX9_takeWord 15 = .ok (.aload_n 0, 1) := by decide +kernel
theorem dX9_takeWord_16 : decode cX9_takeWord 16 = .ok (.iconst 1, 1) := by decide +kernel
theorem dX9_takeWord_17 : decode cX9_takeWord 17 = .ok (.invokevirtual 64, 3) := by decide +kernel
theorem dX9_takeWord_20 : decode cX9_takeWord 20 = .ok (.return_, 1) := by decide +kernel
theorem dX9_takeNumber_0 : decode cX9_takeNumber 0 = .ok (.aload_n 0, 1) := by decide +kernel
theorem dX9_takeNumber_1 : decode cX9_takeNumber 1 = .ok (.getfield 35, 3) := by decide +kernel
theorem dX9_takeNumber_4 : decode cX9_takeNumber 4 = .ok (.iconst 2, 1) := by decide +kernel
theorem dX9_takeNumber_5 : decode cX9_takeNumber 5 = .ok (.if_icmp .eq 10, 3) := by decide +kernel
theorem dX9_takeNumber_8 : decode cX9_takeNumber 8 = .ok (.aload_n 0, 1) := by decide +kernel
theorem dX9_takeNumber_9 : decode cX9_takeNumber 9 = .ok (.iconst 1, 1) := by decide +kernel
theorem dX9_takeNumber_10 : decode cX9_takeNumber 10 = .ok (.invokevirtual 64, 3) := by decide +kernel
theorem dX9_takeNumber_13 : decode cX9_takeNumber 13 = .ok (.iconst 0, 1) := by decide +kernel
theorem dX9_takeNumber_14 : decode cX9_takeNumber 14 = .ok (.ireturn, 1) := by decide +kernel
theorem dX9_takeNumber_15 : decode cX9_takeNumber 15 = .ok (.aload_n 0, 1) := by decide +kernel
theorem dX9_takeNumber_16 : decode cX9_takeNumber 16 = .ok (.getfield 41, 3) := by decide +kernel
theorem dX9_takeNumber_19 : decode cX9_takeNumber 19 = .ok (.iload_n 1, 1) := by decide +kernel
theorem dX9_takeNumber_20 : decode cX9_takeNumber 20 = .ok (.if_icmp .le 10, 3) := by decide +kernel
theorem dX9_takeNumber_23 : decode cX9_takeNumber 23 = .ok (.aload_n 0, 1) := by decide +kernel
theorem dX9_takeNumber_24 : decode cX9_takeNumber 24 = .ok (.iconst 2, 1) := by decide +kernel
theorem dX9_takeNumber_25 : decode cX9_takeNumber 25 = .ok (.invokevirtual 64, 3) := by decide +kernel
theorem dX9_takeNumber_28 : decode cX9_takeNumber 28 = .ok (.iconst 0, 1) := by decide +kernel
theorem dX9_takeNumber_29 : decode cX9_takeNumber 29 = .ok (.ireturn, 1) := by decide +kernel
theorem dX9_takeNumber_30 : decode cX9_takeNumber 30 = .ok (.aload_n 0, 1) := by decide +kernel
theorem dX9_takeNumber_31 : decode cX9_takeNumber 31 = .ok (.getfield 41, 3) := by decide +kernel
theorem dX9_takeNumber_34 : decode cX9_takeNumber 34 = .ok (.istore_n 2, 1) := by decide +kernel
theorem dX9_takeNumber_35 : decode cX9_takeNumber 35 = .ok (.aload_n 0, 1) := by decide +kernel
theorem dX9_takeNumber_36 : decode cX9_takeNumber 36 = .ok (.invokevirtual 32, 3) := by decide +kernel
theorem dX9_takeNumber_39 : decode cX9_takeNumber 39 = .ok (.iload_n 2, 1) := by decide +kernel
theorem dX9_takeNumber_40 : decode cX9_takeNumber 40 = .ok (.ireturn, 1) := by decide +kernel
theorem dX10_isUnder_0 : decode cX10_isUnder 0 = .ok (.iload_n 1, 1) := by decide +kernel
theorem dX10_isUnder_1 : decode cX10_isUnder 1 = .ok (.istore_n 3, 1) := by decide +kernel
theorem dX10_isUnder_2 : decode cX10_isUnder 2 = .ok (.iconst 0, 1) := by decide +kernel
theorem dX10_isUnder_3 : decode cX10_isUnder 3 = .ok (.istore 4, 2) := by decide +kernel
theorem dX10_isUnder_5 : decode cX10_isUnder 5 = .ok (.iload 4, 2) := by decide +kernel
theorem dX10_isUnder_7 : decode cX10_isUnder 7 = .ok (.bipush 40, 2) := by decide +kernel
theorem dX10_isUnder_9 : decode cX10_isUnder 9 = .ok (.if_icmp .gt 33, 3) := by decide +kernel
theorem dX10_isUnder_12 : decode cX10_isUnder 12 = .ok (.iload_n 3, 1) := by decide +kernel
theorem dX10_isUnder_13 : decode cX10_isUnder 13 = .ok (.ifCond .lt 29, 3) := by decide +kernel
theorem dX10_isUnder_16 : decode cX10_isUnder 16 = .ok (.iload_n 3, 1) := by decide +kernel
theorem dX10_isUnder_17 : decode cX10_isUnder 17 = .ok (.bipush 40, 2) := by decide +kernel
theorem dX10_isUnder_19 : decode cX10_isUnder 19 = .ok (.if_icmp .ge 23, 3) := by decide +kernel
theorem dX10_isUnder_22 : decode cX10_isUnder 22 = .ok (.iload_n 3, 1) := by decide +kernel
theorem dX10_isUnder_23 : decode cX10_isUnder 23 = .ok (.iload_n 2, 1) := by decide +kernel
theorem dX10_isUnder_24 : decode cX10_isUnder 24 = .ok (.if_icmp .ne 5, 3) := by decide +kernel
theorem dX10_isUnder_27 : decode cX10_isUnder 27 = .ok (.iconst 1, 1) := by decide +kernel
theorem dX10_isUnder_28 : decode cX10_isUnder 28 = .ok (.ireturn, 1) := by decide +kernel
theorem dX10_isUnder_29 : decode cX10_isUnder 29 = .ok (.aload_n 0, 1) := by decide +kernel
theorem dX10_isUnder_30 : decode cX10_isUnder 30 = .ok (.getfield 9, 3) := by decide +kernel
theorem dX10_isUnder_33 : decode cX10_isUnder 33 = .ok (.iload_n 3, 1) := by decide +kernel
theorem dX10_isUnder_34 : decode cX10_isUnder 34 = .ok (.iaload, 1) := by decide +kernel
theorem dX10_isUnder_35 : decode cX10_isUnder 35 = .ok (.istore_n 3, 1) := by decide +kernel
theorem dX10_isUnder_36 : decode cX10_isUnder 36 = .ok (.iinc 4 1, 3) := by decide +kernel
theorem dX10_isUnder_39 : decode cX10_isUnder 39 = .ok (.goto (-34), 3) := by decide +kernel
theorem dX10_isUnder_42 : decode cX10_isUnder 42 = .ok (.iconst 0, 1) := by decide +kernel
theorem dX10_isUnder_43 : decode cX10_isUnder 43 = .ok (.ireturn, 1) := by decide +kernel
theorem dX10_liesWithin_0 : decode cX10_liesWithin 0 = .ok (.aload_n 1, 1) := by decide +kernel
theorem dX10_liesWithin_1 : decode cX10_liesWithin 1 = .ok (.aload_n 0, 1) := by decide +kernel
theorem dX10_liesWithin_2 : decode cX10_liesWithin 2 = .ok (.getfield 9, 3) := by decide +kernel
theorem dX10_liesWithin_5 : decode cX10_liesWithin 5 = .ok (.iload 4, 2) := by decide +kernel
theorem dX10_liesWithin_7 : decode cX10_liesWithin 7 = .ok (.invokevirtual 48, 3) := by decide +kernel
theorem dX10_liesWithin_10 : decode cX10_liesWithin 10 = .ok (.aload_n 0, 1) := by decide +kernel
theorem dX10_liesWithin_11 : decode cX10_liesWithin 11 = .ok (.iload_n 2, 1) := by decide +kernel
theorem dX10_liesWithin_12 : decode cX10_liesWithin 12 = .ok (.iload_n 3, 1) := by decide +kernel
theorem dX10_liesWithin_13 : decode cX10_liesWithin 13 = .ok (.invokevirtual 54, 3) := by decide +kernel
theorem dX10_liesWithin_16 : decode cX10_liesWithin 16 = .ok (.ireturn, 1) := by decide +kernel
theorem dX10_gather_0 : decode cX10_gather 0 = .ok (.aload_n 1, 1) := by decide +kernel
theorem dX10_gather_1 : decode cX10_gather 1 = .ok (.aload_n 0, 1) := by decide +kernel
theorem dX10_gather_2 : decode cX10_gather 2 = .ok (.getfield 9, 3) := by decide +kernel
theorem dX10_gather_5 : decode cX10_gather 5 = .ok (.iload_n 3, 1) := by decide +kernel
theorem dX10_gather_6 : decode cX10_gather 6 = .ok (.invokevirtual 48, 3) := by decide +kernel
theorem dX10_gather_9 : decode cX10_gather 9 = .ok (.aload_n 1, 1) := by decide +kernel
theorem dX10_gather_10 : decode cX10_gather 10 = .ok (.aload_n 0, 1) := by decide +kernel
theorem dX10_gather_11 : decode cX10_gather 11 = .ok (.getfield 15, 3) := by decide +kernel
theorem dX10_gather_14 : decode cX10_gather 14 = .ok (.iload_n 3, 1) := by decide +kernel
theorem dX10_gather_15 : decode cX10_gather 15 = .ok (.invokevirtual 58, 3) := by decide +kernel
theorem dX10_gather_18 : decode cX10_gather 18 = .ok (.aload_n 0, 1) := by decide +kernel
theorem dX10_gather_19 : decode cX10_gather 19 = .ok (.getfield 18, 3) := by decide +kernel
theorem dX10_gather_22 : decode cX10_gather 22 = .ok (.iconst 0, 1) := by decide +kernel
theorem dX10_gather_23 : decode cX10_gather 23 = .ok (.invokestatic 61, 3) := by decide +kernel
theorem dX10_gather_26 : decode cX10_gather 26 = .ok (.iconst 0, 1) := by decide +kernel
theorem dX10_gather_27 : decode cX10_gather 27 = .ok (.istore 4, 2) := by decide +kernel
theorem dX10_gather_29 : decode cX10_gather 29 = .ok (.iconst 0, 1) := by decide +kernel
theorem dX10_gather_30 : decode cX10_gather 30 = .ok (.istore 5, 2) := by decide +kernel
theorem dX10_gather_32 : decode cX10_gather 32 = .ok (.iload 5, 2) := by decide +kernel
theorem dX10_gather_34 : decode cX10_gather 34 = .ok (.aload_n 1, 1) := by decide +kernel
theorem dX10_gather_35 : decode cX10_gather 35 = .ok (.getfield 66, 3) := by decide +kernel
theorem dX10_gather_38 : decode cX10_gather 38 = .ok (.if_icmp .ge 39, 3) := by decide +kernel
theorem dX10_gather_41 : decode cX10_gather 41 = .ok (.aload_n 0, 1) := by decide +kernel
theorem dX10_gather_42 : decode cX10_gather 42 = .ok (.getfield 9, 3) := by decide +kernel
theorem dX10_gather_45 : decode cX10_gather 45 = .ok (.iload 5, 2) := by decide +kernel
theorem dX10_gather_47 : decode cX10_gather 47 = .ok (.iaload, 1) := by decide +kernel
theorem dX10_gather_48 : decode cX10_gather 48 = .ok (.iload_n 2, 1) := by decide +kernel
theorem dX10_gather_49 : decode cX10_gather 49 = .ok (.if_icmp .ne 6, 3) := by decide +kernel
theorem dX10_gather_52 : decode cX10_gather 52 = .ok (.iinc 4 1, 3) := by decide +kernel
theorem dX10_gather_55 : decode cX10_gather 55 = .ok (.aload_n 0, 1) := by decide +kernel
theorem dX10_gather_56 : decode cX10_gather 56 = .ok (.iload 5, 2) := by decide +kernel
theorem dX10_gather_58 : decode cX10_gather 58 = .ok (.iload_n 2, 1) := by decide +kernel
theorem dX10_gather_59 : decode cX10_gather 59 = .ok (.invokevirtual 54, 3) := by decide +kernel
theorem dX10_gather_62 : decode cX10_gather 62 = .ok (.ifCond .eq 9, 3) := by decide +kernel
theorem dX10_gather_65 : decode cX10_gather 65 = .ok (.aload_n 0, 1) := by decide +kernel
theorem dX10_gather_66 : decode cX10_gather 66 = .ok (.iload 5, 2) := by decide +kernel
theorem dX10_gather_68 : decode cX10_gather 68 = .ok (.invokevirtual 70, 3) := by decide +kernel
theorem dX10_gather_71 : decode cX10_gather 71 = .ok (.iinc 5 1, 3) := by decide +kernel
theorem dX10_gather_74 : decode cX10_gather 74 = .ok (.goto (-42), 3) := by decide +kernel
theorem dX10_gather_77 : decode cX10_gather 77 = .ok (.aload_n 0, 1) := by decide +kernel
theorem dX10_gather_78 : decode cX10_gather 78 = .ok (.getfield 23, 3) := by decide +kernel
theorem dX10_gather_81 : decode cX10_gather 81 = .ok (.iconst 4, 1) := by decide +kernel
theorem dX10_gather_82 : decode cX10_gather 82 = .ok (.iload 4, 2) := by decide +kernel
theorem dX10_gather_84 : decode cX10_gather 84 = .ok (.iastore, 1) := by decide +kernel
theorem dX10_gather_85 : decode cX10_gather 85 = .ok (.return_, 1) := by decide +kernel
theorem dX10_addOwn_0 : decode cX10_addOwn 0 = .ok (.iconst 0, 1) := by decide +kernel
theorem dX10_addOwn_1 : decode cX10_addOwn 1 = .ok (.istore_n 2, 1) := by decide +kernel
theorem dX10_addOwn_2 : decode cX10_addOwn 2 = .ok (.iload_n 2, 1) := by decide +kernel
theorem dX10_addOwn_3 : decode cX10_addOwn 3 = .ok (.iconst 3, 1) := by decide +kernel
theorem dX10_addOwn_4 : decode cX10_addOwn 4 = .ok (.if_icmp .ge 28, 3) := by decide +kernel
theorem dX10_addOwn_7 : decode cX10_addOwn 7 = .ok (.aload_n 0, 1) := by decide +kernel
theorem dX10_addOwn_8 : decode cX10_addOwn 8 = .ok (.getfield 18, 3) := by decide +kernel
theorem dX10_addOwn_11 : decode cX10_addOwn 11 = .ok (.iload_n 2, 1) := by decide +kernel
theorem dX10_addOwn_12 : decode cX10_addOwn 12 = .ok (.dup2, 1) := by decide +kernel
theorem dX10_addOwn_13 : decode cX10_addOwn 13 = .ok (.iaload, 1) := by decide +kernel
theorem dX10_addOwn_14 : decode cX10_addOwn 14 = .ok (.aload_n 0, 1) := by decide +kernel
theorem dX10_addOwn_15 : decode cX10_addOwn 15 = .ok (.getfield 15, 3) := by decide +kernel
theorem dX10_addOwn_18 : decode cX10_addOwn 18 = .ok (.iload_n 1, 1) := by decide +kernel
theorem dX10_addOwn_19 : decode cX10_addOwn 19 = .ok (.iconst 3, 1) := by decide +kernel
theorem dX10_addOwn_20 : decode cX10_addOwn 20 = .ok (.imul, 1) := by decide +kernel
theorem dX10_addOwn_21 : decode cX10_addOwn 21 = .ok (.iload_n 2, 1) := by decide +kernel
theorem dX10_addOwn_22 : decode cX10_addOwn 22 = .ok (.iadd, 1) := by decide +kernel
theorem dX10_addOwn_23 : decode cX10_addOwn 23 = .ok (.iaload, 1) := by decide +kernel
theorem dX10_addOwn_24 : decode cX10_addOwn 24 = .ok (.iadd, 1) := by decide +kernel
theorem dX10_addOwn_25 : decode cX10_addOwn 25 = .ok (.iastore, 1) := by decide +kernel
theorem dX10_addOwn_26 : decode cX10_addOwn 26 = .ok (.iinc 2 1, 3) := by decide +kernel
theorem dX10_addOwn_29 : decode cX10_addOwn 29 = .ok (.goto (-27), 3) := by decide +kernel
theorem dX10_addOwn_32 : decode cX10_addOwn 32 = .ok (.return_, 1) := by decide +kernel
theorem dX10_everyone_0 : decode cX10_everyone 0 = .ok (.iconst 0, 1) := by decide +kernel
theorem dX10_everyone_1 : decode cX10_everyone 1 = .ok (.istore_n 1, 1) := by decide +kernel
theorem dX10_everyone_2 : decode cX10_everyone 2 = .ok (.iconst 0, 1) := by decide +kernel
theorem dX10_everyone_3 : decode cX10_everyone 3 = .ok (.istore_n 2, 1) := by decide +kernel
theorem dX10_everyone_4 : decode cX10_everyone 4 = .ok (.iload_n 2, 1) := by decide +kernel
theorem dX10_everyone_5 : decode cX10_everyone 5 = .ok (.iconst 3, 1) := by decide +kernel
theorem dX10_everyone_6 : decode cX10_everyone 6 = .ok (.if_icmp .ge 18, 3) := by decide +kernel
theorem dX10_everyone_9 : decode cX10_everyone 9 = .ok (.iload_n 1, 1) := by decide +kernel
theorem dX10_everyone_10 : decode cX10_everyone 10 = .ok (.aload_n 0, 1) := by decide +kernel
theorem dX10_everyone_11 : decode cX10_everyone 11 = .ok (.getfield 18, 3) := by decide +kernel
theorem dX10_everyone_14 : decode cX10_everyone 14 = .ok (.iload_n 2, 1) := by decide +kernel
theorem dX10_everyone_15 : decode cX10_everyone 15 = .ok (.iaload, 1) := by decide +kernel
theorem dX10_everyone_16 : decode cX10_everyone 16 = .ok (.iadd, 1) := by decide +kernel
theorem dX10_everyone_17 : decode cX10_everyone 17 = .ok (.istore_n 1, 1) := by decide +kernel
theorem dX10_everyone_18 : decode cX10_everyone 18 = .ok (.iinc 2 1, 3) := by decide +kernel
theorem dX10_everyone_21 : decode cX10_everyone 21 = .ok (.goto (-17), 3) := by decide +kernel
theorem dX10_everyone_24 : decode cX10_everyone 24 = .ok (.iload_n 1, 1) := by decide +kernel
theorem dX10_everyone_25 : decode cX10_everyone 25 = .ok (.ireturn, 1) := by decide +kernel
theorem dX10_setShares_0 : decode cX10_setShares 0 = .ok (.aload_n 0, 1) := by decide +kernel
theorem dX10_setShares_1 : decode cX10_setShares 1 = .ok (.invokevirtual 74, 3) := by decide +kernel
theorem dX10_setShares_4 : decode cX10_setShares 4 = .ok (.istore_n 1, 1) := by decide +kernel
theorem dX10_setShares_5 : decode cX10_setShares 5 = .ok (.aload_n 0, 1) := by decide +kernel
theorem dX10_setShares_6 : decode cX10_setShares 6 = .ok (.getfield 23, 3) := by decide +kernel
theorem dX10_setShares_9 : decode cX10_setShares 9 = .ok (.iconst 3, 1) := by decide +kernel
theorem dX10_setShares_10 : decode cX10_setShares 10 = .ok (.iload_n 1, 1) := by decide +kernel
theorem dX10_setShares_11 : decode cX10_setShares 11 = .ok (.iastore, 1) := by decide +kernel
theorem dX10_setShares_12 : decode cX10_setShares 12 = .ok (.iconst 0, 1) := by decide +kernel
theorem dX10_setShares_13 : decode cX10_setShares 13 = .ok (.istore_n 2, 1) := by decide +kernel
theorem dX10_setShares_14 : decode cX10_setShares 14 = .ok (.iload_n 2, 1) := by decide +kernel
theorem dX10_setShares_15 : decode cX10_setShares 15 = .ok (.iconst 3, 1) := by decide +kernel
theorem dX10_setShares_16 : decode cX10_setShares 16 = .ok (.if_icmp .ge 36, 3) := by decide +kernel
theorem dX10_setShares_19 : decode cX10_setShares 19 = .ok (.aload_n 0, 1) := by decide +kernel
theorem dX10_setShares_20 : decode cX10_setShares 20 = .ok (.getfield 23, 3) := by decide +kernel
theorem dX10_setShares_23 : decode cX10_setShares 23 = .ok (.iconst 0, 1) := by decide +kernel
theorem dX10_setShares_24 : decode cX10_setShares 24 = .ok (.iload_n 2, 1) := by decide +kernel
theorem dX10_setShares_25 : decode cX10_setShares 25 = .ok (.iadd, 1) := by decide +kernel
theorem dX10_setShares_26 : decode cX10_setShares 26 = .ok (.iload_n 1, 1) := by decide +kernel
theorem dX10_setShares_27 : decode cX10_setShares 27 = .ok (.ifCond .le 17, 3) := by decide +kernel
theorem dX10_setShares_30 : decode cX10_setShares 30 = .ok (.aload_n 0, 1) := by decide +kernel
theorem dX10_setShares_31 : decode cX10_setShares 31 = .ok (.getfield 18, 3) := by decide +kernel
theorem dX10_setShares_34 : decode cX10_setShares 34 = .ok (.iload_n 2, 1) := by decide +kernel
theorem dX10_setShares_35 : decode cX10_setShares 35 = .ok (.iaload, 1) := by decide +kernel
theorem dX10_setShares_36 : decode cX10_setShares 36 = .ok (.bipush 100, 2) := by decide +kernel
theorem dX10_setShares_38 : decode cX10_setShares 38 = .ok (.imul, 1) := by decide +kernel
theorem dX10_setShares_39 : decode cX10_setShares 39 = .ok (.iload_n 1, 1) := by decide +kernel
theorem dX10_setShares_40 : decode cX10_setShares 40 = .ok (.idiv, 1) := by decide +kernel
theorem dX10_setShares_41 : decode cX10_setShares 41 = .ok (.goto 4, 3) := by decide +kernel
theorem dX10_setShares_44 : decode cX10_setShares 44 = .ok (.iconst 0, 1) := by decide +kernel
theorem dX10_setShares_45 : decode cX10_setShares 45 = .ok (.iastore, 1) := by decide +kernel
theorem dX10_setShares_46 : decode cX10_setShares 46 = .ok (.iinc 2 1, 3) := by decide +kernel
theorem dX10_setShares_49 : decode cX10_setShares 49 = .ok (.goto (-35), 3) := by decide +kernel
theorem dX10_setShares_52 : decode cX10_setShares 52 = .ok (.return_, 1) := by decide +kernel
theorem dX10_look_0 : decode cX10_look 0 = .ok (.iload_n 3, 1) := by decide +kernel
theorem dX10_look_1 : decode cX10_look 1 = .ok (.iload 4, 2) := by decide +kernel
theorem dX10_look_3 : decode cX10_look 3 = .ok (.invokestatic 78, 3) := by decide +kernel
theorem dX10_look_6 : decode cX10_look 6 = .ok (.istore 5, 2) := by decide +kernel
theorem dX10_look_8 : decode cX10_look 8 = .ok (.aload_n 0, 1) := by decide +kernel
theorem dX10_look_9 : decode cX10_look 9 = .ok (.aload_n 1, 1) := by decide +kernel
theorem dX10_look_10 : decode cX10_look 10 = .ok (.getfield 84, 3) := by decide +kernel
theorem dX10_look_13 : decode cX10_look 13 = .ok (.iload_n 2, 1) := by decide +kernel
theorem dX10_look_14 : decode cX10_look 14 = .ok (.iload 5, 2) := by decide +kernel
theorem dX10_look_16 : decode cX10_look 16 = .ok (.invokevirtual 90, 3) := by decide +kernel
theorem dX10_look_19 : decode cX10_look 19 = .ok (.aload_n 0, 1) := by decide +kernel
theorem dX10_look_20 : decode cX10_look 20 = .ok (.invokevirtual 94, 3) := by decide +kernel
theorem dX10_look_23 : decode cX10_look 23 = .ok (.aload_n 0, 1) := by decide +kernel
theorem dX10_look_24 : decode cX10_look 24 = .ok (.getfield 23, 3) := by decide +kernel
theorem dX10_look_27 : decode cX10_look 27 = .ok (.iconst 5, 1) := by decide +kernel
theorem dX10_look_28 : decode cX10_look 28 = .ok (.iload_n 3, 1) := by decide +kernel
theorem dX10_look_29 : decode cX10_look 29 = .ok (.iastore, 1) := by decide +kernel
theorem dX10_look_30 : decode cX10_look 30 = .ok (.aload_n 1, 1) := by decide +kernel
theorem dX10_look_31 : decode cX10_look 31 = .ok (.getfield 97, 3) := by decide +kernel
theorem dX10_look_34 : decode cX10_look 34 = .ok (.iload 5, 2) := by decide +kernel
theorem dX10_look_36 : decode cX10_look 36 = .ok (.invokevirtual 101, 3) := by decide +kernel
theorem dX10_look_39 : decode cX10_look 39 = .ok (.istore 6, 2) := by decide +kernel
theorem dX10_look_41 : decode cX10_look 41 = .ok (.aload_n 0, 1) := by decide +kernel
theorem dX10_look_42 : decode cX10_look 42 = .ok (.aload_n 0, 1) := by decide +kernel
theorem dX10_look_43 : decode cX10_look 43 = .ok (.aload_n 1, 1) := by decide +kernel
theorem dX10_look_44 : decode cX10_look 44 = .ok (.getfield 97, 3) := by decide +kernel
theorem dX10_look_47 : decode cX10_look 47 = .ok (.iload 6, 2) := by decide +kernel
theorem dX10_look_49 : decode cX10_look 49 = .ok (.invokevirtual 105, 3) := by decide +kernel
theorem dX10_look_52 : decode cX10_look 52 = .ok (.putfield 109, 3) := by decide +kernel
theorem dX10_look_55 : decode cX10_look 55 = .ok (.aload_n 0, 1) := by decide +kernel
theorem dX10_look_56 : decode cX10_look 56 = .ok (.iconst (-1), 1) := by decide +kernel
theorem dX10_look_57 : decode cX10_look 57 = .ok (.putfield 112, 3) := by decide +kernel
theorem dX10_look_60 : decode cX10_look 60 = .ok (.aload_n 1, 1) := by decide +kernel
theorem dX10_look_61 : decode cX10_look 61 = .ok (.getfield 97, 3) := by decide +kernel
theorem dX10_look_64 : decode cX10_look 64 = .ok (.iload 6, 2) := by decide +kernel
theorem dX10_look_66 : decode cX10_look 66 = .ok (.iconst 1, 1) := by decide +kernel
theorem dX10_look_67 : decode cX10_look 67 = .ok (.aload_n 0, 1) := by decide +kernel
theorem dX10_look_68 : decode cX10_look 68 = .ok (.getfield 23, 3) := by decide +kernel
theorem dX10_look_71 : decode cX10_look 71 = .ok (.invokevirtual 115, 3) := by decide +kernel
theorem dX10_look_74 : decode cX10_look 74 = .ok (.iconst (-1), 1) := by decide +kernel
theorem dX10_look_75 : decode cX10_look 75 = .ok (.if_icmp .eq 33, 3) := by decide +kernel
theorem dX10_look_78 : decode cX10_look 78 = .ok (.aload_n 0, 1) := by decide +kernel
theorem dX10_look_79 : decode cX10_look 79 = .ok (.aload_n 0, 1) := by decide +kernel
theorem dX10_look_80 : decode cX10_look 80 = .ok (.getfield 109, 3) := by decide +kernel
theorem dX10_look_83 : decode cX10_look 83 = .ok (.invokevirtual 119, 3) := by decide +kernel
theorem dX10_look_86 : decode cX10_look 86 = .ok (.istore 7, 2) := by decide +kernel
theorem dX10_look_88 : decode cX10_look 88 = .ok (.aload_n 0, 1) := by decide +kernel
theorem dX10_look_89 : decode cX10_look 89 = .ok (.aload_n 0, 1) := by decide +kernel
theorem dX10_look_90 : decode cX10_look 90 = .ok (.getfield 18, 3) := by decide +kernel
theorem dX10_look_93 : decode cX10_look 93 = .ok (.iload 7, 2) := by decide +kernel
theorem dX10_look_95 : decode cX10_look 95 = .ok (.iaload, 1) := by decide +kernel
theorem dX10_look_96 : decode cX10_look 96 = .ok (.ifCond .le 8, 3) := by decide +kernel
theorem dX10_look_99 : decode cX10_look 99 = .ok (.iload 7, 2) := by decide +kernel
theorem dX10_look_101 : decode cX10_look 101 = .ok (.goto 4, 3) := by decide +kernel
theorem dX10_look_104 : decode cX10_look 104 = .ok (.iconst (-1), 1) := by decide +kernel
theorem dX10_look_105 : decode cX10_look 105 = .ok (.putfield 112, 3) := by decide +kernel
theorem dX10_look_108 : decode cX10_look 108 = .ok (.return_, 1) := by decide +kernel
theorem dX10_firstBy_0 : decode cX10_firstBy 0 = .ok (.aload_n 1, 1) := by decide +kernel
theorem dX10_firstBy_1 : decode cX10_firstBy 1 = .ok (.iload_n 2, 1) := by decide +kernel
theorem dX10_firstBy_2 : decode cX10_firstBy 2 = .ok (.iconst 0, 1) := by decide +kernel
theorem dX10_firstBy_3 : decode cX10_firstBy 3 = .ok (.aload_n 0, 1) := by decide +kernel
theorem dX10_firstBy_4 : decode cX10_firstBy 4 = .ok (.getfield 23, 3) := by decide +kernel
theorem dX10_firstBy_7 : decode cX10_firstBy 7 = .ok (.invokevirtual 115, 3) := by decide +kernel
theorem dX10_firstBy_10 : decode cX10_firstBy 10 = .ok (.istore_n 3, 1) := by decide +kernel
theorem dX10_firstBy_11 : decode cX10_firstBy 11 = .ok (.iload_n 3, 1) := by decide +kernel
theorem dX10_firstBy_12 : decode cX10_firstBy 12 = .ok (.iconst (-1), 1) := by decide +kernel
theorem dX10_firstBy_13 : decode cX10_firstBy 13 = .ok (.if_icmp .ne 11, 3) := by decide +kernel
theorem dX10_firstBy_16 : decode cX10_firstBy 16 = .ok (.aload_n 0, 1) := by decide +kernel
theorem dX10_firstBy_17 : decode cX10_firstBy 17 = .ok (.iconst (-1), 1) := by decide +kernel
theorem dX10_firstBy_18 : decode cX10_firstBy 18 = .ok (.invokevirtual 119, 3) := by decide +kernel
theorem dX10_firstBy_21 : decode cX10_firstBy 21 = .ok (.goto 9, 3) := by decide +kernel
theorem dX10_firstBy_24 : decode cX10_firstBy 24 = .ok (.aload_n 1, 1) := by decide +kernel
theorem dX10_firstBy_25 : decode cX10_firstBy 25 = .ok (.getfield 122, 3) := by decide +kernel
theorem dX10_firstBy_28 : decode cX10_firstBy 28 = .ok (.iload_n 3, 1) := by decide +kernel
theorem dX10_firstBy_29 : decode cX10_firstBy 29 = .ok (.iaload, 1) := by decide +kernel
theorem dX10_firstBy_30 : decode cX10_firstBy 30 = .ok (.ireturn, 1) := by decide +kernel
theorem dX10_mostPeople_0 : decode cX10_mostPeople 0 = .ok (.iload_n 1, 1) := by decide +kernel
theorem dX10_mostPeople_1 : decode cX10_mostPeople 1 = .ok (.ifCond .ne 7, 3) := by decide +kernel
theorem dX10_mostPeople_4 : decode cX10_mostPeople 4 = .ok (.iconst 1, 1) := by decide +kernel
theorem dX10_mostPeople_5 : decode cX10_mostPeople 5 = .ok (.goto 4, 3) := by decide +kernel
theorem dX10_mostPeople_8 : decode cX10_mostPeople 8 = .ok (.iconst 0, 1) := by decide +kernel
theorem dX10_mostPeople_9 : decode cX10_mostPeople 9 = .ok (.istore_n 2, 1) := by decide +kernel
theorem dX10_mostPeople_10 : decode cX10_mostPeople 10 = .ok (.iload_n 2, 1) := by decide +kernel
theorem dX10_mostPeople_11 : decode cX10_mostPeople 11 = .ok (.iconst 1, 1) := by decide +kernel
theorem dX10_mostPeople_12 : decode cX10_mostPeople 12 = .ok (.iadd, 1) := by decide +kernel
theorem dX10_mostPeople_13 : decode cX10_mostPeople 13 = .ok (.istore_n 3, 1) := by decide +kernel
theorem dX10_mostPeople_14 : decode cX10_mostPeople 14 = .ok (.iload_n 3, 1) := by decide +kernel
theorem dX10_mostPeople_15 : decode cX10_mostPeople 15 = .ok (.iconst 3, 1) := by decide +kernel
theorem dX10_mostPeople_16 : decode cX10_mostPeople 16 = .ok (.if_icmp .ge 31, 3) := by decide +kernel
theorem dX10_mostPeople_19 : decode cX10_mostPeople 19 = .ok (.iload_n 3, 1) := by decide +kernel
theorem dX10_mostPeople_20 : decode cX10_mostPeople 20 = .ok (.iload_n 1, 1) := by decide +kernel
theorem dX10_mostPeople_21 : decode cX10_mostPeople 21 = .ok (.if_icmp .eq 20, 3) := by decide +kernel
theorem dX10_mostPeople_24 : decode cX10_mostPeople 24 = .ok (.aload_n 0, 1) := by decide +kernel
theorem dX10_mostPeople_25 : decode cX10_mostPeople 25 = .ok (.getfield 18, 3) := by decide +kernel
theorem dX10_mostPeople_28 : decode cX10_mostPeople 28 = .ok (.iload_n 3, 1) := by decide +kernel
theorem dX10_mostPeople_29 : decode cX10_mostPeople 29 = .ok (.iaload, 1) := by decide +kernel
theorem dX10_mostPeople_30 : decode cX10_mostPeople 30 = .ok (.aload_n 0, 1) := by decide +kernel
theorem dX10_mostPeople_31 : decode cX10_mostPeople 31 = .ok (.getfield 18, 3) := by decide +kernel
theorem dX10_mostPeople_34 : decode cX10_mostPeople 34 = .ok (.iload_n 2, 1) := by decide +kernel
theorem dX10_mostPeople_35 : decode cX10_mostPeople 35 = .ok (.iaload, 1) := by decide +kernel
theorem dX10_mostPeople_36 : decode cX10_mostPeople 36 = .ok (.if_icmp .le 5, 3) := by decide +kernel
theorem dX10_mostPeople_39 : decode cX10_mostPeople 39 = .ok (.iload_n 3, 1) := by decide +kernel
theorem dX10_mostPeople_40 : decode cX10_mostPeople 40 = .ok (.istore_n 2, 1) := by decide +kernel
theorem dX10_mostPeople_41 : decode cX10_mostPeople 41 = .ok (.iinc 3 1, 3) := by decide +kernel
theorem dX10_mostPeople_44 : decode cX10_mostPeople 44 = .ok (.goto (-30), 3) := by decide +kernel
theorem dX10_mostPeople_47 : decode cX10_mostPeople 47 = .ok (.iload_n 2, 1) := by decide +kernel
theorem dX10_mostPeople_48 : decode cX10_mostPeople 48 = .ok (.ireturn, 1) := by decide +kernel
theorem dX10_fewestToSwing_0 : decode cX10_fewestToSwing 0 = .ok (.aload_n 0, 1) := by decide +kernel
theorem dX10_fewestToSwing_1 : decode cX10_fewestToSwing 1 = .ok (.aload_n 1, 1) := by decide +kernel
theorem dX10_fewestToSwing_2 : decode cX10_fewestToSwing 2 = .ok (.iload_n 2, 1) := by decide +kernel
theorem dX10_fewestToSwing_3 : decode cX10_fewestToSwing 3 = .ok (.aload_n 1, 1) := by decide +kernel
theorem dX10_fewestToSwing_4 : decode cX10_fewestToSwing 4 = .ok (.getfield 125, 3) := by decide +kernel
theorem dX10_fewestToSwing_7 : decode cX10_fewestToSwing 7 = .ok (.aload_n 1, 1) := by decide +kernel
theorem dX10_fewestToSwing_8 : decode cX10_fewestToSwing 8 = .ok (.getfield 125, 3) := by decide +kernel
theorem dX10_fewestToSwing_11 : decode cX10_fewestToSwing 11 = .ok (.invokevirtual 128, 3) := by decide +kernel
theorem dX10_fewestToSwing_14 : decode cX10_fewestToSwing 14 = .ok (.aload_n 1, 1) := by decide +kernel
theorem dX10_fewestToSwing_15 : decode cX10_fewestToSwing 15 = .ok (.getfield 97, 3) := by decide +kernel
theorem dX10_fewestToSwing_18 : decode cX10_fewestToSwing 18 = .ok (.aload_n 1, 1) := by decide +kernel
theorem dX10_fewestToSwing_19 : decode cX10_fewestToSwing 19 = .ok (.getfield 125, 3) := by decide +kernel
theorem dX10_fewestToSwing_22 : decode cX10_fewestToSwing 22 = .ok (.invokevirtual 101, 3) := by decide +kernel
theorem dX10_fewestToSwing_25 : decode cX10_fewestToSwing 25 = .ok (.istore_n 3, 1) := by decide +kernel
theorem dX10_fewestToSwing_26 : decode cX10_fewestToSwing 26 = .ok (.iload_n 2, 1) := by decide +kernel
theorem dX10_fewestToSwing_27 : decode cX10_fewestToSwing 27 = .ok (.iconst 3, 1) := by decide +kernel
theorem dX10_fewestToSwing_28 : decode cX10_fewestToSwing 28 = .ok (.imul, 1) := by decide +kernel
theorem dX10_fewestToSwing_29 : decode cX10_fewestToSwing 29 = .ok (.istore 4, 2) := by decide +kernel
theorem dX10_fewestToSwing_31 : decode cX10_fewestToSwing 31 = .ok (.aload_n 0, 1) := by decide +kernel
theorem dX10_fewestToSwing_32 : decode cX10_fewestToSwing 32 = .ok (.getfield 15, 3) := by decide +kernel
theorem dX10_fewestToSwing_35 : decode cX10_fewestToSwing 35 = .ok (.iload 4, 2) := by decide +kernel
theorem dX10_fewestToSwing_37 : decode cX10_fewestToSwing 37 = .ok (.iaload, 1) := by decide +kernel
theorem dX10_fewestToSwing_38 : decode cX10_fewestToSwing 38 = .ok (.aload_n 0, 1) := by decide +kernel
theorem dX10_fewestToSwing_39 : decode cX10_fewestToSwing 39 = .ok (.getfield 15, 3) := by decide +kernel
theorem dX10_fewestToSwing_42 : decode cX10_fewestToSwing 42 = .ok (.iload 4, 2) := by decide +kernel
theorem dX10_fewestToSwing_44 : decode cX10_fewestToSwing 44 = .ok (.iconst 1, 1) := by decide +kernel
theorem dX10_fewestToSwing_45 : decode cX10_fewestToSwing 45 = .ok (.iadd, 1) := by decide +kernel
theorem dX10_fewestToSwing_46 : decode cX10_fewestToSwing 46 = .ok (.iaload, 1) := by decide +kernel
theorem dX10_fewestToSwing_47 : decode cX10_fewestToSwing 47 = .ok (.aload_n 0, 1) := by decide +kernel
theorem dX10_fewestToSwing_48 : decode cX10_fewestToSwing 48 = .ok (.getfield 15, 3) := by decide +kernel
theorem dX10_fewestToSwing_51 : decode cX10_fewestToSwing 51 = .ok (.iload 4, 2) := by decide +kernel
theorem dX10_fewestToSwing_53 : decode cX10_fewestToSwing 53 = .ok (.iconst 2, 1) := by decide +kernel
theorem dX10_fewestToSwing_54 : decode cX10_fewestToSwing 54 = .ok (.iadd, 1) := by decide +kernel
theorem dX10_fewestToSwing_55 : decode cX10_fewestToSwing 55 = .ok (.iaload, 1) := by decide +kernel
theorem dX10_fewestToSwing_56 : decode cX10_fewestToSwing 56 = .ok (.invokestatic 132, 3) := by decide +kernel
theorem dX10_fewestToSwing_59 : decode cX10_fewestToSwing 59 = .ok (.invokestatic 132, 3) := by decide +kernel
theorem dX10_fewestToSwing_62 : decode cX10_fewestToSwing 62 = .ok (.istore 5, 2) := by decide +kernel
theorem dX10_fewestToSwing_64 : decode cX10_fewestToSwing 64 = .ok (.iconst 1, 1) := by decide +kernel
theorem dX10_fewestToSwing_65 : decode cX10_fewestToSwing 65 = .ok (.istore 6, 2) := by decide +kernel
theorem dX10_fewestToSwing_67 : decode cX10_fewestToSwing 67 = .ok (.iload 6, 2) := by decide +kernel
theorem dX10_fewestToSwing_69 : decode cX10_fewestToSwing 69 = .ok (.iload 5, 2) := by decide +kernel
theorem dX10_fewestToSwing_71 : decode cX10_fewestToSwing 71 = .ok (.if_icmp .gt 28, 3) := by decide +kernel
theorem dX10_fewestToSwing_74 : decode cX10_fewestToSwing 74 = .ok (.aload_n 0, 1) := by decide +kernel
theorem dX10_fewestToSwing_75 : decode cX10_fewestToSwing 75 = .ok (.aload_n 1, 1) := by decide +kernel
theorem dX10_fewestToSwing_76 : decode cX10_fewestToSwing 76 = .ok (.getfield 97, 3) := by decide +kernel
theorem dX10_fewestToSwing_79 : decode cX10_fewestToSwing 79 = .ok (.iload_n 3, 1) := by decide +kernel
theorem dX10_fewestToSwing_80 : decode cX10_fewestToSwing 80 = .ok (.iload 4, 2) := by decide +kernel
theorem dX10_fewestToSwing_82 : decode cX10_fewestToSwing 82 = .ok (.iload 6, 2) := by decide +kernel
theorem dX10_fewestToSwing_84 : decode cX10_fewestToSwing 84 = .ok (.invokevirtual 135, 3) := by decide +kernel
theorem dX10_fewestToSwing_87 : decode cX10_fewestToSwing 87 = .ok (.ifCond .eq 6, 3) := by decide +kernel
theorem dX10_fewestToSwing_90 : decode cX10_fewestToSwing 90 = .ok (.iload 6, 2) := by decide +kernel
theorem dX10_fewestToSwing_92 : decode cX10_fewestToSwing 92 = .ok (.ireturn, 1) := by decide +kernel
theorem dX10_fewestToSwing_93 : decode cX10_fewestToSwing 93 = .ok (.iinc 6 1, 3) := by decide +kernel
theorem dX10_fewestToSwing_96 : decode cX10_fewestToSwing 96 = .ok (.goto (-29), 3) := by decide +kernel
theorem dX10_fewestToSwing_99 : decode cX10_fewestToSwing 99 = .ok (.iconst (-1), 1) := by decide +kernel
theorem dX10_fewestToSwing_100 : decode cX10_fewestToSwing 100 = .ok (.ireturn, 1) := by decide +kernel
theorem dX10_swingsBy_0 : decode cX10_swingsBy 0 = .ok (.iconst 0, 1) := by decide +kernel
theorem dX10_swingsBy_1 : decode cX10_swingsBy 1 = .ok (.istore 5, 2) := by decide +kernel
theorem dX10_swingsBy_3 : decode cX10_swingsBy 3 = .ok (.iload 5, 2) := by decide +kernel
theorem dX10_swingsBy_5 : decode cX10_swingsBy 5 = .ok (.iconst 3, 1) := by decide +kernel
theorem dX10_swingsBy_6 : decode cX10_swingsBy 6 = .ok (.if_icmp .ge 62, 3) := by decide +kernel
theorem dX10_swingsBy_9 : decode cX10_swingsBy 9 = .ok (.iconst 0, 1) := by decide +kernel
theorem dX10_swingsBy_10 : decode cX10_swingsBy 10 = .ok (.istore 6, 2) := by decide +kernel
theorem dX10_swingsBy_12 : decode cX10_swingsBy 12 = .ok (.iload 6, 2) := by decide +kernel
theorem dX10_swingsBy_14 : decode cX10_swingsBy 14 = .ok (.iconst 3, 1) := by decide +kernel
theorem dX10_swingsBy_15 : decode cX10_swingsBy 15 = .ok (.if_icmp .ge 47, 3) := by decide +kernel
theorem dX10_swingsBy_18 : decode cX10_swingsBy 18 = .ok (.aload_n 0, 1) := by decide +kernel
theorem dX10_swingsBy_19 : decode cX10_swingsBy 19 = .ok (.getfield 15, 3) := by decide +kernel
theorem dX10_swingsBy_22 : decode cX10_swingsBy 22 = .ok (.iload_n 3, 1) := by decide +kernel
theorem dX10_swingsBy_23 : decode cX10_swingsBy 23 = .ok (.iload 5, 2) := by decide +kernel
theorem dX10_swingsBy_25 : decode cX10_swingsBy 25 = .ok (.iadd, 1) := by decide +kernel
theorem dX10_swingsBy_26 : decode cX10_swingsBy 26 = .ok (.iaload, 1) := by decide +kernel
theorem dX10_swingsBy_27 : decode cX10_swingsBy 27 = .ok (.iload 4, 2) := by decide +kernel
theorem dX10_swingsBy_29 : decode cX10_swingsBy 29 = .ok (.if_icmp .lt 33, 3) := by decide +kernel
theorem dX10_swingsBy_32 : decode cX10_swingsBy 32 = .ok (.iload 5, 2) := by decide +kernel
theorem dX10_swingsBy_34 : decode cX10_swingsBy 34 = .ok (.iload 6, 2) := by decide +kernel
theorem dX10_swingsBy_36 : decode cX10_swingsBy 36 = .ok (.if_icmp .eq 20, 3) := by decide +kernel
theorem dX10_swingsBy_39 : decode cX10_swingsBy 39 = .ok (.aload_n 0, 1) := by decide +kernel
theorem dX10_swingsBy_40 : decode cX10_swingsBy 40 = .ok (.aload_n 1, 1) := by decide +kernel
theorem dX10_swingsBy_41 : decode cX10_swingsBy 41 = .ok (.iload_n 2, 1) := by decide +kernel
theorem dX10_swingsBy_42 : decode cX10_swingsBy 42 = .ok (.iload 5, 2) := by decide +kernel
theorem dX10_swingsBy_44 : decode cX10_swingsBy 44 = .ok (.iload 6, 2) := by decide +kernel
theorem dX10_swingsBy_46 : decode cX10_swingsBy 46 = .ok (.iload 4, 2) := by decide +kernel
theorem dX10_swingsBy_48 : decode cX10_swingsBy 48 = .ok (.invokevirtual 139, 3) := by decide +kernel
theorem dX10_swingsBy_51 : decode cX10_swingsBy 51 = .ok (.ifCond .eq 5, 3) := by decide +kernel
theorem dX10_swingsBy_54 : decode cX10_swingsBy 54 = .ok (.iconst 1, 1) := by decide +kernel
theorem dX10_swingsBy_55 : decode cX10_swingsBy 55 = .ok (.ireturn, 1) := by decide +kernel
theorem dX10_swingsBy_56 : decode cX10_swingsBy 56 = .ok (.iinc 6 1, 3) := by decide +kernel
theorem dX10_swingsBy_59 : decode cX10_swingsBy 59 = .ok (.goto (-47), 3) := by decide +kernel
theorem dX10_swingsBy_62 : decode cX10_swingsBy 62 = .ok (.iinc 5 1, 3) := by decide +kernel
theorem dX10_swingsBy_65 : decode cX10_swingsBy 65 = .ok (.goto (-62), 3) := by decide +kernel
theorem dX10_swingsBy_68 : decode cX10_swingsBy 68 = .ok (.iconst 0, 1) := by decide +kernel
theorem dX10_swingsBy_69 : decode cX10_swingsBy 69 = .ok (.ireturn, 1) := by decide +kernel
theorem dX10_swungBy_0 : decode cX10_swungBy 0 = .ok (.aload_n 0, 1) := by decide +kernel
theorem dX10_swungBy_1 : decode cX10_swungBy 1 = .ok (.getfield 18, 3) := by decide +kernel
theorem dX10_swungBy_4 : decode cX10_swungBy 4 = .ok (.iload_n 3, 1) := by decide +kernel
theorem dX10_swungBy_5 : decode cX10_swungBy 5 = .ok (.dup2, 1) := by decide +kernel
theorem dX10_swungBy_6 : decode cX10_swungBy 6 = .ok (.iaload, 1) := by decide +kernel
theorem dX10_swungBy_7 : decode cX10_swungBy 7 = .ok (.iload 5, 2) := by decide +kernel
theorem dX10_swungBy_9 : decode cX10_swungBy 9 = .ok (.isub, 1) := by decide +kernel
theorem dX10_swungBy_10 : decode cX10_swungBy 10 = .ok (.iastore, 1) := by decide +kernel
theorem dX10_swungBy_11 : decode cX10_swungBy 11 = .ok (.aload_n 0, 1) := by decide +kernel
theorem dX10_swungBy_12 : decode cX10_swungBy 12 = .ok (.getfield 18, 3) := by decide +kernel
theorem dX10_swungBy_15 : decode cX10_swungBy 15 = .ok (.iload 4, 2) := by decide +kernel
theorem dX10_swungBy_17 : decode cX10_swungBy 17 = .ok (.dup2, 1) := by decide +kernel
theorem dX10_swungBy_18 : decode cX10_swungBy 18 = .ok (.iaload, 1) := by decide +kernel
theorem dX10_swungBy_19 : decode cX10_swungBy 19 = .ok (.iload 5, 2) := by decide +kernel
theorem dX10_swungBy_21 : decode cX10_swungBy 21 = .ok (.iadd, 1) := by decide +kernel
theorem dX10_swungBy_22 : decode cX10_swungBy 22 = .ok (.iastore, 1) := by decide +kernel
theorem dX10_swungBy_23 : decode cX10_swungBy 23 = .ok (.aload_n 0, 1) := by decide +kernel
theorem dX10_swungBy_24 : decode cX10_swungBy 24 = .ok (.invokevirtual 94, 3) := by decide +kernel
theorem dX10_swungBy_27 : decode cX10_swungBy 27 = .ok (.aload_n 0, 1) := by decide +kernel
theorem dX10_swungBy_28 : decode cX10_swungBy 28 = .ok (.aload_n 1, 1) := by decide +kernel
theorem dX10_swungBy_29 : decode cX10_swungBy 29 = .ok (.iload_n 2, 1) := by decide +kernel
theorem dX10_swungBy_30 : decode cX10_swungBy 30 = .ok (.invokevirtual 105, 3) := by decide +kernel
theorem dX10_swungBy_33 : decode cX10_swungBy 33 = .ok (.aload_n 0, 1) := by decide +kernel
theorem dX10_swungBy_34 : decode cX10_swungBy 34 = .ok (.getfield 109, 3) := by decide +kernel
theorem dX10_swungBy_37 : decode cX10_swungBy 37 = .ok (.if_icmp .eq 7, 3) := by decide +kernel
theorem dX10_swungBy_40 : decode cX10_swungBy 40 = .ok (.iconst 1, 1) := by decide +kernel
theorem dX10_swungBy_41 : decode cX10_swungBy 41 = .ok (.goto 4, 3) := by decide +kernel
theorem dX10_swungBy_44 : decode cX10_swungBy 44 = .ok (.iconst 0, 1) := by decide +kernel
theorem dX10_swungBy_45 : decode cX10_swungBy 45 = .ok (.istore 6, 2) := by decide +kernel
theorem dX10_swungBy_47 : decode cX10_swungBy 47 = .ok (.aload_n 0, 1) := by decide +kernel
theorem dX10_swungBy_48 : decode cX10_swungBy 48 = .ok (.getfield 18, 3) := by decide +kernel
theorem dX10_swungBy_51 : decode cX10_swungBy 51 = .ok (.iload_n 3, 1) := by decide +kernel
theorem dX10_swungBy_52 : decode cX10_swungBy 52 = .ok (.dup2, 1) := by decide +kernel
theorem dX10_swungBy_53 : decode cX10_swungBy 53 = .ok (.iaload, 1) := by decide +kernel
theorem dX10_swungBy_54 : decode cX10_swungBy 54 = .ok (.iload 5, 2) := by decide +kernel
theorem dX10_swungBy_56 : decode cX10_swungBy 56 = .ok (.iadd, 1) := by decide +kernel
theorem dX10_swungBy_57 : decode cX10_swungBy 57 = .ok (.iastore, 1) := by decide +kernel
theorem dX10_swungBy_58 : decode cX10_swungBy 58 = .ok (.aload_n 0, 1) := by decide +kernel
theorem dX10_swungBy_59 : decode cX10_swungBy 59 = .ok (.getfield 18, 3) := by decide +kernel
theorem dX10_swungBy_62 : decode cX10_swungBy 62 = .ok (.iload 4, 2) := by decide +kernel
theorem dX10_swungBy_64 : decode cX10_swungBy 64 = .ok (.dup2, 1) := by decide +kernel
theorem dX10_swungBy_65 : decode cX10_swungBy 65 = .ok (.iaload, 1) := by decide +kernel
theorem dX10_swungBy_66 : decode cX10_swungBy 66 = .ok (.iload 5, 2) := by decide +kernel
theorem dX10_swungBy_68 : decode cX10_swungBy 68 = .ok (.isub, 1) := by decide +kernel
theorem dX10_swungBy_69 : decode cX10_swungBy 69 = .ok (.iastore, 1) := by decide +kernel
theorem dX10_swungBy_70 : decode cX10_swungBy 70 = .ok (.iload 6, 2) := by decide +kernel
theorem dX10_swungBy_72 : decode cX10_swungBy 72 = .ok (.ireturn, 1) := by decide +kernel
theorem dX10_alikePairs_0 : decode cX10_alikePairs 0 = .ok (.iconst 0, 1) := by decide +kernel
theorem dX10_alikePairs_1 : decode cX10_alikePairs 1 = .ok (.istore_n 3, 1) := by decide +kernel
theorem dX10_alikePairs_2 : decode cX10_alikePairs 2 = .ok (.iconst 0, 1) := by decide +kernel
theorem dX10_alikePairs_3 : decode cX10_alikePairs 3 = .ok (.istore 4, 2) := by decide +kernel
theorem dX10_alikePairs_5 : decode cX10_alikePairs 5 = .ok (.iload 4, 2) := by decide +kernel
theorem dX10_alikePairs_7 : decode cX10_alikePairs 7 = .ok (.aload_n 1, 1) := by decide +kernel
theorem dX10_alikePairs_8 : decode cX10_alikePairs 8 = .ok (.getfield 143, 3) := by decide +kernel
theorem dX10_alikePairs_11 : decode cX10_alikePairs 11 = .ok (.if_icmp .ge 64, 3) := by decide +kernel
theorem dX10_alikePairs_14 : decode cX10_alikePairs 14 = .ok (.aload_n 0, 1) := by decide +kernel
theorem dX10_alikePairs_15 : decode cX10_alikePairs 15 = .ok (.aload_n 1, 1) := by decide +kernel
theorem dX10_alikePairs_16 : decode cX10_alikePairs 16 = .ok (.iload 4, 2) := by decide +kernel
theorem dX10_alikePairs_18 : decode cX10_alikePairs 18 = .ok (.iload_n 2, 1) := by decide +kernel
theorem dX10_alikePairs_19 : decode cX10_alikePairs 19 = .ok (.invokevirtual 146, 3) := by decide +kernel
theorem dX10_alikePairs_22 : decode cX10_alikePairs 22 = .ok (.iconst 0, 1) := by decide +kernel
theorem dX10_alikePairs_23 : decode cX10_alikePairs 23 = .ok (.istore 5, 2) := by decide +kernel
theorem dX10_alikePairs_25 : decode cX10_alikePairs 25 = .ok (.iload 5, 2) := by decide +kernel
theorem dX10_alikePairs_27 : decode cX10_alikePairs 27 = .ok (.iload 4, 2) := by decide +kernel
theorem dX10_alikePairs_29 : decode cX10_alikePairs 29 = .ok (.if_icmp .ge 40, 3) := by decide +kernel
theorem dX10_alikePairs_32 : decode cX10_alikePairs 32 = .ok (.aload_n 1, 1) := by decide +kernel
theorem dX10_alikePairs_33 : decode cX10_alikePairs 33 = .ok (.getfield 150, 3) := by decide +kernel
theorem dX10_alikePairs_36 : decode cX10_alikePairs 36 = .ok (.iload 4, 2) := by decide +kernel
theorem dX10_alikePairs_38 : decode cX10_alikePairs 38 = .ok (.iaload, 1) := by decide +kernel
theorem dX10_alikePairs_39 : decode cX10_alikePairs 39 = .ok (.aload_n 1, 1) := by decide +kernel
theorem dX10_alikePairs_40 : decode cX10_alikePairs 40 = .ok (.getfield 150, 3) := by decide +kernel
theorem dX10_alikePairs_43 : decode cX10_alikePairs 43 = .ok (.iload 5, 2) := by decide +kernel
theorem dX10_alikePairs_45 : decode cX10_alikePairs 45 = .ok (.iaload, 1) := by decide +kernel
theorem dX10_alikePairs_46 : decode cX10_alikePairs 46 = .ok (.if_icmp .eq 17, 3) := by decide +kernel
theorem dX10_alikePairs_49 : decode cX10_alikePairs 49 = .ok (.aload_n 0, 1) := by decide +kernel
theorem dX10_alikePairs_50 : decode cX10_alikePairs 50 = .ok (.iload 4, 2) := by decide +kernel
theorem dX10_alikePairs_52 : decode cX10_alikePairs 52 = .ok (.iload 5, 2) := by decide +kernel
theorem dX10_alikePairs_54 : decode cX10_alikePairs 54 = .ok (.invokevirtual 153, 3) := by decide +kernel
theorem dX10_alikePairs_57 : decode cX10_alikePairs 57 = .ok (.ifCond .eq 6, 3) := by decide +kernel
theorem dX10_alikePairs_60 : decode cX10_alikePairs 60 = .ok (.iinc 3 1, 3) := by decide +kernel
theorem dX10_alikePairs_63 : decode cX10_alikePairs 63 = .ok (.iinc 5 1, 3) := by decide +kernel
theorem dX10_alikePairs_66 : decode cX10_alikePairs 66 = .ok (.goto (-41), 3) := by decide +kernel
theorem dX10_alikePairs_69 : decode cX10_alikePairs 69 = .ok (.iinc 4 1, 3) := by decide +kernel
theorem dX10_alikePairs_72 : decode cX10_alikePairs 72 = .ok (.goto (-67), 3) := by decide +kernel
theorem dX10_alikePairs_75 : decode cX10_alikePairs 75 = .ok (.iload_n 3, 1) := by decide +kernel
theorem dX10_alikePairs_76 : decode cX10_alikePairs 76 = .ok (.ireturn, 1) := by decide +kernel
theorem dX10_spellAside_0 : decode cX10_spellAside 0 = .ok (.aload_n 0, 1) := by decide +kernel
theorem dX10_spellAside_1 : decode cX10_spellAside 1 = .ok (.getfield 29, 3) := by decide +kernel
theorem dX10_spellAside_4 : decode cX10_spellAside 4 = .ok (.iconst 0, 1) := by decide +kernel
theorem dX10_spellAside_5 : decode cX10_spellAside 5 = .ok (.putfield 156, 3) := by decide +kernel
theorem dX10_spellAside_8 : decode cX10_spellAside 8 = .ok (.aload_n 1, 1) := by decide +kernel
theorem dX10_spellAside_9 : decode cX10_spellAside 9 = .ok (.aload_n 0, 1) := by decide +kernel
theorem dX10_spellAside_10 : decode cX10_spellAside 10 = .ok (.getfield 29, 3) := by decide +kernel
theorem dX10_spellAside_13 : decode cX10_spellAside 13 = .ok (.iload_n 2, 1) := by decide +kernel
theorem dX10_spellAside_14 : decode cX10_spellAside 14 = .ok (.iload_n 3, 1) := by decide +kernel
theorem dX10_spellAside_15 : decode cX10_spellAside 15 = .ok (.invokevirtual 157, 3) := by decide +kernel
theorem dX10_spellAside_18 : decode cX10_spellAside 18 = .ok (.aload_n 0, 1) := by decide +kernel
theorem dX10_spellAside_19 : decode cX10_spellAside 19 = .ok (.getfield 41, 3) := by decide +kernel
theorem dX10_spellAside_22 : decode cX10_spellAside 22 = .ok (.iload_n 2, 1) := by decide +kernel
theorem dX10_spellAside_23 : decode cX10_spellAside 23 = .ok (.aload_n 0, 1) := by decide +kernel
theorem dX10_spellAside_24 : decode cX10_spellAside 24 = .ok (.getfield 29, 3) := by decide +kernel
theorem dX10_spellAside_27 : decode cX10_spellAside 27 = .ok (.getfield 156, 3) := by decide +kernel
theorem dX10_spellAside_30 : decode cX10_spellAside 30 = .ok (.bipush 36, 2) := by decide +kernel
theorem dX10_spellAside_32 : decode cX10_spellAside 32 = .ok (.invokestatic 78, 3) := by decide +kernel
theorem dX10_spellAside_35 : decode cX10_spellAside 35 = .ok (.iastore, 1) := by decide +kernel
theorem dX10_spellAside_36 : decode cX10_spellAside 36 = .ok (.aload_n 0, 1) := by decide +kernel
theorem dX10_spellAside_37 : decode cX10_spellAside 37 = .ok (.getfield 29, 3) := by decide +kernel
theorem dX10_spellAside_40 : decode cX10_spellAside 40 = .ok (.getfield 161, 3) := by decide +kernel
theorem dX10_spellAside_43 : decode cX10_spellAside 43 = .ok (.iconst 0, 1) := by decide +kernel
theorem dX10_spellAside_44 : decode cX10_spellAside 44 = .ok (.aload_n 0, 1) := by decide +kernel
theorem dX10_spellAside_45 : decode cX10_spellAside 45 = .ok (.getfield 44, 3) := by decide +kernel
theorem dX10_spellAside_48 : decode cX10_spellAside 48 = .ok (.iload_n 2, 1) := by decide +kernel
theorem dX10_spellAside_49 : decode cX10_spellAside 49 = .ok (.bipush 36, 2) := by decide +kernel
theorem dX10_spellAside_51 : decode cX10_spellAside 51 = .ok (.imul, 1) := by decide +kernel
theorem dX10_spellAside_52 : decode cX10_spellAside 52 = .ok (.aload_n 0, 1) := by decide +kernel
theorem dX10_spellAside_53 : decode cX10_spellAside 53 = .ok (.getfield 41, 3) := by decide +kernel
theorem dX10_spellAside_56 : decode cX10_spellAside 56 = .ok (.iload_n 2, 1) := by decide +kernel
theorem dX10_spellAside_57 : decode cX10_spellAside 57 = .ok (.iaload, 1) := by decide +kernel
theorem dX10_spellAside_58 : decode cX10_spellAside 58 = .ok (.invokestatic 164, 3) := by decide +kernel
theorem dX10_spellAside_61 : decode cX10_spellAside 61 = .ok (.return_, 1) := by decide +kernel
theorem dX10_areSpelledAlike_0 : decode cX10_areSpelledAlike 0 = .ok (.aload_n 0, 1) := by decide +kernel
theorem dX10_areSpelledAlike_1 : decode cX10_areSpelledAlike 1 = .ok (.getfield 41, 3) := by decide +kernel
theorem dX10_areSpelledAlike_4 : decode cX10_areSpelledAlike 4 = .ok (.iload_n 1, 1) := by decide +kernel
theorem dX10_areSpelledAlike_5 : decode cX10_areSpelledAlike 5 = .ok (.iaload, 1) := by decide +kernel
theorem dX10_areSpelledAlike_6 : decode cX10_areSpelledAlike 6 = .ok (.istore_n 3, 1) := by decide +kernel
theorem dX10_areSpelledAlike_7 : decode cX10_areSpelledAlike 7 = .ok (.iload_n 3, 1) := by decide +kernel
theorem dX10_areSpelledAlike_8 : decode cX10_areSpelledAlike 8 = .ok (.aload_n 0, 1) := by decide +kernel
theorem dX10_areSpelledAlike_9 : decode cX10_areSpelledAlike 9 = .ok (.getfield 41, 3) := by decide +kernel
theorem dX10_areSpelledAlike_12 : decode cX10_areSpelledAlike 12 = .ok (.iload_n 2, 1) := by decide +kernel
theorem dX10_areSpelledAlike_13 : decode cX10_areSpelledAlike 13 = .ok (.iaload, 1) := by decide +kernel
theorem dX10_areSpelledAlike_14 : decode cX10_areSpelledAlike 14 = .ok (.if_icmp .eq 5, 3) := by decide +kernel
theorem dX10_areSpelledAlike_17 : decode cX10_areSpelledAlike 17 = .ok (.iconst 0, 1) := by decide +kernel
theorem dX10_areSpelledAlike_18 : decode cX10_areSpelledAlike 18 = .ok (.ireturn, 1) := by decide +kernel
theorem dX10_areSpelledAlike_19 : decode cX10_areSpelledAlike 19 = .ok (.iconst 0, 1) := by decide +kernel
theorem dX10_areSpelledAlike_20 : decode cX10_areSpelledAlike 20 = .ok (.istore 4, 2) := by decide +kernel
theorem dX10_areSpelledAlike_22 : decode cX10_areSpelledAlike 22 = .ok (.iload 4, 2) := by decide +kernel
theorem dX10_areSpelledAlike_24 : decode cX10_areSpelledAlike 24 = .ok (.iload_n 3, 1) := by decide +kernel
theorem dX10_areSpelledAlike_25 : decode cX10_areSpelledAlike 25 = .ok (.if_icmp .ge 38, 3) := by decide +kernel
theorem dX10_areSpelledAlike_28 : decode cX10_areSpelledAlike 28 = .ok (.aload_n 0, 1) := by decide +kernel
theorem dX10_areSpelledAlike_29 : decode cX10_areSpelledAlike 29 = .ok (.getfield 44, 3) := by decide +kernel
theorem dX10_areSpelledAlike_32 : decode cX10_areSpelledAlike 32 = .ok (.iload_n 1, 1) := by decide +kernel
theorem dX10_areSpelledAlike_33 : decode cX10_areSpelledAlike 33 = .ok (.bipush 36, 2) := by decide +kernel
theorem dX10_areSpelledAlike_35 : decode cX10_areSpelledAlike 35 = .ok (.imul, 1) := by decide +kernel
theorem dX10_areSpelledAlike_36 : decode cX10_areSpelledAlike 36 = .ok (.iload 4, 2) := by decide +kernel
theorem dX10_areSpelledAlike_38 : decode cX10_areSpelledAlike 38 = .ok (.iadd, 1) := by decide +kernel
theorem dX10_areSpelledAlike_39 : decode cX10_areSpelledAlike 39 = .ok (.baload, 1) := by decide +kernel
theorem dX10_areSpelledAlike_40 : decode cX10_areSpelledAlike 40 = .ok (.aload_n 0, 1) := by decide +kernel
theorem dX10_areSpelledAlike_41 : decode cX10_areSpelledAlike 41 = .ok (.getfield 44, 3) := by decide +kernel
theorem dX10_areSpelledAlike_44 : decode cX10_areSpelledAlike 44 = .ok (.iload_n 2, 1) := by decide +kernel
theorem dX10_areSpelledAlike_45 : decode cX10_areSpelledAlike 45 = .ok (.bipush 36, 2) := by decide +kernel
theorem dX10_areSpelledAlike_47 : decode cX10_areSpelledAlike 47 = .ok (.imul, 1) := by decide +kernel
theorem dX10_areSpelledAlike_48 : decode cX10_areSpelledAlike 48 = .ok (.iload 4, 2) := by decide +kernel
theorem dX10_areSpelledAlike_50 : decode cX10_areSpelledAlike 50 = .ok (.iadd, 1) := by decide +kernel
theorem dX10_areSpelledAlike_51 : decode cX10_areSpelledAlike 51 = .ok (.baload, 1) := by decide +kernel
theorem dX10_areSpelledAlike_52 : decode cX10_areSpelledAlike 52 = .ok (.if_icmp .eq 5, 3) := by decide +kernel
theorem dX10_areSpelledAlike_55 : decode cX10_areSpelledAlike 55 = .ok (.iconst 0, 1) := by decide +kernel
theorem dX10_areSpelledAlike_56 : decode cX10_areSpelledAlike 56 = .ok (.ireturn, 1) := by decide +kernel
theorem dX10_areSpelledAlike_57 : decode cX10_areSpelledAlike 57 = .ok (.iinc 4 1, 3) := by decide +kernel
theorem dX10_areSpelledAlike_60 : decode cX10_areSpelledAlike 60 = .ok (.goto (-38), 3) := by decide +kernel
theorem dX10_areSpelledAlike_63 : decode cX10_areSpelledAlike 63 = .ok (.iconst 1, 1) := by decide +kernel
theorem dX10_areSpelledAlike_64 : decode cX10_areSpelledAlike 64 = .ok (.ireturn, 1) := by decide +kernel
theorem dX10_editsOfNames_0 : decode cX10_editsOfNames 0 = .ok (.aload_n 0, 1) := by decide +kernel
theorem dX10_editsOfNames_1 : decode cX10_editsOfNames 1 = .ok (.getfield 29, 3) := by decide +kernel
theorem dX10_editsOfNames_4 : decode cX10_editsOfNames 4 = .ok (.iconst 0, 1) := by decide +kernel
theorem dX10_editsOfNames_5 : decode cX10_editsOfNames 5 = .ok (.putfield 156, 3) := by decide +kernel
theorem dX10_editsOfNames_8 : decode cX10_editsOfNames 8 = .ok (.aload_n 0, 1) := by decide +kernel
theorem dX10_editsOfNames_9 : decode cX10_editsOfNames 9 = .ok (.getfield 33, 3) := by decide +kernel
theorem dX10_editsOfNames_12 : decode cX10_editsOfNames 12 = .ok (.iconst 0, 1) := by decide +kernel
theorem dX10_editsOfNames_13 : decode cX10_editsOfNames 13 = .ok (.putfield 156, 3) := by decide +kernel
theorem dX10_editsOfNames_16 : decode cX10_editsOfNames 16 = .ok (.aload_n 1, 1) := by decide +kernel
theorem dX10_editsOfNames_17 : decode cX10_editsOfNames 17 = .ok (.aload_n 0, 1) := by decide +kernel
theorem dX10_editsOfNames_18 : decode cX10_editsOfNames 18 = .ok (.getfield 29, 3) := by decide +kernel
theorem dX10_editsOfNames_21 : decode cX10_editsOfNames 21 = .ok (.iload_n 2, 1) := by decide +kernel
theorem dX10_editsOfNames_22 : decode cX10_editsOfNames 22 = .ok (.iload 4, 2) := by decide +kernel
theorem dX10_editsOfNames_24 : decode cX10_editsOfNames 24 = .ok (.invokevirtual 157, 3) := by decide +kernel
theorem dX10_editsOfNames_27 : decode cX10_editsOfNames 27 = .ok (.aload_n 1, 1) := by decide +kernel
theorem dX10_editsOfNames_28 : decode cX10_editsOfNames 28 = .ok (.aload_n 0, 1) := by decide +kernel
theorem dX10_editsOfNames_29 : decode cX10_editsOfNames 29 = .ok (.getfield 33, 3) := by decide +kernel
theorem dX10_editsOfNames_32 : decode cX10_editsOfNames 32 = .ok (.iload_n 3, 1) := by decide +kernel
theorem dX10_editsOfNames_33 : decode cX10_editsOfNames 33 = .ok (.iload 4, 2) := by decide +kernel
theorem dX10_editsOfNames_35 : decode cX10_editsOfNames 35 = .ok (.invokevirtual 157, 3) := by decide +kernel
theorem dX10_editsOfNames_38 : decode cX10_editsOfNames 38 = .ok (.aload_n 0, 1) := by decide +kernel
theorem dX10_editsOfNames_39 : decode cX10_editsOfNames 39 = .ok (.aload_n 0, 1) := by decide +kernel
theorem dX10_editsOfNames_40 : decode cX10_editsOfNames 40 = .ok (.getfield 29, 3) := by decide +kernel
theorem dX10_editsOfNames_43 : decode cX10_editsOfNames 43 = .ok (.aload_n 0, 1) := by decide +kernel
theorem dX10_editsOfNames_44 : decode cX10_editsOfNames 44 = .ok (.getfield 33, 3) := by decide +kernel
theorem dX10_editsOfNames_47 : decode cX10_editsOfNames 47 = .ok (.invokevirtual 170, 3) := by decide +kernel
theorem dX10_editsOfNames_50 : decode cX10_editsOfNames 50 = .ok (.ireturn, 1) := by decide +kernel
theorem dX10_editsOfRows_0 : decode cX10_editsOfRows 0 = .ok (.iconst 0, 1) := by decide +kernel
theorem dX10_editsOfRows_1 : decode cX10_editsOfRows 1 = .ok (.istore_n 3, 1) := by decide +kernel
theorem dX10_editsOfRows_2 : decode cX10_editsOfRows 2 = .ok (.iload_n 3, 1) := by decide +kernel
theorem dX10_editsOfRows_3 : decode cX10_editsOfRows 3 = .ok (.aload_n 2, 1) := by decide +kernel
theorem dX10_editsOfRows_4 : decode cX10_editsOfRows 4 = .ok (.getfield 156, 3) := by decide +kernel
theorem dX10_editsOfRows_7 : decode cX10_editsOfRows 7 = .ok (.if_icmp .gt 16, 3) := by decide +kernel
theorem dX10_editsOfRows_10 : decode cX10_editsOfRows 10 = .ok (.aload_n 0, 1) := by decide +kernel
theorem dX10_editsOfRows_11 : decode cX10_editsOfRows 11 = .ok (.getfield 36, 3) := by decide +kernel
theorem dX10_editsOfRows_14 : decode cX10_editsOfRows 14 = .ok (.iload_n 3, 1) := by decide +kernel
theorem dX10_editsOfRows_15 : decode cX10_editsOfRows 15 = .ok (.iload_n 3, 1) := by decide +kernel
theorem dX10_editsOfRows_16 : decode cX10_editsOfRows 16 = .ok (.iastore, 1) := by decide +kernel
theorem dX10_editsOfRows_17 : decode cX10_editsOfRows 17 = .ok (.iinc 3 1, 3) := by decide +kernel
theorem dX10_editsOfRows_20 : decode cX10_editsOfRows 20 = .ok (.goto (-18), 3) := by decide +kernel
theorem dX10_editsOfRows_23 : decode cX10_editsOfRows 23 = .ok (.iconst 0, 1) := by decide +kernel
theorem dX10_editsOfRows_24 : decode cX10_editsOfRows 24 = .ok (.istore_n 3, 1) := by decide +kernel
theorem dX10_editsOfRows_25 : decode cX10_editsOfRows 25 = .ok (.iload_n 3, 1) := by decide +kernel
theorem dX10_editsOfRows_26 : decode cX10_editsOfRows 26 = .ok (.aload_n 1, 1) := by decide +kernel
theorem dX10_editsOfRows_27 : decode cX10_editsOfRows 27 = .ok (.getfield 156, 3) := by decide +kernel
theorem dX10_editsOfRows_30 : decode cX10_editsOfRows 30 = .ok (.if_icmp .ge 110, 3) := by decide +kernel
theorem dX10_editsOfRows_33 : decode cX10_editsOfRows 33 = .ok (.aload_n 0, 1) := by decide +kernel
theorem dX10_editsOfRows_34 : decode cX10_editsOfRows 34 = .ok (.getfield 36, 3) := by decide +kernel
theorem dX10_editsOfRows_37 : decode cX10_editsOfRows 37 = .ok (.iconst 0, 1) := by decide +kernel
theorem dX10_editsOfRows_38 : decode cX10_editsOfRows 38 = .ok (.iaload, 1) := by decide +kernel
theorem dX10_editsOfRows_39 : decode cX10_editsOfRows 39 = .ok (.istore 4, 2) := by decide +kernel
theorem dX10_editsOfRows_41 : decode cX10_editsOfRows 41 = .ok (.aload_n 0, 1) := by decide +kernel
theorem dX10_editsOfRows_42 : decode cX10_editsOfRows 42 = .ok (.getfield 36, 3) := by decide +kernel
theorem dX10_editsOfRows_45 : decode cX10_editsOfRows 45 = .ok (.iconst 0, 1) := by decide +kernel
theorem dX10_editsOfRows_46 : decode cX10_editsOfRows 46 = .ok (.iload_n 3, 1) := by decide +kernel
theorem dX10_editsOfRows_47 : decode cX10_editsOfRows 47 = .ok (.iconst 1, 1) := by decide +kernel
theorem dX10_editsOfRows_48 : decode cX10_editsOfRows 48 = .ok (.iadd, 1) := by decide +kernel
theorem dX10_editsOfRows_49 : decode cX10_editsOfRows 49 = .ok (.iastore, 1) := by decide +kernel
theorem dX10_editsOfRows_50 : decode cX10_editsOfRows 50 = .ok (.iconst 0, 1) := by decide +kernel
theorem dX10_editsOfRows_51 : decode cX10_editsOfRows 51 = .ok (.istore 5, 2) := by decide +kernel
theorem dX10_editsOfRows_53 : decode cX10_editsOfRows 53 = .ok (.iload 5, 2) := by decide +kernel
theorem dX10_editsOfRows_55 : decode cX10_editsOfRows 55 = .ok (.aload_n 2, 1) := by decide +kernel
theorem dX10_editsOfRows_56 : decode cX10_editsOfRows 56 = .ok (.getfield 156, 3) := by decide +kernel
theorem dX10_editsOfRows_59 : decode cX10_editsOfRows 59 = .ok (.if_icmp .ge 75, 3) := by decide +kernel
theorem dX10_editsOfRows_62 : decode cX10_editsOfRows 62 = .ok (.aload_n 1, 1) := by decide +kernel
theorem dX10_editsOfRows_63 : decode cX10_editsOfRows 63 = .ok (.getfield 161, 3) := by decide +kernel
theorem dX10_editsOfRows_66 : decode cX10_editsOfRows 66 = .ok (.iload_n 3, 1) := by decide +kernel
theorem dX10_editsOfRows_67 : decode cX10_editsOfRows 67 = .ok (.baload, 1) := by decide +kernel
theorem dX10_editsOfRows_68 : decode cX10_editsOfRows 68 = .ok (.aload_n 2, 1) := by decide +kernel
theorem dX10_editsOfRows_69 : decode cX10_editsOfRows 69 = .ok (.getfield 161, 3) := by decide +kernel
theorem dX10_editsOfRows_72 : decode cX10_editsOfRows 72 = .ok (.iload 5, 2) := by decide +kernel
theorem dX10_editsOfRows_74 : decode cX10_editsOfRows 74 = .ok (.baload, 1) := by decide +kernel
theorem dX10_editsOfRows_75 : decode cX10_editsOfRows 75 = .ok (.if_icmp .ne 8, 3) := by decide +kernel
theorem dX10_editsOfRows_78 : decode cX10_editsOfRows 78 = .ok (.iload 4, 2) := by decide +kernel
theorem dX10_editsOfRows_80 : decode cX10_editsOfRows 80 = .ok (.goto 7, 3) := by decide +kernel
theorem dX10_editsOfRows_83 : decode cX10_editsOfRows 83 = .ok (.iload 4, 2) := by decide +kernel
theorem dX10_editsOfRows_85 : decode cX10_editsOfRows 85 = .ok (.iconst 1, 1) := by decide +kernel
theorem dX10_editsOfRows_86 : decode cX10_editsOfRows 86 = .ok (.iadd, 1) := by decide +kernel
theorem dX10_editsOfRows_87 : decode cX10_editsOfRows 87 = .ok (.istore 6, 2) := by decide +kernel
theorem dX10_editsOfRows_89 : decode cX10_editsOfRows 89 = .ok (.aload_n 0, 1) := by decide +kernel
theorem dX10_editsOfRows_90 : decode cX10_editsOfRows 90 = .ok (.getfield 36, 3) := by decide +kernel
theorem dX10_editsOfRows_93 : decode cX10_editsOfRows 93 = .ok (.iload 5, 2) := by decide +kernel
theorem dX10_editsOfRows_95 : decode cX10_editsOfRows 95 = .ok (.iconst 1, 1) := by decide +kernel
theorem dX10_editsOfRows_96 : decode cX10_editsOfRows 96 = .ok (.iadd, 1) := by decide +kernel
theorem dX10_editsOfRows_97 : decode cX10_editsOfRows 97 = .ok (.iaload, 1) := by decide +kernel
theorem dX10_editsOfRows_98 : decode cX10_editsOfRows 98 = .ok (.istore 4, 2) := by decide +kernel
theorem dX10_editsOfRows_100 : decode cX10_editsOfRows 100 = .ok (.aload_n 0, 1) := by decide +kernel
theorem dX10_editsOfRows_101 : decode cX10_editsOfRows 101 = .ok (.getfield 36, 3) := by decide +kernel
theorem dX10_editsOfRows_104 : decode cX10_editsOfRows 104 = .ok (.iload 5, 2) := by decide +kernel
theorem dX10_editsOfRows_106 : decode cX10_editsOfRows 106 = .ok (.iconst 1, 1) := by decide +kernel
theorem dX10_editsOfRows_107 : decode cX10_editsOfRows 107 = .ok (.iadd, 1) := by decide +kernel
theorem dX10_editsOfRows_108 : decode cX10_editsOfRows 108 = .ok (.iload 6, 2) := by decide +kernel
theorem dX10_editsOfRows_110 : decode cX10_editsOfRows 110 = .ok (.iload 4, 2) := by decide +kernel
theorem dX10_editsOfRows_112 : decode cX10_editsOfRows 112 = .ok (.aload_n 0, 1) := by decide +kernel
theorem dX10_editsOfRows_113 : decode cX10_editsOfRows 113 = .ok (.getfield 36, 3) := by decide +kernel
theorem dX10_editsOfRows_116 : decode cX10_editsOfRows 116 = .ok (.iload 5, 2) := by decide +kernel
theorem dX10_editsOfRows_118 : decode cX10_editsOfRows 118 = .ok (.iaload, 1) := by decide +kernel
theorem dX10_editsOfRows_119 : decode cX10_editsOfRows 119 = .ok (.invokestatic 78, 3) := by decide +kernel
theorem dX10_editsOfRows_122 : decode cX10_editsOfRows 122 = .ok (.iconst 1, 1) := by decide +kernel
theorem dX10_editsOfRows_123 : decode cX10_editsOfRows 123 = .ok (.iadd, 1) := by decide +kernel
theorem dX10_editsOfRows_124 : decode cX10_editsOfRows 124 = .ok (.invokestatic 78, 3) := by decide +kernel
theorem dX10_editsOfRows_127 : decode cX10_editsOfRows 127 = .ok (.iastore, 1) := by decide +kernel
theorem dX10_editsOfRows_128 : decode cX10_editsOfRows 128 = .ok (.iinc 5 1, 3) := by decide +kernel
theorem dX10_editsOfRows_131 : decode cX10_editsOfRows 131 = .ok (.goto (-78), 3) := by decide +kernel
theorem dX10_editsOfRows_134 : decode cX10_editsOfRows 134 = .ok (.iinc 3 1, 3) := by decide +kernel
theorem dX10_editsOfRows_137 : decode cX10_editsOfRows 137 = .ok (.goto (-112), 3) := by decide +kernel
theorem dX10_editsOfRows_140 : decode cX10_editsOfRows 140 = .ok (.aload_n 0, 1) := by decide +kernel
theorem dX10_editsOfRows_141 : decode cX10_editsOfRows 141 = .ok (.getfield 36, 3) := by decide +kernel
theorem dX10_editsOfRows_144 : decode cX10_editsOfRows 144 = .ok (.aload_n 2, 1) := by decide +kernel
theorem dX10_editsOfRows_145 : decode cX10_editsOfRows 145 = .ok (.getfield 156, 3) := by decide +kernel
theorem dX10_editsOfRows_148 : decode cX10_editsOfRows 148 = .ok (.iaload, 1) := by decide +kernel
theorem dX10_editsOfRows_149 : decode cX10_editsOfRows 149 = .ok (.ireturn, 1) := by decide +kernel
theorem dX10_whyRefused_0 : decode cX10_whyRefused 0 = .ok (.aload_n 1, 1) := by decide +kernel
theorem dX10_whyRefused_1 : decode cX10_whyRefused 1 = .ok (.getfield 97, 3) := by decide +kernel
theorem dX10_whyRefused_4 : decode cX10_whyRefused 4 = .ok (.aload_n 1, 1) := by decide +kernel
theorem dX10_whyRefused_5 : decode cX10_whyRefused 5 = .ok (.getfield 125, 3) := by decide +kernel
theorem dX10_whyRefused_8 : decode cX10_whyRefused 8 = .ok (.invokevirtual 101, 3) := by decide +kernel
theorem dX10_whyRefused_11 : decode cX10_whyRefused 11 = .ok (.istore 4, 2) := by decide +kernel
theorem dX10_whyRefused_13 : decode cX10_whyRefused 13 = .ok (.aload_n 1, 1) := by decide +kernel
theorem dX10_whyRefused_14 : decode cX10_whyRefused 14 = .ok (.getfield 174, 3) := by decide +kernel
theorem dX10_whyRefused_17 : decode cX10_whyRefused 17 = .ok (.iload_n 2, 1) := by decide +kernel
theorem dX10_whyRefused_18 : decode cX10_whyRefused 18 = .ok (.aload_n 1, 1) := by decide +kernel
theorem dX10_whyRefused_19 : decode cX10_whyRefused 19 = .ok (.getfield 97, 3) := by decide +kernel
theorem dX10_whyRefused_22 : decode cX10_whyRefused 22 = .ok (.iload 4, 2) := by decide +kernel
theorem dX10_whyRefused_24 : decode cX10_whyRefused 24 = .ok (.iconst 5, 1) := by decide +kernel
theorem dX10_whyRefused_25 : decode cX10_whyRefused 25 = .ok (.bipush 50, 2) := by decide +kernel
theorem dX10_whyRefused_27 : decode cX10_whyRefused 27 = .ok (.invokevirtual 178, 3) := by decide +kernel
theorem dX10_whyRefused_30 : decode cX10_whyRefused 30 = .ok (.invokevirtual 182, 3) := by decide +kernel
theorem dX10_whyRefused_33 : decode cX10_whyRefused 33 = .ok (.ifCond .eq 5, 3) := by decide +kernel
theorem dX10_whyRefused_36 : decode cX10_whyRefused 36 = .ok (.iconst 1, 1) := by decide +kernel
theorem dX10_whyRefused_37 : decode cX10_whyRefused 37 = .ok (.ireturn, 1) := by decide +kernel
theorem dX10_whyRefused_38 : decode cX10_whyRefused 38 = .ok (.aload_n 1, 1) := by decide +kernel
theorem dX10_whyRefused_39 : decode cX10_whyRefused 39 = .ok (.getfield 187, 3) := by decide +kernel
theorem dX10_whyRefused_42 : decode cX10_whyRefused 42 = .ok (.getfield 191, 3) := by decide +kernel
theorem dX10_whyRefused_45 : decode cX10_whyRefused 45 = .ok (.iload_n 3, 1) := by decide +kernel
theorem dX10_whyRefused_46 : decode cX10_whyRefused 46 = .ok (.iaload, 1) := by decide +kernel
theorem dX10_whyRefused_47 : decode cX10_whyRefused 47 = .ok (.istore 5, 2) := by decide +kernel
theorem dX10_whyRefused_49 : decode cX10_whyRefused 49 = .ok (.aload_n 1, 1) := by decide +kernel
theorem dX10_whyRefused_50 : decode cX10_whyRefused 50 = .ok (.getfield 97, 3) := by decide +kernel
theorem dX10_whyRefused_53 : decode cX10_whyRefused 53 = .ok (.iload 4, 2) := by decide +kernel
theorem dX10_whyRefused_55 : decode cX10_whyRefused 55 = .ok (.iconst 3, 1) := by decide +kernel
theorem dX10_whyRefused_56 : decode cX10_whyRefused 56 = .ok (.iconst 0, 1) := by decide +kernel
theorem dX10_whyRefused_57 : decode cX10_whyRefused 57 = .ok (.invokevirtual 178, 3) := by decide +kernel
theorem dX10_whyRefused_60 : decode cX10_whyRefused 60 = .ok (.istore 6, 2) := by decide +kernel
theorem dX10_whyRefused_62 : decode cX10_whyRefused 62 = .ok (.iload 5, 2) := by decide +kernel
theorem dX10_whyRefused_64 : decode cX10_whyRefused 64 = .ok (.bipush (-9), 2) := by decide +kernel
theorem dX10_whyRefused_66 : decode cX10_whyRefused 66 = .ok (.if_icmp .eq 21, 3) := by decide +kernel
theorem dX10_whyRefused_69 : decode cX10_whyRefused 69 = .ok (.iload 5, 2) := by decide +kernel
theorem dX10_whyRefused_71 : decode cX10_whyRefused 71 = .ok (.iconst (-1), 1) := by decide +kernel
theorem dX10_whyRefused_72 : decode cX10_whyRefused 72 = .ok (.if_icmp .eq 17, 3) := by decide +kernel
theorem dX10_whyRefused_75 : decode cX10_whyRefused 75 = .ok (.aload_n 1, 1) := by decide +kernel
theorem dX10_whyRefused_76 : decode cX10_whyRefused 76 = .ok (.getfield 125, 3) := by decide +kernel
theorem dX10_whyRefused_79 : decode cX10_whyRefused 79 = .ok (.iload 5, 2) := by decide +kernel
theorem dX10_whyRefused_81 : decode cX10_whyRefused 81 = .ok (.isub, 1) := by decide +kernel
theorem dX10_whyRefused_82 : decode cX10_whyRefused 82 = .ok (.iload 6, 2) := by decide +kernel
theorem dX10_whyRefused_84 : decode cX10_whyRefused 84 = .ok (.if_icmp .ge 5, 3) := by decide +kernel
theorem dX10_whyRefused_87 : decode cX10_whyRefused 87 = .ok (.iconst 2, 1) := by decide +kernel
theorem dX10_whyRefused_88 : decode cX10_whyRefused 88 = .ok (.ireturn, 1) := by decide +kernel
theorem dX10_whyRefused_89 : decode cX10_whyRefused 89 = .ok (.aload_n 1, 1) := by decide +kernel
theorem dX10_whyRefused_90 : decode cX10_whyRefused 90 = .ok (.getfield 97, 3) := by decide +kernel
theorem dX10_whyRefused_93 : decode cX10_whyRefused 93 = .ok (.iload 4, 2) := by decide +kernel
theorem dX10_whyRefused_95 : decode cX10_whyRefused 95 = .ok (.iconst 2, 1) := by decide +kernel
theorem dX10_whyRefused_96 : decode cX10_whyRefused 96 = .ok (.invokevirtual 194, 3) := by decide +kernel
theorem dX10_whyRefused_99 : decode cX10_whyRefused 99 = .ok (.istore 7, 2) := by decide +kernel
theorem dX10_whyRefused_101 : decode cX10_whyRefused 101 = .ok (.iload 7, 2) := by decide +kernel
theorem dX10_whyRefused_103 : decode cX10_whyRefused 103 = .ok (.iconst (-1), 1) := by decide +kernel
theorem dX10_whyRefused_104 : decode cX10_whyRefused 104 = .ok (.if_icmp .eq 36, 3) := by decide +kernel
theorem dX10_whyRefused_107 : decode cX10_whyRefused 107 = .ok (.aload_n 0, 1) := by decide +kernel
theorem dX10_whyRefused_108 : decode cX10_whyRefused 108 = .ok (.aload_n 1, 1) := by decide +kernel
theorem dX10_whyRefused_109 : decode cX10_whyRefused 109 = .ok (.iload_n 3, 1) := by decide +kernel
theorem dX10_whyRefused_110 : decode cX10_whyRefused 110 = .ok (.aload_n 1, 1) := by decide +kernel
theorem dX10_whyRefused_111 : decode cX10_whyRefused 111 = .ok (.getfield 97, 3) := by decide +kernel
theorem dX10_whyRefused_114 : decode cX10_whyRefused 114 = .ok (.getfield 122, 3) := by decide +kernel
theorem dX10_whyRefused_117 : decode cX10_whyRefused 117 = .ok (.iload 7, 2) := by decide +kernel
theorem dX10_whyRefused_119 : decode cX10_whyRefused 119 = .ok (.iaload, 1) := by decide +kernel
theorem dX10_whyRefused_120 : decode cX10_whyRefused 120 = .ok (.aload_n 1, 1) := by decide +kernel
theorem dX10_whyRefused_121 : decode cX10_whyRefused 121 = .ok (.getfield 97, 3) := by decide +kernel
theorem dX10_whyRefused_124 : decode cX10_whyRefused 124 = .ok (.getfield 197, 3) := by decide +kernel
theorem dX10_whyRefused_127 : decode cX10_whyRefused 127 = .ok (.iload 7, 2) := by decide +kernel
theorem dX10_whyRefused_129 : decode cX10_whyRefused 129 = .ok (.iaload, 1) := by decide +kernel
theorem dX10_whyRefused_130 : decode cX10_whyRefused 130 = .ok (.invokevirtual 200, 3) := by decide +kernel
theorem dX10_whyRefused_133 : decode cX10_whyRefused 133 = .ok (.ifCond .eq 7, 3) := by decide +kernel
theorem dX10_whyRefused_136 : decode cX10_whyRefused 136 = .ok (.iconst 3, 1) := by decide +kernel
theorem dX10_whyRefused_137 : decode cX10_whyRefused 137 = .ok (.goto 4, 3) := by decide +kernel
theorem dX10_whyRefused_140 : decode cX10_whyRefused 140 = .ok (.iconst 0, 1) := by decide +kernel
theorem dX10_whyRefused_141 : decode cX10_whyRefused 141 = .ok (.ireturn, 1) := by decide +kernel
theorem dX10_isAlike_0 : decode cX10_isAlike 0 = .ok (.aload_n 1, 1) := by decide +kernel
theorem dX10_isAlike_1 : decode cX10_isAlike 1 = .ok (.getfield 187, 3) := by decide +kernel
theorem dX10_isAlike_4 : decode cX10_isAlike 4 = .ok (.getfield 150, 3) := by decide +kernel
theorem dX10_isAlike_7 : decode cX10_isAlike 7 = .ok (.iload_n 2, 1) := by decide +kernel
theorem dX10_isAlike_8 : decode cX10_isAlike 8 = .ok (.iaload, 1) := by decide +kernel
theorem dX10_isAlike_9 : decode cX10_isAlike 9 = .ok (.istore 5, 2) := by decide +kernel
theorem dX10_isAlike_11 : decode cX10_isAlike 11 = .ok (.iconst 0, 1) := by decide +kernel
theorem dX10_isAlike_12 : decode cX10_isAlike 12 = .ok (.istore 6, 2) := by decide +kernel
theorem dX10_isAlike_14 : decode cX10_isAlike 14 = .ok (.iload 6, 2) := by decide +kernel
theorem dX10_isAlike_16 : decode cX10_isAlike 16 = .ok (.aload_n 1, 1) := by decide +kernel
theorem dX10_isAlike_17 : decode cX10_isAlike 17 = .ok (.getfield 84, 3) := by decide +kernel
theorem dX10_isAlike_20 : decode cX10_isAlike 20 = .ok (.getfield 66, 3) := by decide +kernel
theorem dX10_isAlike_23 : decode cX10_isAlike 23 = .ok (.if_icmp .ge 103, 3) := by decide +kernel
theorem dX10_isAlike_26 : decode cX10_isAlike 26 = .ok (.iload 6, 2) := by decide +kernel
theorem dX10_isAlike_28 : decode cX10_isAlike 28 = .ok (.iload 5, 2) := by decide +kernel
theorem dX10_isAlike_30 : decode cX10_isAlike 30 = .ok (.if_icmp .eq 22, 3) := by decide +kernel
theorem dX10_isAlike_33 : decode cX10_isAlike 33 = .ok (.aload_n 1, 1) := by decide +kernel
theorem dX10_isAlike_34 : decode cX10_isAlike 34 = .ok (.getfield 84, 3) := by decide +kernel
theorem dX10_isAlike_37 : decode cX10_isAlike 37 = .ok (.iload 6, 2) := by decide +kernel
theorem dX10_isAlike_39 : decode cX10_isAlike 39 = .ok (.iload 5, 2) := by decide +kernel
theorem dX10_isAlike_41 : decode cX10_isAlike 41 = .ok (.iload_n 3, 1) := by decide +kernel
theorem dX10_isAlike_42 : decode cX10_isAlike 42 = .ok (.invokevirtual 204, 3) := by decide +kernel
theorem dX10_isAlike_45 : decode cX10_isAlike 45 = .ok (.ifCond .eq 7, 3) := by decide +kernel
theorem dX10_isAlike_48 : decode cX10_isAlike 48 = .ok (.iconst 1, 1) := by decide +kernel
theorem dX10_isAlike_49 : decode cX10_isAlike 49 = .ok (.goto 4, 3) := by decide +kernel
theorem dX10_isAlike_52 : decode cX10_isAlike 52 = .ok (.iconst 0, 1) := by decide +kernel
theorem dX10_isAlike_53 : decode cX10_isAlike 53 = .ok (.istore 7, 2) := by decide +kernel
theorem dX10_isAlike_55 : decode cX10_isAlike 55 = .ok (.iconst 0, 1) := by decide +kernel
theorem dX10_isAlike_56 : decode cX10_isAlike 56 = .ok (.istore 8, 2) := by decide +kernel
theorem dX10_isAlike_58 : decode cX10_isAlike 58 = .ok (.iload 7, 2) := by decide +kernel
theorem dX10_isAlike_60 : decode cX10_isAlike 60 = .ok (.ifCond .eq 60, 3) := by decide +kernel
theorem dX10_isAlike_63 : decode cX10_isAlike 63 = .ok (.iload 8, 2) := by decide +kernel
theorem dX10_isAlike_65 : decode cX10_isAlike 65 = .ok (.iconst 3, 1) := by decide +kernel
theorem dX10_isAlike_66 : decode cX10_isAlike 66 = .ok (.if_icmp .ge 54, 3) := by decide +kernel
theorem dX10_isAlike_69 : decode cX10_isAlike 69 = .ok (.aload_n 1, 1) := by decide +kernel
theorem dX10_isAlike_70 : decode cX10_isAlike 70 = .ok (.getfield 174, 3) := by decide +kernel
theorem dX10_isAlike_73 : decode cX10_isAlike 73 = .ok (.iload 6, 2) := by decide +kernel
theorem dX10_isAlike_75 : decode cX10_isAlike 75 = .ok (.iload 8, 2) := by decide +kernel
theorem dX10_isAlike_77 : decode cX10_isAlike 77 = .ok (.aload_n 1, 1) := by decide +kernel
theorem dX10_isAlike_78 : decode cX10_isAlike 78 = .ok (.getfield 125, 3) := by decide +kernel
theorem dX10_isAlike_81 : decode cX10_isAlike 81 = .ok (.invokevirtual 208, 3) := by decide +kernel
theorem dX10_isAlike_84 : decode cX10_isAlike 84 = .ok (.istore 9, 2) := by decide +kernel
theorem dX10_isAlike_86 : decode cX10_isAlike 86 = .ok (.iload 9, 2) := by decide +kernel
theorem dX10_isAlike_88 : decode cX10_isAlike 88 = .ok (.iconst (-1), 1) := by decide +kernel
theorem dX10_isAlike_89 : decode cX10_isAlike 89 = .ok (.if_icmp .eq 25, 3) := by decide +kernel
theorem dX10_isAlike_92 : decode cX10_isAlike 92 = .ok (.aload_n 0, 1) := by decide +kernel
theorem dX10_isAlike_93 : decode cX10_isAlike 93 = .ok (.aload_n 1, 1) := by decide +kernel
theorem dX10_isAlike_94 : decode cX10_isAlike 94 = .ok (.getfield 187, 3) := by decide +kernel
theorem dX10_isAlike_97 : decode cX10_isAlike 97 = .ok (.iload_n 2, 1) := by decide +kernel
theorem dX10_isAlike_98 : decode cX10_isAlike 98 = .ok (.iload 9, 2) := by decide +kernel
theorem dX10_isAlike_100 : decode cX10_isAlike 100 = .ok (.aload_n 1, 1) := by decide +kernel
theorem dX10_isAlike_101 : decode cX10_isAlike 101 = .ok (.getfield 125, 3) := by decide +kernel
theorem dX10_isAlike_104 : decode cX10_isAlike 104 = .ok (.invokevirtual 211, 3) := by decide +kernel
theorem dX10_isAlike_107 : decode cX10_isAlike 107 = .ok (.iload 4, 2) := by decide +kernel
theorem dX10_isAlike_109 : decode cX10_isAlike 109 = .ok (.if_icmp .gt 5, 3) := by decide +kernel
theorem dX10_isAlike_112 : decode cX10_isAlike 112 = .ok (.iconst 1, 1) := by decide +kernel
theorem dX10_isAlike_113 : decode cX10_isAlike 113 = .ok (.ireturn, 1) := by decide +kernel
theorem dX10_isAlike_114 : decode cX10_isAlike 114 = .ok (.iinc 8 1, 3) := by decide +kernel
theorem dX10_isAlike_117 : decode cX10_isAlike 117 = .ok (.goto (-59), 3) := by decide +kernel
theorem dX10_isAlike_120 : decode cX10_isAlike 120 = .ok (.iinc 6 1, 3) := by decide +kernel
theorem dX10_isAlike_123 : decode cX10_isAlike 123 = .ok (.goto (-109), 3) := by decide +kernel
theorem dX10_isAlike_126 : decode cX10_isAlike 126 = .ok (.iconst 0, 1) := by decide +kernel
theorem dX10_isAlike_127 : decode cX10_isAlike 127 = .ok (.ireturn, 1) := by decide +kernel
theorem dX10_show_0 : decode cX10_show 0 = .ok (.aload_n 0, 1) := by decide +kernel
theorem dX10_show_1 : decode cX10_show 1 = .ok (.aload_n 1, 1) := by decide +kernel
theorem dX10_show_2 : decode cX10_show 2 = .ok (.iload_n 2, 1) := by decide +kernel
theorem dX10_show_3 : decode cX10_show 3 = .ok (.iload_n 3, 1) := by decide +kernel
theorem dX10_show_4 : decode cX10_show 4 = .ok (.iload 4, 2) := by decide +kernel
theorem dX10_show_6 : decode cX10_show 6 = .ok (.invokevirtual 128, 3) := by decide +kernel
theorem dX10_show_9 : decode cX10_show 9 = .ok (.iload_n 3, 1) := by decide +kernel
theorem dX10_show_10 : decode cX10_show 10 = .ok (.iload 4, 2) := by decide +kernel
theorem dX10_show_12 : decode cX10_show 12 = .ok (.invokestatic 78, 3) := by decide +kernel
theorem dX10_show_15 : decode cX10_show 15 = .ok (.istore 6, 2) := by decide +kernel
theorem dX10_show_17 : decode cX10_show 17 = .ok (.aload_n 1, 1) := by decide +kernel
theorem dX10_show_18 : decode cX10_show 18 = .ok (.getfield 174, 3) := by decide +kernel
theorem dX10_show_21 : decode cX10_show 21 = .ok (.iload_n 2, 1) := by decide +kernel
theorem dX10_show_22 : decode cX10_show 22 = .ok (.aload_n 0, 1) := by decide +kernel
theorem dX10_show_23 : decode cX10_show 23 = .ok (.getfield 109, 3) := by decide +kernel
theorem dX10_show_26 : decode cX10_show 26 = .ok (.iload 6, 2) := by decide +kernel
theorem dX10_show_28 : decode cX10_show 28 = .ok (.invokevirtual 208, 3) := by decide +kernel
theorem dX10_show_31 : decode cX10_show 31 = .ok (.istore 7, 2) := by decide +kernel
theorem dX10_show_33 : decode cX10_show 33 = .ok (.aload_n 0, 1) := by decide +kernel
theorem dX10_show_34 : decode cX10_show 34 = .ok (.getfield 112, 3) := by decide +kernel
theorem dX10_show_37 : decode cX10_show 37 = .ok (.iconst (-1), 1) := by decide +kernel
theorem dX10_show_38 : decode cX10_show 38 = .ok (.if_icmp .ne 7, 3) := by decide +kernel
theorem dX10_show_41 : decode cX10_show 41 = .ok (.iconst (-1), 1) := by decide +kernel
theorem dX10_show_42 : decode cX10_show 42 = .ok (.goto 17, 3) := by decide +kernel
theorem dX10_show_45 : decode cX10_show 45 = .ok (.aload_n 1, 1) := by decide +kernel
theorem dX10_show_46 : decode cX10_show 46 = .ok (.getfield 174, 3) := by decide +kernel
theorem dX10_show_49 : decode cX10_show 49 = .ok (.iload_n 2, 1) := by decide +kernel
theorem dX10_show_50 : decode cX10_show 50 = .ok (.aload_n 0, 1) := by decide +kernel
theorem dX10_show_51 : decode cX10_show 51 = .ok (.getfield 112, 3) := by decide +kernel
theorem dX10_show_54 : decode cX10_show 54 = .ok (.iload 6, 2) := by decide +kernel
theorem dX10_show_56 : decode cX10_show 56 = .ok (.invokevirtual 208, 3) := by decide +kernel
theorem dX10_show_59 : decode cX10_show 59 = .ok (.istore 8, 2) := by decide +kernel
theorem dX10_show_61 : decode cX10_show 61 = .ok (.aload 5, 2) := by decide +kernel
theorem dX10_show_63 : decode cX10_show 63 = .ok (.iconst 0, 1) := by decide +kernel
theorem dX10_show_64 : decode cX10_show 64 = .ok (.putfield 156, 3) := by decide +kernel
theorem dX10_show_67 : decode cX10_show 67 = .ok (.iload 7, 2) := by decide +kernel
theorem dX10_show_69 : decode cX10_show 69 = .ok (.iconst (-1), 1) := by decide +kernel
theorem dX10_show_70 : decode cX10_show 70 = .ok (.if_icmp .eq 16, 3) := by decide +kernel
theorem dX10_show_73 : decode cX10_show 73 = .ok (.aload_n 1, 1) := by decide +kernel
theorem dX10_show_74 : decode cX10_show 74 = .ok (.getfield 187, 3) := by decide +kernel
theorem dX10_show_77 : decode cX10_show 77 = .ok (.aload 5, 2) := by decide +kernel
theorem dX10_show_79 : decode cX10_show 79 = .ok (.iload 7, 2) := by decide +kernel
theorem dX10_show_81 : decode cX10_show 81 = .ok (.iload 6, 2) := by decide +kernel
theorem dX10_show_83 : decode cX10_show 83 = .ok (.invokevirtual 157, 3) := by decide +kernel
theorem dX10_show_86 : decode cX10_show 86 = .ok (.iload 7, 2) := by decide +kernel
theorem dX10_show_88 : decode cX10_show 88 = .ok (.iconst (-1), 1) := by decide +kernel
theorem dX10_show_89 : decode cX10_show 89 = .ok (.if_icmp .eq 18, 3) := by decide +kernel
theorem dX10_show_92 : decode cX10_show 92 = .ok (.iload 8, 2) := by decide +kernel
theorem dX10_show_94 : decode cX10_show 94 = .ok (.iconst (-1), 1) := by decide +kernel
theorem dX10_show_95 : decode cX10_show 95 = .ok (.if_icmp .eq 12, 3) := by decide +kernel
theorem dX10_show_98 : decode cX10_show 98 = .ok (.aload 5, 2) := by decide +kernel
theorem dX10_show_100 : decode cX10_show 100 = .ok (.bipush 32, 2) := by decide +kernel
theorem dX10_show_102 : decode cX10_show 102 = .ok (.bipush (-4), 2) := by decide +kernel
theorem dX10_show_104 : decode cX10_show 104 = .ok (.invokevirtual 215, 3) := by decide +kernel
theorem dX10_show_107 : decode cX10_show 107 = .ok (.iload 8, 2) := by decide +kernel
theorem dX10_show_109 : decode cX10_show 109 = .ok (.iconst (-1), 1) := by decide +kernel
theorem dX10_show_110 : decode cX10_show 110 = .ok (.if_icmp .eq 16, 3) := by decide +kernel
theorem dX10_show_113 : decode cX10_show 113 = .ok (.aload_n 1, 1) := by decide +kernel
theorem dX10_show_114 : decode cX10_show 114 = .ok (.getfield 187, 3) := by decide +kernel
theorem dX10_show_117 : decode cX10_show 117 = .ok (.aload 5, 2) := by decide +kernel
theorem dX10_show_119 : decode cX10_show 119 = .ok (.iload 8, 2) := by decide +kernel
theorem dX10_show_121 : decode cX10_show 121 = .ok (.iload 6, 2) := by decide +kernel
theorem dX10_show_123 : decode cX10_show 123 = .ok (.invokevirtual 157, 3) := by decide +kernel
theorem dX10_show_126 : decode cX10_show 126 = .ok (.return_, 1) := by decide +kernel
theorem dX10_isLame_0 : decode cX10_isLame 0 = .ok (.aload_n 1, 1) := by decide +kernel
theorem dX10_isLame_1 : decode cX10_isLame 1 = .ok (.getfield 219, 3) := by decide +kernel
theorem dX10_isLame_4 : decode cX10_isLame 4 = .ok (.getfield 223, 3) := by decide +kernel
theorem dX10_isLame_7 : decode cX10_isLame 7 = .ok (.iload_n 2, 1) := by decide +kernel
theorem dX10_isLame_8 : decode cX10_isLame 8 = .ok (.iaload, 1) := by decide +kernel
theorem dX10_isLame_9 : decode cX10_isLame 9 = .ok (.istore_n 3, 1) := by decide +kernel
theorem dX10_isLame_10 : decode cX10_isLame 10 = .ok (.aload_n 1, 1) := by decide +kernel
theorem dX10_isLame_11 : decode cX10_isLame 11 = .ok (.getfield 219, 3) := by decide +kernel
theorem dX10_isLame_14 : decode cX10_isLame 14 = .ok (.getfield 226, 3) := by decide +kernel
theorem dX10_isLame_17 : decode cX10_isLame 17 = .ok (.iload_n 2, 1) := by decide +kernel
theorem dX10_isLame_18 : decode cX10_isLame 18 = .ok (.iaload, 1) := by decide +kernel
theorem dX10_isLame_19 : decode cX10_isLame 19 = .ok (.istore 4, 2) := by decide +kernel
theorem dX10_isLame_21 : decode cX10_isLame 21 = .ok (.aload_n 0, 1) := by decide +kernel
theorem dX10_isLame_22 : decode cX10_isLame 22 = .ok (.aload_n 1, 1) := by decide +kernel
theorem dX10_isLame_23 : decode cX10_isLame 23 = .ok (.iload_n 3, 1) := by decide +kernel
theorem dX10_isLame_24 : decode cX10_isLame 24 = .ok (.iload 4, 2) := by decide +kernel
theorem dX10_isLame_26 : decode cX10_isLame 26 = .ok (.iload 4, 2) := by decide +kernel
theorem dX10_isLame_28 : decode cX10_isLame 28 = .ok (.aload_n 0, 1) := by decide +kernel
theorem dX10_isLame_29 : decode cX10_isLame 29 = .ok (.getfield 29, 3) := by decide +kernel
theorem dX10_isLame_32 : decode cX10_isLame 32 = .ok (.invokevirtual 229, 3) := by decide +kernel
theorem dX10_isLame_35 : decode cX10_isLame 35 = .ok (.aload_n 0, 1) := by decide +kernel
theorem dX10_isLame_36 : decode cX10_isLame 36 = .ok (.aload_n 1, 1) := by decide +kernel
theorem dX10_isLame_37 : decode cX10_isLame 37 = .ok (.iload_n 3, 1) := by decide +kernel
theorem dX10_isLame_38 : decode cX10_isLame 38 = .ok (.aload_n 1, 1) := by decide +kernel
theorem dX10_isLame_39 : decode cX10_isLame 39 = .ok (.getfield 125, 3) := by decide +kernel
theorem dX10_isLame_42 : decode cX10_isLame 42 = .ok (.aload_n 1, 1) := by decide +kernel
theorem dX10_isLame_43 : decode cX10_isLame 43 = .ok (.getfield 125, 3) := by decide +kernel
theorem dX10_isLame_46 : decode cX10_isLame 46 = .ok (.aload_n 0, 1) := by decide +kernel
theorem dX10_isLame_47 : decode cX10_isLame 47 = .ok (.getfield 33, 3) := by decide +kernel
theorem dX10_isLame_50 : decode cX10_isLame 50 = .ok (.invokevirtual 229, 3) := by decide +kernel
theorem dX10_isLame_53 : decode cX10_isLame 53 = .ok (.aload_n 0, 1) := by decide +kernel
theorem dX10_isLame_54 : decode cX10_isLame 54 = .ok (.getfield 29, 3) := by decide +kernel
theorem dX10_isLame_57 : decode cX10_isLame 57 = .ok (.aload_n 0, 1) := by decide +kernel
theorem dX10_isLame_58 : decode cX10_isLame 58 = .ok (.getfield 33, 3) := by decide +kernel
theorem dX10_isLame_61 : decode cX10_isLame 61 = .ok (.invokevirtual 233, 3) := by decide +kernel
theorem dX10_isLame_64 : decode cX10_isLame 64 = .ok (.ifCond .ne 7, 3) := by decide +kernel
theorem dX10_isLame_67 : decode cX10_isLame 67 = .ok (.iconst 1, 1) := by decide +kernel
theorem dX10_isLame_68 : decode cX10_isLame 68 = .ok (.goto 4, 3) := by decide +kernel
theorem dX10_isLame_71 : decode cX10_isLame 71 = .ok (.iconst 0, 1) := by decide +kernel
theorem dX10_isLame_72 : decode cX10_isLame 72 = .ok (.ireturn, 1) := by decide +kernel
theorem dX10_lameSigns_0 : decode cX10_lameSigns 0 = .ok (.iconst 0, 1) := by decide +kernel
theorem dX10_lameSigns_1 : decode cX10_lameSigns 1 = .ok (.istore_n 2, 1) := by decide +kernel
theorem dX10_lameSigns_2 : decode cX10_lameSigns 2 = .ok (.iconst 0, 1) := by decide +kernel
theorem dX10_lameSigns_3 : decode cX10_lameSigns 3 = .ok (.istore_n 3, 1) := by decide +kernel
theorem dX10_lameSigns_4 : decode cX10_lameSigns 4 = .ok (.iload_n 3, 1) := by decide +kernel
theorem dX10_lameSigns_5 : decode cX10_lameSigns 5 = .ok (.aload_n 1, 1) := by decide +kernel
theorem dX10_lameSigns_6 : decode cX10_lameSigns 6 = .ok (.getfield 219, 3) := by decide +kernel
theorem dX10_lameSigns_9 : decode cX10_lameSigns 9 = .ok (.getfield 237, 3) := by decide +kernel
theorem dX10_lameSigns_12 : decode cX10_lameSigns 12 = .ok (.if_icmp .ge 26, 3) := by decide +kernel
theorem dX10_lameSigns_15 : decode cX10_lameSigns 15 = .ok (.iload_n 2, 1) := by decide +kernel
theorem dX10_lameSigns_16 : decode cX10_lameSigns 16 = .ok (.aload_n 0, 1) := by decide +kernel
theorem dX10_lameSigns_17 : decode cX10_lameSigns 17 = .ok (.aload_n 1, 1) := by decide +kernel
theorem dX10_lameSigns_18 : decode cX10_lameSigns 18 = .ok (.iload_n 3, 1) := by decide +kernel
theorem dX10_lameSigns_19 : decode cX10_lameSigns 19 = .ok (.invokevirtual 238, 3) := by decide +kernel
theorem dX10_lameSigns_22 : decode cX10_lameSigns 22 = .ok (.ifCond .eq 7, 3) := by decide +kernel
theorem dX10_lameSigns_25 : decode cX10_lameSigns 25 = .ok (.iconst 1, 1) := by decide +kernel
theorem dX10_lameSigns_26 : decode cX10_lameSigns 26 = .ok (.goto 4, 3) := by decide +kernel
theorem dX10_lameSigns_29 : decode cX10_lameSigns 29 = .ok (.iconst 0, 1) := by decide +kernel
theorem dX10_lameSigns_30 : decode cX10_lameSigns 30 = .ok (.iadd, 1) := by decide +kernel
theorem dX10_lameSigns_31 : decode cX10_lameSigns 31 = .ok (.istore_n 2, 1) := by decide +kernel
theorem dX10_lameSigns_32 : decode cX10_lameSigns 32 = .ok (.iinc 3 1, 3) := by decide +kernel
theorem dX10_lameSigns_35 : decode cX10_lameSigns 35 = .ok (.goto (-31), 3) := by decide +kernel
theorem dX10_lameSigns_38 : decode cX10_lameSigns 38 = .ok (.iload_n 2, 1) := by decide +kernel
theorem dX10_lameSigns_39 : decode cX10_lameSigns 39 = .ok (.ireturn, 1) := by decide +kernel
theorem dX10_dueYear_0 : decode cX10_dueYear 0 = .ok (.aload_n 1, 1) := by decide +kernel
theorem dX10_dueYear_1 : decode cX10_dueYear 1 = .ok (.getfield 219, 3) := by decide +kernel
theorem dX10_dueYear_4 : decode cX10_dueYear 4 = .ok (.getfield 223, 3) := by decide +kernel
theorem dX10_dueYear_7 : decode cX10_dueYear 7 = .ok (.iload_n 2, 1) := by decide +kernel
theorem dX10_dueYear_8 : decode cX10_dueYear 8 = .ok (.iaload, 1) := by decide +kernel
theorem dX10_dueYear_9 : decode cX10_dueYear 9 = .ok (.istore_n 3, 1) := by decide +kernel
theorem dX10_dueYear_10 : decode cX10_dueYear 10 = .ok (.aload_n 1, 1) := by decide +kernel
theorem dX10_dueYear_11 : decode cX10_dueYear 11 = .ok (.getfield 219, 3) := by decide +kernel
theorem dX10_dueYear_14 : decode cX10_dueYear 14 = .ok (.getfield 226, 3) := by decide +kernel
theorem dX10_dueYear_17 : decode cX10_dueYear 17 = .ok (.iload_n 2, 1) := by decide +kernel
theorem dX10_dueYear_18 : decode cX10_dueYear 18 = .ok (.iaload, 1) := by decide +kernel
theorem dX10_dueYear_19 : decode cX10_dueYear 19 = .ok (.istore 4, 2) := by decide +kernel
theorem dX10_dueYear_21 : decode cX10_dueYear 21 = .ok (.aload_n 0, 1) := by decide +kernel
theorem dX10_dueYear_22 : decode cX10_dueYear 22 = .ok (.aload_n 1, 1) := by decide +kernel
theorem dX10_dueYear_23 : decode cX10_dueYear 23 = .ok (.iload_n 3, 1) := by decide +kernel
theorem dX10_dueYear_24 : decode cX10_dueYear 24 = .ok (.iload 4, 2) := by decide +kernel
theorem dX10_dueYear_26 : decode cX10_dueYear 26 = .ok (.iload 4, 2) := by decide +kernel
theorem dX10_dueYear_28 : decode cX10_dueYear 28 = .ok (.aload_n 0, 1) := by decide +kernel
theorem dX10_dueYear_29 : decode cX10_dueYear 29 = .ok (.getfield 29, 3) := by decide +kernel
theorem dX10_dueYear_32 : decode cX10_dueYear 32 = .ok (.invokevirtual 229, 3) := by decide +kernel
theorem dX10_dueYear_35 : decode cX10_dueYear 35 = .ok (.aload_n 1, 1) := by decide +kernel
theorem dX10_dueYear_36 : decode cX10_dueYear 36 = .ok (.getfield 125, 3) := by decide +kernel
theorem dX10_dueYear_39 : decode cX10_dueYear 39 = .ok (.istore 5, 2) := by decide +kernel
theorem dX10_dueYear_41 : decode cX10_dueYear 41 = .ok (.iconst 1, 1) := by decide +kernel
theorem dX10_dueYear_42 : decode cX10_dueYear 42 = .ok (.istore 6, 2) := by decide +kernel
theorem dX10_dueYear_44 : decode cX10_dueYear 44 = .ok (.aload_n 1, 1) := by decide +kernel
theorem dX10_dueYear_45 : decode cX10_dueYear 45 = .ok (.getfield 125, 3) := by decide +kernel
theorem dX10_dueYear_48 : decode cX10_dueYear 48 = .ok (.iconst 1, 1) := by decide +kernel
theorem dX10_dueYear_49 : decode cX10_dueYear 49 = .ok (.isub, 1) := by decide +kernel
theorem dX10_dueYear_50 : decode cX10_dueYear 50 = .ok (.istore 7, 2) := by decide +kernel
theorem dX10_dueYear_52 : decode cX10_dueYear 52 = .ok (.iload 7, 2) := by decide +kernel
theorem dX10_dueYear_54 : decode cX10_dueYear 54 = .ok (.iload 4, 2) := by decide +kernel
theorem dX10_dueYear_56 : decode cX10_dueYear 56 = .ok (.if_icmp .lt 89, 3) := by decide +kernel
theorem dX10_dueYear_59 : decode cX10_dueYear 59 = .ok (.iload 6, 2) := by decide +kernel
theorem dX10_dueYear_61 : decode cX10_dueYear 61 = .ok (.ifCond .eq 84, 3) := by decide +kernel
theorem dX10_dueYear_64 : decode cX10_dueYear 64 = .ok (.aload_n 1, 1) := by decide +kernel
theorem dX10_dueYear_65 : decode cX10_dueYear 65 = .ok (.getfield 242, 3) := by decide +kernel
theorem dX10_dueYear_68 : decode cX10_dueYear 68 = .ok (.iload 7, 2) := by decide +kernel
theorem dX10_dueYear_70 : decode cX10_dueYear 70 = .ok (.iconst 1, 1) := by decide +kernel
theorem dX10_dueYear_71 : decode cX10_dueYear 71 = .ok (.iadd, 1) := by decide +kernel
theorem dX10_dueYear_72 : decode cX10_dueYear 72 = .ok (.baload, 1) := by decide +kernel
theorem dX10_dueYear_73 : decode cX10_dueYear 73 = .ok (.ifCond .ne 22, 3) := by decide +kernel
theorem dX10_dueYear_76 : decode cX10_dueYear 76 = .ok (.aload_n 1, 1) := by decide +kernel
theorem dX10_dueYear_77 : decode cX10_dueYear 77 = .ok (.getfield 97, 3) := by decide +kernel
theorem dX10_dueYear_80 : decode cX10_dueYear 80 = .ok (.aload_n 1, 1) := by decide +kernel
theorem dX10_dueYear_81 : decode cX10_dueYear 81 = .ok (.getfield 97, 3) := by decide +kernel
theorem dX10_dueYear_84 : decode cX10_dueYear 84 = .ok (.iload 7, 2) := by decide +kernel
theorem dX10_dueYear_86 : decode cX10_dueYear 86 = .ok (.invokevirtual 101, 3) := by decide +kernel
theorem dX10_dueYear_89 : decode cX10_dueYear 89 = .ok (.invokevirtual 246, 3) := by decide +kernel
theorem dX10_dueYear_92 : decode cX10_dueYear 92 = .ok (.ifCond .eq 38, 3) := by decide +kernel
theorem dX10_dueYear_95 : decode cX10_dueYear 95 = .ok (.aload_n 0, 1) := by decide +kernel
theorem dX10_dueYear_96 : decode cX10_dueYear 96 = .ok (.aload_n 1, 1) := by decide +kernel
theorem dX10_dueYear_97 : decode cX10_dueYear 97 = .ok (.iload_n 3, 1) := by decide +kernel
theorem dX10_dueYear_98 : decode cX10_dueYear 98 = .ok (.iload 7, 2) := by decide +kernel
theorem dX10_dueYear_100 : decode cX10_dueYear 100 = .ok (.iload 7, 2) := by decide +kernel
theorem dX10_dueYear_102 : decode cX10_dueYear 102 = .ok (.aload_n 0, 1) := by decide +kernel
theorem dX10_dueYear_103 : decode cX10_dueYear 103 = .ok (.getfield 33, 3) := by decide +kernel
theorem dX10_dueYear_106 : decode cX10_dueYear 106 = .ok (.invokevirtual 229, 3) := by decide +kernel
theorem dX10_dueYear_109 : decode cX10_dueYear 109 = .ok (.aload_n 0, 1) := by decide +kernel
theorem dX10_dueYear_110 : decode cX10_dueYear 110 = .ok (.getfield 29, 3) := by decide +kernel
theorem dX10_dueYear_113 : decode cX10_dueYear 113 = .ok (.aload_n 0, 1) := by decide +kernel
theorem dX10_dueYear_114 : decode cX10_dueYear 114 = .ok (.getfield 33, 3) := by decide +kernel
theorem dX10_dueYear_117 : decode cX10_dueYear 117 = .ok (.invokevirtual 233, 3) := by decide +kernel
theorem dX10_dueYear_120 : decode cX10_dueYear 120 = .ok (.ifCond .ne 7, 3) := by decide +kernel
theorem dX10_dueYear_123 : decode cX10_dueYear 123 = .ok (.iconst 1, 1) := by decide +kernel
theorem dX10_dueYear_124 : decode cX10_dueYear 124 = .ok (.goto 4, 3) := by decide +kernel
theorem dX10_dueYear_127 : decode cX10_dueYear 127 = .ok (.iconst 0, 1) := by decide +kernel
theorem dX10_dueYear_128 : decode cX10_dueYear 128 = .ok (.istore 6, 2) := by decide +kernel
theorem dX10_dueYear_130 : decode cX10_dueYear 130 = .ok (.iload 6, 2) := by decide +kernel
theorem dX10_dueYear_132 : decode cX10_dueYear 132 = .ok (.ifCond .eq 7, 3) := by decide +kernel
theorem dX10_dueYear_135 : decode cX10_dueYear 135 = .ok (.iload 7, 2) := by decide +kernel
theorem dX10_dueYear_137 : decode cX10_dueYear 137 = .ok (.istore 5, 2) := by decide +kernel
theorem dX10_dueYear_139 : decode cX10_dueYear 139 = .ok (.iinc 7 (-1), 3) := by decide +kernel
theorem dX10_dueYear_142 : decode cX10_dueYear 142 = .ok (.goto (-90), 3) := by decide +kernel
theorem dX10_dueYear_145 : decode cX10_dueYear 145 = .ok (.iload 5, 2) := by decide +kernel
theorem dX10_dueYear_147 : decode cX10_dueYear 147 = .ok (.aload_n 1, 1) := by decide +kernel
theorem dX10_dueYear_148 : decode cX10_dueYear 148 = .ok (.getfield 97, 3) := by decide +kernel
theorem dX10_dueYear_151 : decode cX10_dueYear 151 = .ok (.aload_n 1, 1) := by decide +kernel
theorem dX10_dueYear_152 : decode cX10_dueYear 152 = .ok (.getfield 97, 3) := by decide +kernel
theorem dX10_dueYear_155 : decode cX10_dueYear 155 = .ok (.aload_n 1, 1) := by decide +kernel
theorem dX10_dueYear_156 : decode cX10_dueYear 156 = .ok (.getfield 125, 3) := by decide +kernel
theorem dX10_dueYear_159 : decode cX10_dueYear 159 = .ok (.invokevirtual 101, 3) := by decide +kernel
theorem dX10_dueYear_162 : decode cX10_dueYear 162 = .ok (.iconst 4, 1) := by decide +kernel
theorem dX10_dueYear_163 : decode cX10_dueYear 163 = .ok (.bipush 10, 2) := by decide +kernel
theorem dX10_dueYear_165 : decode cX10_dueYear 165 = .ok (.invokevirtual 178, 3) := by decide +kernel
theorem dX10_dueYear_168 : decode cX10_dueYear 168 = .ok (.iadd, 1) := by decide +kernel
theorem dX10_dueYear_169 : decode cX10_dueYear 169 = .ok (.ireturn, 1) := by decide +kernel
theorem dX11_feed_0 : decode cX11_feed 0 = .ok (.aload_n 0, 1) := by decide +kernel
theorem dX11_feed_1 : decode cX11_feed 1 = .ok (.getfield 23, 3) := by decide +kernel
theorem dX11_feed_4 : decode cX11_feed 4 = .ok (.getfield 72, 3) := by decide +kernel
theorem dX11_feed_7 : decode cX11_feed 7 = .ok (.bipush 20, 2) := by decide +kernel
theorem dX11_feed_9 : decode cX11_feed 9 = .ok (.iadd, 1) := by decide +kernel
theorem dX11_feed_10 : decode cX11_feed 10 = .ok (.sipush 500, 3) := by decide +kernel
theorem dX11_feed_13 : decode cX11_feed 13 = .ok (.if_icmp .le 5, 3) := by decide +kernel
theorem dX11_feed_16 : decode cX11_feed 16 = .ok (.iconst (-1), 1) := by decide +kernel
theorem dX11_feed_17 : decode cX11_feed 17 = .ok (.ireturn, 1) := by decide +kernel
theorem dX11_feed_18 : decode cX11_feed 18 = .ok (.aload_n 0, 1) := by decide +kernel
theorem dX11_feed_19 : decode cX11_feed 19 = .ok (.getfield 23, 3) := by decide +kernel
theorem dX11_feed_22 : decode cX11_feed 22 = .ok (.iload_n 1, 1) := by decide +kernel
theorem dX11_feed_23 : decode cX11_feed 23 = .ok (.invokevirtual 76, 3) := by decide +kernel
theorem dX11_feed_26 : decode cX11_feed 26 = .ok (.aload_n 0, 1) := by decide +kernel
theorem dX11_feed_27 : decode cX11_feed 27 = .ok (.getfield 23, 3) := by decide +kernel
theorem dX11_feed_30 : decode cX11_feed 30 = .ok (.iload_n 2, 1) := by decide +kernel
theorem dX11_feed_31 : decode cX11_feed 31 = .ok (.invokevirtual 76, 3) := by decide +kernel
theorem dX11_feed_34 : decode cX11_feed 34 = .ok (.aload_n 0, 1) := by decide +kernel
theorem dX11_feed_35 : decode cX11_feed 35 = .ok (.getfield 23, 3) := by decide +kernel
theorem dX11_feed_38 : decode cX11_feed 38 = .ok (.iload_n 3, 1) := by decide +kernel
theorem dX11_feed_39 : decode cX11_feed 39 = .ok (.invokevirtual 76, 3) := by decide +kernel
theorem dX11_feed_42 : decode cX11_feed 42 = .ok (.aload_n 0, 1) := by decide +kernel
theorem dX11_feed_43 : decode cX11_feed 43 = .ok (.getfield 23, 3) := by decide +kernel
theorem dX11_feed_46 : decode cX11_feed 46 = .ok (.iload 4, 2) := by decide +kernel
theorem dX11_feed_48 : decode cX11_feed 48 = .ok (.invokevirtual 76, 3) := by decide +kernel
theorem dX11_feed_51 : decode cX11_feed 51 = .ok (.aload_n 0, 1) := by decide +kernel
theorem dX11_feed_52 : decode cX11_feed 52 = .ok (.getfield 23, 3) := by decide +kernel
theorem dX11_feed_55 : decode cX11_feed 55 = .ok (.iload 5, 2) := by decide +kernel
theorem dX11_feed_57 : decode cX11_feed 57 = .ok (.invokevirtual 76, 3) := by decide +kernel
theorem dX11_feed_60 : decode cX11_feed 60 = .ok (.aload_n 0, 1) := by decide +kernel
theorem dX11_feed_61 : decode cX11_feed 61 = .ok (.getfield 23, 3) := by decide +kernel
theorem dX11_feed_64 : decode cX11_feed 64 = .ok (.getfield 72, 3) := by decide +kernel
theorem dX11_feed_67 : decode cX11_feed 67 = .ok (.ireturn, 1) := by decide +kernel
theorem dX11_end_0 : decode cX11_end 0 = .ok (.iload_n 1, 1) := by decide +kernel
theorem dX11_end_1 : decode cX11_end 1 = .ok (.ifCond .lt 14, 3) := by decide +kernel
theorem dX11_end_4 : decode cX11_end 4 = .ok (.iload_n 1, 1) := by decide +kernel
theorem dX11_end_5 : decode cX11_end 5 = .ok (.aload_n 0, 1) := by decide +kernel
theorem dX11_end_6 : decode cX11_end 6 = .ok (.getfield 23, 3) := by decide +kernel
theorem dX11_end_9 : decode cX11_end 9 = .ok (.getfield 72, 3) := by decide +kernel
theorem dX11_end_12 : decode cX11_end 12 = .ok (.if_icmp .le 5, 3) := by decide +kernel
theorem dX11_end_15 : decode cX11_end 15 = .ok (.iconst (-1), 1) := by decide +kernel
theorem dX11_end_16 : decode cX11_end 16 = .ok (.ireturn, 1) := by decide +kernel
theorem dX11_end_17 : decode cX11_end 17 = .ok (.aload_n 0, 1) := by decide +kernel
theorem dX11_end_18 : decode cX11_end 18 = .ok (.getfield 23, 3) := by decide +kernel
theorem dX11_end_21 : decode cX11_end 21 = .ok (.iload_n 1, 1) := by decide +kernel
theorem dX11_end_22 : decode cX11_end 22 = .ok (.putfield 72, 3) := by decide +kernel
theorem dX11_end_25 : decode cX11_end 25 = .ok (.iload_n 1, 1) := by decide +kernel
theorem dX11_end_26 : decode cX11_end 26 = .ok (.ireturn, 1) := by decide +kernel
theorem dX11_next_0 : decode cX11_next 0 = .ok (.iload_n 1, 1) := by decide +kernel
theorem dX11_next_1 : decode cX11_next 1 = .ok (.invokestatic 80, 3) := by decide +kernel
theorem dX11_next_4 : decode cX11_next 4 = .ok (.ifCond .eq 18, 3) := by decide +kernel
theorem dX11_next_7 : decode cX11_next 7 = .ok (.aload_n 0, 1) := by decide +kernel
theorem dX11_next_8 : decode cX11_next 8 = .ok (.getfield 10, 3) := by decide +kernel
theorem dX11_next_11 : decode cX11_next 11 = .ok (.getfield 84, 3) := by decide +kernel
theorem dX11_next_14 : decode cX11_next 14 = .ok (.iload_n 1, 1) := by decide +kernel
theorem dX11_next_15 : decode cX11_next 15 = .ok (.iadd, 1) := by decide +kernel
theorem dX11_next_16 : decode cX11_next 16 = .ok (.invokestatic 80, 3) := by decide +kernel
theorem dX11_next_19 : decode cX11_next 19 = .ok (.ifCond .ne 5, 3) := by decide +kernel
theorem dX11_next_22 : decode cX11_next 22 = .ok (.iconst (-1), 1) := by decide +kernel
theorem dX11_next_23 : decode cX11_next 23 = .ok (.ireturn, 1) := by decide +kernel
theorem dX11_next_24 : decode cX11_next 24 = .ok (.aload_n 0, 1) := by decide +kernel
theorem dX11_next_25 : decode cX11_next 25 = .ok (.getfield 10, 3) := by decide +kernel
theorem dX11_next_28 : decode cX11_next 28 = .ok (.dup, 1) := by decide +kernel
theorem dX11_next_29 : decode cX11_next 29 = .ok (.getfield 84, 3) := by decide +kernel
theorem dX11_next_32 : decode cX11_next 32 = .ok (.iload_n 1, 1) := by decide +kernel
theorem dX11_next_33 : decode cX11_next 33 = .ok (.iadd, 1) := by decide +kernel
theorem dX11_next_34 : decode cX11_next 34 = .ok (.putfield 84, 3) := by decide +kernel
theorem dX11_next_37 : decode cX11_next 37 = .ok (.aload_n 0, 1) := by decide +kernel
theorem dX11_next_38 : decode cX11_next 38 = .ok (.getfield 10, 3) := by decide +kernel
theorem dX11_next_41 : decode cX11_next 41 = .ok (.getfield 84, 3) := by decide +kernel
theorem dX11_next_44 : decode cX11_next 44 = .ok (.ireturn, 1) := by decide +kernel
theorem dX11_place_0 : decode cX11_place 0 = .ok (.iload_n 1, 1) := by decide +kernel
theorem dX11_place_1 : decode cX11_place 1 = .ok (.ifCond .lt 21, 3) := by decide +kernel
theorem dX11_place_4 : decode cX11_place 4 = .ok (.iload_n 1, 1) := by decide +kernel
theorem dX11_place_5 : decode cX11_place 5 = .ok (.sipush 999, 3) := by decide +kernel
theorem dX11_place_8 : decode cX11_place 8 = .ok (.if_icmp .gt 14, 3) := by decide +kernel
theorem dX11_place_11 : decode cX11_place 11 = .ok (.iload_n 2, 1) := by decide +kernel
theorem dX11_place_12 : decode cX11_place 12 = .ok (.ifCond .lt 10, 3) := by decide +kernel
theorem dX11_place_15 : decode cX11_place 15 = .ok (.iload_n 2, 1) := by decide +kernel
theorem dX11_place_16 : decode cX11_place 16 = .ok (.sipush 999, 3) := by decide +kernel
theorem dX11_place_19 : decode cX11_place 19 = .ok (.if_icmp .le 6, 3) := by decide +kernel
theorem dX11_place_22 : decode cX11_place 22 = .ok (.bipush (-2), 2) := by decide +kernel
theorem dX11_place_24 : decode cX11_place 24 = .ok (.ireturn, 1) := by decide +kernel
theorem dX11_place_25 : decode cX11_place 25 = .ok (.aload_n 0, 1) := by decide +kernel
theorem dX11_place_26 : decode cX11_place 26 = .ok (.getfield 10, 3) := by decide +kernel
theorem dX11_place_29 : decode cX11_place 29 = .ok (.getfield 87, 3) := by decide +kernel
theorem dX11_place_32 : decode cX11_place 32 = .ok (.iload_n 1, 1) := by decide +kernel
theorem dX11_place_33 : decode cX11_place 33 = .ok (.iload_n 2, 1) := by decide +kernel
theorem dX11_place_34 : decode cX11_place 34 = .ok (.invokevirtual 91, 3) := by decide +kernel
theorem dX11_place_37 : decode cX11_place 37 = .ok (.ireturn, 1) := by decide +kernel
theorem dX11_part_0 : decode cX11_part 0 = .ok (.aload_n 0, 1) := by decide +kernel
theorem dX11_part_1 : decode cX11_part 1 = .ok (.getfield 10, 3) := by decide +kernel
theorem dX11_part_4 : decode cX11_part 4 = .ok (.getfield 87, 3) := by decide +kernel
theorem dX11_part_7 : decode cX11_part 7 = .ok (.astore_n 3, 1) := by decide +kernel
theorem dX11_part_8 : decode cX11_part 8 = .ok (.aload_n 3, 1) := by decide +kernel
theorem dX11_part_9 : decode cX11_part 9 = .ok (.iload_n 1, 1) := by decide +kernel
theorem dX11_part_10 : decode cX11_part 10 = .ok (.invokevirtual 97, 3) := by decide +kernel
theorem dX11_part_13 : decode cX11_part 13 = .ok (.ifCond .eq 21, 3) := by decide +kernel
theorem dX11_part_16 : decode cX11_part 16 = .ok (.iload_n 2, 1) := by decide +kernel
theorem dX11_part_17 : decode cX11_part 17 = .ok (.iload_n 1, 1) := by decide +kernel
theorem dX11_part_18 : decode cX11_part 18 = .ok (.if_icmp .eq 16, 3) := by decide +kernel
theorem dX11_part_21 : decode cX11_part 21 = .ok (.iload_n 2, 1) := by decide +kernel
theorem dX11_part_22 : decode cX11_part 22 = .ok (.iconst (-1), 1) := by decide +kernel
theorem dX11_part_23 : decode cX11_part 23 = .ok (.if_icmp .eq 14, 3) := by decide +kernel
theorem dX11_part_26 : decode cX11_part 26 = .ok (.aload_n 3, 1) := by decide +kernel
theorem dX11_part_27 : decode cX11_part 27 = .ok (.iload_n 2, 1) := by decide +kernel
theorem dX11_part_28 : decode cX11_part 28 = .ok (.invokevirtual 97, 3) := by decide +kernel
theorem dX11_part_31 : decode cX11_part 31 = .ok (.ifCond .ne 6, 3) := by decide +kernel
theorem dX11_part_34 : decode cX11_part 34 = .ok (.bipush (-2), 2) := by decide +kernel
theorem dX11_part_36 : decode cX11_part 36 = .ok (.ireturn, 1) := by decide +kernel
theorem dX11_part_37 : decode cX11_part 37 = .ok (.aload_n 0, 1) := by decide +kernel
theorem dX11_part_38 : decode cX11_part 38 = .ok (.getfield 37, 3) := by decide +kernel
theorem dX11_part_41 : decode cX11_part 41 = .ok (.aload_n 3, 1) := by decide +kernel
theorem dX11_part_42 : decode cX11_part 42 = .ok (.iload_n 2, 1) := by decide +kernel
theorem dX11_part_43 : decode cX11_part 43 = .ok (.iload_n 1, 1) := by decide +kernel
theorem dX11_part_44 : decode cX11_part 44 = .ok (.aload_n 0, 1) := by decide +kernel
theorem dX11_part_45 : decode cX11_part 45 = .ok (.getfield 10, 3) := by decide +kernel
theorem dX11_part_48 : decode cX11_part 48 = .ok (.getfield 84, 3) := by decide +kernel
theorem dX11_part_51 : decode cX11_part 51 = .ok (.invokevirtual 100, 3) := by decide +kernel
theorem dX11_part_54 : decode cX11_part 54 = .ok (.ifCond .eq 6, 3) := by decide +kernel
theorem dX11_part_57 : decode cX11_part 57 = .ok (.bipush (-5), 2) := by decide +kernel
theorem dX11_part_59 : decode cX11_part 59 = .ok (.ireturn, 1) := by decide +kernel
theorem dX11_part_60 : decode cX11_part 60 = .ok (.aload_n 3, 1) := by decide +kernel
theorem dX11_part_61 : decode cX11_part 61 = .ok (.iload_n 1, 1) := by decide +kernel
theorem dX11_part_62 : decode cX11_part 62 = .ok (.iload_n 2, 1) := by decide +kernel
theorem dX11_part_63 : decode cX11_part 63 = .ok (.aload_n 0, 1) := by decide +kernel
theorem dX11_part_64 : decode cX11_part 64 = .ok (.getfield 10, 3) := by decide +kernel
theorem dX11_part_67 : decode cX11_part 67 = .ok (.getfield 84, 3) := by decide +kernel
theorem dX11_part_70 : decode cX11_part 70 = .ok (.invokevirtual 104, 3) := by decide +kernel
theorem dX11_part_73 : decode cX11_part 73 = .ok (.ifCond .ne 6, 3) := by decide +kernel
theorem dX11_part_76 : decode cX11_part 76 = .ok (.bipush (-3), 2) := by decide +kernel
theorem dX11_part_78 : decode cX11_part 78 = .ok (.ireturn, 1) := by decide +kernel
theorem dX11_part_79 : decode cX11_part 79 = .ok (.aload_n 0, 1) := by decide +kernel
theorem dX11_part_80 : decode cX11_part 80 = .ok (.getfield 10, 3) := by decide +kernel
theorem dX11_part_83 : decode cX11_part 83 = .ok (.invokevirtual 108, 3) := by decide +kernel
theorem dX11_part_86 : decode cX11_part 86 = .ok (.iconst 0, 1) := by decide +kernel
theorem dX11_part_87 : decode cX11_part 87 = .ok (.ireturn, 1) := by decide +kernel
theorem dX11_people_0 : decode cX11_people 0 = .ok (.aload_n 0, 1) := by decide +kernel
theorem dX11_people_1 : decode cX11_people 1 = .ok (.iload_n 1, 1) := by decide +kernel
theorem dX11_people_2 : decode cX11_people 2 = .ok (.i2l, 1) := by decide +kernel
theorem dX11_people_3 : decode cX11_people 3 = .ok (.iload_n 2, 1) := by decide +kernel
theorem dX11_people_4 : decode cX11_people 4 = .ok (.i2l, 1) := by decide +kernel
theorem dX11_people_5 : decode cX11_people 5 = .ok (.iload_n 3, 1) := by decide +kernel
theorem dX11_people_6 : decode cX11_people 6 = .ok (.i2l, 1) := by decide +kernel
theorem dX11_people_7 : decode cX11_people 7 = .ok (.invokevirtual 111, 3) := by decide +kernel
theorem dX11_people_10 : decode cX11_people 10 = .ok (.ireturn, 1) := by decide +kernel
theorem dX11_counted_0 : decode cX11_counted 0 = .ok (.iload_n 1, 1) := by decide +kernel
theorem dX11_counted_1 : decode cX11_counted 1 = .ok (.invokestatic 115, 3) := by decide +kernel
theorem dX11_counted_4 : decode cX11_counted 4 = .ok (.ifCond .ne 6, 3) := by decide +kernel
theorem dX11_counted_7 : decode cX11_counted 7 = .ok (.bipush (-2), 2) := by decide +kernel
theorem dX11_counted_9 : decode cX11_counted 9 = .ok (.ireturn, 1) := by decide +kernel
theorem dX11_counted_10 : decode cX11_counted 10 = .ok (.aload_n 0, 1) := by decide +kernel
theorem dX11_counted_11 : decode cX11_counted 11 = .ok (.getfield 63, 3) := by decide +kernel
theorem dX11_counted_14 : decode cX11_counted 14 = .ok (.iload_n 1, 1) := by decide +kernel
theorem dX11_counted_15 : decode cX11_counted 15 = .ok (.iaload, 1) := by decide +kernel
theorem dX11_counted_16 : decode cX11_counted 16 = .ok (.iconst (-1), 1) := by decide +kernel
theorem dX11_counted_17 : decode cX11_counted 17 = .ok (.if_icmp .ne 6, 3) := by decide +kernel
theorem dX11_counted_20 : decode cX11_counted 20 = .ok (.bipush (-6), 2) := by decide +kernel
theorem dX11_counted_22 : decode cX11_counted 22 = .ok (.ireturn, 1) := by decide +kernel
theorem dX11_counted_23 : decode cX11_counted 23 = .ok (.aload_n 0, 1) := by decide +kernel
theorem dX11_counted_24 : decode cX11_counted 24 = .ok (.getfield 63, 3) := by decide +kernel
theorem dX11_counted_27 : decode cX11_counted 27 = .ok (.iload_n 1, 1) := by decide +kernel
theorem dX11_counted_28 : decode cX11_counted 28 = .ok (.iaload, 1) := by decide +kernel
theorem dX11_counted_29 : decode cX11_counted 29 = .ok (.iconst 3, 1) := by decide +kernel
theorem dX11_counted_30 : decode cX11_counted 30 = .ok (.idiv, 1) := by decide +kernel
theorem dX11_counted_31 : decode cX11_counted 31 = .ok (.istore_n 2, 1) := by decide +kernel
theorem dX11_counted_32 : decode cX11_counted 32 = .ok (.iconst 0, 1) := by decide +kernel
theorem dX11_counted_33 : decode cX11_counted 33 = .ok (.istore_n 3, 1) := by decide +kernel
theorem dX11_counted_34 : decode cX11_counted 34 = .ok (.iload_n 1, 1) := by decide +kernel
theorem dX11_counted_35 : decode cX11_counted 35 = .ok (.bipush 60, 2) := by decide +kernel
theorem dX11_counted_37 : decode cX11_counted 37 = .ok (.imul, 1) := by decide +kernel
theorem dX11_counted_38 : decode cX11_counted 38 = .ok (.istore 4, 2) := by decide +kernel
theorem dX11_counted_40 : decode cX11_counted 40 = .ok (.iload_n 3, 1) := by decide +kernel
theorem dX11_counted_41 : decode cX11_counted 41 = .ok (.iload_n 2, 1) := by decide +kernel
theorem dX11_counted_42 : decode cX11_counted 42 = .ok (.if_icmp .ge 44, 3) := by decide +kernel
theorem dX11_counted_45 : decode cX11_counted 45 = .ok (.aload_n 0, 1) := by decide +kernel
theorem dX11_counted_46 : decode cX11_counted 46 = .ok (.aload_n 0, 1) := by decide +kernel
theorem dX11_counted_47 : decode cX11_counted 47 = .ok (.getfield 55, 3) := by decide +kernel
theorem dX11_counted_50 : decode cX11_counted 50 = .ok (.iload 4, 2) := by decide +kernel
theorem dX11_counted_52 : decode cX11_counted 52 = .ok (.laload, 1) := by decide +kernel
theorem dX11_counted_53 : decode cX11_counted 53 = .ok (.aload_n 0, 1) := by decide +kernel
theorem dX11_counted_54 : decode cX11_counted 54 = .ok (.getfield 55, 3) := by decide +kernel
theorem dX11_counted_57 : decode cX11_counted 57 = .ok (.iload 4, 2) := by decide +kernel
theorem dX11_counted_59 : decode cX11_counted 59 = .ok (.iconst 1, 1) := by decide +kernel
theorem dX11_counted_60 : decode cX11_counted 60 = .ok (.iadd, 1) := by decide +kernel
theorem dX11_counted_61 : decode cX11_counted 61 = .ok (.laload, 1) := by decide +kernel
theorem dX11_counted_62 : decode cX11_counted 62 = .ok (.aload_n 0, 1) := by decide +kernel
theorem dX11_counted_63 : decode cX11_counted 63 = .ok (.getfield 55, 3) := by decide +kernel
theorem dX11_counted_66 : decode cX11_counted 66 = .ok (.iload 4, 2) := by decide +kernel
theorem dX11_counted_68 : decode cX11_counted 68 = .ok (.iconst 2, 1) := by decide +kernel
theorem dX11_counted_69 : decode cX11_counted 69 = .ok (.iadd, 1) := by decide +kernel
theorem dX11_counted_70 : decode cX11_counted 70 = .ok (.laload, 1) := by decide +kernel
theorem dX11_counted_71 : decode cX11_counted 71 = .ok (.invokevirtual 111, 3) := by decide +kernel
theorem dX11_counted_74 : decode cX11_counted 74 = .ok (.ifCond .ne 12, 3) := by decide +kernel
theorem dX11_counted_77 : decode cX11_counted 77 = .ok (.iinc 3 1, 3) := by decide +kernel
theorem dX11_counted_80 : decode cX11_counted 80 = .ok (.iinc 4 3, 3) := by decide +kernel
theorem dX11_counted_83 : decode cX11_counted 83 = .ok (.goto (-43), 3) := by decide +kernel
theorem dX11_counted_86 : decode cX11_counted 86 = .ok (.iload_n 3, 1) := by decide +kernel
theorem dX11_counted_87 : decode cX11_counted 87 = .ok (.ireturn, 1) := by decide +kernel
theorem dX11_live_0 : decode cX11_live 0 = .ok (.aload_n 0, 1) := by decide +kernel
theorem dX11_live_1 : decode cX11_live 1 = .ok (.getfield 10, 3) := by decide +kernel
theorem dX11_live_4 : decode cX11_live 4 = .ok (.getfield 87, 3) := by decide +kernel
theorem dX11_live_7 : decode cX11_live 7 = .ok (.iload_n 1, 1) := by decide +kernel
theorem dX11_live_8 : decode cX11_live 8 = .ok (.invokevirtual 97, 3) := by decide +kernel
theorem dX11_live_11 : decode cX11_live 11 = .ok (.ifCond .eq 18, 3) := by decide +kernel
theorem dX11_live_14 : decode cX11_live 14 = .ok (.iload_n 3, 1) := by decide +kernel
theorem dX11_live_15 : decode cX11_live 15 = .ok (.invokestatic 80, 3) := by decide +kernel
theorem dX11_live_18 : decode cX11_live 18 = .ok (.ifCond .eq 11, 3) := by decide +kernel
theorem dX11_live_21 : decode cX11_live 21 = .ok (.iload 4, 2) := by decide +kernel
theorem dX11_live_23 : decode cX11_live 23 = .ok (.invokestatic 80, 3) := by decide +kernel
theorem dX11_live_26 : decode cX11_live 26 = .ok (.ifCond .ne 6, 3) := by decide +kernel
theorem dX11_live_29 : decode cX11_live 29 = .ok (.bipush (-2), 2) := by decide +kernel
theorem dX11_live_31 : decode cX11_live 31 = .ok (.ireturn, 1) := by decide +kernel
theorem dX11_live_32 : decode cX11_live 32 = .ok (.iload_n 2, 1) := by decide +kernel
theorem dX11_live_33 : decode cX11_live 33 = .ok (.iconst (-1), 1) := by decide +kernel
theorem dX11_live_34 : decode cX11_live 34 = .ok (.if_icmp .eq 13, 3) := by decide +kernel
theorem dX11_live_37 : decode cX11_live 37 = .ok (.iload_n 2, 1) := by decide +kernel
theorem dX11_live_38 : decode cX11_live 38 = .ok (.invokestatic 118, 3) := by decide +kernel
theorem dX11_live_41 : decode cX11_live 41 = .ok (.ifCond .ne 6, 3) := by decide +kernel
theorem dX11_live_44 : decode cX11_live 44 = .ok (.bipush (-2), 2) := by decide +kernel
theorem dX11_live_46 : decode cX11_live 46 = .ok (.ireturn, 1) := by decide +kernel
theorem dX11_live_47 : decode cX11_live 47 = .ok (.aload_n 0, 1) := by decide +kernel
theorem dX11_live_48 : decode cX11_live 48 = .ok (.getfield 37, 3) := by decide +kernel
theorem dX11_live_51 : decode cX11_live 51 = .ok (.aload_n 0, 1) := by decide +kernel
theorem dX11_live_52 : decode cX11_live 52 = .ok (.getfield 10, 3) := by decide +kernel
theorem dX11_live_55 : decode cX11_live 55 = .ok (.getfield 87, 3) := by decide +kernel
theorem dX11_live_58 : decode cX11_live 58 = .ok (.iload_n 1, 1) := by decide +kernel
theorem dX11_live_59 : decode cX11_live 59 = .ok (.iload_n 3, 1) := by decide +kernel
theorem dX11_live_60 : decode cX11_live 60 = .ok (.iload 4, 2) := by decide +kernel
theorem dX11_live_62 : decode cX11_live 62 = .ok (.invokestatic 121, 3) := by decide +kernel
theorem dX11_live_65 : decode cX11_live 65 = .ok (.invokevirtual 126, 3) := by decide +kernel
theorem dX11_live_68 : decode cX11_live 68 = .ok (.iload_n 2, 1) := by decide +kernel
theorem dX11_live_69 : decode cX11_live 69 = .ok (.iconst (-1), 1) := by decide +kernel
theorem dX11_live_70 : decode cX11_live 70 = .ok (.if_icmp .ne 13, 3) := by decide +kernel
theorem dX11_live_73 : decode cX11_live 73 = .ok (.aload_n 0, 1) := by decide +kernel
theorem dX11_live_74 : decode cX11_live 74 = .ok (.getfield 37, 3) := by decide +kernel
theorem dX11_live_77 : decode cX11_live 77 = .ok (.invokevirtual 130, 3) := by decide +kernel
theorem dX11_live_80 : decode cX11_live 80 = .ok (.goto 12, 3) := by decide +kernel
theorem dX11_live_83 : decode cX11_live 83 = .ok (.aload_n 0, 1) := by decide +kernel
theorem dX11_live_84 : decode cX11_live 84 = .ok (.getfield 37, 3) := by decide +kernel
theorem dX11_live_87 : decode cX11_live 87 = .ok (.getfield 134, 3) := by decide +kernel
theorem dX11_live_90 : decode cX11_live 90 = .ok (.iload_n 2, 1) := by decide +kernel
theorem dX11_live_91 : decode cX11_live 91 = .ok (.iaload, 1) := by decide +kernel
theorem dX11_live_92 : decode cX11_live 92 = .ok (.ireturn, 1) := by decide +kernel
theorem dX11_name_0 : decode cX11_name 0 = .ok (.iload_n 3, 1) := by decide +kernel
theorem dX11_name_1 : decode cX11_name 1 = .ok (.iconst (-1), 1) := by decide +kernel
theorem dX11_name_2 : decode cX11_name 2 = .ok (.if_icmp .eq 24, 3) := by decide +kernel
theorem dX11_name_5 : decode cX11_name 5 = .ok (.iload_n 3, 1) := by decide +kernel
theorem dX11_name_6 : decode cX11_name 6 = .ok (.bipush (-9), 2) := by decide +kernel
theorem dX11_name_8 : decode cX11_name 8 = .ok (.if_icmp .eq 18, 3) := by decide +kernel
theorem dX11_name_11 : decode cX11_name 11 = .ok (.iload_n 3, 1) := by decide +kernel
theorem dX11_name_12 : decode cX11_name 12 = .ok (.ifCond .lt 18, 3) := by decide +kernel
theorem dX11_name_15 : decode cX11_name 15 = .ok (.iload_n 3, 1) := by decide +kernel
theorem dX11_name_16 : decode cX11_name 16 = .ok (.aload_n 0, 1) := by decide +kernel
theorem dX11_name_17 : decode cX11_name 17 = .ok (.getfield 10, 3) := by decide +kernel
theorem dX11_name_20 : decode cX11_name 20 = .ok (.getfield 84, 3) := by decide +kernel
theorem dX11_name_23 : decode cX11_name 23 = .ok (.if_icmp .gt 7, 3) := by decide +kernel
theorem dX11_name_26 : decode cX11_name 26 = .ok (.iconst 1, 1) := by decide +kernel
theorem dX11_name_27 : decode cX11_name 27 = .ok (.goto 4, 3) := by decide +kernel
theorem dX11_name_30 : decode cX11_name 30 = .ok (.iconst 0, 1) := by decide +kernel
theorem dX11_name_31 : decode cX11_name 31 = .ok (.istore 4, 2) := by decide +kernel
theorem dX11_name_33 : decode cX11_name 33 = .ok (.iload 4, 2) := by decide +kernel
theorem dX11_name_35 : decode cX11_name 35 = .ok (.ifCond .eq 36, 3) := by decide +kernel
theorem dX11_name_38 : decode cX11_name 38 = .ok (.aload_n 0, 1) := by decide +kernel
theorem dX11_name_39 : decode cX11_name 39 = .ok (.getfield 10, 3) := by decide +kernel
theorem dX11_name_42 : decode cX11_name 42 = .ok (.getfield 87, 3) := by decide +kernel
theorem dX11_name_45 : decode cX11_name 45 = .ok (.iload_n 1, 1) := by decide +kernel
theorem dX11_name_46 : decode cX11_name 46 = .ok (.invokevirtual 97, 3) := by decide +kernel
theorem dX11_name_49 : decode cX11_name 49 = .ok (.ifCond .eq 22, 3) := by decide +kernel
theorem dX11_name_52 : decode cX11_name 52 = .ok (.iload_n 2, 1) := by decide +kernel
theorem dX11_name_53 : decode cX11_name 53 = .ok (.invokestatic 118, 3) := by decide +kernel
theorem dX11_name_56 : decode cX11_name 56 = .ok (.ifCond .eq 15, 3) := by decide +kernel
theorem dX11_name_59 : decode cX11_name 59 = .ok (.aload_n 0, 1) := by decide +kernel
theorem dX11_name_60 : decode cX11_name 60 = .ok (.getfield 23, 3) := by decide +kernel
theorem dX11_name_63 : decode cX11_name 63 = .ok (.bipush 12, 2) := by decide +kernel
theorem dX11_name_65 : decode cX11_name 65 = .ok (.invokevirtual 139, 3) := by decide +kernel
theorem dX11_name_68 : decode cX11_name 68 = .ok (.ifCond .ne 6, 3) := by decide +kernel
theorem dX11_name_71 : decode cX11_name 71 = .ok (.bipush (-2), 2) := by decide +kernel
theorem dX11_name_73 : decode cX11_name 73 = .ok (.ireturn, 1) := by decide +kernel
theorem dX11_name_74 : decode cX11_name 74 = .ok (.aload_n 0, 1) := by decide +kernel
theorem dX11_name_75 : decode cX11_name 75 = .ok (.getfield 10, 3) := by decide +kernel
theorem dX11_name_78 : decode cX11_name 78 = .ok (.getfield 142, 3) := by decide +kernel
theorem dX11_name_81 : decode cX11_name 81 = .ok (.aload_n 0, 1) := by decide +kernel
theorem dX11_name_82 : decode cX11_name 82 = .ok (.getfield 23, 3) := by decide +kernel
theorem dX11_name_85 : decode cX11_name 85 = .ok (.iload_n 1, 1) := by decide +kernel
theorem dX11_name_86 : decode cX11_name 86 = .ok (.iload_n 2, 1) := by decide +kernel
theorem dX11_name_87 : decode cX11_name 87 = .ok (.iload_n 3, 1) := by decide +kernel
theorem dX11_name_88 : decode cX11_name 88 = .ok (.invokevirtual 146, 3) := by decide +kernel
theorem dX11_name_91 : decode cX11_name 91 = .ok (.istore 5, 2) := by decide +kernel
theorem dX11_name_93 : decode cX11_name 93 = .ok (.iload 5, 2) := by decide +kernel
theorem dX11_name_95 : decode cX11_name 95 = .ok (.ifCond .lt 11, 3) := by decide +kernel
theorem dX11_name_98 : decode cX11_name 98 = .ok (.aload_n 0, 1) := by decide +kernel
theorem dX11_name_99 : decode cX11_name 99 = .ok (.getfield 23, 3) := by decide +kernel
theorem dX11_name_102 : decode cX11_name 102 = .ok (.iconst 0, 1) := by decide +kernel
theorem dX11_name_103 : decode cX11_name 103 = .ok (.putfield 72, 3) := by decide +kernel
theorem dX11_name_106 : decode cX11_name 106 = .ok (.iload 5, 2) := by decide +kernel
theorem dX11_name_108 : decode cX11_name 108 = .ok (.ireturn, 1) := by decide +kernel
theorem dX11_spelling_0 : decode cX11_spelling 0 = .ok (.iload_n 1, 1) := by decide +kernel
theorem dX11_spelling_1 : decode cX11_spelling 1 = .ok (.invokestatic 118, 3) := by decide +kernel
theorem dX11_spelling_4 : decode cX11_spelling 4 = .ok (.ifCond .ne 6, 3) := by decide +kernel
theorem dX11_spelling_7 : decode cX11_spelling 7 = .ok (.bipush (-2), 2) := by decide +kernel
theorem dX11_spelling_9 : decode cX11_spelling 9 = .ok (.ireturn, 1) := by decide +kernel
theorem dX11_spelling_10 : decode cX11_spelling 10 = .ok (.aload_n 0, 1) := by decide +kernel
theorem dX11_spelling_11 : decode cX11_spelling 11 = .ok (.getfield 10, 3) := by decide +kernel
theorem dX11_spelling_14 : decode cX11_spelling 14 = .ok (.getfield 142, 3) := by decide +kernel
theorem dX11_spelling_17 : decode cX11_spelling 17 = .ok (.getfield 150, 3) := by decide +kernel
theorem dX11_spelling_20 : decode cX11_spelling 20 = .ok (.bipush 12, 2) := by decide +kernel
theorem dX11_spelling_22 : decode cX11_spelling 22 = .ok (.if_icmp .lt 6, 3) := by decide +kernel
theorem dX11_spelling_25 : decode cX11_spelling 25 = .ok (.bipush (-3), 2) := by decide +kernel
theorem dX11_spelling_27 : decode cX11_spelling 27 = .ok (.ireturn, 1) := by decide +kernel
theorem dX11_spelling_28 : decode cX11_spelling 28 = .ok (.aload_n 0, 1) := by decide +kernel
theorem dX11_spelling_29 : decode cX11_spelling 29 = .ok (.getfield 10, 3) := by decide +kernel
theorem dX11_spelling_32 : decode cX11_spelling 32 = .ok (.getfield 142, 3) := by decide +kernel
theorem dX11_spelling_35 : decode cX11_spelling 35 = .ok (.aload_n 0, 1) := by decide +kernel
theorem dX11_spelling_36 : decode cX11_spelling 36 = .ok (.getfield 23, 3) := by decide +kernel
theorem dX11_spelling_39 : decode cX11_spelling 39 = .ok (.iload_n 1, 1) := by decide +kernel
theorem dX11_spelling_40 : decode cX11_spelling 40 = .ok (.aload_n 0, 1) := by decide +kernel
theorem dX11_spelling_41 : decode cX11_spelling 41 = .ok (.getfield 10, 3) := by decide +kernel
theorem dX11_spelling_44 : decode cX11_spelling 44 = .ok (.getfield 84, 3) := by decide +kernel
theorem dX11_spelling_47 : decode cX11_spelling 47 = .ok (.invokevirtual 153, 3) := by decide +kernel
theorem dX11_spelling_50 : decode cX11_spelling 50 = .ok (.istore_n 2, 1) := by decide +kernel
theorem dX11_spelling_51 : decode cX11_spelling 51 = .ok (.aload_n 0, 1) := by decide +kernel
theorem dX11_spelling_52 : decode cX11_spelling 52 = .ok (.iload_n 2, 1) := by decide +kernel
theorem dX11_spelling_53 : decode cX11_spelling 53 = .ok (.invokevirtual 157, 3) := by decide +kernel
theorem dX11_spelling_56 : decode cX11_spelling 56 = .ok (.ireturn, 1) := by decide +kernel
theorem dX11_act_0 : decode cX11_act 0 = .ok (.aload_n 0, 1) := by decide +kernel
theorem dX11_act_1 : decode cX11_act 1 = .ok (.getfield 10, 3) := by decide +kernel
theorem dX11_act_4 : decode cX11_act 4 = .ok (.getfield 161, 3) := by decide +kernel
theorem dX11_act_7 : decode cX11_act 7 = .ok (.getfield 165, 3) := by decide +kernel
theorem dX11_act_10 : decode cX11_act 10 = .ok (.bipush 8, 2) := by decide +kernel
theorem dX11_act_12 : decode cX11_act 12 = .ok (.if_icmp .lt 6, 3) := by decide +kernel
theorem dX11_act_15 : decode cX11_act 15 = .ok (.bipush (-3), 2) := by decide +kernel
theorem dX11_act_17 : decode cX11_act 17 = .ok (.ireturn, 1) := by decide +kernel
theorem dX11_act_18 : decode cX11_act 18 = .ok (.aload_n 0, 1) := by decide +kernel
theorem dX11_act_19 : decode cX11_act 19 = .ok (.getfield 10, 3) := by decide +kernel
theorem dX11_act_22 : decode cX11_act 22 = .ok (.getfield 161, 3) := by decide +kernel
theorem dX11_act_25 : decode cX11_act 25 = .ok (.aload_n 0, 1) := by decide +kernel
theorem dX11_act_26 : decode cX11_act 26 = .ok (.getfield 23, 3) := by decide +kernel
theorem dX11_act_29 : decode cX11_act 29 = .ok (.aload_n 0, 1) := by decide +kernel
theorem dX11_act_30 : decode cX11_act 30 = .ok (.getfield 10, 3) := by decide +kernel
theorem dX11_act_33 : decode cX11_act 33 = .ok (.getfield 84, 3) := by decide +kernel
theorem dX11_act_36 : decode cX11_act 36 = .ok (.invokevirtual 169, 3) := by decide +kernel
theorem dX11_act_39 : decode cX11_act 39 = .ok (.istore_n 1, 1) := by decide +kernel
theorem dX11_act_40 : decode cX11_act 40 = .ok (.aload_n 0, 1) := by decide +kernel
theorem dX11_act_41 : decode cX11_act 41 = .ok (.iload_n 1, 1) := by decide +kernel
theorem dX11_act_42 : decode cX11_act 42 = .ok (.invokevirtual 157, 3) := by decide +kernel
theorem dX11_act_45 : decode cX11_act 45 = .ok (.ireturn, 1) := by decide +kernel
theorem dX11_fault_0 : decode cX11_fault 0 = .ok (.iload_n 1, 1) := by decide +kernel
theorem dX11_fault_1 : decode cX11_fault 1 = .ok (.ifCond .ne 11, 3) := by decide +kernel
theorem dX11_fault_4 : decode cX11_fault 4 = .ok (.aload_n 0, 1) := by decide +kernel
theorem dX11_fault_5 : decode cX11_fault 5 = .ok (.getfield 23, 3) := by decide +kernel
theorem dX11_fault_8 : decode cX11_fault 8 = .ok (.getfield 173, 3) := by decide +kernel
theorem dX11_fault_11 : decode cX11_fault 11 = .ok (.ireturn, 1) := by decide +kernel
theorem dX11_fault_12 : decode cX11_fault 12 = .ok (.iload_n 1, 1) := by decide +kernel
theorem dX11_fault_13 : decode cX11_fault 13 = .ok (.iconst 1, 1) := by decide +kernel
theorem dX11_fault_14 : decode cX11_fault 14 = .ok (.if_icmp .ne 13, 3) := by decide +kernel
theorem dX11_fault_17 : decode cX11_fault 17 = .ok (.aload_n 0, 1) := by decide +kernel
theorem dX11_fault_18 : decode cX11_fault 18 = .ok (.getfield 23, 3) := by decide +kernel
theorem dX11_fault_21 : decode cX11_fault 21 = .ok (.getfield 176, 3) := by decide +kernel
theorem dX11_fault_24 : decode cX11_fault 24 = .ok (.goto 4, 3) := by decide +kernel
theorem dX11_fault_27 : decode cX11_fault 27 = .ok (.iconst (-1), 1) := by decide +kernel
theorem dX11_fault_28 : decode cX11_fault 28 = .ok (.ireturn, 1) := by decide +kernel
theorem dX11_spell_0 : decode cX11_spell 0 = .ok (.aload_n 0, 1) := by decide +kernel
theorem dX11_spell_1 : decode cX11_spell 1 = .ok (.getfield 10, 3) := by decide +kernel
theorem dX11_spell_4 : decode cX11_spell 4 = .ok (.getfield 142, 3) := by decide +kernel
theorem dX11_spell_7 : decode cX11_spell 7 = .ok (.iload_n 1, 1) := by decide +kernel
theorem dX11_spell_8 : decode cX11_spell 8 = .ok (.invokevirtual 179, 3) := by decide +kernel
theorem dX11_spell_11 : decode cX11_spell 11 = .ok (.ifCond .eq 10, 3) := by decide +kernel
theorem dX11_spell_14 : decode cX11_spell 14 = .ok (.iload_n 2, 1) := by decide +kernel
theorem dX11_spell_15 : decode cX11_spell 15 = .ok (.invokestatic 80, 3) := by decide +kernel
theorem dX11_spell_18 : decode cX11_spell 18 = .ok (.ifCond .ne 6, 3) := by decide +kernel
theorem dX11_spell_21 : decode cX11_spell 21 = .ok (.bipush (-2), 2) := by decide +kernel
