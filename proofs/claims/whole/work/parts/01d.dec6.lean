theorem dX12_isNear_17 : decode cX12_isNear 17 = .ok (.iconst 2, 1) := by decide +kernel
theorem dX12_isNear_18 : decode cX12_isNear 18 = .ok (.iload_n 2, 1) := by decide +kernel
theorem dX12_isNear_19 : decode cX12_isNear 19 = .ok (.imul, 1) := by decide +kernel
theorem dX12_isNear_20 : decode cX12_isNear 20 = .ok (.iadd, 1) := by decide +kernel
theorem dX12_isNear_21 : decode cX12_isNear 21 = .ok (.iaload, 1) := by decide +kernel
theorem dX12_isNear_22 : decode cX12_isNear 22 = .ok (.isub, 1) := by decide +kernel
theorem dX12_isNear_23 : decode cX12_isNear 23 = .ok (.istore 4, 2) := by decide +kernel
theorem dX12_isNear_25 : decode cX12_isNear 25 = .ok (.aload_n 0, 1) := by decide +kernel
theorem dX12_isNear_26 : decode cX12_isNear 26 = .ok (.getfield 9, 3) := by decide +kernel
theorem dX12_isNear_29 : decode cX12_isNear 29 = .ok (.bipush 10, 2) := by decide +kernel
theorem dX12_isNear_31 : decode cX12_isNear 31 = .ok (.iconst 2, 1) := by decide +kernel
theorem dX12_isNear_32 : decode cX12_isNear 32 = .ok (.iload_n 1, 1) := by decide +kernel
theorem dX12_isNear_33 : decode cX12_isNear 33 = .ok (.imul, 1) := by decide +kernel
theorem dX12_isNear_34 : decode cX12_isNear 34 = .ok (.iadd, 1) := by decide +kernel
theorem dX12_isNear_35 : decode cX12_isNear 35 = .ok (.iconst 1, 1) := by decide +kernel
theorem dX12_isNear_36 : decode cX12_isNear 36 = .ok (.iadd, 1) := by decide +kernel
theorem dX12_isNear_37 : decode cX12_isNear 37 = .ok (.iaload, 1) := by decide +kernel
theorem dX12_isNear_38 : decode cX12_isNear 38 = .ok (.aload_n 0, 1) := by decide +kernel
theorem dX12_isNear_39 : decode cX12_isNear 39 = .ok (.getfield 9, 3) := by decide +kernel
theorem dX12_isNear_42 : decode cX12_isNear 42 = .ok (.bipush 10, 2) := by decide +kernel
theorem dX12_isNear_44 : decode cX12_isNear 44 = .ok (.iconst 2, 1) := by decide +kernel
theorem dX12_isNear_45 : decode cX12_isNear 45 = .ok (.iload_n 2, 1) := by decide +kernel
theorem dX12_isNear_46 : decode cX12_isNear 46 = .ok (.imul, 1) := by decide +kernel
theorem dX12_isNear_47 : decode cX12_isNear 47 = .ok (.iadd, 1) := by decide +kernel
theorem dX12_isNear_48 : decode cX12_isNear 48 = .ok (.iconst 1, 1) := by decide +kernel
theorem dX12_isNear_49 : decode cX12_isNear 49 = .ok (.iadd, 1) := by decide +kernel
theorem dX12_isNear_50 : decode cX12_isNear 50 = .ok (.iaload, 1) := by decide +kernel
theorem dX12_isNear_51 : decode cX12_isNear 51 = .ok (.isub, 1) := by decide +kernel
theorem dX12_isNear_52 : decode cX12_isNear 52 = .ok (.istore 5, 2) := by decide +kernel
theorem dX12_isNear_54 : decode cX12_isNear 54 = .ok (.iload 4, 2) := by decide +kernel
theorem dX12_isNear_56 : decode cX12_isNear 56 = .ok (.i2l, 1) := by decide +kernel
theorem dX12_isNear_57 : decode cX12_isNear 57 = .ok (.iload 4, 2) := by decide +kernel
theorem dX12_isNear_59 : decode cX12_isNear 59 = .ok (.i2l, 1) := by decide +kernel
theorem dX12_isNear_60 : decode cX12_isNear 60 = .ok (.lmul, 1) := by decide +kernel
theorem dX12_isNear_61 : decode cX12_isNear 61 = .ok (.iload 5, 2) := by decide +kernel
theorem dX12_isNear_63 : decode cX12_isNear 63 = .ok (.i2l, 1) := by decide +kernel
theorem dX12_isNear_64 : decode cX12_isNear 64 = .ok (.iload 5, 2) := by decide +kernel
theorem dX12_isNear_66 : decode cX12_isNear 66 = .ok (.i2l, 1) := by decide +kernel
theorem dX12_isNear_67 : decode cX12_isNear 67 = .ok (.lmul, 1) := by decide +kernel
theorem dX12_isNear_68 : decode cX12_isNear 68 = .ok (.ladd, 1) := by decide +kernel
theorem dX12_isNear_69 : decode cX12_isNear 69 = .ok (.iload_n 3, 1) := by decide +kernel
theorem dX12_isNear_70 : decode cX12_isNear 70 = .ok (.i2l, 1) := by decide +kernel
theorem dX12_isNear_71 : decode cX12_isNear 71 = .ok (.iload_n 3, 1) := by decide +kernel
theorem dX12_isNear_72 : decode cX12_isNear 72 = .ok (.i2l, 1) := by decide +kernel
theorem dX12_isNear_73 : decode cX12_isNear 73 = .ok (.lmul, 1) := by decide +kernel
theorem dX12_isNear_74 : decode cX12_isNear 74 = .ok (.lcmp, 1) := by decide +kernel
theorem dX12_isNear_75 : decode cX12_isNear 75 = .ok (.ifCond .gt 7, 3) := by decide +kernel
theorem dX12_isNear_78 : decode cX12_isNear 78 = .ok (.iconst 1, 1) := by decide +kernel
theorem dX12_isNear_79 : decode cX12_isNear 79 = .ok (.goto 4, 3) := by decide +kernel
theorem dX12_isNear_82 : decode cX12_isNear 82 = .ok (.iconst 0, 1) := by decide +kernel
theorem dX12_isNear_83 : decode cX12_isNear 83 = .ok (.ireturn, 1) := by decide +kernel
theorem dX12_isTooAlike_0 : decode cX12_isTooAlike 0 = .ok (.aload_n 0, 1) := by decide +kernel
theorem dX12_isTooAlike_1 : decode cX12_isTooAlike 1 = .ok (.iconst 2, 1) := by decide +kernel
theorem dX12_isTooAlike_2 : decode cX12_isTooAlike 2 = .ok (.iconst 1, 1) := by decide +kernel
theorem dX12_isTooAlike_3 : decode cX12_isTooAlike 3 = .ok (.iconst (-1), 1) := by decide +kernel
theorem dX12_isTooAlike_4 : decode cX12_isTooAlike 4 = .ok (.invokevirtual 379, 3) := by decide +kernel
theorem dX12_isTooAlike_7 : decode cX12_isTooAlike 7 = .ok (.istore_n 2, 1) := by decide +kernel
theorem dX12_isTooAlike_8 : decode cX12_isTooAlike 8 = .ok (.iload_n 2, 1) := by decide +kernel
theorem dX12_isTooAlike_9 : decode cX12_isTooAlike 9 = .ok (.iconst (-1), 1) := by decide +kernel
theorem dX12_isTooAlike_10 : decode cX12_isTooAlike 10 = .ok (.if_icmp .ne 5, 3) := by decide +kernel
theorem dX12_isTooAlike_13 : decode cX12_isTooAlike 13 = .ok (.iconst 0, 1) := by decide +kernel
theorem dX12_isTooAlike_14 : decode cX12_isTooAlike 14 = .ok (.ireturn, 1) := by decide +kernel
theorem dX12_isTooAlike_15 : decode cX12_isTooAlike 15 = .ok (.aload_n 0, 1) := by decide +kernel
theorem dX12_isTooAlike_16 : decode cX12_isTooAlike 16 = .ok (.iload_n 1, 1) := by decide +kernel
theorem dX12_isTooAlike_17 : decode cX12_isTooAlike 17 = .ok (.iconst 0, 1) := by decide +kernel
theorem dX12_isTooAlike_18 : decode cX12_isTooAlike 18 = .ok (.invokevirtual 265, 3) := by decide +kernel
theorem dX12_isTooAlike_21 : decode cX12_isTooAlike 21 = .ok (.istore_n 3, 1) := by decide +kernel
theorem dX12_isTooAlike_22 : decode cX12_isTooAlike 22 = .ok (.iconst 0, 1) := by decide +kernel
theorem dX12_isTooAlike_23 : decode cX12_isTooAlike 23 = .ok (.istore 4, 2) := by decide +kernel
theorem dX12_isTooAlike_25 : decode cX12_isTooAlike 25 = .ok (.iload 4, 2) := by decide +kernel
theorem dX12_isTooAlike_27 : decode cX12_isTooAlike 27 = .ok (.aload_n 0, 1) := by decide +kernel
theorem dX12_isTooAlike_28 : decode cX12_isTooAlike 28 = .ok (.getfield 9, 3) := by decide +kernel
theorem dX12_isTooAlike_31 : decode cX12_isTooAlike 31 = .ok (.iconst 1, 1) := by decide +kernel
theorem dX12_isTooAlike_32 : decode cX12_isTooAlike 32 = .ok (.iaload, 1) := by decide +kernel
theorem dX12_isTooAlike_33 : decode cX12_isTooAlike 33 = .ok (.if_icmp .ge 87, 3) := by decide +kernel
theorem dX12_isTooAlike_36 : decode cX12_isTooAlike 36 = .ok (.iload 4, 2) := by decide +kernel
theorem dX12_isTooAlike_38 : decode cX12_isTooAlike 38 = .ok (.iload_n 3, 1) := by decide +kernel
theorem dX12_isTooAlike_39 : decode cX12_isTooAlike 39 = .ok (.if_icmp .eq 75, 3) := by decide +kernel
theorem dX12_isTooAlike_42 : decode cX12_isTooAlike 42 = .ok (.aload_n 0, 1) := by decide +kernel
theorem dX12_isTooAlike_43 : decode cX12_isTooAlike 43 = .ok (.iload 4, 2) := by decide +kernel
theorem dX12_isTooAlike_45 : decode cX12_isTooAlike 45 = .ok (.iload_n 3, 1) := by decide +kernel
theorem dX12_isTooAlike_46 : decode cX12_isTooAlike 46 = .ok (.iload_n 2, 1) := by decide +kernel
theorem dX12_isTooAlike_47 : decode cX12_isTooAlike 47 = .ok (.invokevirtual 382, 3) := by decide +kernel
theorem dX12_isTooAlike_50 : decode cX12_isTooAlike 50 = .ok (.ifCond .ne 6, 3) := by decide +kernel
theorem dX12_isTooAlike_53 : decode cX12_isTooAlike 53 = .ok (.goto 61, 3) := by decide +kernel
theorem dX12_isTooAlike_56 : decode cX12_isTooAlike 56 = .ok (.iconst 0, 1) := by decide +kernel
theorem dX12_isTooAlike_57 : decode cX12_isTooAlike 57 = .ok (.istore 5, 2) := by decide +kernel
theorem dX12_isTooAlike_59 : decode cX12_isTooAlike 59 = .ok (.iload 5, 2) := by decide +kernel
theorem dX12_isTooAlike_61 : decode cX12_isTooAlike 61 = .ok (.iconst 3, 1) := by decide +kernel
theorem dX12_isTooAlike_62 : decode cX12_isTooAlike 62 = .ok (.if_icmp .ge 52, 3) := by decide +kernel
theorem dX12_isTooAlike_65 : decode cX12_isTooAlike 65 = .ok (.aload_n 0, 1) := by decide +kernel
theorem dX12_isTooAlike_66 : decode cX12_isTooAlike 66 = .ok (.iload 4, 2) := by decide +kernel
theorem dX12_isTooAlike_68 : decode cX12_isTooAlike 68 = .ok (.iload 5, 2) := by decide +kernel
theorem dX12_isTooAlike_70 : decode cX12_isTooAlike 70 = .ok (.aload_n 0, 1) := by decide +kernel
theorem dX12_isTooAlike_71 : decode cX12_isTooAlike 71 = .ok (.invokevirtual 138, 3) := by decide +kernel
theorem dX12_isTooAlike_74 : decode cX12_isTooAlike 74 = .ok (.invokevirtual 385, 3) := by decide +kernel
theorem dX12_isTooAlike_77 : decode cX12_isTooAlike 77 = .ok (.istore 6, 2) := by decide +kernel
theorem dX12_isTooAlike_79 : decode cX12_isTooAlike 79 = .ok (.iload 6, 2) := by decide +kernel
theorem dX12_isTooAlike_81 : decode cX12_isTooAlike 81 = .ok (.iconst (-1), 1) := by decide +kernel
theorem dX12_isTooAlike_82 : decode cX12_isTooAlike 82 = .ok (.if_icmp .eq 26, 3) := by decide +kernel
theorem dX12_isTooAlike_85 : decode cX12_isTooAlike 85 = .ok (.aload_n 0, 1) := by decide +kernel
theorem dX12_isTooAlike_86 : decode cX12_isTooAlike 86 = .ok (.iload_n 1, 1) := by decide +kernel
theorem dX12_isTooAlike_87 : decode cX12_isTooAlike 87 = .ok (.iload 6, 2) := by decide +kernel
theorem dX12_isTooAlike_89 : decode cX12_isTooAlike 89 = .ok (.aload_n 0, 1) := by decide +kernel
theorem dX12_isTooAlike_90 : decode cX12_isTooAlike 90 = .ok (.invokevirtual 138, 3) := by decide +kernel
theorem dX12_isTooAlike_93 : decode cX12_isTooAlike 93 = .ok (.invokevirtual 303, 3) := by decide +kernel
theorem dX12_isTooAlike_96 : decode cX12_isTooAlike 96 = .ok (.aload_n 0, 1) := by decide +kernel
theorem dX12_isTooAlike_97 : decode cX12_isTooAlike 97 = .ok (.iconst 2, 1) := by decide +kernel
theorem dX12_isTooAlike_98 : decode cX12_isTooAlike 98 = .ok (.iconst 2, 1) := by decide +kernel
theorem dX12_isTooAlike_99 : decode cX12_isTooAlike 99 = .ok (.iconst 0, 1) := by decide +kernel
theorem dX12_isTooAlike_100 : decode cX12_isTooAlike 100 = .ok (.invokevirtual 379, 3) := by decide +kernel
theorem dX12_isTooAlike_103 : decode cX12_isTooAlike 103 = .ok (.if_icmp .gt 5, 3) := by decide +kernel
theorem dX12_isTooAlike_106 : decode cX12_isTooAlike 106 = .ok (.iconst 1, 1) := by decide +kernel
theorem dX12_isTooAlike_107 : decode cX12_isTooAlike 107 = .ok (.ireturn, 1) := by decide +kernel
theorem dX12_isTooAlike_108 : decode cX12_isTooAlike 108 = .ok (.iinc 5 1, 3) := by decide +kernel
theorem dX12_isTooAlike_111 : decode cX12_isTooAlike 111 = .ok (.goto (-52), 3) := by decide +kernel
theorem dX12_isTooAlike_114 : decode cX12_isTooAlike 114 = .ok (.iinc 4 1, 3) := by decide +kernel
theorem dX12_isTooAlike_117 : decode cX12_isTooAlike 117 = .ok (.goto (-92), 3) := by decide +kernel
theorem dX12_isTooAlike_120 : decode cX12_isTooAlike 120 = .ok (.iconst 0, 1) := by decide +kernel
theorem dX12_isTooAlike_121 : decode cX12_isTooAlike 121 = .ok (.ireturn, 1) := by decide +kernel
theorem dX12_close_0 : decode cX12_close 0 = .ok (.aload_n 0, 1) := by decide +kernel
theorem dX12_close_1 : decode cX12_close 1 = .ok (.iload_n 1, 1) := by decide +kernel
theorem dX12_close_2 : decode cX12_close 2 = .ok (.invokevirtual 374, 3) := by decide +kernel
theorem dX12_close_5 : decode cX12_close 5 = .ok (.ifCond .ne 6, 3) := by decide +kernel
theorem dX12_close_8 : decode cX12_close 8 = .ok (.bipush (-2), 2) := by decide +kernel
theorem dX12_close_10 : decode cX12_close 10 = .ok (.ireturn, 1) := by decide +kernel
theorem dX12_close_11 : decode cX12_close 11 = .ok (.aload_n 0, 1) := by decide +kernel
theorem dX12_close_12 : decode cX12_close 12 = .ok (.getfield 9, 3) := by decide +kernel
theorem dX12_close_15 : decode cX12_close 15 = .ok (.aload_n 0, 1) := by decide +kernel
theorem dX12_close_16 : decode cX12_close 16 = .ok (.iload_n 1, 1) := by decide +kernel
theorem dX12_close_17 : decode cX12_close 17 = .ok (.invokevirtual 371, 3) := by decide +kernel
theorem dX12_close_20 : decode cX12_close 20 = .ok (.iconst 1, 1) := by decide +kernel
theorem dX12_close_21 : decode cX12_close 21 = .ok (.iadd, 1) := by decide +kernel
theorem dX12_close_22 : decode cX12_close 22 = .ok (.iaload, 1) := by decide +kernel
theorem dX12_close_23 : decode cX12_close 23 = .ok (.ifCond .ne 6, 3) := by decide +kernel
theorem dX12_close_26 : decode cX12_close 26 = .ok (.bipush (-5), 2) := by decide +kernel
theorem dX12_close_28 : decode cX12_close 28 = .ok (.ireturn, 1) := by decide +kernel
theorem dX12_close_29 : decode cX12_close 29 = .ok (.aload_n 0, 1) := by decide +kernel
theorem dX12_close_30 : decode cX12_close 30 = .ok (.getfield 9, 3) := by decide +kernel
theorem dX12_close_33 : decode cX12_close 33 = .ok (.aload_n 0, 1) := by decide +kernel
theorem dX12_close_34 : decode cX12_close 34 = .ok (.iload_n 1, 1) := by decide +kernel
theorem dX12_close_35 : decode cX12_close 35 = .ok (.invokevirtual 371, 3) := by decide +kernel
theorem dX12_close_38 : decode cX12_close 38 = .ok (.iconst 1, 1) := by decide +kernel
theorem dX12_close_39 : decode cX12_close 39 = .ok (.iadd, 1) := by decide +kernel
theorem dX12_close_40 : decode cX12_close 40 = .ok (.iconst 0, 1) := by decide +kernel
theorem dX12_close_41 : decode cX12_close 41 = .ok (.iastore, 1) := by decide +kernel
theorem dX12_close_42 : decode cX12_close 42 = .ok (.iconst 0, 1) := by decide +kernel
theorem dX12_close_43 : decode cX12_close 43 = .ok (.istore_n 2, 1) := by decide +kernel
theorem dX12_close_44 : decode cX12_close 44 = .ok (.iconst 0, 1) := by decide +kernel
theorem dX12_close_45 : decode cX12_close 45 = .ok (.istore_n 3, 1) := by decide +kernel
theorem dX12_close_46 : decode cX12_close 46 = .ok (.iconst 0, 1) := by decide +kernel
theorem dX12_close_47 : decode cX12_close 47 = .ok (.istore 4, 2) := by decide +kernel
theorem dX12_close_49 : decode cX12_close 49 = .ok (.iload 4, 2) := by decide +kernel
theorem dX12_close_51 : decode cX12_close 51 = .ok (.bipush 9, 2) := by decide +kernel
theorem dX12_close_53 : decode cX12_close 53 = .ok (.if_icmp .ge 62, 3) := by decide +kernel
theorem dX12_close_56 : decode cX12_close 56 = .ok (.iload_n 2, 1) := by decide +kernel
theorem dX12_close_57 : decode cX12_close 57 = .ok (.aload_n 0, 1) := by decide +kernel
theorem dX12_close_58 : decode cX12_close 58 = .ok (.getfield 9, 3) := by decide +kernel
theorem dX12_close_61 : decode cX12_close 61 = .ok (.aload_n 0, 1) := by decide +kernel
theorem dX12_close_62 : decode cX12_close 62 = .ok (.iload_n 1, 1) := by decide +kernel
theorem dX12_close_63 : decode cX12_close 63 = .ok (.invokevirtual 371, 3) := by decide +kernel
theorem dX12_close_66 : decode cX12_close 66 = .ok (.iconst 2, 1) := by decide +kernel
theorem dX12_close_67 : decode cX12_close 67 = .ok (.iadd, 1) := by decide +kernel
theorem dX12_close_68 : decode cX12_close 68 = .ok (.iload 4, 2) := by decide +kernel
theorem dX12_close_70 : decode cX12_close 70 = .ok (.iadd, 1) := by decide +kernel
theorem dX12_close_71 : decode cX12_close 71 = .ok (.iaload, 1) := by decide +kernel
theorem dX12_close_72 : decode cX12_close 72 = .ok (.ifCond .le 7, 3) := by decide +kernel
theorem dX12_close_75 : decode cX12_close 75 = .ok (.iconst 1, 1) := by decide +kernel
theorem dX12_close_76 : decode cX12_close 76 = .ok (.goto 4, 3) := by decide +kernel
theorem dX12_close_79 : decode cX12_close 79 = .ok (.iconst 0, 1) := by decide +kernel
theorem dX12_close_80 : decode cX12_close 80 = .ok (.iadd, 1) := by decide +kernel
theorem dX12_close_81 : decode cX12_close 81 = .ok (.istore_n 2, 1) := by decide +kernel
theorem dX12_close_82 : decode cX12_close 82 = .ok (.iload_n 3, 1) := by decide +kernel
theorem dX12_close_83 : decode cX12_close 83 = .ok (.aload_n 0, 1) := by decide +kernel
theorem dX12_close_84 : decode cX12_close 84 = .ok (.getfield 9, 3) := by decide +kernel
theorem dX12_close_87 : decode cX12_close 87 = .ok (.aload_n 0, 1) := by decide +kernel
theorem dX12_close_88 : decode cX12_close 88 = .ok (.iload_n 1, 1) := by decide +kernel
theorem dX12_close_89 : decode cX12_close 89 = .ok (.invokevirtual 371, 3) := by decide +kernel
theorem dX12_close_92 : decode cX12_close 92 = .ok (.iconst 2, 1) := by decide +kernel
theorem dX12_close_93 : decode cX12_close 93 = .ok (.iadd, 1) := by decide +kernel
theorem dX12_close_94 : decode cX12_close 94 = .ok (.iload 4, 2) := by decide +kernel
theorem dX12_close_96 : decode cX12_close 96 = .ok (.iadd, 1) := by decide +kernel
theorem dX12_close_97 : decode cX12_close 97 = .ok (.iaload, 1) := by decide +kernel
theorem dX12_close_98 : decode cX12_close 98 = .ok (.iconst 1, 1) := by decide +kernel
theorem dX12_close_99 : decode cX12_close 99 = .ok (.if_icmp .ne 7, 3) := by decide +kernel
theorem dX12_close_102 : decode cX12_close 102 = .ok (.iconst 1, 1) := by decide +kernel
theorem dX12_close_103 : decode cX12_close 103 = .ok (.goto 4, 3) := by decide +kernel
theorem dX12_close_106 : decode cX12_close 106 = .ok (.iconst 0, 1) := by decide +kernel
theorem dX12_close_107 : decode cX12_close 107 = .ok (.iadd, 1) := by decide +kernel
theorem dX12_close_108 : decode cX12_close 108 = .ok (.istore_n 3, 1) := by decide +kernel
theorem dX12_close_109 : decode cX12_close 109 = .ok (.iinc 4 1, 3) := by decide +kernel
theorem dX12_close_112 : decode cX12_close 112 = .ok (.goto (-63), 3) := by decide +kernel
theorem dX12_close_115 : decode cX12_close 115 = .ok (.iload_n 2, 1) := by decide +kernel
theorem dX12_close_116 : decode cX12_close 116 = .ok (.ifCond .eq 20, 3) := by decide +kernel
theorem dX12_close_119 : decode cX12_close 119 = .ok (.bipush 100, 2) := by decide +kernel
theorem dX12_close_121 : decode cX12_close 121 = .ok (.iload_n 3, 1) := by decide +kernel
theorem dX12_close_122 : decode cX12_close 122 = .ok (.imul, 1) := by decide +kernel
theorem dX12_close_123 : decode cX12_close 123 = .ok (.aload_n 0, 1) := by decide +kernel
theorem dX12_close_124 : decode cX12_close 124 = .ok (.iconst 5, 1) := by decide +kernel
theorem dX12_close_125 : decode cX12_close 125 = .ok (.iconst 1, 1) := by decide +kernel
theorem dX12_close_126 : decode cX12_close 126 = .ok (.bipush 50, 2) := by decide +kernel
theorem dX12_close_128 : decode cX12_close 128 = .ok (.invokevirtual 379, 3) := by decide +kernel
theorem dX12_close_131 : decode cX12_close 131 = .ok (.iload_n 2, 1) := by decide +kernel
theorem dX12_close_132 : decode cX12_close 132 = .ok (.imul, 1) := by decide +kernel
theorem dX12_close_133 : decode cX12_close 133 = .ok (.if_icmp .ge 5, 3) := by decide +kernel
theorem dX12_close_136 : decode cX12_close 136 = .ok (.iconst 1, 1) := by decide +kernel
theorem dX12_close_137 : decode cX12_close 137 = .ok (.ireturn, 1) := by decide +kernel
theorem dX12_close_138 : decode cX12_close 138 = .ok (.aload_n 0, 1) := by decide +kernel
theorem dX12_close_139 : decode cX12_close 139 = .ok (.getfield 9, 3) := by decide +kernel
theorem dX12_close_142 : decode cX12_close 142 = .ok (.aload_n 0, 1) := by decide +kernel
theorem dX12_close_143 : decode cX12_close 143 = .ok (.iload_n 1, 1) := by decide +kernel
theorem dX12_close_144 : decode cX12_close 144 = .ok (.invokevirtual 371, 3) := by decide +kernel
theorem dX12_close_147 : decode cX12_close 147 = .ok (.iaload, 1) := by decide +kernel
theorem dX12_close_148 : decode cX12_close 148 = .ok (.istore 4, 2) := by decide +kernel
theorem dX12_close_150 : decode cX12_close 150 = .ok (.aload_n 0, 1) := by decide +kernel
theorem dX12_close_151 : decode cX12_close 151 = .ok (.iload 4, 2) := by decide +kernel
theorem dX12_close_153 : decode cX12_close 153 = .ok (.iconst 2, 1) := by decide +kernel
theorem dX12_close_154 : decode cX12_close 154 = .ok (.invokevirtual 265, 3) := by decide +kernel
theorem dX12_close_157 : decode cX12_close 157 = .ok (.istore 5, 2) := by decide +kernel
theorem dX12_close_159 : decode cX12_close 159 = .ok (.iload 5, 2) := by decide +kernel
theorem dX12_close_161 : decode cX12_close 161 = .ok (.bipush (-9), 2) := by decide +kernel
theorem dX12_close_163 : decode cX12_close 163 = .ok (.if_icmp .eq 26, 3) := by decide +kernel
theorem dX12_close_166 : decode cX12_close 166 = .ok (.iload 5, 2) := by decide +kernel
theorem dX12_close_168 : decode cX12_close 168 = .ok (.iconst (-1), 1) := by decide +kernel
theorem dX12_close_169 : decode cX12_close 169 = .ok (.if_icmp .eq 22, 3) := by decide +kernel
theorem dX12_close_172 : decode cX12_close 172 = .ok (.aload_n 0, 1) := by decide +kernel
theorem dX12_close_173 : decode cX12_close 173 = .ok (.invokevirtual 138, 3) := by decide +kernel
theorem dX12_close_176 : decode cX12_close 176 = .ok (.iload 5, 2) := by decide +kernel
theorem dX12_close_178 : decode cX12_close 178 = .ok (.isub, 1) := by decide +kernel
theorem dX12_close_179 : decode cX12_close 179 = .ok (.aload_n 0, 1) := by decide +kernel
theorem dX12_close_180 : decode cX12_close 180 = .ok (.iconst 3, 1) := by decide +kernel
theorem dX12_close_181 : decode cX12_close 181 = .ok (.iconst 1, 1) := by decide +kernel
theorem dX12_close_182 : decode cX12_close 182 = .ok (.iconst 0, 1) := by decide +kernel
theorem dX12_close_183 : decode cX12_close 183 = .ok (.invokevirtual 379, 3) := by decide +kernel
theorem dX12_close_186 : decode cX12_close 186 = .ok (.if_icmp .ge 5, 3) := by decide +kernel
theorem dX12_close_189 : decode cX12_close 189 = .ok (.iconst 2, 1) := by decide +kernel
theorem dX12_close_190 : decode cX12_close 190 = .ok (.ireturn, 1) := by decide +kernel
theorem dX12_close_191 : decode cX12_close 191 = .ok (.aload_n 0, 1) := by decide +kernel
theorem dX12_close_192 : decode cX12_close 192 = .ok (.iload 4, 2) := by decide +kernel
theorem dX12_close_194 : decode cX12_close 194 = .ok (.invokevirtual 388, 3) := by decide +kernel
theorem dX12_close_197 : decode cX12_close 197 = .ok (.ifCond .eq 5, 3) := by decide +kernel
theorem dX12_close_200 : decode cX12_close 200 = .ok (.iconst 3, 1) := by decide +kernel
theorem dX12_close_201 : decode cX12_close 201 = .ok (.ireturn, 1) := by decide +kernel
theorem dX12_close_202 : decode cX12_close 202 = .ok (.aload_n 0, 1) := by decide +kernel
theorem dX12_close_203 : decode cX12_close 203 = .ok (.aload_n 0, 1) := by decide +kernel
theorem dX12_close_204 : decode cX12_close 204 = .ok (.iload 4, 2) := by decide +kernel
theorem dX12_close_206 : decode cX12_close 206 = .ok (.iconst 0, 1) := by decide +kernel
theorem dX12_close_207 : decode cX12_close 207 = .ok (.invokevirtual 265, 3) := by decide +kernel
theorem dX12_close_210 : decode cX12_close 210 = .ok (.aload_n 0, 1) := by decide +kernel
theorem dX12_close_211 : decode cX12_close 211 = .ok (.iload 4, 2) := by decide +kernel
theorem dX12_close_213 : decode cX12_close 213 = .ok (.iconst 1, 1) := by decide +kernel
theorem dX12_close_214 : decode cX12_close 214 = .ok (.invokevirtual 265, 3) := by decide +kernel
theorem dX12_close_217 : decode cX12_close 217 = .ok (.iload 4, 2) := by decide +kernel
theorem dX12_close_219 : decode cX12_close 219 = .ok (.invokevirtual 391, 3) := by decide +kernel
theorem dX12_close_222 : decode cX12_close 222 = .ok (.iconst 0, 1) := by decide +kernel
theorem dX12_close_223 : decode cX12_close 223 = .ok (.ireturn, 1) := by decide +kernel
theorem dX12_settled_0 : decode cX12_settled 0 = .ok (.aload_n 0, 1) := by decide +kernel
theorem dX12_settled_1 : decode cX12_settled 1 = .ok (.iload_n 1, 1) := by decide +kernel
theorem dX12_settled_2 : decode cX12_settled 2 = .ok (.invokevirtual 147, 3) := by decide +kernel
theorem dX12_settled_5 : decode cX12_settled 5 = .ok (.ifCond .eq 40, 3) := by decide +kernel
theorem dX12_settled_8 : decode cX12_settled 8 = .ok (.iload_n 2, 1) := by decide +kernel
theorem dX12_settled_9 : decode cX12_settled 9 = .ok (.invokestatic 155, 3) := by decide +kernel
theorem dX12_settled_12 : decode cX12_settled 12 = .ok (.ifCond .eq 33, 3) := by decide +kernel
theorem dX12_settled_15 : decode cX12_settled 15 = .ok (.iload_n 3, 1) := by decide +kernel
theorem dX12_settled_16 : decode cX12_settled 16 = .ok (.invokestatic 160, 3) := by decide +kernel
theorem dX12_settled_19 : decode cX12_settled 19 = .ok (.ifCond .eq 26, 3) := by decide +kernel
theorem dX12_settled_22 : decode cX12_settled 22 = .ok (.iload 4, 2) := by decide +kernel
theorem dX12_settled_24 : decode cX12_settled 24 = .ok (.invokestatic 160, 3) := by decide +kernel
theorem dX12_settled_27 : decode cX12_settled 27 = .ok (.ifCond .eq 18, 3) := by decide +kernel
theorem dX12_settled_30 : decode cX12_settled 30 = .ok (.aload_n 0, 1) := by decide +kernel
theorem dX12_settled_31 : decode cX12_settled 31 = .ok (.iload_n 1, 1) := by decide +kernel
theorem dX12_settled_32 : decode cX12_settled 32 = .ok (.iload_n 2, 1) := by decide +kernel
theorem dX12_settled_33 : decode cX12_settled 33 = .ok (.iload_n 3, 1) := by decide +kernel
theorem dX12_settled_34 : decode cX12_settled 34 = .ok (.iload 4, 2) := by decide +kernel
theorem dX12_settled_36 : decode cX12_settled 36 = .ok (.invokestatic 163, 3) := by decide +kernel
theorem dX12_settled_39 : decode cX12_settled 39 = .ok (.invokevirtual 385, 3) := by decide +kernel
theorem dX12_settled_42 : decode cX12_settled 42 = .ok (.goto 5, 3) := by decide +kernel
theorem dX12_settled_45 : decode cX12_settled 45 = .ok (.bipush (-2), 2) := by decide +kernel
theorem dX12_settled_47 : decode cX12_settled 47 = .ok (.ireturn, 1) := by decide +kernel
theorem dX12_undo_0 : decode cX12_undo 0 = .ok (.aload_n 0, 1) := by decide +kernel
theorem dX12_undo_1 : decode cX12_undo 1 = .ok (.iload_n 1, 1) := by decide +kernel
theorem dX12_undo_2 : decode cX12_undo 2 = .ok (.invokevirtual 147, 3) := by decide +kernel
theorem dX12_undo_5 : decode cX12_undo 5 = .ok (.ifCond .eq 10, 3) := by decide +kernel
theorem dX12_undo_8 : decode cX12_undo 8 = .ok (.iload_n 2, 1) := by decide +kernel
theorem dX12_undo_9 : decode cX12_undo 9 = .ok (.invokestatic 155, 3) := by decide +kernel
theorem dX12_undo_12 : decode cX12_undo 12 = .ok (.ifCond .ne 6, 3) := by decide +kernel
theorem dX12_undo_15 : decode cX12_undo 15 = .ok (.bipush (-2), 2) := by decide +kernel
theorem dX12_undo_17 : decode cX12_undo 17 = .ok (.ireturn, 1) := by decide +kernel
theorem dX12_undo_18 : decode cX12_undo 18 = .ok (.aload_n 0, 1) := by decide +kernel
theorem dX12_undo_19 : decode cX12_undo 19 = .ok (.iload_n 1, 1) := by decide +kernel
theorem dX12_undo_20 : decode cX12_undo 20 = .ok (.iload_n 2, 1) := by decide +kernel
theorem dX12_undo_21 : decode cX12_undo 21 = .ok (.aload_n 0, 1) := by decide +kernel
theorem dX12_undo_22 : decode cX12_undo 22 = .ok (.invokevirtual 138, 3) := by decide +kernel
theorem dX12_undo_25 : decode cX12_undo 25 = .ok (.invokevirtual 385, 3) := by decide +kernel
theorem dX12_undo_28 : decode cX12_undo 28 = .ok (.iconst (-1), 1) := by decide +kernel
theorem dX12_undo_29 : decode cX12_undo 29 = .ok (.if_icmp .ne 6, 3) := by decide +kernel
theorem dX12_undo_32 : decode cX12_undo 32 = .ok (.bipush (-5), 2) := by decide +kernel
theorem dX12_undo_34 : decode cX12_undo 34 = .ok (.ireturn, 1) := by decide +kernel
theorem dX12_undo_35 : decode cX12_undo 35 = .ok (.aload_n 0, 1) := by decide +kernel
theorem dX12_undo_36 : decode cX12_undo 36 = .ok (.iload_n 1, 1) := by decide +kernel
theorem dX12_undo_37 : decode cX12_undo 37 = .ok (.iload_n 2, 1) := by decide +kernel
theorem dX12_undo_38 : decode cX12_undo 38 = .ok (.iconst (-1), 1) := by decide +kernel
theorem dX12_undo_39 : decode cX12_undo 39 = .ok (.invokevirtual 391, 3) := by decide +kernel
theorem dX12_undo_42 : decode cX12_undo 42 = .ok (.aload_n 0, 1) := by decide +kernel
theorem dX12_undo_43 : decode cX12_undo 43 = .ok (.iload_n 1, 1) := by decide +kernel
theorem dX12_undo_44 : decode cX12_undo 44 = .ok (.iload_n 2, 1) := by decide +kernel
theorem dX12_undo_45 : decode cX12_undo 45 = .ok (.aload_n 0, 1) := by decide +kernel
theorem dX12_undo_46 : decode cX12_undo 46 = .ok (.invokevirtual 138, 3) := by decide +kernel
theorem dX12_undo_49 : decode cX12_undo 49 = .ok (.invokevirtual 385, 3) := by decide +kernel
theorem dX12_undo_52 : decode cX12_undo 52 = .ok (.ireturn, 1) := by decide +kernel
theorem dX12_shows_0 : decode cX12_shows 0 = .ok (.iload_n 2, 1) := by decide +kernel
theorem dX12_shows_1 : decode cX12_shows 1 = .ok (.iload_n 3, 1) := by decide +kernel
theorem dX12_shows_2 : decode cX12_shows 2 = .ok (.invokestatic 163, 3) := by decide +kernel
theorem dX12_shows_5 : decode cX12_shows 5 = .ok (.istore 4, 2) := by decide +kernel
theorem dX12_shows_7 : decode cX12_shows 7 = .ok (.aload_n 0, 1) := by decide +kernel
theorem dX12_shows_8 : decode cX12_shows 8 = .ok (.iload 4, 2) := by decide +kernel
theorem dX12_shows_10 : decode cX12_shows 10 = .ok (.invokevirtual 151, 3) := by decide +kernel
theorem dX12_shows_13 : decode cX12_shows 13 = .ok (.aload_n 0, 1) := by decide +kernel
theorem dX12_shows_14 : decode cX12_shows 14 = .ok (.iload_n 1, 1) := by decide +kernel
theorem dX12_shows_15 : decode cX12_shows 15 = .ok (.aload_n 0, 1) := by decide +kernel
theorem dX12_shows_16 : decode cX12_shows 16 = .ok (.iload_n 1, 1) := by decide +kernel
theorem dX12_shows_17 : decode cX12_shows 17 = .ok (.iload 4, 2) := by decide +kernel
theorem dX12_shows_19 : decode cX12_shows 19 = .ok (.iload_n 2, 1) := by decide +kernel
theorem dX12_shows_20 : decode cX12_shows 20 = .ok (.invokevirtual 365, 3) := by decide +kernel
theorem dX12_shows_23 : decode cX12_shows 23 = .ok (.iload 4, 2) := by decide +kernel
theorem dX12_shows_25 : decode cX12_shows 25 = .ok (.invokevirtual 385, 3) := by decide +kernel
theorem dX12_shows_28 : decode cX12_shows 28 = .ok (.istore 5, 2) := by decide +kernel
theorem dX12_shows_30 : decode cX12_shows 30 = .ok (.aload_n 0, 1) := by decide +kernel
theorem dX12_shows_31 : decode cX12_shows 31 = .ok (.iload_n 1, 1) := by decide +kernel
theorem dX12_shows_32 : decode cX12_shows 32 = .ok (.iload 4, 2) := by decide +kernel
theorem dX12_shows_34 : decode cX12_shows 34 = .ok (.iload_n 2, 1) := by decide +kernel
theorem dX12_shows_35 : decode cX12_shows 35 = .ok (.invokevirtual 368, 3) := by decide +kernel
theorem dX12_shows_38 : decode cX12_shows 38 = .ok (.istore 6, 2) := by decide +kernel
theorem dX12_shows_40 : decode cX12_shows 40 = .ok (.iload 6, 2) := by decide +kernel
theorem dX12_shows_42 : decode cX12_shows 42 = .ok (.iconst (-1), 1) := by decide +kernel
theorem dX12_shows_43 : decode cX12_shows 43 = .ok (.if_icmp .ne 7, 3) := by decide +kernel
theorem dX12_shows_46 : decode cX12_shows 46 = .ok (.iconst (-1), 1) := by decide +kernel
theorem dX12_shows_47 : decode cX12_shows 47 = .ok (.goto 12, 3) := by decide +kernel
theorem dX12_shows_50 : decode cX12_shows 50 = .ok (.aload_n 0, 1) := by decide +kernel
theorem dX12_shows_51 : decode cX12_shows 51 = .ok (.iload_n 1, 1) := by decide +kernel
theorem dX12_shows_52 : decode cX12_shows 52 = .ok (.iload 6, 2) := by decide +kernel
theorem dX12_shows_54 : decode cX12_shows 54 = .ok (.iload 4, 2) := by decide +kernel
theorem dX12_shows_56 : decode cX12_shows 56 = .ok (.invokevirtual 385, 3) := by decide +kernel
theorem dX12_shows_59 : decode cX12_shows 59 = .ok (.istore 7, 2) := by decide +kernel
theorem dX12_shows_61 : decode cX12_shows 61 = .ok (.aload_n 0, 1) := by decide +kernel
theorem dX12_shows_62 : decode cX12_shows 62 = .ok (.iconst 0, 1) := by decide +kernel
theorem dX12_shows_63 : decode cX12_shows 63 = .ok (.putfield 258, 3) := by decide +kernel
theorem dX12_shows_66 : decode cX12_shows 66 = .ok (.iload 5, 2) := by decide +kernel
theorem dX12_shows_68 : decode cX12_shows 68 = .ok (.iconst (-1), 1) := by decide +kernel
theorem dX12_shows_69 : decode cX12_shows 69 = .ok (.if_icmp .eq 11, 3) := by decide +kernel
theorem dX12_shows_72 : decode cX12_shows 72 = .ok (.aload_n 0, 1) := by decide +kernel
theorem dX12_shows_73 : decode cX12_shows 73 = .ok (.iload 5, 2) := by decide +kernel
theorem dX12_shows_75 : decode cX12_shows 75 = .ok (.iload 4, 2) := by decide +kernel
theorem dX12_shows_77 : decode cX12_shows 77 = .ok (.invokevirtual 285, 3) := by decide +kernel
theorem dX12_shows_80 : decode cX12_shows 80 = .ok (.iload 5, 2) := by decide +kernel
theorem dX12_shows_82 : decode cX12_shows 82 = .ok (.iconst (-1), 1) := by decide +kernel
theorem dX12_shows_83 : decode cX12_shows 83 = .ok (.if_icmp .eq 17, 3) := by decide +kernel
theorem dX12_shows_86 : decode cX12_shows 86 = .ok (.iload 7, 2) := by decide +kernel
theorem dX12_shows_88 : decode cX12_shows 88 = .ok (.iconst (-1), 1) := by decide +kernel
theorem dX12_shows_89 : decode cX12_shows 89 = .ok (.if_icmp .eq 11, 3) := by decide +kernel
theorem dX12_shows_92 : decode cX12_shows 92 = .ok (.aload_n 0, 1) := by decide +kernel
theorem dX12_shows_93 : decode cX12_shows 93 = .ok (.bipush 32, 2) := by decide +kernel
theorem dX12_shows_95 : decode cX12_shows 95 = .ok (.bipush (-4), 2) := by decide +kernel
theorem dX12_shows_97 : decode cX12_shows 97 = .ok (.invokevirtual 275, 3) := by decide +kernel
theorem dX12_shows_100 : decode cX12_shows 100 = .ok (.iload 7, 2) := by decide +kernel
theorem dX12_shows_102 : decode cX12_shows 102 = .ok (.iconst (-1), 1) := by decide +kernel
theorem dX12_shows_103 : decode cX12_shows 103 = .ok (.if_icmp .eq 11, 3) := by decide +kernel
theorem dX12_shows_106 : decode cX12_shows 106 = .ok (.aload_n 0, 1) := by decide +kernel
theorem dX12_shows_107 : decode cX12_shows 107 = .ok (.iload 7, 2) := by decide +kernel
theorem dX12_shows_109 : decode cX12_shows 109 = .ok (.iload 4, 2) := by decide +kernel
theorem dX12_shows_111 : decode cX12_shows 111 = .ok (.invokevirtual 285, 3) := by decide +kernel
theorem dX12_shows_114 : decode cX12_shows 114 = .ok (.return_, 1) := by decide +kernel
theorem dX12_shown_0 : decode cX12_shown 0 = .ok (.aload_n 0, 1) := by decide +kernel
theorem dX12_shown_1 : decode cX12_shown 1 = .ok (.iload_n 1, 1) := by decide +kernel
theorem dX12_shown_2 : decode cX12_shown 2 = .ok (.invokevirtual 147, 3) := by decide +kernel
theorem dX12_shown_5 : decode cX12_shown 5 = .ok (.ifCond .eq 17, 3) := by decide +kernel
theorem dX12_shown_8 : decode cX12_shown 8 = .ok (.iload_n 2, 1) := by decide +kernel
theorem dX12_shown_9 : decode cX12_shown 9 = .ok (.invokestatic 160, 3) := by decide +kernel
theorem dX12_shown_12 : decode cX12_shown 12 = .ok (.ifCond .eq 10, 3) := by decide +kernel
theorem dX12_shown_15 : decode cX12_shown 15 = .ok (.iload_n 3, 1) := by decide +kernel
theorem dX12_shown_16 : decode cX12_shown 16 = .ok (.invokestatic 160, 3) := by decide +kernel
theorem dX12_shown_19 : decode cX12_shown 19 = .ok (.ifCond .ne 6, 3) := by decide +kernel
theorem dX12_shown_22 : decode cX12_shown 22 = .ok (.bipush (-2), 2) := by decide +kernel
theorem dX12_shown_24 : decode cX12_shown 24 = .ok (.ireturn, 1) := by decide +kernel
theorem dX12_shown_25 : decode cX12_shown 25 = .ok (.aload_n 0, 1) := by decide +kernel
theorem dX12_shown_26 : decode cX12_shown 26 = .ok (.iload_n 1, 1) := by decide +kernel
theorem dX12_shown_27 : decode cX12_shown 27 = .ok (.iload_n 2, 1) := by decide +kernel
theorem dX12_shown_28 : decode cX12_shown 28 = .ok (.iload_n 3, 1) := by decide +kernel
theorem dX12_shown_29 : decode cX12_shown 29 = .ok (.invokevirtual 395, 3) := by decide +kernel
theorem dX12_shown_32 : decode cX12_shown 32 = .ok (.aload_n 0, 1) := by decide +kernel
theorem dX12_shown_33 : decode cX12_shown 33 = .ok (.invokevirtual 288, 3) := by decide +kernel
theorem dX12_shown_36 : decode cX12_shown 36 = .ok (.ireturn, 1) := by decide +kernel
theorem dX12_sign_0 : decode cX12_sign 0 = .ok (.aload_n 0, 1) := by decide +kernel
theorem dX12_sign_1 : decode cX12_sign 1 = .ok (.iload_n 1, 1) := by decide +kernel
theorem dX12_sign_2 : decode cX12_sign 2 = .ok (.invokevirtual 147, 3) := by decide +kernel
theorem dX12_sign_5 : decode cX12_sign 5 = .ok (.ifCond .eq 15, 3) := by decide +kernel
theorem dX12_sign_8 : decode cX12_sign 8 = .ok (.iload_n 2, 1) := by decide +kernel
theorem dX12_sign_9 : decode cX12_sign 9 = .ok (.i2l, 1) := by decide +kernel
theorem dX12_sign_10 : decode cX12_sign 10 = .ok (.lconst 0, 1) := by decide +kernel
theorem dX12_sign_11 : decode cX12_sign 11 = .ok (.ldc2_w 398, 3) := by decide +kernel
theorem dX12_sign_14 : decode cX12_sign 14 = .ok (.invokestatic 125, 3) := by decide +kernel
theorem dX12_sign_17 : decode cX12_sign 17 = .ok (.ifCond .ne 6, 3) := by decide +kernel
theorem dX12_sign_20 : decode cX12_sign 20 = .ok (.bipush (-2), 2) := by decide +kernel
theorem dX12_sign_22 : decode cX12_sign 22 = .ok (.ireturn, 1) := by decide +kernel
theorem dX12_sign_23 : decode cX12_sign 23 = .ok (.aload_n 0, 1) := by decide +kernel
theorem dX12_sign_24 : decode cX12_sign 24 = .ok (.getfield 9, 3) := by decide +kernel
theorem dX12_sign_27 : decode cX12_sign 27 = .ok (.bipush 7, 2) := by decide +kernel
theorem dX12_sign_29 : decode cX12_sign 29 = .ok (.iaload, 1) := by decide +kernel
theorem dX12_sign_30 : decode cX12_sign 30 = .ok (.istore_n 3, 1) := by decide +kernel
theorem dX12_sign_31 : decode cX12_sign 31 = .ok (.iload_n 3, 1) := by decide +kernel
theorem dX12_sign_32 : decode cX12_sign 32 = .ok (.bipush 40, 2) := by decide +kernel
theorem dX12_sign_34 : decode cX12_sign 34 = .ok (.if_icmp .ne 6, 3) := by decide +kernel
theorem dX12_sign_37 : decode cX12_sign 37 = .ok (.bipush (-3), 2) := by decide +kernel
theorem dX12_sign_39 : decode cX12_sign 39 = .ok (.ireturn, 1) := by decide +kernel
theorem dX12_sign_40 : decode cX12_sign 40 = .ok (.aload_n 0, 1) := by decide +kernel
theorem dX12_sign_41 : decode cX12_sign 41 = .ok (.getfield 9, 3) := by decide +kernel
theorem dX12_sign_44 : decode cX12_sign 44 = .ok (.sipush 7490, 3) := by decide +kernel
theorem dX12_sign_47 : decode cX12_sign 47 = .ok (.iconst 3, 1) := by decide +kernel
theorem dX12_sign_48 : decode cX12_sign 48 = .ok (.iload_n 3, 1) := by decide +kernel
theorem dX12_sign_49 : decode cX12_sign 49 = .ok (.imul, 1) := by decide +kernel
theorem dX12_sign_50 : decode cX12_sign 50 = .ok (.iadd, 1) := by decide +kernel
theorem dX12_sign_51 : decode cX12_sign 51 = .ok (.iload_n 1, 1) := by decide +kernel
theorem dX12_sign_52 : decode cX12_sign 52 = .ok (.iastore, 1) := by decide +kernel
theorem dX12_sign_53 : decode cX12_sign 53 = .ok (.aload_n 0, 1) := by decide +kernel
theorem dX12_sign_54 : decode cX12_sign 54 = .ok (.getfield 9, 3) := by decide +kernel
theorem dX12_sign_57 : decode cX12_sign 57 = .ok (.sipush 7490, 3) := by decide +kernel
theorem dX12_sign_60 : decode cX12_sign 60 = .ok (.iconst 3, 1) := by decide +kernel
theorem dX12_sign_61 : decode cX12_sign 61 = .ok (.iload_n 3, 1) := by decide +kernel
theorem dX12_sign_62 : decode cX12_sign 62 = .ok (.imul, 1) := by decide +kernel
theorem dX12_sign_63 : decode cX12_sign 63 = .ok (.iadd, 1) := by decide +kernel
theorem dX12_sign_64 : decode cX12_sign 64 = .ok (.iconst 1, 1) := by decide +kernel
theorem dX12_sign_65 : decode cX12_sign 65 = .ok (.iadd, 1) := by decide +kernel
theorem dX12_sign_66 : decode cX12_sign 66 = .ok (.iload_n 2, 1) := by decide +kernel
theorem dX12_sign_67 : decode cX12_sign 67 = .ok (.iastore, 1) := by decide +kernel
theorem dX12_sign_68 : decode cX12_sign 68 = .ok (.aload_n 0, 1) := by decide +kernel
theorem dX12_sign_69 : decode cX12_sign 69 = .ok (.getfield 9, 3) := by decide +kernel
theorem dX12_sign_72 : decode cX12_sign 72 = .ok (.sipush 7490, 3) := by decide +kernel
theorem dX12_sign_75 : decode cX12_sign 75 = .ok (.iconst 3, 1) := by decide +kernel
theorem dX12_sign_76 : decode cX12_sign 76 = .ok (.iload_n 3, 1) := by decide +kernel
theorem dX12_sign_77 : decode cX12_sign 77 = .ok (.imul, 1) := by decide +kernel
theorem dX12_sign_78 : decode cX12_sign 78 = .ok (.iadd, 1) := by decide +kernel
theorem dX12_sign_79 : decode cX12_sign 79 = .ok (.iconst 2, 1) := by decide +kernel
theorem dX12_sign_80 : decode cX12_sign 80 = .ok (.iadd, 1) := by decide +kernel
theorem dX12_sign_81 : decode cX12_sign 81 = .ok (.aload_n 0, 1) := by decide +kernel
theorem dX12_sign_82 : decode cX12_sign 82 = .ok (.invokevirtual 138, 3) := by decide +kernel
theorem dX12_sign_85 : decode cX12_sign 85 = .ok (.iastore, 1) := by decide +kernel
theorem dX12_sign_86 : decode cX12_sign 86 = .ok (.aload_n 0, 1) := by decide +kernel
theorem dX12_sign_87 : decode cX12_sign 87 = .ok (.getfield 9, 3) := by decide +kernel
theorem dX12_sign_90 : decode cX12_sign 90 = .ok (.bipush 7, 2) := by decide +kernel
theorem dX12_sign_92 : decode cX12_sign 92 = .ok (.dup2, 1) := by decide +kernel
theorem dX12_sign_93 : decode cX12_sign 93 = .ok (.iaload, 1) := by decide +kernel
theorem dX12_sign_94 : decode cX12_sign 94 = .ok (.iconst 1, 1) := by decide +kernel
theorem dX12_sign_95 : decode cX12_sign 95 = .ok (.iadd, 1) := by decide +kernel
theorem dX12_sign_96 : decode cX12_sign 96 = .ok (.iastore, 1) := by decide +kernel
theorem dX12_sign_97 : decode cX12_sign 97 = .ok (.iload_n 3, 1) := by decide +kernel
theorem dX12_sign_98 : decode cX12_sign 98 = .ok (.ireturn, 1) := by decide +kernel
theorem dX12_isSign0_0 : decode cX12_isSign0 0 = .ok (.iload_n 1, 1) := by decide +kernel
theorem dX12_isSign0_1 : decode cX12_isSign0 1 = .ok (.i2l, 1) := by decide +kernel
theorem dX12_isSign0_2 : decode cX12_isSign0 2 = .ok (.lconst 0, 1) := by decide +kernel
theorem dX12_isSign0_3 : decode cX12_isSign0 3 = .ok (.aload_n 0, 1) := by decide +kernel
theorem dX12_isSign0_4 : decode cX12_isSign0 4 = .ok (.getfield 9, 3) := by decide +kernel
theorem dX12_isSign0_7 : decode cX12_isSign0 7 = .ok (.bipush 7, 2) := by decide +kernel
theorem dX12_isSign0_9 : decode cX12_isSign0 9 = .ok (.iaload, 1) := by decide +kernel
theorem dX12_isSign0_10 : decode cX12_isSign0 10 = .ok (.iconst 1, 1) := by decide +kernel
theorem dX12_isSign0_11 : decode cX12_isSign0 11 = .ok (.isub, 1) := by decide +kernel
theorem dX12_isSign0_12 : decode cX12_isSign0 12 = .ok (.i2l, 1) := by decide +kernel
theorem dX12_isSign0_13 : decode cX12_isSign0 13 = .ok (.invokestatic 125, 3) := by decide +kernel
theorem dX12_isSign0_16 : decode cX12_isSign0 16 = .ok (.ireturn, 1) := by decide +kernel
theorem dX12_signIs_0 : decode cX12_signIs 0 = .ok (.aload_n 0, 1) := by decide +kernel
theorem dX12_signIs_1 : decode cX12_signIs 1 = .ok (.getfield 9, 3) := by decide +kernel
theorem dX12_signIs_4 : decode cX12_signIs 4 = .ok (.sipush 7490, 3) := by decide +kernel
theorem dX12_signIs_7 : decode cX12_signIs 7 = .ok (.iconst 3, 1) := by decide +kernel
theorem dX12_signIs_8 : decode cX12_signIs 8 = .ok (.iload_n 1, 1) := by decide +kernel
theorem dX12_signIs_9 : decode cX12_signIs 9 = .ok (.imul, 1) := by decide +kernel
theorem dX12_signIs_10 : decode cX12_signIs 10 = .ok (.iadd, 1) := by decide +kernel
theorem dX12_signIs_11 : decode cX12_signIs 11 = .ok (.iload_n 2, 1) := by decide +kernel
theorem dX12_signIs_12 : decode cX12_signIs 12 = .ok (.iadd, 1) := by decide +kernel
theorem dX12_signIs_13 : decode cX12_signIs 13 = .ok (.iaload, 1) := by decide +kernel
theorem dX12_signIs_14 : decode cX12_signIs 14 = .ok (.ireturn, 1) := by decide +kernel
theorem dX12_anew_0 : decode cX12_anew 0 = .ok (.aload_n 0, 1) := by decide +kernel
theorem dX12_anew_1 : decode cX12_anew 1 = .ok (.iload_n 1, 1) := by decide +kernel
theorem dX12_anew_2 : decode cX12_anew 2 = .ok (.invokevirtual 400, 3) := by decide +kernel
theorem dX12_anew_5 : decode cX12_anew 5 = .ok (.ifCond .ne 6, 3) := by decide +kernel
theorem dX12_anew_8 : decode cX12_anew 8 = .ok (.bipush (-2), 2) := by decide +kernel
theorem dX12_anew_10 : decode cX12_anew 10 = .ok (.ireturn, 1) := by decide +kernel
theorem dX12_anew_11 : decode cX12_anew 11 = .ok (.aload_n 0, 1) := by decide +kernel
theorem dX12_anew_12 : decode cX12_anew 12 = .ok (.getfield 9, 3) := by decide +kernel
theorem dX12_anew_15 : decode cX12_anew 15 = .ok (.sipush 7490, 3) := by decide +kernel
theorem dX12_anew_18 : decode cX12_anew 18 = .ok (.iconst 3, 1) := by decide +kernel
theorem dX12_anew_19 : decode cX12_anew 19 = .ok (.iload_n 1, 1) := by decide +kernel
theorem dX12_anew_20 : decode cX12_anew 20 = .ok (.imul, 1) := by decide +kernel
theorem dX12_anew_21 : decode cX12_anew 21 = .ok (.iadd, 1) := by decide +kernel
theorem dX12_anew_22 : decode cX12_anew 22 = .ok (.iconst 2, 1) := by decide +kernel
theorem dX12_anew_23 : decode cX12_anew 23 = .ok (.iadd, 1) := by decide +kernel
theorem dX12_anew_24 : decode cX12_anew 24 = .ok (.aload_n 0, 1) := by decide +kernel
theorem dX12_anew_25 : decode cX12_anew 25 = .ok (.invokevirtual 138, 3) := by decide +kernel
theorem dX12_anew_28 : decode cX12_anew 28 = .ok (.iastore, 1) := by decide +kernel
theorem dX12_anew_29 : decode cX12_anew 29 = .ok (.iconst 0, 1) := by decide +kernel
theorem dX12_anew_30 : decode cX12_anew 30 = .ok (.ireturn, 1) := by decide +kernel
theorem dX12_isLame_0 : decode cX12_isLame 0 = .ok (.aload_n 0, 1) := by decide +kernel
theorem dX12_isLame_1 : decode cX12_isLame 1 = .ok (.aload_n 0, 1) := by decide +kernel
theorem dX12_isLame_2 : decode cX12_isLame 2 = .ok (.iload_n 1, 1) := by decide +kernel
theorem dX12_isLame_3 : decode cX12_isLame 3 = .ok (.iconst 0, 1) := by decide +kernel
theorem dX12_isLame_4 : decode cX12_isLame 4 = .ok (.invokevirtual 403, 3) := by decide +kernel
theorem dX12_isLame_7 : decode cX12_isLame 7 = .ok (.aload_n 0, 1) := by decide +kernel
theorem dX12_isLame_8 : decode cX12_isLame 8 = .ok (.iload_n 1, 1) := by decide +kernel
theorem dX12_isLame_9 : decode cX12_isLame 9 = .ok (.iconst 2, 1) := by decide +kernel
theorem dX12_isLame_10 : decode cX12_isLame 10 = .ok (.invokevirtual 403, 3) := by decide +kernel
theorem dX12_isLame_13 : decode cX12_isLame 13 = .ok (.aload_n 0, 1) := by decide +kernel
theorem dX12_isLame_14 : decode cX12_isLame 14 = .ok (.iload_n 1, 1) := by decide +kernel
theorem dX12_isLame_15 : decode cX12_isLame 15 = .ok (.iconst 2, 1) := by decide +kernel
theorem dX12_isLame_16 : decode cX12_isLame 16 = .ok (.invokevirtual 403, 3) := by decide +kernel
theorem dX12_isLame_19 : decode cX12_isLame 19 = .ok (.invokevirtual 395, 3) := by decide +kernel
theorem dX12_isLame_22 : decode cX12_isLame 22 = .ok (.aload_n 0, 1) := by decide +kernel
theorem dX12_isLame_23 : decode cX12_isLame 23 = .ok (.invokevirtual 294, 3) := by decide +kernel
theorem dX12_isLame_26 : decode cX12_isLame 26 = .ok (.aload_n 0, 1) := by decide +kernel
theorem dX12_isLame_27 : decode cX12_isLame 27 = .ok (.aload_n 0, 1) := by decide +kernel
theorem dX12_isLame_28 : decode cX12_isLame 28 = .ok (.iload_n 1, 1) := by decide +kernel
theorem dX12_isLame_29 : decode cX12_isLame 29 = .ok (.iconst 0, 1) := by decide +kernel
theorem dX12_isLame_30 : decode cX12_isLame 30 = .ok (.invokevirtual 403, 3) := by decide +kernel
theorem dX12_isLame_33 : decode cX12_isLame 33 = .ok (.aload_n 0, 1) := by decide +kernel
theorem dX12_isLame_34 : decode cX12_isLame 34 = .ok (.invokevirtual 138, 3) := by decide +kernel
theorem dX12_isLame_37 : decode cX12_isLame 37 = .ok (.aload_n 0, 1) := by decide +kernel
theorem dX12_isLame_38 : decode cX12_isLame 38 = .ok (.invokevirtual 138, 3) := by decide +kernel
theorem dX12_isLame_41 : decode cX12_isLame 41 = .ok (.invokevirtual 395, 3) := by decide +kernel
theorem dX12_isLame_44 : decode cX12_isLame 44 = .ok (.aload_n 0, 1) := by decide +kernel
theorem dX12_isLame_45 : decode cX12_isLame 45 = .ok (.invokevirtual 297, 3) := by decide +kernel
theorem dX12_isLame_48 : decode cX12_isLame 48 = .ok (.ifCond .ne 7, 3) := by decide +kernel
theorem dX12_isLame_51 : decode cX12_isLame 51 = .ok (.iconst 1, 1) := by decide +kernel
theorem dX12_isLame_52 : decode cX12_isLame 52 = .ok (.goto 4, 3) := by decide +kernel
theorem dX12_isLame_55 : decode cX12_isLame 55 = .ok (.iconst 0, 1) := by decide +kernel
theorem dX12_isLame_56 : decode cX12_isLame 56 = .ok (.ireturn, 1) := by decide +kernel
theorem dX12_lameSince_0 : decode cX12_lameSince 0 = .ok (.aload_n 0, 1) := by decide +kernel
theorem dX12_lameSince_1 : decode cX12_lameSince 1 = .ok (.aload_n 0, 1) := by decide +kernel
theorem dX12_lameSince_2 : decode cX12_lameSince 2 = .ok (.iload_n 1, 1) := by decide +kernel
theorem dX12_lameSince_3 : decode cX12_lameSince 3 = .ok (.iconst 0, 1) := by decide +kernel
theorem dX12_lameSince_4 : decode cX12_lameSince 4 = .ok (.invokevirtual 403, 3) := by decide +kernel
theorem dX12_lameSince_7 : decode cX12_lameSince 7 = .ok (.aload_n 0, 1) := by decide +kernel
theorem dX12_lameSince_8 : decode cX12_lameSince 8 = .ok (.iload_n 1, 1) := by decide +kernel
theorem dX12_lameSince_9 : decode cX12_lameSince 9 = .ok (.iconst 2, 1) := by decide +kernel
theorem dX12_lameSince_10 : decode cX12_lameSince 10 = .ok (.invokevirtual 403, 3) := by decide +kernel
theorem dX12_lameSince_13 : decode cX12_lameSince 13 = .ok (.aload_n 0, 1) := by decide +kernel
theorem dX12_lameSince_14 : decode cX12_lameSince 14 = .ok (.iload_n 1, 1) := by decide +kernel
theorem dX12_lameSince_15 : decode cX12_lameSince 15 = .ok (.iconst 2, 1) := by decide +kernel
theorem dX12_lameSince_16 : decode cX12_lameSince 16 = .ok (.invokevirtual 403, 3) := by decide +kernel
theorem dX12_lameSince_19 : decode cX12_lameSince 19 = .ok (.invokevirtual 395, 3) := by decide +kernel
theorem dX12_lameSince_22 : decode cX12_lameSince 22 = .ok (.aload_n 0, 1) := by decide +kernel
theorem dX12_lameSince_23 : decode cX12_lameSince 23 = .ok (.invokevirtual 294, 3) := by decide +kernel
theorem dX12_lameSince_26 : decode cX12_lameSince 26 = .ok (.aload_n 0, 1) := by decide +kernel
theorem dX12_lameSince_27 : decode cX12_lameSince 27 = .ok (.invokevirtual 138, 3) := by decide +kernel
theorem dX12_lameSince_30 : decode cX12_lameSince 30 = .ok (.istore_n 2, 1) := by decide +kernel
theorem dX12_lameSince_31 : decode cX12_lameSince 31 = .ok (.iconst 1, 1) := by decide +kernel
theorem dX12_lameSince_32 : decode cX12_lameSince 32 = .ok (.istore_n 3, 1) := by decide +kernel
theorem dX12_lameSince_33 : decode cX12_lameSince 33 = .ok (.iload_n 3, 1) := by decide +kernel
theorem dX12_lameSince_34 : decode cX12_lameSince 34 = .ok (.ifCond .eq 52, 3) := by decide +kernel
theorem dX12_lameSince_37 : decode cX12_lameSince 37 = .ok (.iload_n 2, 1) := by decide +kernel
theorem dX12_lameSince_38 : decode cX12_lameSince 38 = .ok (.aload_n 0, 1) := by decide +kernel
theorem dX12_lameSince_39 : decode cX12_lameSince 39 = .ok (.iload_n 1, 1) := by decide +kernel
theorem dX12_lameSince_40 : decode cX12_lameSince 40 = .ok (.iconst 2, 1) := by decide +kernel
theorem dX12_lameSince_41 : decode cX12_lameSince 41 = .ok (.invokevirtual 403, 3) := by decide +kernel
theorem dX12_lameSince_44 : decode cX12_lameSince 44 = .ok (.if_icmp .le 42, 3) := by decide +kernel
theorem dX12_lameSince_47 : decode cX12_lameSince 47 = .ok (.aload_n 0, 1) := by decide +kernel
theorem dX12_lameSince_48 : decode cX12_lameSince 48 = .ok (.aload_n 0, 1) := by decide +kernel
theorem dX12_lameSince_49 : decode cX12_lameSince 49 = .ok (.iload_n 1, 1) := by decide +kernel
theorem dX12_lameSince_50 : decode cX12_lameSince 50 = .ok (.iconst 0, 1) := by decide +kernel
theorem dX12_lameSince_51 : decode cX12_lameSince 51 = .ok (.invokevirtual 403, 3) := by decide +kernel
theorem dX12_lameSince_54 : decode cX12_lameSince 54 = .ok (.iload_n 2, 1) := by decide +kernel
theorem dX12_lameSince_55 : decode cX12_lameSince 55 = .ok (.iconst 1, 1) := by decide +kernel
theorem dX12_lameSince_56 : decode cX12_lameSince 56 = .ok (.isub, 1) := by decide +kernel
theorem dX12_lameSince_57 : decode cX12_lameSince 57 = .ok (.iload_n 2, 1) := by decide +kernel
theorem dX12_lameSince_58 : decode cX12_lameSince 58 = .ok (.iconst 1, 1) := by decide +kernel
theorem dX12_lameSince_59 : decode cX12_lameSince 59 = .ok (.isub, 1) := by decide +kernel
theorem dX12_lameSince_60 : decode cX12_lameSince 60 = .ok (.invokevirtual 395, 3) := by decide +kernel
theorem dX12_lameSince_63 : decode cX12_lameSince 63 = .ok (.aload_n 0, 1) := by decide +kernel
theorem dX12_lameSince_64 : decode cX12_lameSince 64 = .ok (.invokevirtual 297, 3) := by decide +kernel
theorem dX12_lameSince_67 : decode cX12_lameSince 67 = .ok (.ifCond .ne 7, 3) := by decide +kernel
theorem dX12_lameSince_70 : decode cX12_lameSince 70 = .ok (.iconst 1, 1) := by decide +kernel
theorem dX12_lameSince_71 : decode cX12_lameSince 71 = .ok (.goto 4, 3) := by decide +kernel
theorem dX12_lameSince_74 : decode cX12_lameSince 74 = .ok (.iconst 0, 1) := by decide +kernel
theorem dX12_lameSince_75 : decode cX12_lameSince 75 = .ok (.istore_n 3, 1) := by decide +kernel
theorem dX12_lameSince_76 : decode cX12_lameSince 76 = .ok (.iload_n 3, 1) := by decide +kernel
theorem dX12_lameSince_77 : decode cX12_lameSince 77 = .ok (.ifCond .eq (-44), 3) := by decide +kernel
theorem dX12_lameSince_80 : decode cX12_lameSince 80 = .ok (.iinc 2 (-1), 3) := by decide +kernel
theorem dX12_lameSince_83 : decode cX12_lameSince 83 = .ok (.goto (-50), 3) := by decide +kernel
theorem dX12_lameSince_86 : decode cX12_lameSince 86 = .ok (.iload_n 2, 1) := by decide +kernel
theorem dX12_lameSince_87 : decode cX12_lameSince 87 = .ok (.ireturn, 1) := by decide +kernel
theorem dX12_signOf_0 : decode cX12_signOf 0 = .ok (.aload_n 0, 1) := by decide +kernel
theorem dX12_signOf_1 : decode cX12_signOf 1 = .ok (.iload_n 1, 1) := by decide +kernel
theorem dX12_signOf_2 : decode cX12_signOf 2 = .ok (.invokevirtual 400, 3) := by decide +kernel
theorem dX12_signOf_5 : decode cX12_signOf 5 = .ok (.ifCond .eq 15, 3) := by decide +kernel
theorem dX12_signOf_8 : decode cX12_signOf 8 = .ok (.iload_n 2, 1) := by decide +kernel
theorem dX12_signOf_9 : decode cX12_signOf 9 = .ok (.i2l, 1) := by decide +kernel
theorem dX12_signOf_10 : decode cX12_signOf 10 = .ok (.lconst 0, 1) := by decide +kernel
theorem dX12_signOf_11 : decode cX12_signOf 11 = .ok (.ldc2_w 406, 3) := by decide +kernel
theorem dX12_signOf_14 : decode cX12_signOf 14 = .ok (.invokestatic 125, 3) := by decide +kernel
theorem dX12_signOf_17 : decode cX12_signOf 17 = .ok (.ifCond .ne 6, 3) := by decide +kernel
theorem dX12_signOf_20 : decode cX12_signOf 20 = .ok (.bipush (-2), 2) := by decide +kernel
theorem dX12_signOf_22 : decode cX12_signOf 22 = .ok (.ireturn, 1) := by decide +kernel
theorem dX12_signOf_23 : decode cX12_signOf 23 = .ok (.iload_n 2, 1) := by decide +kernel
theorem dX12_signOf_24 : decode cX12_signOf 24 = .ok (.iconst 2, 1) := by decide +kernel
theorem dX12_signOf_25 : decode cX12_signOf 25 = .ok (.if_icmp .le 38, 3) := by decide +kernel
theorem dX12_signOf_28 : decode cX12_signOf 28 = .ok (.iload_n 2, 1) := by decide +kernel
theorem dX12_signOf_29 : decode cX12_signOf 29 = .ok (.iconst 3, 1) := by decide +kernel
theorem dX12_signOf_30 : decode cX12_signOf 30 = .ok (.if_icmp .ne 12, 3) := by decide +kernel
theorem dX12_signOf_33 : decode cX12_signOf 33 = .ok (.aload_n 0, 1) := by decide +kernel
theorem dX12_signOf_34 : decode cX12_signOf 34 = .ok (.iload_n 1, 1) := by decide +kernel
theorem dX12_signOf_35 : decode cX12_signOf 35 = .ok (.iconst 2, 1) := by decide +kernel
theorem dX12_signOf_36 : decode cX12_signOf 36 = .ok (.invokevirtual 403, 3) := by decide +kernel
theorem dX12_signOf_39 : decode cX12_signOf 39 = .ok (.goto 23, 3) := by decide +kernel
theorem dX12_signOf_42 : decode cX12_signOf 42 = .ok (.iload_n 2, 1) := by decide +kernel
theorem dX12_signOf_43 : decode cX12_signOf 43 = .ok (.iconst 4, 1) := by decide +kernel
theorem dX12_signOf_44 : decode cX12_signOf 44 = .ok (.if_icmp .ne 12, 3) := by decide +kernel
theorem dX12_signOf_47 : decode cX12_signOf 47 = .ok (.aload_n 0, 1) := by decide +kernel
theorem dX12_signOf_48 : decode cX12_signOf 48 = .ok (.iload_n 1, 1) := by decide +kernel
theorem dX12_signOf_49 : decode cX12_signOf 49 = .ok (.iconst 0, 1) := by decide +kernel
theorem dX12_signOf_50 : decode cX12_signOf 50 = .ok (.invokevirtual 403, 3) := by decide +kernel
theorem dX12_signOf_53 : decode cX12_signOf 53 = .ok (.goto 9, 3) := by decide +kernel
theorem dX12_signOf_56 : decode cX12_signOf 56 = .ok (.aload_n 0, 1) := by decide +kernel
theorem dX12_signOf_57 : decode cX12_signOf 57 = .ok (.iload_n 1, 1) := by decide +kernel
theorem dX12_signOf_58 : decode cX12_signOf 58 = .ok (.iconst 1, 1) := by decide +kernel
theorem dX12_signOf_59 : decode cX12_signOf 59 = .ok (.invokevirtual 403, 3) := by decide +kernel
theorem dX12_signOf_62 : decode cX12_signOf 62 = .ok (.ireturn, 1) := by decide +kernel
theorem dX12_signOf_63 : decode cX12_signOf 63 = .ok (.aload_n 0, 1) := by decide +kernel
theorem dX12_signOf_64 : decode cX12_signOf 64 = .ok (.iload_n 1, 1) := by decide +kernel
theorem dX12_signOf_65 : decode cX12_signOf 65 = .ok (.invokevirtual 408, 3) := by decide +kernel
theorem dX12_signOf_68 : decode cX12_signOf 68 = .ok (.istore_n 3, 1) := by decide +kernel
theorem dX12_signOf_69 : decode cX12_signOf 69 = .ok (.iload_n 2, 1) := by decide +kernel
theorem dX12_signOf_70 : decode cX12_signOf 70 = .ok (.ifCond .ne 13, 3) := by decide +kernel
theorem dX12_signOf_73 : decode cX12_signOf 73 = .ok (.iload_n 3, 1) := by decide +kernel
theorem dX12_signOf_74 : decode cX12_signOf 74 = .ok (.ifCond .eq 7, 3) := by decide +kernel
theorem dX12_signOf_77 : decode cX12_signOf 77 = .ok (.iconst 1, 1) := by decide +kernel
theorem dX12_signOf_78 : decode cX12_signOf 78 = .ok (.goto 4, 3) := by decide +kernel
theorem dX12_signOf_81 : decode cX12_signOf 81 = .ok (.iconst 0, 1) := by decide +kernel
theorem dX12_signOf_82 : decode cX12_signOf 82 = .ok (.ireturn, 1) := by decide +kernel
theorem dX12_signOf_83 : decode cX12_signOf 83 = .ok (.iload_n 3, 1) := by decide +kernel
theorem dX12_signOf_84 : decode cX12_signOf 84 = .ok (.ifCond .ne 14, 3) := by decide +kernel
theorem dX12_signOf_87 : decode cX12_signOf 87 = .ok (.iload_n 2, 1) := by decide +kernel
theorem dX12_signOf_88 : decode cX12_signOf 88 = .ok (.iconst 1, 1) := by decide +kernel
theorem dX12_signOf_89 : decode cX12_signOf 89 = .ok (.if_icmp .ne 7, 3) := by decide +kernel
theorem dX12_signOf_92 : decode cX12_signOf 92 = .ok (.iconst (-1), 1) := by decide +kernel
theorem dX12_signOf_93 : decode cX12_signOf 93 = .ok (.goto 4, 3) := by decide +kernel
theorem dX12_signOf_96 : decode cX12_signOf 96 = .ok (.iconst 0, 1) := by decide +kernel
theorem dX12_signOf_97 : decode cX12_signOf 97 = .ok (.ireturn, 1) := by decide +kernel
theorem dX12_signOf_98 : decode cX12_signOf 98 = .ok (.aload_n 0, 1) := by decide +kernel
theorem dX12_signOf_99 : decode cX12_signOf 99 = .ok (.iload_n 1, 1) := by decide +kernel
theorem dX12_signOf_100 : decode cX12_signOf 100 = .ok (.invokevirtual 411, 3) := by decide +kernel
theorem dX12_signOf_103 : decode cX12_signOf 103 = .ok (.aload_n 0, 1) := by decide +kernel
theorem dX12_signOf_104 : decode cX12_signOf 104 = .ok (.iconst 4, 1) := by decide +kernel
theorem dX12_signOf_105 : decode cX12_signOf 105 = .ok (.iconst 1, 1) := by decide +kernel
theorem dX12_signOf_106 : decode cX12_signOf 106 = .ok (.bipush 10, 2) := by decide +kernel
theorem dX12_signOf_108 : decode cX12_signOf 108 = .ok (.invokevirtual 379, 3) := by decide +kernel
theorem dX12_signOf_111 : decode cX12_signOf 111 = .ok (.iadd, 1) := by decide +kernel
theorem dX12_signOf_112 : decode cX12_signOf 112 = .ok (.istore 4, 2) := by decide +kernel
theorem dX12_signOf_114 : decode cX12_signOf 114 = .ok (.iload_n 2, 1) := by decide +kernel
theorem dX12_signOf_115 : decode cX12_signOf 115 = .ok (.iconst 1, 1) := by decide +kernel
theorem dX12_signOf_116 : decode cX12_signOf 116 = .ok (.if_icmp .ne 8, 3) := by decide +kernel
theorem dX12_signOf_119 : decode cX12_signOf 119 = .ok (.iload 4, 2) := by decide +kernel
theorem dX12_signOf_121 : decode cX12_signOf 121 = .ok (.goto 14, 3) := by decide +kernel
theorem dX12_signOf_124 : decode cX12_signOf 124 = .ok (.iconst 0, 1) := by decide +kernel
theorem dX12_signOf_125 : decode cX12_signOf 125 = .ok (.aload_n 0, 1) := by decide +kernel
theorem dX12_signOf_126 : decode cX12_signOf 126 = .ok (.invokevirtual 138, 3) := by decide +kernel
theorem dX12_signOf_129 : decode cX12_signOf 129 = .ok (.iload 4, 2) := by decide +kernel
theorem dX12_signOf_131 : decode cX12_signOf 131 = .ok (.isub, 1) := by decide +kernel
theorem dX12_signOf_132 : decode cX12_signOf 132 = .ok (.invokestatic 414, 3) := by decide +kernel
theorem dX12_signOf_135 : decode cX12_signOf 135 = .ok (.ireturn, 1) := by decide +kernel
theorem dX12_mayBe_0 : decode cX12_mayBe 0 = .ok (.iconst 0, 1) := by decide +kernel
theorem dX12_mayBe_1 : decode cX12_mayBe 1 = .ok (.istore 4, 2) := by decide +kernel
theorem dX12_mayBe_3 : decode cX12_mayBe 3 = .ok (.iconst 0, 1) := by decide +kernel
theorem dX12_mayBe_4 : decode cX12_mayBe 4 = .ok (.istore 5, 2) := by decide +kernel
theorem dX12_mayBe_6 : decode cX12_mayBe 6 = .ok (.iload 5, 2) := by decide +kernel
theorem dX12_mayBe_8 : decode cX12_mayBe 8 = .ok (.aload_n 0, 1) := by decide +kernel
theorem dX12_mayBe_9 : decode cX12_mayBe 9 = .ok (.getfield 417, 3) := by decide +kernel
theorem dX12_mayBe_12 : decode cX12_mayBe 12 = .ok (.if_icmp .ge 77, 3) := by decide +kernel
theorem dX12_mayBe_15 : decode cX12_mayBe 15 = .ok (.iload_n 1, 1) := by decide +kernel
theorem dX12_mayBe_16 : decode cX12_mayBe 16 = .ok (.iload 5, 2) := by decide +kernel
theorem dX12_mayBe_18 : decode cX12_mayBe 18 = .ok (.ishr, 1) := by decide +kernel
theorem dX12_mayBe_19 : decode cX12_mayBe 19 = .ok (.iconst 1, 1) := by decide +kernel
theorem dX12_mayBe_20 : decode cX12_mayBe 20 = .ok (.iand, 1) := by decide +kernel
theorem dX12_mayBe_21 : decode cX12_mayBe 21 = .ok (.iconst 1, 1) := by decide +kernel
theorem dX12_mayBe_22 : decode cX12_mayBe 22 = .ok (.if_icmp .ne 7, 3) := by decide +kernel
theorem dX12_mayBe_25 : decode cX12_mayBe 25 = .ok (.iconst 1, 1) := by decide +kernel
theorem dX12_mayBe_26 : decode cX12_mayBe 26 = .ok (.goto 4, 3) := by decide +kernel
theorem dX12_mayBe_29 : decode cX12_mayBe 29 = .ok (.iconst 0, 1) := by decide +kernel
theorem dX12_mayBe_30 : decode cX12_mayBe 30 = .ok (.istore 6, 2) := by decide +kernel
theorem dX12_mayBe_32 : decode cX12_mayBe 32 = .ok (.iload 6, 2) := by decide +kernel
theorem dX12_mayBe_34 : decode cX12_mayBe 34 = .ok (.ifCond .eq 20, 3) := by decide +kernel
theorem dX12_mayBe_37 : decode cX12_mayBe 37 = .ok (.iload 4, 2) := by decide +kernel
theorem dX12_mayBe_39 : decode cX12_mayBe 39 = .ok (.aload_n 0, 1) := by decide +kernel
theorem dX12_mayBe_40 : decode cX12_mayBe 40 = .ok (.aload_n 0, 1) := by decide +kernel
theorem dX12_mayBe_41 : decode cX12_mayBe 41 = .ok (.getfield 65, 3) := by decide +kernel
theorem dX12_mayBe_44 : decode cX12_mayBe 44 = .ok (.iload 5, 2) := by decide +kernel
theorem dX12_mayBe_46 : decode cX12_mayBe 46 = .ok (.iaload, 1) := by decide +kernel
theorem dX12_mayBe_47 : decode cX12_mayBe 47 = .ok (.iconst 1, 1) := by decide +kernel
theorem dX12_mayBe_48 : decode cX12_mayBe 48 = .ok (.invokevirtual 403, 3) := by decide +kernel
theorem dX12_mayBe_51 : decode cX12_mayBe 51 = .ok (.iadd, 1) := by decide +kernel
theorem dX12_mayBe_52 : decode cX12_mayBe 52 = .ok (.istore 4, 2) := by decide +kernel
theorem dX12_mayBe_54 : decode cX12_mayBe 54 = .ok (.iload 6, 2) := by decide +kernel
theorem dX12_mayBe_56 : decode cX12_mayBe 56 = .ok (.ifCond .eq 27, 3) := by decide +kernel
theorem dX12_mayBe_59 : decode cX12_mayBe 59 = .ok (.aload_n 0, 1) := by decide +kernel
theorem dX12_mayBe_60 : decode cX12_mayBe 60 = .ok (.getfield 71, 3) := by decide +kernel
theorem dX12_mayBe_63 : decode cX12_mayBe 63 = .ok (.iload 5, 2) := by decide +kernel
theorem dX12_mayBe_65 : decode cX12_mayBe 65 = .ok (.iaload, 1) := by decide +kernel
theorem dX12_mayBe_66 : decode cX12_mayBe 66 = .ok (.iconst (-1), 1) := by decide +kernel
theorem dX12_mayBe_67 : decode cX12_mayBe 67 = .ok (.if_icmp .eq 16, 3) := by decide +kernel
theorem dX12_mayBe_70 : decode cX12_mayBe 70 = .ok (.aload_n 0, 1) := by decide +kernel
theorem dX12_mayBe_71 : decode cX12_mayBe 71 = .ok (.getfield 71, 3) := by decide +kernel
theorem dX12_mayBe_74 : decode cX12_mayBe 74 = .ok (.iload 5, 2) := by decide +kernel
theorem dX12_mayBe_76 : decode cX12_mayBe 76 = .ok (.iaload, 1) := by decide +kernel
theorem dX12_mayBe_77 : decode cX12_mayBe 77 = .ok (.iload_n 2, 1) := by decide +kernel
theorem dX12_mayBe_78 : decode cX12_mayBe 78 = .ok (.if_icmp .eq 5, 3) := by decide +kernel
theorem dX12_mayBe_81 : decode cX12_mayBe 81 = .ok (.iconst 0, 1) := by decide +kernel
theorem dX12_mayBe_82 : decode cX12_mayBe 82 = .ok (.ireturn, 1) := by decide +kernel
theorem dX12_mayBe_83 : decode cX12_mayBe 83 = .ok (.iinc 5 1, 3) := by decide +kernel
theorem dX12_mayBe_86 : decode cX12_mayBe 86 = .ok (.goto (-80), 3) := by decide +kernel
theorem dX12_mayBe_89 : decode cX12_mayBe 89 = .ok (.iload 4, 2) := by decide +kernel
theorem dX12_mayBe_91 : decode cX12_mayBe 91 = .ok (.iload_n 3, 1) := by decide +kernel
theorem dX12_mayBe_92 : decode cX12_mayBe 92 = .ok (.if_icmp .gt 7, 3) := by decide +kernel
theorem dX12_mayBe_95 : decode cX12_mayBe 95 = .ok (.iconst 1, 1) := by decide +kernel
theorem dX12_mayBe_96 : decode cX12_mayBe 96 = .ok (.goto 4, 3) := by decide +kernel
theorem dX12_mayBe_99 : decode cX12_mayBe 99 = .ok (.iconst 0, 1) := by decide +kernel
theorem dX12_mayBe_100 : decode cX12_mayBe 100 = .ok (.ireturn, 1) := by decide +kernel
theorem dX12_bits_0 : decode cX12_bits 0 = .ok (.iconst 0, 1) := by decide +kernel
theorem dX12_bits_1 : decode cX12_bits 1 = .ok (.istore_n 2, 1) := by decide +kernel
theorem dX12_bits_2 : decode cX12_bits 2 = .ok (.iconst 0, 1) := by decide +kernel
theorem dX12_bits_3 : decode cX12_bits 3 = .ok (.istore_n 3, 1) := by decide +kernel
theorem dX12_bits_4 : decode cX12_bits 4 = .ok (.iload_n 3, 1) := by decide +kernel
theorem dX12_bits_5 : decode cX12_bits 5 = .ok (.bipush 9, 2) := by decide +kernel
theorem dX12_bits_7 : decode cX12_bits 7 = .ok (.if_icmp .ge 17, 3) := by decide +kernel
theorem dX12_bits_10 : decode cX12_bits 10 = .ok (.iload_n 2, 1) := by decide +kernel
theorem dX12_bits_11 : decode cX12_bits 11 = .ok (.iload_n 1, 1) := by decide +kernel
theorem dX12_bits_12 : decode cX12_bits 12 = .ok (.iload_n 3, 1) := by decide +kernel
theorem dX12_bits_13 : decode cX12_bits 13 = .ok (.ishr, 1) := by decide +kernel
theorem dX12_bits_14 : decode cX12_bits 14 = .ok (.iconst 1, 1) := by decide +kernel
theorem dX12_bits_15 : decode cX12_bits 15 = .ok (.iand, 1) := by decide +kernel
theorem dX12_bits_16 : decode cX12_bits 16 = .ok (.iadd, 1) := by decide +kernel
theorem dX12_bits_17 : decode cX12_bits 17 = .ok (.istore_n 2, 1) := by decide +kernel
theorem dX12_bits_18 : decode cX12_bits 18 = .ok (.iinc 3 1, 3) := by decide +kernel
theorem dX12_bits_21 : decode cX12_bits 21 = .ok (.goto (-17), 3) := by decide +kernel
theorem dX12_bits_24 : decode cX12_bits 24 = .ok (.iload_n 2, 1) := by decide +kernel
theorem dX12_bits_25 : decode cX12_bits 25 = .ok (.ireturn, 1) := by decide +kernel
theorem dX12_leastOf_0 : decode cX12_leastOf 0 = .ok (.iconst 1, 1) := by decide +kernel
theorem dX12_leastOf_1 : decode cX12_leastOf 1 = .ok (.aload_n 0, 1) := by decide +kernel
theorem dX12_leastOf_2 : decode cX12_leastOf 2 = .ok (.getfield 417, 3) := by decide +kernel
theorem dX12_leastOf_5 : decode cX12_leastOf 5 = .ok (.ishl, 1) := by decide +kernel
theorem dX12_leastOf_6 : decode cX12_leastOf 6 = .ok (.iconst 1, 1) := by decide +kernel
theorem dX12_leastOf_7 : decode cX12_leastOf 7 = .ok (.isub, 1) := by decide +kernel
theorem dX12_leastOf_8 : decode cX12_leastOf 8 = .ok (.istore_n 2, 1) := by decide +kernel
theorem dX12_leastOf_9 : decode cX12_leastOf 9 = .ok (.iconst 0, 1) := by decide +kernel
theorem dX12_leastOf_10 : decode cX12_leastOf 10 = .ok (.istore_n 3, 1) := by decide +kernel
theorem dX12_leastOf_11 : decode cX12_leastOf 11 = .ok (.iload_n 3, 1) := by decide +kernel
theorem dX12_leastOf_12 : decode cX12_leastOf 12 = .ok (.iload_n 2, 1) := by decide +kernel
theorem dX12_leastOf_13 : decode cX12_leastOf 13 = .ok (.if_icmp .gt 30, 3) := by decide +kernel
theorem dX12_leastOf_16 : decode cX12_leastOf 16 = .ok (.aload_n 0, 1) := by decide +kernel
theorem dX12_leastOf_17 : decode cX12_leastOf 17 = .ok (.getfield 68, 3) := by decide +kernel
theorem dX12_leastOf_20 : decode cX12_leastOf 20 = .ok (.sipush 4608, 3) := by decide +kernel
theorem dX12_leastOf_23 : decode cX12_leastOf 23 = .ok (.iload_n 3, 1) := by decide +kernel
theorem dX12_leastOf_24 : decode cX12_leastOf 24 = .ok (.iadd, 1) := by decide +kernel
theorem dX12_leastOf_25 : decode cX12_leastOf 25 = .ok (.iload_n 3, 1) := by decide +kernel
theorem dX12_leastOf_26 : decode cX12_leastOf 26 = .ok (.ifCond .ne 7, 3) := by decide +kernel
theorem dX12_leastOf_29 : decode cX12_leastOf 29 = .ok (.iconst 0, 1) := by decide +kernel
theorem dX12_leastOf_30 : decode cX12_leastOf 30 = .ok (.goto 6, 3) := by decide +kernel
theorem dX12_leastOf_33 : decode cX12_leastOf 33 = .ok (.ldc_w 420, 3) := by decide +kernel
theorem dX12_leastOf_36 : decode cX12_leastOf 36 = .ok (.iastore, 1) := by decide +kernel
theorem dX12_leastOf_37 : decode cX12_leastOf 37 = .ok (.iinc 3 1, 3) := by decide +kernel
theorem dX12_leastOf_40 : decode cX12_leastOf 40 = .ok (.goto (-29), 3) := by decide +kernel
theorem dX12_leastOf_43 : decode cX12_leastOf 43 = .ok (.bipush 8, 2) := by decide +kernel
theorem dX12_leastOf_45 : decode cX12_leastOf 45 = .ok (.istore_n 3, 1) := by decide +kernel
theorem dX12_leastOf_46 : decode cX12_leastOf 46 = .ok (.iload_n 3, 1) := by decide +kernel
theorem dX12_leastOf_47 : decode cX12_leastOf 47 = .ok (.ifCond .lt 153, 3) := by decide +kernel
theorem dX12_leastOf_50 : decode cX12_leastOf 50 = .ok (.iconst 0, 1) := by decide +kernel
theorem dX12_leastOf_51 : decode cX12_leastOf 51 = .ok (.istore 4, 2) := by decide +kernel
theorem dX12_leastOf_53 : decode cX12_leastOf 53 = .ok (.iload 4, 2) := by decide +kernel
theorem dX12_leastOf_55 : decode cX12_leastOf 55 = .ok (.iload_n 2, 1) := by decide +kernel
theorem dX12_leastOf_56 : decode cX12_leastOf 56 = .ok (.if_icmp .gt 24, 3) := by decide +kernel
theorem dX12_leastOf_59 : decode cX12_leastOf 59 = .ok (.aload_n 0, 1) := by decide +kernel
theorem dX12_leastOf_60 : decode cX12_leastOf 60 = .ok (.getfield 77, 3) := by decide +kernel
theorem dX12_leastOf_63 : decode cX12_leastOf 63 = .ok (.iload 4, 2) := by decide +kernel
theorem dX12_leastOf_65 : decode cX12_leastOf 65 = .ok (.aload_n 0, 1) := by decide +kernel
theorem dX12_leastOf_66 : decode cX12_leastOf 66 = .ok (.iload 4, 2) := by decide +kernel
theorem dX12_leastOf_68 : decode cX12_leastOf 68 = .ok (.iload_n 3, 1) := by decide +kernel
theorem dX12_leastOf_69 : decode cX12_leastOf 69 = .ok (.iload_n 1, 1) := by decide +kernel
theorem dX12_leastOf_70 : decode cX12_leastOf 70 = .ok (.invokevirtual 421, 3) := by decide +kernel
theorem dX12_leastOf_73 : decode cX12_leastOf 73 = .ok (.bastore, 1) := by decide +kernel
theorem dX12_leastOf_74 : decode cX12_leastOf 74 = .ok (.iinc 4 1, 3) := by decide +kernel
theorem dX12_leastOf_77 : decode cX12_leastOf 77 = .ok (.goto (-24), 3) := by decide +kernel
theorem dX12_leastOf_80 : decode cX12_leastOf 80 = .ok (.iconst 0, 1) := by decide +kernel
theorem dX12_leastOf_81 : decode cX12_leastOf 81 = .ok (.istore 4, 2) := by decide +kernel
theorem dX12_leastOf_83 : decode cX12_leastOf 83 = .ok (.iload 4, 2) := by decide +kernel
theorem dX12_leastOf_85 : decode cX12_leastOf 85 = .ok (.iload_n 2, 1) := by decide +kernel
theorem dX12_leastOf_86 : decode cX12_leastOf 86 = .ok (.if_icmp .gt 108, 3) := by decide +kernel
theorem dX12_leastOf_89 : decode cX12_leastOf 89 = .ok (.aload_n 0, 1) := by decide +kernel
theorem dX12_leastOf_90 : decode cX12_leastOf 90 = .ok (.getfield 68, 3) := by decide +kernel
theorem dX12_leastOf_93 : decode cX12_leastOf 93 = .ok (.sipush 512, 3) := by decide +kernel
theorem dX12_leastOf_96 : decode cX12_leastOf 96 = .ok (.iload_n 3, 1) := by decide +kernel
theorem dX12_leastOf_97 : decode cX12_leastOf 97 = .ok (.iconst 1, 1) := by decide +kernel
theorem dX12_leastOf_98 : decode cX12_leastOf 98 = .ok (.iadd, 1) := by decide +kernel
theorem dX12_leastOf_99 : decode cX12_leastOf 99 = .ok (.imul, 1) := by decide +kernel
theorem dX12_leastOf_100 : decode cX12_leastOf 100 = .ok (.iload 4, 2) := by decide +kernel
theorem dX12_leastOf_102 : decode cX12_leastOf 102 = .ok (.iadd, 1) := by decide +kernel
theorem dX12_leastOf_103 : decode cX12_leastOf 103 = .ok (.iaload, 1) := by decide +kernel
theorem dX12_leastOf_104 : decode cX12_leastOf 104 = .ok (.istore 5, 2) := by decide +kernel
theorem dX12_leastOf_106 : decode cX12_leastOf 106 = .ok (.iload 4, 2) := by decide +kernel
theorem dX12_leastOf_108 : decode cX12_leastOf 108 = .ok (.istore 6, 2) := by decide +kernel
theorem dX12_leastOf_110 : decode cX12_leastOf 110 = .ok (.iload 6, 2) := by decide +kernel
theorem dX12_leastOf_112 : decode cX12_leastOf 112 = .ok (.ifCond .le 61, 3) := by decide +kernel
theorem dX12_leastOf_115 : decode cX12_leastOf 115 = .ok (.aload_n 0, 1) := by decide +kernel
theorem dX12_leastOf_116 : decode cX12_leastOf 116 = .ok (.getfield 77, 3) := by decide +kernel
theorem dX12_leastOf_119 : decode cX12_leastOf 119 = .ok (.iload 6, 2) := by decide +kernel
theorem dX12_leastOf_121 : decode cX12_leastOf 121 = .ok (.baload, 1) := by decide +kernel
theorem dX12_leastOf_122 : decode cX12_leastOf 122 = .ok (.ifCond .eq 39, 3) := by decide +kernel
theorem dX12_leastOf_125 : decode cX12_leastOf 125 = .ok (.iload 5, 2) := by decide +kernel
theorem dX12_leastOf_127 : decode cX12_leastOf 127 = .ok (.iload_n 3, 1) := by decide +kernel
theorem dX12_leastOf_128 : decode cX12_leastOf 128 = .ok (.aload_n 0, 1) := by decide +kernel
theorem dX12_leastOf_129 : decode cX12_leastOf 129 = .ok (.iload 6, 2) := by decide +kernel
theorem dX12_leastOf_131 : decode cX12_leastOf 131 = .ok (.invokevirtual 424, 3) := by decide +kernel
theorem dX12_leastOf_134 : decode cX12_leastOf 134 = .ok (.imul, 1) := by decide +kernel
theorem dX12_leastOf_135 : decode cX12_leastOf 135 = .ok (.aload_n 0, 1) := by decide +kernel
theorem dX12_leastOf_136 : decode cX12_leastOf 136 = .ok (.getfield 68, 3) := by decide +kernel
theorem dX12_leastOf_139 : decode cX12_leastOf 139 = .ok (.sipush 512, 3) := by decide +kernel
theorem dX12_leastOf_142 : decode cX12_leastOf 142 = .ok (.iload_n 3, 1) := by decide +kernel
theorem dX12_leastOf_143 : decode cX12_leastOf 143 = .ok (.iconst 1, 1) := by decide +kernel
theorem dX12_leastOf_144 : decode cX12_leastOf 144 = .ok (.iadd, 1) := by decide +kernel
theorem dX12_leastOf_145 : decode cX12_leastOf 145 = .ok (.imul, 1) := by decide +kernel
theorem dX12_leastOf_146 : decode cX12_leastOf 146 = .ok (.iload 4, 2) := by decide +kernel
theorem dX12_leastOf_148 : decode cX12_leastOf 148 = .ok (.iload 6, 2) := by decide +kernel
theorem dX12_leastOf_150 : decode cX12_leastOf 150 = .ok (.iconst (-1), 1) := by decide +kernel
theorem dX12_leastOf_151 : decode cX12_leastOf 151 = .ok (.ixor, 1) := by decide +kernel
theorem dX12_leastOf_152 : decode cX12_leastOf 152 = .ok (.iand, 1) := by decide +kernel
theorem dX12_leastOf_153 : decode cX12_leastOf 153 = .ok (.iadd, 1) := by decide +kernel
theorem dX12_leastOf_154 : decode cX12_leastOf 154 = .ok (.iaload, 1) := by decide +kernel
theorem dX12_leastOf_155 : decode cX12_leastOf 155 = .ok (.iadd, 1) := by decide +kernel
theorem dX12_leastOf_156 : decode cX12_leastOf 156 = .ok (.invokestatic 163, 3) := by decide +kernel
theorem dX12_leastOf_159 : decode cX12_leastOf 159 = .ok (.istore 5, 2) := by decide +kernel
theorem dX12_leastOf_161 : decode cX12_leastOf 161 = .ok (.iload 6, 2) := by decide +kernel
theorem dX12_leastOf_163 : decode cX12_leastOf 163 = .ok (.iconst 1, 1) := by decide +kernel
theorem dX12_leastOf_164 : decode cX12_leastOf 164 = .ok (.isub, 1) := by decide +kernel
theorem dX12_leastOf_165 : decode cX12_leastOf 165 = .ok (.iload 4, 2) := by decide +kernel
theorem dX12_leastOf_167 : decode cX12_leastOf 167 = .ok (.iand, 1) := by decide +kernel
theorem dX12_leastOf_168 : decode cX12_leastOf 168 = .ok (.istore 6, 2) := by decide +kernel
theorem dX12_leastOf_170 : decode cX12_leastOf 170 = .ok (.goto (-60), 3) := by decide +kernel
theorem dX12_leastOf_173 : decode cX12_leastOf 173 = .ok (.aload_n 0, 1) := by decide +kernel
theorem dX12_leastOf_174 : decode cX12_leastOf 174 = .ok (.getfield 68, 3) := by decide +kernel
theorem dX12_leastOf_177 : decode cX12_leastOf 177 = .ok (.sipush 512, 3) := by decide +kernel
theorem dX12_leastOf_180 : decode cX12_leastOf 180 = .ok (.iload_n 3, 1) := by decide +kernel
theorem dX12_leastOf_181 : decode cX12_leastOf 181 = .ok (.imul, 1) := by decide +kernel
theorem dX12_leastOf_182 : decode cX12_leastOf 182 = .ok (.iload 4, 2) := by decide +kernel
theorem dX12_leastOf_184 : decode cX12_leastOf 184 = .ok (.iadd, 1) := by decide +kernel
theorem dX12_leastOf_185 : decode cX12_leastOf 185 = .ok (.iload 5, 2) := by decide +kernel
theorem dX12_leastOf_187 : decode cX12_leastOf 187 = .ok (.iastore, 1) := by decide +kernel
theorem dX12_leastOf_188 : decode cX12_leastOf 188 = .ok (.iinc 4 1, 3) := by decide +kernel
theorem dX12_leastOf_191 : decode cX12_leastOf 191 = .ok (.goto (-108), 3) := by decide +kernel
theorem dX12_leastOf_194 : decode cX12_leastOf 194 = .ok (.iinc 3 (-1), 3) := by decide +kernel
theorem dX12_leastOf_197 : decode cX12_leastOf 197 = .ok (.goto (-151), 3) := by decide +kernel
theorem dX12_leastOf_200 : decode cX12_leastOf 200 = .ok (.aload_n 0, 1) := by decide +kernel
theorem dX12_leastOf_201 : decode cX12_leastOf 201 = .ok (.getfield 68, 3) := by decide +kernel
theorem dX12_leastOf_204 : decode cX12_leastOf 204 = .ok (.iload_n 2, 1) := by decide +kernel
theorem dX12_leastOf_205 : decode cX12_leastOf 205 = .ok (.iaload, 1) := by decide +kernel
theorem dX12_leastOf_206 : decode cX12_leastOf 206 = .ok (.ireturn, 1) := by decide +kernel
theorem dX12_plan_0 : decode cX12_plan 0 = .ok (.iload_n 1, 1) := by decide +kernel
theorem dX12_plan_1 : decode cX12_plan 1 = .ok (.i2l, 1) := by decide +kernel
theorem dX12_plan_2 : decode cX12_plan 2 = .ok (.lconst 0, 1) := by decide +kernel
theorem dX12_plan_3 : decode cX12_plan 3 = .ok (.ldc2_w 398, 3) := by decide +kernel
theorem dX12_plan_6 : decode cX12_plan 6 = .ok (.invokestatic 125, 3) := by decide +kernel
theorem dX12_plan_9 : decode cX12_plan 9 = .ok (.ifCond .ne 6, 3) := by decide +kernel
theorem dX12_plan_12 : decode cX12_plan 12 = .ok (.bipush (-2), 2) := by decide +kernel
theorem dX12_plan_14 : decode cX12_plan 14 = .ok (.ireturn, 1) := by decide +kernel
theorem dX12_plan_15 : decode cX12_plan 15 = .ok (.aload_n 0, 1) := by decide +kernel
theorem dX12_plan_16 : decode cX12_plan 16 = .ok (.iconst 0, 1) := by decide +kernel
theorem dX12_plan_17 : decode cX12_plan 17 = .ok (.putfield 417, 3) := by decide +kernel
theorem dX12_plan_20 : decode cX12_plan 20 = .ok (.iconst 0, 1) := by decide +kernel
theorem dX12_plan_21 : decode cX12_plan 21 = .ok (.istore_n 2, 1) := by decide +kernel
theorem dX12_plan_22 : decode cX12_plan 22 = .ok (.iload_n 2, 1) := by decide +kernel
theorem dX12_plan_23 : decode cX12_plan 23 = .ok (.aload_n 0, 1) := by decide +kernel
theorem dX12_plan_24 : decode cX12_plan 24 = .ok (.getfield 9, 3) := by decide +kernel
theorem dX12_plan_27 : decode cX12_plan 27 = .ok (.bipush 7, 2) := by decide +kernel
theorem dX12_plan_29 : decode cX12_plan 29 = .ok (.iaload, 1) := by decide +kernel
theorem dX12_plan_30 : decode cX12_plan 30 = .ok (.if_icmp .ge 52, 3) := by decide +kernel
theorem dX12_plan_33 : decode cX12_plan 33 = .ok (.aload_n 0, 1) := by decide +kernel
theorem dX12_plan_34 : decode cX12_plan 34 = .ok (.iload_n 2, 1) := by decide +kernel
theorem dX12_plan_35 : decode cX12_plan 35 = .ok (.invokevirtual 408, 3) := by decide +kernel
theorem dX12_plan_38 : decode cX12_plan 38 = .ok (.ifCond .ne 6, 3) := by decide +kernel
theorem dX12_plan_41 : decode cX12_plan 41 = .ok (.goto 35, 3) := by decide +kernel
theorem dX12_plan_44 : decode cX12_plan 44 = .ok (.aload_n 0, 1) := by decide +kernel
theorem dX12_plan_45 : decode cX12_plan 45 = .ok (.iload_n 2, 1) := by decide +kernel
theorem dX12_plan_46 : decode cX12_plan 46 = .ok (.iconst 1, 1) := by decide +kernel
theorem dX12_plan_47 : decode cX12_plan 47 = .ok (.invokevirtual 403, 3) := by decide +kernel
theorem dX12_plan_50 : decode cX12_plan 50 = .ok (.iload_n 1, 1) := by decide +kernel
theorem dX12_plan_51 : decode cX12_plan 51 = .ok (.if_icmp .le 5, 3) := by decide +kernel
theorem dX12_plan_54 : decode cX12_plan 54 = .ok (.iconst (-1), 1) := by decide +kernel
theorem dX12_plan_55 : decode cX12_plan 55 = .ok (.ireturn, 1) := by decide +kernel
theorem dX12_plan_56 : decode cX12_plan 56 = .ok (.aload_n 0, 1) := by decide +kernel
theorem dX12_plan_57 : decode cX12_plan 57 = .ok (.getfield 65, 3) := by decide +kernel
theorem dX12_plan_60 : decode cX12_plan 60 = .ok (.aload_n 0, 1) := by decide +kernel
theorem dX12_plan_61 : decode cX12_plan 61 = .ok (.getfield 417, 3) := by decide +kernel
theorem dX12_plan_64 : decode cX12_plan 64 = .ok (.iload_n 2, 1) := by decide +kernel
theorem dX12_plan_65 : decode cX12_plan 65 = .ok (.iastore, 1) := by decide +kernel
theorem dX12_plan_66 : decode cX12_plan 66 = .ok (.aload_n 0, 1) := by decide +kernel
theorem dX12_plan_67 : decode cX12_plan 67 = .ok (.dup, 1) := by decide +kernel
theorem dX12_plan_68 : decode cX12_plan 68 = .ok (.getfield 417, 3) := by decide +kernel
theorem dX12_plan_71 : decode cX12_plan 71 = .ok (.iconst 1, 1) := by decide +kernel
theorem dX12_plan_72 : decode cX12_plan 72 = .ok (.iadd, 1) := by decide +kernel
theorem dX12_plan_73 : decode cX12_plan 73 = .ok (.putfield 417, 3) := by decide +kernel
theorem dX12_plan_76 : decode cX12_plan 76 = .ok (.iinc 2 1, 3) := by decide +kernel
theorem dX12_plan_79 : decode cX12_plan 79 = .ok (.goto (-57), 3) := by decide +kernel
theorem dX12_plan_82 : decode cX12_plan 82 = .ok (.aload_n 0, 1) := by decide +kernel
theorem dX12_plan_83 : decode cX12_plan 83 = .ok (.getfield 417, 3) := by decide +kernel
theorem dX12_plan_86 : decode cX12_plan 86 = .ok (.bipush 9, 2) := by decide +kernel
theorem dX12_plan_88 : decode cX12_plan 88 = .ok (.if_icmp .le 5, 3) := by decide +kernel
theorem dX12_plan_91 : decode cX12_plan 91 = .ok (.iconst (-1), 1) := by decide +kernel
theorem dX12_plan_92 : decode cX12_plan 92 = .ok (.ireturn, 1) := by decide +kernel
theorem dX12_plan_93 : decode cX12_plan 93 = .ok (.iconst 0, 1) := by decide +kernel
theorem dX12_plan_94 : decode cX12_plan 94 = .ok (.istore_n 2, 1) := by decide +kernel
theorem dX12_plan_95 : decode cX12_plan 95 = .ok (.iload_n 2, 1) := by decide +kernel
theorem dX12_plan_96 : decode cX12_plan 96 = .ok (.bipush 9, 2) := by decide +kernel
theorem dX12_plan_98 : decode cX12_plan 98 = .ok (.if_icmp .ge 16, 3) := by decide +kernel
theorem dX12_plan_101 : decode cX12_plan 101 = .ok (.aload_n 0, 1) := by decide +kernel
theorem dX12_plan_102 : decode cX12_plan 102 = .ok (.getfield 71, 3) := by decide +kernel
theorem dX12_plan_105 : decode cX12_plan 105 = .ok (.iload_n 2, 1) := by decide +kernel
theorem dX12_plan_106 : decode cX12_plan 106 = .ok (.iconst (-1), 1) := by decide +kernel
theorem dX12_plan_107 : decode cX12_plan 107 = .ok (.iastore, 1) := by decide +kernel
theorem dX12_plan_108 : decode cX12_plan 108 = .ok (.iinc 2 1, 3) := by decide +kernel
theorem dX12_plan_111 : decode cX12_plan 111 = .ok (.goto (-16), 3) := by decide +kernel
theorem dX12_plan_114 : decode cX12_plan 114 = .ok (.aload_n 0, 1) := by decide +kernel
theorem dX12_plan_115 : decode cX12_plan 115 = .ok (.iload_n 1, 1) := by decide +kernel
theorem dX12_plan_116 : decode cX12_plan 116 = .ok (.invokevirtual 427, 3) := by decide +kernel
theorem dX12_plan_119 : decode cX12_plan 119 = .ok (.istore_n 2, 1) := by decide +kernel
theorem dX12_plan_120 : decode cX12_plan 120 = .ok (.iconst 0, 1) := by decide +kernel
theorem dX12_plan_121 : decode cX12_plan 121 = .ok (.istore_n 3, 1) := by decide +kernel
theorem dX12_plan_122 : decode cX12_plan 122 = .ok (.iload_n 3, 1) := by decide +kernel
theorem dX12_plan_123 : decode cX12_plan 123 = .ok (.bipush 40, 2) := by decide +kernel
theorem dX12_plan_125 : decode cX12_plan 125 = .ok (.if_icmp .ge 16, 3) := by decide +kernel
theorem dX12_plan_128 : decode cX12_plan 128 = .ok (.aload_n 0, 1) := by decide +kernel
theorem dX12_plan_129 : decode cX12_plan 129 = .ok (.getfield 74, 3) := by decide +kernel
theorem dX12_plan_132 : decode cX12_plan 132 = .ok (.iload_n 3, 1) := by decide +kernel
theorem dX12_plan_133 : decode cX12_plan 133 = .ok (.iconst (-1), 1) := by decide +kernel
theorem dX12_plan_134 : decode cX12_plan 134 = .ok (.iastore, 1) := by decide +kernel
theorem dX12_plan_135 : decode cX12_plan 135 = .ok (.iinc 3 1, 3) := by decide +kernel
theorem dX12_plan_138 : decode cX12_plan 138 = .ok (.goto (-16), 3) := by decide +kernel
theorem dX12_plan_141 : decode cX12_plan 141 = .ok (.iconst 0, 1) := by decide +kernel
theorem dX12_plan_142 : decode cX12_plan 142 = .ok (.istore_n 3, 1) := by decide +kernel
theorem dX12_plan_143 : decode cX12_plan 143 = .ok (.iload_n 3, 1) := by decide +kernel
theorem dX12_plan_144 : decode cX12_plan 144 = .ok (.aload_n 0, 1) := by decide +kernel
theorem dX12_plan_145 : decode cX12_plan 145 = .ok (.getfield 417, 3) := by decide +kernel
theorem dX12_plan_148 : decode cX12_plan 148 = .ok (.if_icmp .ge 55, 3) := by decide +kernel
theorem dX12_plan_151 : decode cX12_plan 151 = .ok (.aload_n 0, 1) := by decide +kernel
theorem dX12_plan_152 : decode cX12_plan 152 = .ok (.getfield 71, 3) := by decide +kernel
theorem dX12_plan_155 : decode cX12_plan 155 = .ok (.iload_n 3, 1) := by decide +kernel
theorem dX12_plan_156 : decode cX12_plan 156 = .ok (.iconst 0, 1) := by decide +kernel
theorem dX12_plan_157 : decode cX12_plan 157 = .ok (.iastore, 1) := by decide +kernel
theorem dX12_plan_158 : decode cX12_plan 158 = .ok (.aload_n 0, 1) := by decide +kernel
theorem dX12_plan_159 : decode cX12_plan 159 = .ok (.iload_n 1, 1) := by decide +kernel
theorem dX12_plan_160 : decode cX12_plan 160 = .ok (.invokevirtual 427, 3) := by decide +kernel
theorem dX12_plan_163 : decode cX12_plan 163 = .ok (.iload_n 2, 1) := by decide +kernel
theorem dX12_plan_164 : decode cX12_plan 164 = .ok (.if_icmp .eq 16, 3) := by decide +kernel
theorem dX12_plan_167 : decode cX12_plan 167 = .ok (.aload_n 0, 1) := by decide +kernel
theorem dX12_plan_168 : decode cX12_plan 168 = .ok (.getfield 71, 3) := by decide +kernel
theorem dX12_plan_171 : decode cX12_plan 171 = .ok (.iload_n 3, 1) := by decide +kernel
theorem dX12_plan_172 : decode cX12_plan 172 = .ok (.dup2, 1) := by decide +kernel
theorem dX12_plan_173 : decode cX12_plan 173 = .ok (.iaload, 1) := by decide +kernel
theorem dX12_plan_174 : decode cX12_plan 174 = .ok (.iconst 1, 1) := by decide +kernel
theorem dX12_plan_175 : decode cX12_plan 175 = .ok (.iadd, 1) := by decide +kernel
theorem dX12_plan_176 : decode cX12_plan 176 = .ok (.iastore, 1) := by decide +kernel
theorem dX12_plan_177 : decode cX12_plan 177 = .ok (.goto (-19), 3) := by decide +kernel
theorem dX12_plan_180 : decode cX12_plan 180 = .ok (.aload_n 0, 1) := by decide +kernel
theorem dX12_plan_181 : decode cX12_plan 181 = .ok (.getfield 74, 3) := by decide +kernel
theorem dX12_plan_184 : decode cX12_plan 184 = .ok (.aload_n 0, 1) := by decide +kernel
theorem dX12_plan_185 : decode cX12_plan 185 = .ok (.getfield 65, 3) := by decide +kernel
theorem dX12_plan_188 : decode cX12_plan 188 = .ok (.iload_n 3, 1) := by decide +kernel
theorem dX12_plan_189 : decode cX12_plan 189 = .ok (.iaload, 1) := by decide +kernel
theorem dX12_plan_190 : decode cX12_plan 190 = .ok (.aload_n 0, 1) := by decide +kernel
theorem dX12_plan_191 : decode cX12_plan 191 = .ok (.getfield 71, 3) := by decide +kernel
theorem dX12_plan_194 : decode cX12_plan 194 = .ok (.iload_n 3, 1) := by decide +kernel
theorem dX12_plan_195 : decode cX12_plan 195 = .ok (.iaload, 1) := by decide +kernel
theorem dX12_plan_196 : decode cX12_plan 196 = .ok (.iastore, 1) := by decide +kernel
theorem dX12_plan_197 : decode cX12_plan 197 = .ok (.iinc 3 1, 3) := by decide +kernel
theorem dX12_plan_200 : decode cX12_plan 200 = .ok (.goto (-57), 3) := by decide +kernel
theorem dX12_plan_203 : decode cX12_plan 203 = .ok (.aload_n 0, 1) := by decide +kernel
theorem dX12_plan_204 : decode cX12_plan 204 = .ok (.iconst 1, 1) := by decide +kernel
theorem dX12_plan_205 : decode cX12_plan 205 = .ok (.putfield 430, 3) := by decide +kernel
theorem dX12_plan_208 : decode cX12_plan 208 = .ok (.iload_n 2, 1) := by decide +kernel
theorem dX12_plan_209 : decode cX12_plan 209 = .ok (.ireturn, 1) := by decide +kernel
theorem dX12_planned_0 : decode cX12_planned 0 = .ok (.aload_n 0, 1) := by decide +kernel
theorem dX12_planned_1 : decode cX12_planned 1 = .ok (.getfield 430, 3) := by decide +kernel
theorem dX12_planned_4 : decode cX12_planned 4 = .ok (.ifCond .eq 24, 3) := by decide +kernel
theorem dX12_planned_7 : decode cX12_planned 7 = .ok (.iload_n 1, 1) := by decide +kernel
theorem dX12_planned_8 : decode cX12_planned 8 = .ok (.i2l, 1) := by decide +kernel
theorem dX12_planned_9 : decode cX12_planned 9 = .ok (.lconst 0, 1) := by decide +kernel
theorem dX12_planned_10 : decode cX12_planned 10 = .ok (.ldc2_w 433, 3) := by decide +kernel
theorem dX12_planned_13 : decode cX12_planned 13 = .ok (.invokestatic 125, 3) := by decide +kernel
theorem dX12_planned_16 : decode cX12_planned 16 = .ok (.ifCond .eq 12, 3) := by decide +kernel
theorem dX12_planned_19 : decode cX12_planned 19 = .ok (.aload_n 0, 1) := by decide +kernel
theorem dX12_planned_20 : decode cX12_planned 20 = .ok (.getfield 74, 3) := by decide +kernel
theorem dX12_planned_23 : decode cX12_planned 23 = .ok (.iload_n 1, 1) := by decide +kernel
theorem dX12_planned_24 : decode cX12_planned 24 = .ok (.iaload, 1) := by decide +kernel
theorem dX12_planned_25 : decode cX12_planned 25 = .ok (.goto 4, 3) := by decide +kernel
theorem dX12_planned_28 : decode cX12_planned 28 = .ok (.iconst (-1), 1) := by decide +kernel
theorem dX12_planned_29 : decode cX12_planned 29 = .ok (.ireturn, 1) := by decide +kernel
theorem dX12_paper_0 : decode cX12_paper 0 = .ok (.iload_n 1, 1) := by decide +kernel
theorem dX12_paper_1 : decode cX12_paper 1 = .ok (.i2l, 1) := by decide +kernel
theorem dX12_paper_2 : decode cX12_paper 2 = .ok (.lconst 0, 1) := by decide +kernel
theorem dX12_paper_3 : decode cX12_paper 3 = .ok (.aload_n 0, 1) := by decide +kernel
theorem dX12_paper_4 : decode cX12_paper 4 = .ok (.invokevirtual 138, 3) := by decide +kernel
theorem dX12_paper_7 : decode cX12_paper 7 = .ok (.i2l, 1) := by decide +kernel
theorem dX12_paper_8 : decode cX12_paper 8 = .ok (.invokestatic 125, 3) := by decide +kernel
theorem dX12_paper_11 : decode cX12_paper 11 = .ok (.ifCond .ne 6, 3) := by decide +kernel
theorem dX12_paper_14 : decode cX12_paper 14 = .ok (.bipush (-2), 2) := by decide +kernel
theorem dX12_paper_16 : decode cX12_paper 16 = .ok (.ireturn, 1) := by decide +kernel
theorem dX12_paper_17 : decode cX12_paper 17 = .ok (.aload_n 0, 1) := by decide +kernel
theorem dX12_paper_18 : decode cX12_paper 18 = .ok (.iload_n 1, 1) := by decide +kernel
theorem dX12_paper_19 : decode cX12_paper 19 = .ok (.putfield 80, 3) := by decide +kernel
theorem dX12_paper_22 : decode cX12_paper 22 = .ok (.aload_n 0, 1) := by decide +kernel
theorem dX12_paper_23 : decode cX12_paper 23 = .ok (.iconst 0, 1) := by decide +kernel
theorem dX12_paper_24 : decode cX12_paper 24 = .ok (.putfield 435, 3) := by decide +kernel
theorem dX12_paper_27 : decode cX12_paper 27 = .ok (.iconst 0, 1) := by decide +kernel
theorem dX12_paper_28 : decode cX12_paper 28 = .ok (.ireturn, 1) := by decide +kernel
theorem dX12_written_0 : decode cX12_written 0 = .ok (.aload_n 0, 1) := by decide +kernel
theorem dX12_written_1 : decode cX12_written 1 = .ok (.getfield 80, 3) := by decide +kernel
theorem dX12_written_4 : decode cX12_written 4 = .ok (.iconst (-1), 1) := by decide +kernel
theorem dX12_written_5 : decode cX12_written 5 = .ok (.if_icmp .eq 12, 3) := by decide +kernel
theorem dX12_written_8 : decode cX12_written 8 = .ok (.aload_n 0, 1) := by decide +kernel
theorem dX12_written_9 : decode cX12_written 9 = .ok (.bipush 24, 2) := by decide +kernel
theorem dX12_written_11 : decode cX12_written 11 = .ok (.invokevirtual 173, 3) := by decide +kernel
theorem dX12_written_14 : decode cX12_written 14 = .ok (.ifCond .ne 6, 3) := by decide +kernel
theorem dX12_written_17 : decode cX12_written 17 = .ok (.bipush (-2), 2) := by decide +kernel
theorem dX12_written_19 : decode cX12_written 19 = .ok (.ireturn, 1) := by decide +kernel
theorem dX12_written_20 : decode cX12_written 20 = .ok (.aload_n 0, 1) := by decide +kernel
theorem dX12_written_21 : decode cX12_written 21 = .ok (.getfield 435, 3) := by decide +kernel
theorem dX12_written_24 : decode cX12_written 24 = .ok (.bipush 7, 2) := by decide +kernel
theorem dX12_written_26 : decode cX12_written 26 = .ok (.if_icmp .ne 6, 3) := by decide +kernel
theorem dX12_written_29 : decode cX12_written 29 = .ok (.bipush (-3), 2) := by decide +kernel
theorem dX12_written_31 : decode cX12_written 31 = .ok (.ireturn, 1) := by decide +kernel
theorem dX12_written_32 : decode cX12_written 32 = .ok (.iconst 0, 1) := by decide +kernel
theorem dX12_written_33 : decode cX12_written 33 = .ok (.istore_n 1, 1) := by decide +kernel
theorem dX12_written_34 : decode cX12_written 34 = .ok (.iload_n 1, 1) := by decide +kernel
theorem dX12_written_35 : decode cX12_written 35 = .ok (.aload_n 0, 1) := by decide +kernel
theorem dX12_written_36 : decode cX12_written 36 = .ok (.getfield 131, 3) := by decide +kernel
theorem dX12_written_39 : decode cX12_written 39 = .ok (.if_icmp .ge 29, 3) := by decide +kernel
theorem dX12_written_42 : decode cX12_written 42 = .ok (.aload_n 0, 1) := by decide +kernel
theorem dX12_written_43 : decode cX12_written 43 = .ok (.getfield 83, 3) := by decide +kernel
theorem dX12_written_46 : decode cX12_written 46 = .ok (.bipush 24, 2) := by decide +kernel
theorem dX12_written_48 : decode cX12_written 48 = .ok (.aload_n 0, 1) := by decide +kernel
theorem dX12_written_49 : decode cX12_written 49 = .ok (.getfield 435, 3) := by decide +kernel
theorem dX12_written_52 : decode cX12_written 52 = .ok (.imul, 1) := by decide +kernel
theorem dX12_written_53 : decode cX12_written 53 = .ok (.iload_n 1, 1) := by decide +kernel
theorem dX12_written_54 : decode cX12_written 54 = .ok (.iadd, 1) := by decide +kernel
theorem dX12_written_55 : decode cX12_written 55 = .ok (.aload_n 0, 1) := by decide +kernel
theorem dX12_written_56 : decode cX12_written 56 = .ok (.getfield 21, 3) := by decide +kernel
theorem dX12_written_59 : decode cX12_written 59 = .ok (.iload_n 1, 1) := by decide +kernel
theorem dX12_written_60 : decode cX12_written 60 = .ok (.baload, 1) := by decide +kernel
theorem dX12_written_61 : decode cX12_written 61 = .ok (.iastore, 1) := by decide +kernel
theorem dX12_written_62 : decode cX12_written 62 = .ok (.iinc 1 1, 3) := by decide +kernel
theorem dX12_written_65 : decode cX12_written 65 = .ok (.goto (-31), 3) := by decide +kernel
theorem dX12_written_68 : decode cX12_written 68 = .ok (.aload_n 0, 1) := by decide +kernel
theorem dX12_written_69 : decode cX12_written 69 = .ok (.getfield 86, 3) := by decide +kernel
theorem dX12_written_72 : decode cX12_written 72 = .ok (.aload_n 0, 1) := by decide +kernel
theorem dX12_written_73 : decode cX12_written 73 = .ok (.getfield 435, 3) := by decide +kernel
theorem dX12_written_76 : decode cX12_written 76 = .ok (.aload_n 0, 1) := by decide +kernel
theorem dX12_written_77 : decode cX12_written 77 = .ok (.getfield 131, 3) := by decide +kernel
theorem dX12_written_80 : decode cX12_written 80 = .ok (.iastore, 1) := by decide +kernel
theorem dX12_written_81 : decode cX12_written 81 = .ok (.aload_n 0, 1) := by decide +kernel
theorem dX12_written_82 : decode cX12_written 82 = .ok (.iconst 0, 1) := by decide +kernel
theorem dX12_written_83 : decode cX12_written 83 = .ok (.putfield 131, 3) := by decide +kernel
theorem dX12_written_86 : decode cX12_written 86 = .ok (.aload_n 0, 1) := by decide +kernel
theorem dX12_written_87 : decode cX12_written 87 = .ok (.dup, 1) := by decide +kernel
theorem dX12_written_88 : decode cX12_written 88 = .ok (.getfield 435, 3) := by decide +kernel
theorem dX12_written_91 : decode cX12_written 91 = .ok (.iconst 1, 1) := by decide +kernel
theorem dX12_written_92 : decode cX12_written 92 = .ok (.iadd, 1) := by decide +kernel
theorem dX12_written_93 : decode cX12_written 93 = .ok (.putfield 435, 3) := by decide +kernel
theorem dX12_written_96 : decode cX12_written 96 = .ok (.aload_n 0, 1) := by decide +kernel
theorem dX12_written_97 : decode cX12_written 97 = .ok (.getfield 435, 3) := by decide +kernel
theorem dX12_written_100 : decode cX12_written 100 = .ok (.ireturn, 1) := by decide +kernel
theorem dX12_hasName_0 : decode cX12_hasName 0 = .ok (.iconst 0, 1) := by decide +kernel
theorem dX12_hasName_1 : decode cX12_hasName 1 = .ok (.istore_n 2, 1) := by decide +kernel
theorem dX12_hasName_2 : decode cX12_hasName 2 = .ok (.iload_n 2, 1) := by decide +kernel
theorem dX12_hasName_3 : decode cX12_hasName 3 = .ok (.aload_n 0, 1) := by decide +kernel
theorem dX12_hasName_4 : decode cX12_hasName 4 = .ok (.getfield 9, 3) := by decide +kernel
theorem dX12_hasName_7 : decode cX12_hasName 7 = .ok (.iconst 2, 1) := by decide +kernel
theorem dX12_hasName_8 : decode cX12_hasName 8 = .ok (.iaload, 1) := by decide +kernel
theorem dX12_hasName_9 : decode cX12_hasName 9 = .ok (.if_icmp .ge 21, 3) := by decide +kernel
theorem dX12_hasName_12 : decode cX12_hasName 12 = .ok (.aload_n 0, 1) := by decide +kernel
theorem dX12_hasName_13 : decode cX12_hasName 13 = .ok (.iload_n 2, 1) := by decide +kernel
theorem dX12_hasName_14 : decode cX12_hasName 14 = .ok (.iconst 0, 1) := by decide +kernel
theorem dX12_hasName_15 : decode cX12_hasName 15 = .ok (.invokevirtual 265, 3) := by decide +kernel
theorem dX12_hasName_18 : decode cX12_hasName 18 = .ok (.iload_n 1, 1) := by decide +kernel
theorem dX12_hasName_19 : decode cX12_hasName 19 = .ok (.if_icmp .ne 5, 3) := by decide +kernel
theorem dX12_hasName_22 : decode cX12_hasName 22 = .ok (.iconst 1, 1) := by decide +kernel
theorem dX12_hasName_23 : decode cX12_hasName 23 = .ok (.ireturn, 1) := by decide +kernel
theorem dX12_hasName_24 : decode cX12_hasName 24 = .ok (.iinc 2 1, 3) := by decide +kernel
theorem dX12_hasName_27 : decode cX12_hasName 27 = .ok (.goto (-25), 3) := by decide +kernel
theorem dX12_hasName_30 : decode cX12_hasName 30 = .ok (.iconst 0, 1) := by decide +kernel
theorem dX12_hasName_31 : decode cX12_hasName 31 = .ok (.ireturn, 1) := by decide +kernel
theorem dX12_givesOf_0 : decode cX12_givesOf 0 = .ok (.ldc_w 420, 3) := by decide +kernel
theorem dX12_givesOf_3 : decode cX12_givesOf 3 = .ok (.istore_n 3, 1) := by decide +kernel
theorem dX12_givesOf_4 : decode cX12_givesOf 4 = .ok (.iconst 0, 1) := by decide +kernel
theorem dX12_givesOf_5 : decode cX12_givesOf 5 = .ok (.istore 4, 2) := by decide +kernel
theorem dX12_givesOf_7 : decode cX12_givesOf 7 = .ok (.iload 4, 2) := by decide +kernel
theorem dX12_givesOf_9 : decode cX12_givesOf 9 = .ok (.aload_n 0, 1) := by decide +kernel
theorem dX12_givesOf_10 : decode cX12_givesOf 10 = .ok (.getfield 9, 3) := by decide +kernel
theorem dX12_givesOf_13 : decode cX12_givesOf 13 = .ok (.iconst 2, 1) := by decide +kernel
theorem dX12_givesOf_14 : decode cX12_givesOf 14 = .ok (.iaload, 1) := by decide +kernel
theorem dX12_givesOf_15 : decode cX12_givesOf 15 = .ok (.if_icmp .ge 94, 3) := by decide +kernel
theorem dX12_givesOf_18 : decode cX12_givesOf 18 = .ok (.aload_n 0, 1) := by decide +kernel
theorem dX12_givesOf_19 : decode cX12_givesOf 19 = .ok (.iload 4, 2) := by decide +kernel
theorem dX12_givesOf_21 : decode cX12_givesOf 21 = .ok (.iconst 0, 1) := by decide +kernel
theorem dX12_givesOf_22 : decode cX12_givesOf 22 = .ok (.invokevirtual 265, 3) := by decide +kernel
theorem dX12_givesOf_25 : decode cX12_givesOf 25 = .ok (.iload_n 2, 1) := by decide +kernel
theorem dX12_givesOf_26 : decode cX12_givesOf 26 = .ok (.if_icmp .eq 6, 3) := by decide +kernel
theorem dX12_givesOf_29 : decode cX12_givesOf 29 = .ok (.goto 74, 3) := by decide +kernel
theorem dX12_givesOf_32 : decode cX12_givesOf 32 = .ok (.aload_n 0, 1) := by decide +kernel
theorem dX12_givesOf_33 : decode cX12_givesOf 33 = .ok (.aload_n 0, 1) := by decide +kernel
theorem dX12_givesOf_34 : decode cX12_givesOf 34 = .ok (.getfield 86, 3) := by decide +kernel
theorem dX12_givesOf_37 : decode cX12_givesOf 37 = .ok (.iload_n 1, 1) := by decide +kernel
theorem dX12_givesOf_38 : decode cX12_givesOf 38 = .ok (.iaload, 1) := by decide +kernel
theorem dX12_givesOf_39 : decode cX12_givesOf 39 = .ok (.putfield 291, 3) := by decide +kernel
theorem dX12_givesOf_42 : decode cX12_givesOf 42 = .ok (.iconst 0, 1) := by decide +kernel
theorem dX12_givesOf_43 : decode cX12_givesOf 43 = .ok (.istore 5, 2) := by decide +kernel
theorem dX12_givesOf_45 : decode cX12_givesOf 45 = .ok (.iload 5, 2) := by decide +kernel
theorem dX12_givesOf_47 : decode cX12_givesOf 47 = .ok (.aload_n 0, 1) := by decide +kernel
theorem dX12_givesOf_48 : decode cX12_givesOf 48 = .ok (.getfield 291, 3) := by decide +kernel
theorem dX12_givesOf_51 : decode cX12_givesOf 51 = .ok (.if_icmp .ge 28, 3) := by decide +kernel
theorem dX12_givesOf_54 : decode cX12_givesOf 54 = .ok (.aload_n 0, 1) := by decide +kernel
theorem dX12_givesOf_55 : decode cX12_givesOf 55 = .ok (.getfield 56, 3) := by decide +kernel
theorem dX12_givesOf_58 : decode cX12_givesOf 58 = .ok (.iload 5, 2) := by decide +kernel
theorem dX12_givesOf_60 : decode cX12_givesOf 60 = .ok (.aload_n 0, 1) := by decide +kernel
theorem dX12_givesOf_61 : decode cX12_givesOf 61 = .ok (.getfield 83, 3) := by decide +kernel
theorem dX12_givesOf_64 : decode cX12_givesOf 64 = .ok (.bipush 24, 2) := by decide +kernel
theorem dX12_givesOf_66 : decode cX12_givesOf 66 = .ok (.iload_n 1, 1) := by decide +kernel
theorem dX12_givesOf_67 : decode cX12_givesOf 67 = .ok (.imul, 1) := by decide +kernel
theorem dX12_givesOf_68 : decode cX12_givesOf 68 = .ok (.iload 5, 2) := by decide +kernel
theorem dX12_givesOf_70 : decode cX12_givesOf 70 = .ok (.iadd, 1) := by decide +kernel
theorem dX12_givesOf_71 : decode cX12_givesOf 71 = .ok (.iaload, 1) := by decide +kernel
theorem dX12_givesOf_72 : decode cX12_givesOf 72 = .ok (.iastore, 1) := by decide +kernel
theorem dX12_givesOf_73 : decode cX12_givesOf 73 = .ok (.iinc 5 1, 3) := by decide +kernel
theorem dX12_givesOf_76 : decode cX12_givesOf 76 = .ok (.goto (-31), 3) := by decide +kernel
theorem dX12_givesOf_79 : decode cX12_givesOf 79 = .ok (.aload_n 0, 1) := by decide +kernel
theorem dX12_givesOf_80 : decode cX12_givesOf 80 = .ok (.iconst 0, 1) := by decide +kernel
theorem dX12_givesOf_81 : decode cX12_givesOf 81 = .ok (.putfield 258, 3) := by decide +kernel
theorem dX12_givesOf_84 : decode cX12_givesOf 84 = .ok (.aload_n 0, 1) := by decide +kernel
theorem dX12_givesOf_85 : decode cX12_givesOf 85 = .ok (.iload 4, 2) := by decide +kernel
theorem dX12_givesOf_87 : decode cX12_givesOf 87 = .ok (.aload_n 0, 1) := by decide +kernel
theorem dX12_givesOf_88 : decode cX12_givesOf 88 = .ok (.getfield 80, 3) := by decide +kernel
theorem dX12_givesOf_91 : decode cX12_givesOf 91 = .ok (.invokevirtual 285, 3) := by decide +kernel
theorem dX12_givesOf_94 : decode cX12_givesOf 94 = .ok (.iload_n 3, 1) := by decide +kernel
theorem dX12_givesOf_95 : decode cX12_givesOf 95 = .ok (.aload_n 0, 1) := by decide +kernel
theorem dX12_givesOf_96 : decode cX12_givesOf 96 = .ok (.invokevirtual 300, 3) := by decide +kernel
theorem dX12_givesOf_99 : decode cX12_givesOf 99 = .ok (.invokestatic 163, 3) := by decide +kernel
theorem dX12_givesOf_102 : decode cX12_givesOf 102 = .ok (.istore_n 3, 1) := by decide +kernel
theorem dX12_givesOf_103 : decode cX12_givesOf 103 = .ok (.iinc 4 1, 3) := by decide +kernel
theorem dX12_givesOf_106 : decode cX12_givesOf 106 = .ok (.goto (-99), 3) := by decide +kernel
theorem dX12_givesOf_109 : decode cX12_givesOf 109 = .ok (.bipush 20, 2) := by decide +kernel
theorem dX12_givesOf_111 : decode cX12_givesOf 111 = .ok (.iload_n 3, 1) := by decide +kernel
theorem dX12_givesOf_112 : decode cX12_givesOf 112 = .ok (.isub, 1) := by decide +kernel
theorem dX12_givesOf_113 : decode cX12_givesOf 113 = .ok (.ireturn, 1) := by decide +kernel
theorem dX12_joins_0 : decode cX12_joins 0 = .ok (.iload_n 1, 1) := by decide +kernel
theorem dX12_joins_1 : decode cX12_joins 1 = .ok (.aload_n 0, 1) := by decide +kernel
theorem dX12_joins_2 : decode cX12_joins 2 = .ok (.getfield 435, 3) := by decide +kernel
theorem dX12_joins_5 : decode cX12_joins 5 = .ok (.if_icmp .ne 50, 3) := by decide +kernel
theorem dX12_joins_8 : decode cX12_joins 8 = .ok (.iload_n 3, 1) := by decide +kernel
theorem dX12_joins_9 : decode cX12_joins 9 = .ok (.aload_n 0, 1) := by decide +kernel
theorem dX12_joins_10 : decode cX12_joins 10 = .ok (.getfield 438, 3) := by decide +kernel
theorem dX12_joins_13 : decode cX12_joins 13 = .ok (.if_icmp .gt 4, 3) := by decide +kernel
theorem dX12_joins_16 : decode cX12_joins 16 = .ok (.return_, 1) := by decide +kernel
theorem dX12_joins_17 : decode cX12_joins 17 = .ok (.aload_n 0, 1) := by decide +kernel
theorem dX12_joins_18 : decode cX12_joins 18 = .ok (.iload_n 3, 1) := by decide +kernel
theorem dX12_joins_19 : decode cX12_joins 19 = .ok (.putfield 438, 3) := by decide +kernel
theorem dX12_joins_22 : decode cX12_joins 22 = .ok (.iconst 0, 1) := by decide +kernel
theorem dX12_joins_23 : decode cX12_joins 23 = .ok (.istore 4, 2) := by decide +kernel
theorem dX12_joins_25 : decode cX12_joins 25 = .ok (.iload 4, 2) := by decide +kernel
theorem dX12_joins_27 : decode cX12_joins 27 = .ok (.aload_n 0, 1) := by decide +kernel
theorem dX12_joins_28 : decode cX12_joins 28 = .ok (.getfield 435, 3) := by decide +kernel
theorem dX12_joins_31 : decode cX12_joins 31 = .ok (.if_icmp .ge 23, 3) := by decide +kernel
theorem dX12_joins_34 : decode cX12_joins 34 = .ok (.aload_n 0, 1) := by decide +kernel
theorem dX12_joins_35 : decode cX12_joins 35 = .ok (.getfield 98, 3) := by decide +kernel
theorem dX12_joins_38 : decode cX12_joins 38 = .ok (.iload 4, 2) := by decide +kernel
theorem dX12_joins_40 : decode cX12_joins 40 = .ok (.aload_n 0, 1) := by decide +kernel
theorem dX12_joins_41 : decode cX12_joins 41 = .ok (.getfield 95, 3) := by decide +kernel
theorem dX12_joins_44 : decode cX12_joins 44 = .ok (.iload 4, 2) := by decide +kernel
theorem dX12_joins_46 : decode cX12_joins 46 = .ok (.iaload, 1) := by decide +kernel
theorem dX12_joins_47 : decode cX12_joins 47 = .ok (.iastore, 1) := by decide +kernel
theorem dX12_joins_48 : decode cX12_joins 48 = .ok (.iinc 4 1, 3) := by decide +kernel
theorem dX12_joins_51 : decode cX12_joins 51 = .ok (.goto (-26), 3) := by decide +kernel
theorem dX12_joins_54 : decode cX12_joins 54 = .ok (.return_, 1) := by decide +kernel
theorem dX12_joins_55 : decode cX12_joins 55 = .ok (.iconst 0, 1) := by decide +kernel
theorem dX12_joins_56 : decode cX12_joins 56 = .ok (.istore 4, 2) := by decide +kernel
theorem dX12_joins_58 : decode cX12_joins 58 = .ok (.iload 4, 2) := by decide +kernel
theorem dX12_joins_60 : decode cX12_joins 60 = .ok (.aload_n 0, 1) := by decide +kernel
theorem dX12_joins_61 : decode cX12_joins 61 = .ok (.getfield 441, 3) := by decide +kernel
theorem dX12_joins_64 : decode cX12_joins 64 = .ok (.if_icmp .ge 100, 3) := by decide +kernel
theorem dX12_joins_67 : decode cX12_joins 67 = .ok (.iload_n 2, 1) := by decide +kernel
theorem dX12_joins_68 : decode cX12_joins 68 = .ok (.iload 4, 2) := by decide +kernel
theorem dX12_joins_70 : decode cX12_joins 70 = .ok (.ishr, 1) := by decide +kernel
theorem dX12_joins_71 : decode cX12_joins 71 = .ok (.iconst 1, 1) := by decide +kernel
theorem dX12_joins_72 : decode cX12_joins 72 = .ok (.iand, 1) := by decide +kernel
theorem dX12_joins_73 : decode cX12_joins 73 = .ok (.iconst 1, 1) := by decide +kernel
theorem dX12_joins_74 : decode cX12_joins 74 = .ok (.if_icmp .ne 6, 3) := by decide +kernel
theorem dX12_joins_77 : decode cX12_joins 77 = .ok (.goto 81, 3) := by decide +kernel
theorem dX12_joins_80 : decode cX12_joins 80 = .ok (.aload_n 0, 1) := by decide +kernel
theorem dX12_joins_81 : decode cX12_joins 81 = .ok (.getfield 95, 3) := by decide +kernel
theorem dX12_joins_84 : decode cX12_joins 84 = .ok (.iload_n 1, 1) := by decide +kernel
theorem dX12_joins_85 : decode cX12_joins 85 = .ok (.iload 4, 2) := by decide +kernel
theorem dX12_joins_87 : decode cX12_joins 87 = .ok (.iastore, 1) := by decide +kernel
theorem dX12_joins_88 : decode cX12_joins 88 = .ok (.iload_n 1, 1) := by decide +kernel
theorem dX12_joins_89 : decode cX12_joins 89 = .ok (.ifCond .le 36, 3) := by decide +kernel
theorem dX12_joins_92 : decode cX12_joins 92 = .ok (.aload_n 0, 1) := by decide +kernel
theorem dX12_joins_93 : decode cX12_joins 93 = .ok (.aload_n 0, 1) := by decide +kernel
theorem dX12_joins_94 : decode cX12_joins 94 = .ok (.getfield 89, 3) := by decide +kernel
theorem dX12_joins_97 : decode cX12_joins 97 = .ok (.aload_n 0, 1) := by decide +kernel
theorem dX12_joins_98 : decode cX12_joins 98 = .ok (.getfield 95, 3) := by decide +kernel
theorem dX12_joins_101 : decode cX12_joins 101 = .ok (.iload_n 1, 1) := by decide +kernel
theorem dX12_joins_102 : decode cX12_joins 102 = .ok (.iconst 1, 1) := by decide +kernel
theorem dX12_joins_103 : decode cX12_joins 103 = .ok (.isub, 1) := by decide +kernel
theorem dX12_joins_104 : decode cX12_joins 104 = .ok (.iaload, 1) := by decide +kernel
theorem dX12_joins_105 : decode cX12_joins 105 = .ok (.iaload, 1) := by decide +kernel
theorem dX12_joins_106 : decode cX12_joins 106 = .ok (.aload_n 0, 1) := by decide +kernel
theorem dX12_joins_107 : decode cX12_joins 107 = .ok (.getfield 89, 3) := by decide +kernel
theorem dX12_joins_110 : decode cX12_joins 110 = .ok (.iload 4, 2) := by decide +kernel
theorem dX12_joins_112 : decode cX12_joins 112 = .ok (.iaload, 1) := by decide +kernel
theorem dX12_joins_113 : decode cX12_joins 113 = .ok (.bipush 30, 2) := by decide +kernel
theorem dX12_joins_115 : decode cX12_joins 115 = .ok (.invokevirtual 382, 3) := by decide +kernel
theorem dX12_joins_118 : decode cX12_joins 118 = .ok (.ifCond .eq 7, 3) := by decide +kernel
theorem dX12_joins_121 : decode cX12_joins 121 = .ok (.iconst 3, 1) := by decide +kernel
theorem dX12_joins_122 : decode cX12_joins 122 = .ok (.goto 4, 3) := by decide +kernel
theorem dX12_joins_125 : decode cX12_joins 125 = .ok (.iconst 0, 1) := by decide +kernel
theorem dX12_joins_126 : decode cX12_joins 126 = .ok (.istore 5, 2) := by decide +kernel
theorem dX12_joins_128 : decode cX12_joins 128 = .ok (.aload_n 0, 1) := by decide +kernel
theorem dX12_joins_129 : decode cX12_joins 129 = .ok (.iload_n 1, 1) := by decide +kernel
theorem dX12_joins_130 : decode cX12_joins 130 = .ok (.iconst 1, 1) := by decide +kernel
theorem dX12_joins_131 : decode cX12_joins 131 = .ok (.iadd, 1) := by decide +kernel
theorem dX12_joins_132 : decode cX12_joins 132 = .ok (.iload_n 2, 1) := by decide +kernel
theorem dX12_joins_133 : decode cX12_joins 133 = .ok (.iconst 1, 1) := by decide +kernel
theorem dX12_joins_134 : decode cX12_joins 134 = .ok (.iload 4, 2) := by decide +kernel
theorem dX12_joins_136 : decode cX12_joins 136 = .ok (.ishl, 1) := by decide +kernel
theorem dX12_joins_137 : decode cX12_joins 137 = .ok (.ior, 1) := by decide +kernel
theorem dX12_joins_138 : decode cX12_joins 138 = .ok (.iload_n 3, 1) := by decide +kernel
theorem dX12_joins_139 : decode cX12_joins 139 = .ok (.aload_n 0, 1) := by decide +kernel
theorem dX12_joins_140 : decode cX12_joins 140 = .ok (.getfield 92, 3) := by decide +kernel
theorem dX12_joins_143 : decode cX12_joins 143 = .ok (.bipush 10, 2) := by decide +kernel
theorem dX12_joins_145 : decode cX12_joins 145 = .ok (.iload_n 1, 1) := by decide +kernel
theorem dX12_joins_146 : decode cX12_joins 146 = .ok (.imul, 1) := by decide +kernel
theorem dX12_joins_147 : decode cX12_joins 147 = .ok (.iload 4, 2) := by decide +kernel
theorem dX12_joins_149 : decode cX12_joins 149 = .ok (.iadd, 1) := by decide +kernel
theorem dX12_joins_150 : decode cX12_joins 150 = .ok (.iaload, 1) := by decide +kernel
theorem dX12_joins_151 : decode cX12_joins 151 = .ok (.iadd, 1) := by decide +kernel
theorem dX12_joins_152 : decode cX12_joins 152 = .ok (.iload 5, 2) := by decide +kernel
theorem dX12_joins_154 : decode cX12_joins 154 = .ok (.iadd, 1) := by decide +kernel
theorem dX12_joins_155 : decode cX12_joins 155 = .ok (.invokevirtual 444, 3) := by decide +kernel
theorem dX12_joins_158 : decode cX12_joins 158 = .ok (.iinc 4 1, 3) := by decide +kernel
theorem dX12_joins_161 : decode cX12_joins 161 = .ok (.goto (-103), 3) := by decide +kernel
theorem dX12_joins_164 : decode cX12_joins 164 = .ok (.return_, 1) := by decide +kernel
theorem dX12_join_0 : decode cX12_join 0 = .ok (.aload_n 0, 1) := by decide +kernel
theorem dX12_join_1 : decode cX12_join 1 = .ok (.getfield 80, 3) := by decide +kernel
theorem dX12_join_4 : decode cX12_join 4 = .ok (.iconst (-1), 1) := by decide +kernel
theorem dX12_join_5 : decode cX12_join 5 = .ok (.if_icmp .ne 5, 3) := by decide +kernel
theorem dX12_join_8 : decode cX12_join 8 = .ok (.iconst (-1), 1) := by decide +kernel
theorem dX12_join_9 : decode cX12_join 9 = .ok (.ireturn, 1) := by decide +kernel
theorem dX12_join_10 : decode cX12_join 10 = .ok (.aload_n 0, 1) := by decide +kernel
theorem dX12_join_11 : decode cX12_join 11 = .ok (.iconst 0, 1) := by decide +kernel
theorem dX12_join_12 : decode cX12_join 12 = .ok (.putfield 441, 3) := by decide +kernel
theorem dX12_join_15 : decode cX12_join 15 = .ok (.iconst 0, 1) := by decide +kernel
theorem dX12_join_16 : decode cX12_join 16 = .ok (.istore_n 1, 1) := by decide +kernel
theorem dX12_join_17 : decode cX12_join 17 = .ok (.iload_n 1, 1) := by decide +kernel
theorem dX12_join_18 : decode cX12_join 18 = .ok (.aload_n 0, 1) := by decide +kernel
theorem dX12_join_19 : decode cX12_join 19 = .ok (.getfield 9, 3) := by decide +kernel
theorem dX12_join_22 : decode cX12_join 22 = .ok (.iconst 1, 1) := by decide +kernel
theorem dX12_join_23 : decode cX12_join 23 = .ok (.iaload, 1) := by decide +kernel
theorem dX12_join_24 : decode cX12_join 24 = .ok (.if_icmp .ge 51, 3) := by decide +kernel
theorem dX12_join_27 : decode cX12_join 27 = .ok (.aload_n 0, 1) := by decide +kernel
theorem dX12_join_28 : decode cX12_join 28 = .ok (.iload_n 1, 1) := by decide +kernel
theorem dX12_join_29 : decode cX12_join 29 = .ok (.invokevirtual 447, 3) := by decide +kernel
theorem dX12_join_32 : decode cX12_join 32 = .ok (.ifCond .ne 6, 3) := by decide +kernel
theorem dX12_join_35 : decode cX12_join 35 = .ok (.goto 34, 3) := by decide +kernel
theorem dX12_join_38 : decode cX12_join 38 = .ok (.aload_n 0, 1) := by decide +kernel
theorem dX12_join_39 : decode cX12_join 39 = .ok (.getfield 441, 3) := by decide +kernel
theorem dX12_join_42 : decode cX12_join 42 = .ok (.bipush 10, 2) := by decide +kernel
theorem dX12_join_44 : decode cX12_join 44 = .ok (.if_icmp .ne 5, 3) := by decide +kernel
theorem dX12_join_47 : decode cX12_join 47 = .ok (.iconst (-1), 1) := by decide +kernel
theorem dX12_join_48 : decode cX12_join 48 = .ok (.ireturn, 1) := by decide +kernel
theorem dX12_join_49 : decode cX12_join 49 = .ok (.aload_n 0, 1) := by decide +kernel
theorem dX12_join_50 : decode cX12_join 50 = .ok (.getfield 89, 3) := by decide +kernel
theorem dX12_join_53 : decode cX12_join 53 = .ok (.aload_n 0, 1) := by decide +kernel
theorem dX12_join_54 : decode cX12_join 54 = .ok (.getfield 441, 3) := by decide +kernel
theorem dX12_join_57 : decode cX12_join 57 = .ok (.iload_n 1, 1) := by decide +kernel
theorem dX12_join_58 : decode cX12_join 58 = .ok (.iastore, 1) := by decide +kernel
theorem dX12_join_59 : decode cX12_join 59 = .ok (.aload_n 0, 1) := by decide +kernel
theorem dX12_join_60 : decode cX12_join 60 = .ok (.dup, 1) := by decide +kernel
theorem dX12_join_61 : decode cX12_join 61 = .ok (.getfield 441, 3) := by decide +kernel
theorem dX12_join_64 : decode cX12_join 64 = .ok (.iconst 1, 1) := by decide +kernel
theorem dX12_join_65 : decode cX12_join 65 = .ok (.iadd, 1) := by decide +kernel
theorem dX12_join_66 : decode cX12_join 66 = .ok (.putfield 441, 3) := by decide +kernel
theorem dX12_join_69 : decode cX12_join 69 = .ok (.iinc 1 1, 3) := by decide +kernel
theorem dX12_join_72 : decode cX12_join 72 = .ok (.goto (-55), 3) := by decide +kernel
theorem dX12_join_75 : decode cX12_join 75 = .ok (.aload_n 0, 1) := by decide +kernel
theorem dX12_join_76 : decode cX12_join 76 = .ok (.getfield 435, 3) := by decide +kernel
theorem dX12_join_79 : decode cX12_join 79 = .ok (.aload_n 0, 1) := by decide +kernel
theorem dX12_join_80 : decode cX12_join 80 = .ok (.getfield 441, 3) := by decide +kernel
theorem dX12_join_83 : decode cX12_join 83 = .ok (.if_icmp .le 5, 3) := by decide +kernel
theorem dX12_join_86 : decode cX12_join 86 = .ok (.iconst (-1), 1) := by decide +kernel
theorem dX12_join_87 : decode cX12_join 87 = .ok (.ireturn, 1) := by decide +kernel
theorem dX12_join_88 : decode cX12_join 88 = .ok (.iconst 0, 1) := by decide +kernel
theorem dX12_join_89 : decode cX12_join 89 = .ok (.istore_n 1, 1) := by decide +kernel
theorem dX12_join_90 : decode cX12_join 90 = .ok (.iload_n 1, 1) := by decide +kernel
theorem dX12_join_91 : decode cX12_join 91 = .ok (.aload_n 0, 1) := by decide +kernel
theorem dX12_join_92 : decode cX12_join 92 = .ok (.getfield 435, 3) := by decide +kernel
theorem dX12_join_95 : decode cX12_join 95 = .ok (.if_icmp .ge 47, 3) := by decide +kernel
theorem dX12_join_98 : decode cX12_join 98 = .ok (.iconst 0, 1) := by decide +kernel
theorem dX12_join_99 : decode cX12_join 99 = .ok (.istore_n 2, 1) := by decide +kernel
theorem dX12_join_100 : decode cX12_join 100 = .ok (.iload_n 2, 1) := by decide +kernel
theorem dX12_join_101 : decode cX12_join 101 = .ok (.aload_n 0, 1) := by decide +kernel
theorem dX12_join_102 : decode cX12_join 102 = .ok (.getfield 441, 3) := by decide +kernel
theorem dX12_join_105 : decode cX12_join 105 = .ok (.if_icmp .ge 31, 3) := by decide +kernel
theorem dX12_join_108 : decode cX12_join 108 = .ok (.aload_n 0, 1) := by decide +kernel
theorem dX12_join_109 : decode cX12_join 109 = .ok (.getfield 92, 3) := by decide +kernel
theorem dX12_join_112 : decode cX12_join 112 = .ok (.bipush 10, 2) := by decide +kernel
theorem dX12_join_114 : decode cX12_join 114 = .ok (.iload_n 1, 1) := by decide +kernel
theorem dX12_join_115 : decode cX12_join 115 = .ok (.imul, 1) := by decide +kernel
theorem dX12_join_116 : decode cX12_join 116 = .ok (.iload_n 2, 1) := by decide +kernel
theorem dX12_join_117 : decode cX12_join 117 = .ok (.iadd, 1) := by decide +kernel
theorem dX12_join_118 : decode cX12_join 118 = .ok (.aload_n 0, 1) := by decide +kernel
theorem dX12_join_119 : decode cX12_join 119 = .ok (.iload_n 1, 1) := by decide +kernel
theorem dX12_join_120 : decode cX12_join 120 = .ok (.aload_n 0, 1) := by decide +kernel
theorem dX12_join_121 : decode cX12_join 121 = .ok (.getfield 89, 3) := by decide +kernel
theorem dX12_join_124 : decode cX12_join 124 = .ok (.iload_n 2, 1) := by decide +kernel
theorem dX12_join_125 : decode cX12_join 125 = .ok (.iaload, 1) := by decide +kernel
theorem dX12_join_126 : decode cX12_join 126 = .ok (.invokevirtual 450, 3) := by decide +kernel
theorem dX12_join_129 : decode cX12_join 129 = .ok (.iastore, 1) := by decide +kernel
theorem dX12_join_130 : decode cX12_join 130 = .ok (.iinc 2 1, 3) := by decide +kernel
theorem dX12_join_133 : decode cX12_join 133 = .ok (.goto (-33), 3) := by decide +kernel
theorem dX12_join_136 : decode cX12_join 136 = .ok (.iinc 1 1, 3) := by decide +kernel
theorem dX12_join_139 : decode cX12_join 139 = .ok (.goto (-49), 3) := by decide +kernel
theorem dX12_join_142 : decode cX12_join 142 = .ok (.aload_n 0, 1) := by decide +kernel
theorem dX12_join_143 : decode cX12_join 143 = .ok (.ldc_w 453, 3) := by decide +kernel
theorem dX12_join_146 : decode cX12_join 146 = .ok (.putfield 438, 3) := by decide +kernel
theorem dX12_join_149 : decode cX12_join 149 = .ok (.aload_n 0, 1) := by decide +kernel
theorem dX12_join_150 : decode cX12_join 150 = .ok (.iconst 0, 1) := by decide +kernel
theorem dX12_join_151 : decode cX12_join 151 = .ok (.iconst 0, 1) := by decide +kernel
theorem dX12_join_152 : decode cX12_join 152 = .ok (.iconst 0, 1) := by decide +kernel
theorem dX12_join_153 : decode cX12_join 153 = .ok (.invokevirtual 444, 3) := by decide +kernel
theorem dX12_join_156 : decode cX12_join 156 = .ok (.aload_n 0, 1) := by decide +kernel
theorem dX12_join_157 : decode cX12_join 157 = .ok (.aload_n 0, 1) := by decide +kernel
theorem dX12_join_158 : decode cX12_join 158 = .ok (.getfield 435, 3) := by decide +kernel
theorem dX12_join_161 : decode cX12_join 161 = .ok (.putfield 104, 3) := by decide +kernel
theorem dX12_join_164 : decode cX12_join 164 = .ok (.iconst 0, 1) := by decide +kernel
theorem dX12_join_165 : decode cX12_join 165 = .ok (.istore_n 1, 1) := by decide +kernel
theorem dX12_join_166 : decode cX12_join 166 = .ok (.iload_n 1, 1) := by decide +kernel
theorem dX12_join_167 : decode cX12_join 167 = .ok (.aload_n 0, 1) := by decide +kernel
theorem dX12_join_168 : decode cX12_join 168 = .ok (.getfield 435, 3) := by decide +kernel
theorem dX12_join_171 : decode cX12_join 171 = .ok (.if_icmp .ge 26, 3) := by decide +kernel
theorem dX12_join_174 : decode cX12_join 174 = .ok (.aload_n 0, 1) := by decide +kernel
theorem dX12_join_175 : decode cX12_join 175 = .ok (.getfield 101, 3) := by decide +kernel
theorem dX12_join_178 : decode cX12_join 178 = .ok (.iload_n 1, 1) := by decide +kernel
theorem dX12_join_179 : decode cX12_join 179 = .ok (.aload_n 0, 1) := by decide +kernel
theorem dX12_join_180 : decode cX12_join 180 = .ok (.getfield 89, 3) := by decide +kernel
theorem dX12_join_183 : decode cX12_join 183 = .ok (.aload_n 0, 1) := by decide +kernel
theorem dX12_join_184 : decode cX12_join 184 = .ok (.getfield 98, 3) := by decide +kernel
theorem dX12_join_187 : decode cX12_join 187 = .ok (.iload_n 1, 1) := by decide +kernel
theorem dX12_join_188 : decode cX12_join 188 = .ok (.iaload, 1) := by decide +kernel
theorem dX12_join_189 : decode cX12_join 189 = .ok (.iaload, 1) := by decide +kernel
theorem dX12_join_190 : decode cX12_join 190 = .ok (.iastore, 1) := by decide +kernel
theorem dX12_join_191 : decode cX12_join 191 = .ok (.iinc 1 1, 3) := by decide +kernel
theorem dX12_join_194 : decode cX12_join 194 = .ok (.goto (-28), 3) := by decide +kernel
theorem dX12_join_197 : decode cX12_join 197 = .ok (.aload_n 0, 1) := by decide +kernel
theorem dX12_join_198 : decode cX12_join 198 = .ok (.getfield 438, 3) := by decide +kernel
theorem dX12_join_201 : decode cX12_join 201 = .ok (.ireturn, 1) := by decide +kernel
theorem dX12_joined_0 : decode cX12_joined 0 = .ok (.iload_n 1, 1) := by decide +kernel
theorem dX12_joined_1 : decode cX12_joined 1 = .ok (.i2l, 1) := by decide +kernel
theorem dX12_joined_2 : decode cX12_joined 2 = .ok (.lconst 0, 1) := by decide +kernel
theorem dX12_joined_3 : decode cX12_joined 3 = .ok (.aload_n 0, 1) := by decide +kernel
theorem dX12_joined_4 : decode cX12_joined 4 = .ok (.getfield 104, 3) := by decide +kernel
theorem dX12_joined_7 : decode cX12_joined 7 = .ok (.iconst 1, 1) := by decide +kernel
theorem dX12_joined_8 : decode cX12_joined 8 = .ok (.isub, 1) := by decide +kernel
theorem dX12_joined_9 : decode cX12_joined 9 = .ok (.i2l, 1) := by decide +kernel
theorem dX12_joined_10 : decode cX12_joined 10 = .ok (.invokestatic 125, 3) := by decide +kernel
theorem dX12_joined_13 : decode cX12_joined 13 = .ok (.ifCond .eq 12, 3) := by decide +kernel
theorem dX12_joined_16 : decode cX12_joined 16 = .ok (.aload_n 0, 1) := by decide +kernel
theorem dX12_joined_17 : decode cX12_joined 17 = .ok (.getfield 101, 3) := by decide +kernel
theorem dX12_joined_20 : decode cX12_joined 20 = .ok (.iload_n 1, 1) := by decide +kernel
theorem dX12_joined_21 : decode cX12_joined 21 = .ok (.iaload, 1) := by decide +kernel
theorem dX12_joined_22 : decode cX12_joined 22 = .ok (.goto 4, 3) := by decide +kernel
theorem dX12_joined_25 : decode cX12_joined 25 = .ok (.iconst (-1), 1) := by decide +kernel
theorem dX12_joined_26 : decode cX12_joined 26 = .ok (.ireturn, 1) := by decide +kernel
theorem dX12_settledNow_0 : decode cX12_settledNow 0 = .ok (.iconst 0, 1) := by decide +kernel
theorem dX12_settledNow_1 : decode cX12_settledNow 1 = .ok (.istore_n 1, 1) := by decide +kernel
theorem dX12_settledNow_2 : decode cX12_settledNow 2 = .ok (.iconst 0, 1) := by decide +kernel
theorem dX12_settledNow_3 : decode cX12_settledNow 3 = .ok (.istore_n 2, 1) := by decide +kernel
theorem dX12_settledNow_4 : decode cX12_settledNow 4 = .ok (.iload_n 2, 1) := by decide +kernel
theorem dX12_settledNow_5 : decode cX12_settledNow 5 = .ok (.aload_n 0, 1) := by decide +kernel
theorem dX12_settledNow_6 : decode cX12_settledNow 6 = .ok (.getfield 9, 3) := by decide +kernel
theorem dX12_settledNow_9 : decode cX12_settledNow 9 = .ok (.iconst 1, 1) := by decide +kernel
theorem dX12_settledNow_10 : decode cX12_settledNow 10 = .ok (.iaload, 1) := by decide +kernel
theorem dX12_settledNow_11 : decode cX12_settledNow 11 = .ok (.if_icmp .ge 44, 3) := by decide +kernel
theorem dX12_settledNow_14 : decode cX12_settledNow 14 = .ok (.iconst 0, 1) := by decide +kernel
theorem dX12_settledNow_15 : decode cX12_settledNow 15 = .ok (.istore_n 3, 1) := by decide +kernel
theorem dX12_settledNow_16 : decode cX12_settledNow 16 = .ok (.iload_n 3, 1) := by decide +kernel
theorem dX12_settledNow_17 : decode cX12_settledNow 17 = .ok (.iconst 3, 1) := by decide +kernel
theorem dX12_settledNow_18 : decode cX12_settledNow 18 = .ok (.if_icmp .ge 31, 3) := by decide +kernel
theorem dX12_settledNow_21 : decode cX12_settledNow 21 = .ok (.iload_n 1, 1) := by decide +kernel
theorem dX12_settledNow_22 : decode cX12_settledNow 22 = .ok (.aload_n 0, 1) := by decide +kernel
theorem dX12_settledNow_23 : decode cX12_settledNow 23 = .ok (.iload_n 2, 1) := by decide +kernel
theorem dX12_settledNow_24 : decode cX12_settledNow 24 = .ok (.iload_n 3, 1) := by decide +kernel
theorem dX12_settledNow_25 : decode cX12_settledNow 25 = .ok (.aload_n 0, 1) := by decide +kernel
theorem dX12_settledNow_26 : decode cX12_settledNow 26 = .ok (.invokevirtual 138, 3) := by decide +kernel
theorem dX12_settledNow_29 : decode cX12_settledNow 29 = .ok (.invokevirtual 385, 3) := by decide +kernel
theorem dX12_settledNow_32 : decode cX12_settledNow 32 = .ok (.iconst (-1), 1) := by decide +kernel
theorem dX12_settledNow_33 : decode cX12_settledNow 33 = .ok (.if_icmp .ne 7, 3) := by decide +kernel
theorem dX12_settledNow_36 : decode cX12_settledNow 36 = .ok (.iconst 0, 1) := by decide +kernel
theorem dX12_settledNow_37 : decode cX12_settledNow 37 = .ok (.goto 4, 3) := by decide +kernel
theorem dX12_settledNow_40 : decode cX12_settledNow 40 = .ok (.iconst 1, 1) := by decide +kernel
theorem dX12_settledNow_41 : decode cX12_settledNow 41 = .ok (.iadd, 1) := by decide +kernel
theorem dX12_settledNow_42 : decode cX12_settledNow 42 = .ok (.istore_n 1, 1) := by decide +kernel
theorem dX12_settledNow_43 : decode cX12_settledNow 43 = .ok (.iinc 3 1, 3) := by decide +kernel
theorem dX12_settledNow_46 : decode cX12_settledNow 46 = .ok (.goto (-30), 3) := by decide +kernel
theorem dX12_settledNow_49 : decode cX12_settledNow 49 = .ok (.iinc 2 1, 3) := by decide +kernel
theorem dX12_settledNow_52 : decode cX12_settledNow 52 = .ok (.goto (-48), 3) := by decide +kernel
theorem dX12_settledNow_55 : decode cX12_settledNow 55 = .ok (.iload_n 1, 1) := by decide +kernel
theorem dX12_settledNow_56 : decode cX12_settledNow 56 = .ok (.ireturn, 1) := by decide +kernel
theorem dX12_count_0 : decode cX12_count 0 = .ok (.iconst 0, 1) := by decide +kernel
theorem dX12_count_1 : decode cX12_count 1 = .ok (.istore_n 2, 1) := by decide +kernel
theorem dX12_count_2 : decode cX12_count 2 = .ok (.iload_n 1, 1) := by decide +kernel
theorem dX12_count_3 : decode cX12_count 3 = .ok (.tableswitch 206 0 12 #[65, 70, 77, 84, 91, 98, 105, 113, 121, 158, 163, 168, 173], 65) := by decide +kernel
theorem dX12_count_68 : decode cX12_count 68 = .ok (.aload_n 0, 1) := by decide +kernel
theorem dX12_count_69 : decode cX12_count 69 = .ok (.invokevirtual 138, 3) := by decide +kernel
theorem dX12_count_72 : decode cX12_count 72 = .ok (.ireturn, 1) := by decide +kernel
theorem dX12_count_73 : decode cX12_count 73 = .ok (.aload_n 0, 1) := by decide +kernel
theorem dX12_count_74 : decode cX12_count 74 = .ok (.getfield 9, 3) := by decide +kernel
theorem dX12_count_77 : decode cX12_count 77 = .ok (.iconst 1, 1) := by decide +kernel
theorem dX12_count_78 : decode cX12_count 78 = .ok (.iaload, 1) := by decide +kernel
theorem dX12_count_79 : decode cX12_count 79 = .ok (.ireturn, 1) := by decide +kernel
theorem dX12_count_80 : decode cX12_count 80 = .ok (.aload_n 0, 1) := by decide +kernel
theorem dX12_count_81 : decode cX12_count 81 = .ok (.getfield 9, 3) := by decide +kernel
theorem dX12_count_84 : decode cX12_count 84 = .ok (.iconst 2, 1) := by decide +kernel
theorem dX12_count_85 : decode cX12_count 85 = .ok (.iaload, 1) := by decide +kernel
theorem dX12_count_86 : decode cX12_count 86 = .ok (.ireturn, 1) := by decide +kernel
theorem dX12_count_87 : decode cX12_count 87 = .ok (.aload_n 0, 1) := by decide +kernel
theorem dX12_count_88 : decode cX12_count 88 = .ok (.getfield 9, 3) := by decide +kernel
theorem dX12_count_91 : decode cX12_count 91 = .ok (.iconst 3, 1) := by decide +kernel
theorem dX12_count_92 : decode cX12_count 92 = .ok (.iaload, 1) := by decide +kernel
theorem dX12_count_93 : decode cX12_count 93 = .ok (.ireturn, 1) := by decide +kernel
theorem dX12_count_94 : decode cX12_count 94 = .ok (.aload_n 0, 1) := by decide +kernel
theorem dX12_count_95 : decode cX12_count 95 = .ok (.getfield 9, 3) := by decide +kernel
theorem dX12_count_98 : decode cX12_count 98 = .ok (.iconst 4, 1) := by decide +kernel
theorem dX12_count_99 : decode cX12_count 99 = .ok (.iaload, 1) := by decide +kernel
theorem dX12_count_100 : decode cX12_count 100 = .ok (.ireturn, 1) := by decide +kernel
theorem dX12_count_101 : decode cX12_count 101 = .ok (.aload_n 0, 1) := by decide +kernel
theorem dX12_count_102 : decode cX12_count 102 = .ok (.getfield 9, 3) := by decide +kernel
theorem dX12_count_105 : decode cX12_count 105 = .ok (.iconst 5, 1) := by decide +kernel
theorem dX12_count_106 : decode cX12_count 106 = .ok (.iaload, 1) := by decide +kernel
theorem dX12_count_107 : decode cX12_count 107 = .ok (.ireturn, 1) := by decide +kernel
theorem dX12_count_108 : decode cX12_count 108 = .ok (.aload_n 0, 1) := by decide +kernel
theorem dX12_count_109 : decode cX12_count 109 = .ok (.getfield 9, 3) := by decide +kernel
theorem dX12_count_112 : decode cX12_count 112 = .ok (.bipush 6, 2) := by decide +kernel
theorem dX12_count_114 : decode cX12_count 114 = .ok (.iaload, 1) := by decide +kernel
theorem dX12_count_115 : decode cX12_count 115 = .ok (.ireturn, 1) := by decide +kernel
theorem dX12_count_116 : decode cX12_count 116 = .ok (.aload_n 0, 1) := by decide +kernel
theorem dX12_count_117 : decode cX12_count 117 = .ok (.getfield 9, 3) := by decide +kernel
theorem dX12_count_120 : decode cX12_count 120 = .ok (.bipush 7, 2) := by decide +kernel
theorem dX12_count_122 : decode cX12_count 122 = .ok (.iaload, 1) := by decide +kernel
theorem dX12_count_123 : decode cX12_count 123 = .ok (.ireturn, 1) := by decide +kernel
theorem dX12_count_124 : decode cX12_count 124 = .ok (.iconst 0, 1) := by decide +kernel
theorem dX12_count_125 : decode cX12_count 125 = .ok (.istore_n 3, 1) := by decide +kernel
theorem dX12_count_126 : decode cX12_count 126 = .ok (.iload_n 3, 1) := by decide +kernel
theorem dX12_count_127 : decode cX12_count 127 = .ok (.aload_n 0, 1) := by decide +kernel
theorem dX12_count_128 : decode cX12_count 128 = .ok (.getfield 9, 3) := by decide +kernel
theorem dX12_count_131 : decode cX12_count 131 = .ok (.bipush 7, 2) := by decide +kernel
theorem dX12_count_133 : decode cX12_count 133 = .ok (.iaload, 1) := by decide +kernel
theorem dX12_count_134 : decode cX12_count 134 = .ok (.if_icmp .ge 25, 3) := by decide +kernel
theorem dX12_count_137 : decode cX12_count 137 = .ok (.iload_n 2, 1) := by decide +kernel
theorem dX12_count_138 : decode cX12_count 138 = .ok (.aload_n 0, 1) := by decide +kernel
theorem dX12_count_139 : decode cX12_count 139 = .ok (.iload_n 3, 1) := by decide +kernel
theorem dX12_count_140 : decode cX12_count 140 = .ok (.invokevirtual 408, 3) := by decide +kernel
theorem dX12_count_143 : decode cX12_count 143 = .ok (.ifCond .eq 7, 3) := by decide +kernel
theorem dX12_count_146 : decode cX12_count 146 = .ok (.iconst 1, 1) := by decide +kernel
theorem dX12_count_147 : decode cX12_count 147 = .ok (.goto 4, 3) := by decide +kernel
theorem dX12_count_150 : decode cX12_count 150 = .ok (.iconst 0, 1) := by decide +kernel
theorem dX12_count_151 : decode cX12_count 151 = .ok (.iadd, 1) := by decide +kernel
theorem dX12_count_152 : decode cX12_count 152 = .ok (.istore_n 2, 1) := by decide +kernel
theorem dX12_count_153 : decode cX12_count 153 = .ok (.iinc 3 1, 3) := by decide +kernel
theorem dX12_count_156 : decode cX12_count 156 = .ok (.goto (-30), 3) := by decide +kernel
theorem dX12_count_159 : decode cX12_count 159 = .ok (.iload_n 2, 1) := by decide +kernel
theorem dX12_count_160 : decode cX12_count 160 = .ok (.ireturn, 1) := by decide +kernel
theorem dX12_count_161 : decode cX12_count 161 = .ok (.aload_n 0, 1) := by decide +kernel
theorem dX12_count_162 : decode cX12_count 162 = .ok (.getfield 131, 3) := by decide +kernel
theorem dX12_count_165 : decode cX12_count 165 = .ok (.ireturn, 1) := by decide +kernel
theorem dX12_count_166 : decode cX12_count 166 = .ok (.aload_n 0, 1) := by decide +kernel
theorem dX12_count_167 : decode cX12_count 167 = .ok (.getfield 435, 3) := by decide +kernel
theorem dX12_count_170 : decode cX12_count 170 = .ok (.ireturn, 1) := by decide +kernel
theorem dX12_count_171 : decode cX12_count 171 = .ok (.aload_n 0, 1) := by decide +kernel
theorem dX12_count_172 : decode cX12_count 172 = .ok (.invokevirtual 454, 3) := by decide +kernel
theorem dX12_count_175 : decode cX12_count 175 = .ok (.ireturn, 1) := by decide +kernel
theorem dX12_count_176 : decode cX12_count 176 = .ok (.iconst 0, 1) := by decide +kernel
theorem dX12_count_177 : decode cX12_count 177 = .ok (.istore_n 3, 1) := by decide +kernel
theorem dX12_count_178 : decode cX12_count 178 = .ok (.iload_n 3, 1) := by decide +kernel
theorem dX12_count_179 : decode cX12_count 179 = .ok (.iconst 4, 1) := by decide +kernel
theorem dX12_count_180 : decode cX12_count 180 = .ok (.if_icmp .ge 27, 3) := by decide +kernel
theorem dX12_count_183 : decode cX12_count 183 = .ok (.iload_n 2, 1) := by decide +kernel
theorem dX12_count_184 : decode cX12_count 184 = .ok (.aload_n 0, 1) := by decide +kernel
theorem dX12_count_185 : decode cX12_count 185 = .ok (.getfield 107, 3) := by decide +kernel
theorem dX12_count_188 : decode cX12_count 188 = .ok (.iload_n 3, 1) := by decide +kernel
theorem dX12_count_189 : decode cX12_count 189 = .ok (.iaload, 1) := by decide +kernel
theorem dX12_count_190 : decode cX12_count 190 = .ok (.iconst (-1), 1) := by decide +kernel
theorem dX12_count_191 : decode cX12_count 191 = .ok (.if_icmp .ne 7, 3) := by decide +kernel
