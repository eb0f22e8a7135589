theorem dX0_readAct_0 : decode cX0_readAct 0 = .ok (.aload_n 1, 1) := by decide +kernel
theorem dX0_readAct_1 : decode cX0_readAct 1 = .ok (.invokevirtual 46, 3) := by decide +kernel
theorem dX0_readAct_4 : decode cX0_readAct 4 = .ok (.aload_n 0, 1) := by decide +kernel
theorem dX0_readAct_5 : decode cX0_readAct 5 = .ok (.getfield 18, 3) := by decide +kernel
theorem dX0_readAct_8 : decode cX0_readAct 8 = .ok (.aload_n 0, 1) := by decide +kernel
theorem dX0_readAct_9 : decode cX0_readAct 9 = .ok (.getfield 51, 3) := by decide +kernel
theorem dX0_readAct_12 : decode cX0_readAct 12 = .ok (.iconst 0, 1) := by decide +kernel
theorem dX0_readAct_13 : decode cX0_readAct 13 = .ok (.bastore, 1) := by decide +kernel
theorem dX0_readAct_14 : decode cX0_readAct 14 = .ok (.iconst 0, 1) := by decide +kernel
theorem dX0_readAct_15 : decode cX0_readAct 15 = .ok (.istore_n 3, 1) := by decide +kernel
theorem dX0_readAct_16 : decode cX0_readAct 16 = .ok (.iconst 0, 1) := by decide +kernel
theorem dX0_readAct_17 : decode cX0_readAct 17 = .ok (.istore 4, 2) := by decide +kernel
theorem dX0_readAct_19 : decode cX0_readAct 19 = .ok (.iload 4, 2) := by decide +kernel
theorem dX0_readAct_21 : decode cX0_readAct 21 = .ok (.bipush 12, 2) := by decide +kernel
theorem dX0_readAct_23 : decode cX0_readAct 23 = .ok (.if_icmp .gt 69, 3) := by decide +kernel
theorem dX0_readAct_26 : decode cX0_readAct 26 = .ok (.aload_n 1, 1) := by decide +kernel
theorem dX0_readAct_27 : decode cX0_readAct 27 = .ok (.invokevirtual 55, 3) := by decide +kernel
theorem dX0_readAct_30 : decode cX0_readAct 30 = .ok (.ifCond .eq 62, 3) := by decide +kernel
theorem dX0_readAct_33 : decode cX0_readAct 33 = .ok (.aload_n 1, 1) := by decide +kernel
theorem dX0_readAct_34 : decode cX0_readAct 34 = .ok (.invokestatic 59, 3) := by decide +kernel
theorem dX0_readAct_37 : decode cX0_readAct 37 = .ok (.istore 5, 2) := by decide +kernel
theorem dX0_readAct_39 : decode cX0_readAct 39 = .ok (.iload 5, 2) := by decide +kernel
theorem dX0_readAct_41 : decode cX0_readAct 41 = .ok (.iconst (-1), 1) := by decide +kernel
theorem dX0_readAct_42 : decode cX0_readAct 42 = .ok (.if_icmp .ne 11, 3) := by decide +kernel
theorem dX0_readAct_45 : decode cX0_readAct 45 = .ok (.aload_n 1, 1) := by decide +kernel
theorem dX0_readAct_46 : decode cX0_readAct 46 = .ok (.iconst 1, 1) := by decide +kernel
theorem dX0_readAct_47 : decode cX0_readAct 47 = .ok (.invokevirtual 63, 3) := by decide +kernel
theorem dX0_readAct_50 : decode cX0_readAct 50 = .ok (.goto 36, 3) := by decide +kernel
theorem dX0_readAct_53 : decode cX0_readAct 53 = .ok (.iload_n 3, 1) := by decide +kernel
theorem dX0_readAct_54 : decode cX0_readAct 54 = .ok (.bipush 12, 2) := by decide +kernel
theorem dX0_readAct_56 : decode cX0_readAct 56 = .ok (.if_icmp .lt 11, 3) := by decide +kernel
theorem dX0_readAct_59 : decode cX0_readAct 59 = .ok (.aload_n 1, 1) := by decide +kernel
theorem dX0_readAct_60 : decode cX0_readAct 60 = .ok (.iconst 3, 1) := by decide +kernel
theorem dX0_readAct_61 : decode cX0_readAct 61 = .ok (.invokevirtual 63, 3) := by decide +kernel
theorem dX0_readAct_64 : decode cX0_readAct 64 = .ok (.goto 22, 3) := by decide +kernel
theorem dX0_readAct_67 : decode cX0_readAct 67 = .ok (.aload_n 0, 1) := by decide +kernel
theorem dX0_readAct_68 : decode cX0_readAct 68 = .ok (.aload_n 1, 1) := by decide +kernel
theorem dX0_readAct_69 : decode cX0_readAct 69 = .ok (.aload_n 0, 1) := by decide +kernel
theorem dX0_readAct_70 : decode cX0_readAct 70 = .ok (.getfield 51, 3) := by decide +kernel
theorem dX0_readAct_73 : decode cX0_readAct 73 = .ok (.bipush 12, 2) := by decide +kernel
theorem dX0_readAct_75 : decode cX0_readAct 75 = .ok (.imul, 1) := by decide +kernel
theorem dX0_readAct_76 : decode cX0_readAct 76 = .ok (.iload_n 3, 1) := by decide +kernel
theorem dX0_readAct_77 : decode cX0_readAct 77 = .ok (.iadd, 1) := by decide +kernel
theorem dX0_readAct_78 : decode cX0_readAct 78 = .ok (.iload 5, 2) := by decide +kernel
theorem dX0_readAct_80 : decode cX0_readAct 80 = .ok (.invokevirtual 67, 3) := by decide +kernel
theorem dX0_readAct_83 : decode cX0_readAct 83 = .ok (.iinc 3 1, 3) := by decide +kernel
theorem dX0_readAct_86 : decode cX0_readAct 86 = .ok (.iinc 4 1, 3) := by decide +kernel
theorem dX0_readAct_89 : decode cX0_readAct 89 = .ok (.goto (-70), 3) := by decide +kernel
theorem dX0_readAct_92 : decode cX0_readAct 92 = .ok (.aload_n 1, 1) := by decide +kernel
theorem dX0_readAct_93 : decode cX0_readAct 93 = .ok (.getfield 71, 3) := by decide +kernel
theorem dX0_readAct_96 : decode cX0_readAct 96 = .ok (.ifCond .ne 33, 3) := by decide +kernel
theorem dX0_readAct_99 : decode cX0_readAct 99 = .ok (.aload_n 0, 1) := by decide +kernel
theorem dX0_readAct_100 : decode cX0_readAct 100 = .ok (.getfield 11, 3) := by decide +kernel
theorem dX0_readAct_103 : decode cX0_readAct 103 = .ok (.aload_n 0, 1) := by decide +kernel
theorem dX0_readAct_104 : decode cX0_readAct 104 = .ok (.getfield 51, 3) := by decide +kernel
theorem dX0_readAct_107 : decode cX0_readAct 107 = .ok (.iload_n 2, 1) := by decide +kernel
theorem dX0_readAct_108 : decode cX0_readAct 108 = .ok (.iastore, 1) := by decide +kernel
theorem dX0_readAct_109 : decode cX0_readAct 109 = .ok (.aload_n 0, 1) := by decide +kernel
theorem dX0_readAct_110 : decode cX0_readAct 110 = .ok (.getfield 15, 3) := by decide +kernel
theorem dX0_readAct_113 : decode cX0_readAct 113 = .ok (.aload_n 0, 1) := by decide +kernel
theorem dX0_readAct_114 : decode cX0_readAct 114 = .ok (.getfield 51, 3) := by decide +kernel
theorem dX0_readAct_117 : decode cX0_readAct 117 = .ok (.iload_n 3, 1) := by decide +kernel
theorem dX0_readAct_118 : decode cX0_readAct 118 = .ok (.iastore, 1) := by decide +kernel
theorem dX0_readAct_119 : decode cX0_readAct 119 = .ok (.aload_n 0, 1) := by decide +kernel
theorem dX0_readAct_120 : decode cX0_readAct 120 = .ok (.dup, 1) := by decide +kernel
theorem dX0_readAct_121 : decode cX0_readAct 121 = .ok (.getfield 51, 3) := by decide +kernel
theorem dX0_readAct_124 : decode cX0_readAct 124 = .ok (.iconst 1, 1) := by decide +kernel
theorem dX0_readAct_125 : decode cX0_readAct 125 = .ok (.iadd, 1) := by decide +kernel
theorem dX0_readAct_126 : decode cX0_readAct 126 = .ok (.putfield 51, 3) := by decide +kernel
theorem dX0_readAct_129 : decode cX0_readAct 129 = .ok (.iload_n 3, 1) := by decide +kernel
theorem dX0_readAct_130 : decode cX0_readAct 130 = .ok (.ireturn, 1) := by decide +kernel
theorem dX0_kindOfLine_0 : decode cX0_kindOfLine 0 = .ok (.aload_n 0, 1) := by decide +kernel
theorem dX0_kindOfLine_1 : decode cX0_kindOfLine 1 = .ok (.ldc 74, 2) := by decide +kernel
theorem dX0_kindOfLine_3 : decode cX0_kindOfLine 3 = .ok (.invokevirtual 76, 3) := by decide +kernel
theorem dX0_kindOfLine_6 : decode cX0_kindOfLine 6 = .ok (.ifCond .eq 5, 3) := by decide +kernel
theorem dX0_kindOfLine_9 : decode cX0_kindOfLine 9 = .ok (.iconst 0, 1) := by decide +kernel
theorem dX0_kindOfLine_10 : decode cX0_kindOfLine 10 = .ok (.ireturn, 1) := by decide +kernel
theorem dX0_kindOfLine_11 : decode cX0_kindOfLine 11 = .ok (.aload_n 0, 1) := by decide +kernel
theorem dX0_kindOfLine_12 : decode cX0_kindOfLine 12 = .ok (.ldc 80, 2) := by decide +kernel
theorem dX0_kindOfLine_14 : decode cX0_kindOfLine 14 = .ok (.invokevirtual 76, 3) := by decide +kernel
theorem dX0_kindOfLine_17 : decode cX0_kindOfLine 17 = .ok (.ifCond .eq 5, 3) := by decide +kernel
theorem dX0_kindOfLine_20 : decode cX0_kindOfLine 20 = .ok (.iconst 1, 1) := by decide +kernel
theorem dX0_kindOfLine_21 : decode cX0_kindOfLine 21 = .ok (.ireturn, 1) := by decide +kernel
theorem dX0_kindOfLine_22 : decode cX0_kindOfLine 22 = .ok (.aload_n 0, 1) := by decide +kernel
theorem dX0_kindOfLine_23 : decode cX0_kindOfLine 23 = .ok (.ldc 82, 2) := by decide +kernel
theorem dX0_kindOfLine_25 : decode cX0_kindOfLine 25 = .ok (.invokevirtual 76, 3) := by decide +kernel
theorem dX0_kindOfLine_28 : decode cX0_kindOfLine 28 = .ok (.ifCond .eq 5, 3) := by decide +kernel
theorem dX0_kindOfLine_31 : decode cX0_kindOfLine 31 = .ok (.iconst 2, 1) := by decide +kernel
theorem dX0_kindOfLine_32 : decode cX0_kindOfLine 32 = .ok (.ireturn, 1) := by decide +kernel
theorem dX0_kindOfLine_33 : decode cX0_kindOfLine 33 = .ok (.aload_n 0, 1) := by decide +kernel
theorem dX0_kindOfLine_34 : decode cX0_kindOfLine 34 = .ok (.ldc 84, 2) := by decide +kernel
theorem dX0_kindOfLine_36 : decode cX0_kindOfLine 36 = .ok (.invokevirtual 76, 3) := by decide +kernel
theorem dX0_kindOfLine_39 : decode cX0_kindOfLine 39 = .ok (.ifCond .eq 5, 3) := by decide +kernel
theorem dX0_kindOfLine_42 : decode cX0_kindOfLine 42 = .ok (.iconst 3, 1) := by decide +kernel
theorem dX0_kindOfLine_43 : decode cX0_kindOfLine 43 = .ok (.ireturn, 1) := by decide +kernel
theorem dX0_kindOfLine_44 : decode cX0_kindOfLine 44 = .ok (.aload_n 0, 1) := by decide +kernel
theorem dX0_kindOfLine_45 : decode cX0_kindOfLine 45 = .ok (.ldc 86, 2) := by decide +kernel
theorem dX0_kindOfLine_47 : decode cX0_kindOfLine 47 = .ok (.invokevirtual 76, 3) := by decide +kernel
theorem dX0_kindOfLine_50 : decode cX0_kindOfLine 50 = .ok (.ifCond .eq 5, 3) := by decide +kernel
theorem dX0_kindOfLine_53 : decode cX0_kindOfLine 53 = .ok (.iconst 4, 1) := by decide +kernel
theorem dX0_kindOfLine_54 : decode cX0_kindOfLine 54 = .ok (.ireturn, 1) := by decide +kernel
theorem dX0_kindOfLine_55 : decode cX0_kindOfLine 55 = .ok (.aload_n 0, 1) := by decide +kernel
theorem dX0_kindOfLine_56 : decode cX0_kindOfLine 56 = .ok (.ldc 88, 2) := by decide +kernel
theorem dX0_kindOfLine_58 : decode cX0_kindOfLine 58 = .ok (.invokevirtual 76, 3) := by decide +kernel
theorem dX0_kindOfLine_61 : decode cX0_kindOfLine 61 = .ok (.ifCond .eq 7, 3) := by decide +kernel
theorem dX0_kindOfLine_64 : decode cX0_kindOfLine 64 = .ok (.iconst 5, 1) := by decide +kernel
theorem dX0_kindOfLine_65 : decode cX0_kindOfLine 65 = .ok (.goto 4, 3) := by decide +kernel
theorem dX0_kindOfLine_68 : decode cX0_kindOfLine 68 = .ok (.iconst (-1), 1) := by decide +kernel
theorem dX0_kindOfLine_69 : decode cX0_kindOfLine 69 = .ok (.ireturn, 1) := by decide +kernel
theorem dX0_readLine_0 : decode cX0_readLine 0 = .ok (.aload_n 0, 1) := by decide +kernel
theorem dX0_readLine_1 : decode cX0_readLine 1 = .ok (.aload_n 1, 1) := by decide +kernel
theorem dX0_readLine_2 : decode cX0_readLine 2 = .ok (.iload_n 2, 1) := by decide +kernel
theorem dX0_readLine_3 : decode cX0_readLine 3 = .ok (.iload_n 3, 1) := by decide +kernel
theorem dX0_readLine_4 : decode cX0_readLine 4 = .ok (.invokevirtual 90, 3) := by decide +kernel
theorem dX0_readLine_7 : decode cX0_readLine 7 = .ok (.iload_n 3, 1) := by decide +kernel
theorem dX0_readLine_8 : decode cX0_readLine 8 = .ok (.ifCond .eq 8, 3) := by decide +kernel
theorem dX0_readLine_11 : decode cX0_readLine 11 = .ok (.iload_n 3, 1) := by decide +kernel
theorem dX0_readLine_12 : decode cX0_readLine 12 = .ok (.iconst 1, 1) := by decide +kernel
theorem dX0_readLine_13 : decode cX0_readLine 13 = .ok (.if_icmp .ne 16, 3) := by decide +kernel
theorem dX0_readLine_16 : decode cX0_readLine 16 = .ok (.aload_n 1, 1) := by decide +kernel
theorem dX0_readLine_17 : decode cX0_readLine 17 = .ok (.ldc 93, 2) := by decide +kernel
theorem dX0_readLine_19 : decode cX0_readLine 19 = .ok (.invokevirtual 76, 3) := by decide +kernel
theorem dX0_readLine_22 : decode cX0_readLine 22 = .ok (.ifCond .eq 7, 3) := by decide +kernel
theorem dX0_readLine_25 : decode cX0_readLine 25 = .ok (.iconst 1, 1) := by decide +kernel
theorem dX0_readLine_26 : decode cX0_readLine 26 = .ok (.goto 4, 3) := by decide +kernel
theorem dX0_readLine_29 : decode cX0_readLine 29 = .ok (.iconst 0, 1) := by decide +kernel
theorem dX0_readLine_30 : decode cX0_readLine 30 = .ok (.istore 4, 2) := by decide +kernel
theorem dX0_readLine_32 : decode cX0_readLine 32 = .ok (.iconst 0, 1) := by decide +kernel
theorem dX0_readLine_33 : decode cX0_readLine 33 = .ok (.istore 5, 2) := by decide +kernel
theorem dX0_readLine_35 : decode cX0_readLine 35 = .ok (.iload 5, 2) := by decide +kernel
theorem dX0_readLine_37 : decode cX0_readLine 37 = .ok (.iconst 4, 1) := by decide +kernel
theorem dX0_readLine_38 : decode cX0_readLine 38 = .ok (.if_icmp .gt 93, 3) := by decide +kernel
theorem dX0_readLine_41 : decode cX0_readLine 41 = .ok (.iload 4, 2) := by decide +kernel
theorem dX0_readLine_43 : decode cX0_readLine 43 = .ok (.ifCond .eq 88, 3) := by decide +kernel
theorem dX0_readLine_46 : decode cX0_readLine 46 = .ok (.aload_n 1, 1) := by decide +kernel
theorem dX0_readLine_47 : decode cX0_readLine 47 = .ok (.getfield 71, 3) := by decide +kernel
theorem dX0_readLine_50 : decode cX0_readLine 50 = .ok (.ifCond .ne 81, 3) := by decide +kernel
theorem dX0_readLine_53 : decode cX0_readLine 53 = .ok (.aload_n 1, 1) := by decide +kernel
theorem dX0_readLine_54 : decode cX0_readLine 54 = .ok (.invokevirtual 95, 3) := by decide +kernel
theorem dX0_readLine_57 : decode cX0_readLine 57 = .ok (.aload_n 1, 1) := by decide +kernel
theorem dX0_readLine_58 : decode cX0_readLine 58 = .ok (.ldc 98, 2) := by decide +kernel
theorem dX0_readLine_60 : decode cX0_readLine 60 = .ok (.invokevirtual 76, 3) := by decide +kernel
theorem dX0_readLine_63 : decode cX0_readLine 63 = .ok (.ifCond .ne 19, 3) := by decide +kernel
theorem dX0_readLine_66 : decode cX0_readLine 66 = .ok (.aload_n 1, 1) := by decide +kernel
theorem dX0_readLine_67 : decode cX0_readLine 67 = .ok (.invokestatic 100, 3) := by decide +kernel
theorem dX0_readLine_70 : decode cX0_readLine 70 = .ok (.iconst (-1), 1) := by decide +kernel
theorem dX0_readLine_71 : decode cX0_readLine 71 = .ok (.if_icmp .ne 11, 3) := by decide +kernel
theorem dX0_readLine_74 : decode cX0_readLine 74 = .ok (.aload_n 1, 1) := by decide +kernel
theorem dX0_readLine_75 : decode cX0_readLine 75 = .ok (.iconst 1, 1) := by decide +kernel
theorem dX0_readLine_76 : decode cX0_readLine 76 = .ok (.invokevirtual 63, 3) := by decide +kernel
theorem dX0_readLine_79 : decode cX0_readLine 79 = .ok (.goto 38, 3) := by decide +kernel
theorem dX0_readLine_82 : decode cX0_readLine 82 = .ok (.iload 5, 2) := by decide +kernel
theorem dX0_readLine_84 : decode cX0_readLine 84 = .ok (.iconst 4, 1) := by decide +kernel
theorem dX0_readLine_85 : decode cX0_readLine 85 = .ok (.if_icmp .lt 11, 3) := by decide +kernel
theorem dX0_readLine_88 : decode cX0_readLine 88 = .ok (.aload_n 1, 1) := by decide +kernel
theorem dX0_readLine_89 : decode cX0_readLine 89 = .ok (.iconst 3, 1) := by decide +kernel
theorem dX0_readLine_90 : decode cX0_readLine 90 = .ok (.invokevirtual 63, 3) := by decide +kernel
theorem dX0_readLine_93 : decode cX0_readLine 93 = .ok (.goto 24, 3) := by decide +kernel
theorem dX0_readLine_96 : decode cX0_readLine 96 = .ok (.aload_n 0, 1) := by decide +kernel
theorem dX0_readLine_97 : decode cX0_readLine 97 = .ok (.aload_n 1, 1) := by decide +kernel
theorem dX0_readLine_98 : decode cX0_readLine 98 = .ok (.iload_n 2, 1) := by decide +kernel
theorem dX0_readLine_99 : decode cX0_readLine 99 = .ok (.iconst 4, 1) := by decide +kernel
theorem dX0_readLine_100 : decode cX0_readLine 100 = .ok (.imul, 1) := by decide +kernel
theorem dX0_readLine_101 : decode cX0_readLine 101 = .ok (.iload 5, 2) := by decide +kernel
theorem dX0_readLine_103 : decode cX0_readLine 103 = .ok (.iadd, 1) := by decide +kernel
theorem dX0_readLine_104 : decode cX0_readLine 104 = .ok (.invokevirtual 103, 3) := by decide +kernel
theorem dX0_readLine_107 : decode cX0_readLine 107 = .ok (.aload_n 0, 1) := by decide +kernel
theorem dX0_readLine_108 : decode cX0_readLine 108 = .ok (.getfield 31, 3) := by decide +kernel
theorem dX0_readLine_111 : decode cX0_readLine 111 = .ok (.iload_n 2, 1) := by decide +kernel
theorem dX0_readLine_112 : decode cX0_readLine 112 = .ok (.iload 5, 2) := by decide +kernel
theorem dX0_readLine_114 : decode cX0_readLine 114 = .ok (.iconst 1, 1) := by decide +kernel
theorem dX0_readLine_115 : decode cX0_readLine 115 = .ok (.iadd, 1) := by decide +kernel
theorem dX0_readLine_116 : decode cX0_readLine 116 = .ok (.iastore, 1) := by decide +kernel
theorem dX0_readLine_117 : decode cX0_readLine 117 = .ok (.aload_n 1, 1) := by decide +kernel
theorem dX0_readLine_118 : decode cX0_readLine 118 = .ok (.ldc 107, 2) := by decide +kernel
theorem dX0_readLine_120 : decode cX0_readLine 120 = .ok (.invokevirtual 76, 3) := by decide +kernel
theorem dX0_readLine_123 : decode cX0_readLine 123 = .ok (.istore 4, 2) := by decide +kernel
theorem dX0_readLine_125 : decode cX0_readLine 125 = .ok (.iinc 5 1, 3) := by decide +kernel
theorem dX0_readLine_128 : decode cX0_readLine 128 = .ok (.goto (-93), 3) := by decide +kernel
theorem dX0_readLine_131 : decode cX0_readLine 131 = .ok (.aload_n 1, 1) := by decide +kernel
theorem dX0_readLine_132 : decode cX0_readLine 132 = .ok (.bipush 59, 2) := by decide +kernel
theorem dX0_readLine_134 : decode cX0_readLine 134 = .ok (.invokevirtual 109, 3) := by decide +kernel
theorem dX0_readLine_137 : decode cX0_readLine 137 = .ok (.return_, 1) := by decide +kernel
theorem dX0_readHead_0 : decode cX0_readHead 0 = .ok (.aload_n 1, 1) := by decide +kernel
theorem dX0_readHead_1 : decode cX0_readHead 1 = .ok (.invokevirtual 95, 3) := by decide +kernel
theorem dX0_readHead_4 : decode cX0_readHead 4 = .ok (.aload_n 0, 1) := by decide +kernel
theorem dX0_readHead_5 : decode cX0_readHead 5 = .ok (.getfield 22, 3) := by decide +kernel
theorem dX0_readHead_8 : decode cX0_readHead 8 = .ok (.iload_n 2, 1) := by decide +kernel
theorem dX0_readHead_9 : decode cX0_readHead 9 = .ok (.iload_n 3, 1) := by decide +kernel
theorem dX0_readHead_10 : decode cX0_readHead 10 = .ok (.iastore, 1) := by decide +kernel
theorem dX0_readHead_11 : decode cX0_readHead 11 = .ok (.aload_n 0, 1) := by decide +kernel
theorem dX0_readHead_12 : decode cX0_readHead 12 = .ok (.getfield 25, 3) := by decide +kernel
theorem dX0_readHead_15 : decode cX0_readHead 15 = .ok (.iload_n 2, 1) := by decide +kernel
theorem dX0_readHead_16 : decode cX0_readHead 16 = .ok (.iconst 0, 1) := by decide +kernel
theorem dX0_readHead_17 : decode cX0_readHead 17 = .ok (.iastore, 1) := by decide +kernel
theorem dX0_readHead_18 : decode cX0_readHead 18 = .ok (.aload_n 0, 1) := by decide +kernel
theorem dX0_readHead_19 : decode cX0_readHead 19 = .ok (.getfield 28, 3) := by decide +kernel
theorem dX0_readHead_22 : decode cX0_readHead 22 = .ok (.iload_n 2, 1) := by decide +kernel
theorem dX0_readHead_23 : decode cX0_readHead 23 = .ok (.iconst 0, 1) := by decide +kernel
theorem dX0_readHead_24 : decode cX0_readHead 24 = .ok (.iastore, 1) := by decide +kernel
theorem dX0_readHead_25 : decode cX0_readHead 25 = .ok (.aload_n 0, 1) := by decide +kernel
theorem dX0_readHead_26 : decode cX0_readHead 26 = .ok (.getfield 31, 3) := by decide +kernel
theorem dX0_readHead_29 : decode cX0_readHead 29 = .ok (.iload_n 2, 1) := by decide +kernel
theorem dX0_readHead_30 : decode cX0_readHead 30 = .ok (.iconst 0, 1) := by decide +kernel
theorem dX0_readHead_31 : decode cX0_readHead 31 = .ok (.iastore, 1) := by decide +kernel
theorem dX0_readHead_32 : decode cX0_readHead 32 = .ok (.iload_n 3, 1) := by decide +kernel
theorem dX0_readHead_33 : decode cX0_readHead 33 = .ok (.ifCond .ne 17, 3) := by decide +kernel
theorem dX0_readHead_36 : decode cX0_readHead 36 = .ok (.aload_n 0, 1) := by decide +kernel
theorem dX0_readHead_37 : decode cX0_readHead 37 = .ok (.getfield 25, 3) := by decide +kernel
theorem dX0_readHead_40 : decode cX0_readHead 40 = .ok (.iload_n 2, 1) := by decide +kernel
theorem dX0_readHead_41 : decode cX0_readHead 41 = .ok (.aload_n 1, 1) := by decide +kernel
theorem dX0_readHead_42 : decode cX0_readHead 42 = .ok (.iconst 2, 1) := by decide +kernel
theorem dX0_readHead_43 : decode cX0_readHead 43 = .ok (.invokevirtual 113, 3) := by decide +kernel
theorem dX0_readHead_46 : decode cX0_readHead 46 = .ok (.iastore, 1) := by decide +kernel
theorem dX0_readHead_47 : decode cX0_readHead 47 = .ok (.goto 21, 3) := by decide +kernel
theorem dX0_readHead_50 : decode cX0_readHead 50 = .ok (.iload_n 3, 1) := by decide +kernel
theorem dX0_readHead_51 : decode cX0_readHead 51 = .ok (.iconst 1, 1) := by decide +kernel
theorem dX0_readHead_52 : decode cX0_readHead 52 = .ok (.if_icmp .eq 16, 3) := by decide +kernel
theorem dX0_readHead_55 : decode cX0_readHead 55 = .ok (.aload_n 0, 1) := by decide +kernel
theorem dX0_readHead_56 : decode cX0_readHead 56 = .ok (.getfield 25, 3) := by decide +kernel
theorem dX0_readHead_59 : decode cX0_readHead 59 = .ok (.iload_n 2, 1) := by decide +kernel
theorem dX0_readHead_60 : decode cX0_readHead 60 = .ok (.aload_n 1, 1) := by decide +kernel
theorem dX0_readHead_61 : decode cX0_readHead 61 = .ok (.sipush 9999, 3) := by decide +kernel
theorem dX0_readHead_64 : decode cX0_readHead 64 = .ok (.invokevirtual 113, 3) := by decide +kernel
theorem dX0_readHead_67 : decode cX0_readHead 67 = .ok (.iastore, 1) := by decide +kernel
theorem dX0_readHead_68 : decode cX0_readHead 68 = .ok (.iload_n 3, 1) := by decide +kernel
theorem dX0_readHead_69 : decode cX0_readHead 69 = .ok (.iconst 2, 1) := by decide +kernel
theorem dX0_readHead_70 : decode cX0_readHead 70 = .ok (.if_icmp .ne 22, 3) := by decide +kernel
theorem dX0_readHead_73 : decode cX0_readHead 73 = .ok (.aload_n 1, 1) := by decide +kernel
theorem dX0_readHead_74 : decode cX0_readHead 74 = .ok (.ldc 117, 2) := by decide +kernel
theorem dX0_readHead_76 : decode cX0_readHead 76 = .ok (.invokevirtual 119, 3) := by decide +kernel
theorem dX0_readHead_79 : decode cX0_readHead 79 = .ok (.aload_n 0, 1) := by decide +kernel
theorem dX0_readHead_80 : decode cX0_readHead 80 = .ok (.getfield 28, 3) := by decide +kernel
theorem dX0_readHead_83 : decode cX0_readHead 83 = .ok (.iload_n 2, 1) := by decide +kernel
theorem dX0_readHead_84 : decode cX0_readHead 84 = .ok (.aload_n 1, 1) := by decide +kernel
theorem dX0_readHead_85 : decode cX0_readHead 85 = .ok (.sipush 9999, 3) := by decide +kernel
theorem dX0_readHead_88 : decode cX0_readHead 88 = .ok (.invokevirtual 113, 3) := by decide +kernel
theorem dX0_readHead_91 : decode cX0_readHead 91 = .ok (.iastore, 1) := by decide +kernel
theorem dX0_readHead_92 : decode cX0_readHead 92 = .ok (.return_, 1) := by decide +kernel
theorem dX0_factOf_0 : decode cX0_factOf 0 = .ok (.aload_n 0, 1) := by decide +kernel
theorem dX0_factOf_1 : decode cX0_factOf 1 = .ok (.ldc 123, 2) := by decide +kernel
theorem dX0_factOf_3 : decode cX0_factOf 3 = .ok (.invokevirtual 76, 3) := by decide +kernel
theorem dX0_factOf_6 : decode cX0_factOf 6 = .ok (.ifCond .eq 5, 3) := by decide +kernel
theorem dX0_factOf_9 : decode cX0_factOf 9 = .ok (.iconst 0, 1) := by decide +kernel
theorem dX0_factOf_10 : decode cX0_factOf 10 = .ok (.ireturn, 1) := by decide +kernel
theorem dX0_factOf_11 : decode cX0_factOf 11 = .ok (.aload_n 0, 1) := by decide +kernel
theorem dX0_factOf_12 : decode cX0_factOf 12 = .ok (.ldc 125, 2) := by decide +kernel
theorem dX0_factOf_14 : decode cX0_factOf 14 = .ok (.invokevirtual 76, 3) := by decide +kernel
theorem dX0_factOf_17 : decode cX0_factOf 17 = .ok (.ifCond .eq 5, 3) := by decide +kernel
theorem dX0_factOf_20 : decode cX0_factOf 20 = .ok (.iconst 3, 1) := by decide +kernel
theorem dX0_factOf_21 : decode cX0_factOf 21 = .ok (.ireturn, 1) := by decide +kernel
theorem dX0_factOf_22 : decode cX0_factOf 22 = .ok (.aload_n 0, 1) := by decide +kernel
theorem dX0_factOf_23 : decode cX0_factOf 23 = .ok (.ldc 127, 2) := by decide +kernel
theorem dX0_factOf_25 : decode cX0_factOf 25 = .ok (.invokevirtual 76, 3) := by decide +kernel
theorem dX0_factOf_28 : decode cX0_factOf 28 = .ok (.ifCond .eq 5, 3) := by decide +kernel
theorem dX0_factOf_31 : decode cX0_factOf 31 = .ok (.iconst 4, 1) := by decide +kernel
theorem dX0_factOf_32 : decode cX0_factOf 32 = .ok (.ireturn, 1) := by decide +kernel
theorem dX0_factOf_33 : decode cX0_factOf 33 = .ok (.aload_n 0, 1) := by decide +kernel
theorem dX0_factOf_34 : decode cX0_factOf 34 = .ok (.ldc 129, 2) := by decide +kernel
theorem dX0_factOf_36 : decode cX0_factOf 36 = .ok (.invokevirtual 76, 3) := by decide +kernel
theorem dX0_factOf_39 : decode cX0_factOf 39 = .ok (.ifCond .eq 7, 3) := by decide +kernel
theorem dX0_factOf_42 : decode cX0_factOf 42 = .ok (.iconst 5, 1) := by decide +kernel
theorem dX0_factOf_43 : decode cX0_factOf 43 = .ok (.goto 4, 3) := by decide +kernel
theorem dX0_factOf_46 : decode cX0_factOf 46 = .ok (.iconst (-1), 1) := by decide +kernel
theorem dX0_factOf_47 : decode cX0_factOf 47 = .ok (.ireturn, 1) := by decide +kernel
theorem dX0_readCond_0 : decode cX0_readCond 0 = .ok (.aload_n 0, 1) := by decide +kernel
theorem dX0_readCond_1 : decode cX0_readCond 1 = .ok (.getfield 34, 3) := by decide +kernel
theorem dX0_readCond_4 : decode cX0_readCond 4 = .ok (.iload_n 2, 1) := by decide +kernel
theorem dX0_readCond_5 : decode cX0_readCond 5 = .ok (.aload_n 1, 1) := by decide +kernel
theorem dX0_readCond_6 : decode cX0_readCond 6 = .ok (.ldc 98, 2) := by decide +kernel
theorem dX0_readCond_8 : decode cX0_readCond 8 = .ok (.invokevirtual 76, 3) := by decide +kernel
theorem dX0_readCond_11 : decode cX0_readCond 11 = .ok (.bastore, 1) := by decide +kernel
theorem dX0_readCond_12 : decode cX0_readCond 12 = .ok (.aload_n 0, 1) := by decide +kernel
theorem dX0_readCond_13 : decode cX0_readCond 13 = .ok (.getfield 34, 3) := by decide +kernel
theorem dX0_readCond_16 : decode cX0_readCond 16 = .ok (.iload_n 2, 1) := by decide +kernel
theorem dX0_readCond_17 : decode cX0_readCond 17 = .ok (.baload, 1) := by decide +kernel
theorem dX0_readCond_18 : decode cX0_readCond 18 = .ok (.ifCond .eq 7, 3) := by decide +kernel
theorem dX0_readCond_21 : decode cX0_readCond 21 = .ok (.aload_n 1, 1) := by decide +kernel
theorem dX0_readCond_22 : decode cX0_readCond 22 = .ok (.invokevirtual 95, 3) := by decide +kernel
theorem dX0_readCond_25 : decode cX0_readCond 25 = .ok (.aload_n 1, 1) := by decide +kernel
theorem dX0_readCond_26 : decode cX0_readCond 26 = .ok (.invokestatic 100, 3) := by decide +kernel
theorem dX0_readCond_29 : decode cX0_readCond 29 = .ok (.istore_n 3, 1) := by decide +kernel
theorem dX0_readCond_30 : decode cX0_readCond 30 = .ok (.iload_n 3, 1) := by decide +kernel
theorem dX0_readCond_31 : decode cX0_readCond 31 = .ok (.iconst (-1), 1) := by decide +kernel
theorem dX0_readCond_32 : decode cX0_readCond 32 = .ok (.if_icmp .ne 9, 3) := by decide +kernel
theorem dX0_readCond_35 : decode cX0_readCond 35 = .ok (.aload_n 1, 1) := by decide +kernel
theorem dX0_readCond_36 : decode cX0_readCond 36 = .ok (.iconst 1, 1) := by decide +kernel
theorem dX0_readCond_37 : decode cX0_readCond 37 = .ok (.invokevirtual 63, 3) := by decide +kernel
theorem dX0_readCond_40 : decode cX0_readCond 40 = .ok (.return_, 1) := by decide +kernel
theorem dX0_readCond_41 : decode cX0_readCond 41 = .ok (.aload_n 1, 1) := by decide +kernel
theorem dX0_readCond_42 : decode cX0_readCond 42 = .ok (.invokevirtual 95, 3) := by decide +kernel
theorem dX0_readCond_45 : decode cX0_readCond 45 = .ok (.iload_n 3, 1) := by decide +kernel
theorem dX0_readCond_46 : decode cX0_readCond 46 = .ok (.ifCond .ne 9, 3) := by decide +kernel
theorem dX0_readCond_49 : decode cX0_readCond 49 = .ok (.aload_n 1, 1) := by decide +kernel
theorem dX0_readCond_50 : decode cX0_readCond 50 = .ok (.iconst 2, 1) := by decide +kernel
theorem dX0_readCond_51 : decode cX0_readCond 51 = .ok (.invokevirtual 113, 3) := by decide +kernel
theorem dX0_readCond_54 : decode cX0_readCond 54 = .ok (.istore_n 3, 1) := by decide +kernel
theorem dX0_readCond_55 : decode cX0_readCond 55 = .ok (.iload_n 3, 1) := by decide +kernel
theorem dX0_readCond_56 : decode cX0_readCond 56 = .ok (.iconst 5, 1) := by decide +kernel
theorem dX0_readCond_57 : decode cX0_readCond 57 = .ok (.if_icmp .ne 13, 3) := by decide +kernel
theorem dX0_readCond_60 : decode cX0_readCond 60 = .ok (.aload_n 0, 1) := by decide +kernel
theorem dX0_readCond_61 : decode cX0_readCond 61 = .ok (.getfield 18, 3) := by decide +kernel
theorem dX0_readCond_64 : decode cX0_readCond 64 = .ok (.aload_n 0, 1) := by decide +kernel
theorem dX0_readCond_65 : decode cX0_readCond 65 = .ok (.getfield 51, 3) := by decide +kernel
theorem dX0_readCond_68 : decode cX0_readCond 68 = .ok (.iconst 1, 1) := by decide +kernel
theorem dX0_readCond_69 : decode cX0_readCond 69 = .ok (.bastore, 1) := by decide +kernel
theorem dX0_readCond_70 : decode cX0_readCond 70 = .ok (.aload_n 0, 1) := by decide +kernel
theorem dX0_readCond_71 : decode cX0_readCond 71 = .ok (.getfield 37, 3) := by decide +kernel
theorem dX0_readCond_74 : decode cX0_readCond 74 = .ok (.iload_n 2, 1) := by decide +kernel
theorem dX0_readCond_75 : decode cX0_readCond 75 = .ok (.iload_n 3, 1) := by decide +kernel
theorem dX0_readCond_76 : decode cX0_readCond 76 = .ok (.iastore, 1) := by decide +kernel
theorem dX0_readCond_77 : decode cX0_readCond 77 = .ok (.aload_n 0, 1) := by decide +kernel
theorem dX0_readCond_78 : decode cX0_readCond 78 = .ok (.getfield 40, 3) := by decide +kernel
theorem dX0_readCond_81 : decode cX0_readCond 81 = .ok (.iload_n 2, 1) := by decide +kernel
theorem dX0_readCond_82 : decode cX0_readCond 82 = .ok (.aload_n 1, 1) := by decide +kernel
theorem dX0_readCond_83 : decode cX0_readCond 83 = .ok (.bipush 60, 2) := by decide +kernel
theorem dX0_readCond_85 : decode cX0_readCond 85 = .ok (.invokevirtual 131, 3) := by decide +kernel
theorem dX0_readCond_88 : decode cX0_readCond 88 = .ok (.ifCond .eq 7, 3) := by decide +kernel
theorem dX0_readCond_91 : decode cX0_readCond 91 = .ok (.iconst (-1), 1) := by decide +kernel
theorem dX0_readCond_92 : decode cX0_readCond 92 = .ok (.goto 17, 3) := by decide +kernel
theorem dX0_readCond_95 : decode cX0_readCond 95 = .ok (.aload_n 1, 1) := by decide +kernel
theorem dX0_readCond_96 : decode cX0_readCond 96 = .ok (.bipush 62, 2) := by decide +kernel
theorem dX0_readCond_98 : decode cX0_readCond 98 = .ok (.invokevirtual 131, 3) := by decide +kernel
theorem dX0_readCond_101 : decode cX0_readCond 101 = .ok (.ifCond .eq 7, 3) := by decide +kernel
theorem dX0_readCond_104 : decode cX0_readCond 104 = .ok (.iconst 1, 1) := by decide +kernel
theorem dX0_readCond_105 : decode cX0_readCond 105 = .ok (.goto 4, 3) := by decide +kernel
theorem dX0_readCond_108 : decode cX0_readCond 108 = .ok (.iconst 0, 1) := by decide +kernel
theorem dX0_readCond_109 : decode cX0_readCond 109 = .ok (.iastore, 1) := by decide +kernel
theorem dX0_readCond_110 : decode cX0_readCond 110 = .ok (.aload_n 1, 1) := by decide +kernel
theorem dX0_readCond_111 : decode cX0_readCond 111 = .ok (.aload_n 0, 1) := by decide +kernel
theorem dX0_readCond_112 : decode cX0_readCond 112 = .ok (.getfield 40, 3) := by decide +kernel
theorem dX0_readCond_115 : decode cX0_readCond 115 = .ok (.iload_n 2, 1) := by decide +kernel
theorem dX0_readCond_116 : decode cX0_readCond 116 = .ok (.iaload, 1) := by decide +kernel
theorem dX0_readCond_117 : decode cX0_readCond 117 = .ok (.ifCond .ge 8, 3) := by decide +kernel
theorem dX0_readCond_120 : decode cX0_readCond 120 = .ok (.bipush 60, 2) := by decide +kernel
theorem dX0_readCond_122 : decode cX0_readCond 122 = .ok (.goto 19, 3) := by decide +kernel
theorem dX0_readCond_125 : decode cX0_readCond 125 = .ok (.aload_n 0, 1) := by decide +kernel
theorem dX0_readCond_126 : decode cX0_readCond 126 = .ok (.getfield 40, 3) := by decide +kernel
theorem dX0_readCond_129 : decode cX0_readCond 129 = .ok (.iload_n 2, 1) := by decide +kernel
theorem dX0_readCond_130 : decode cX0_readCond 130 = .ok (.iaload, 1) := by decide +kernel
theorem dX0_readCond_131 : decode cX0_readCond 131 = .ok (.ifCond .le 8, 3) := by decide +kernel
theorem dX0_readCond_134 : decode cX0_readCond 134 = .ok (.bipush 62, 2) := by decide +kernel
theorem dX0_readCond_136 : decode cX0_readCond 136 = .ok (.goto 5, 3) := by decide +kernel
theorem dX0_readCond_139 : decode cX0_readCond 139 = .ok (.bipush 61, 2) := by decide +kernel
theorem dX0_readCond_141 : decode cX0_readCond 141 = .ok (.invokevirtual 109, 3) := by decide +kernel
theorem dX0_readCond_144 : decode cX0_readCond 144 = .ok (.aload_n 0, 1) := by decide +kernel
theorem dX0_readCond_145 : decode cX0_readCond 145 = .ok (.getfield 43, 3) := by decide +kernel
theorem dX0_readCond_148 : decode cX0_readCond 148 = .ok (.iload_n 2, 1) := by decide +kernel
theorem dX0_readCond_149 : decode cX0_readCond 149 = .ok (.aload_n 1, 1) := by decide +kernel
theorem dX0_readCond_150 : decode cX0_readCond 150 = .ok (.sipush 9999, 3) := by decide +kernel
theorem dX0_readCond_153 : decode cX0_readCond 153 = .ok (.invokevirtual 113, 3) := by decide +kernel
theorem dX0_readCond_156 : decode cX0_readCond 156 = .ok (.iastore, 1) := by decide +kernel
theorem dX0_readCond_157 : decode cX0_readCond 157 = .ok (.return_, 1) := by decide +kernel
theorem dX0_inForce_0 : decode cX0_inForce 0 = .ok (.aload_n 0, 1) := by decide +kernel
theorem dX0_inForce_1 : decode cX0_inForce 1 = .ok (.getfield 51, 3) := by decide +kernel
theorem dX0_inForce_4 : decode cX0_inForce 4 = .ok (.iconst 1, 1) := by decide +kernel
theorem dX0_inForce_5 : decode cX0_inForce 5 = .ok (.isub, 1) := by decide +kernel
theorem dX0_inForce_6 : decode cX0_inForce 6 = .ok (.istore_n 2, 1) := by decide +kernel
theorem dX0_inForce_7 : decode cX0_inForce 7 = .ok (.iload_n 2, 1) := by decide +kernel
theorem dX0_inForce_8 : decode cX0_inForce 8 = .ok (.ifCond .lt 21, 3) := by decide +kernel
theorem dX0_inForce_11 : decode cX0_inForce 11 = .ok (.aload_n 0, 1) := by decide +kernel
theorem dX0_inForce_12 : decode cX0_inForce 12 = .ok (.getfield 11, 3) := by decide +kernel
theorem dX0_inForce_15 : decode cX0_inForce 15 = .ok (.iload_n 2, 1) := by decide +kernel
theorem dX0_inForce_16 : decode cX0_inForce 16 = .ok (.iaload, 1) := by decide +kernel
theorem dX0_inForce_17 : decode cX0_inForce 17 = .ok (.iload_n 1, 1) := by decide +kernel
theorem dX0_inForce_18 : decode cX0_inForce 18 = .ok (.if_icmp .gt 5, 3) := by decide +kernel
theorem dX0_inForce_21 : decode cX0_inForce 21 = .ok (.iload_n 2, 1) := by decide +kernel
theorem dX0_inForce_22 : decode cX0_inForce 22 = .ok (.ireturn, 1) := by decide +kernel
theorem dX0_inForce_23 : decode cX0_inForce 23 = .ok (.iinc 2 (-1), 3) := by decide +kernel
theorem dX0_inForce_26 : decode cX0_inForce 26 = .ok (.goto (-19), 3) := by decide +kernel
theorem dX0_inForce_29 : decode cX0_inForce 29 = .ok (.iconst (-1), 1) := by decide +kernel
theorem dX0_inForce_30 : decode cX0_inForce 30 = .ok (.ireturn, 1) := by decide +kernel
theorem dX0_dependsOnYear_0 : decode cX0_dependsOnYear 0 = .ok (.iload_n 1, 1) := by decide +kernel
theorem dX0_dependsOnYear_1 : decode cX0_dependsOnYear 1 = .ok (.iconst (-1), 1) := by decide +kernel
theorem dX0_dependsOnYear_2 : decode cX0_dependsOnYear 2 = .ok (.if_icmp .eq 16, 3) := by decide +kernel
theorem dX0_dependsOnYear_5 : decode cX0_dependsOnYear 5 = .ok (.aload_n 0, 1) := by decide +kernel
theorem dX0_dependsOnYear_6 : decode cX0_dependsOnYear 6 = .ok (.getfield 18, 3) := by decide +kernel
theorem dX0_dependsOnYear_9 : decode cX0_dependsOnYear 9 = .ok (.iload_n 1, 1) := by decide +kernel
theorem dX0_dependsOnYear_10 : decode cX0_dependsOnYear 10 = .ok (.baload, 1) := by decide +kernel
theorem dX0_dependsOnYear_11 : decode cX0_dependsOnYear 11 = .ok (.ifCond .eq 7, 3) := by decide +kernel
theorem dX0_dependsOnYear_14 : decode cX0_dependsOnYear 14 = .ok (.iconst 1, 1) := by decide +kernel
theorem dX0_dependsOnYear_15 : decode cX0_dependsOnYear 15 = .ok (.goto 4, 3) := by decide +kernel
theorem dX0_dependsOnYear_18 : decode cX0_dependsOnYear 18 = .ok (.iconst 0, 1) := by decide +kernel
theorem dX0_dependsOnYear_19 : decode cX0_dependsOnYear 19 = .ok (.ireturn, 1) := by decide +kernel
theorem dX0_firstHolding_0 : decode cX0_firstHolding 0 = .ok (.iload_n 1, 1) := by decide +kernel
theorem dX0_firstHolding_1 : decode cX0_firstHolding 1 = .ok (.iconst (-1), 1) := by decide +kernel
theorem dX0_firstHolding_2 : decode cX0_firstHolding 2 = .ok (.if_icmp .ne 5, 3) := by decide +kernel
theorem dX0_firstHolding_5 : decode cX0_firstHolding 5 = .ok (.iconst (-1), 1) := by decide +kernel
theorem dX0_firstHolding_6 : decode cX0_firstHolding 6 = .ok (.ireturn, 1) := by decide +kernel
theorem dX0_firstHolding_7 : decode cX0_firstHolding 7 = .ok (.iload_n 1, 1) := by decide +kernel
theorem dX0_firstHolding_8 : decode cX0_firstHolding 8 = .ok (.bipush 12, 2) := by decide +kernel
theorem dX0_firstHolding_10 : decode cX0_firstHolding 10 = .ok (.imul, 1) := by decide +kernel
theorem dX0_firstHolding_11 : decode cX0_firstHolding 11 = .ok (.istore 4, 2) := by decide +kernel
theorem dX0_firstHolding_13 : decode cX0_firstHolding 13 = .ok (.iload 4, 2) := by decide +kernel
theorem dX0_firstHolding_15 : decode cX0_firstHolding 15 = .ok (.istore 5, 2) := by decide +kernel
theorem dX0_firstHolding_17 : decode cX0_firstHolding 17 = .ok (.iload 5, 2) := by decide +kernel
theorem dX0_firstHolding_19 : decode cX0_firstHolding 19 = .ok (.iload 4, 2) := by decide +kernel
theorem dX0_firstHolding_21 : decode cX0_firstHolding 21 = .ok (.aload_n 0, 1) := by decide +kernel
theorem dX0_firstHolding_22 : decode cX0_firstHolding 22 = .ok (.getfield 15, 3) := by decide +kernel
theorem dX0_firstHolding_25 : decode cX0_firstHolding 25 = .ok (.iload_n 1, 1) := by decide +kernel
theorem dX0_firstHolding_26 : decode cX0_firstHolding 26 = .ok (.iaload, 1) := by decide +kernel
theorem dX0_firstHolding_27 : decode cX0_firstHolding 27 = .ok (.iadd, 1) := by decide +kernel
theorem dX0_firstHolding_28 : decode cX0_firstHolding 28 = .ok (.if_icmp .ge 33, 3) := by decide +kernel
theorem dX0_firstHolding_31 : decode cX0_firstHolding 31 = .ok (.aload_n 0, 1) := by decide +kernel
theorem dX0_firstHolding_32 : decode cX0_firstHolding 32 = .ok (.getfield 22, 3) := by decide +kernel
theorem dX0_firstHolding_35 : decode cX0_firstHolding 35 = .ok (.iload 5, 2) := by decide +kernel
theorem dX0_firstHolding_37 : decode cX0_firstHolding 37 = .ok (.iaload, 1) := by decide +kernel
theorem dX0_firstHolding_38 : decode cX0_firstHolding 38 = .ok (.iload_n 2, 1) := by decide +kernel
theorem dX0_firstHolding_39 : decode cX0_firstHolding 39 = .ok (.if_icmp .ne 16, 3) := by decide +kernel
theorem dX0_firstHolding_42 : decode cX0_firstHolding 42 = .ok (.aload_n 0, 1) := by decide +kernel
theorem dX0_firstHolding_43 : decode cX0_firstHolding 43 = .ok (.iload 5, 2) := by decide +kernel
theorem dX0_firstHolding_45 : decode cX0_firstHolding 45 = .ok (.aload_n 3, 1) := by decide +kernel
theorem dX0_firstHolding_46 : decode cX0_firstHolding 46 = .ok (.invokevirtual 135, 3) := by decide +kernel
theorem dX0_firstHolding_49 : decode cX0_firstHolding 49 = .ok (.ifCond .eq 6, 3) := by decide +kernel
theorem dX0_firstHolding_52 : decode cX0_firstHolding 52 = .ok (.iload 5, 2) := by decide +kernel
theorem dX0_firstHolding_54 : decode cX0_firstHolding 54 = .ok (.ireturn, 1) := by decide +kernel
theorem dX0_firstHolding_55 : decode cX0_firstHolding 55 = .ok (.iinc 5 1, 3) := by decide +kernel
theorem dX0_firstHolding_58 : decode cX0_firstHolding 58 = .ok (.goto (-41), 3) := by decide +kernel
theorem dX0_firstHolding_61 : decode cX0_firstHolding 61 = .ok (.iconst (-1), 1) := by decide +kernel
theorem dX0_firstHolding_62 : decode cX0_firstHolding 62 = .ok (.ireturn, 1) := by decide +kernel
theorem dX0_holds_0 : decode cX0_holds 0 = .ok (.iload_n 1, 1) := by decide +kernel
theorem dX0_holds_1 : decode cX0_holds 1 = .ok (.iconst 4, 1) := by decide +kernel
theorem dX0_holds_2 : decode cX0_holds 2 = .ok (.imul, 1) := by decide +kernel
theorem dX0_holds_3 : decode cX0_holds 3 = .ok (.istore_n 3, 1) := by decide +kernel
theorem dX0_holds_4 : decode cX0_holds 4 = .ok (.iload_n 3, 1) := by decide +kernel
theorem dX0_holds_5 : decode cX0_holds 5 = .ok (.istore 4, 2) := by decide +kernel
theorem dX0_holds_7 : decode cX0_holds 7 = .ok (.iload 4, 2) := by decide +kernel
theorem dX0_holds_9 : decode cX0_holds 9 = .ok (.iload_n 3, 1) := by decide +kernel
theorem dX0_holds_10 : decode cX0_holds 10 = .ok (.aload_n 0, 1) := by decide +kernel
theorem dX0_holds_11 : decode cX0_holds 11 = .ok (.getfield 31, 3) := by decide +kernel
theorem dX0_holds_14 : decode cX0_holds 14 = .ok (.iload_n 1, 1) := by decide +kernel
theorem dX0_holds_15 : decode cX0_holds 15 = .ok (.iaload, 1) := by decide +kernel
theorem dX0_holds_16 : decode cX0_holds 16 = .ok (.iadd, 1) := by decide +kernel
theorem dX0_holds_17 : decode cX0_holds 17 = .ok (.if_icmp .ge 84, 3) := by decide +kernel
theorem dX0_holds_20 : decode cX0_holds 20 = .ok (.aload_n 2, 1) := by decide +kernel
theorem dX0_holds_21 : decode cX0_holds 21 = .ok (.aload_n 0, 1) := by decide +kernel
theorem dX0_holds_22 : decode cX0_holds 22 = .ok (.getfield 37, 3) := by decide +kernel
theorem dX0_holds_25 : decode cX0_holds 25 = .ok (.iload 4, 2) := by decide +kernel
theorem dX0_holds_27 : decode cX0_holds 27 = .ok (.iaload, 1) := by decide +kernel
theorem dX0_holds_28 : decode cX0_holds 28 = .ok (.iaload, 1) := by decide +kernel
theorem dX0_holds_29 : decode cX0_holds 29 = .ok (.istore 5, 2) := by decide +kernel
theorem dX0_holds_31 : decode cX0_holds 31 = .ok (.iload 5, 2) := by decide +kernel
theorem dX0_holds_33 : decode cX0_holds 33 = .ok (.aload_n 0, 1) := by decide +kernel
theorem dX0_holds_34 : decode cX0_holds 34 = .ok (.getfield 43, 3) := by decide +kernel
theorem dX0_holds_37 : decode cX0_holds 37 = .ok (.iload 4, 2) := by decide +kernel
theorem dX0_holds_39 : decode cX0_holds 39 = .ok (.iaload, 1) := by decide +kernel
theorem dX0_holds_40 : decode cX0_holds 40 = .ok (.if_icmp .ge 7, 3) := by decide +kernel
theorem dX0_holds_43 : decode cX0_holds 43 = .ok (.iconst (-1), 1) := by decide +kernel
theorem dX0_holds_44 : decode cX0_holds 44 = .ok (.goto 20, 3) := by decide +kernel
theorem dX0_holds_47 : decode cX0_holds 47 = .ok (.iload 5, 2) := by decide +kernel
theorem dX0_holds_49 : decode cX0_holds 49 = .ok (.aload_n 0, 1) := by decide +kernel
theorem dX0_holds_50 : decode cX0_holds 50 = .ok (.getfield 43, 3) := by decide +kernel
theorem dX0_holds_53 : decode cX0_holds 53 = .ok (.iload 4, 2) := by decide +kernel
theorem dX0_holds_55 : decode cX0_holds 55 = .ok (.iaload, 1) := by decide +kernel
theorem dX0_holds_56 : decode cX0_holds 56 = .ok (.if_icmp .le 7, 3) := by decide +kernel
theorem dX0_holds_59 : decode cX0_holds 59 = .ok (.iconst 1, 1) := by decide +kernel
theorem dX0_holds_60 : decode cX0_holds 60 = .ok (.goto 4, 3) := by decide +kernel
theorem dX0_holds_63 : decode cX0_holds 63 = .ok (.iconst 0, 1) := by decide +kernel
theorem dX0_holds_64 : decode cX0_holds 64 = .ok (.istore 6, 2) := by decide +kernel
theorem dX0_holds_66 : decode cX0_holds 66 = .ok (.iload 6, 2) := by decide +kernel
theorem dX0_holds_68 : decode cX0_holds 68 = .ok (.aload_n 0, 1) := by decide +kernel
theorem dX0_holds_69 : decode cX0_holds 69 = .ok (.getfield 40, 3) := by decide +kernel
theorem dX0_holds_72 : decode cX0_holds 72 = .ok (.iload 4, 2) := by decide +kernel
theorem dX0_holds_74 : decode cX0_holds 74 = .ok (.iaload, 1) := by decide +kernel
theorem dX0_holds_75 : decode cX0_holds 75 = .ok (.if_icmp .ne 7, 3) := by decide +kernel
theorem dX0_holds_78 : decode cX0_holds 78 = .ok (.iconst 1, 1) := by decide +kernel
theorem dX0_holds_79 : decode cX0_holds 79 = .ok (.goto 4, 3) := by decide +kernel
theorem dX0_holds_82 : decode cX0_holds 82 = .ok (.iconst 0, 1) := by decide +kernel
theorem dX0_holds_83 : decode cX0_holds 83 = .ok (.aload_n 0, 1) := by decide +kernel
theorem dX0_holds_84 : decode cX0_holds 84 = .ok (.getfield 34, 3) := by decide +kernel
theorem dX0_holds_87 : decode cX0_holds 87 = .ok (.iload 4, 2) := by decide +kernel
theorem dX0_holds_89 : decode cX0_holds 89 = .ok (.baload, 1) := by decide +kernel
theorem dX0_holds_90 : decode cX0_holds 90 = .ok (.if_icmp .ne 5, 3) := by decide +kernel
theorem dX0_holds_93 : decode cX0_holds 93 = .ok (.iconst 0, 1) := by decide +kernel
theorem dX0_holds_94 : decode cX0_holds 94 = .ok (.ireturn, 1) := by decide +kernel
theorem dX0_holds_95 : decode cX0_holds 95 = .ok (.iinc 4 1, 3) := by decide +kernel
theorem dX0_holds_98 : decode cX0_holds 98 = .ok (.goto (-91), 3) := by decide +kernel
theorem dX0_holds_101 : decode cX0_holds 101 = .ok (.iconst 1, 1) := by decide +kernel
theorem dX0_holds_102 : decode cX0_holds 102 = .ok (.ireturn, 1) := by decide +kernel
theorem dX0_lastLine_0 : decode cX0_lastLine 0 = .ok (.iload_n 1, 1) := by decide +kernel
theorem dX0_lastLine_1 : decode cX0_lastLine 1 = .ok (.iconst (-1), 1) := by decide +kernel
theorem dX0_lastLine_2 : decode cX0_lastLine 2 = .ok (.if_icmp .ne 5, 3) := by decide +kernel
theorem dX0_lastLine_5 : decode cX0_lastLine 5 = .ok (.iconst (-1), 1) := by decide +kernel
theorem dX0_lastLine_6 : decode cX0_lastLine 6 = .ok (.ireturn, 1) := by decide +kernel
theorem dX0_lastLine_7 : decode cX0_lastLine 7 = .ok (.iload_n 1, 1) := by decide +kernel
theorem dX0_lastLine_8 : decode cX0_lastLine 8 = .ok (.bipush 12, 2) := by decide +kernel
theorem dX0_lastLine_10 : decode cX0_lastLine 10 = .ok (.imul, 1) := by decide +kernel
theorem dX0_lastLine_11 : decode cX0_lastLine 11 = .ok (.aload_n 0, 1) := by decide +kernel
theorem dX0_lastLine_12 : decode cX0_lastLine 12 = .ok (.getfield 15, 3) := by decide +kernel
theorem dX0_lastLine_15 : decode cX0_lastLine 15 = .ok (.iload_n 1, 1) := by decide +kernel
theorem dX0_lastLine_16 : decode cX0_lastLine 16 = .ok (.iaload, 1) := by decide +kernel
theorem dX0_lastLine_17 : decode cX0_lastLine 17 = .ok (.iadd, 1) := by decide +kernel
theorem dX0_lastLine_18 : decode cX0_lastLine 18 = .ok (.iconst 1, 1) := by decide +kernel
theorem dX0_lastLine_19 : decode cX0_lastLine 19 = .ok (.isub, 1) := by decide +kernel
theorem dX0_lastLine_20 : decode cX0_lastLine 20 = .ok (.istore_n 3, 1) := by decide +kernel
theorem dX0_lastLine_21 : decode cX0_lastLine 21 = .ok (.iload_n 3, 1) := by decide +kernel
theorem dX0_lastLine_22 : decode cX0_lastLine 22 = .ok (.iload_n 1, 1) := by decide +kernel
theorem dX0_lastLine_23 : decode cX0_lastLine 23 = .ok (.bipush 12, 2) := by decide +kernel
theorem dX0_lastLine_25 : decode cX0_lastLine 25 = .ok (.imul, 1) := by decide +kernel
theorem dX0_lastLine_26 : decode cX0_lastLine 26 = .ok (.if_icmp .lt 21, 3) := by decide +kernel
theorem dX0_lastLine_29 : decode cX0_lastLine 29 = .ok (.aload_n 0, 1) := by decide +kernel
theorem dX0_lastLine_30 : decode cX0_lastLine 30 = .ok (.getfield 22, 3) := by decide +kernel
theorem dX0_lastLine_33 : decode cX0_lastLine 33 = .ok (.iload_n 3, 1) := by decide +kernel
theorem dX0_lastLine_34 : decode cX0_lastLine 34 = .ok (.iaload, 1) := by decide +kernel
theorem dX0_lastLine_35 : decode cX0_lastLine 35 = .ok (.iload_n 2, 1) := by decide +kernel
theorem dX0_lastLine_36 : decode cX0_lastLine 36 = .ok (.if_icmp .ne 5, 3) := by decide +kernel
theorem dX0_lastLine_39 : decode cX0_lastLine 39 = .ok (.iload_n 3, 1) := by decide +kernel
theorem dX0_lastLine_40 : decode cX0_lastLine 40 = .ok (.ireturn, 1) := by decide +kernel
theorem dX0_lastLine_41 : decode cX0_lastLine 41 = .ok (.iinc 3 (-1), 3) := by decide +kernel
theorem dX0_lastLine_44 : decode cX0_lastLine 44 = .ok (.goto (-23), 3) := by decide +kernel
theorem dX0_lastLine_47 : decode cX0_lastLine 47 = .ok (.iconst (-1), 1) := by decide +kernel
theorem dX0_lastLine_48 : decode cX0_lastLine 48 = .ok (.ireturn, 1) := by decide +kernel
theorem dX0_numberOf_0 : decode cX0_numberOf 0 = .ok (.aload_n 0, 1) := by decide +kernel
theorem dX0_numberOf_1 : decode cX0_numberOf 1 = .ok (.iload_n 1, 1) := by decide +kernel
theorem dX0_numberOf_2 : decode cX0_numberOf 2 = .ok (.iload_n 2, 1) := by decide +kernel
theorem dX0_numberOf_3 : decode cX0_numberOf 3 = .ok (.invokevirtual 139, 3) := by decide +kernel
theorem dX0_numberOf_6 : decode cX0_numberOf 6 = .ok (.istore 4, 2) := by decide +kernel
theorem dX0_numberOf_8 : decode cX0_numberOf 8 = .ok (.iload 4, 2) := by decide +kernel
theorem dX0_numberOf_10 : decode cX0_numberOf 10 = .ok (.iconst (-1), 1) := by decide +kernel
theorem dX0_numberOf_11 : decode cX0_numberOf 11 = .ok (.if_icmp .ne 7, 3) := by decide +kernel
theorem dX0_numberOf_14 : decode cX0_numberOf 14 = .ok (.iload_n 3, 1) := by decide +kernel
theorem dX0_numberOf_15 : decode cX0_numberOf 15 = .ok (.goto 10, 3) := by decide +kernel
theorem dX0_numberOf_18 : decode cX0_numberOf 18 = .ok (.aload_n 0, 1) := by decide +kernel
theorem dX0_numberOf_19 : decode cX0_numberOf 19 = .ok (.getfield 25, 3) := by decide +kernel
theorem dX0_numberOf_22 : decode cX0_numberOf 22 = .ok (.iload 4, 2) := by decide +kernel
theorem dX0_numberOf_24 : decode cX0_numberOf 24 = .ok (.iaload, 1) := by decide +kernel
theorem dX0_numberOf_25 : decode cX0_numberOf 25 = .ok (.ireturn, 1) := by decide +kernel
theorem dX0_copyFrom_0 : decode cX0_copyFrom 0 = .ok (.aload_n 0, 1) := by decide +kernel
theorem dX0_copyFrom_1 : decode cX0_copyFrom 1 = .ok (.aload_n 1, 1) := by decide +kernel
theorem dX0_copyFrom_2 : decode cX0_copyFrom 2 = .ok (.getfield 51, 3) := by decide +kernel
theorem dX0_copyFrom_5 : decode cX0_copyFrom 5 = .ok (.putfield 51, 3) := by decide +kernel
theorem dX0_copyFrom_8 : decode cX0_copyFrom 8 = .ok (.aload_n 1, 1) := by decide +kernel
theorem dX0_copyFrom_9 : decode cX0_copyFrom 9 = .ok (.getfield 11, 3) := by decide +kernel
theorem dX0_copyFrom_12 : decode cX0_copyFrom 12 = .ok (.iconst 0, 1) := by decide +kernel
theorem dX0_copyFrom_13 : decode cX0_copyFrom 13 = .ok (.aload_n 0, 1) := by decide +kernel
theorem dX0_copyFrom_14 : decode cX0_copyFrom 14 = .ok (.getfield 11, 3) := by decide +kernel
theorem dX0_copyFrom_17 : decode cX0_copyFrom 17 = .ok (.iconst 0, 1) := by decide +kernel
theorem dX0_copyFrom_18 : decode cX0_copyFrom 18 = .ok (.aload_n 0, 1) := by decide +kernel
theorem dX0_copyFrom_19 : decode cX0_copyFrom 19 = .ok (.getfield 51, 3) := by decide +kernel
theorem dX0_copyFrom_22 : decode cX0_copyFrom 22 = .ok (.invokestatic 143, 3) := by decide +kernel
theorem dX0_copyFrom_25 : decode cX0_copyFrom 25 = .ok (.aload_n 1, 1) := by decide +kernel
theorem dX0_copyFrom_26 : decode cX0_copyFrom 26 = .ok (.getfield 15, 3) := by decide +kernel
theorem dX0_copyFrom_29 : decode cX0_copyFrom 29 = .ok (.iconst 0, 1) := by decide +kernel
theorem dX0_copyFrom_30 : decode cX0_copyFrom 30 = .ok (.aload_n 0, 1) := by decide +kernel
theorem dX0_copyFrom_31 : decode cX0_copyFrom 31 = .ok (.getfield 15, 3) := by decide +kernel
theorem dX0_copyFrom_34 : decode cX0_copyFrom 34 = .ok (.iconst 0, 1) := by decide +kernel
theorem dX0_copyFrom_35 : decode cX0_copyFrom 35 = .ok (.aload_n 0, 1) := by decide +kernel
theorem dX0_copyFrom_36 : decode cX0_copyFrom 36 = .ok (.getfield 51, 3) := by decide +kernel
theorem dX0_copyFrom_39 : decode cX0_copyFrom 39 = .ok (.invokestatic 143, 3) := by decide +kernel
theorem dX0_copyFrom_42 : decode cX0_copyFrom 42 = .ok (.aload_n 1, 1) := by decide +kernel
theorem dX0_copyFrom_43 : decode cX0_copyFrom 43 = .ok (.getfield 18, 3) := by decide +kernel
theorem dX0_copyFrom_46 : decode cX0_copyFrom 46 = .ok (.aload_n 0, 1) := by decide +kernel
theorem dX0_copyFrom_47 : decode cX0_copyFrom 47 = .ok (.getfield 18, 3) := by decide +kernel
theorem dX0_copyFrom_50 : decode cX0_copyFrom 50 = .ok (.aload_n 0, 1) := by decide +kernel
theorem dX0_copyFrom_51 : decode cX0_copyFrom 51 = .ok (.getfield 51, 3) := by decide +kernel
theorem dX0_copyFrom_54 : decode cX0_copyFrom 54 = .ok (.invokestatic 149, 3) := by decide +kernel
theorem dX0_copyFrom_57 : decode cX0_copyFrom 57 = .ok (.aload_n 0, 1) := by decide +kernel
theorem dX0_copyFrom_58 : decode cX0_copyFrom 58 = .ok (.getfield 51, 3) := by decide +kernel
theorem dX0_copyFrom_61 : decode cX0_copyFrom 61 = .ok (.bipush 12, 2) := by decide +kernel
theorem dX0_copyFrom_63 : decode cX0_copyFrom 63 = .ok (.imul, 1) := by decide +kernel
theorem dX0_copyFrom_64 : decode cX0_copyFrom 64 = .ok (.istore_n 2, 1) := by decide +kernel
theorem dX0_copyFrom_65 : decode cX0_copyFrom 65 = .ok (.aload_n 1, 1) := by decide +kernel
theorem dX0_copyFrom_66 : decode cX0_copyFrom 66 = .ok (.getfield 22, 3) := by decide +kernel
theorem dX0_copyFrom_69 : decode cX0_copyFrom 69 = .ok (.iconst 0, 1) := by decide +kernel
theorem dX0_copyFrom_70 : decode cX0_copyFrom 70 = .ok (.aload_n 0, 1) := by decide +kernel
theorem dX0_copyFrom_71 : decode cX0_copyFrom 71 = .ok (.getfield 22, 3) := by decide +kernel
theorem dX0_copyFrom_74 : decode cX0_copyFrom 74 = .ok (.iconst 0, 1) := by decide +kernel
theorem dX0_copyFrom_75 : decode cX0_copyFrom 75 = .ok (.iload_n 2, 1) := by decide +kernel
theorem dX0_copyFrom_76 : decode cX0_copyFrom 76 = .ok (.invokestatic 143, 3) := by decide +kernel
theorem dX0_copyFrom_79 : decode cX0_copyFrom 79 = .ok (.aload_n 1, 1) := by decide +kernel
theorem dX0_copyFrom_80 : decode cX0_copyFrom 80 = .ok (.getfield 25, 3) := by decide +kernel
theorem dX0_copyFrom_83 : decode cX0_copyFrom 83 = .ok (.iconst 0, 1) := by decide +kernel
theorem dX0_copyFrom_84 : decode cX0_copyFrom 84 = .ok (.aload_n 0, 1) := by decide +kernel
theorem dX0_copyFrom_85 : decode cX0_copyFrom 85 = .ok (.getfield 25, 3) := by decide +kernel
theorem dX0_copyFrom_88 : decode cX0_copyFrom 88 = .ok (.iconst 0, 1) := by decide +kernel
theorem dX0_copyFrom_89 : decode cX0_copyFrom 89 = .ok (.iload_n 2, 1) := by decide +kernel
theorem dX0_copyFrom_90 : decode cX0_copyFrom 90 = .ok (.invokestatic 143, 3) := by decide +kernel
theorem dX0_copyFrom_93 : decode cX0_copyFrom 93 = .ok (.aload_n 1, 1) := by decide +kernel
theorem dX0_copyFrom_94 : decode cX0_copyFrom 94 = .ok (.getfield 28, 3) := by decide +kernel
theorem dX0_copyFrom_97 : decode cX0_copyFrom 97 = .ok (.iconst 0, 1) := by decide +kernel
theorem dX0_copyFrom_98 : decode cX0_copyFrom 98 = .ok (.aload_n 0, 1) := by decide +kernel
theorem dX0_copyFrom_99 : decode cX0_copyFrom 99 = .ok (.getfield 28, 3) := by decide +kernel
theorem dX0_copyFrom_102 : decode cX0_copyFrom 102 = .ok (.iconst 0, 1) := by decide +kernel
theorem dX0_copyFrom_103 : decode cX0_copyFrom 103 = .ok (.iload_n 2, 1) := by decide +kernel
theorem dX0_copyFrom_104 : decode cX0_copyFrom 104 = .ok (.invokestatic 143, 3) := by decide +kernel
theorem dX0_copyFrom_107 : decode cX0_copyFrom 107 = .ok (.aload_n 1, 1) := by decide +kernel
theorem dX0_copyFrom_108 : decode cX0_copyFrom 108 = .ok (.getfield 31, 3) := by decide +kernel
theorem dX0_copyFrom_111 : decode cX0_copyFrom 111 = .ok (.iconst 0, 1) := by decide +kernel
theorem dX0_copyFrom_112 : decode cX0_copyFrom 112 = .ok (.aload_n 0, 1) := by decide +kernel
theorem dX0_copyFrom_113 : decode cX0_copyFrom 113 = .ok (.getfield 31, 3) := by decide +kernel
theorem dX0_copyFrom_116 : decode cX0_copyFrom 116 = .ok (.iconst 0, 1) := by decide +kernel
theorem dX0_copyFrom_117 : decode cX0_copyFrom 117 = .ok (.iload_n 2, 1) := by decide +kernel
theorem dX0_copyFrom_118 : decode cX0_copyFrom 118 = .ok (.invokestatic 143, 3) := by decide +kernel
theorem dX0_copyFrom_121 : decode cX0_copyFrom 121 = .ok (.aload_n 1, 1) := by decide +kernel
theorem dX0_copyFrom_122 : decode cX0_copyFrom 122 = .ok (.getfield 34, 3) := by decide +kernel
theorem dX0_copyFrom_125 : decode cX0_copyFrom 125 = .ok (.aload_n 0, 1) := by decide +kernel
theorem dX0_copyFrom_126 : decode cX0_copyFrom 126 = .ok (.getfield 34, 3) := by decide +kernel
theorem dX0_copyFrom_129 : decode cX0_copyFrom 129 = .ok (.iload_n 2, 1) := by decide +kernel
theorem dX0_copyFrom_130 : decode cX0_copyFrom 130 = .ok (.iconst 4, 1) := by decide +kernel
theorem dX0_copyFrom_131 : decode cX0_copyFrom 131 = .ok (.imul, 1) := by decide +kernel
theorem dX0_copyFrom_132 : decode cX0_copyFrom 132 = .ok (.invokestatic 149, 3) := by decide +kernel
theorem dX0_copyFrom_135 : decode cX0_copyFrom 135 = .ok (.aload_n 1, 1) := by decide +kernel
theorem dX0_copyFrom_136 : decode cX0_copyFrom 136 = .ok (.getfield 37, 3) := by decide +kernel
theorem dX0_copyFrom_139 : decode cX0_copyFrom 139 = .ok (.iconst 0, 1) := by decide +kernel
theorem dX0_copyFrom_140 : decode cX0_copyFrom 140 = .ok (.aload_n 0, 1) := by decide +kernel
theorem dX0_copyFrom_141 : decode cX0_copyFrom 141 = .ok (.getfield 37, 3) := by decide +kernel
theorem dX0_copyFrom_144 : decode cX0_copyFrom 144 = .ok (.iconst 0, 1) := by decide +kernel
theorem dX0_copyFrom_145 : decode cX0_copyFrom 145 = .ok (.iload_n 2, 1) := by decide +kernel
theorem dX0_copyFrom_146 : decode cX0_copyFrom 146 = .ok (.iconst 4, 1) := by decide +kernel
theorem dX0_copyFrom_147 : decode cX0_copyFrom 147 = .ok (.imul, 1) := by decide +kernel
theorem dX0_copyFrom_148 : decode cX0_copyFrom 148 = .ok (.invokestatic 143, 3) := by decide +kernel
theorem dX0_copyFrom_151 : decode cX0_copyFrom 151 = .ok (.aload_n 1, 1) := by decide +kernel
theorem dX0_copyFrom_152 : decode cX0_copyFrom 152 = .ok (.getfield 40, 3) := by decide +kernel
theorem dX0_copyFrom_155 : decode cX0_copyFrom 155 = .ok (.iconst 0, 1) := by decide +kernel
theorem dX0_copyFrom_156 : decode cX0_copyFrom 156 = .ok (.aload_n 0, 1) := by decide +kernel
theorem dX0_copyFrom_157 : decode cX0_copyFrom 157 = .ok (.getfield 40, 3) := by decide +kernel
theorem dX0_copyFrom_160 : decode cX0_copyFrom 160 = .ok (.iconst 0, 1) := by decide +kernel
theorem dX0_copyFrom_161 : decode cX0_copyFrom 161 = .ok (.iload_n 2, 1) := by decide +kernel
theorem dX0_copyFrom_162 : decode cX0_copyFrom 162 = .ok (.iconst 4, 1) := by decide +kernel
theorem dX0_copyFrom_163 : decode cX0_copyFrom 163 = .ok (.imul, 1) := by decide +kernel
theorem dX0_copyFrom_164 : decode cX0_copyFrom 164 = .ok (.invokestatic 143, 3) := by decide +kernel
theorem dX0_copyFrom_167 : decode cX0_copyFrom 167 = .ok (.aload_n 1, 1) := by decide +kernel
theorem dX0_copyFrom_168 : decode cX0_copyFrom 168 = .ok (.getfield 43, 3) := by decide +kernel
theorem dX0_copyFrom_171 : decode cX0_copyFrom 171 = .ok (.iconst 0, 1) := by decide +kernel
theorem dX0_copyFrom_172 : decode cX0_copyFrom 172 = .ok (.aload_n 0, 1) := by decide +kernel
theorem dX0_copyFrom_173 : decode cX0_copyFrom 173 = .ok (.getfield 43, 3) := by decide +kernel
theorem dX0_copyFrom_176 : decode cX0_copyFrom 176 = .ok (.iconst 0, 1) := by decide +kernel
theorem dX0_copyFrom_177 : decode cX0_copyFrom 177 = .ok (.iload_n 2, 1) := by decide +kernel
theorem dX0_copyFrom_178 : decode cX0_copyFrom 178 = .ok (.iconst 4, 1) := by decide +kernel
theorem dX0_copyFrom_179 : decode cX0_copyFrom 179 = .ok (.imul, 1) := by decide +kernel
theorem dX0_copyFrom_180 : decode cX0_copyFrom 180 = .ok (.invokestatic 143, 3) := by decide +kernel
theorem dX0_copyFrom_183 : decode cX0_copyFrom 183 = .ok (.return_, 1) := by decide +kernel
theorem dX1_has_0 : decode cX1_has 0 = .ok (.iload_n 1, 1) := by decide +kernel
theorem dX1_has_1 : decode cX1_has 1 = .ok (.ifCond .lt 15, 3) := by decide +kernel
theorem dX1_has_4 : decode cX1_has 4 = .ok (.iload_n 1, 1) := by decide +kernel
theorem dX1_has_5 : decode cX1_has 5 = .ok (.aload_n 0, 1) := by decide +kernel
theorem dX1_has_6 : decode cX1_has 6 = .ok (.getfield 43, 3) := by decide +kernel
theorem dX1_has_9 : decode cX1_has 9 = .ok (.if_icmp .ge 7, 3) := by decide +kernel
theorem dX1_has_12 : decode cX1_has 12 = .ok (.iconst 1, 1) := by decide +kernel
theorem dX1_has_13 : decode cX1_has 13 = .ok (.goto 4, 3) := by decide +kernel
theorem dX1_has_16 : decode cX1_has 16 = .ok (.iconst 0, 1) := by decide +kernel
theorem dX1_has_17 : decode cX1_has 17 = .ok (.ireturn, 1) := by decide +kernel
theorem dX1_open_0 : decode cX1_open 0 = .ok (.aload_n 0, 1) := by decide +kernel
theorem dX1_open_1 : decode cX1_open 1 = .ok (.getfield 43, 3) := by decide +kernel
theorem dX1_open_4 : decode cX1_open 4 = .ok (.bipush 60, 2) := by decide +kernel
theorem dX1_open_6 : decode cX1_open 6 = .ok (.if_icmp .lt 6, 3) := by decide +kernel
theorem dX1_open_9 : decode cX1_open 9 = .ok (.bipush (-3), 2) := by decide +kernel
theorem dX1_open_11 : decode cX1_open 11 = .ok (.ireturn, 1) := by decide +kernel
theorem dX1_open_12 : decode cX1_open 12 = .ok (.iconst 0, 1) := by decide +kernel
theorem dX1_open_13 : decode cX1_open 13 = .ok (.istore_n 3, 1) := by decide +kernel
theorem dX1_open_14 : decode cX1_open 14 = .ok (.iload_n 3, 1) := by decide +kernel
theorem dX1_open_15 : decode cX1_open 15 = .ok (.aload_n 0, 1) := by decide +kernel
theorem dX1_open_16 : decode cX1_open 16 = .ok (.getfield 43, 3) := by decide +kernel
theorem dX1_open_19 : decode cX1_open 19 = .ok (.if_icmp .ge 31, 3) := by decide +kernel
theorem dX1_open_22 : decode cX1_open 22 = .ok (.aload_n 0, 1) := by decide +kernel
theorem dX1_open_23 : decode cX1_open 23 = .ok (.getfield 18, 3) := by decide +kernel
theorem dX1_open_26 : decode cX1_open 26 = .ok (.iload_n 3, 1) := by decide +kernel
theorem dX1_open_27 : decode cX1_open 27 = .ok (.baload, 1) := by decide +kernel
theorem dX1_open_28 : decode cX1_open 28 = .ok (.ifCond .eq 16, 3) := by decide +kernel
theorem dX1_open_31 : decode cX1_open 31 = .ok (.aload_n 0, 1) := by decide +kernel
theorem dX1_open_32 : decode cX1_open 32 = .ok (.getfield 15, 3) := by decide +kernel
theorem dX1_open_35 : decode cX1_open 35 = .ok (.iload_n 3, 1) := by decide +kernel
theorem dX1_open_36 : decode cX1_open 36 = .ok (.iaload, 1) := by decide +kernel
theorem dX1_open_37 : decode cX1_open 37 = .ok (.iload_n 2, 1) := by decide +kernel
theorem dX1_open_38 : decode cX1_open 38 = .ok (.if_icmp .ne 6, 3) := by decide +kernel
theorem dX1_open_41 : decode cX1_open 41 = .ok (.bipush (-5), 2) := by decide +kernel
theorem dX1_open_43 : decode cX1_open 43 = .ok (.ireturn, 1) := by decide +kernel
theorem dX1_open_44 : decode cX1_open 44 = .ok (.iinc 3 1, 3) := by decide +kernel
theorem dX1_open_47 : decode cX1_open 47 = .ok (.goto (-33), 3) := by decide +kernel
theorem dX1_open_50 : decode cX1_open 50 = .ok (.aload_n 0, 1) := by decide +kernel
theorem dX1_open_51 : decode cX1_open 51 = .ok (.getfield 11, 3) := by decide +kernel
theorem dX1_open_54 : decode cX1_open 54 = .ok (.aload_n 0, 1) := by decide +kernel
theorem dX1_open_55 : decode cX1_open 55 = .ok (.getfield 43, 3) := by decide +kernel
theorem dX1_open_58 : decode cX1_open 58 = .ok (.iload_n 1, 1) := by decide +kernel
theorem dX1_open_59 : decode cX1_open 59 = .ok (.iastore, 1) := by decide +kernel
theorem dX1_open_60 : decode cX1_open 60 = .ok (.aload_n 0, 1) := by decide +kernel
theorem dX1_open_61 : decode cX1_open 61 = .ok (.getfield 15, 3) := by decide +kernel
theorem dX1_open_64 : decode cX1_open 64 = .ok (.aload_n 0, 1) := by decide +kernel
theorem dX1_open_65 : decode cX1_open 65 = .ok (.getfield 43, 3) := by decide +kernel
theorem dX1_open_68 : decode cX1_open 68 = .ok (.iload_n 2, 1) := by decide +kernel
theorem dX1_open_69 : decode cX1_open 69 = .ok (.iastore, 1) := by decide +kernel
theorem dX1_open_70 : decode cX1_open 70 = .ok (.aload_n 0, 1) := by decide +kernel
theorem dX1_open_71 : decode cX1_open 71 = .ok (.getfield 18, 3) := by decide +kernel
theorem dX1_open_74 : decode cX1_open 74 = .ok (.aload_n 0, 1) := by decide +kernel
theorem dX1_open_75 : decode cX1_open 75 = .ok (.getfield 43, 3) := by decide +kernel
theorem dX1_open_78 : decode cX1_open 78 = .ok (.iconst 1, 1) := by decide +kernel
theorem dX1_open_79 : decode cX1_open 79 = .ok (.bastore, 1) := by decide +kernel
theorem dX1_open_80 : decode cX1_open 80 = .ok (.aload_n 0, 1) := by decide +kernel
theorem dX1_open_81 : decode cX1_open 81 = .ok (.getfield 22, 3) := by decide +kernel
theorem dX1_open_84 : decode cX1_open 84 = .ok (.aload_n 0, 1) := by decide +kernel
theorem dX1_open_85 : decode cX1_open 85 = .ok (.getfield 43, 3) := by decide +kernel
theorem dX1_open_88 : decode cX1_open 88 = .ok (.iconst 0, 1) := by decide +kernel
theorem dX1_open_89 : decode cX1_open 89 = .ok (.iastore, 1) := by decide +kernel
theorem dX1_open_90 : decode cX1_open 90 = .ok (.aload_n 0, 1) := by decide +kernel
theorem dX1_open_91 : decode cX1_open 91 = .ok (.getfield 25, 3) := by decide +kernel
theorem dX1_open_94 : decode cX1_open 94 = .ok (.aload_n 0, 1) := by decide +kernel
theorem dX1_open_95 : decode cX1_open 95 = .ok (.getfield 43, 3) := by decide +kernel
theorem dX1_open_98 : decode cX1_open 98 = .ok (.iconst 0, 1) := by decide +kernel
theorem dX1_open_99 : decode cX1_open 99 = .ok (.iastore, 1) := by decide +kernel
theorem dX1_open_100 : decode cX1_open 100 = .ok (.aload_n 0, 1) := by decide +kernel
theorem dX1_open_101 : decode cX1_open 101 = .ok (.dup, 1) := by decide +kernel
theorem dX1_open_102 : decode cX1_open 102 = .ok (.getfield 43, 3) := by decide +kernel
theorem dX1_open_105 : decode cX1_open 105 = .ok (.iconst 1, 1) := by decide +kernel
theorem dX1_open_106 : decode cX1_open 106 = .ok (.iadd, 1) := by decide +kernel
theorem dX1_open_107 : decode cX1_open 107 = .ok (.putfield 43, 3) := by decide +kernel
theorem dX1_open_110 : decode cX1_open 110 = .ok (.aload_n 0, 1) := by decide +kernel
theorem dX1_open_111 : decode cX1_open 111 = .ok (.getfield 43, 3) := by decide +kernel
theorem dX1_open_114 : decode cX1_open 114 = .ok (.iconst 1, 1) := by decide +kernel
theorem dX1_open_115 : decode cX1_open 115 = .ok (.isub, 1) := by decide +kernel
theorem dX1_open_116 : decode cX1_open 116 = .ok (.ireturn, 1) := by decide +kernel
theorem dX1_cast_0 : decode cX1_cast 0 = .ok (.iconst 1, 1) := by decide +kernel
theorem dX1_cast_1 : decode cX1_cast 1 = .ok (.iload_n 2, 1) := by decide +kernel
theorem dX1_cast_2 : decode cX1_cast 2 = .ok (.ishl, 1) := by decide +kernel
theorem dX1_cast_3 : decode cX1_cast 3 = .ok (.istore 4, 2) := by decide +kernel
theorem dX1_cast_5 : decode cX1_cast 5 = .ok (.aload_n 0, 1) := by decide +kernel
theorem dX1_cast_6 : decode cX1_cast 6 = .ok (.getfield 22, 3) := by decide +kernel
theorem dX1_cast_9 : decode cX1_cast 9 = .ok (.iload_n 1, 1) := by decide +kernel
theorem dX1_cast_10 : decode cX1_cast 10 = .ok (.dup2, 1) := by decide +kernel
theorem dX1_cast_11 : decode cX1_cast 11 = .ok (.iaload, 1) := by decide +kernel
theorem dX1_cast_12 : decode cX1_cast 12 = .ok (.iload 4, 2) := by decide +kernel
theorem dX1_cast_14 : decode cX1_cast 14 = .ok (.ior, 1) := by decide +kernel
theorem dX1_cast_15 : decode cX1_cast 15 = .ok (.iastore, 1) := by decide +kernel
theorem dX1_cast_16 : decode cX1_cast 16 = .ok (.aload_n 0, 1) := by decide +kernel
theorem dX1_cast_17 : decode cX1_cast 17 = .ok (.getfield 25, 3) := by decide +kernel
theorem dX1_cast_20 : decode cX1_cast 20 = .ok (.iload_n 1, 1) := by decide +kernel
theorem dX1_cast_21 : decode cX1_cast 21 = .ok (.iload_n 3, 1) := by decide +kernel
theorem dX1_cast_22 : decode cX1_cast 22 = .ok (.ifCond .eq 15, 3) := by decide +kernel
theorem dX1_cast_25 : decode cX1_cast 25 = .ok (.aload_n 0, 1) := by decide +kernel
theorem dX1_cast_26 : decode cX1_cast 26 = .ok (.getfield 25, 3) := by decide +kernel
theorem dX1_cast_29 : decode cX1_cast 29 = .ok (.iload_n 1, 1) := by decide +kernel
theorem dX1_cast_30 : decode cX1_cast 30 = .ok (.iaload, 1) := by decide +kernel
theorem dX1_cast_31 : decode cX1_cast 31 = .ok (.iload 4, 2) := by decide +kernel
theorem dX1_cast_33 : decode cX1_cast 33 = .ok (.ior, 1) := by decide +kernel
theorem dX1_cast_34 : decode cX1_cast 34 = .ok (.goto 14, 3) := by decide +kernel
theorem dX1_cast_37 : decode cX1_cast 37 = .ok (.aload_n 0, 1) := by decide +kernel
theorem dX1_cast_38 : decode cX1_cast 38 = .ok (.getfield 25, 3) := by decide +kernel
theorem dX1_cast_41 : decode cX1_cast 41 = .ok (.iload_n 1, 1) := by decide +kernel
theorem dX1_cast_42 : decode cX1_cast 42 = .ok (.iaload, 1) := by decide +kernel
theorem dX1_cast_43 : decode cX1_cast 43 = .ok (.iload 4, 2) := by decide +kernel
theorem dX1_cast_45 : decode cX1_cast 45 = .ok (.iconst (-1), 1) := by decide +kernel
theorem dX1_cast_46 : decode cX1_cast 46 = .ok (.ixor, 1) := by decide +kernel
theorem dX1_cast_47 : decode cX1_cast 47 = .ok (.iand, 1) := by decide +kernel
theorem dX1_cast_48 : decode cX1_cast 48 = .ok (.iastore, 1) := by decide +kernel
theorem dX1_cast_49 : decode cX1_cast 49 = .ok (.return_, 1) := by decide +kernel
theorem dX1_tooFew_0 : decode cX1_tooFew 0 = .ok (.aload_n 0, 1) := by decide +kernel
theorem dX1_tooFew_1 : decode cX1_tooFew 1 = .ok (.getfield 22, 3) := by decide +kernel
theorem dX1_tooFew_4 : decode cX1_tooFew 4 = .ok (.iload_n 1, 1) := by decide +kernel
theorem dX1_tooFew_5 : decode cX1_tooFew 5 = .ok (.iaload, 1) := by decide +kernel
theorem dX1_tooFew_6 : decode cX1_tooFew 6 = .ok (.invokestatic 47, 3) := by decide +kernel
theorem dX1_tooFew_9 : decode cX1_tooFew 9 = .ok (.istore_n 3, 1) := by decide +kernel
theorem dX1_tooFew_10 : decode cX1_tooFew 10 = .ok (.iload_n 3, 1) := by decide +kernel
theorem dX1_tooFew_11 : decode cX1_tooFew 11 = .ok (.ifCond .eq 21, 3) := by decide +kernel
theorem dX1_tooFew_14 : decode cX1_tooFew 14 = .ok (.aload_n 0, 1) := by decide +kernel
theorem dX1_tooFew_15 : decode cX1_tooFew 15 = .ok (.getfield 25, 3) := by decide +kernel
theorem dX1_tooFew_18 : decode cX1_tooFew 18 = .ok (.iload_n 1, 1) := by decide +kernel
theorem dX1_tooFew_19 : decode cX1_tooFew 19 = .ok (.iaload, 1) := by decide +kernel
theorem dX1_tooFew_20 : decode cX1_tooFew 20 = .ok (.invokestatic 47, 3) := by decide +kernel
theorem dX1_tooFew_23 : decode cX1_tooFew 23 = .ok (.bipush 100, 2) := by decide +kernel
theorem dX1_tooFew_25 : decode cX1_tooFew 25 = .ok (.imul, 1) := by decide +kernel
theorem dX1_tooFew_26 : decode cX1_tooFew 26 = .ok (.iload_n 2, 1) := by decide +kernel
theorem dX1_tooFew_27 : decode cX1_tooFew 27 = .ok (.iload_n 3, 1) := by decide +kernel
theorem dX1_tooFew_28 : decode cX1_tooFew 28 = .ok (.imul, 1) := by decide +kernel
theorem dX1_tooFew_29 : decode cX1_tooFew 29 = .ok (.if_icmp .ge 7, 3) := by decide +kernel
theorem dX1_tooFew_32 : decode cX1_tooFew 32 = .ok (.iconst 1, 1) := by decide +kernel
theorem dX1_tooFew_33 : decode cX1_tooFew 33 = .ok (.goto 4, 3) := by decide +kernel
theorem dX1_tooFew_36 : decode cX1_tooFew 36 = .ok (.iconst 0, 1) := by decide +kernel
theorem dX1_tooFew_37 : decode cX1_tooFew 37 = .ok (.ireturn, 1) := by decide +kernel
theorem dX1_settle_0 : decode cX1_settle 0 = .ok (.aload_n 0, 1) := by decide +kernel
theorem dX1_settle_1 : decode cX1_settle 1 = .ok (.getfield 53, 3) := by decide +kernel
theorem dX1_settle_4 : decode cX1_settle 4 = .ok (.bipush 60, 2) := by decide +kernel
theorem dX1_settle_6 : decode cX1_settle 6 = .ok (.if_icmp .lt 4, 3) := by decide +kernel
theorem dX1_settle_9 : decode cX1_settle 9 = .ok (.return_, 1) := by decide +kernel
theorem dX1_settle_10 : decode cX1_settle 10 = .ok (.aload_n 0, 1) := by decide +kernel
theorem dX1_settle_11 : decode cX1_settle 11 = .ok (.getfield 28, 3) := by decide +kernel
theorem dX1_settle_14 : decode cX1_settle 14 = .ok (.aload_n 0, 1) := by decide +kernel
theorem dX1_settle_15 : decode cX1_settle 15 = .ok (.getfield 53, 3) := by decide +kernel
theorem dX1_settle_18 : decode cX1_settle 18 = .ok (.iload_n 1, 1) := by decide +kernel
theorem dX1_settle_19 : decode cX1_settle 19 = .ok (.iastore, 1) := by decide +kernel
theorem dX1_settle_20 : decode cX1_settle 20 = .ok (.aload_n 0, 1) := by decide +kernel
theorem dX1_settle_21 : decode cX1_settle 21 = .ok (.getfield 31, 3) := by decide +kernel
theorem dX1_settle_24 : decode cX1_settle 24 = .ok (.aload_n 0, 1) := by decide +kernel
theorem dX1_settle_25 : decode cX1_settle 25 = .ok (.getfield 53, 3) := by decide +kernel
theorem dX1_settle_28 : decode cX1_settle 28 = .ok (.iload_n 2, 1) := by decide +kernel
theorem dX1_settle_29 : decode cX1_settle 29 = .ok (.iastore, 1) := by decide +kernel
theorem dX1_settle_30 : decode cX1_settle 30 = .ok (.aload_n 0, 1) := by decide +kernel
theorem dX1_settle_31 : decode cX1_settle 31 = .ok (.getfield 34, 3) := by decide +kernel
theorem dX1_settle_34 : decode cX1_settle 34 = .ok (.aload_n 0, 1) := by decide +kernel
theorem dX1_settle_35 : decode cX1_settle 35 = .ok (.getfield 53, 3) := by decide +kernel
theorem dX1_settle_38 : decode cX1_settle 38 = .ok (.iload_n 3, 1) := by decide +kernel
theorem dX1_settle_39 : decode cX1_settle 39 = .ok (.iastore, 1) := by decide +kernel
theorem dX1_settle_40 : decode cX1_settle 40 = .ok (.aload_n 0, 1) := by decide +kernel
theorem dX1_settle_41 : decode cX1_settle 41 = .ok (.getfield 37, 3) := by decide +kernel
theorem dX1_settle_44 : decode cX1_settle 44 = .ok (.aload_n 0, 1) := by decide +kernel
theorem dX1_settle_45 : decode cX1_settle 45 = .ok (.getfield 53, 3) := by decide +kernel
theorem dX1_settle_48 : decode cX1_settle 48 = .ok (.iload 4, 2) := by decide +kernel
theorem dX1_settle_50 : decode cX1_settle 50 = .ok (.iastore, 1) := by decide +kernel
theorem dX1_settle_51 : decode cX1_settle 51 = .ok (.aload_n 0, 1) := by decide +kernel
theorem dX1_settle_52 : decode cX1_settle 52 = .ok (.getfield 40, 3) := by decide +kernel
theorem dX1_settle_55 : decode cX1_settle 55 = .ok (.aload_n 0, 1) := by decide +kernel
theorem dX1_settle_56 : decode cX1_settle 56 = .ok (.getfield 53, 3) := by decide +kernel
theorem dX1_settle_59 : decode cX1_settle 59 = .ok (.sipush 400, 3) := by decide +kernel
theorem dX1_settle_62 : decode cX1_settle 62 = .ok (.iastore, 1) := by decide +kernel
theorem dX1_settle_63 : decode cX1_settle 63 = .ok (.aload_n 0, 1) := by decide +kernel
theorem dX1_settle_64 : decode cX1_settle 64 = .ok (.dup, 1) := by decide +kernel
theorem dX1_settle_65 : decode cX1_settle 65 = .ok (.getfield 53, 3) := by decide +kernel
theorem dX1_settle_68 : decode cX1_settle 68 = .ok (.iconst 1, 1) := by decide +kernel
theorem dX1_settle_69 : decode cX1_settle 69 = .ok (.iadd, 1) := by decide +kernel
theorem dX1_settle_70 : decode cX1_settle 70 = .ok (.putfield 53, 3) := by decide +kernel
theorem dX1_settle_73 : decode cX1_settle 73 = .ok (.return_, 1) := by decide +kernel
theorem dX1_settlingAt_0 : decode cX1_settlingAt 0 = .ok (.aload_n 0, 1) := by decide +kernel
theorem dX1_settlingAt_1 : decode cX1_settlingAt 1 = .ok (.getfield 53, 3) := by decide +kernel
theorem dX1_settlingAt_4 : decode cX1_settlingAt 4 = .ok (.iconst 1, 1) := by decide +kernel
theorem dX1_settlingAt_5 : decode cX1_settlingAt 5 = .ok (.isub, 1) := by decide +kernel
theorem dX1_settlingAt_6 : decode cX1_settlingAt 6 = .ok (.istore 4, 2) := by decide +kernel
theorem dX1_settlingAt_8 : decode cX1_settlingAt 8 = .ok (.iload 4, 2) := by decide +kernel
theorem dX1_settlingAt_10 : decode cX1_settlingAt 10 = .ok (.ifCond .lt 68, 3) := by decide +kernel
theorem dX1_settlingAt_13 : decode cX1_settlingAt 13 = .ok (.aload_n 0, 1) := by decide +kernel
theorem dX1_settlingAt_14 : decode cX1_settlingAt 14 = .ok (.getfield 31, 3) := by decide +kernel
theorem dX1_settlingAt_17 : decode cX1_settlingAt 17 = .ok (.iload 4, 2) := by decide +kernel
theorem dX1_settlingAt_19 : decode cX1_settlingAt 19 = .ok (.iaload, 1) := by decide +kernel
theorem dX1_settlingAt_20 : decode cX1_settlingAt 20 = .ok (.iload_n 1, 1) := by decide +kernel
theorem dX1_settlingAt_21 : decode cX1_settlingAt 21 = .ok (.if_icmp .ne 18, 3) := by decide +kernel
theorem dX1_settlingAt_24 : decode cX1_settlingAt 24 = .ok (.aload_n 0, 1) := by decide +kernel
theorem dX1_settlingAt_25 : decode cX1_settlingAt 25 = .ok (.getfield 34, 3) := by decide +kernel
theorem dX1_settlingAt_28 : decode cX1_settlingAt 28 = .ok (.iload 4, 2) := by decide +kernel
theorem dX1_settlingAt_30 : decode cX1_settlingAt 30 = .ok (.iaload, 1) := by decide +kernel
theorem dX1_settlingAt_31 : decode cX1_settlingAt 31 = .ok (.iload_n 2, 1) := by decide +kernel
theorem dX1_settlingAt_32 : decode cX1_settlingAt 32 = .ok (.if_icmp .ne 7, 3) := by decide +kernel
theorem dX1_settlingAt_35 : decode cX1_settlingAt 35 = .ok (.iconst 1, 1) := by decide +kernel
theorem dX1_settlingAt_36 : decode cX1_settlingAt 36 = .ok (.goto 4, 3) := by decide +kernel
theorem dX1_settlingAt_39 : decode cX1_settlingAt 39 = .ok (.iconst 0, 1) := by decide +kernel
theorem dX1_settlingAt_40 : decode cX1_settlingAt 40 = .ok (.istore 5, 2) := by decide +kernel
theorem dX1_settlingAt_42 : decode cX1_settlingAt 42 = .ok (.iload 5, 2) := by decide +kernel
theorem dX1_settlingAt_44 : decode cX1_settlingAt 44 = .ok (.ifCond .eq 28, 3) := by decide +kernel
theorem dX1_settlingAt_47 : decode cX1_settlingAt 47 = .ok (.aload_n 0, 1) := by decide +kernel
theorem dX1_settlingAt_48 : decode cX1_settlingAt 48 = .ok (.getfield 37, 3) := by decide +kernel
theorem dX1_settlingAt_51 : decode cX1_settlingAt 51 = .ok (.iload 4, 2) := by decide +kernel
theorem dX1_settlingAt_53 : decode cX1_settlingAt 53 = .ok (.iaload, 1) := by decide +kernel
theorem dX1_settlingAt_54 : decode cX1_settlingAt 54 = .ok (.iload_n 3, 1) := by decide +kernel
theorem dX1_settlingAt_55 : decode cX1_settlingAt 55 = .ok (.if_icmp .gt 17, 3) := by decide +kernel
theorem dX1_settlingAt_58 : decode cX1_settlingAt 58 = .ok (.aload_n 0, 1) := by decide +kernel
theorem dX1_settlingAt_59 : decode cX1_settlingAt 59 = .ok (.getfield 40, 3) := by decide +kernel
theorem dX1_settlingAt_62 : decode cX1_settlingAt 62 = .ok (.iload 4, 2) := by decide +kernel
theorem dX1_settlingAt_64 : decode cX1_settlingAt 64 = .ok (.iaload, 1) := by decide +kernel
theorem dX1_settlingAt_65 : decode cX1_settlingAt 65 = .ok (.iload_n 3, 1) := by decide +kernel
theorem dX1_settlingAt_66 : decode cX1_settlingAt 66 = .ok (.if_icmp .le 6, 3) := by decide +kernel
theorem dX1_settlingAt_69 : decode cX1_settlingAt 69 = .ok (.iload 4, 2) := by decide +kernel
theorem dX1_settlingAt_71 : decode cX1_settlingAt 71 = .ok (.ireturn, 1) := by decide +kernel
theorem dX1_settlingAt_72 : decode cX1_settlingAt 72 = .ok (.iinc 4 (-1), 3) := by decide +kernel
theorem dX1_settlingAt_75 : decode cX1_settlingAt 75 = .ok (.goto (-67), 3) := by decide +kernel
theorem dX1_settlingAt_78 : decode cX1_settlingAt 78 = .ok (.iconst (-1), 1) := by decide +kernel
theorem dX1_settlingAt_79 : decode cX1_settlingAt 79 = .ok (.ireturn, 1) := by decide +kernel
theorem dX1_nameAt_0 : decode cX1_nameAt 0 = .ok (.aload_n 0, 1) := by decide +kernel
theorem dX1_nameAt_1 : decode cX1_nameAt 1 = .ok (.iload_n 1, 1) := by decide +kernel
theorem dX1_nameAt_2 : decode cX1_nameAt 2 = .ok (.iload_n 2, 1) := by decide +kernel
theorem dX1_nameAt_3 : decode cX1_nameAt 3 = .ok (.iload_n 3, 1) := by decide +kernel
theorem dX1_nameAt_4 : decode cX1_nameAt 4 = .ok (.invokevirtual 56, 3) := by decide +kernel
theorem dX1_nameAt_7 : decode cX1_nameAt 7 = .ok (.istore 4, 2) := by decide +kernel
theorem dX1_nameAt_9 : decode cX1_nameAt 9 = .ok (.iload 4, 2) := by decide +kernel
theorem dX1_nameAt_11 : decode cX1_nameAt 11 = .ok (.iconst (-1), 1) := by decide +kernel
theorem dX1_nameAt_12 : decode cX1_nameAt 12 = .ok (.if_icmp .ne 7, 3) := by decide +kernel
theorem dX1_nameAt_15 : decode cX1_nameAt 15 = .ok (.iconst (-1), 1) := by decide +kernel
theorem dX1_nameAt_16 : decode cX1_nameAt 16 = .ok (.goto 10, 3) := by decide +kernel
theorem dX1_nameAt_19 : decode cX1_nameAt 19 = .ok (.aload_n 0, 1) := by decide +kernel
theorem dX1_nameAt_20 : decode cX1_nameAt 20 = .ok (.getfield 28, 3) := by decide +kernel
theorem dX1_nameAt_23 : decode cX1_nameAt 23 = .ok (.iload 4, 2) := by decide +kernel
theorem dX1_nameAt_25 : decode cX1_nameAt 25 = .ok (.iaload, 1) := by decide +kernel
theorem dX1_nameAt_26 : decode cX1_nameAt 26 = .ok (.ireturn, 1) := by decide +kernel
theorem dX1_namesAt_0 : decode cX1_namesAt 0 = .ok (.iconst 0, 1) := by decide +kernel
theorem dX1_namesAt_1 : decode cX1_namesAt 1 = .ok (.istore_n 3, 1) := by decide +kernel
theorem dX1_namesAt_2 : decode cX1_namesAt 2 = .ok (.iconst 0, 1) := by decide +kernel
theorem dX1_namesAt_3 : decode cX1_namesAt 3 = .ok (.istore 4, 2) := by decide +kernel
theorem dX1_namesAt_5 : decode cX1_namesAt 5 = .ok (.iload 4, 2) := by decide +kernel
theorem dX1_namesAt_7 : decode cX1_namesAt 7 = .ok (.iload_n 1, 1) := by decide +kernel
theorem dX1_namesAt_8 : decode cX1_namesAt 8 = .ok (.if_icmp .ge 40, 3) := by decide +kernel
theorem dX1_namesAt_11 : decode cX1_namesAt 11 = .ok (.iconst 0, 1) := by decide +kernel
theorem dX1_namesAt_12 : decode cX1_namesAt 12 = .ok (.istore 5, 2) := by decide +kernel
theorem dX1_namesAt_14 : decode cX1_namesAt 14 = .ok (.iload 5, 2) := by decide +kernel
theorem dX1_namesAt_16 : decode cX1_namesAt 16 = .ok (.iconst 3, 1) := by decide +kernel
theorem dX1_namesAt_17 : decode cX1_namesAt 17 = .ok (.if_icmp .ge 25, 3) := by decide +kernel
theorem dX1_namesAt_20 : decode cX1_namesAt 20 = .ok (.aload_n 0, 1) := by decide +kernel
theorem dX1_namesAt_21 : decode cX1_namesAt 21 = .ok (.iload 4, 2) := by decide +kernel
theorem dX1_namesAt_23 : decode cX1_namesAt 23 = .ok (.iload 5, 2) := by decide +kernel
theorem dX1_namesAt_25 : decode cX1_namesAt 25 = .ok (.iload_n 2, 1) := by decide +kernel
theorem dX1_namesAt_26 : decode cX1_namesAt 26 = .ok (.invokevirtual 56, 3) := by decide +kernel
theorem dX1_namesAt_29 : decode cX1_namesAt 29 = .ok (.iconst (-1), 1) := by decide +kernel
theorem dX1_namesAt_30 : decode cX1_namesAt 30 = .ok (.if_icmp .eq 6, 3) := by decide +kernel
theorem dX1_namesAt_33 : decode cX1_namesAt 33 = .ok (.iinc 3 1, 3) := by decide +kernel
theorem dX1_namesAt_36 : decode cX1_namesAt 36 = .ok (.iinc 5 1, 3) := by decide +kernel
theorem dX1_namesAt_39 : decode cX1_namesAt 39 = .ok (.goto (-25), 3) := by decide +kernel
theorem dX1_namesAt_42 : decode cX1_namesAt 42 = .ok (.iinc 4 1, 3) := by decide +kernel
theorem dX1_namesAt_45 : decode cX1_namesAt 45 = .ok (.goto (-40), 3) := by decide +kernel
theorem dX1_namesAt_48 : decode cX1_namesAt 48 = .ok (.iload_n 3, 1) := by decide +kernel
theorem dX1_namesAt_49 : decode cX1_namesAt 49 = .ok (.ireturn, 1) := by decide +kernel
theorem dX1_undoLast_0 : decode cX1_undoLast 0 = .ok (.aload_n 0, 1) := by decide +kernel
theorem dX1_undoLast_1 : decode cX1_undoLast 1 = .ok (.iload_n 1, 1) := by decide +kernel
theorem dX1_undoLast_2 : decode cX1_undoLast 2 = .ok (.iload_n 2, 1) := by decide +kernel
theorem dX1_undoLast_3 : decode cX1_undoLast 3 = .ok (.iload_n 3, 1) := by decide +kernel
theorem dX1_undoLast_4 : decode cX1_undoLast 4 = .ok (.invokevirtual 56, 3) := by decide +kernel
theorem dX1_undoLast_7 : decode cX1_undoLast 7 = .ok (.istore 4, 2) := by decide +kernel
theorem dX1_undoLast_9 : decode cX1_undoLast 9 = .ok (.iload 4, 2) := by decide +kernel
theorem dX1_undoLast_11 : decode cX1_undoLast 11 = .ok (.iconst (-1), 1) := by decide +kernel
theorem dX1_undoLast_12 : decode cX1_undoLast 12 = .ok (.if_icmp .ne 5, 3) := by decide +kernel
theorem dX1_undoLast_15 : decode cX1_undoLast 15 = .ok (.iconst 0, 1) := by decide +kernel
theorem dX1_undoLast_16 : decode cX1_undoLast 16 = .ok (.ireturn, 1) := by decide +kernel
theorem dX1_undoLast_17 : decode cX1_undoLast 17 = .ok (.aload_n 0, 1) := by decide +kernel
theorem dX1_undoLast_18 : decode cX1_undoLast 18 = .ok (.getfield 40, 3) := by decide +kernel
theorem dX1_undoLast_21 : decode cX1_undoLast 21 = .ok (.iload 4, 2) := by decide +kernel
theorem dX1_undoLast_23 : decode cX1_undoLast 23 = .ok (.iload_n 3, 1) := by decide +kernel
theorem dX1_undoLast_24 : decode cX1_undoLast 24 = .ok (.iastore, 1) := by decide +kernel
theorem dX1_undoLast_25 : decode cX1_undoLast 25 = .ok (.iconst 1, 1) := by decide +kernel
theorem dX1_undoLast_26 : decode cX1_undoLast 26 = .ok (.ireturn, 1) := by decide +kernel
theorem dX1_copyFrom_0 : decode cX1_copyFrom 0 = .ok (.aload_n 0, 1) := by decide +kernel
theorem dX1_copyFrom_1 : decode cX1_copyFrom 1 = .ok (.aload_n 1, 1) := by decide +kernel
theorem dX1_copyFrom_2 : decode cX1_copyFrom 2 = .ok (.getfield 43, 3) := by decide +kernel
theorem dX1_copyFrom_5 : decode cX1_copyFrom 5 = .ok (.putfield 43, 3) := by decide +kernel
theorem dX1_copyFrom_8 : decode cX1_copyFrom 8 = .ok (.aload_n 1, 1) := by decide +kernel
theorem dX1_copyFrom_9 : decode cX1_copyFrom 9 = .ok (.getfield 11, 3) := by decide +kernel
theorem dX1_copyFrom_12 : decode cX1_copyFrom 12 = .ok (.iconst 0, 1) := by decide +kernel
theorem dX1_copyFrom_13 : decode cX1_copyFrom 13 = .ok (.aload_n 0, 1) := by decide +kernel
theorem dX1_copyFrom_14 : decode cX1_copyFrom 14 = .ok (.getfield 11, 3) := by decide +kernel
theorem dX1_copyFrom_17 : decode cX1_copyFrom 17 = .ok (.iconst 0, 1) := by decide +kernel
theorem dX1_copyFrom_18 : decode cX1_copyFrom 18 = .ok (.aload_n 0, 1) := by decide +kernel
theorem dX1_copyFrom_19 : decode cX1_copyFrom 19 = .ok (.getfield 43, 3) := by decide +kernel
theorem dX1_copyFrom_22 : decode cX1_copyFrom 22 = .ok (.invokestatic 60, 3) := by decide +kernel
theorem dX1_copyFrom_25 : decode cX1_copyFrom 25 = .ok (.aload_n 1, 1) := by decide +kernel
theorem dX1_copyFrom_26 : decode cX1_copyFrom 26 = .ok (.getfield 15, 3) := by decide +kernel
theorem dX1_copyFrom_29 : decode cX1_copyFrom 29 = .ok (.iconst 0, 1) := by decide +kernel
theorem dX1_copyFrom_30 : decode cX1_copyFrom 30 = .ok (.aload_n 0, 1) := by decide +kernel
theorem dX1_copyFrom_31 : decode cX1_copyFrom 31 = .ok (.getfield 15, 3) := by decide +kernel
theorem dX1_copyFrom_34 : decode cX1_copyFrom 34 = .ok (.iconst 0, 1) := by decide +kernel
theorem dX1_copyFrom_35 : decode cX1_copyFrom 35 = .ok (.aload_n 0, 1) := by decide +kernel
theorem dX1_copyFrom_36 : decode cX1_copyFrom 36 = .ok (.getfield 43, 3) := by decide +kernel
theorem dX1_copyFrom_39 : decode cX1_copyFrom 39 = .ok (.invokestatic 60, 3) := by decide +kernel
theorem dX1_copyFrom_42 : decode cX1_copyFrom 42 = .ok (.aload_n 1, 1) := by decide +kernel
theorem dX1_copyFrom_43 : decode cX1_copyFrom 43 = .ok (.getfield 18, 3) := by decide +kernel
theorem dX1_copyFrom_46 : decode cX1_copyFrom 46 = .ok (.aload_n 0, 1) := by decide +kernel
theorem dX1_copyFrom_47 : decode cX1_copyFrom 47 = .ok (.getfield 18, 3) := by decide +kernel
theorem dX1_copyFrom_50 : decode cX1_copyFrom 50 = .ok (.aload_n 0, 1) := by decide +kernel
theorem dX1_copyFrom_51 : decode cX1_copyFrom 51 = .ok (.getfield 43, 3) := by decide +kernel
theorem dX1_copyFrom_54 : decode cX1_copyFrom 54 = .ok (.invokestatic 66, 3) := by decide +kernel
theorem dX1_copyFrom_57 : decode cX1_copyFrom 57 = .ok (.aload_n 1, 1) := by decide +kernel
theorem dX1_copyFrom_58 : decode cX1_copyFrom 58 = .ok (.getfield 22, 3) := by decide +kernel
theorem dX1_copyFrom_61 : decode cX1_copyFrom 61 = .ok (.iconst 0, 1) := by decide +kernel
theorem dX1_copyFrom_62 : decode cX1_copyFrom 62 = .ok (.aload_n 0, 1) := by decide +kernel
theorem dX1_copyFrom_63 : decode cX1_copyFrom 63 = .ok (.getfield 22, 3) := by decide +kernel
theorem dX1_copyFrom_66 : decode cX1_copyFrom 66 = .ok (.iconst 0, 1) := by decide +kernel
theorem dX1_copyFrom_67 : decode cX1_copyFrom 67 = .ok (.aload_n 0, 1) := by decide +kernel
theorem dX1_copyFrom_68 : decode cX1_copyFrom 68 = .ok (.getfield 43, 3) := by decide +kernel
theorem dX1_copyFrom_71 : decode cX1_copyFrom 71 = .ok (.invokestatic 60, 3) := by decide +kernel
theorem dX1_copyFrom_74 : decode cX1_copyFrom 74 = .ok (.aload_n 1, 1) := by decide +kernel
theorem dX1_copyFrom_75 : decode cX1_copyFrom 75 = .ok (.getfield 25, 3) := by decide +kernel
theorem dX1_copyFrom_78 : decode cX1_copyFrom 78 = .ok (.iconst 0, 1) := by decide +kernel
theorem dX1_copyFrom_79 : decode cX1_copyFrom 79 = .ok (.aload_n 0, 1) := by decide +kernel
theorem dX1_copyFrom_80 : decode cX1_copyFrom 80 = .ok (.getfield 25, 3) := by decide +kernel
theorem dX1_copyFrom_83 : decode cX1_copyFrom 83 = .ok (.iconst 0, 1) := by decide +kernel
theorem dX1_copyFrom_84 : decode cX1_copyFrom 84 = .ok (.aload_n 0, 1) := by decide +kernel
theorem dX1_copyFrom_85 : decode cX1_copyFrom 85 = .ok (.getfield 43, 3) := by decide +kernel
theorem dX1_copyFrom_88 : decode cX1_copyFrom 88 = .ok (.invokestatic 60, 3) := by decide +kernel
theorem dX1_copyFrom_91 : decode cX1_copyFrom 91 = .ok (.aload_n 0, 1) := by decide +kernel
theorem dX1_copyFrom_92 : decode cX1_copyFrom 92 = .ok (.aload_n 1, 1) := by decide +kernel
theorem dX1_copyFrom_93 : decode cX1_copyFrom 93 = .ok (.getfield 53, 3) := by decide +kernel
theorem dX1_copyFrom_96 : decode cX1_copyFrom 96 = .ok (.putfield 53, 3) := by decide +kernel
theorem dX1_copyFrom_99 : decode cX1_copyFrom 99 = .ok (.aload_n 1, 1) := by decide +kernel
theorem dX1_copyFrom_100 : decode cX1_copyFrom 100 = .ok (.getfield 28, 3) := by decide +kernel
theorem dX1_copyFrom_103 : decode cX1_copyFrom 103 = .ok (.iconst 0, 1) := by decide +kernel
theorem dX1_copyFrom_104 : decode cX1_copyFrom 104 = .ok (.aload_n 0, 1) := by decide +kernel
theorem dX1_copyFrom_105 : decode cX1_copyFrom 105 = .ok (.getfield 28, 3) := by decide +kernel
theorem dX1_copyFrom_108 : decode cX1_copyFrom 108 = .ok (.iconst 0, 1) := by decide +kernel
theorem dX1_copyFrom_109 : decode cX1_copyFrom 109 = .ok (.aload_n 0, 1) := by decide +kernel
theorem dX1_copyFrom_110 : decode cX1_copyFrom 110 = .ok (.getfield 53, 3) := by decide +kernel
theorem dX1_copyFrom_113 : decode cX1_copyFrom 113 = .ok (.invokestatic 60, 3) := by decide +kernel
theorem dX1_copyFrom_116 : decode cX1_copyFrom 116 = .ok (.aload_n 1, 1) := by decide +kernel
theorem dX1_copyFrom_117 : decode cX1_copyFrom 117 = .ok (.getfield 31, 3) := by decide +kernel
theorem dX1_copyFrom_120 : decode cX1_copyFrom 120 = .ok (.iconst 0, 1) := by decide +kernel
theorem dX1_copyFrom_121 : decode cX1_copyFrom 121 = .ok (.aload_n 0, 1) := by decide +kernel
theorem dX1_copyFrom_122 : decode cX1_copyFrom 122 = .ok (.getfield 31, 3) := by decide +kernel
theorem dX1_copyFrom_125 : decode cX1_copyFrom 125 = .ok (.iconst 0, 1) := by decide +kernel
theorem dX1_copyFrom_126 : decode cX1_copyFrom 126 = .ok (.aload_n 0, 1) := by decide +kernel
theorem dX1_copyFrom_127 : decode cX1_copyFrom 127 = .ok (.getfield 53, 3) := by decide +kernel
theorem dX1_copyFrom_130 : decode cX1_copyFrom 130 = .ok (.invokestatic 60, 3) := by decide +kernel
theorem dX1_copyFrom_133 : decode cX1_copyFrom 133 = .ok (.aload_n 1, 1) := by decide +kernel
theorem dX1_copyFrom_134 : decode cX1_copyFrom 134 = .ok (.getfield 34, 3) := by decide +kernel
theorem dX1_copyFrom_137 : decode cX1_copyFrom 137 = .ok (.iconst 0, 1) := by decide +kernel
theorem dX1_copyFrom_138 : decode cX1_copyFrom 138 = .ok (.aload_n 0, 1) := by decide +kernel
theorem dX1_copyFrom_139 : decode cX1_copyFrom 139 = .ok (.getfield 34, 3) := by decide +kernel
theorem dX1_copyFrom_142 : decode cX1_copyFrom 142 = .ok (.iconst 0, 1) := by decide +kernel
theorem dX1_copyFrom_143 : decode cX1_copyFrom 143 = .ok (.aload_n 0, 1) := by decide +kernel
theorem dX1_copyFrom_144 : decode cX1_copyFrom 144 = .ok (.getfield 53, 3) := by decide +kernel
theorem dX1_copyFrom_147 : decode cX1_copyFrom 147 = .ok (.invokestatic 60, 3) := by decide +kernel
theorem dX1_copyFrom_150 : decode cX1_copyFrom 150 = .ok (.aload_n 1, 1) := by decide +kernel
theorem dX1_copyFrom_151 : decode cX1_copyFrom 151 = .ok (.getfield 37, 3) := by decide +kernel
theorem dX1_copyFrom_154 : decode cX1_copyFrom 154 = .ok (.iconst 0, 1) := by decide +kernel
theorem dX1_copyFrom_155 : decode cX1_copyFrom 155 = .ok (.aload_n 0, 1) := by decide +kernel
theorem dX1_copyFrom_156 : decode cX1_copyFrom 156 = .ok (.getfield 37, 3) := by decide +kernel
theorem dX1_copyFrom_159 : decode cX1_copyFrom 159 = .ok (.iconst 0, 1) := by decide +kernel
theorem dX1_copyFrom_160 : decode cX1_copyFrom 160 = .ok (.aload_n 0, 1) := by decide +kernel
theorem dX1_copyFrom_161 : decode cX1_copyFrom 161 = .ok (.getfield 53, 3) := by decide +kernel
theorem dX1_copyFrom_164 : decode cX1_copyFrom 164 = .ok (.invokestatic 60, 3) := by decide +kernel
theorem dX1_copyFrom_167 : decode cX1_copyFrom 167 = .ok (.aload_n 1, 1) := by decide +kernel
theorem dX1_copyFrom_168 : decode cX1_copyFrom 168 = .ok (.getfield 40, 3) := by decide +kernel
theorem dX1_copyFrom_171 : decode cX1_copyFrom 171 = .ok (.iconst 0, 1) := by decide +kernel
theorem dX1_copyFrom_172 : decode cX1_copyFrom 172 = .ok (.aload_n 0, 1) := by decide +kernel
theorem dX1_copyFrom_173 : decode cX1_copyFrom 173 = .ok (.getfield 40, 3) := by decide +kernel
theorem dX1_copyFrom_176 : decode cX1_copyFrom 176 = .ok (.iconst 0, 1) := by decide +kernel
theorem dX1_copyFrom_177 : decode cX1_copyFrom 177 = .ok (.aload_n 0, 1) := by decide +kernel
theorem dX1_copyFrom_178 : decode cX1_copyFrom 178 = .ok (.getfield 53, 3) := by decide +kernel
theorem dX1_copyFrom_181 : decode cX1_copyFrom 181 = .ok (.invokestatic 60, 3) := by decide +kernel
theorem dX1_copyFrom_184 : decode cX1_copyFrom 184 = .ok (.return_, 1) := by decide +kernel
theorem dX2_has_0 : decode cX2_has 0 = .ok (.iload_n 1, 1) := by decide +kernel
theorem dX2_has_1 : decode cX2_has 1 = .ok (.ifCond .lt 15, 3) := by decide +kernel
theorem dX2_has_4 : decode cX2_has 4 = .ok (.iload_n 1, 1) := by decide +kernel
theorem dX2_has_5 : decode cX2_has 5 = .ok (.aload_n 0, 1) := by decide +kernel
theorem dX2_has_6 : decode cX2_has 6 = .ok (.getfield 36, 3) := by decide +kernel
theorem dX2_has_9 : decode cX2_has 9 = .ok (.if_icmp .ge 7, 3) := by decide +kernel
theorem dX2_has_12 : decode cX2_has 12 = .ok (.iconst 1, 1) := by decide +kernel
theorem dX2_has_13 : decode cX2_has 13 = .ok (.goto 4, 3) := by decide +kernel
theorem dX2_has_16 : decode cX2_has 16 = .ok (.iconst 0, 1) := by decide +kernel
theorem dX2_has_17 : decode cX2_has 17 = .ok (.ireturn, 1) := by decide +kernel
theorem dX2_addPlace_0 : decode cX2_addPlace 0 = .ok (.aload_n 0, 1) := by decide +kernel
theorem dX2_addPlace_1 : decode cX2_addPlace 1 = .ok (.getfield 36, 3) := by decide +kernel
theorem dX2_addPlace_4 : decode cX2_addPlace 4 = .ok (.bipush 40, 2) := by decide +kernel
theorem dX2_addPlace_6 : decode cX2_addPlace 6 = .ok (.if_icmp .lt 6, 3) := by decide +kernel
theorem dX2_addPlace_9 : decode cX2_addPlace 9 = .ok (.bipush (-3), 2) := by decide +kernel
theorem dX2_addPlace_11 : decode cX2_addPlace 11 = .ok (.ireturn, 1) := by decide +kernel
theorem dX2_addPlace_12 : decode cX2_addPlace 12 = .ok (.aload_n 0, 1) := by decide +kernel
theorem dX2_addPlace_13 : decode cX2_addPlace 13 = .ok (.getfield 9, 3) := by decide +kernel
theorem dX2_addPlace_16 : decode cX2_addPlace 16 = .ok (.aload_n 0, 1) := by decide +kernel
theorem dX2_addPlace_17 : decode cX2_addPlace 17 = .ok (.getfield 36, 3) := by decide +kernel
theorem dX2_addPlace_20 : decode cX2_addPlace 20 = .ok (.iload_n 1, 1) := by decide +kernel
theorem dX2_addPlace_21 : decode cX2_addPlace 21 = .ok (.iastore, 1) := by decide +kernel
theorem dX2_addPlace_22 : decode cX2_addPlace 22 = .ok (.aload_n 0, 1) := by decide +kernel
theorem dX2_addPlace_23 : decode cX2_addPlace 23 = .ok (.getfield 15, 3) := by decide +kernel
theorem dX2_addPlace_26 : decode cX2_addPlace 26 = .ok (.aload_n 0, 1) := by decide +kernel
theorem dX2_addPlace_27 : decode cX2_addPlace 27 = .ok (.getfield 36, 3) := by decide +kernel
theorem dX2_addPlace_30 : decode cX2_addPlace 30 = .ok (.iload_n 2, 1) := by decide +kernel
theorem dX2_addPlace_31 : decode cX2_addPlace 31 = .ok (.iastore, 1) := by decide +kernel
theorem dX2_addPlace_32 : decode cX2_addPlace 32 = .ok (.aload_n 0, 1) := by decide +kernel
theorem dX2_addPlace_33 : decode cX2_addPlace 33 = .ok (.dup, 1) := by decide +kernel
theorem dX2_addPlace_34 : decode cX2_addPlace 34 = .ok (.getfield 36, 3) := by decide +kernel
theorem dX2_addPlace_37 : decode cX2_addPlace 37 = .ok (.iconst 1, 1) := by decide +kernel
theorem dX2_addPlace_38 : decode cX2_addPlace 38 = .ok (.iadd, 1) := by decide +kernel
theorem dX2_addPlace_39 : decode cX2_addPlace 39 = .ok (.putfield 36, 3) := by decide +kernel
theorem dX2_addPlace_42 : decode cX2_addPlace 42 = .ok (.aload_n 0, 1) := by decide +kernel
theorem dX2_addPlace_43 : decode cX2_addPlace 43 = .ok (.getfield 36, 3) := by decide +kernel
theorem dX2_addPlace_46 : decode cX2_addPlace 46 = .ok (.iconst 1, 1) := by decide +kernel
theorem dX2_addPlace_47 : decode cX2_addPlace 47 = .ok (.isub, 1) := by decide +kernel
theorem dX2_addPlace_48 : decode cX2_addPlace 48 = .ok (.ireturn, 1) := by decide +kernel
theorem dX2_tellPart_0 : decode cX2_tellPart 0 = .ok (.aload_n 0, 1) := by decide +kernel
theorem dX2_tellPart_1 : decode cX2_tellPart 1 = .ok (.getfield 40, 3) := by decide +kernel
theorem dX2_tellPart_4 : decode cX2_tellPart 4 = .ok (.istore 4, 2) := by decide +kernel
theorem dX2_tellPart_6 : decode cX2_tellPart 6 = .ok (.aload_n 0, 1) := by decide +kernel
theorem dX2_tellPart_7 : decode cX2_tellPart 7 = .ok (.getfield 40, 3) := by decide +kernel
theorem dX2_tellPart_10 : decode cX2_tellPart 10 = .ok (.iconst 1, 1) := by decide +kernel
theorem dX2_tellPart_11 : decode cX2_tellPart 11 = .ok (.isub, 1) := by decide +kernel
theorem dX2_tellPart_12 : decode cX2_tellPart 12 = .ok (.istore 5, 2) := by decide +kernel
theorem dX2_tellPart_14 : decode cX2_tellPart 14 = .ok (.iload 5, 2) := by decide +kernel
theorem dX2_tellPart_16 : decode cX2_tellPart 16 = .ok (.ifCond .lt 35, 3) := by decide +kernel
theorem dX2_tellPart_19 : decode cX2_tellPart 19 = .ok (.aload_n 0, 1) := by decide +kernel
theorem dX2_tellPart_20 : decode cX2_tellPart 20 = .ok (.getfield 24, 3) := by decide +kernel
theorem dX2_tellPart_23 : decode cX2_tellPart 23 = .ok (.iload 5, 2) := by decide +kernel
theorem dX2_tellPart_25 : decode cX2_tellPart 25 = .ok (.iaload, 1) := by decide +kernel
theorem dX2_tellPart_26 : decode cX2_tellPart 26 = .ok (.iload_n 3, 1) := by decide +kernel
theorem dX2_tellPart_27 : decode cX2_tellPart 27 = .ok (.if_icmp .ne 24, 3) := by decide +kernel
theorem dX2_tellPart_30 : decode cX2_tellPart 30 = .ok (.aload_n 0, 1) := by decide +kernel
theorem dX2_tellPart_31 : decode cX2_tellPart 31 = .ok (.getfield 18, 3) := by decide +kernel
theorem dX2_tellPart_34 : decode cX2_tellPart 34 = .ok (.iload 5, 2) := by decide +kernel
theorem dX2_tellPart_36 : decode cX2_tellPart 36 = .ok (.iaload, 1) := by decide +kernel
theorem dX2_tellPart_37 : decode cX2_tellPart 37 = .ok (.iload_n 1, 1) := by decide +kernel
theorem dX2_tellPart_38 : decode cX2_tellPart 38 = .ok (.if_icmp .ne 7, 3) := by decide +kernel
theorem dX2_tellPart_41 : decode cX2_tellPart 41 = .ok (.iload 5, 2) := by decide +kernel
theorem dX2_tellPart_43 : decode cX2_tellPart 43 = .ok (.istore 4, 2) := by decide +kernel
theorem dX2_tellPart_45 : decode cX2_tellPart 45 = .ok (.iinc 5 (-1), 3) := by decide +kernel
theorem dX2_tellPart_48 : decode cX2_tellPart 48 = .ok (.goto (-34), 3) := by decide +kernel
theorem dX2_tellPart_51 : decode cX2_tellPart 51 = .ok (.iload 4, 2) := by decide +kernel
theorem dX2_tellPart_53 : decode cX2_tellPart 53 = .ok (.sipush 520, 3) := by decide +kernel
theorem dX2_tellPart_56 : decode cX2_tellPart 56 = .ok (.if_icmp .lt 5, 3) := by decide +kernel
theorem dX2_tellPart_59 : decode cX2_tellPart 59 = .ok (.iconst 0, 1) := by decide +kernel
theorem dX2_tellPart_60 : decode cX2_tellPart 60 = .ok (.ireturn, 1) := by decide +kernel
theorem dX2_tellPart_61 : decode cX2_tellPart 61 = .ok (.aload_n 0, 1) := by decide +kernel
theorem dX2_tellPart_62 : decode cX2_tellPart 62 = .ok (.getfield 18, 3) := by decide +kernel
theorem dX2_tellPart_65 : decode cX2_tellPart 65 = .ok (.iload 4, 2) := by decide +kernel
theorem dX2_tellPart_67 : decode cX2_tellPart 67 = .ok (.iload_n 1, 1) := by decide +kernel
theorem dX2_tellPart_68 : decode cX2_tellPart 68 = .ok (.iastore, 1) := by decide +kernel
theorem dX2_tellPart_69 : decode cX2_tellPart 69 = .ok (.aload_n 0, 1) := by decide +kernel
theorem dX2_tellPart_70 : decode cX2_tellPart 70 = .ok (.getfield 21, 3) := by decide +kernel
theorem dX2_tellPart_73 : decode cX2_tellPart 73 = .ok (.iload 4, 2) := by decide +kernel
theorem dX2_tellPart_75 : decode cX2_tellPart 75 = .ok (.iload_n 2, 1) := by decide +kernel
theorem dX2_tellPart_76 : decode cX2_tellPart 76 = .ok (.iastore, 1) := by decide +kernel
theorem dX2_tellPart_77 : decode cX2_tellPart 77 = .ok (.aload_n 0, 1) := by decide +kernel
theorem dX2_tellPart_78 : decode cX2_tellPart 78 = .ok (.getfield 24, 3) := by decide +kernel
theorem dX2_tellPart_81 : decode cX2_tellPart 81 = .ok (.iload 4, 2) := by decide +kernel
theorem dX2_tellPart_83 : decode cX2_tellPart 83 = .ok (.iload_n 3, 1) := by decide +kernel
theorem dX2_tellPart_84 : decode cX2_tellPart 84 = .ok (.iastore, 1) := by decide +kernel
theorem dX2_tellPart_85 : decode cX2_tellPart 85 = .ok (.aload_n 0, 1) := by decide +kernel
theorem dX2_tellPart_86 : decode cX2_tellPart 86 = .ok (.aload_n 0, 1) := by decide +kernel
theorem dX2_tellPart_87 : decode cX2_tellPart 87 = .ok (.getfield 40, 3) := by decide +kernel
theorem dX2_tellPart_90 : decode cX2_tellPart 90 = .ok (.iload 4, 2) := by decide +kernel
theorem dX2_tellPart_92 : decode cX2_tellPart 92 = .ok (.iconst 1, 1) := by decide +kernel
theorem dX2_tellPart_93 : decode cX2_tellPart 93 = .ok (.iadd, 1) := by decide +kernel
theorem dX2_tellPart_94 : decode cX2_tellPart 94 = .ok (.invokestatic 43, 3) := by decide +kernel
theorem dX2_tellPart_97 : decode cX2_tellPart 97 = .ok (.putfield 40, 3) := by decide +kernel
theorem dX2_tellPart_100 : decode cX2_tellPart 100 = .ok (.iconst 1, 1) := by decide +kernel
theorem dX2_tellPart_101 : decode cX2_tellPart 101 = .ok (.ireturn, 1) := by decide +kernel
theorem dX2_tellCount_0 : decode cX2_tellCount 0 = .ok (.iload_n 1, 1) := by decide +kernel
theorem dX2_tellCount_1 : decode cX2_tellCount 1 = .ok (.iconst 3, 1) := by decide +kernel
theorem dX2_tellCount_2 : decode cX2_tellCount 2 = .ok (.imul, 1) := by decide +kernel
theorem dX2_tellCount_3 : decode cX2_tellCount 3 = .ok (.iload_n 2, 1) := by decide +kernel
theorem dX2_tellCount_4 : decode cX2_tellCount 4 = .ok (.iadd, 1) := by decide +kernel
theorem dX2_tellCount_5 : decode cX2_tellCount 5 = .ok (.istore 5, 2) := by decide +kernel
theorem dX2_tellCount_7 : decode cX2_tellCount 7 = .ok (.aload_n 0, 1) := by decide +kernel
theorem dX2_tellCount_8 : decode cX2_tellCount 8 = .ok (.getfield 49, 3) := by decide +kernel
theorem dX2_tellCount_11 : decode cX2_tellCount 11 = .ok (.istore 6, 2) := by decide +kernel
theorem dX2_tellCount_13 : decode cX2_tellCount 13 = .ok (.aload_n 0, 1) := by decide +kernel
theorem dX2_tellCount_14 : decode cX2_tellCount 14 = .ok (.getfield 49, 3) := by decide +kernel
theorem dX2_tellCount_17 : decode cX2_tellCount 17 = .ok (.iconst 1, 1) := by decide +kernel
theorem dX2_tellCount_18 : decode cX2_tellCount 18 = .ok (.isub, 1) := by decide +kernel
theorem dX2_tellCount_19 : decode cX2_tellCount 19 = .ok (.istore 7, 2) := by decide +kernel
theorem dX2_tellCount_21 : decode cX2_tellCount 21 = .ok (.iload 7, 2) := by decide +kernel
theorem dX2_tellCount_23 : decode cX2_tellCount 23 = .ok (.ifCond .lt 37, 3) := by decide +kernel
theorem dX2_tellCount_26 : decode cX2_tellCount 26 = .ok (.aload_n 0, 1) := by decide +kernel
theorem dX2_tellCount_27 : decode cX2_tellCount 27 = .ok (.getfield 33, 3) := by decide +kernel
theorem dX2_tellCount_30 : decode cX2_tellCount 30 = .ok (.iload 7, 2) := by decide +kernel
theorem dX2_tellCount_32 : decode cX2_tellCount 32 = .ok (.iaload, 1) := by decide +kernel
theorem dX2_tellCount_33 : decode cX2_tellCount 33 = .ok (.iload 4, 2) := by decide +kernel
theorem dX2_tellCount_35 : decode cX2_tellCount 35 = .ok (.if_icmp .ne 25, 3) := by decide +kernel
theorem dX2_tellCount_38 : decode cX2_tellCount 38 = .ok (.aload_n 0, 1) := by decide +kernel
theorem dX2_tellCount_39 : decode cX2_tellCount 39 = .ok (.getfield 27, 3) := by decide +kernel
theorem dX2_tellCount_42 : decode cX2_tellCount 42 = .ok (.iload 7, 2) := by decide +kernel
theorem dX2_tellCount_44 : decode cX2_tellCount 44 = .ok (.iaload, 1) := by decide +kernel
theorem dX2_tellCount_45 : decode cX2_tellCount 45 = .ok (.iload 5, 2) := by decide +kernel
theorem dX2_tellCount_47 : decode cX2_tellCount 47 = .ok (.if_icmp .ne 7, 3) := by decide +kernel
theorem dX2_tellCount_50 : decode cX2_tellCount 50 = .ok (.iload 7, 2) := by decide +kernel
theorem dX2_tellCount_52 : decode cX2_tellCount 52 = .ok (.istore 6, 2) := by decide +kernel
theorem dX2_tellCount_54 : decode cX2_tellCount 54 = .ok (.iinc 7 (-1), 3) := by decide +kernel
theorem dX2_tellCount_57 : decode cX2_tellCount 57 = .ok (.goto (-36), 3) := by decide +kernel
theorem dX2_tellCount_60 : decode cX2_tellCount 60 = .ok (.iload 6, 2) := by decide +kernel
theorem dX2_tellCount_62 : decode cX2_tellCount 62 = .ok (.sipush 200, 3) := by decide +kernel
theorem dX2_tellCount_65 : decode cX2_tellCount 65 = .ok (.if_icmp .lt 5, 3) := by decide +kernel
theorem dX2_tellCount_68 : decode cX2_tellCount 68 = .ok (.iconst 0, 1) := by decide +kernel
theorem dX2_tellCount_69 : decode cX2_tellCount 69 = .ok (.ireturn, 1) := by decide +kernel
theorem dX2_tellCount_70 : decode cX2_tellCount 70 = .ok (.aload_n 0, 1) := by decide +kernel
theorem dX2_tellCount_71 : decode cX2_tellCount 71 = .ok (.getfield 27, 3) := by decide +kernel
theorem dX2_tellCount_74 : decode cX2_tellCount 74 = .ok (.iload 6, 2) := by decide +kernel
theorem dX2_tellCount_76 : decode cX2_tellCount 76 = .ok (.iload 5, 2) := by decide +kernel
theorem dX2_tellCount_78 : decode cX2_tellCount 78 = .ok (.iastore, 1) := by decide +kernel
theorem dX2_tellCount_79 : decode cX2_tellCount 79 = .ok (.aload_n 0, 1) := by decide +kernel
theorem dX2_tellCount_80 : decode cX2_tellCount 80 = .ok (.getfield 30, 3) := by decide +kernel
theorem dX2_tellCount_83 : decode cX2_tellCount 83 = .ok (.iload 6, 2) := by decide +kernel
theorem dX2_tellCount_85 : decode cX2_tellCount 85 = .ok (.iload_n 3, 1) := by decide +kernel
theorem dX2_tellCount_86 : decode cX2_tellCount 86 = .ok (.iastore, 1) := by decide +kernel
theorem dX2_tellCount_87 : decode cX2_tellCount 87 = .ok (.aload_n 0, 1) := by decide +kernel
theorem dX2_tellCount_88 : decode cX2_tellCount 88 = .ok (.getfield 33, 3) := by decide +kernel
theorem dX2_tellCount_91 : decode cX2_tellCount 91 = .ok (.iload 6, 2) := by decide +kernel
theorem dX2_tellCount_93 : decode cX2_tellCount 93 = .ok (.iload 4, 2) := by decide +kernel
theorem dX2_tellCount_95 : decode cX2_tellCount 95 = .ok (.iastore, 1) := by decide +kernel
theorem dX2_tellCount_96 : decode cX2_tellCount 96 = .ok (.aload_n 0, 1) := by decide +kernel
theorem dX2_tellCount_97 : decode cX2_tellCount 97 = .ok (.aload_n 0, 1) := by decide +kernel
theorem dX2_tellCount_98 : decode cX2_tellCount 98 = .ok (.getfield 49, 3) := by decide +kernel
theorem dX2_tellCount_101 : decode cX2_tellCount 101 = .ok (.iload 6, 2) := by decide +kernel
theorem dX2_tellCount_103 : decode cX2_tellCount 103 = .ok (.iconst 1, 1) := by decide +kernel
theorem dX2_tellCount_104 : decode cX2_tellCount 104 = .ok (.iadd, 1) := by decide +kernel
theorem dX2_tellCount_105 : decode cX2_tellCount 105 = .ok (.invokestatic 43, 3) := by decide +kernel
theorem dX2_tellCount_108 : decode cX2_tellCount 108 = .ok (.putfield 49, 3) := by decide +kernel
theorem dX2_tellCount_111 : decode cX2_tellCount 111 = .ok (.iconst 1, 1) := by decide +kernel
theorem dX2_tellCount_112 : decode cX2_tellCount 112 = .ok (.ireturn, 1) := by decide +kernel
theorem dX2_fillParents_0 : decode cX2_fillParents 0 = .ok (.aload_n 1, 1) := by decide +kernel
theorem dX2_fillParents_1 : decode cX2_fillParents 1 = .ok (.iconst (-1), 1) := by decide +kernel
theorem dX2_fillParents_2 : decode cX2_fillParents 2 = .ok (.invokestatic 52, 3) := by decide +kernel
theorem dX2_fillParents_5 : decode cX2_fillParents 5 = .ok (.iconst 0, 1) := by decide +kernel
theorem dX2_fillParents_6 : decode cX2_fillParents 6 = .ok (.istore_n 3, 1) := by decide +kernel
theorem dX2_fillParents_7 : decode cX2_fillParents 7 = .ok (.iload_n 3, 1) := by decide +kernel
theorem dX2_fillParents_8 : decode cX2_fillParents 8 = .ok (.aload_n 0, 1) := by decide +kernel
theorem dX2_fillParents_9 : decode cX2_fillParents 9 = .ok (.getfield 40, 3) := by decide +kernel
theorem dX2_fillParents_12 : decode cX2_fillParents 12 = .ok (.if_icmp .ge 33, 3) := by decide +kernel
theorem dX2_fillParents_15 : decode cX2_fillParents 15 = .ok (.aload_n 0, 1) := by decide +kernel
theorem dX2_fillParents_16 : decode cX2_fillParents 16 = .ok (.getfield 24, 3) := by decide +kernel
theorem dX2_fillParents_19 : decode cX2_fillParents 19 = .ok (.iload_n 3, 1) := by decide +kernel
theorem dX2_fillParents_20 : decode cX2_fillParents 20 = .ok (.iaload, 1) := by decide +kernel
theorem dX2_fillParents_21 : decode cX2_fillParents 21 = .ok (.iload_n 2, 1) := by decide +kernel
theorem dX2_fillParents_22 : decode cX2_fillParents 22 = .ok (.if_icmp .gt 23, 3) := by decide +kernel
theorem dX2_fillParents_25 : decode cX2_fillParents 25 = .ok (.aload_n 1, 1) := by decide +kernel
theorem dX2_fillParents_26 : decode cX2_fillParents 26 = .ok (.aload_n 0, 1) := by decide +kernel
theorem dX2_fillParents_27 : decode cX2_fillParents 27 = .ok (.getfield 18, 3) := by decide +kernel
theorem dX2_fillParents_30 : decode cX2_fillParents 30 = .ok (.iload_n 3, 1) := by decide +kernel
theorem dX2_fillParents_31 : decode cX2_fillParents 31 = .ok (.iaload, 1) := by decide +kernel
theorem dX2_fillParents_32 : decode cX2_fillParents 32 = .ok (.aload_n 0, 1) := by decide +kernel
theorem dX2_fillParents_33 : decode cX2_fillParents 33 = .ok (.getfield 21, 3) := by decide +kernel
theorem dX2_fillParents_36 : decode cX2_fillParents 36 = .ok (.iload_n 3, 1) := by decide +kernel
theorem dX2_fillParents_37 : decode cX2_fillParents 37 = .ok (.iaload, 1) := by decide +kernel
theorem dX2_fillParents_38 : decode cX2_fillParents 38 = .ok (.iastore, 1) := by decide +kernel
theorem dX2_fillParents_39 : decode cX2_fillParents 39 = .ok (.iinc 3 1, 3) := by decide +kernel
theorem dX2_fillParents_42 : decode cX2_fillParents 42 = .ok (.goto (-35), 3) := by decide +kernel
theorem dX2_fillParents_45 : decode cX2_fillParents 45 = .ok (.return_, 1) := by decide +kernel
theorem dX2_fillOwn_0 : decode cX2_fillOwn 0 = .ok (.aload_n 1, 1) := by decide +kernel
theorem dX2_fillOwn_1 : decode cX2_fillOwn 1 = .ok (.iconst 0, 1) := by decide +kernel
theorem dX2_fillOwn_2 : decode cX2_fillOwn 2 = .ok (.invokestatic 52, 3) := by decide +kernel
theorem dX2_fillOwn_5 : decode cX2_fillOwn 5 = .ok (.iconst 0, 1) := by decide +kernel
theorem dX2_fillOwn_6 : decode cX2_fillOwn 6 = .ok (.istore_n 3, 1) := by decide +kernel
theorem dX2_fillOwn_7 : decode cX2_fillOwn 7 = .ok (.iload_n 3, 1) := by decide +kernel
theorem dX2_fillOwn_8 : decode cX2_fillOwn 8 = .ok (.aload_n 0, 1) := by decide +kernel
theorem dX2_fillOwn_9 : decode cX2_fillOwn 9 = .ok (.getfield 49, 3) := by decide +kernel
theorem dX2_fillOwn_12 : decode cX2_fillOwn 12 = .ok (.if_icmp .ge 33, 3) := by decide +kernel
theorem dX2_fillOwn_15 : decode cX2_fillOwn 15 = .ok (.aload_n 0, 1) := by decide +kernel
theorem dX2_fillOwn_16 : decode cX2_fillOwn 16 = .ok (.getfield 33, 3) := by decide +kernel
theorem dX2_fillOwn_19 : decode cX2_fillOwn 19 = .ok (.iload_n 3, 1) := by decide +kernel
theorem dX2_fillOwn_20 : decode cX2_fillOwn 20 = .ok (.iaload, 1) := by decide +kernel
theorem dX2_fillOwn_21 : decode cX2_fillOwn 21 = .ok (.iload_n 2, 1) := by decide +kernel
theorem dX2_fillOwn_22 : decode cX2_fillOwn 22 = .ok (.if_icmp .gt 23, 3) := by decide +kernel
theorem dX2_fillOwn_25 : decode cX2_fillOwn 25 = .ok (.aload_n 1, 1) := by decide +kernel
theorem dX2_fillOwn_26 : decode cX2_fillOwn 26 = .ok (.aload_n 0, 1) := by decide +kernel
theorem dX2_fillOwn_27 : decode cX2_fillOwn 27 = .ok (.getfield 27, 3) := by decide +kernel
theorem dX2_fillOwn_30 : decode cX2_fillOwn 30 = .ok (.iload_n 3, 1) := by decide +kernel
theorem dX2_fillOwn_31 : decode cX2_fillOwn 31 = .ok (.iaload, 1) := by decide +kernel
theorem dX2_fillOwn_32 : decode cX2_fillOwn 32 = .ok (.aload_n 0, 1) := by decide +kernel
theorem dX2_fillOwn_33 : decode cX2_fillOwn 33 = .ok (.getfield 30, 3) := by decide +kernel
theorem dX2_fillOwn_36 : decode cX2_fillOwn 36 = .ok (.iload_n 3, 1) := by decide +kernel
theorem dX2_fillOwn_37 : decode cX2_fillOwn 37 = .ok (.iaload, 1) := by decide +kernel
theorem dX2_fillOwn_38 : decode cX2_fillOwn 38 = .ok (.iastore, 1) := by decide +kernel
theorem dX2_fillOwn_39 : decode cX2_fillOwn 39 = .ok (.iinc 3 1, 3) := by decide +kernel
theorem dX2_fillOwn_42 : decode cX2_fillOwn 42 = .ok (.goto (-35), 3) := by decide +kernel
theorem dX2_fillOwn_45 : decode cX2_fillOwn 45 = .ok (.return_, 1) := by decide +kernel
theorem dX2_areNear_0 : decode cX2_areNear 0 = .ok (.aload_n 0, 1) := by decide +kernel
theorem dX2_areNear_1 : decode cX2_areNear 1 = .ok (.getfield 9, 3) := by decide +kernel
theorem dX2_areNear_4 : decode cX2_areNear 4 = .ok (.iload_n 1, 1) := by decide +kernel
theorem dX2_areNear_5 : decode cX2_areNear 5 = .ok (.iaload, 1) := by decide +kernel
theorem dX2_areNear_6 : decode cX2_areNear 6 = .ok (.aload_n 0, 1) := by decide +kernel
theorem dX2_areNear_7 : decode cX2_areNear 7 = .ok (.getfield 9, 3) := by decide +kernel
theorem dX2_areNear_10 : decode cX2_areNear 10 = .ok (.iload_n 2, 1) := by decide +kernel
theorem dX2_areNear_11 : decode cX2_areNear 11 = .ok (.iaload, 1) := by decide +kernel
theorem dX2_areNear_12 : decode cX2_areNear 12 = .ok (.isub, 1) := by decide +kernel
theorem dX2_areNear_13 : decode cX2_areNear 13 = .ok (.istore 4, 2) := by decide +kernel
theorem dX2_areNear_15 : decode cX2_areNear 15 = .ok (.aload_n 0, 1) := by decide +kernel
theorem dX2_areNear_16 : decode cX2_areNear 16 = .ok (.getfield 15, 3) := by decide +kernel
theorem dX2_areNear_19 : decode cX2_areNear 19 = .ok (.iload_n 1, 1) := by decide +kernel
theorem dX2_areNear_20 : decode cX2_areNear 20 = .ok (.iaload, 1) := by decide +kernel
theorem dX2_areNear_21 : decode cX2_areNear 21 = .ok (.aload_n 0, 1) := by decide +kernel
theorem dX2_areNear_22 : decode cX2_areNear 22 = .ok (.getfield 15, 3) := by decide +kernel
theorem dX2_areNear_25 : decode cX2_areNear 25 = .ok (.iload_n 2, 1) := by decide +kernel
theorem dX2_areNear_26 : decode cX2_areNear 26 = .ok (.iaload, 1) := by decide +kernel
theorem dX2_areNear_27 : decode cX2_areNear 27 = .ok (.isub, 1) := by decide +kernel
theorem dX2_areNear_28 : decode cX2_areNear 28 = .ok (.istore 5, 2) := by decide +kernel
theorem dX2_areNear_30 : decode cX2_areNear 30 = .ok (.iload 4, 2) := by decide +kernel
theorem dX2_areNear_32 : decode cX2_areNear 32 = .ok (.iload 4, 2) := by decide +kernel
theorem dX2_areNear_34 : decode cX2_areNear 34 = .ok (.imul, 1) := by decide +kernel
theorem dX2_areNear_35 : decode cX2_areNear 35 = .ok (.iload 5, 2) := by decide +kernel
theorem dX2_areNear_37 : decode cX2_areNear 37 = .ok (.iload 5, 2) := by decide +kernel
theorem dX2_areNear_39 : decode cX2_areNear 39 = .ok (.imul, 1) := by decide +kernel
theorem dX2_areNear_40 : decode cX2_areNear 40 = .ok (.iadd, 1) := by decide +kernel
theorem dX2_areNear_41 : decode cX2_areNear 41 = .ok (.iload_n 3, 1) := by decide +kernel
theorem dX2_areNear_42 : decode cX2_areNear 42 = .ok (.iload_n 3, 1) := by decide +kernel
theorem dX2_areNear_43 : decode cX2_areNear 43 = .ok (.imul, 1) := by decide +kernel
theorem dX2_areNear_44 : decode cX2_areNear 44 = .ok (.if_icmp .gt 7, 3) := by decide +kernel
theorem dX2_areNear_47 : decode cX2_areNear 47 = .ok (.iconst 1, 1) := by decide +kernel
theorem dX2_areNear_48 : decode cX2_areNear 48 = .ok (.goto 4, 3) := by decide +kernel
theorem dX2_areNear_51 : decode cX2_areNear 51 = .ok (.iconst 0, 1) := by decide +kernel
theorem dX2_areNear_52 : decode cX2_areNear 52 = .ok (.ireturn, 1) := by decide +kernel
theorem dX2_copyFrom_0 : decode cX2_copyFrom 0 = .ok (.aload_n 0, 1) := by decide +kernel
theorem dX2_copyFrom_1 : decode cX2_copyFrom 1 = .ok (.aload_n 1, 1) := by decide +kernel
theorem dX2_copyFrom_2 : decode cX2_copyFrom 2 = .ok (.getfield 36, 3) := by decide +kernel
theorem dX2_copyFrom_5 : decode cX2_copyFrom 5 = .ok (.putfield 36, 3) := by decide +kernel
theorem dX2_copyFrom_8 : decode cX2_copyFrom 8 = .ok (.aload_n 1, 1) := by decide +kernel
theorem dX2_copyFrom_9 : decode cX2_copyFrom 9 = .ok (.getfield 9, 3) := by decide +kernel
theorem dX2_copyFrom_12 : decode cX2_copyFrom 12 = .ok (.iconst 0, 1) := by decide +kernel
theorem dX2_copyFrom_13 : decode cX2_copyFrom 13 = .ok (.aload_n 0, 1) := by decide +kernel
theorem dX2_copyFrom_14 : decode cX2_copyFrom 14 = .ok (.getfield 9, 3) := by decide +kernel
theorem dX2_copyFrom_17 : decode cX2_copyFrom 17 = .ok (.iconst 0, 1) := by decide +kernel
theorem dX2_copyFrom_18 : decode cX2_copyFrom 18 = .ok (.aload_n 0, 1) := by decide +kernel
theorem dX2_copyFrom_19 : decode cX2_copyFrom 19 = .ok (.getfield 36, 3) := by decide +kernel
theorem dX2_copyFrom_22 : decode cX2_copyFrom 22 = .ok (.invokestatic 58, 3) := by decide +kernel
theorem dX2_copyFrom_25 : decode cX2_copyFrom 25 = .ok (.aload_n 1, 1) := by decide +kernel
theorem dX2_copyFrom_26 : decode cX2_copyFrom 26 = .ok (.getfield 15, 3) := by decide +kernel
theorem dX2_copyFrom_29 : decode cX2_copyFrom 29 = .ok (.iconst 0, 1) := by decide +kernel
theorem dX2_copyFrom_30 : decode cX2_copyFrom 30 = .ok (.aload_n 0, 1) := by decide +kernel
theorem dX2_copyFrom_31 : decode cX2_copyFrom 31 = .ok (.getfield 15, 3) := by decide +kernel
theorem dX2_copyFrom_34 : decode cX2_copyFrom 34 = .ok (.iconst 0, 1) := by decide +kernel
theorem dX2_copyFrom_35 : decode cX2_copyFrom 35 = .ok (.aload_n 0, 1) := by decide +kernel
theorem dX2_copyFrom_36 : decode cX2_copyFrom 36 = .ok (.getfield 36, 3) := by decide +kernel
theorem dX2_copyFrom_39 : decode cX2_copyFrom 39 = .ok (.invokestatic 58, 3) := by decide +kernel
theorem dX2_copyFrom_42 : decode cX2_copyFrom 42 = .ok (.aload_n 0, 1) := by decide +kernel
theorem dX2_copyFrom_43 : decode cX2_copyFrom 43 = .ok (.aload_n 1, 1) := by decide +kernel
theorem dX2_copyFrom_44 : decode cX2_copyFrom 44 = .ok (.getfield 40, 3) := by decide +kernel
theorem dX2_copyFrom_47 : decode cX2_copyFrom 47 = .ok (.putfield 40, 3) := by decide +kernel
theorem dX2_copyFrom_50 : decode cX2_copyFrom 50 = .ok (.aload_n 1, 1) := by decide +kernel
theorem dX2_copyFrom_51 : decode cX2_copyFrom 51 = .ok (.getfield 18, 3) := by decide +kernel
theorem dX2_copyFrom_54 : decode cX2_copyFrom 54 = .ok (.iconst 0, 1) := by decide +kernel
theorem dX2_copyFrom_55 : decode cX2_copyFrom 55 = .ok (.aload_n 0, 1) := by decide +kernel
theorem dX2_copyFrom_56 : decode cX2_copyFrom 56 = .ok (.getfield 18, 3) := by decide +kernel
theorem dX2_copyFrom_59 : decode cX2_copyFrom 59 = .ok (.iconst 0, 1) := by decide +kernel
theorem dX2_copyFrom_60 : decode cX2_copyFrom 60 = .ok (.aload_n 0, 1) := by decide +kernel
theorem dX2_copyFrom_61 : decode cX2_copyFrom 61 = .ok (.getfield 40, 3) := by decide +kernel
theorem dX2_copyFrom_64 : decode cX2_copyFrom 64 = .ok (.invokestatic 58, 3) := by decide +kernel
theorem dX2_copyFrom_67 : decode cX2_copyFrom 67 = .ok (.aload_n 1, 1) := by decide +kernel
theorem dX2_copyFrom_68 : decode cX2_copyFrom 68 = .ok (.getfield 21, 3) := by decide +kernel
theorem dX2_copyFrom_71 : decode cX2_copyFrom 71 = .ok (.iconst 0, 1) := by decide +kernel
theorem dX2_copyFrom_72 : decode cX2_copyFrom 72 = .ok (.aload_n 0, 1) := by decide +kernel
theorem dX2_copyFrom_73 : decode cX2_copyFrom 73 = .ok (.getfield 21, 3) := by decide +kernel
theorem dX2_copyFrom_76 : decode cX2_copyFrom 76 = .ok (.iconst 0, 1) := by decide +kernel
theorem dX2_copyFrom_77 : decode cX2_copyFrom 77 = .ok (.aload_n 0, 1) := by decide +kernel
theorem dX2_copyFrom_78 : decode cX2_copyFrom 78 = .ok (.getfield 40, 3) := by decide +kernel
theorem dX2_copyFrom_81 : decode cX2_copyFrom 81 = .ok (.invokestatic 58, 3) := by decide +kernel
theorem dX2_copyFrom_84 : decode cX2_copyFrom 84 = .ok (.aload_n 1, 1) := by decide +kernel
theorem dX2_copyFrom_85 : decode cX2_copyFrom 85 = .ok (.getfield 24, 3) := by decide +kernel
theorem dX2_copyFrom_88 : decode cX2_copyFrom 88 = .ok (.iconst 0, 1) := by decide +kernel
theorem dX2_copyFrom_89 : decode cX2_copyFrom 89 = .ok (.aload_n 0, 1) := by decide +kernel
theorem dX2_copyFrom_90 : decode cX2_copyFrom 90 = .ok (.getfield 24, 3) := by decide +kernel
theorem dX2_copyFrom_93 : decode cX2_copyFrom 93 = .ok (.iconst 0, 1) := by decide +kernel
theorem dX2_copyFrom_94 : decode cX2_copyFrom 94 = .ok (.aload_n 0, 1) := by decide +kernel
theorem dX2_copyFrom_95 : decode cX2_copyFrom 95 = .ok (.getfield 40, 3) := by decide +kernel
theorem dX2_copyFrom_98 : decode cX2_copyFrom 98 = .ok (.invokestatic 58, 3) := by decide +kernel
theorem dX2_copyFrom_101 : decode cX2_copyFrom 101 = .ok (.aload_n 0, 1) := by decide +kernel
theorem dX2_copyFrom_102 : decode cX2_copyFrom 102 = .ok (.aload_n 1, 1) := by decide +kernel
theorem dX2_copyFrom_103 : decode cX2_copyFrom 103 = .ok (.getfield 49, 3) := by decide +kernel
theorem dX2_copyFrom_106 : decode cX2_copyFrom 106 = .ok (.putfield 49, 3) := by decide +kernel
theorem dX2_copyFrom_109 : decode cX2_copyFrom 109 = .ok (.aload_n 1, 1) := by decide +kernel
theorem dX2_copyFrom_110 : decode cX2_copyFrom 110 = .ok (.getfield 27, 3) := by decide +kernel
theorem dX2_copyFrom_113 : decode cX2_copyFrom 113 = .ok (.iconst 0, 1) := by decide +kernel
theorem dX2_copyFrom_114 : decode cX2_copyFrom 114 = .ok (.aload_n 0, 1) := by decide +kernel
theorem dX2_copyFrom_115 : decode cX2_copyFrom 115 = .ok (.getfield 27, 3) := by decide +kernel
theorem dX2_copyFrom_118 : decode cX2_copyFrom 118 = .ok (.iconst 0, 1) := by decide +kernel
theorem dX2_copyFrom_119 : decode cX2_copyFrom 119 = .ok (.aload_n 0, 1) := by decide +kernel
theorem dX2_copyFrom_120 : decode cX2_copyFrom 120 = .ok (.getfield 49, 3) := by decide +kernel
theorem dX2_copyFrom_123 : decode cX2_copyFrom 123 = .ok (.invokestatic 58, 3) := by decide +kernel
theorem dX2_copyFrom_126 : decode cX2_copyFrom 126 = .ok (.aload_n 1, 1) := by decide +kernel
theorem dX2_copyFrom_127 : decode cX2_copyFrom 127 = .ok (.getfield 30, 3) := by decide +kernel
theorem dX2_copyFrom_130 : decode cX2_copyFrom 130 = .ok (.iconst 0, 1) := by decide +kernel
theorem dX2_copyFrom_131 : decode cX2_copyFrom 131 = .ok (.aload_n 0, 1) := by decide +kernel
theorem dX2_copyFrom_132 : decode cX2_copyFrom 132 = .ok (.getfield 30, 3) := by decide +kernel
theorem dX2_copyFrom_135 : decode cX2_copyFrom 135 = .ok (.iconst 0, 1) := by decide +kernel
theorem dX2_copyFrom_136 : decode cX2_copyFrom 136 = .ok (.aload_n 0, 1) := by decide +kernel
theorem dX2_copyFrom_137 : decode cX2_copyFrom 137 = .ok (.getfield 49, 3) := by decide +kernel
theorem dX2_copyFrom_140 : decode cX2_copyFrom 140 = .ok (.invokestatic 58, 3) := by decide +kernel
theorem dX2_copyFrom_143 : decode cX2_copyFrom 143 = .ok (.aload_n 1, 1) := by decide +kernel
theorem dX2_copyFrom_144 : decode cX2_copyFrom 144 = .ok (.getfield 33, 3) := by decide +kernel
theorem dX2_copyFrom_147 : decode cX2_copyFrom 147 = .ok (.iconst 0, 1) := by decide +kernel
theorem dX2_copyFrom_148 : decode cX2_copyFrom 148 = .ok (.aload_n 0, 1) := by decide +kernel
theorem dX2_copyFrom_149 : decode cX2_copyFrom 149 = .ok (.getfield 33, 3) := by decide +kernel
theorem dX2_copyFrom_152 : decode cX2_copyFrom 152 = .ok (.iconst 0, 1) := by decide +kernel
theorem dX2_copyFrom_153 : decode cX2_copyFrom 153 = .ok (.aload_n 0, 1) := by decide +kernel
theorem dX2_copyFrom_154 : decode cX2_copyFrom 154 = .ok (.getfield 49, 3) := by decide +kernel
theorem dX2_copyFrom_157 : decode cX2_copyFrom 157 = .ok (.invokestatic 58, 3) := by decide +kernel
theorem dX2_copyFrom_160 : decode cX2_copyFrom 160 = .ok (.return_, 1) := by decide +kernel
theorem dX3_add_0 : decode cX3_add 0 = .ok (.aload_n 0, 1) := by decide +kernel
theorem dX3_add_1 : decode cX3_add 1 = .ok (.getfield 35, 3) := by decide +kernel
theorem dX3_add_4 : decode cX3_add 4 = .ok (.bipush 7, 2) := by decide +kernel
theorem dX3_add_6 : decode cX3_add 6 = .ok (.if_icmp .ge 12, 3) := by decide +kernel
theorem dX3_add_9 : decode cX3_add 9 = .ok (.aload_n 1, 1) := by decide +kernel
theorem dX3_add_10 : decode cX3_add 10 = .ok (.getfield 38, 3) := by decide +kernel
theorem dX3_add_13 : decode cX3_add 13 = .ok (.bipush 24, 2) := by decide +kernel
theorem dX3_add_15 : decode cX3_add 15 = .ok (.if_icmp .le 5, 3) := by decide +kernel
theorem dX3_add_18 : decode cX3_add 18 = .ok (.iconst 0, 1) := by decide +kernel
theorem dX3_add_19 : decode cX3_add 19 = .ok (.ireturn, 1) := by decide +kernel
theorem dX3_add_20 : decode cX3_add 20 = .ok (.aload_n 0, 1) := by decide +kernel
theorem dX3_add_21 : decode cX3_add 21 = .ok (.getfield 15, 3) := by decide +kernel
theorem dX3_add_24 : decode cX3_add 24 = .ok (.aload_n 0, 1) := by decide +kernel
theorem dX3_add_25 : decode cX3_add 25 = .ok (.getfield 35, 3) := by decide +kernel
theorem dX3_add_28 : decode cX3_add 28 = .ok (.aload_n 1, 1) := by decide +kernel
theorem dX3_add_29 : decode cX3_add 29 = .ok (.getfield 38, 3) := by decide +kernel
theorem dX3_add_32 : decode cX3_add 32 = .ok (.iastore, 1) := by decide +kernel
theorem dX3_add_33 : decode cX3_add 33 = .ok (.aload_n 1, 1) := by decide +kernel
theorem dX3_add_34 : decode cX3_add 34 = .ok (.getfield 41, 3) := by decide +kernel
theorem dX3_add_37 : decode cX3_add 37 = .ok (.iconst 0, 1) := by decide +kernel
theorem dX3_add_38 : decode cX3_add 38 = .ok (.aload_n 0, 1) := by decide +kernel
theorem dX3_add_39 : decode cX3_add 39 = .ok (.getfield 19, 3) := by decide +kernel
theorem dX3_add_42 : decode cX3_add 42 = .ok (.aload_n 0, 1) := by decide +kernel
theorem dX3_add_43 : decode cX3_add 43 = .ok (.getfield 35, 3) := by decide +kernel
theorem dX3_add_46 : decode cX3_add 46 = .ok (.bipush 24, 2) := by decide +kernel
theorem dX3_add_48 : decode cX3_add 48 = .ok (.imul, 1) := by decide +kernel
theorem dX3_add_49 : decode cX3_add 49 = .ok (.aload_n 1, 1) := by decide +kernel
theorem dX3_add_50 : decode cX3_add 50 = .ok (.getfield 38, 3) := by decide +kernel
theorem dX3_add_53 : decode cX3_add 53 = .ok (.invokestatic 44, 3) := by decide +kernel
theorem dX3_add_56 : decode cX3_add 56 = .ok (.aload_n 0, 1) := by decide +kernel
theorem dX3_add_57 : decode cX3_add 57 = .ok (.dup, 1) := by decide +kernel
theorem dX3_add_58 : decode cX3_add 58 = .ok (.getfield 35, 3) := by decide +kernel
theorem dX3_add_61 : decode cX3_add 61 = .ok (.iconst 1, 1) := by decide +kernel
theorem dX3_add_62 : decode cX3_add 62 = .ok (.iadd, 1) := by decide +kernel
theorem dX3_add_63 : decode cX3_add 63 = .ok (.putfield 35, 3) := by decide +kernel
theorem dX3_add_66 : decode cX3_add 66 = .ok (.iconst 1, 1) := by decide +kernel
theorem dX3_add_67 : decode cX3_add 67 = .ok (.ireturn, 1) := by decide +kernel
theorem dX3_greatestSum_0 : decode cX3_greatestSum 0 = .ok (.aload_n 0, 1) := by decide +kernel
theorem dX3_greatestSum_1 : decode cX3_greatestSum 1 = .ok (.aload_n 1, 1) := by decide +kernel
theorem dX3_greatestSum_2 : decode cX3_greatestSum 2 = .ok (.invokevirtual 50, 3) := by decide +kernel
theorem dX3_greatestSum_5 : decode cX3_greatestSum 5 = .ok (.ifCond .eq 14, 3) := by decide +kernel
theorem dX3_greatestSum_8 : decode cX3_greatestSum 8 = .ok (.aload_n 0, 1) := by decide +kernel
theorem dX3_greatestSum_9 : decode cX3_greatestSum 9 = .ok (.getfield 35, 3) := by decide +kernel
theorem dX3_greatestSum_12 : decode cX3_greatestSum 12 = .ok (.aload_n 0, 1) := by decide +kernel
theorem dX3_greatestSum_13 : decode cX3_greatestSum 13 = .ok (.getfield 54, 3) := by decide +kernel
theorem dX3_greatestSum_16 : decode cX3_greatestSum 16 = .ok (.if_icmp .le 5, 3) := by decide +kernel
theorem dX3_greatestSum_19 : decode cX3_greatestSum 19 = .ok (.iconst (-1), 1) := by decide +kernel
theorem dX3_greatestSum_20 : decode cX3_greatestSum 20 = .ok (.ireturn, 1) := by decide +kernel
theorem dX3_greatestSum_21 : decode cX3_greatestSum 21 = .ok (.aload_n 0, 1) := by decide +kernel
theorem dX3_greatestSum_22 : decode cX3_greatestSum 22 = .ok (.aload_n 1, 1) := by decide +kernel
theorem dX3_greatestSum_23 : decode cX3_greatestSum 23 = .ok (.aload_n 2, 1) := by decide +kernel
theorem dX3_greatestSum_24 : decode cX3_greatestSum 24 = .ok (.invokevirtual 57, 3) := by decide +kernel
theorem dX3_greatestSum_27 : decode cX3_greatestSum 27 = .ok (.aload_n 0, 1) := by decide +kernel
theorem dX3_greatestSum_28 : decode cX3_greatestSum 28 = .ok (.aload_n 1, 1) := by decide +kernel
theorem dX3_greatestSum_29 : decode cX3_greatestSum 29 = .ok (.getfield 61, 3) := by decide +kernel
theorem dX3_greatestSum_32 : decode cX3_greatestSum 32 = .ok (.invokevirtual 67, 3) := by decide +kernel
theorem dX3_greatestSum_35 : decode cX3_greatestSum 35 = .ok (.aload_n 0, 1) := by decide +kernel
theorem dX3_greatestSum_36 : decode cX3_greatestSum 36 = .ok (.aload_n 1, 1) := by decide +kernel
theorem dX3_greatestSum_37 : decode cX3_greatestSum 37 = .ok (.getfield 61, 3) := by decide +kernel
theorem dX3_greatestSum_40 : decode cX3_greatestSum 40 = .ok (.iconst 0, 1) := by decide +kernel
theorem dX3_greatestSum_41 : decode cX3_greatestSum 41 = .ok (.iconst (-1), 1) := by decide +kernel
theorem dX3_greatestSum_42 : decode cX3_greatestSum 42 = .ok (.invokevirtual 71, 3) := by decide +kernel
theorem dX3_greatestSum_45 : decode cX3_greatestSum 45 = .ok (.istore_n 3, 1) := by decide +kernel
theorem dX3_greatestSum_46 : decode cX3_greatestSum 46 = .ok (.aload_n 0, 1) := by decide +kernel
theorem dX3_greatestSum_47 : decode cX3_greatestSum 47 = .ok (.aload_n 1, 1) := by decide +kernel
theorem dX3_greatestSum_48 : decode cX3_greatestSum 48 = .ok (.getfield 61, 3) := by decide +kernel
theorem dX3_greatestSum_51 : decode cX3_greatestSum 51 = .ok (.invokevirtual 75, 3) := by decide +kernel
theorem dX3_greatestSum_54 : decode cX3_greatestSum 54 = .ok (.iload_n 3, 1) := by decide +kernel
theorem dX3_greatestSum_55 : decode cX3_greatestSum 55 = .ok (.ireturn, 1) := by decide +kernel
theorem dX3_choosePlaces_0 : decode cX3_choosePlaces 0 = .ok (.aload_n 0, 1) := by decide +kernel
theorem dX3_choosePlaces_1 : decode cX3_choosePlaces 1 = .ok (.iconst 0, 1) := by decide +kernel
theorem dX3_choosePlaces_2 : decode cX3_choosePlaces 2 = .ok (.putfield 54, 3) := by decide +kernel
theorem dX3_choosePlaces_5 : decode cX3_choosePlaces 5 = .ok (.iconst 0, 1) := by decide +kernel
theorem dX3_choosePlaces_6 : decode cX3_choosePlaces 6 = .ok (.istore_n 2, 1) := by decide +kernel
theorem dX3_choosePlaces_7 : decode cX3_choosePlaces 7 = .ok (.iload_n 2, 1) := by decide +kernel
theorem dX3_choosePlaces_8 : decode cX3_choosePlaces 8 = .ok (.aload_n 1, 1) := by decide +kernel
theorem dX3_choosePlaces_9 : decode cX3_choosePlaces 9 = .ok (.getfield 61, 3) := by decide +kernel
theorem dX3_choosePlaces_12 : decode cX3_choosePlaces 12 = .ok (.getfield 78, 3) := by decide +kernel
theorem dX3_choosePlaces_15 : decode cX3_choosePlaces 15 = .ok (.if_icmp .ge 95, 3) := by decide +kernel
theorem dX3_choosePlaces_18 : decode cX3_choosePlaces 18 = .ok (.iconst 0, 1) := by decide +kernel
theorem dX3_choosePlaces_19 : decode cX3_choosePlaces 19 = .ok (.istore_n 3, 1) := by decide +kernel
theorem dX3_choosePlaces_20 : decode cX3_choosePlaces 20 = .ok (.iconst 0, 1) := by decide +kernel
theorem dX3_choosePlaces_21 : decode cX3_choosePlaces 21 = .ok (.istore 4, 2) := by decide +kernel
theorem dX3_choosePlaces_23 : decode cX3_choosePlaces 23 = .ok (.iload 4, 2) := by decide +kernel
theorem dX3_choosePlaces_25 : decode cX3_choosePlaces 25 = .ok (.aload_n 1, 1) := by decide +kernel
theorem dX3_choosePlaces_26 : decode cX3_choosePlaces 26 = .ok (.getfield 81, 3) := by decide +kernel
theorem dX3_choosePlaces_29 : decode cX3_choosePlaces 29 = .ok (.getfield 85, 3) := by decide +kernel
theorem dX3_choosePlaces_32 : decode cX3_choosePlaces 32 = .ok (.if_icmp .ge 33, 3) := by decide +kernel
theorem dX3_choosePlaces_35 : decode cX3_choosePlaces 35 = .ok (.iload_n 3, 1) := by decide +kernel
theorem dX3_choosePlaces_36 : decode cX3_choosePlaces 36 = .ok (.ifCond .ne 29, 3) := by decide +kernel
theorem dX3_choosePlaces_39 : decode cX3_choosePlaces 39 = .ok (.aload_n 1, 1) := by decide +kernel
theorem dX3_choosePlaces_40 : decode cX3_choosePlaces 40 = .ok (.getfield 81, 3) := by decide +kernel
theorem dX3_choosePlaces_43 : decode cX3_choosePlaces 43 = .ok (.getfield 90, 3) := by decide +kernel
theorem dX3_choosePlaces_46 : decode cX3_choosePlaces 46 = .ok (.iload 4, 2) := by decide +kernel
theorem dX3_choosePlaces_48 : decode cX3_choosePlaces 48 = .ok (.iaload, 1) := by decide +kernel
theorem dX3_choosePlaces_49 : decode cX3_choosePlaces 49 = .ok (.iload_n 2, 1) := by decide +kernel
theorem dX3_choosePlaces_50 : decode cX3_choosePlaces 50 = .ok (.if_icmp .ne 7, 3) := by decide +kernel
theorem dX3_choosePlaces_53 : decode cX3_choosePlaces 53 = .ok (.iconst 1, 1) := by decide +kernel
theorem dX3_choosePlaces_54 : decode cX3_choosePlaces 54 = .ok (.goto 4, 3) := by decide +kernel
theorem dX3_choosePlaces_57 : decode cX3_choosePlaces 57 = .ok (.iconst 0, 1) := by decide +kernel
theorem dX3_choosePlaces_58 : decode cX3_choosePlaces 58 = .ok (.istore_n 3, 1) := by decide +kernel
theorem dX3_choosePlaces_59 : decode cX3_choosePlaces 59 = .ok (.iinc 4 1, 3) := by decide +kernel
theorem dX3_choosePlaces_62 : decode cX3_choosePlaces 62 = .ok (.goto (-39), 3) := by decide +kernel
theorem dX3_choosePlaces_65 : decode cX3_choosePlaces 65 = .ok (.iload_n 3, 1) := by decide +kernel
theorem dX3_choosePlaces_66 : decode cX3_choosePlaces 66 = .ok (.ifCond .eq 14, 3) := by decide +kernel
theorem dX3_choosePlaces_69 : decode cX3_choosePlaces 69 = .ok (.aload_n 0, 1) := by decide +kernel
theorem dX3_choosePlaces_70 : decode cX3_choosePlaces 70 = .ok (.getfield 54, 3) := by decide +kernel
theorem dX3_choosePlaces_73 : decode cX3_choosePlaces 73 = .ok (.bipush 10, 2) := by decide +kernel
theorem dX3_choosePlaces_75 : decode cX3_choosePlaces 75 = .ok (.if_icmp .lt 5, 3) := by decide +kernel
theorem dX3_choosePlaces_78 : decode cX3_choosePlaces 78 = .ok (.iconst 0, 1) := by decide +kernel
theorem dX3_choosePlaces_79 : decode cX3_choosePlaces 79 = .ok (.ireturn, 1) := by decide +kernel
theorem dX3_choosePlaces_80 : decode cX3_choosePlaces 80 = .ok (.iload_n 3, 1) := by decide +kernel
theorem dX3_choosePlaces_81 : decode cX3_choosePlaces 81 = .ok (.ifCond .eq 23, 3) := by decide +kernel
theorem dX3_choosePlaces_84 : decode cX3_choosePlaces 84 = .ok (.aload_n 0, 1) := by decide +kernel
theorem dX3_choosePlaces_85 : decode cX3_choosePlaces 85 = .ok (.getfield 26, 3) := by decide +kernel
theorem dX3_choosePlaces_88 : decode cX3_choosePlaces 88 = .ok (.aload_n 0, 1) := by decide +kernel
theorem dX3_choosePlaces_89 : decode cX3_choosePlaces 89 = .ok (.getfield 54, 3) := by decide +kernel
theorem dX3_choosePlaces_92 : decode cX3_choosePlaces 92 = .ok (.iload_n 2, 1) := by decide +kernel
theorem dX3_choosePlaces_93 : decode cX3_choosePlaces 93 = .ok (.iastore, 1) := by decide +kernel
theorem dX3_choosePlaces_94 : decode cX3_choosePlaces 94 = .ok (.aload_n 0, 1) := by decide +kernel
theorem dX3_choosePlaces_95 : decode cX3_choosePlaces 95 = .ok (.dup, 1) := by decide +kernel
theorem dX3_choosePlaces_96 : decode cX3_choosePlaces 96 = .ok (.getfield 54, 3) := by decide +kernel
theorem dX3_choosePlaces_99 : decode cX3_choosePlaces 99 = .ok (.iconst 1, 1) := by decide +kernel
theorem dX3_choosePlaces_100 : decode cX3_choosePlaces 100 = .ok (.iadd, 1) := by decide +kernel
theorem dX3_choosePlaces_101 : decode cX3_choosePlaces 101 = .ok (.putfield 54, 3) := by decide +kernel
theorem dX3_choosePlaces_104 : decode cX3_choosePlaces 104 = .ok (.iinc 2 1, 3) := by decide +kernel
theorem dX3_choosePlaces_107 : decode cX3_choosePlaces 107 = .ok (.goto (-100), 3) := by decide +kernel
theorem dX3_choosePlaces_110 : decode cX3_choosePlaces 110 = .ok (.iconst 1, 1) := by decide +kernel
theorem dX3_choosePlaces_111 : decode cX3_choosePlaces 111 = .ok (.ireturn, 1) := by decide +kernel
theorem dX3_fillGains_0 : decode cX3_fillGains 0 = .ok (.iconst 0, 1) := by decide +kernel
theorem dX3_fillGains_1 : decode cX3_fillGains 1 = .ok (.istore_n 3, 1) := by decide +kernel
theorem dX3_fillGains_2 : decode cX3_fillGains 2 = .ok (.iload_n 3, 1) := by decide +kernel
theorem dX3_fillGains_3 : decode cX3_fillGains 3 = .ok (.aload_n 0, 1) := by decide +kernel
theorem dX3_fillGains_4 : decode cX3_fillGains 4 = .ok (.getfield 35, 3) := by decide +kernel
theorem dX3_fillGains_7 : decode cX3_fillGains 7 = .ok (.if_icmp .ge 104, 3) := by decide +kernel
theorem dX3_fillGains_10 : decode cX3_fillGains 10 = .ok (.aload_n 2, 1) := by decide +kernel
theorem dX3_fillGains_11 : decode cX3_fillGains 11 = .ok (.getfield 91, 3) := by decide +kernel
theorem dX3_fillGains_14 : decode cX3_fillGains 14 = .ok (.iconst 0, 1) := by decide +kernel
theorem dX3_fillGains_15 : decode cX3_fillGains 15 = .ok (.putfield 97, 3) := by decide +kernel
theorem dX3_fillGains_18 : decode cX3_fillGains 18 = .ok (.iconst 0, 1) := by decide +kernel
theorem dX3_fillGains_19 : decode cX3_fillGains 19 = .ok (.istore 4, 2) := by decide +kernel
theorem dX3_fillGains_21 : decode cX3_fillGains 21 = .ok (.iload 4, 2) := by decide +kernel
theorem dX3_fillGains_23 : decode cX3_fillGains 23 = .ok (.aload_n 0, 1) := by decide +kernel
theorem dX3_fillGains_24 : decode cX3_fillGains 24 = .ok (.getfield 15, 3) := by decide +kernel
theorem dX3_fillGains_27 : decode cX3_fillGains 27 = .ok (.iload_n 3, 1) := by decide +kernel
theorem dX3_fillGains_28 : decode cX3_fillGains 28 = .ok (.iaload, 1) := by decide +kernel
theorem dX3_fillGains_29 : decode cX3_fillGains 29 = .ok (.if_icmp .ge 30, 3) := by decide +kernel
theorem dX3_fillGains_32 : decode cX3_fillGains 32 = .ok (.aload_n 2, 1) := by decide +kernel
theorem dX3_fillGains_33 : decode cX3_fillGains 33 = .ok (.getfield 91, 3) := by decide +kernel
theorem dX3_fillGains_36 : decode cX3_fillGains 36 = .ok (.aload_n 0, 1) := by decide +kernel
theorem dX3_fillGains_37 : decode cX3_fillGains 37 = .ok (.getfield 19, 3) := by decide +kernel
theorem dX3_fillGains_40 : decode cX3_fillGains 40 = .ok (.iload_n 3, 1) := by decide +kernel
theorem dX3_fillGains_41 : decode cX3_fillGains 41 = .ok (.bipush 24, 2) := by decide +kernel
theorem dX3_fillGains_43 : decode cX3_fillGains 43 = .ok (.imul, 1) := by decide +kernel
theorem dX3_fillGains_44 : decode cX3_fillGains 44 = .ok (.iload 4, 2) := by decide +kernel
theorem dX3_fillGains_46 : decode cX3_fillGains 46 = .ok (.iadd, 1) := by decide +kernel
theorem dX3_fillGains_47 : decode cX3_fillGains 47 = .ok (.baload, 1) := by decide +kernel
theorem dX3_fillGains_48 : decode cX3_fillGains 48 = .ok (.bipush (-3), 2) := by decide +kernel
