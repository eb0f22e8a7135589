theorem dX12_counted_44 : decode cX12_counted 44 = .ok (.if_icmp .gt 102, 3) := by decide +kernel
theorem dX12_counted_47 : decode cX12_counted 47 = .ok (.iconst 1, 1) := by decide +kernel
theorem dX12_counted_48 : decode cX12_counted 48 = .ok (.istore 4, 2) := by decide +kernel
theorem dX12_counted_50 : decode cX12_counted 50 = .ok (.iconst 0, 1) := by decide +kernel
theorem dX12_counted_51 : decode cX12_counted 51 = .ok (.istore 5, 2) := by decide +kernel
theorem dX12_counted_53 : decode cX12_counted 53 = .ok (.iload 5, 2) := by decide +kernel
theorem dX12_counted_55 : decode cX12_counted 55 = .ok (.iconst 3, 1) := by decide +kernel
theorem dX12_counted_56 : decode cX12_counted 56 = .ok (.if_icmp .ge 42, 3) := by decide +kernel
theorem dX12_counted_59 : decode cX12_counted 59 = .ok (.iload 4, 2) := by decide +kernel
theorem dX12_counted_61 : decode cX12_counted 61 = .ok (.ifCond .eq 28, 3) := by decide +kernel
theorem dX12_counted_64 : decode cX12_counted 64 = .ok (.aload_n 0, 1) := by decide +kernel
theorem dX12_counted_65 : decode cX12_counted 65 = .ok (.getfield 113, 3) := by decide +kernel
theorem dX12_counted_68 : decode cX12_counted 68 = .ok (.iload_n 3, 1) := by decide +kernel
theorem dX12_counted_69 : decode cX12_counted 69 = .ok (.iload 5, 2) := by decide +kernel
theorem dX12_counted_71 : decode cX12_counted 71 = .ok (.iadd, 1) := by decide +kernel
theorem dX12_counted_72 : decode cX12_counted 72 = .ok (.laload, 1) := by decide +kernel
theorem dX12_counted_73 : decode cX12_counted 73 = .ok (.ldc2_w 468, 3) := by decide +kernel
theorem dX12_counted_76 : decode cX12_counted 76 = .ok (.ldc2_w 470, 3) := by decide +kernel
theorem dX12_counted_79 : decode cX12_counted 79 = .ok (.invokestatic 125, 3) := by decide +kernel
theorem dX12_counted_82 : decode cX12_counted 82 = .ok (.ifCond .eq 7, 3) := by decide +kernel
theorem dX12_counted_85 : decode cX12_counted 85 = .ok (.iconst 1, 1) := by decide +kernel
theorem dX12_counted_86 : decode cX12_counted 86 = .ok (.goto 4, 3) := by decide +kernel
theorem dX12_counted_89 : decode cX12_counted 89 = .ok (.iconst 0, 1) := by decide +kernel
theorem dX12_counted_90 : decode cX12_counted 90 = .ok (.istore 4, 2) := by decide +kernel
theorem dX12_counted_92 : decode cX12_counted 92 = .ok (.iinc 5 1, 3) := by decide +kernel
theorem dX12_counted_95 : decode cX12_counted 95 = .ok (.goto (-42), 3) := by decide +kernel
theorem dX12_counted_98 : decode cX12_counted 98 = .ok (.iload 4, 2) := by decide +kernel
theorem dX12_counted_100 : decode cX12_counted 100 = .ok (.ifCond .eq 35, 3) := by decide +kernel
theorem dX12_counted_103 : decode cX12_counted 103 = .ok (.aload_n 0, 1) := by decide +kernel
theorem dX12_counted_104 : decode cX12_counted 104 = .ok (.aload_n 0, 1) := by decide +kernel
theorem dX12_counted_105 : decode cX12_counted 105 = .ok (.getfield 113, 3) := by decide +kernel
theorem dX12_counted_108 : decode cX12_counted 108 = .ok (.iload_n 3, 1) := by decide +kernel
theorem dX12_counted_109 : decode cX12_counted 109 = .ok (.laload, 1) := by decide +kernel
theorem dX12_counted_110 : decode cX12_counted 110 = .ok (.l2i, 1) := by decide +kernel
theorem dX12_counted_111 : decode cX12_counted 111 = .ok (.aload_n 0, 1) := by decide +kernel
theorem dX12_counted_112 : decode cX12_counted 112 = .ok (.getfield 113, 3) := by decide +kernel
theorem dX12_counted_115 : decode cX12_counted 115 = .ok (.iload_n 3, 1) := by decide +kernel
theorem dX12_counted_116 : decode cX12_counted 116 = .ok (.iconst 1, 1) := by decide +kernel
theorem dX12_counted_117 : decode cX12_counted 117 = .ok (.iadd, 1) := by decide +kernel
theorem dX12_counted_118 : decode cX12_counted 118 = .ok (.laload, 1) := by decide +kernel
theorem dX12_counted_119 : decode cX12_counted 119 = .ok (.l2i, 1) := by decide +kernel
theorem dX12_counted_120 : decode cX12_counted 120 = .ok (.aload_n 0, 1) := by decide +kernel
theorem dX12_counted_121 : decode cX12_counted 121 = .ok (.getfield 113, 3) := by decide +kernel
theorem dX12_counted_124 : decode cX12_counted 124 = .ok (.iload_n 3, 1) := by decide +kernel
theorem dX12_counted_125 : decode cX12_counted 125 = .ok (.iconst 2, 1) := by decide +kernel
theorem dX12_counted_126 : decode cX12_counted 126 = .ok (.iadd, 1) := by decide +kernel
theorem dX12_counted_127 : decode cX12_counted 127 = .ok (.laload, 1) := by decide +kernel
theorem dX12_counted_128 : decode cX12_counted 128 = .ok (.l2i, 1) := by decide +kernel
theorem dX12_counted_129 : decode cX12_counted 129 = .ok (.invokevirtual 472, 3) := by decide +kernel
theorem dX12_counted_132 : decode cX12_counted 132 = .ok (.ifCond .ge 5, 3) := by decide +kernel
theorem dX12_counted_135 : decode cX12_counted 135 = .ok (.iload_n 2, 1) := by decide +kernel
theorem dX12_counted_136 : decode cX12_counted 136 = .ok (.ireturn, 1) := by decide +kernel
theorem dX12_counted_137 : decode cX12_counted 137 = .ok (.iinc 2 1, 3) := by decide +kernel
theorem dX12_counted_140 : decode cX12_counted 140 = .ok (.iinc 3 3, 3) := by decide +kernel
theorem dX12_counted_143 : decode cX12_counted 143 = .ok (.goto (-113), 3) := by decide +kernel
theorem dX12_counted_146 : decode cX12_counted 146 = .ok (.iload_n 2, 1) := by decide +kernel
theorem dX12_counted_147 : decode cX12_counted 147 = .ok (.ireturn, 1) := by decide +kernel
theorem dJ6_bitCount_0f7a4_0 : decode cJ6_bitCount_0f7a4 0 = .ok (.iload_n 0, 1) := by decide +kernel
theorem dJ6_bitCount_0f7a4_1 : decode cJ6_bitCount_0f7a4 1 = .ok (.iload_n 0, 1) := by decide +kernel
theorem dJ6_bitCount_0f7a4_2 : decode cJ6_bitCount_0f7a4 2 = .ok (.iconst 1, 1) := by decide +kernel
theorem dJ6_bitCount_0f7a4_3 : decode cJ6_bitCount_0f7a4 3 = .ok (.iushr, 1) := by decide +kernel
theorem dJ6_bitCount_0f7a4_4 : decode cJ6_bitCount_0f7a4 4 = .ok (.ldc_w 265, 3) := by decide +kernel
theorem dJ6_bitCount_0f7a4_7 : decode cJ6_bitCount_0f7a4 7 = .ok (.iand, 1) := by decide +kernel
theorem dJ6_bitCount_0f7a4_8 : decode cJ6_bitCount_0f7a4 8 = .ok (.isub, 1) := by decide +kernel
theorem dJ6_bitCount_0f7a4_9 : decode cJ6_bitCount_0f7a4 9 = .ok (.istore_n 0, 1) := by decide +kernel
theorem dJ6_bitCount_0f7a4_10 : decode cJ6_bitCount_0f7a4 10 = .ok (.iload_n 0, 1) := by decide +kernel
theorem dJ6_bitCount_0f7a4_11 : decode cJ6_bitCount_0f7a4 11 = .ok (.ldc_w 266, 3) := by decide +kernel
theorem dJ6_bitCount_0f7a4_14 : decode cJ6_bitCount_0f7a4 14 = .ok (.iand, 1) := by decide +kernel
theorem dJ6_bitCount_0f7a4_15 : decode cJ6_bitCount_0f7a4 15 = .ok (.iload_n 0, 1) := by decide +kernel
theorem dJ6_bitCount_0f7a4_16 : decode cJ6_bitCount_0f7a4 16 = .ok (.iconst 2, 1) := by decide +kernel
theorem dJ6_bitCount_0f7a4_17 : decode cJ6_bitCount_0f7a4 17 = .ok (.iushr, 1) := by decide +kernel
theorem dJ6_bitCount_0f7a4_18 : decode cJ6_bitCount_0f7a4 18 = .ok (.ldc_w 266, 3) := by decide +kernel
theorem dJ6_bitCount_0f7a4_21 : decode cJ6_bitCount_0f7a4 21 = .ok (.iand, 1) := by decide +kernel
theorem dJ6_bitCount_0f7a4_22 : decode cJ6_bitCount_0f7a4 22 = .ok (.iadd, 1) := by decide +kernel
theorem dJ6_bitCount_0f7a4_23 : decode cJ6_bitCount_0f7a4 23 = .ok (.istore_n 0, 1) := by decide +kernel
theorem dJ6_bitCount_0f7a4_24 : decode cJ6_bitCount_0f7a4 24 = .ok (.iload_n 0, 1) := by decide +kernel
theorem dJ6_bitCount_0f7a4_25 : decode cJ6_bitCount_0f7a4 25 = .ok (.iload_n 0, 1) := by decide +kernel
theorem dJ6_bitCount_0f7a4_26 : decode cJ6_bitCount_0f7a4 26 = .ok (.iconst 4, 1) := by decide +kernel
theorem dJ6_bitCount_0f7a4_27 : decode cJ6_bitCount_0f7a4 27 = .ok (.iushr, 1) := by decide +kernel
theorem dJ6_bitCount_0f7a4_28 : decode cJ6_bitCount_0f7a4 28 = .ok (.iadd, 1) := by decide +kernel
theorem dJ6_bitCount_0f7a4_29 : decode cJ6_bitCount_0f7a4 29 = .ok (.ldc_w 267, 3) := by decide +kernel
theorem dJ6_bitCount_0f7a4_32 : decode cJ6_bitCount_0f7a4 32 = .ok (.iand, 1) := by decide +kernel
theorem dJ6_bitCount_0f7a4_33 : decode cJ6_bitCount_0f7a4 33 = .ok (.istore_n 0, 1) := by decide +kernel
theorem dJ6_bitCount_0f7a4_34 : decode cJ6_bitCount_0f7a4 34 = .ok (.iload_n 0, 1) := by decide +kernel
theorem dJ6_bitCount_0f7a4_35 : decode cJ6_bitCount_0f7a4 35 = .ok (.iload_n 0, 1) := by decide +kernel
theorem dJ6_bitCount_0f7a4_36 : decode cJ6_bitCount_0f7a4 36 = .ok (.bipush 8, 2) := by decide +kernel
theorem dJ6_bitCount_0f7a4_38 : decode cJ6_bitCount_0f7a4 38 = .ok (.iushr, 1) := by decide +kernel
theorem dJ6_bitCount_0f7a4_39 : decode cJ6_bitCount_0f7a4 39 = .ok (.iadd, 1) := by decide +kernel
theorem dJ6_bitCount_0f7a4_40 : decode cJ6_bitCount_0f7a4 40 = .ok (.istore_n 0, 1) := by decide +kernel
theorem dJ6_bitCount_0f7a4_41 : decode cJ6_bitCount_0f7a4 41 = .ok (.iload_n 0, 1) := by decide +kernel
theorem dJ6_bitCount_0f7a4_42 : decode cJ6_bitCount_0f7a4 42 = .ok (.iload_n 0, 1) := by decide +kernel
theorem dJ6_bitCount_0f7a4_43 : decode cJ6_bitCount_0f7a4 43 = .ok (.bipush 16, 2) := by decide +kernel
theorem dJ6_bitCount_0f7a4_45 : decode cJ6_bitCount_0f7a4 45 = .ok (.iushr, 1) := by decide +kernel
theorem dJ6_bitCount_0f7a4_46 : decode cJ6_bitCount_0f7a4 46 = .ok (.iadd, 1) := by decide +kernel
theorem dJ6_bitCount_0f7a4_47 : decode cJ6_bitCount_0f7a4 47 = .ok (.istore_n 0, 1) := by decide +kernel
theorem dJ6_bitCount_0f7a4_48 : decode cJ6_bitCount_0f7a4 48 = .ok (.iload_n 0, 1) := by decide +kernel
theorem dJ6_bitCount_0f7a4_49 : decode cJ6_bitCount_0f7a4 49 = .ok (.bipush 63, 2) := by decide +kernel
theorem dJ6_bitCount_0f7a4_51 : decode cJ6_bitCount_0f7a4 51 = .ok (.iand, 1) := by decide +kernel
theorem dJ6_bitCount_0f7a4_52 : decode cJ6_bitCount_0f7a4 52 = .ok (.ireturn, 1) := by decide +kernel
theorem dJ7_fill_53178_0 : decode cJ7_fill_53178 0 = .ok (.iconst 0, 1) := by decide +kernel
theorem dJ7_fill_53178_1 : decode cJ7_fill_53178 1 = .ok (.istore_n 2, 1) := by decide +kernel
theorem dJ7_fill_53178_2 : decode cJ7_fill_53178 2 = .ok (.aload_n 0, 1) := by decide +kernel
theorem dJ7_fill_53178_3 : decode cJ7_fill_53178 3 = .ok (.arraylength, 1) := by decide +kernel
theorem dJ7_fill_53178_4 : decode cJ7_fill_53178 4 = .ok (.istore_n 3, 1) := by decide +kernel
theorem dJ7_fill_53178_5 : decode cJ7_fill_53178 5 = .ok (.iload_n 2, 1) := by decide +kernel
theorem dJ7_fill_53178_6 : decode cJ7_fill_53178 6 = .ok (.iload_n 3, 1) := by decide +kernel
theorem dJ7_fill_53178_7 : decode cJ7_fill_53178 7 = .ok (.if_icmp .ge 13, 3) := by decide +kernel
theorem dJ7_fill_53178_10 : decode cJ7_fill_53178 10 = .ok (.aload_n 0, 1) := by decide +kernel
theorem dJ7_fill_53178_11 : decode cJ7_fill_53178 11 = .ok (.iload_n 2, 1) := by decide +kernel
theorem dJ7_fill_53178_12 : decode cJ7_fill_53178 12 = .ok (.iload_n 1, 1) := by decide +kernel
theorem dJ7_fill_53178_13 : decode cJ7_fill_53178 13 = .ok (.iastore, 1) := by decide +kernel
theorem dJ7_fill_53178_14 : decode cJ7_fill_53178 14 = .ok (.iinc 2 1, 3) := by decide +kernel
theorem dJ7_fill_53178_17 : decode cJ7_fill_53178 17 = .ok (.goto (-12), 3) := by decide +kernel
theorem dJ7_fill_53178_20 : decode cJ7_fill_53178 20 = .ok (.return_, 1) := by decide +kernel
