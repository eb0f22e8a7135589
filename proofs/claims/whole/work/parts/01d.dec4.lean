theorem dX12_looks_154 : decode cX12_looks 154 = .ok (.iload_n 2, 1) := by decide +kernel
theorem dX12_looks_155 : decode cX12_looks 155 = .ok (.imul, 1) := by decide +kernel
theorem dX12_looks_156 : decode cX12_looks 156 = .ok (.iadd, 1) := by decide +kernel
theorem dX12_looks_157 : decode cX12_looks 157 = .ok (.iaload, 1) := by decide +kernel
theorem dX12_looks_158 : decode cX12_looks 158 = .ok (.imul, 1) := by decide +kernel
theorem dX12_looks_159 : decode cX12_looks 159 = .ok (.aload_n 0, 1) := by decide +kernel
theorem dX12_looks_160 : decode cX12_looks 160 = .ok (.getfield 9, 3) := by decide +kernel
theorem dX12_looks_163 : decode cX12_looks 163 = .ok (.sipush 6690, 3) := by decide +kernel
theorem dX12_looks_166 : decode cX12_looks 166 = .ok (.iconst 4, 1) := by decide +kernel
theorem dX12_looks_167 : decode cX12_looks 167 = .ok (.iload_n 2, 1) := by decide +kernel
theorem dX12_looks_168 : decode cX12_looks 168 = .ok (.imul, 1) := by decide +kernel
theorem dX12_looks_169 : decode cX12_looks 169 = .ok (.iadd, 1) := by decide +kernel
theorem dX12_looks_170 : decode cX12_looks 170 = .ok (.iconst 1, 1) := by decide +kernel
theorem dX12_looks_171 : decode cX12_looks 171 = .ok (.iadd, 1) := by decide +kernel
theorem dX12_looks_172 : decode cX12_looks 172 = .ok (.iaload, 1) := by decide +kernel
theorem dX12_looks_173 : decode cX12_looks 173 = .ok (.iadd, 1) := by decide +kernel
theorem dX12_looks_174 : decode cX12_looks 174 = .ok (.aload_n 0, 1) := by decide +kernel
theorem dX12_looks_175 : decode cX12_looks 175 = .ok (.getfield 9, 3) := by decide +kernel
theorem dX12_looks_178 : decode cX12_looks 178 = .ok (.sipush 6690, 3) := by decide +kernel
theorem dX12_looks_181 : decode cX12_looks 181 = .ok (.iconst 4, 1) := by decide +kernel
theorem dX12_looks_182 : decode cX12_looks 182 = .ok (.iload_n 2, 1) := by decide +kernel
theorem dX12_looks_183 : decode cX12_looks 183 = .ok (.imul, 1) := by decide +kernel
theorem dX12_looks_184 : decode cX12_looks 184 = .ok (.iadd, 1) := by decide +kernel
theorem dX12_looks_185 : decode cX12_looks 185 = .ok (.iconst 2, 1) := by decide +kernel
theorem dX12_looks_186 : decode cX12_looks 186 = .ok (.iadd, 1) := by decide +kernel
theorem dX12_looks_187 : decode cX12_looks 187 = .ok (.iaload, 1) := by decide +kernel
theorem dX12_looks_188 : decode cX12_looks 188 = .ok (.iastore, 1) := by decide +kernel
theorem dX12_looks_189 : decode cX12_looks 189 = .ok (.iinc 2 1, 3) := by decide +kernel
theorem dX12_looks_192 : decode cX12_looks 192 = .ok (.goto (-80), 3) := by decide +kernel
theorem dX12_looks_195 : decode cX12_looks 195 = .ok (.aload_n 0, 1) := by decide +kernel
theorem dX12_looks_196 : decode cX12_looks 196 = .ok (.invokevirtual 144, 3) := by decide +kernel
theorem dX12_looks_199 : decode cX12_looks 199 = .ok (.return_, 1) := by decide +kernel
theorem dX12_addsUp_0 : decode cX12_addsUp 0 = .ok (.iconst 0, 1) := by decide +kernel
theorem dX12_addsUp_1 : decode cX12_addsUp 1 = .ok (.istore_n 1, 1) := by decide +kernel
theorem dX12_addsUp_2 : decode cX12_addsUp 2 = .ok (.iload_n 1, 1) := by decide +kernel
theorem dX12_addsUp_3 : decode cX12_addsUp 3 = .ok (.bipush 120, 2) := by decide +kernel
theorem dX12_addsUp_5 : decode cX12_addsUp 5 = .ok (.if_icmp .ge 16, 3) := by decide +kernel
theorem dX12_addsUp_8 : decode cX12_addsUp 8 = .ok (.aload_n 0, 1) := by decide +kernel
theorem dX12_addsUp_9 : decode cX12_addsUp 9 = .ok (.getfield 34, 3) := by decide +kernel
theorem dX12_addsUp_12 : decode cX12_addsUp 12 = .ok (.iload_n 1, 1) := by decide +kernel
theorem dX12_addsUp_13 : decode cX12_addsUp 13 = .ok (.iconst 0, 1) := by decide +kernel
theorem dX12_addsUp_14 : decode cX12_addsUp 14 = .ok (.iastore, 1) := by decide +kernel
theorem dX12_addsUp_15 : decode cX12_addsUp 15 = .ok (.iinc 1 1, 3) := by decide +kernel
theorem dX12_addsUp_18 : decode cX12_addsUp 18 = .ok (.goto (-16), 3) := by decide +kernel
theorem dX12_addsUp_21 : decode cX12_addsUp 21 = .ok (.iconst 0, 1) := by decide +kernel
theorem dX12_addsUp_22 : decode cX12_addsUp 22 = .ok (.istore_n 1, 1) := by decide +kernel
theorem dX12_addsUp_23 : decode cX12_addsUp 23 = .ok (.iload_n 1, 1) := by decide +kernel
theorem dX12_addsUp_24 : decode cX12_addsUp 24 = .ok (.aload_n 0, 1) := by decide +kernel
theorem dX12_addsUp_25 : decode cX12_addsUp 25 = .ok (.getfield 9, 3) := by decide +kernel
theorem dX12_addsUp_28 : decode cX12_addsUp 28 = .ok (.iconst 1, 1) := by decide +kernel
theorem dX12_addsUp_29 : decode cX12_addsUp 29 = .ok (.iaload, 1) := by decide +kernel
theorem dX12_addsUp_30 : decode cX12_addsUp 30 = .ok (.if_icmp .ge 62, 3) := by decide +kernel
theorem dX12_addsUp_33 : decode cX12_addsUp 33 = .ok (.iload_n 1, 1) := by decide +kernel
theorem dX12_addsUp_34 : decode cX12_addsUp 34 = .ok (.istore_n 2, 1) := by decide +kernel
theorem dX12_addsUp_35 : decode cX12_addsUp 35 = .ok (.iload_n 2, 1) := by decide +kernel
theorem dX12_addsUp_36 : decode cX12_addsUp 36 = .ok (.iconst (-1), 1) := by decide +kernel
theorem dX12_addsUp_37 : decode cX12_addsUp 37 = .ok (.if_icmp .eq 49, 3) := by decide +kernel
theorem dX12_addsUp_40 : decode cX12_addsUp 40 = .ok (.iconst 0, 1) := by decide +kernel
theorem dX12_addsUp_41 : decode cX12_addsUp 41 = .ok (.istore_n 3, 1) := by decide +kernel
theorem dX12_addsUp_42 : decode cX12_addsUp 42 = .ok (.iload_n 3, 1) := by decide +kernel
theorem dX12_addsUp_43 : decode cX12_addsUp 43 = .ok (.iconst 3, 1) := by decide +kernel
theorem dX12_addsUp_44 : decode cX12_addsUp 44 = .ok (.if_icmp .ge 32, 3) := by decide +kernel
theorem dX12_addsUp_47 : decode cX12_addsUp 47 = .ok (.aload_n 0, 1) := by decide +kernel
theorem dX12_addsUp_48 : decode cX12_addsUp 48 = .ok (.getfield 34, 3) := by decide +kernel
theorem dX12_addsUp_51 : decode cX12_addsUp 51 = .ok (.iconst 3, 1) := by decide +kernel
theorem dX12_addsUp_52 : decode cX12_addsUp 52 = .ok (.iload_n 2, 1) := by decide +kernel
theorem dX12_addsUp_53 : decode cX12_addsUp 53 = .ok (.imul, 1) := by decide +kernel
theorem dX12_addsUp_54 : decode cX12_addsUp 54 = .ok (.iload_n 3, 1) := by decide +kernel
theorem dX12_addsUp_55 : decode cX12_addsUp 55 = .ok (.iadd, 1) := by decide +kernel
theorem dX12_addsUp_56 : decode cX12_addsUp 56 = .ok (.dup2, 1) := by decide +kernel
theorem dX12_addsUp_57 : decode cX12_addsUp 57 = .ok (.iaload, 1) := by decide +kernel
theorem dX12_addsUp_58 : decode cX12_addsUp 58 = .ok (.aload_n 0, 1) := by decide +kernel
theorem dX12_addsUp_59 : decode cX12_addsUp 59 = .ok (.getfield 31, 3) := by decide +kernel
theorem dX12_addsUp_62 : decode cX12_addsUp 62 = .ok (.iconst 3, 1) := by decide +kernel
theorem dX12_addsUp_63 : decode cX12_addsUp 63 = .ok (.iload_n 1, 1) := by decide +kernel
theorem dX12_addsUp_64 : decode cX12_addsUp 64 = .ok (.imul, 1) := by decide +kernel
theorem dX12_addsUp_65 : decode cX12_addsUp 65 = .ok (.iload_n 3, 1) := by decide +kernel
theorem dX12_addsUp_66 : decode cX12_addsUp 66 = .ok (.iadd, 1) := by decide +kernel
theorem dX12_addsUp_67 : decode cX12_addsUp 67 = .ok (.iaload, 1) := by decide +kernel
theorem dX12_addsUp_68 : decode cX12_addsUp 68 = .ok (.iadd, 1) := by decide +kernel
theorem dX12_addsUp_69 : decode cX12_addsUp 69 = .ok (.iastore, 1) := by decide +kernel
theorem dX12_addsUp_70 : decode cX12_addsUp 70 = .ok (.iinc 3 1, 3) := by decide +kernel
theorem dX12_addsUp_73 : decode cX12_addsUp 73 = .ok (.goto (-31), 3) := by decide +kernel
theorem dX12_addsUp_76 : decode cX12_addsUp 76 = .ok (.aload_n 0, 1) := by decide +kernel
theorem dX12_addsUp_77 : decode cX12_addsUp 77 = .ok (.getfield 28, 3) := by decide +kernel
theorem dX12_addsUp_80 : decode cX12_addsUp 80 = .ok (.iload_n 2, 1) := by decide +kernel
theorem dX12_addsUp_81 : decode cX12_addsUp 81 = .ok (.iaload, 1) := by decide +kernel
theorem dX12_addsUp_82 : decode cX12_addsUp 82 = .ok (.istore_n 2, 1) := by decide +kernel
theorem dX12_addsUp_83 : decode cX12_addsUp 83 = .ok (.goto (-48), 3) := by decide +kernel
theorem dX12_addsUp_86 : decode cX12_addsUp 86 = .ok (.iinc 1 1, 3) := by decide +kernel
theorem dX12_addsUp_89 : decode cX12_addsUp 89 = .ok (.goto (-66), 3) := by decide +kernel
theorem dX12_addsUp_92 : decode cX12_addsUp 92 = .ok (.return_, 1) := by decide +kernel
theorem dX12_part_0 : decode cX12_part 0 = .ok (.aload_n 0, 1) := by decide +kernel
theorem dX12_part_1 : decode cX12_part 1 = .ok (.iload_n 1, 1) := by decide +kernel
theorem dX12_part_2 : decode cX12_part 2 = .ok (.invokevirtual 147, 3) := by decide +kernel
theorem dX12_part_5 : decode cX12_part 5 = .ok (.ifCond .eq 21, 3) := by decide +kernel
theorem dX12_part_8 : decode cX12_part 8 = .ok (.iload_n 2, 1) := by decide +kernel
theorem dX12_part_9 : decode cX12_part 9 = .ok (.iconst (-1), 1) := by decide +kernel
theorem dX12_part_10 : decode cX12_part 10 = .ok (.if_icmp .eq 11, 3) := by decide +kernel
theorem dX12_part_13 : decode cX12_part 13 = .ok (.aload_n 0, 1) := by decide +kernel
theorem dX12_part_14 : decode cX12_part 14 = .ok (.iload_n 2, 1) := by decide +kernel
theorem dX12_part_15 : decode cX12_part 15 = .ok (.invokevirtual 147, 3) := by decide +kernel
theorem dX12_part_18 : decode cX12_part 18 = .ok (.ifCond .eq 8, 3) := by decide +kernel
theorem dX12_part_21 : decode cX12_part 21 = .ok (.iload_n 1, 1) := by decide +kernel
theorem dX12_part_22 : decode cX12_part 22 = .ok (.iload_n 2, 1) := by decide +kernel
theorem dX12_part_23 : decode cX12_part 23 = .ok (.if_icmp .ne 6, 3) := by decide +kernel
theorem dX12_part_26 : decode cX12_part 26 = .ok (.bipush (-2), 2) := by decide +kernel
theorem dX12_part_28 : decode cX12_part 28 = .ok (.ireturn, 1) := by decide +kernel
theorem dX12_part_29 : decode cX12_part 29 = .ok (.aload_n 0, 1) := by decide +kernel
theorem dX12_part_30 : decode cX12_part 30 = .ok (.aload_n 0, 1) := by decide +kernel
theorem dX12_part_31 : decode cX12_part 31 = .ok (.invokevirtual 138, 3) := by decide +kernel
theorem dX12_part_34 : decode cX12_part 34 = .ok (.invokevirtual 151, 3) := by decide +kernel
theorem dX12_part_37 : decode cX12_part 37 = .ok (.iload_n 2, 1) := by decide +kernel
theorem dX12_part_38 : decode cX12_part 38 = .ok (.istore_n 3, 1) := by decide +kernel
theorem dX12_part_39 : decode cX12_part 39 = .ok (.iload_n 3, 1) := by decide +kernel
theorem dX12_part_40 : decode cX12_part 40 = .ok (.iconst (-1), 1) := by decide +kernel
theorem dX12_part_41 : decode cX12_part 41 = .ok (.if_icmp .eq 21, 3) := by decide +kernel
theorem dX12_part_44 : decode cX12_part 44 = .ok (.iload_n 3, 1) := by decide +kernel
theorem dX12_part_45 : decode cX12_part 45 = .ok (.iload_n 1, 1) := by decide +kernel
theorem dX12_part_46 : decode cX12_part 46 = .ok (.if_icmp .ne 6, 3) := by decide +kernel
theorem dX12_part_49 : decode cX12_part 49 = .ok (.bipush (-5), 2) := by decide +kernel
theorem dX12_part_51 : decode cX12_part 51 = .ok (.ireturn, 1) := by decide +kernel
theorem dX12_part_52 : decode cX12_part 52 = .ok (.aload_n 0, 1) := by decide +kernel
theorem dX12_part_53 : decode cX12_part 53 = .ok (.getfield 28, 3) := by decide +kernel
theorem dX12_part_56 : decode cX12_part 56 = .ok (.iload_n 3, 1) := by decide +kernel
theorem dX12_part_57 : decode cX12_part 57 = .ok (.iaload, 1) := by decide +kernel
theorem dX12_part_58 : decode cX12_part 58 = .ok (.istore_n 3, 1) := by decide +kernel
theorem dX12_part_59 : decode cX12_part 59 = .ok (.goto (-20), 3) := by decide +kernel
theorem dX12_part_62 : decode cX12_part 62 = .ok (.sipush 7610, 3) := by decide +kernel
theorem dX12_part_65 : decode cX12_part 65 = .ok (.iconst 3, 1) := by decide +kernel
theorem dX12_part_66 : decode cX12_part 66 = .ok (.aload_n 0, 1) := by decide +kernel
theorem dX12_part_67 : decode cX12_part 67 = .ok (.getfield 9, 3) := by decide +kernel
theorem dX12_part_70 : decode cX12_part 70 = .ok (.bipush 8, 2) := by decide +kernel
theorem dX12_part_72 : decode cX12_part 72 = .ok (.iaload, 1) := by decide +kernel
theorem dX12_part_73 : decode cX12_part 73 = .ok (.imul, 1) := by decide +kernel
theorem dX12_part_74 : decode cX12_part 74 = .ok (.iadd, 1) := by decide +kernel
theorem dX12_part_75 : decode cX12_part 75 = .ok (.istore_n 3, 1) := by decide +kernel
theorem dX12_part_76 : decode cX12_part 76 = .ok (.aload_n 0, 1) := by decide +kernel
theorem dX12_part_77 : decode cX12_part 77 = .ok (.getfield 9, 3) := by decide +kernel
theorem dX12_part_80 : decode cX12_part 80 = .ok (.iload_n 3, 1) := by decide +kernel
theorem dX12_part_81 : decode cX12_part 81 = .ok (.iload_n 1, 1) := by decide +kernel
theorem dX12_part_82 : decode cX12_part 82 = .ok (.iastore, 1) := by decide +kernel
theorem dX12_part_83 : decode cX12_part 83 = .ok (.aload_n 0, 1) := by decide +kernel
theorem dX12_part_84 : decode cX12_part 84 = .ok (.getfield 9, 3) := by decide +kernel
theorem dX12_part_87 : decode cX12_part 87 = .ok (.iload_n 3, 1) := by decide +kernel
theorem dX12_part_88 : decode cX12_part 88 = .ok (.iconst 1, 1) := by decide +kernel
theorem dX12_part_89 : decode cX12_part 89 = .ok (.iadd, 1) := by decide +kernel
theorem dX12_part_90 : decode cX12_part 90 = .ok (.iload_n 2, 1) := by decide +kernel
theorem dX12_part_91 : decode cX12_part 91 = .ok (.iastore, 1) := by decide +kernel
theorem dX12_part_92 : decode cX12_part 92 = .ok (.aload_n 0, 1) := by decide +kernel
theorem dX12_part_93 : decode cX12_part 93 = .ok (.getfield 9, 3) := by decide +kernel
theorem dX12_part_96 : decode cX12_part 96 = .ok (.iload_n 3, 1) := by decide +kernel
theorem dX12_part_97 : decode cX12_part 97 = .ok (.iconst 2, 1) := by decide +kernel
theorem dX12_part_98 : decode cX12_part 98 = .ok (.iadd, 1) := by decide +kernel
theorem dX12_part_99 : decode cX12_part 99 = .ok (.aload_n 0, 1) := by decide +kernel
theorem dX12_part_100 : decode cX12_part 100 = .ok (.invokevirtual 138, 3) := by decide +kernel
theorem dX12_part_103 : decode cX12_part 103 = .ok (.iastore, 1) := by decide +kernel
theorem dX12_part_104 : decode cX12_part 104 = .ok (.aload_n 0, 1) := by decide +kernel
theorem dX12_part_105 : decode cX12_part 105 = .ok (.getfield 9, 3) := by decide +kernel
theorem dX12_part_108 : decode cX12_part 108 = .ok (.bipush 8, 2) := by decide +kernel
theorem dX12_part_110 : decode cX12_part 110 = .ok (.dup2, 1) := by decide +kernel
theorem dX12_part_111 : decode cX12_part 111 = .ok (.iaload, 1) := by decide +kernel
theorem dX12_part_112 : decode cX12_part 112 = .ok (.iconst 1, 1) := by decide +kernel
theorem dX12_part_113 : decode cX12_part 113 = .ok (.iadd, 1) := by decide +kernel
theorem dX12_part_114 : decode cX12_part 114 = .ok (.iastore, 1) := by decide +kernel
theorem dX12_part_115 : decode cX12_part 115 = .ok (.iconst 0, 1) := by decide +kernel
theorem dX12_part_116 : decode cX12_part 116 = .ok (.ireturn, 1) := by decide +kernel
theorem dX12_people_0 : decode cX12_people 0 = .ok (.aload_n 0, 1) := by decide +kernel
theorem dX12_people_1 : decode cX12_people 1 = .ok (.iload_n 1, 1) := by decide +kernel
theorem dX12_people_2 : decode cX12_people 2 = .ok (.invokevirtual 147, 3) := by decide +kernel
theorem dX12_people_5 : decode cX12_people 5 = .ok (.ifCond .eq 22, 3) := by decide +kernel
theorem dX12_people_8 : decode cX12_people 8 = .ok (.iload_n 2, 1) := by decide +kernel
theorem dX12_people_9 : decode cX12_people 9 = .ok (.invokestatic 155, 3) := by decide +kernel
theorem dX12_people_12 : decode cX12_people 12 = .ok (.ifCond .eq 15, 3) := by decide +kernel
theorem dX12_people_15 : decode cX12_people 15 = .ok (.iload_n 3, 1) := by decide +kernel
theorem dX12_people_16 : decode cX12_people 16 = .ok (.i2l, 1) := by decide +kernel
theorem dX12_people_17 : decode cX12_people 17 = .ok (.lconst 0, 1) := by decide +kernel
theorem dX12_people_18 : decode cX12_people 18 = .ok (.ldc2_w 158, 3) := by decide +kernel
theorem dX12_people_21 : decode cX12_people 21 = .ok (.invokestatic 125, 3) := by decide +kernel
theorem dX12_people_24 : decode cX12_people 24 = .ok (.ifCond .ne 6, 3) := by decide +kernel
theorem dX12_people_27 : decode cX12_people 27 = .ok (.bipush (-2), 2) := by decide +kernel
theorem dX12_people_29 : decode cX12_people 29 = .ok (.ireturn, 1) := by decide +kernel
theorem dX12_people_30 : decode cX12_people 30 = .ok (.sipush 6690, 3) := by decide +kernel
theorem dX12_people_33 : decode cX12_people 33 = .ok (.istore 4, 2) := by decide +kernel
theorem dX12_people_35 : decode cX12_people 35 = .ok (.iload 4, 2) := by decide +kernel
theorem dX12_people_37 : decode cX12_people 37 = .ok (.sipush 6690, 3) := by decide +kernel
theorem dX12_people_40 : decode cX12_people 40 = .ok (.iconst 4, 1) := by decide +kernel
theorem dX12_people_41 : decode cX12_people 41 = .ok (.aload_n 0, 1) := by decide +kernel
theorem dX12_people_42 : decode cX12_people 42 = .ok (.getfield 9, 3) := by decide +kernel
theorem dX12_people_45 : decode cX12_people 45 = .ok (.bipush 6, 2) := by decide +kernel
theorem dX12_people_47 : decode cX12_people 47 = .ok (.iaload, 1) := by decide +kernel
theorem dX12_people_48 : decode cX12_people 48 = .ok (.imul, 1) := by decide +kernel
theorem dX12_people_49 : decode cX12_people 49 = .ok (.iadd, 1) := by decide +kernel
theorem dX12_people_50 : decode cX12_people 50 = .ok (.if_icmp .ge 64, 3) := by decide +kernel
theorem dX12_people_53 : decode cX12_people 53 = .ok (.aload_n 0, 1) := by decide +kernel
theorem dX12_people_54 : decode cX12_people 54 = .ok (.getfield 9, 3) := by decide +kernel
theorem dX12_people_57 : decode cX12_people 57 = .ok (.iload 4, 2) := by decide +kernel
theorem dX12_people_59 : decode cX12_people 59 = .ok (.iaload, 1) := by decide +kernel
theorem dX12_people_60 : decode cX12_people 60 = .ok (.iload_n 1, 1) := by decide +kernel
theorem dX12_people_61 : decode cX12_people 61 = .ok (.if_icmp .ne 47, 3) := by decide +kernel
theorem dX12_people_64 : decode cX12_people 64 = .ok (.aload_n 0, 1) := by decide +kernel
theorem dX12_people_65 : decode cX12_people 65 = .ok (.getfield 9, 3) := by decide +kernel
theorem dX12_people_68 : decode cX12_people 68 = .ok (.iload 4, 2) := by decide +kernel
theorem dX12_people_70 : decode cX12_people 70 = .ok (.iconst 1, 1) := by decide +kernel
theorem dX12_people_71 : decode cX12_people 71 = .ok (.iadd, 1) := by decide +kernel
theorem dX12_people_72 : decode cX12_people 72 = .ok (.iaload, 1) := by decide +kernel
theorem dX12_people_73 : decode cX12_people 73 = .ok (.iload_n 2, 1) := by decide +kernel
theorem dX12_people_74 : decode cX12_people 74 = .ok (.if_icmp .ne 34, 3) := by decide +kernel
theorem dX12_people_77 : decode cX12_people 77 = .ok (.aload_n 0, 1) := by decide +kernel
theorem dX12_people_78 : decode cX12_people 78 = .ok (.getfield 9, 3) := by decide +kernel
theorem dX12_people_81 : decode cX12_people 81 = .ok (.iload 4, 2) := by decide +kernel
theorem dX12_people_83 : decode cX12_people 83 = .ok (.iconst 3, 1) := by decide +kernel
theorem dX12_people_84 : decode cX12_people 84 = .ok (.iadd, 1) := by decide +kernel
theorem dX12_people_85 : decode cX12_people 85 = .ok (.iaload, 1) := by decide +kernel
theorem dX12_people_86 : decode cX12_people 86 = .ok (.aload_n 0, 1) := by decide +kernel
theorem dX12_people_87 : decode cX12_people 87 = .ok (.invokevirtual 138, 3) := by decide +kernel
theorem dX12_people_90 : decode cX12_people 90 = .ok (.if_icmp .eq 6, 3) := by decide +kernel
theorem dX12_people_93 : decode cX12_people 93 = .ok (.goto 15, 3) := by decide +kernel
theorem dX12_people_96 : decode cX12_people 96 = .ok (.aload_n 0, 1) := by decide +kernel
theorem dX12_people_97 : decode cX12_people 97 = .ok (.getfield 9, 3) := by decide +kernel
theorem dX12_people_100 : decode cX12_people 100 = .ok (.iload 4, 2) := by decide +kernel
theorem dX12_people_102 : decode cX12_people 102 = .ok (.iconst 2, 1) := by decide +kernel
theorem dX12_people_103 : decode cX12_people 103 = .ok (.iadd, 1) := by decide +kernel
theorem dX12_people_104 : decode cX12_people 104 = .ok (.iload_n 3, 1) := by decide +kernel
theorem dX12_people_105 : decode cX12_people 105 = .ok (.iastore, 1) := by decide +kernel
theorem dX12_people_106 : decode cX12_people 106 = .ok (.iconst 0, 1) := by decide +kernel
theorem dX12_people_107 : decode cX12_people 107 = .ok (.ireturn, 1) := by decide +kernel
theorem dX12_people_108 : decode cX12_people 108 = .ok (.iinc 4 4, 3) := by decide +kernel
theorem dX12_people_111 : decode cX12_people 111 = .ok (.goto (-76), 3) := by decide +kernel
theorem dX12_people_114 : decode cX12_people 114 = .ok (.aload_n 0, 1) := by decide +kernel
theorem dX12_people_115 : decode cX12_people 115 = .ok (.getfield 9, 3) := by decide +kernel
theorem dX12_people_118 : decode cX12_people 118 = .ok (.bipush 6, 2) := by decide +kernel
theorem dX12_people_120 : decode cX12_people 120 = .ok (.iaload, 1) := by decide +kernel
theorem dX12_people_121 : decode cX12_people 121 = .ok (.sipush 200, 3) := by decide +kernel
theorem dX12_people_124 : decode cX12_people 124 = .ok (.if_icmp .ne 6, 3) := by decide +kernel
theorem dX12_people_127 : decode cX12_people 127 = .ok (.bipush (-3), 2) := by decide +kernel
theorem dX12_people_129 : decode cX12_people 129 = .ok (.ireturn, 1) := by decide +kernel
theorem dX12_people_130 : decode cX12_people 130 = .ok (.sipush 6690, 3) := by decide +kernel
theorem dX12_people_133 : decode cX12_people 133 = .ok (.iconst 4, 1) := by decide +kernel
theorem dX12_people_134 : decode cX12_people 134 = .ok (.aload_n 0, 1) := by decide +kernel
theorem dX12_people_135 : decode cX12_people 135 = .ok (.getfield 9, 3) := by decide +kernel
theorem dX12_people_138 : decode cX12_people 138 = .ok (.bipush 6, 2) := by decide +kernel
theorem dX12_people_140 : decode cX12_people 140 = .ok (.iaload, 1) := by decide +kernel
theorem dX12_people_141 : decode cX12_people 141 = .ok (.imul, 1) := by decide +kernel
theorem dX12_people_142 : decode cX12_people 142 = .ok (.iadd, 1) := by decide +kernel
theorem dX12_people_143 : decode cX12_people 143 = .ok (.istore 4, 2) := by decide +kernel
theorem dX12_people_145 : decode cX12_people 145 = .ok (.aload_n 0, 1) := by decide +kernel
theorem dX12_people_146 : decode cX12_people 146 = .ok (.getfield 9, 3) := by decide +kernel
theorem dX12_people_149 : decode cX12_people 149 = .ok (.iload 4, 2) := by decide +kernel
theorem dX12_people_151 : decode cX12_people 151 = .ok (.iload_n 1, 1) := by decide +kernel
theorem dX12_people_152 : decode cX12_people 152 = .ok (.iastore, 1) := by decide +kernel
theorem dX12_people_153 : decode cX12_people 153 = .ok (.aload_n 0, 1) := by decide +kernel
theorem dX12_people_154 : decode cX12_people 154 = .ok (.getfield 9, 3) := by decide +kernel
theorem dX12_people_157 : decode cX12_people 157 = .ok (.iload 4, 2) := by decide +kernel
theorem dX12_people_159 : decode cX12_people 159 = .ok (.iconst 1, 1) := by decide +kernel
theorem dX12_people_160 : decode cX12_people 160 = .ok (.iadd, 1) := by decide +kernel
theorem dX12_people_161 : decode cX12_people 161 = .ok (.iload_n 2, 1) := by decide +kernel
theorem dX12_people_162 : decode cX12_people 162 = .ok (.iastore, 1) := by decide +kernel
theorem dX12_people_163 : decode cX12_people 163 = .ok (.aload_n 0, 1) := by decide +kernel
theorem dX12_people_164 : decode cX12_people 164 = .ok (.getfield 9, 3) := by decide +kernel
theorem dX12_people_167 : decode cX12_people 167 = .ok (.iload 4, 2) := by decide +kernel
theorem dX12_people_169 : decode cX12_people 169 = .ok (.iconst 2, 1) := by decide +kernel
theorem dX12_people_170 : decode cX12_people 170 = .ok (.iadd, 1) := by decide +kernel
theorem dX12_people_171 : decode cX12_people 171 = .ok (.iload_n 3, 1) := by decide +kernel
theorem dX12_people_172 : decode cX12_people 172 = .ok (.iastore, 1) := by decide +kernel
theorem dX12_people_173 : decode cX12_people 173 = .ok (.aload_n 0, 1) := by decide +kernel
theorem dX12_people_174 : decode cX12_people 174 = .ok (.getfield 9, 3) := by decide +kernel
theorem dX12_people_177 : decode cX12_people 177 = .ok (.iload 4, 2) := by decide +kernel
theorem dX12_people_179 : decode cX12_people 179 = .ok (.iconst 3, 1) := by decide +kernel
theorem dX12_people_180 : decode cX12_people 180 = .ok (.iadd, 1) := by decide +kernel
theorem dX12_people_181 : decode cX12_people 181 = .ok (.aload_n 0, 1) := by decide +kernel
theorem dX12_people_182 : decode cX12_people 182 = .ok (.invokevirtual 138, 3) := by decide +kernel
theorem dX12_people_185 : decode cX12_people 185 = .ok (.iastore, 1) := by decide +kernel
theorem dX12_people_186 : decode cX12_people 186 = .ok (.aload_n 0, 1) := by decide +kernel
theorem dX12_people_187 : decode cX12_people 187 = .ok (.getfield 9, 3) := by decide +kernel
theorem dX12_people_190 : decode cX12_people 190 = .ok (.bipush 6, 2) := by decide +kernel
theorem dX12_people_192 : decode cX12_people 192 = .ok (.dup2, 1) := by decide +kernel
theorem dX12_people_193 : decode cX12_people 193 = .ok (.iaload, 1) := by decide +kernel
theorem dX12_people_194 : decode cX12_people 194 = .ok (.iconst 1, 1) := by decide +kernel
theorem dX12_people_195 : decode cX12_people 195 = .ok (.iadd, 1) := by decide +kernel
theorem dX12_people_196 : decode cX12_people 196 = .ok (.iastore, 1) := by decide +kernel
theorem dX12_people_197 : decode cX12_people 197 = .ok (.iconst 0, 1) := by decide +kernel
theorem dX12_people_198 : decode cX12_people 198 = .ok (.ireturn, 1) := by decide +kernel
theorem dX12_allOf_0 : decode cX12_allOf 0 = .ok (.aload_n 0, 1) := by decide +kernel
theorem dX12_allOf_1 : decode cX12_allOf 1 = .ok (.getfield 34, 3) := by decide +kernel
theorem dX12_allOf_4 : decode cX12_allOf 4 = .ok (.iconst 3, 1) := by decide +kernel
theorem dX12_allOf_5 : decode cX12_allOf 5 = .ok (.iload_n 1, 1) := by decide +kernel
theorem dX12_allOf_6 : decode cX12_allOf 6 = .ok (.imul, 1) := by decide +kernel
theorem dX12_allOf_7 : decode cX12_allOf 7 = .ok (.iaload, 1) := by decide +kernel
theorem dX12_allOf_8 : decode cX12_allOf 8 = .ok (.aload_n 0, 1) := by decide +kernel
theorem dX12_allOf_9 : decode cX12_allOf 9 = .ok (.getfield 34, 3) := by decide +kernel
theorem dX12_allOf_12 : decode cX12_allOf 12 = .ok (.iconst 3, 1) := by decide +kernel
theorem dX12_allOf_13 : decode cX12_allOf 13 = .ok (.iload_n 1, 1) := by decide +kernel
theorem dX12_allOf_14 : decode cX12_allOf 14 = .ok (.imul, 1) := by decide +kernel
theorem dX12_allOf_15 : decode cX12_allOf 15 = .ok (.iconst 1, 1) := by decide +kernel
theorem dX12_allOf_16 : decode cX12_allOf 16 = .ok (.iadd, 1) := by decide +kernel
theorem dX12_allOf_17 : decode cX12_allOf 17 = .ok (.iaload, 1) := by decide +kernel
theorem dX12_allOf_18 : decode cX12_allOf 18 = .ok (.iadd, 1) := by decide +kernel
theorem dX12_allOf_19 : decode cX12_allOf 19 = .ok (.aload_n 0, 1) := by decide +kernel
theorem dX12_allOf_20 : decode cX12_allOf 20 = .ok (.getfield 34, 3) := by decide +kernel
theorem dX12_allOf_23 : decode cX12_allOf 23 = .ok (.iconst 3, 1) := by decide +kernel
theorem dX12_allOf_24 : decode cX12_allOf 24 = .ok (.iload_n 1, 1) := by decide +kernel
theorem dX12_allOf_25 : decode cX12_allOf 25 = .ok (.imul, 1) := by decide +kernel
theorem dX12_allOf_26 : decode cX12_allOf 26 = .ok (.iconst 2, 1) := by decide +kernel
theorem dX12_allOf_27 : decode cX12_allOf 27 = .ok (.iadd, 1) := by decide +kernel
theorem dX12_allOf_28 : decode cX12_allOf 28 = .ok (.iaload, 1) := by decide +kernel
theorem dX12_allOf_29 : decode cX12_allOf 29 = .ok (.iadd, 1) := by decide +kernel
theorem dX12_allOf_30 : decode cX12_allOf 30 = .ok (.ireturn, 1) := by decide +kernel
theorem dX12_live_0 : decode cX12_live 0 = .ok (.aload_n 0, 1) := by decide +kernel
theorem dX12_live_1 : decode cX12_live 1 = .ok (.iload_n 1, 1) := by decide +kernel
theorem dX12_live_2 : decode cX12_live 2 = .ok (.invokevirtual 147, 3) := by decide +kernel
theorem dX12_live_5 : decode cX12_live 5 = .ok (.ifCond .eq 30, 3) := by decide +kernel
theorem dX12_live_8 : decode cX12_live 8 = .ok (.iload_n 2, 1) := by decide +kernel
theorem dX12_live_9 : decode cX12_live 9 = .ok (.iconst (-1), 1) := by decide +kernel
theorem dX12_live_10 : decode cX12_live 10 = .ok (.if_icmp .eq 10, 3) := by decide +kernel
theorem dX12_live_13 : decode cX12_live 13 = .ok (.iload_n 2, 1) := by decide +kernel
theorem dX12_live_14 : decode cX12_live 14 = .ok (.invokestatic 155, 3) := by decide +kernel
theorem dX12_live_17 : decode cX12_live 17 = .ok (.ifCond .eq 18, 3) := by decide +kernel
theorem dX12_live_20 : decode cX12_live 20 = .ok (.iload_n 3, 1) := by decide +kernel
theorem dX12_live_21 : decode cX12_live 21 = .ok (.invokestatic 160, 3) := by decide +kernel
theorem dX12_live_24 : decode cX12_live 24 = .ok (.ifCond .eq 11, 3) := by decide +kernel
theorem dX12_live_27 : decode cX12_live 27 = .ok (.iload 4, 2) := by decide +kernel
theorem dX12_live_29 : decode cX12_live 29 = .ok (.invokestatic 160, 3) := by decide +kernel
theorem dX12_live_32 : decode cX12_live 32 = .ok (.ifCond .ne 6, 3) := by decide +kernel
theorem dX12_live_35 : decode cX12_live 35 = .ok (.bipush (-2), 2) := by decide +kernel
theorem dX12_live_37 : decode cX12_live 37 = .ok (.ireturn, 1) := by decide +kernel
theorem dX12_live_38 : decode cX12_live 38 = .ok (.aload_n 0, 1) := by decide +kernel
theorem dX12_live_39 : decode cX12_live 39 = .ok (.iload_n 3, 1) := by decide +kernel
theorem dX12_live_40 : decode cX12_live 40 = .ok (.iload 4, 2) := by decide +kernel
theorem dX12_live_42 : decode cX12_live 42 = .ok (.invokestatic 163, 3) := by decide +kernel
theorem dX12_live_45 : decode cX12_live 45 = .ok (.invokevirtual 151, 3) := by decide +kernel
theorem dX12_live_48 : decode cX12_live 48 = .ok (.iload_n 2, 1) := by decide +kernel
theorem dX12_live_49 : decode cX12_live 49 = .ok (.iconst (-1), 1) := by decide +kernel
theorem dX12_live_50 : decode cX12_live 50 = .ok (.if_icmp .ne 11, 3) := by decide +kernel
theorem dX12_live_53 : decode cX12_live 53 = .ok (.aload_n 0, 1) := by decide +kernel
theorem dX12_live_54 : decode cX12_live 54 = .ok (.iload_n 1, 1) := by decide +kernel
theorem dX12_live_55 : decode cX12_live 55 = .ok (.invokevirtual 169, 3) := by decide +kernel
theorem dX12_live_58 : decode cX12_live 58 = .ok (.goto 13, 3) := by decide +kernel
theorem dX12_live_61 : decode cX12_live 61 = .ok (.aload_n 0, 1) := by decide +kernel
theorem dX12_live_62 : decode cX12_live 62 = .ok (.getfield 34, 3) := by decide +kernel
theorem dX12_live_65 : decode cX12_live 65 = .ok (.iconst 3, 1) := by decide +kernel
theorem dX12_live_66 : decode cX12_live 66 = .ok (.iload_n 1, 1) := by decide +kernel
theorem dX12_live_67 : decode cX12_live 67 = .ok (.imul, 1) := by decide +kernel
theorem dX12_live_68 : decode cX12_live 68 = .ok (.iload_n 2, 1) := by decide +kernel
theorem dX12_live_69 : decode cX12_live 69 = .ok (.iadd, 1) := by decide +kernel
theorem dX12_live_70 : decode cX12_live 70 = .ok (.iaload, 1) := by decide +kernel
theorem dX12_live_71 : decode cX12_live 71 = .ok (.ireturn, 1) := by decide +kernel
theorem dX12_name_0 : decode cX12_name 0 = .ok (.aload_n 0, 1) := by decide +kernel
theorem dX12_name_1 : decode cX12_name 1 = .ok (.iload_n 1, 1) := by decide +kernel
theorem dX12_name_2 : decode cX12_name 2 = .ok (.invokevirtual 147, 3) := by decide +kernel
theorem dX12_name_5 : decode cX12_name 5 = .ok (.ifCond .eq 44, 3) := by decide +kernel
theorem dX12_name_8 : decode cX12_name 8 = .ok (.iload_n 2, 1) := by decide +kernel
theorem dX12_name_9 : decode cX12_name 9 = .ok (.invokestatic 155, 3) := by decide +kernel
theorem dX12_name_12 : decode cX12_name 12 = .ok (.ifCond .eq 37, 3) := by decide +kernel
theorem dX12_name_15 : decode cX12_name 15 = .ok (.iload_n 3, 1) := by decide +kernel
theorem dX12_name_16 : decode cX12_name 16 = .ok (.iconst (-1), 1) := by decide +kernel
theorem dX12_name_17 : decode cX12_name 17 = .ok (.if_icmp .eq 23, 3) := by decide +kernel
theorem dX12_name_20 : decode cX12_name 20 = .ok (.iload_n 3, 1) := by decide +kernel
theorem dX12_name_21 : decode cX12_name 21 = .ok (.bipush (-9), 2) := by decide +kernel
theorem dX12_name_23 : decode cX12_name 23 = .ok (.if_icmp .eq 17, 3) := by decide +kernel
theorem dX12_name_26 : decode cX12_name 26 = .ok (.iload_n 3, 1) := by decide +kernel
theorem dX12_name_27 : decode cX12_name 27 = .ok (.i2l, 1) := by decide +kernel
theorem dX12_name_28 : decode cX12_name 28 = .ok (.lconst 0, 1) := by decide +kernel
theorem dX12_name_29 : decode cX12_name 29 = .ok (.aload_n 0, 1) := by decide +kernel
theorem dX12_name_30 : decode cX12_name 30 = .ok (.invokevirtual 138, 3) := by decide +kernel
theorem dX12_name_33 : decode cX12_name 33 = .ok (.i2l, 1) := by decide +kernel
theorem dX12_name_34 : decode cX12_name 34 = .ok (.invokestatic 125, 3) := by decide +kernel
theorem dX12_name_37 : decode cX12_name 37 = .ok (.ifCond .eq 12, 3) := by decide +kernel
theorem dX12_name_40 : decode cX12_name 40 = .ok (.aload_n 0, 1) := by decide +kernel
theorem dX12_name_41 : decode cX12_name 41 = .ok (.bipush 12, 2) := by decide +kernel
theorem dX12_name_43 : decode cX12_name 43 = .ok (.invokevirtual 173, 3) := by decide +kernel
theorem dX12_name_46 : decode cX12_name 46 = .ok (.ifCond .ne 6, 3) := by decide +kernel
theorem dX12_name_49 : decode cX12_name 49 = .ok (.bipush (-2), 2) := by decide +kernel
theorem dX12_name_51 : decode cX12_name 51 = .ok (.ireturn, 1) := by decide +kernel
theorem dX12_name_52 : decode cX12_name 52 = .ok (.aload_n 0, 1) := by decide +kernel
theorem dX12_name_53 : decode cX12_name 53 = .ok (.getfield 9, 3) := by decide +kernel
theorem dX12_name_56 : decode cX12_name 56 = .ok (.iconst 2, 1) := by decide +kernel
theorem dX12_name_57 : decode cX12_name 57 = .ok (.iaload, 1) := by decide +kernel
theorem dX12_name_58 : decode cX12_name 58 = .ok (.istore 4, 2) := by decide +kernel
theorem dX12_name_60 : decode cX12_name 60 = .ok (.iload 4, 2) := by decide +kernel
theorem dX12_name_62 : decode cX12_name 62 = .ok (.bipush 80, 2) := by decide +kernel
theorem dX12_name_64 : decode cX12_name 64 = .ok (.if_icmp .ne 6, 3) := by decide +kernel
theorem dX12_name_67 : decode cX12_name 67 = .ok (.bipush (-3), 2) := by decide +kernel
theorem dX12_name_69 : decode cX12_name 69 = .ok (.ireturn, 1) := by decide +kernel
theorem dX12_name_70 : decode cX12_name 70 = .ok (.bipush 90, 2) := by decide +kernel
theorem dX12_name_72 : decode cX12_name 72 = .ok (.bipush 16, 2) := by decide +kernel
theorem dX12_name_74 : decode cX12_name 74 = .ok (.iload 4, 2) := by decide +kernel
theorem dX12_name_76 : decode cX12_name 76 = .ok (.imul, 1) := by decide +kernel
theorem dX12_name_77 : decode cX12_name 77 = .ok (.iadd, 1) := by decide +kernel
theorem dX12_name_78 : decode cX12_name 78 = .ok (.istore 5, 2) := by decide +kernel
theorem dX12_name_80 : decode cX12_name 80 = .ok (.aload_n 0, 1) := by decide +kernel
theorem dX12_name_81 : decode cX12_name 81 = .ok (.getfield 9, 3) := by decide +kernel
theorem dX12_name_84 : decode cX12_name 84 = .ok (.iload 5, 2) := by decide +kernel
theorem dX12_name_86 : decode cX12_name 86 = .ok (.iload_n 1, 1) := by decide +kernel
theorem dX12_name_87 : decode cX12_name 87 = .ok (.iastore, 1) := by decide +kernel
theorem dX12_name_88 : decode cX12_name 88 = .ok (.aload_n 0, 1) := by decide +kernel
theorem dX12_name_89 : decode cX12_name 89 = .ok (.getfield 9, 3) := by decide +kernel
theorem dX12_name_92 : decode cX12_name 92 = .ok (.iload 5, 2) := by decide +kernel
theorem dX12_name_94 : decode cX12_name 94 = .ok (.iconst 1, 1) := by decide +kernel
theorem dX12_name_95 : decode cX12_name 95 = .ok (.iadd, 1) := by decide +kernel
theorem dX12_name_96 : decode cX12_name 96 = .ok (.iload_n 2, 1) := by decide +kernel
theorem dX12_name_97 : decode cX12_name 97 = .ok (.iastore, 1) := by decide +kernel
theorem dX12_name_98 : decode cX12_name 98 = .ok (.aload_n 0, 1) := by decide +kernel
theorem dX12_name_99 : decode cX12_name 99 = .ok (.getfield 9, 3) := by decide +kernel
theorem dX12_name_102 : decode cX12_name 102 = .ok (.iload 5, 2) := by decide +kernel
theorem dX12_name_104 : decode cX12_name 104 = .ok (.iconst 2, 1) := by decide +kernel
theorem dX12_name_105 : decode cX12_name 105 = .ok (.iadd, 1) := by decide +kernel
theorem dX12_name_106 : decode cX12_name 106 = .ok (.iload_n 3, 1) := by decide +kernel
theorem dX12_name_107 : decode cX12_name 107 = .ok (.iastore, 1) := by decide +kernel
theorem dX12_name_108 : decode cX12_name 108 = .ok (.aload_n 0, 1) := by decide +kernel
theorem dX12_name_109 : decode cX12_name 109 = .ok (.getfield 9, 3) := by decide +kernel
theorem dX12_name_112 : decode cX12_name 112 = .ok (.iload 5, 2) := by decide +kernel
theorem dX12_name_114 : decode cX12_name 114 = .ok (.iconst 3, 1) := by decide +kernel
theorem dX12_name_115 : decode cX12_name 115 = .ok (.iadd, 1) := by decide +kernel
theorem dX12_name_116 : decode cX12_name 116 = .ok (.aload_n 0, 1) := by decide +kernel
theorem dX12_name_117 : decode cX12_name 117 = .ok (.getfield 131, 3) := by decide +kernel
theorem dX12_name_120 : decode cX12_name 120 = .ok (.iastore, 1) := by decide +kernel
theorem dX12_name_121 : decode cX12_name 121 = .ok (.iconst 0, 1) := by decide +kernel
theorem dX12_name_122 : decode cX12_name 122 = .ok (.istore 6, 2) := by decide +kernel
theorem dX12_name_124 : decode cX12_name 124 = .ok (.iload 6, 2) := by decide +kernel
theorem dX12_name_126 : decode cX12_name 126 = .ok (.aload_n 0, 1) := by decide +kernel
theorem dX12_name_127 : decode cX12_name 127 = .ok (.getfield 131, 3) := by decide +kernel
theorem dX12_name_130 : decode cX12_name 130 = .ok (.if_icmp .ge 28, 3) := by decide +kernel
theorem dX12_name_133 : decode cX12_name 133 = .ok (.aload_n 0, 1) := by decide +kernel
theorem dX12_name_134 : decode cX12_name 134 = .ok (.getfield 9, 3) := by decide +kernel
theorem dX12_name_137 : decode cX12_name 137 = .ok (.iload 5, 2) := by decide +kernel
theorem dX12_name_139 : decode cX12_name 139 = .ok (.iconst 4, 1) := by decide +kernel
theorem dX12_name_140 : decode cX12_name 140 = .ok (.iadd, 1) := by decide +kernel
theorem dX12_name_141 : decode cX12_name 141 = .ok (.iload 6, 2) := by decide +kernel
theorem dX12_name_143 : decode cX12_name 143 = .ok (.iadd, 1) := by decide +kernel
theorem dX12_name_144 : decode cX12_name 144 = .ok (.aload_n 0, 1) := by decide +kernel
theorem dX12_name_145 : decode cX12_name 145 = .ok (.getfield 21, 3) := by decide +kernel
theorem dX12_name_148 : decode cX12_name 148 = .ok (.iload 6, 2) := by decide +kernel
theorem dX12_name_150 : decode cX12_name 150 = .ok (.baload, 1) := by decide +kernel
theorem dX12_name_151 : decode cX12_name 151 = .ok (.iastore, 1) := by decide +kernel
theorem dX12_name_152 : decode cX12_name 152 = .ok (.iinc 6 1, 3) := by decide +kernel
theorem dX12_name_155 : decode cX12_name 155 = .ok (.goto (-31), 3) := by decide +kernel
theorem dX12_name_158 : decode cX12_name 158 = .ok (.aload_n 0, 1) := by decide +kernel
theorem dX12_name_159 : decode cX12_name 159 = .ok (.iconst 0, 1) := by decide +kernel
theorem dX12_name_160 : decode cX12_name 160 = .ok (.putfield 131, 3) := by decide +kernel
theorem dX12_name_163 : decode cX12_name 163 = .ok (.aload_n 0, 1) := by decide +kernel
theorem dX12_name_164 : decode cX12_name 164 = .ok (.getfield 9, 3) := by decide +kernel
theorem dX12_name_167 : decode cX12_name 167 = .ok (.iconst 2, 1) := by decide +kernel
theorem dX12_name_168 : decode cX12_name 168 = .ok (.dup2, 1) := by decide +kernel
theorem dX12_name_169 : decode cX12_name 169 = .ok (.iaload, 1) := by decide +kernel
theorem dX12_name_170 : decode cX12_name 170 = .ok (.iconst 1, 1) := by decide +kernel
theorem dX12_name_171 : decode cX12_name 171 = .ok (.iadd, 1) := by decide +kernel
theorem dX12_name_172 : decode cX12_name 172 = .ok (.iastore, 1) := by decide +kernel
theorem dX12_name_173 : decode cX12_name 173 = .ok (.iload 4, 2) := by decide +kernel
theorem dX12_name_175 : decode cX12_name 175 = .ok (.ireturn, 1) := by decide +kernel
theorem dX12_see_0 : decode cX12_see 0 = .ok (.iload_n 1, 1) := by decide +kernel
theorem dX12_see_1 : decode cX12_see 1 = .ok (.aload_n 0, 1) := by decide +kernel
theorem dX12_see_2 : decode cX12_see 2 = .ok (.getfield 176, 3) := by decide +kernel
theorem dX12_see_5 : decode cX12_see 5 = .ok (.if_icmp .ge 16, 3) := by decide +kernel
theorem dX12_see_8 : decode cX12_see 8 = .ok (.aload_n 0, 1) := by decide +kernel
theorem dX12_see_9 : decode cX12_see 9 = .ok (.getfield 21, 3) := by decide +kernel
theorem dX12_see_12 : decode cX12_see 12 = .ok (.iload_n 1, 1) := by decide +kernel
theorem dX12_see_13 : decode cX12_see 13 = .ok (.baload, 1) := by decide +kernel
theorem dX12_see_14 : decode cX12_see 14 = .ok (.sipush 255, 3) := by decide +kernel
theorem dX12_see_17 : decode cX12_see 17 = .ok (.iand, 1) := by decide +kernel
theorem dX12_see_18 : decode cX12_see 18 = .ok (.goto 4, 3) := by decide +kernel
theorem dX12_see_21 : decode cX12_see 21 = .ok (.iconst (-1), 1) := by decide +kernel
theorem dX12_see_22 : decode cX12_see 22 = .ok (.ireturn, 1) := by decide +kernel
theorem dX12_next__0 : decode cX12_next_ 0 = .ok (.aload_n 0, 1) := by decide +kernel
theorem dX12_next__1 : decode cX12_next_ 1 = .ok (.aload_n 0, 1) := by decide +kernel
theorem dX12_next__2 : decode cX12_next_ 2 = .ok (.getfield 179, 3) := by decide +kernel
theorem dX12_next__5 : decode cX12_next_ 5 = .ok (.invokevirtual 182, 3) := by decide +kernel
theorem dX12_next__8 : decode cX12_next_ 8 = .ok (.bipush 32, 2) := by decide +kernel
theorem dX12_next__10 : decode cX12_next_ 10 = .ok (.if_icmp .eq 16, 3) := by decide +kernel
theorem dX12_next__13 : decode cX12_next_ 13 = .ok (.aload_n 0, 1) := by decide +kernel
theorem dX12_next__14 : decode cX12_next_ 14 = .ok (.aload_n 0, 1) := by decide +kernel
theorem dX12_next__15 : decode cX12_next_ 15 = .ok (.getfield 179, 3) := by decide +kernel
theorem dX12_next__18 : decode cX12_next_ 18 = .ok (.invokevirtual 182, 3) := by decide +kernel
theorem dX12_next__21 : decode cX12_next_ 21 = .ok (.bipush 10, 2) := by decide +kernel
theorem dX12_next__23 : decode cX12_next_ 23 = .ok (.if_icmp .ne 16, 3) := by decide +kernel
theorem dX12_next__26 : decode cX12_next_ 26 = .ok (.aload_n 0, 1) := by decide +kernel
theorem dX12_next__27 : decode cX12_next_ 27 = .ok (.dup, 1) := by decide +kernel
theorem dX12_next__28 : decode cX12_next_ 28 = .ok (.getfield 179, 3) := by decide +kernel
theorem dX12_next__31 : decode cX12_next_ 31 = .ok (.iconst 1, 1) := by decide +kernel
theorem dX12_next__32 : decode cX12_next_ 32 = .ok (.iadd, 1) := by decide +kernel
theorem dX12_next__33 : decode cX12_next_ 33 = .ok (.putfield 179, 3) := by decide +kernel
theorem dX12_next__36 : decode cX12_next_ 36 = .ok (.goto (-36), 3) := by decide +kernel
theorem dX12_next__39 : decode cX12_next_ 39 = .ok (.aload_n 0, 1) := by decide +kernel
theorem dX12_next__40 : decode cX12_next_ 40 = .ok (.aload_n 0, 1) := by decide +kernel
theorem dX12_next__41 : decode cX12_next_ 41 = .ok (.getfield 179, 3) := by decide +kernel
theorem dX12_next__44 : decode cX12_next_ 44 = .ok (.putfield 185, 3) := by decide +kernel
theorem dX12_next__47 : decode cX12_next_ 47 = .ok (.aload_n 0, 1) := by decide +kernel
theorem dX12_next__48 : decode cX12_next_ 48 = .ok (.aload_n 0, 1) := by decide +kernel
theorem dX12_next__49 : decode cX12_next_ 49 = .ok (.getfield 179, 3) := by decide +kernel
theorem dX12_next__52 : decode cX12_next_ 52 = .ok (.invokevirtual 182, 3) := by decide +kernel
theorem dX12_next__55 : decode cX12_next_ 55 = .ok (.istore_n 1, 1) := by decide +kernel
theorem dX12_next__56 : decode cX12_next_ 56 = .ok (.iload_n 1, 1) := by decide +kernel
theorem dX12_next__57 : decode cX12_next_ 57 = .ok (.iconst (-1), 1) := by decide +kernel
theorem dX12_next__58 : decode cX12_next_ 58 = .ok (.if_icmp .ne 11, 3) := by decide +kernel
theorem dX12_next__61 : decode cX12_next_ 61 = .ok (.aload_n 0, 1) := by decide +kernel
theorem dX12_next__62 : decode cX12_next_ 62 = .ok (.iconst 0, 1) := by decide +kernel
theorem dX12_next__63 : decode cX12_next_ 63 = .ok (.putfield 188, 3) := by decide +kernel
theorem dX12_next__66 : decode cX12_next_ 66 = .ok (.goto 232, 3) := by decide +kernel
theorem dX12_next__69 : decode cX12_next_ 69 = .ok (.iload_n 1, 1) := by decide +kernel
theorem dX12_next__70 : decode cX12_next_ 70 = .ok (.i2l, 1) := by decide +kernel
theorem dX12_next__71 : decode cX12_next_ 71 = .ok (.ldc2_w 134, 3) := by decide +kernel
theorem dX12_next__74 : decode cX12_next_ 74 = .ok (.ldc2_w 136, 3) := by decide +kernel
theorem dX12_next__77 : decode cX12_next_ 77 = .ok (.invokestatic 125, 3) := by decide +kernel
theorem dX12_next__80 : decode cX12_next_ 80 = .ok (.ifCond .eq 45, 3) := by decide +kernel
theorem dX12_next__83 : decode cX12_next_ 83 = .ok (.aload_n 0, 1) := by decide +kernel
theorem dX12_next__84 : decode cX12_next_ 84 = .ok (.aload_n 0, 1) := by decide +kernel
theorem dX12_next__85 : decode cX12_next_ 85 = .ok (.getfield 179, 3) := by decide +kernel
theorem dX12_next__88 : decode cX12_next_ 88 = .ok (.invokevirtual 182, 3) := by decide +kernel
theorem dX12_next__91 : decode cX12_next_ 91 = .ok (.i2l, 1) := by decide +kernel
theorem dX12_next__92 : decode cX12_next_ 92 = .ok (.ldc2_w 134, 3) := by decide +kernel
theorem dX12_next__95 : decode cX12_next_ 95 = .ok (.ldc2_w 136, 3) := by decide +kernel
theorem dX12_next__98 : decode cX12_next_ 98 = .ok (.invokestatic 125, 3) := by decide +kernel
theorem dX12_next__101 : decode cX12_next_ 101 = .ok (.ifCond .eq 16, 3) := by decide +kernel
theorem dX12_next__104 : decode cX12_next_ 104 = .ok (.aload_n 0, 1) := by decide +kernel
theorem dX12_next__105 : decode cX12_next_ 105 = .ok (.dup, 1) := by decide +kernel
theorem dX12_next__106 : decode cX12_next_ 106 = .ok (.getfield 179, 3) := by decide +kernel
theorem dX12_next__109 : decode cX12_next_ 109 = .ok (.iconst 1, 1) := by decide +kernel
theorem dX12_next__110 : decode cX12_next_ 110 = .ok (.iadd, 1) := by decide +kernel
theorem dX12_next__111 : decode cX12_next_ 111 = .ok (.putfield 179, 3) := by decide +kernel
theorem dX12_next__114 : decode cX12_next_ 114 = .ok (.goto (-31), 3) := by decide +kernel
theorem dX12_next__117 : decode cX12_next_ 117 = .ok (.aload_n 0, 1) := by decide +kernel
theorem dX12_next__118 : decode cX12_next_ 118 = .ok (.iconst 1, 1) := by decide +kernel
theorem dX12_next__119 : decode cX12_next_ 119 = .ok (.putfield 188, 3) := by decide +kernel
theorem dX12_next__122 : decode cX12_next_ 122 = .ok (.goto 176, 3) := by decide +kernel
theorem dX12_next__125 : decode cX12_next_ 125 = .ok (.aload_n 0, 1) := by decide +kernel
theorem dX12_next__126 : decode cX12_next_ 126 = .ok (.getfield 191, 3) := by decide +kernel
theorem dX12_next__129 : decode cX12_next_ 129 = .ok (.ifCond .eq 92, 3) := by decide +kernel
theorem dX12_next__132 : decode cX12_next_ 132 = .ok (.iload_n 1, 1) := by decide +kernel
theorem dX12_next__133 : decode cX12_next_ 133 = .ok (.i2l, 1) := by decide +kernel
theorem dX12_next__134 : decode cX12_next_ 134 = .ok (.ldc2_w 195, 3) := by decide +kernel
theorem dX12_next__137 : decode cX12_next_ 137 = .ok (.ldc2_w 197, 3) := by decide +kernel
theorem dX12_next__140 : decode cX12_next_ 140 = .ok (.invokestatic 125, 3) := by decide +kernel
theorem dX12_next__143 : decode cX12_next_ 143 = .ok (.ifCond .eq 78, 3) := by decide +kernel
theorem dX12_next__146 : decode cX12_next_ 146 = .ok (.aload_n 0, 1) := by decide +kernel
theorem dX12_next__147 : decode cX12_next_ 147 = .ok (.iconst 0, 1) := by decide +kernel
theorem dX12_next__148 : decode cX12_next_ 148 = .ok (.putfield 199, 3) := by decide +kernel
theorem dX12_next__151 : decode cX12_next_ 151 = .ok (.aload_n 0, 1) := by decide +kernel
theorem dX12_next__152 : decode cX12_next_ 152 = .ok (.aload_n 0, 1) := by decide +kernel
theorem dX12_next__153 : decode cX12_next_ 153 = .ok (.getfield 179, 3) := by decide +kernel
theorem dX12_next__156 : decode cX12_next_ 156 = .ok (.invokevirtual 182, 3) := by decide +kernel
theorem dX12_next__159 : decode cX12_next_ 159 = .ok (.i2l, 1) := by decide +kernel
theorem dX12_next__160 : decode cX12_next_ 160 = .ok (.ldc2_w 195, 3) := by decide +kernel
theorem dX12_next__163 : decode cX12_next_ 163 = .ok (.ldc2_w 197, 3) := by decide +kernel
theorem dX12_next__166 : decode cX12_next_ 166 = .ok (.invokestatic 125, 3) := by decide +kernel
theorem dX12_next__169 : decode cX12_next_ 169 = .ok (.ifCond .eq 44, 3) := by decide +kernel
theorem dX12_next__172 : decode cX12_next_ 172 = .ok (.aload_n 0, 1) := by decide +kernel
theorem dX12_next__173 : decode cX12_next_ 173 = .ok (.ldc 202, 2) := by decide +kernel
theorem dX12_next__175 : decode cX12_next_ 175 = .ok (.bipush 10, 2) := by decide +kernel
theorem dX12_next__177 : decode cX12_next_ 177 = .ok (.aload_n 0, 1) := by decide +kernel
theorem dX12_next__178 : decode cX12_next_ 178 = .ok (.getfield 199, 3) := by decide +kernel
theorem dX12_next__181 : decode cX12_next_ 181 = .ok (.imul, 1) := by decide +kernel
theorem dX12_next__182 : decode cX12_next_ 182 = .ok (.aload_n 0, 1) := by decide +kernel
theorem dX12_next__183 : decode cX12_next_ 183 = .ok (.aload_n 0, 1) := by decide +kernel
theorem dX12_next__184 : decode cX12_next_ 184 = .ok (.getfield 179, 3) := by decide +kernel
theorem dX12_next__187 : decode cX12_next_ 187 = .ok (.invokevirtual 182, 3) := by decide +kernel
theorem dX12_next__190 : decode cX12_next_ 190 = .ok (.iadd, 1) := by decide +kernel
theorem dX12_next__191 : decode cX12_next_ 191 = .ok (.bipush 48, 2) := by decide +kernel
theorem dX12_next__193 : decode cX12_next_ 193 = .ok (.isub, 1) := by decide +kernel
theorem dX12_next__194 : decode cX12_next_ 194 = .ok (.invokestatic 163, 3) := by decide +kernel
theorem dX12_next__197 : decode cX12_next_ 197 = .ok (.putfield 199, 3) := by decide +kernel
theorem dX12_next__200 : decode cX12_next_ 200 = .ok (.aload_n 0, 1) := by decide +kernel
theorem dX12_next__201 : decode cX12_next_ 201 = .ok (.dup, 1) := by decide +kernel
theorem dX12_next__202 : decode cX12_next_ 202 = .ok (.getfield 179, 3) := by decide +kernel
theorem dX12_next__205 : decode cX12_next_ 205 = .ok (.iconst 1, 1) := by decide +kernel
theorem dX12_next__206 : decode cX12_next_ 206 = .ok (.iadd, 1) := by decide +kernel
theorem dX12_next__207 : decode cX12_next_ 207 = .ok (.putfield 179, 3) := by decide +kernel
theorem dX12_next__210 : decode cX12_next_ 210 = .ok (.goto (-59), 3) := by decide +kernel
theorem dX12_next__213 : decode cX12_next_ 213 = .ok (.aload_n 0, 1) := by decide +kernel
theorem dX12_next__214 : decode cX12_next_ 214 = .ok (.iconst 2, 1) := by decide +kernel
theorem dX12_next__215 : decode cX12_next_ 215 = .ok (.putfield 188, 3) := by decide +kernel
theorem dX12_next__218 : decode cX12_next_ 218 = .ok (.goto 80, 3) := by decide +kernel
theorem dX12_next__221 : decode cX12_next_ 221 = .ok (.iload_n 1, 1) := by decide +kernel
theorem dX12_next__222 : decode cX12_next_ 222 = .ok (.bipush 62, 2) := by decide +kernel
theorem dX12_next__224 : decode cX12_next_ 224 = .ok (.if_icmp .eq 21, 3) := by decide +kernel
theorem dX12_next__227 : decode cX12_next_ 227 = .ok (.iload_n 1, 1) := by decide +kernel
theorem dX12_next__228 : decode cX12_next_ 228 = .ok (.bipush 59, 2) := by decide +kernel
theorem dX12_next__230 : decode cX12_next_ 230 = .ok (.if_icmp .eq 15, 3) := by decide +kernel
theorem dX12_next__233 : decode cX12_next_ 233 = .ok (.iload_n 1, 1) := by decide +kernel
theorem dX12_next__234 : decode cX12_next_ 234 = .ok (.bipush 35, 2) := by decide +kernel
theorem dX12_next__236 : decode cX12_next_ 236 = .ok (.if_icmp .eq 9, 3) := by decide +kernel
theorem dX12_next__239 : decode cX12_next_ 239 = .ok (.iload_n 1, 1) := by decide +kernel
theorem dX12_next__240 : decode cX12_next_ 240 = .ok (.bipush 45, 2) := by decide +kernel
theorem dX12_next__242 : decode cX12_next_ 242 = .ok (.if_icmp .ne 7, 3) := by decide +kernel
theorem dX12_next__245 : decode cX12_next_ 245 = .ok (.iconst 1, 1) := by decide +kernel
theorem dX12_next__246 : decode cX12_next_ 246 = .ok (.goto 4, 3) := by decide +kernel
theorem dX12_next__249 : decode cX12_next_ 249 = .ok (.iconst 0, 1) := by decide +kernel
theorem dX12_next__250 : decode cX12_next_ 250 = .ok (.istore_n 2, 1) := by decide +kernel
theorem dX12_next__251 : decode cX12_next_ 251 = .ok (.aload_n 0, 1) := by decide +kernel
theorem dX12_next__252 : decode cX12_next_ 252 = .ok (.iload_n 1, 1) := by decide +kernel
theorem dX12_next__253 : decode cX12_next_ 253 = .ok (.putfield 199, 3) := by decide +kernel
theorem dX12_next__256 : decode cX12_next_ 256 = .ok (.aload_n 0, 1) := by decide +kernel
theorem dX12_next__257 : decode cX12_next_ 257 = .ok (.iload_n 2, 1) := by decide +kernel
theorem dX12_next__258 : decode cX12_next_ 258 = .ok (.ifCond .ne 22, 3) := by decide +kernel
theorem dX12_next__261 : decode cX12_next_ 261 = .ok (.aload_n 0, 1) := by decide +kernel
theorem dX12_next__262 : decode cX12_next_ 262 = .ok (.getfield 191, 3) := by decide +kernel
theorem dX12_next__265 : decode cX12_next_ 265 = .ok (.ifCond .eq 19, 3) := by decide +kernel
theorem dX12_next__268 : decode cX12_next_ 268 = .ok (.iload_n 1, 1) := by decide +kernel
theorem dX12_next__269 : decode cX12_next_ 269 = .ok (.bipush 60, 2) := by decide +kernel
theorem dX12_next__271 : decode cX12_next_ 271 = .ok (.if_icmp .eq 9, 3) := by decide +kernel
theorem dX12_next__274 : decode cX12_next_ 274 = .ok (.iload_n 1, 1) := by decide +kernel
theorem dX12_next__275 : decode cX12_next_ 275 = .ok (.bipush 61, 2) := by decide +kernel
theorem dX12_next__277 : decode cX12_next_ 277 = .ok (.if_icmp .ne 7, 3) := by decide +kernel
theorem dX12_next__280 : decode cX12_next_ 280 = .ok (.iconst 3, 1) := by decide +kernel
theorem dX12_next__281 : decode cX12_next_ 281 = .ok (.goto 4, 3) := by decide +kernel
theorem dX12_next__284 : decode cX12_next_ 284 = .ok (.iconst 4, 1) := by decide +kernel
theorem dX12_next__285 : decode cX12_next_ 285 = .ok (.putfield 188, 3) := by decide +kernel
theorem dX12_next__288 : decode cX12_next_ 288 = .ok (.aload_n 0, 1) := by decide +kernel
theorem dX12_next__289 : decode cX12_next_ 289 = .ok (.dup, 1) := by decide +kernel
theorem dX12_next__290 : decode cX12_next_ 290 = .ok (.getfield 179, 3) := by decide +kernel
theorem dX12_next__293 : decode cX12_next_ 293 = .ok (.iconst 1, 1) := by decide +kernel
theorem dX12_next__294 : decode cX12_next_ 294 = .ok (.iadd, 1) := by decide +kernel
theorem dX12_next__295 : decode cX12_next_ 295 = .ok (.putfield 179, 3) := by decide +kernel
theorem dX12_next__298 : decode cX12_next_ 298 = .ok (.return_, 1) := by decide +kernel
theorem dX12_begins_0 : decode cX12_begins 0 = .ok (.aload_n 0, 1) := by decide +kernel
theorem dX12_begins_1 : decode cX12_begins 1 = .ok (.iload_n 1, 1) := by decide +kernel
theorem dX12_begins_2 : decode cX12_begins 2 = .ok (.putfield 191, 3) := by decide +kernel
theorem dX12_begins_5 : decode cX12_begins 5 = .ok (.aload_n 0, 1) := by decide +kernel
theorem dX12_begins_6 : decode cX12_begins 6 = .ok (.aload_n 0, 1) := by decide +kernel
theorem dX12_begins_7 : decode cX12_begins 7 = .ok (.getfield 131, 3) := by decide +kernel
theorem dX12_begins_10 : decode cX12_begins 10 = .ok (.putfield 176, 3) := by decide +kernel
theorem dX12_begins_13 : decode cX12_begins 13 = .ok (.aload_n 0, 1) := by decide +kernel
theorem dX12_begins_14 : decode cX12_begins 14 = .ok (.iconst 0, 1) := by decide +kernel
theorem dX12_begins_15 : decode cX12_begins 15 = .ok (.putfield 131, 3) := by decide +kernel
theorem dX12_begins_18 : decode cX12_begins 18 = .ok (.aload_n 0, 1) := by decide +kernel
theorem dX12_begins_19 : decode cX12_begins 19 = .ok (.iconst 0, 1) := by decide +kernel
theorem dX12_begins_20 : decode cX12_begins 20 = .ok (.putfield 179, 3) := by decide +kernel
theorem dX12_begins_23 : decode cX12_begins 23 = .ok (.aload_n 0, 1) := by decide +kernel
theorem dX12_begins_24 : decode cX12_begins 24 = .ok (.iconst 0, 1) := by decide +kernel
theorem dX12_begins_25 : decode cX12_begins 25 = .ok (.putfield 203, 3) := by decide +kernel
theorem dX12_begins_28 : decode cX12_begins 28 = .ok (.aload_n 0, 1) := by decide +kernel
theorem dX12_begins_29 : decode cX12_begins 29 = .ok (.iconst (-1), 1) := by decide +kernel
theorem dX12_begins_30 : decode cX12_begins 30 = .ok (.putfield 37, 3) := by decide +kernel
theorem dX12_begins_33 : decode cX12_begins 33 = .ok (.aload_n 0, 1) := by decide +kernel
theorem dX12_begins_34 : decode cX12_begins 34 = .ok (.invokevirtual 206, 3) := by decide +kernel
theorem dX12_begins_37 : decode cX12_begins 37 = .ok (.return_, 1) := by decide +kernel
theorem dX12_good_0 : decode cX12_good 0 = .ok (.aload_n 0, 1) := by decide +kernel
theorem dX12_good_1 : decode cX12_good 1 = .ok (.getfield 203, 3) := by decide +kernel
theorem dX12_good_4 : decode cX12_good 4 = .ok (.ifCond .ne 7, 3) := by decide +kernel
theorem dX12_good_7 : decode cX12_good 7 = .ok (.iconst 1, 1) := by decide +kernel
theorem dX12_good_8 : decode cX12_good 8 = .ok (.goto 4, 3) := by decide +kernel
theorem dX12_good_11 : decode cX12_good 11 = .ok (.iconst 0, 1) := by decide +kernel
theorem dX12_good_12 : decode cX12_good 12 = .ok (.ireturn, 1) := by decide +kernel
theorem dX12_wrong_0 : decode cX12_wrong 0 = .ok (.aload_n 0, 1) := by decide +kernel
theorem dX12_wrong_1 : decode cX12_wrong 1 = .ok (.invokevirtual 209, 3) := by decide +kernel
theorem dX12_wrong_4 : decode cX12_wrong 4 = .ok (.ifCond .ne 4, 3) := by decide +kernel
theorem dX12_wrong_7 : decode cX12_wrong 7 = .ok (.return_, 1) := by decide +kernel
theorem dX12_wrong_8 : decode cX12_wrong 8 = .ok (.aload_n 0, 1) := by decide +kernel
theorem dX12_wrong_9 : decode cX12_wrong 9 = .ok (.iload_n 1, 1) := by decide +kernel
theorem dX12_wrong_10 : decode cX12_wrong 10 = .ok (.putfield 203, 3) := by decide +kernel
theorem dX12_wrong_13 : decode cX12_wrong 13 = .ok (.aload_n 0, 1) := by decide +kernel
theorem dX12_wrong_14 : decode cX12_wrong 14 = .ok (.aload_n 0, 1) := by decide +kernel
theorem dX12_wrong_15 : decode cX12_wrong 15 = .ok (.getfield 185, 3) := by decide +kernel
theorem dX12_wrong_18 : decode cX12_wrong 18 = .ok (.putfield 37, 3) := by decide +kernel
theorem dX12_wrong_21 : decode cX12_wrong 21 = .ok (.return_, 1) := by decide +kernel
theorem dX12_is_0 : decode cX12_is 0 = .ok (.aload_n 0, 1) := by decide +kernel
theorem dX12_is_1 : decode cX12_is 1 = .ok (.invokevirtual 209, 3) := by decide +kernel
theorem dX12_is_4 : decode cX12_is 4 = .ok (.ifCond .eq 31, 3) := by decide +kernel
theorem dX12_is_7 : decode cX12_is 7 = .ok (.aload_n 0, 1) := by decide +kernel
theorem dX12_is_8 : decode cX12_is 8 = .ok (.getfield 188, 3) := by decide +kernel
theorem dX12_is_11 : decode cX12_is 11 = .ok (.iconst 1, 1) := by decide +kernel
theorem dX12_is_12 : decode cX12_is 12 = .ok (.if_icmp .ne 23, 3) := by decide +kernel
theorem dX12_is_15 : decode cX12_is 15 = .ok (.aload_n 0, 1) := by decide +kernel
theorem dX12_is_16 : decode cX12_is 16 = .ok (.getfield 179, 3) := by decide +kernel
theorem dX12_is_19 : decode cX12_is 19 = .ok (.aload_n 0, 1) := by decide +kernel
theorem dX12_is_20 : decode cX12_is 20 = .ok (.getfield 185, 3) := by decide +kernel
theorem dX12_is_23 : decode cX12_is 23 = .ok (.isub, 1) := by decide +kernel
theorem dX12_is_24 : decode cX12_is 24 = .ok (.aload_n 1, 1) := by decide +kernel
theorem dX12_is_25 : decode cX12_is 25 = .ok (.invokevirtual 213, 3) := by decide +kernel
theorem dX12_is_28 : decode cX12_is 28 = .ok (.if_icmp .ne 7, 3) := by decide +kernel
theorem dX12_is_31 : decode cX12_is 31 = .ok (.iconst 1, 1) := by decide +kernel
theorem dX12_is_32 : decode cX12_is 32 = .ok (.goto 4, 3) := by decide +kernel
theorem dX12_is_35 : decode cX12_is 35 = .ok (.iconst 0, 1) := by decide +kernel
theorem dX12_is_36 : decode cX12_is 36 = .ok (.istore_n 2, 1) := by decide +kernel
theorem dX12_is_37 : decode cX12_is 37 = .ok (.iconst 0, 1) := by decide +kernel
theorem dX12_is_38 : decode cX12_is 38 = .ok (.istore_n 3, 1) := by decide +kernel
theorem dX12_is_39 : decode cX12_is 39 = .ok (.iload_n 3, 1) := by decide +kernel
theorem dX12_is_40 : decode cX12_is 40 = .ok (.aload_n 1, 1) := by decide +kernel
theorem dX12_is_41 : decode cX12_is 41 = .ok (.invokevirtual 213, 3) := by decide +kernel
theorem dX12_is_44 : decode cX12_is 44 = .ok (.if_icmp .ge 38, 3) := by decide +kernel
theorem dX12_is_47 : decode cX12_is 47 = .ok (.iload_n 2, 1) := by decide +kernel
theorem dX12_is_48 : decode cX12_is 48 = .ok (.ifCond .eq 34, 3) := by decide +kernel
theorem dX12_is_51 : decode cX12_is 51 = .ok (.aload_n 0, 1) := by decide +kernel
theorem dX12_is_52 : decode cX12_is 52 = .ok (.getfield 21, 3) := by decide +kernel
theorem dX12_is_55 : decode cX12_is 55 = .ok (.aload_n 0, 1) := by decide +kernel
theorem dX12_is_56 : decode cX12_is 56 = .ok (.getfield 185, 3) := by decide +kernel
theorem dX12_is_59 : decode cX12_is 59 = .ok (.iload_n 3, 1) := by decide +kernel
theorem dX12_is_60 : decode cX12_is 60 = .ok (.iadd, 1) := by decide +kernel
theorem dX12_is_61 : decode cX12_is 61 = .ok (.baload, 1) := by decide +kernel
theorem dX12_is_62 : decode cX12_is 62 = .ok (.aload_n 1, 1) := by decide +kernel
theorem dX12_is_63 : decode cX12_is 63 = .ok (.iload_n 3, 1) := by decide +kernel
theorem dX12_is_64 : decode cX12_is 64 = .ok (.invokevirtual 218, 3) := by decide +kernel
theorem dX12_is_67 : decode cX12_is 67 = .ok (.if_icmp .ne 7, 3) := by decide +kernel
theorem dX12_is_70 : decode cX12_is 70 = .ok (.iconst 1, 1) := by decide +kernel
theorem dX12_is_71 : decode cX12_is 71 = .ok (.goto 4, 3) := by decide +kernel
theorem dX12_is_74 : decode cX12_is 74 = .ok (.iconst 0, 1) := by decide +kernel
theorem dX12_is_75 : decode cX12_is 75 = .ok (.istore_n 2, 1) := by decide +kernel
theorem dX12_is_76 : decode cX12_is 76 = .ok (.iinc 3 1, 3) := by decide +kernel
theorem dX12_is_79 : decode cX12_is 79 = .ok (.goto (-40), 3) := by decide +kernel
theorem dX12_is_82 : decode cX12_is 82 = .ok (.iload_n 2, 1) := by decide +kernel
theorem dX12_is_83 : decode cX12_is 83 = .ok (.ireturn, 1) := by decide +kernel
theorem dX12_isSign_0 : decode cX12_isSign 0 = .ok (.aload_n 0, 1) := by decide +kernel
theorem dX12_isSign_1 : decode cX12_isSign 1 = .ok (.invokevirtual 209, 3) := by decide +kernel
theorem dX12_isSign_4 : decode cX12_isSign 4 = .ok (.ifCond .eq 23, 3) := by decide +kernel
theorem dX12_isSign_7 : decode cX12_isSign 7 = .ok (.aload_n 0, 1) := by decide +kernel
theorem dX12_isSign_8 : decode cX12_isSign 8 = .ok (.getfield 188, 3) := by decide +kernel
theorem dX12_isSign_11 : decode cX12_isSign 11 = .ok (.iconst 3, 1) := by decide +kernel
theorem dX12_isSign_12 : decode cX12_isSign 12 = .ok (.if_icmp .ne 15, 3) := by decide +kernel
theorem dX12_isSign_15 : decode cX12_isSign 15 = .ok (.aload_n 0, 1) := by decide +kernel
theorem dX12_isSign_16 : decode cX12_isSign 16 = .ok (.getfield 199, 3) := by decide +kernel
theorem dX12_isSign_19 : decode cX12_isSign 19 = .ok (.iload_n 1, 1) := by decide +kernel
theorem dX12_isSign_20 : decode cX12_isSign 20 = .ok (.if_icmp .ne 7, 3) := by decide +kernel
theorem dX12_isSign_23 : decode cX12_isSign 23 = .ok (.iconst 1, 1) := by decide +kernel
theorem dX12_isSign_24 : decode cX12_isSign 24 = .ok (.goto 4, 3) := by decide +kernel
theorem dX12_isSign_27 : decode cX12_isSign 27 = .ok (.iconst 0, 1) := by decide +kernel
theorem dX12_isSign_28 : decode cX12_isSign 28 = .ok (.ireturn, 1) := by decide +kernel
theorem dX12_needSign_0 : decode cX12_needSign 0 = .ok (.aload_n 0, 1) := by decide +kernel
theorem dX12_needSign_1 : decode cX12_needSign 1 = .ok (.iload_n 1, 1) := by decide +kernel
theorem dX12_needSign_2 : decode cX12_needSign 2 = .ok (.invokevirtual 222, 3) := by decide +kernel
theorem dX12_needSign_5 : decode cX12_needSign 5 = .ok (.ifCond .ne 8, 3) := by decide +kernel
theorem dX12_needSign_8 : decode cX12_needSign 8 = .ok (.aload_n 0, 1) := by decide +kernel
theorem dX12_needSign_9 : decode cX12_needSign 9 = .ok (.iconst 1, 1) := by decide +kernel
theorem dX12_needSign_10 : decode cX12_needSign 10 = .ok (.invokevirtual 225, 3) := by decide +kernel
theorem dX12_needSign_13 : decode cX12_needSign 13 = .ok (.aload_n 0, 1) := by decide +kernel
theorem dX12_needSign_14 : decode cX12_needSign 14 = .ok (.invokevirtual 209, 3) := by decide +kernel
theorem dX12_needSign_17 : decode cX12_needSign 17 = .ok (.ifCond .eq 7, 3) := by decide +kernel
theorem dX12_needSign_20 : decode cX12_needSign 20 = .ok (.aload_n 0, 1) := by decide +kernel
theorem dX12_needSign_21 : decode cX12_needSign 21 = .ok (.invokevirtual 206, 3) := by decide +kernel
theorem dX12_needSign_24 : decode cX12_needSign 24 = .ok (.return_, 1) := by decide +kernel
theorem dX12_takes_0 : decode cX12_takes 0 = .ok (.aload_n 0, 1) := by decide +kernel
theorem dX12_takes_1 : decode cX12_takes 1 = .ok (.aload_n 1, 1) := by decide +kernel
theorem dX12_takes_2 : decode cX12_takes 2 = .ok (.invokevirtual 228, 3) := by decide +kernel
theorem dX12_takes_5 : decode cX12_takes 5 = .ok (.istore_n 2, 1) := by decide +kernel
theorem dX12_takes_6 : decode cX12_takes 6 = .ok (.iload_n 2, 1) := by decide +kernel
theorem dX12_takes_7 : decode cX12_takes 7 = .ok (.ifCond .eq 7, 3) := by decide +kernel
theorem dX12_takes_10 : decode cX12_takes 10 = .ok (.aload_n 0, 1) := by decide +kernel
theorem dX12_takes_11 : decode cX12_takes 11 = .ok (.invokevirtual 206, 3) := by decide +kernel
theorem dX12_takes_14 : decode cX12_takes 14 = .ok (.iload_n 2, 1) := by decide +kernel
theorem dX12_takes_15 : decode cX12_takes 15 = .ok (.ireturn, 1) := by decide +kernel
theorem dX12_number_0 : decode cX12_number 0 = .ok (.aload_n 0, 1) := by decide +kernel
theorem dX12_number_1 : decode cX12_number 1 = .ok (.getfield 188, 3) := by decide +kernel
theorem dX12_number_4 : decode cX12_number 4 = .ok (.iconst 2, 1) := by decide +kernel
theorem dX12_number_5 : decode cX12_number 5 = .ok (.if_icmp .eq 11, 3) := by decide +kernel
theorem dX12_number_8 : decode cX12_number 8 = .ok (.aload_n 0, 1) := by decide +kernel
theorem dX12_number_9 : decode cX12_number 9 = .ok (.iconst 1, 1) := by decide +kernel
theorem dX12_number_10 : decode cX12_number 10 = .ok (.invokevirtual 225, 3) := by decide +kernel
theorem dX12_number_13 : decode cX12_number 13 = .ok (.goto 16, 3) := by decide +kernel
theorem dX12_number_16 : decode cX12_number 16 = .ok (.aload_n 0, 1) := by decide +kernel
theorem dX12_number_17 : decode cX12_number 17 = .ok (.getfield 199, 3) := by decide +kernel
theorem dX12_number_20 : decode cX12_number 20 = .ok (.iload_n 1, 1) := by decide +kernel
theorem dX12_number_21 : decode cX12_number 21 = .ok (.if_icmp .le 8, 3) := by decide +kernel
theorem dX12_number_24 : decode cX12_number 24 = .ok (.aload_n 0, 1) := by decide +kernel
theorem dX12_number_25 : decode cX12_number 25 = .ok (.iconst 2, 1) := by decide +kernel
theorem dX12_number_26 : decode cX12_number 26 = .ok (.invokevirtual 225, 3) := by decide +kernel
theorem dX12_number_29 : decode cX12_number 29 = .ok (.aload_n 0, 1) := by decide +kernel
theorem dX12_number_30 : decode cX12_number 30 = .ok (.invokevirtual 209, 3) := by decide +kernel
theorem dX12_number_33 : decode cX12_number 33 = .ok (.ifCond .ne 5, 3) := by decide +kernel
theorem dX12_number_36 : decode cX12_number 36 = .ok (.iconst 0, 1) := by decide +kernel
theorem dX12_number_37 : decode cX12_number 37 = .ok (.ireturn, 1) := by decide +kernel
theorem dX12_number_38 : decode cX12_number 38 = .ok (.aload_n 0, 1) := by decide +kernel
theorem dX12_number_39 : decode cX12_number 39 = .ok (.getfield 199, 3) := by decide +kernel
theorem dX12_number_42 : decode cX12_number 42 = .ok (.istore_n 2, 1) := by decide +kernel
theorem dX12_number_43 : decode cX12_number 43 = .ok (.aload_n 0, 1) := by decide +kernel
theorem dX12_number_44 : decode cX12_number 44 = .ok (.invokevirtual 206, 3) := by decide +kernel
theorem dX12_number_47 : decode cX12_number 47 = .ok (.iload_n 2, 1) := by decide +kernel
theorem dX12_number_48 : decode cX12_number 48 = .ok (.ireturn, 1) := by decide +kernel
theorem dX12_fault_0 : decode cX12_fault 0 = .ok (.iload_n 1, 1) := by decide +kernel
theorem dX12_fault_1 : decode cX12_fault 1 = .ok (.ifCond .ne 10, 3) := by decide +kernel
theorem dX12_fault_4 : decode cX12_fault 4 = .ok (.aload_n 0, 1) := by decide +kernel
theorem dX12_fault_5 : decode cX12_fault 5 = .ok (.getfield 203, 3) := by decide +kernel
theorem dX12_fault_8 : decode cX12_fault 8 = .ok (.goto 16, 3) := by decide +kernel
theorem dX12_fault_11 : decode cX12_fault 11 = .ok (.iload_n 1, 1) := by decide +kernel
theorem dX12_fault_12 : decode cX12_fault 12 = .ok (.iconst 1, 1) := by decide +kernel
theorem dX12_fault_13 : decode cX12_fault 13 = .ok (.if_icmp .ne 10, 3) := by decide +kernel
theorem dX12_fault_16 : decode cX12_fault 16 = .ok (.aload_n 0, 1) := by decide +kernel
theorem dX12_fault_17 : decode cX12_fault 17 = .ok (.getfield 37, 3) := by decide +kernel
theorem dX12_fault_20 : decode cX12_fault 20 = .ok (.goto 4, 3) := by decide +kernel
theorem dX12_fault_23 : decode cX12_fault 23 = .ok (.iconst (-1), 1) := by decide +kernel
theorem dX12_fault_24 : decode cX12_fault 24 = .ok (.ireturn, 1) := by decide +kernel
theorem dX12_isRuleWord_0 : decode cX12_isRuleWord 0 = .ok (.aload_n 0, 1) := by decide +kernel
theorem dX12_isRuleWord_1 : decode cX12_isRuleWord 1 = .ok (.invokevirtual 209, 3) := by decide +kernel
theorem dX12_isRuleWord_4 : decode cX12_isRuleWord 4 = .ok (.ifCond .eq 28, 3) := by decide +kernel
theorem dX12_isRuleWord_7 : decode cX12_isRuleWord 7 = .ok (.aload_n 0, 1) := by decide +kernel
theorem dX12_isRuleWord_8 : decode cX12_isRuleWord 8 = .ok (.getfield 188, 3) := by decide +kernel
theorem dX12_isRuleWord_11 : decode cX12_isRuleWord 11 = .ok (.iconst 1, 1) := by decide +kernel
theorem dX12_isRuleWord_12 : decode cX12_isRuleWord 12 = .ok (.if_icmp .ne 20, 3) := by decide +kernel
theorem dX12_isRuleWord_15 : decode cX12_isRuleWord 15 = .ok (.aload_n 0, 1) := by decide +kernel
theorem dX12_isRuleWord_16 : decode cX12_isRuleWord 16 = .ok (.getfield 179, 3) := by decide +kernel
theorem dX12_isRuleWord_19 : decode cX12_isRuleWord 19 = .ok (.aload_n 0, 1) := by decide +kernel
theorem dX12_isRuleWord_20 : decode cX12_isRuleWord 20 = .ok (.getfield 185, 3) := by decide +kernel
theorem dX12_isRuleWord_23 : decode cX12_isRuleWord 23 = .ok (.isub, 1) := by decide +kernel
theorem dX12_isRuleWord_24 : decode cX12_isRuleWord 24 = .ok (.iconst 3, 1) := by decide +kernel
theorem dX12_isRuleWord_25 : decode cX12_isRuleWord 25 = .ok (.if_icmp .gt 7, 3) := by decide +kernel
theorem dX12_isRuleWord_28 : decode cX12_isRuleWord 28 = .ok (.iconst 1, 1) := by decide +kernel
theorem dX12_isRuleWord_29 : decode cX12_isRuleWord 29 = .ok (.goto 4, 3) := by decide +kernel
theorem dX12_isRuleWord_32 : decode cX12_isRuleWord 32 = .ok (.iconst 0, 1) := by decide +kernel
theorem dX12_isRuleWord_33 : decode cX12_isRuleWord 33 = .ok (.ireturn, 1) := by decide +kernel
theorem dX12_set_0 : decode cX12_set 0 = .ok (.aload_n 0, 1) := by decide +kernel
theorem dX12_set_1 : decode cX12_set 1 = .ok (.bipush 35, 2) := by decide +kernel
theorem dX12_set_3 : decode cX12_set 3 = .ok (.invokevirtual 222, 3) := by decide +kernel
theorem dX12_set_6 : decode cX12_set 6 = .ok (.ifCond .eq 15, 3) := by decide +kernel
theorem dX12_set_9 : decode cX12_set 9 = .ok (.aload_n 0, 1) := by decide +kernel
theorem dX12_set_10 : decode cX12_set 10 = .ok (.getfield 41, 3) := by decide +kernel
theorem dX12_set_13 : decode cX12_set 13 = .ok (.iload_n 1, 1) := by decide +kernel
theorem dX12_set_14 : decode cX12_set 14 = .ok (.iconst 1, 1) := by decide +kernel
theorem dX12_set_15 : decode cX12_set 15 = .ok (.iastore, 1) := by decide +kernel
theorem dX12_set_16 : decode cX12_set 16 = .ok (.aload_n 0, 1) := by decide +kernel
theorem dX12_set_17 : decode cX12_set 17 = .ok (.invokevirtual 206, 3) := by decide +kernel
theorem dX12_set_20 : decode cX12_set 20 = .ok (.return_, 1) := by decide +kernel
theorem dX12_set_21 : decode cX12_set 21 = .ok (.aload_n 0, 1) := by decide +kernel
theorem dX12_set_22 : decode cX12_set 22 = .ok (.getfield 188, 3) := by decide +kernel
theorem dX12_set_25 : decode cX12_set 25 = .ok (.iconst 1, 1) := by decide +kernel
theorem dX12_set_26 : decode cX12_set 26 = .ok (.if_icmp .ne 35, 3) := by decide +kernel
theorem dX12_set_29 : decode cX12_set 29 = .ok (.aload_n 0, 1) := by decide +kernel
theorem dX12_set_30 : decode cX12_set 30 = .ok (.getfield 179, 3) := by decide +kernel
theorem dX12_set_33 : decode cX12_set 33 = .ok (.aload_n 0, 1) := by decide +kernel
theorem dX12_set_34 : decode cX12_set 34 = .ok (.getfield 185, 3) := by decide +kernel
theorem dX12_set_37 : decode cX12_set 37 = .ok (.isub, 1) := by decide +kernel
theorem dX12_set_38 : decode cX12_set 38 = .ok (.bipush 26, 2) := by decide +kernel
theorem dX12_set_40 : decode cX12_set 40 = .ok (.if_icmp .gt 21, 3) := by decide +kernel
theorem dX12_set_43 : decode cX12_set 43 = .ok (.aload_n 0, 1) := by decide +kernel
theorem dX12_set_44 : decode cX12_set 44 = .ok (.ldc 232, 2) := by decide +kernel
theorem dX12_set_46 : decode cX12_set 46 = .ok (.invokevirtual 228, 3) := by decide +kernel
theorem dX12_set_49 : decode cX12_set 49 = .ok (.ifCond .ne 12, 3) := by decide +kernel
theorem dX12_set_52 : decode cX12_set 52 = .ok (.aload_n 0, 1) := by decide +kernel
theorem dX12_set_53 : decode cX12_set 53 = .ok (.ldc 234, 2) := by decide +kernel
theorem dX12_set_55 : decode cX12_set 55 = .ok (.invokevirtual 228, 3) := by decide +kernel
theorem dX12_set_58 : decode cX12_set 58 = .ok (.ifCond .eq 8, 3) := by decide +kernel
theorem dX12_set_61 : decode cX12_set 61 = .ok (.aload_n 0, 1) := by decide +kernel
theorem dX12_set_62 : decode cX12_set 62 = .ok (.iconst 1, 1) := by decide +kernel
theorem dX12_set_63 : decode cX12_set 63 = .ok (.invokevirtual 225, 3) := by decide +kernel
theorem dX12_set_66 : decode cX12_set 66 = .ok (.aload_n 0, 1) := by decide +kernel
theorem dX12_set_67 : decode cX12_set 67 = .ok (.invokevirtual 209, 3) := by decide +kernel
theorem dX12_set_70 : decode cX12_set 70 = .ok (.ifCond .ne 4, 3) := by decide +kernel
theorem dX12_set_73 : decode cX12_set 73 = .ok (.return_, 1) := by decide +kernel
theorem dX12_set_74 : decode cX12_set 74 = .ok (.aload_n 0, 1) := by decide +kernel
theorem dX12_set_75 : decode cX12_set 75 = .ok (.getfield 41, 3) := by decide +kernel
theorem dX12_set_78 : decode cX12_set 78 = .ok (.iload_n 1, 1) := by decide +kernel
theorem dX12_set_79 : decode cX12_set 79 = .ok (.iconst 2, 1) := by decide +kernel
theorem dX12_set_80 : decode cX12_set 80 = .ok (.iastore, 1) := by decide +kernel
theorem dX12_set_81 : decode cX12_set 81 = .ok (.aload_n 0, 1) := by decide +kernel
theorem dX12_set_82 : decode cX12_set 82 = .ok (.getfield 185, 3) := by decide +kernel
theorem dX12_set_85 : decode cX12_set 85 = .ok (.istore_n 2, 1) := by decide +kernel
theorem dX12_set_86 : decode cX12_set 86 = .ok (.iload_n 2, 1) := by decide +kernel
theorem dX12_set_87 : decode cX12_set 87 = .ok (.aload_n 0, 1) := by decide +kernel
theorem dX12_set_88 : decode cX12_set 88 = .ok (.getfield 179, 3) := by decide +kernel
theorem dX12_set_91 : decode cX12_set 91 = .ok (.if_icmp .ge 31, 3) := by decide +kernel
theorem dX12_set_94 : decode cX12_set 94 = .ok (.aload_n 0, 1) := by decide +kernel
theorem dX12_set_95 : decode cX12_set 95 = .ok (.getfield 41, 3) := by decide +kernel
theorem dX12_set_98 : decode cX12_set 98 = .ok (.iload_n 1, 1) := by decide +kernel
theorem dX12_set_99 : decode cX12_set 99 = .ok (.iconst 1, 1) := by decide +kernel
theorem dX12_set_100 : decode cX12_set 100 = .ok (.iadd, 1) := by decide +kernel
theorem dX12_set_101 : decode cX12_set 101 = .ok (.dup2, 1) := by decide +kernel
theorem dX12_set_102 : decode cX12_set 102 = .ok (.iaload, 1) := by decide +kernel
theorem dX12_set_103 : decode cX12_set 103 = .ok (.iconst 1, 1) := by decide +kernel
theorem dX12_set_104 : decode cX12_set 104 = .ok (.aload_n 0, 1) := by decide +kernel
theorem dX12_set_105 : decode cX12_set 105 = .ok (.getfield 21, 3) := by decide +kernel
theorem dX12_set_108 : decode cX12_set 108 = .ok (.iload_n 2, 1) := by decide +kernel
theorem dX12_set_109 : decode cX12_set 109 = .ok (.baload, 1) := by decide +kernel
theorem dX12_set_110 : decode cX12_set 110 = .ok (.bipush 97, 2) := by decide +kernel
theorem dX12_set_112 : decode cX12_set 112 = .ok (.isub, 1) := by decide +kernel
theorem dX12_set_113 : decode cX12_set 113 = .ok (.ishl, 1) := by decide +kernel
theorem dX12_set_114 : decode cX12_set 114 = .ok (.ior, 1) := by decide +kernel
theorem dX12_set_115 : decode cX12_set 115 = .ok (.iastore, 1) := by decide +kernel
theorem dX12_set_116 : decode cX12_set 116 = .ok (.iinc 2 1, 3) := by decide +kernel
theorem dX12_set_119 : decode cX12_set 119 = .ok (.goto (-33), 3) := by decide +kernel
theorem dX12_set_122 : decode cX12_set 122 = .ok (.aload_n 0, 1) := by decide +kernel
theorem dX12_set_123 : decode cX12_set 123 = .ok (.invokevirtual 206, 3) := by decide +kernel
theorem dX12_set_126 : decode cX12_set 126 = .ok (.return_, 1) := by decide +kernel
theorem dX12_ruleWord_0 : decode cX12_ruleWord 0 = .ok (.aload_n 0, 1) := by decide +kernel
theorem dX12_ruleWord_1 : decode cX12_ruleWord 1 = .ok (.invokevirtual 236, 3) := by decide +kernel
theorem dX12_ruleWord_4 : decode cX12_ruleWord 4 = .ok (.ifCond .ne 8, 3) := by decide +kernel
theorem dX12_ruleWord_7 : decode cX12_ruleWord 7 = .ok (.aload_n 0, 1) := by decide +kernel
theorem dX12_ruleWord_8 : decode cX12_ruleWord 8 = .ok (.iconst 1, 1) := by decide +kernel
theorem dX12_ruleWord_9 : decode cX12_ruleWord 9 = .ok (.invokevirtual 225, 3) := by decide +kernel
theorem dX12_ruleWord_12 : decode cX12_ruleWord 12 = .ok (.aload_n 0, 1) := by decide +kernel
theorem dX12_ruleWord_13 : decode cX12_ruleWord 13 = .ok (.invokevirtual 209, 3) := by decide +kernel
theorem dX12_ruleWord_16 : decode cX12_ruleWord 16 = .ok (.ifCond .ne 4, 3) := by decide +kernel
theorem dX12_ruleWord_19 : decode cX12_ruleWord 19 = .ok (.return_, 1) := by decide +kernel
theorem dX12_ruleWord_20 : decode cX12_ruleWord 20 = .ok (.aload_n 0, 1) := by decide +kernel
theorem dX12_ruleWord_21 : decode cX12_ruleWord 21 = .ok (.getfield 41, 3) := by decide +kernel
theorem dX12_ruleWord_24 : decode cX12_ruleWord 24 = .ok (.iload_n 1, 1) := by decide +kernel
theorem dX12_ruleWord_25 : decode cX12_ruleWord 25 = .ok (.aload_n 0, 1) := by decide +kernel
theorem dX12_ruleWord_26 : decode cX12_ruleWord 26 = .ok (.getfield 179, 3) := by decide +kernel
theorem dX12_ruleWord_29 : decode cX12_ruleWord 29 = .ok (.aload_n 0, 1) := by decide +kernel
theorem dX12_ruleWord_30 : decode cX12_ruleWord 30 = .ok (.getfield 185, 3) := by decide +kernel
theorem dX12_ruleWord_33 : decode cX12_ruleWord 33 = .ok (.isub, 1) := by decide +kernel
theorem dX12_ruleWord_34 : decode cX12_ruleWord 34 = .ok (.iastore, 1) := by decide +kernel
theorem dX12_ruleWord_35 : decode cX12_ruleWord 35 = .ok (.aload_n 0, 1) := by decide +kernel
theorem dX12_ruleWord_36 : decode cX12_ruleWord 36 = .ok (.getfield 185, 3) := by decide +kernel
theorem dX12_ruleWord_39 : decode cX12_ruleWord 39 = .ok (.istore_n 2, 1) := by decide +kernel
theorem dX12_ruleWord_40 : decode cX12_ruleWord 40 = .ok (.iload_n 2, 1) := by decide +kernel
theorem dX12_ruleWord_41 : decode cX12_ruleWord 41 = .ok (.aload_n 0, 1) := by decide +kernel
theorem dX12_ruleWord_42 : decode cX12_ruleWord 42 = .ok (.getfield 179, 3) := by decide +kernel
theorem dX12_ruleWord_45 : decode cX12_ruleWord 45 = .ok (.if_icmp .ge 30, 3) := by decide +kernel
theorem dX12_ruleWord_48 : decode cX12_ruleWord 48 = .ok (.aload_n 0, 1) := by decide +kernel
theorem dX12_ruleWord_49 : decode cX12_ruleWord 49 = .ok (.getfield 41, 3) := by decide +kernel
theorem dX12_ruleWord_52 : decode cX12_ruleWord 52 = .ok (.iload_n 1, 1) := by decide +kernel
theorem dX12_ruleWord_53 : decode cX12_ruleWord 53 = .ok (.iconst 1, 1) := by decide +kernel
theorem dX12_ruleWord_54 : decode cX12_ruleWord 54 = .ok (.iadd, 1) := by decide +kernel
theorem dX12_ruleWord_55 : decode cX12_ruleWord 55 = .ok (.iload_n 2, 1) := by decide +kernel
theorem dX12_ruleWord_56 : decode cX12_ruleWord 56 = .ok (.iadd, 1) := by decide +kernel
theorem dX12_ruleWord_57 : decode cX12_ruleWord 57 = .ok (.aload_n 0, 1) := by decide +kernel
theorem dX12_ruleWord_58 : decode cX12_ruleWord 58 = .ok (.getfield 185, 3) := by decide +kernel
theorem dX12_ruleWord_61 : decode cX12_ruleWord 61 = .ok (.isub, 1) := by decide +kernel
theorem dX12_ruleWord_62 : decode cX12_ruleWord 62 = .ok (.aload_n 0, 1) := by decide +kernel
theorem dX12_ruleWord_63 : decode cX12_ruleWord 63 = .ok (.getfield 21, 3) := by decide +kernel
theorem dX12_ruleWord_66 : decode cX12_ruleWord 66 = .ok (.iload_n 2, 1) := by decide +kernel
theorem dX12_ruleWord_67 : decode cX12_ruleWord 67 = .ok (.baload, 1) := by decide +kernel
theorem dX12_ruleWord_68 : decode cX12_ruleWord 68 = .ok (.iastore, 1) := by decide +kernel
theorem dX12_ruleWord_69 : decode cX12_ruleWord 69 = .ok (.iinc 2 1, 3) := by decide +kernel
theorem dX12_ruleWord_72 : decode cX12_ruleWord 72 = .ok (.goto (-32), 3) := by decide +kernel
theorem dX12_ruleWord_75 : decode cX12_ruleWord 75 = .ok (.aload_n 0, 1) := by decide +kernel
theorem dX12_ruleWord_76 : decode cX12_ruleWord 76 = .ok (.invokevirtual 206, 3) := by decide +kernel
theorem dX12_ruleWord_79 : decode cX12_ruleWord 79 = .ok (.return_, 1) := by decide +kernel
theorem dX12_rule_0 : decode cX12_rule 0 = .ok (.iconst 0, 1) := by decide +kernel
theorem dX12_rule_1 : decode cX12_rule 1 = .ok (.istore_n 2, 1) := by decide +kernel
theorem dX12_rule_2 : decode cX12_rule 2 = .ok (.iload_n 2, 1) := by decide +kernel
theorem dX12_rule_3 : decode cX12_rule 3 = .ok (.bipush 12, 2) := by decide +kernel
theorem dX12_rule_5 : decode cX12_rule 5 = .ok (.if_icmp .ge 18, 3) := by decide +kernel
theorem dX12_rule_8 : decode cX12_rule 8 = .ok (.aload_n 0, 1) := by decide +kernel
theorem dX12_rule_9 : decode cX12_rule 9 = .ok (.getfield 41, 3) := by decide +kernel
theorem dX12_rule_12 : decode cX12_rule 12 = .ok (.iload_n 1, 1) := by decide +kernel
theorem dX12_rule_13 : decode cX12_rule 13 = .ok (.iload_n 2, 1) := by decide +kernel
theorem dX12_rule_14 : decode cX12_rule 14 = .ok (.iadd, 1) := by decide +kernel
theorem dX12_rule_15 : decode cX12_rule 15 = .ok (.iconst 0, 1) := by decide +kernel
theorem dX12_rule_16 : decode cX12_rule 16 = .ok (.iastore, 1) := by decide +kernel
theorem dX12_rule_17 : decode cX12_rule 17 = .ok (.iinc 2 1, 3) := by decide +kernel
theorem dX12_rule_20 : decode cX12_rule 20 = .ok (.goto (-18), 3) := by decide +kernel
theorem dX12_rule_23 : decode cX12_rule 23 = .ok (.aload_n 0, 1) := by decide +kernel
theorem dX12_rule_24 : decode cX12_rule 24 = .ok (.ldc 232, 2) := by decide +kernel
theorem dX12_rule_26 : decode cX12_rule 26 = .ok (.invokevirtual 239, 3) := by decide +kernel
theorem dX12_rule_29 : decode cX12_rule 29 = .ok (.ifCond .eq 8, 3) := by decide +kernel
theorem dX12_rule_32 : decode cX12_rule 32 = .ok (.aload_n 0, 1) := by decide +kernel
theorem dX12_rule_33 : decode cX12_rule 33 = .ok (.iload_n 1, 1) := by decide +kernel
theorem dX12_rule_34 : decode cX12_rule 34 = .ok (.invokevirtual 242, 3) := by decide +kernel
theorem dX12_rule_37 : decode cX12_rule 37 = .ok (.aload_n 0, 1) := by decide +kernel
theorem dX12_rule_38 : decode cX12_rule 38 = .ok (.invokevirtual 209, 3) := by decide +kernel
theorem dX12_rule_41 : decode cX12_rule 41 = .ok (.ifCond .eq 10, 3) := by decide +kernel
theorem dX12_rule_44 : decode cX12_rule 44 = .ok (.aload_n 0, 1) := by decide +kernel
theorem dX12_rule_45 : decode cX12_rule 45 = .ok (.iload_n 1, 1) := by decide +kernel
theorem dX12_rule_46 : decode cX12_rule 46 = .ok (.iconst 2, 1) := by decide +kernel
theorem dX12_rule_47 : decode cX12_rule 47 = .ok (.iadd, 1) := by decide +kernel
theorem dX12_rule_48 : decode cX12_rule 48 = .ok (.invokevirtual 245, 3) := by decide +kernel
theorem dX12_rule_51 : decode cX12_rule 51 = .ok (.aload_n 0, 1) := by decide +kernel
theorem dX12_rule_52 : decode cX12_rule 52 = .ok (.bipush 62, 2) := by decide +kernel
theorem dX12_rule_54 : decode cX12_rule 54 = .ok (.invokevirtual 248, 3) := by decide +kernel
theorem dX12_rule_57 : decode cX12_rule 57 = .ok (.aload_n 0, 1) := by decide +kernel
theorem dX12_rule_58 : decode cX12_rule 58 = .ok (.bipush 45, 2) := by decide +kernel
theorem dX12_rule_60 : decode cX12_rule 60 = .ok (.invokevirtual 222, 3) := by decide +kernel
theorem dX12_rule_63 : decode cX12_rule 63 = .ok (.ifCond .eq 10, 3) := by decide +kernel
theorem dX12_rule_66 : decode cX12_rule 66 = .ok (.aload_n 0, 1) := by decide +kernel
theorem dX12_rule_67 : decode cX12_rule 67 = .ok (.invokevirtual 206, 3) := by decide +kernel
theorem dX12_rule_70 : decode cX12_rule 70 = .ok (.goto 18, 3) := by decide +kernel
theorem dX12_rule_73 : decode cX12_rule 73 = .ok (.aload_n 0, 1) := by decide +kernel
theorem dX12_rule_74 : decode cX12_rule 74 = .ok (.invokevirtual 209, 3) := by decide +kernel
theorem dX12_rule_77 : decode cX12_rule 77 = .ok (.ifCond .eq 11, 3) := by decide +kernel
theorem dX12_rule_80 : decode cX12_rule 80 = .ok (.aload_n 0, 1) := by decide +kernel
theorem dX12_rule_81 : decode cX12_rule 81 = .ok (.iload_n 1, 1) := by decide +kernel
theorem dX12_rule_82 : decode cX12_rule 82 = .ok (.bipush 6, 2) := by decide +kernel
theorem dX12_rule_84 : decode cX12_rule 84 = .ok (.iadd, 1) := by decide +kernel
theorem dX12_rule_85 : decode cX12_rule 85 = .ok (.invokevirtual 245, 3) := by decide +kernel
theorem dX12_rule_88 : decode cX12_rule 88 = .ok (.aload_n 0, 1) := by decide +kernel
theorem dX12_rule_89 : decode cX12_rule 89 = .ok (.ldc 234, 2) := by decide +kernel
theorem dX12_rule_91 : decode cX12_rule 91 = .ok (.invokevirtual 239, 3) := by decide +kernel
theorem dX12_rule_94 : decode cX12_rule 94 = .ok (.ifCond .eq 11, 3) := by decide +kernel
theorem dX12_rule_97 : decode cX12_rule 97 = .ok (.aload_n 0, 1) := by decide +kernel
theorem dX12_rule_98 : decode cX12_rule 98 = .ok (.iload_n 1, 1) := by decide +kernel
theorem dX12_rule_99 : decode cX12_rule 99 = .ok (.bipush 10, 2) := by decide +kernel
theorem dX12_rule_101 : decode cX12_rule 101 = .ok (.iadd, 1) := by decide +kernel
theorem dX12_rule_102 : decode cX12_rule 102 = .ok (.invokevirtual 242, 3) := by decide +kernel
theorem dX12_rule_105 : decode cX12_rule 105 = .ok (.aload_n 0, 1) := by decide +kernel
theorem dX12_rule_106 : decode cX12_rule 106 = .ok (.bipush 59, 2) := by decide +kernel
theorem dX12_rule_108 : decode cX12_rule 108 = .ok (.invokevirtual 248, 3) := by decide +kernel
theorem dX12_rule_111 : decode cX12_rule 111 = .ok (.return_, 1) := by decide +kernel
theorem dX12_spelling_0 : decode cX12_spelling 0 = .ok (.iload_n 1, 1) := by decide +kernel
theorem dX12_spelling_1 : decode cX12_spelling 1 = .ok (.invokestatic 155, 3) := by decide +kernel
theorem dX12_spelling_4 : decode cX12_spelling 4 = .ok (.ifCond .ne 6, 3) := by decide +kernel
theorem dX12_spelling_7 : decode cX12_spelling 7 = .ok (.bipush (-2), 2) := by decide +kernel
theorem dX12_spelling_9 : decode cX12_spelling 9 = .ok (.ireturn, 1) := by decide +kernel
theorem dX12_spelling_10 : decode cX12_spelling 10 = .ok (.aload_n 0, 1) := by decide +kernel
theorem dX12_spelling_11 : decode cX12_spelling 11 = .ok (.getfield 9, 3) := by decide +kernel
theorem dX12_spelling_14 : decode cX12_spelling 14 = .ok (.iconst 3, 1) := by decide +kernel
theorem dX12_spelling_15 : decode cX12_spelling 15 = .ok (.iaload, 1) := by decide +kernel
theorem dX12_spelling_16 : decode cX12_spelling 16 = .ok (.bipush 12, 2) := by decide +kernel
theorem dX12_spelling_18 : decode cX12_spelling 18 = .ok (.if_icmp .ne 6, 3) := by decide +kernel
theorem dX12_spelling_21 : decode cX12_spelling 21 = .ok (.bipush (-3), 2) := by decide +kernel
theorem dX12_spelling_23 : decode cX12_spelling 23 = .ok (.ireturn, 1) := by decide +kernel
theorem dX12_spelling_24 : decode cX12_spelling 24 = .ok (.aload_n 0, 1) := by decide +kernel
theorem dX12_spelling_25 : decode cX12_spelling 25 = .ok (.iconst 0, 1) := by decide +kernel
theorem dX12_spelling_26 : decode cX12_spelling 26 = .ok (.invokevirtual 251, 3) := by decide +kernel
theorem dX12_spelling_29 : decode cX12_spelling 29 = .ok (.iconst 0, 1) := by decide +kernel
theorem dX12_spelling_30 : decode cX12_spelling 30 = .ok (.istore_n 2, 1) := by decide +kernel
theorem dX12_spelling_31 : decode cX12_spelling 31 = .ok (.aload_n 0, 1) := by decide +kernel
theorem dX12_spelling_32 : decode cX12_spelling 32 = .ok (.invokevirtual 209, 3) := by decide +kernel
theorem dX12_spelling_35 : decode cX12_spelling 35 = .ok (.ifCond .eq 71, 3) := by decide +kernel
theorem dX12_spelling_38 : decode cX12_spelling 38 = .ok (.aload_n 0, 1) := by decide +kernel
theorem dX12_spelling_39 : decode cX12_spelling 39 = .ok (.getfield 188, 3) := by decide +kernel
theorem dX12_spelling_42 : decode cX12_spelling 42 = .ok (.ifCond .eq 64, 3) := by decide +kernel
theorem dX12_spelling_45 : decode cX12_spelling 45 = .ok (.aload_n 0, 1) := by decide +kernel
theorem dX12_spelling_46 : decode cX12_spelling 46 = .ok (.ldc 232, 2) := by decide +kernel
theorem dX12_spelling_48 : decode cX12_spelling 48 = .ok (.invokevirtual 228, 3) := by decide +kernel
theorem dX12_spelling_51 : decode cX12_spelling 51 = .ok (.ifCond .ne 18, 3) := by decide +kernel
theorem dX12_spelling_54 : decode cX12_spelling 54 = .ok (.aload_n 0, 1) := by decide +kernel
theorem dX12_spelling_55 : decode cX12_spelling 55 = .ok (.invokevirtual 236, 3) := by decide +kernel
theorem dX12_spelling_58 : decode cX12_spelling 58 = .ok (.ifCond .ne 11, 3) := by decide +kernel
theorem dX12_spelling_61 : decode cX12_spelling 61 = .ok (.aload_n 0, 1) := by decide +kernel
theorem dX12_spelling_62 : decode cX12_spelling 62 = .ok (.iconst 1, 1) := by decide +kernel
theorem dX12_spelling_63 : decode cX12_spelling 63 = .ok (.invokevirtual 225, 3) := by decide +kernel
theorem dX12_spelling_66 : decode cX12_spelling 66 = .ok (.goto 14, 3) := by decide +kernel
theorem dX12_spelling_69 : decode cX12_spelling 69 = .ok (.iload_n 2, 1) := by decide +kernel
theorem dX12_spelling_70 : decode cX12_spelling 70 = .ok (.bipush 16, 2) := by decide +kernel
theorem dX12_spelling_72 : decode cX12_spelling 72 = .ok (.if_icmp .ne 8, 3) := by decide +kernel
theorem dX12_spelling_75 : decode cX12_spelling 75 = .ok (.aload_n 0, 1) := by decide +kernel
theorem dX12_spelling_76 : decode cX12_spelling 76 = .ok (.iconst 3, 1) := by decide +kernel
theorem dX12_spelling_77 : decode cX12_spelling 77 = .ok (.invokevirtual 225, 3) := by decide +kernel
theorem dX12_spelling_80 : decode cX12_spelling 80 = .ok (.aload_n 0, 1) := by decide +kernel
theorem dX12_spelling_81 : decode cX12_spelling 81 = .ok (.invokevirtual 209, 3) := by decide +kernel
theorem dX12_spelling_84 : decode cX12_spelling 84 = .ok (.ifCond .ne 6, 3) := by decide +kernel
theorem dX12_spelling_87 : decode cX12_spelling 87 = .ok (.goto 19, 3) := by decide +kernel
theorem dX12_spelling_90 : decode cX12_spelling 90 = .ok (.aload_n 0, 1) := by decide +kernel
theorem dX12_spelling_91 : decode cX12_spelling 91 = .ok (.iconst 3, 1) := by decide +kernel
theorem dX12_spelling_92 : decode cX12_spelling 92 = .ok (.bipush 12, 2) := by decide +kernel
theorem dX12_spelling_94 : decode cX12_spelling 94 = .ok (.iload_n 2, 1) := by decide +kernel
theorem dX12_spelling_95 : decode cX12_spelling 95 = .ok (.imul, 1) := by decide +kernel
theorem dX12_spelling_96 : decode cX12_spelling 96 = .ok (.iadd, 1) := by decide +kernel
theorem dX12_spelling_97 : decode cX12_spelling 97 = .ok (.invokevirtual 255, 3) := by decide +kernel
theorem dX12_spelling_100 : decode cX12_spelling 100 = .ok (.iinc 2 1, 3) := by decide +kernel
theorem dX12_spelling_103 : decode cX12_spelling 103 = .ok (.goto (-72), 3) := by decide +kernel
theorem dX12_spelling_106 : decode cX12_spelling 106 = .ok (.aload_n 0, 1) := by decide +kernel
theorem dX12_spelling_107 : decode cX12_spelling 107 = .ok (.invokevirtual 209, 3) := by decide +kernel
theorem dX12_spelling_110 : decode cX12_spelling 110 = .ok (.ifCond .ne 6, 3) := by decide +kernel
theorem dX12_spelling_113 : decode cX12_spelling 113 = .ok (.bipush (-4), 2) := by decide +kernel
theorem dX12_spelling_115 : decode cX12_spelling 115 = .ok (.ireturn, 1) := by decide +kernel
theorem dX12_spelling_116 : decode cX12_spelling 116 = .ok (.aload_n 0, 1) := by decide +kernel
theorem dX12_spelling_117 : decode cX12_spelling 117 = .ok (.getfield 41, 3) := by decide +kernel
theorem dX12_spelling_120 : decode cX12_spelling 120 = .ok (.iconst 0, 1) := by decide +kernel
theorem dX12_spelling_121 : decode cX12_spelling 121 = .ok (.iload_n 1, 1) := by decide +kernel
theorem dX12_spelling_122 : decode cX12_spelling 122 = .ok (.iastore, 1) := by decide +kernel
theorem dX12_spelling_123 : decode cX12_spelling 123 = .ok (.aload_n 0, 1) := by decide +kernel
theorem dX12_spelling_124 : decode cX12_spelling 124 = .ok (.getfield 41, 3) := by decide +kernel
theorem dX12_spelling_127 : decode cX12_spelling 127 = .ok (.iconst 1, 1) := by decide +kernel
theorem dX12_spelling_128 : decode cX12_spelling 128 = .ok (.aload_n 0, 1) := by decide +kernel
theorem dX12_spelling_129 : decode cX12_spelling 129 = .ok (.invokevirtual 138, 3) := by decide +kernel
theorem dX12_spelling_132 : decode cX12_spelling 132 = .ok (.iastore, 1) := by decide +kernel
theorem dX12_spelling_133 : decode cX12_spelling 133 = .ok (.aload_n 0, 1) := by decide +kernel
theorem dX12_spelling_134 : decode cX12_spelling 134 = .ok (.getfield 41, 3) := by decide +kernel
theorem dX12_spelling_137 : decode cX12_spelling 137 = .ok (.iconst 2, 1) := by decide +kernel
theorem dX12_spelling_138 : decode cX12_spelling 138 = .ok (.iload_n 2, 1) := by decide +kernel
theorem dX12_spelling_139 : decode cX12_spelling 139 = .ok (.iastore, 1) := by decide +kernel
theorem dX12_spelling_140 : decode cX12_spelling 140 = .ok (.sipush 1370, 3) := by decide +kernel
theorem dX12_spelling_143 : decode cX12_spelling 143 = .ok (.sipush 195, 3) := by decide +kernel
theorem dX12_spelling_146 : decode cX12_spelling 146 = .ok (.aload_n 0, 1) := by decide +kernel
theorem dX12_spelling_147 : decode cX12_spelling 147 = .ok (.getfield 9, 3) := by decide +kernel
theorem dX12_spelling_150 : decode cX12_spelling 150 = .ok (.iconst 3, 1) := by decide +kernel
theorem dX12_spelling_151 : decode cX12_spelling 151 = .ok (.iaload, 1) := by decide +kernel
theorem dX12_spelling_152 : decode cX12_spelling 152 = .ok (.imul, 1) := by decide +kernel
theorem dX12_spelling_153 : decode cX12_spelling 153 = .ok (.iadd, 1) := by decide +kernel
theorem dX12_spelling_154 : decode cX12_spelling 154 = .ok (.istore_n 3, 1) := by decide +kernel
theorem dX12_spelling_155 : decode cX12_spelling 155 = .ok (.iconst 0, 1) := by decide +kernel
theorem dX12_spelling_156 : decode cX12_spelling 156 = .ok (.istore 4, 2) := by decide +kernel
theorem dX12_spelling_158 : decode cX12_spelling 158 = .ok (.iload 4, 2) := by decide +kernel
theorem dX12_spelling_160 : decode cX12_spelling 160 = .ok (.sipush 195, 3) := by decide +kernel
theorem dX12_spelling_163 : decode cX12_spelling 163 = .ok (.if_icmp .ge 25, 3) := by decide +kernel
theorem dX12_spelling_166 : decode cX12_spelling 166 = .ok (.aload_n 0, 1) := by decide +kernel
theorem dX12_spelling_167 : decode cX12_spelling 167 = .ok (.getfield 9, 3) := by decide +kernel
theorem dX12_spelling_170 : decode cX12_spelling 170 = .ok (.iload_n 3, 1) := by decide +kernel
theorem dX12_spelling_171 : decode cX12_spelling 171 = .ok (.iload 4, 2) := by decide +kernel
theorem dX12_spelling_173 : decode cX12_spelling 173 = .ok (.iadd, 1) := by decide +kernel
theorem dX12_spelling_174 : decode cX12_spelling 174 = .ok (.aload_n 0, 1) := by decide +kernel
theorem dX12_spelling_175 : decode cX12_spelling 175 = .ok (.getfield 41, 3) := by decide +kernel
theorem dX12_spelling_178 : decode cX12_spelling 178 = .ok (.iload 4, 2) := by decide +kernel
theorem dX12_spelling_180 : decode cX12_spelling 180 = .ok (.iaload, 1) := by decide +kernel
theorem dX12_spelling_181 : decode cX12_spelling 181 = .ok (.iastore, 1) := by decide +kernel
theorem dX12_spelling_182 : decode cX12_spelling 182 = .ok (.iinc 4 1, 3) := by decide +kernel
theorem dX12_spelling_185 : decode cX12_spelling 185 = .ok (.goto (-27), 3) := by decide +kernel
theorem dX12_spelling_188 : decode cX12_spelling 188 = .ok (.aload_n 0, 1) := by decide +kernel
theorem dX12_spelling_189 : decode cX12_spelling 189 = .ok (.getfield 9, 3) := by decide +kernel
theorem dX12_spelling_192 : decode cX12_spelling 192 = .ok (.iconst 3, 1) := by decide +kernel
theorem dX12_spelling_193 : decode cX12_spelling 193 = .ok (.dup2, 1) := by decide +kernel
theorem dX12_spelling_194 : decode cX12_spelling 194 = .ok (.iaload, 1) := by decide +kernel
theorem dX12_spelling_195 : decode cX12_spelling 195 = .ok (.iconst 1, 1) := by decide +kernel
theorem dX12_spelling_196 : decode cX12_spelling 196 = .ok (.iadd, 1) := by decide +kernel
theorem dX12_spelling_197 : decode cX12_spelling 197 = .ok (.iastore, 1) := by decide +kernel
theorem dX12_spelling_198 : decode cX12_spelling 198 = .ok (.iload_n 2, 1) := by decide +kernel
theorem dX12_spelling_199 : decode cX12_spelling 199 = .ok (.ireturn, 1) := by decide +kernel
theorem dX12_spellingOf_0 : decode cX12_spellingOf 0 = .ok (.iconst (-1), 1) := by decide +kernel
theorem dX12_spellingOf_1 : decode cX12_spellingOf 1 = .ok (.istore_n 3, 1) := by decide +kernel
theorem dX12_spellingOf_2 : decode cX12_spellingOf 2 = .ok (.iconst 0, 1) := by decide +kernel
theorem dX12_spellingOf_3 : decode cX12_spellingOf 3 = .ok (.istore 4, 2) := by decide +kernel
theorem dX12_spellingOf_5 : decode cX12_spellingOf 5 = .ok (.iload 4, 2) := by decide +kernel
theorem dX12_spellingOf_7 : decode cX12_spellingOf 7 = .ok (.aload_n 0, 1) := by decide +kernel
theorem dX12_spellingOf_8 : decode cX12_spellingOf 8 = .ok (.getfield 9, 3) := by decide +kernel
theorem dX12_spellingOf_11 : decode cX12_spellingOf 11 = .ok (.iconst 3, 1) := by decide +kernel
theorem dX12_spellingOf_12 : decode cX12_spellingOf 12 = .ok (.iaload, 1) := by decide +kernel
theorem dX12_spellingOf_13 : decode cX12_spellingOf 13 = .ok (.if_icmp .ge 52, 3) := by decide +kernel
theorem dX12_spellingOf_16 : decode cX12_spellingOf 16 = .ok (.aload_n 0, 1) := by decide +kernel
theorem dX12_spellingOf_17 : decode cX12_spellingOf 17 = .ok (.getfield 9, 3) := by decide +kernel
theorem dX12_spellingOf_20 : decode cX12_spellingOf 20 = .ok (.sipush 1370, 3) := by decide +kernel
theorem dX12_spellingOf_23 : decode cX12_spellingOf 23 = .ok (.sipush 195, 3) := by decide +kernel
theorem dX12_spellingOf_26 : decode cX12_spellingOf 26 = .ok (.iload 4, 2) := by decide +kernel
theorem dX12_spellingOf_28 : decode cX12_spellingOf 28 = .ok (.imul, 1) := by decide +kernel
theorem dX12_spellingOf_29 : decode cX12_spellingOf 29 = .ok (.iadd, 1) := by decide +kernel
theorem dX12_spellingOf_30 : decode cX12_spellingOf 30 = .ok (.iaload, 1) := by decide +kernel
theorem dX12_spellingOf_31 : decode cX12_spellingOf 31 = .ok (.iload_n 1, 1) := by decide +kernel
theorem dX12_spellingOf_32 : decode cX12_spellingOf 32 = .ok (.if_icmp .ne 27, 3) := by decide +kernel
theorem dX12_spellingOf_35 : decode cX12_spellingOf 35 = .ok (.aload_n 0, 1) := by decide +kernel
theorem dX12_spellingOf_36 : decode cX12_spellingOf 36 = .ok (.getfield 9, 3) := by decide +kernel
theorem dX12_spellingOf_39 : decode cX12_spellingOf 39 = .ok (.sipush 1370, 3) := by decide +kernel
theorem dX12_spellingOf_42 : decode cX12_spellingOf 42 = .ok (.sipush 195, 3) := by decide +kernel
theorem dX12_spellingOf_45 : decode cX12_spellingOf 45 = .ok (.iload 4, 2) := by decide +kernel
theorem dX12_spellingOf_47 : decode cX12_spellingOf 47 = .ok (.imul, 1) := by decide +kernel
theorem dX12_spellingOf_48 : decode cX12_spellingOf 48 = .ok (.iadd, 1) := by decide +kernel
theorem dX12_spellingOf_49 : decode cX12_spellingOf 49 = .ok (.iconst 1, 1) := by decide +kernel
theorem dX12_spellingOf_50 : decode cX12_spellingOf 50 = .ok (.iadd, 1) := by decide +kernel
theorem dX12_spellingOf_51 : decode cX12_spellingOf 51 = .ok (.iaload, 1) := by decide +kernel
theorem dX12_spellingOf_52 : decode cX12_spellingOf 52 = .ok (.iload_n 2, 1) := by decide +kernel
theorem dX12_spellingOf_53 : decode cX12_spellingOf 53 = .ok (.if_icmp .gt 6, 3) := by decide +kernel
theorem dX12_spellingOf_56 : decode cX12_spellingOf 56 = .ok (.iload 4, 2) := by decide +kernel
theorem dX12_spellingOf_58 : decode cX12_spellingOf 58 = .ok (.istore_n 3, 1) := by decide +kernel
theorem dX12_spellingOf_59 : decode cX12_spellingOf 59 = .ok (.iinc 4 1, 3) := by decide +kernel
theorem dX12_spellingOf_62 : decode cX12_spellingOf 62 = .ok (.goto (-57), 3) := by decide +kernel
theorem dX12_spellingOf_65 : decode cX12_spellingOf 65 = .ok (.iload_n 3, 1) := by decide +kernel
theorem dX12_spellingOf_66 : decode cX12_spellingOf 66 = .ok (.ireturn, 1) := by decide +kernel
theorem dX12_lays_0 : decode cX12_lays 0 = .ok (.aload_n 0, 1) := by decide +kernel
theorem dX12_lays_1 : decode cX12_lays 1 = .ok (.getfield 44, 3) := by decide +kernel
theorem dX12_lays_4 : decode cX12_lays 4 = .ok (.aload_n 0, 1) := by decide +kernel
theorem dX12_lays_5 : decode cX12_lays 5 = .ok (.getfield 258, 3) := by decide +kernel
theorem dX12_lays_8 : decode cX12_lays 8 = .ok (.iload_n 1, 1) := by decide +kernel
theorem dX12_lays_9 : decode cX12_lays 9 = .ok (.iastore, 1) := by decide +kernel
theorem dX12_lays_10 : decode cX12_lays 10 = .ok (.aload_n 0, 1) := by decide +kernel
theorem dX12_lays_11 : decode cX12_lays 11 = .ok (.getfield 47, 3) := by decide +kernel
theorem dX12_lays_14 : decode cX12_lays 14 = .ok (.aload_n 0, 1) := by decide +kernel
theorem dX12_lays_15 : decode cX12_lays 15 = .ok (.getfield 258, 3) := by decide +kernel
theorem dX12_lays_18 : decode cX12_lays 18 = .ok (.iload_n 2, 1) := by decide +kernel
theorem dX12_lays_19 : decode cX12_lays 19 = .ok (.iastore, 1) := by decide +kernel
theorem dX12_lays_20 : decode cX12_lays 20 = .ok (.aload_n 0, 1) := by decide +kernel
theorem dX12_lays_21 : decode cX12_lays 21 = .ok (.dup, 1) := by decide +kernel
theorem dX12_lays_22 : decode cX12_lays 22 = .ok (.getfield 258, 3) := by decide +kernel
theorem dX12_lays_25 : decode cX12_lays 25 = .ok (.iconst 1, 1) := by decide +kernel
theorem dX12_lays_26 : decode cX12_lays 26 = .ok (.iadd, 1) := by decide +kernel
theorem dX12_lays_27 : decode cX12_lays 27 = .ok (.putfield 258, 3) := by decide +kernel
theorem dX12_lays_30 : decode cX12_lays 30 = .ok (.return_, 1) := by decide +kernel
theorem dX12_isOf_0 : decode cX12_isOf 0 = .ok (.iload_n 0, 1) := by decide +kernel
theorem dX12_isOf_1 : decode cX12_isOf 1 = .ok (.iload_n 1, 1) := by decide +kernel
theorem dX12_isOf_2 : decode cX12_isOf 2 = .ok (.bipush 97, 2) := by decide +kernel
theorem dX12_isOf_4 : decode cX12_isOf 4 = .ok (.isub, 1) := by decide +kernel
theorem dX12_isOf_5 : decode cX12_isOf 5 = .ok (.ishr, 1) := by decide +kernel
theorem dX12_isOf_6 : decode cX12_isOf 6 = .ok (.iconst 1, 1) := by decide +kernel
theorem dX12_isOf_7 : decode cX12_isOf 7 = .ok (.iand, 1) := by decide +kernel
theorem dX12_isOf_8 : decode cX12_isOf 8 = .ok (.iconst 1, 1) := by decide +kernel
theorem dX12_isOf_9 : decode cX12_isOf 9 = .ok (.if_icmp .ne 7, 3) := by decide +kernel
theorem dX12_isOf_12 : decode cX12_isOf 12 = .ok (.iconst 1, 1) := by decide +kernel
theorem dX12_isOf_13 : decode cX12_isOf 13 = .ok (.goto 4, 3) := by decide +kernel
theorem dX12_isOf_16 : decode cX12_isOf 16 = .ok (.iconst 0, 1) := by decide +kernel
theorem dX12_isOf_17 : decode cX12_isOf 17 = .ok (.ireturn, 1) := by decide +kernel
theorem dX12_fits_0 : decode cX12_fits 0 = .ok (.aload_n 0, 1) := by decide +kernel
theorem dX12_fits_1 : decode cX12_fits 1 = .ok (.getfield 9, 3) := by decide +kernel
theorem dX12_fits_4 : decode cX12_fits 4 = .ok (.iload_n 1, 1) := by decide +kernel
theorem dX12_fits_5 : decode cX12_fits 5 = .ok (.iconst 2, 1) := by decide +kernel
theorem dX12_fits_6 : decode cX12_fits 6 = .ok (.iadd, 1) := by decide +kernel
theorem dX12_fits_7 : decode cX12_fits 7 = .ok (.iaload, 1) := by decide +kernel
theorem dX12_fits_8 : decode cX12_fits 8 = .ok (.istore 5, 2) := by decide +kernel
theorem dX12_fits_10 : decode cX12_fits 10 = .ok (.iload 4, 2) := by decide +kernel
theorem dX12_fits_12 : decode cX12_fits 12 = .ok (.iload 5, 2) := by decide +kernel
theorem dX12_fits_14 : decode cX12_fits 14 = .ok (.iadd, 1) := by decide +kernel
theorem dX12_fits_15 : decode cX12_fits 15 = .ok (.iload_n 3, 1) := by decide +kernel
theorem dX12_fits_16 : decode cX12_fits 16 = .ok (.if_icmp .le 5, 3) := by decide +kernel
theorem dX12_fits_19 : decode cX12_fits 19 = .ok (.iconst 0, 1) := by decide +kernel
theorem dX12_fits_20 : decode cX12_fits 20 = .ok (.ireturn, 1) := by decide +kernel
theorem dX12_fits_21 : decode cX12_fits 21 = .ok (.iconst 0, 1) := by decide +kernel
theorem dX12_fits_22 : decode cX12_fits 22 = .ok (.istore 6, 2) := by decide +kernel
theorem dX12_fits_24 : decode cX12_fits 24 = .ok (.iload 6, 2) := by decide +kernel
theorem dX12_fits_26 : decode cX12_fits 26 = .ok (.iload 5, 2) := by decide +kernel
theorem dX12_fits_28 : decode cX12_fits 28 = .ok (.if_icmp .ge 37, 3) := by decide +kernel
theorem dX12_fits_31 : decode cX12_fits 31 = .ok (.aload_n 0, 1) := by decide +kernel
theorem dX12_fits_32 : decode cX12_fits 32 = .ok (.getfield 9, 3) := by decide +kernel
theorem dX12_fits_35 : decode cX12_fits 35 = .ok (.iload_n 2, 1) := by decide +kernel
theorem dX12_fits_36 : decode cX12_fits 36 = .ok (.iload 4, 2) := by decide +kernel
theorem dX12_fits_38 : decode cX12_fits 38 = .ok (.iadd, 1) := by decide +kernel
theorem dX12_fits_39 : decode cX12_fits 39 = .ok (.iload 6, 2) := by decide +kernel
theorem dX12_fits_41 : decode cX12_fits 41 = .ok (.iadd, 1) := by decide +kernel
theorem dX12_fits_42 : decode cX12_fits 42 = .ok (.iaload, 1) := by decide +kernel
theorem dX12_fits_43 : decode cX12_fits 43 = .ok (.aload_n 0, 1) := by decide +kernel
theorem dX12_fits_44 : decode cX12_fits 44 = .ok (.getfield 9, 3) := by decide +kernel
theorem dX12_fits_47 : decode cX12_fits 47 = .ok (.iload_n 1, 1) := by decide +kernel
theorem dX12_fits_48 : decode cX12_fits 48 = .ok (.iconst 3, 1) := by decide +kernel
theorem dX12_fits_49 : decode cX12_fits 49 = .ok (.iadd, 1) := by decide +kernel
theorem dX12_fits_50 : decode cX12_fits 50 = .ok (.iload 6, 2) := by decide +kernel
theorem dX12_fits_52 : decode cX12_fits 52 = .ok (.iadd, 1) := by decide +kernel
theorem dX12_fits_53 : decode cX12_fits 53 = .ok (.iaload, 1) := by decide +kernel
theorem dX12_fits_54 : decode cX12_fits 54 = .ok (.if_icmp .eq 5, 3) := by decide +kernel
theorem dX12_fits_57 : decode cX12_fits 57 = .ok (.iconst 0, 1) := by decide +kernel
theorem dX12_fits_58 : decode cX12_fits 58 = .ok (.ireturn, 1) := by decide +kernel
theorem dX12_fits_59 : decode cX12_fits 59 = .ok (.iinc 6 1, 3) := by decide +kernel
theorem dX12_fits_62 : decode cX12_fits 62 = .ok (.goto (-38), 3) := by decide +kernel
theorem dX12_fits_65 : decode cX12_fits 65 = .ok (.aload_n 0, 1) := by decide +kernel
theorem dX12_fits_66 : decode cX12_fits 66 = .ok (.getfield 9, 3) := by decide +kernel
theorem dX12_fits_69 : decode cX12_fits 69 = .ok (.iload_n 1, 1) := by decide +kernel
theorem dX12_fits_70 : decode cX12_fits 70 = .ok (.iaload, 1) := by decide +kernel
theorem dX12_fits_71 : decode cX12_fits 71 = .ok (.iconst 1, 1) := by decide +kernel
theorem dX12_fits_72 : decode cX12_fits 72 = .ok (.if_icmp .ne 8, 3) := by decide +kernel
theorem dX12_fits_75 : decode cX12_fits 75 = .ok (.iload 4, 2) := by decide +kernel
theorem dX12_fits_77 : decode cX12_fits 77 = .ok (.ifCond .gt 43, 3) := by decide +kernel
theorem dX12_fits_80 : decode cX12_fits 80 = .ok (.aload_n 0, 1) := by decide +kernel
theorem dX12_fits_81 : decode cX12_fits 81 = .ok (.getfield 9, 3) := by decide +kernel
theorem dX12_fits_84 : decode cX12_fits 84 = .ok (.iload_n 1, 1) := by decide +kernel
theorem dX12_fits_85 : decode cX12_fits 85 = .ok (.iaload, 1) := by decide +kernel
theorem dX12_fits_86 : decode cX12_fits 86 = .ok (.iconst 2, 1) := by decide +kernel
theorem dX12_fits_87 : decode cX12_fits 87 = .ok (.if_icmp .ne 35, 3) := by decide +kernel
theorem dX12_fits_90 : decode cX12_fits 90 = .ok (.iload 4, 2) := by decide +kernel
theorem dX12_fits_92 : decode cX12_fits 92 = .ok (.ifCond .eq 28, 3) := by decide +kernel
theorem dX12_fits_95 : decode cX12_fits 95 = .ok (.aload_n 0, 1) := by decide +kernel
theorem dX12_fits_96 : decode cX12_fits 96 = .ok (.getfield 9, 3) := by decide +kernel
theorem dX12_fits_99 : decode cX12_fits 99 = .ok (.iload_n 1, 1) := by decide +kernel
theorem dX12_fits_100 : decode cX12_fits 100 = .ok (.iconst 1, 1) := by decide +kernel
theorem dX12_fits_101 : decode cX12_fits 101 = .ok (.iadd, 1) := by decide +kernel
theorem dX12_fits_102 : decode cX12_fits 102 = .ok (.iaload, 1) := by decide +kernel
theorem dX12_fits_103 : decode cX12_fits 103 = .ok (.aload_n 0, 1) := by decide +kernel
theorem dX12_fits_104 : decode cX12_fits 104 = .ok (.getfield 9, 3) := by decide +kernel
theorem dX12_fits_107 : decode cX12_fits 107 = .ok (.iload_n 2, 1) := by decide +kernel
theorem dX12_fits_108 : decode cX12_fits 108 = .ok (.iload 4, 2) := by decide +kernel
theorem dX12_fits_110 : decode cX12_fits 110 = .ok (.iadd, 1) := by decide +kernel
theorem dX12_fits_111 : decode cX12_fits 111 = .ok (.iconst 1, 1) := by decide +kernel
theorem dX12_fits_112 : decode cX12_fits 112 = .ok (.isub, 1) := by decide +kernel
theorem dX12_fits_113 : decode cX12_fits 113 = .ok (.iaload, 1) := by decide +kernel
theorem dX12_fits_114 : decode cX12_fits 114 = .ok (.invokestatic 261, 3) := by decide +kernel
theorem dX12_fits_117 : decode cX12_fits 117 = .ok (.ifCond .ne 5, 3) := by decide +kernel
theorem dX12_fits_120 : decode cX12_fits 120 = .ok (.iconst 0, 1) := by decide +kernel
theorem dX12_fits_121 : decode cX12_fits 121 = .ok (.ireturn, 1) := by decide +kernel
theorem dX12_fits_122 : decode cX12_fits 122 = .ok (.aload_n 0, 1) := by decide +kernel
theorem dX12_fits_123 : decode cX12_fits 123 = .ok (.getfield 9, 3) := by decide +kernel
theorem dX12_fits_126 : decode cX12_fits 126 = .ok (.iload_n 1, 1) := by decide +kernel
theorem dX12_fits_127 : decode cX12_fits 127 = .ok (.bipush 10, 2) := by decide +kernel
theorem dX12_fits_129 : decode cX12_fits 129 = .ok (.iadd, 1) := by decide +kernel
theorem dX12_fits_130 : decode cX12_fits 130 = .ok (.iaload, 1) := by decide +kernel
theorem dX12_fits_131 : decode cX12_fits 131 = .ok (.ifCond .eq 64, 3) := by decide +kernel
theorem dX12_fits_134 : decode cX12_fits 134 = .ok (.aload_n 0, 1) := by decide +kernel
theorem dX12_fits_135 : decode cX12_fits 135 = .ok (.getfield 9, 3) := by decide +kernel
theorem dX12_fits_138 : decode cX12_fits 138 = .ok (.iload_n 1, 1) := by decide +kernel
theorem dX12_fits_139 : decode cX12_fits 139 = .ok (.bipush 10, 2) := by decide +kernel
theorem dX12_fits_141 : decode cX12_fits 141 = .ok (.iadd, 1) := by decide +kernel
theorem dX12_fits_142 : decode cX12_fits 142 = .ok (.iaload, 1) := by decide +kernel
theorem dX12_fits_143 : decode cX12_fits 143 = .ok (.iconst 1, 1) := by decide +kernel
theorem dX12_fits_144 : decode cX12_fits 144 = .ok (.if_icmp .ne 15, 3) := by decide +kernel
theorem dX12_fits_147 : decode cX12_fits 147 = .ok (.iload 4, 2) := by decide +kernel
theorem dX12_fits_149 : decode cX12_fits 149 = .ok (.iload 5, 2) := by decide +kernel
theorem dX12_fits_151 : decode cX12_fits 151 = .ok (.iadd, 1) := by decide +kernel
theorem dX12_fits_152 : decode cX12_fits 152 = .ok (.iload_n 3, 1) := by decide +kernel
theorem dX12_fits_153 : decode cX12_fits 153 = .ok (.if_icmp .ne 46, 3) := by decide +kernel
theorem dX12_fits_156 : decode cX12_fits 156 = .ok (.goto 39, 3) := by decide +kernel
theorem dX12_fits_159 : decode cX12_fits 159 = .ok (.iload 4, 2) := by decide +kernel
theorem dX12_fits_161 : decode cX12_fits 161 = .ok (.iload 5, 2) := by decide +kernel
theorem dX12_fits_163 : decode cX12_fits 163 = .ok (.iadd, 1) := by decide +kernel
theorem dX12_fits_164 : decode cX12_fits 164 = .ok (.iload_n 3, 1) := by decide +kernel
theorem dX12_fits_165 : decode cX12_fits 165 = .ok (.if_icmp .ge 34, 3) := by decide +kernel
theorem dX12_fits_168 : decode cX12_fits 168 = .ok (.aload_n 0, 1) := by decide +kernel
theorem dX12_fits_169 : decode cX12_fits 169 = .ok (.getfield 9, 3) := by decide +kernel
theorem dX12_fits_172 : decode cX12_fits 172 = .ok (.iload_n 1, 1) := by decide +kernel
theorem dX12_fits_173 : decode cX12_fits 173 = .ok (.bipush 11, 2) := by decide +kernel
theorem dX12_fits_175 : decode cX12_fits 175 = .ok (.iadd, 1) := by decide +kernel
theorem dX12_fits_176 : decode cX12_fits 176 = .ok (.iaload, 1) := by decide +kernel
theorem dX12_fits_177 : decode cX12_fits 177 = .ok (.aload_n 0, 1) := by decide +kernel
theorem dX12_fits_178 : decode cX12_fits 178 = .ok (.getfield 9, 3) := by decide +kernel
theorem dX12_fits_181 : decode cX12_fits 181 = .ok (.iload_n 2, 1) := by decide +kernel
theorem dX12_fits_182 : decode cX12_fits 182 = .ok (.iload 4, 2) := by decide +kernel
theorem dX12_fits_184 : decode cX12_fits 184 = .ok (.iadd, 1) := by decide +kernel
theorem dX12_fits_185 : decode cX12_fits 185 = .ok (.iload 5, 2) := by decide +kernel
theorem dX12_fits_187 : decode cX12_fits 187 = .ok (.iadd, 1) := by decide +kernel
theorem dX12_fits_188 : decode cX12_fits 188 = .ok (.iaload, 1) := by decide +kernel
theorem dX12_fits_189 : decode cX12_fits 189 = .ok (.invokestatic 261, 3) := by decide +kernel
theorem dX12_fits_192 : decode cX12_fits 192 = .ok (.ifCond .eq 7, 3) := by decide +kernel
theorem dX12_fits_195 : decode cX12_fits 195 = .ok (.iconst 1, 1) := by decide +kernel
theorem dX12_fits_196 : decode cX12_fits 196 = .ok (.goto 4, 3) := by decide +kernel
theorem dX12_fits_199 : decode cX12_fits 199 = .ok (.iconst 0, 1) := by decide +kernel
theorem dX12_fits_200 : decode cX12_fits 200 = .ok (.ireturn, 1) := by decide +kernel
theorem dX12_spells_0 : decode cX12_spells 0 = .ok (.aload_n 0, 1) := by decide +kernel
theorem dX12_spells_1 : decode cX12_spells 1 = .ok (.aload_n 0, 1) := by decide +kernel
theorem dX12_spells_2 : decode cX12_spells 2 = .ok (.iload_n 1, 1) := by decide +kernel
theorem dX12_spells_3 : decode cX12_spells 3 = .ok (.iconst 1, 1) := by decide +kernel
theorem dX12_spells_4 : decode cX12_spells 4 = .ok (.invokevirtual 265, 3) := by decide +kernel
theorem dX12_spells_7 : decode cX12_spells 7 = .ok (.iload_n 2, 1) := by decide +kernel
theorem dX12_spells_8 : decode cX12_spells 8 = .ok (.invokevirtual 268, 3) := by decide +kernel
theorem dX12_spells_11 : decode cX12_spells 11 = .ok (.istore_n 3, 1) := by decide +kernel
theorem dX12_spells_12 : decode cX12_spells 12 = .ok (.iload_n 3, 1) := by decide +kernel
theorem dX12_spells_13 : decode cX12_spells 13 = .ok (.iconst (-1), 1) := by decide +kernel
theorem dX12_spells_14 : decode cX12_spells 14 = .ok (.if_icmp .ne 7, 3) := by decide +kernel
theorem dX12_spells_17 : decode cX12_spells 17 = .ok (.iconst 0, 1) := by decide +kernel
theorem dX12_spells_18 : decode cX12_spells 18 = .ok (.goto 19, 3) := by decide +kernel
theorem dX12_spells_21 : decode cX12_spells 21 = .ok (.aload_n 0, 1) := by decide +kernel
theorem dX12_spells_22 : decode cX12_spells 22 = .ok (.getfield 9, 3) := by decide +kernel
theorem dX12_spells_25 : decode cX12_spells 25 = .ok (.sipush 1370, 3) := by decide +kernel
theorem dX12_spells_28 : decode cX12_spells 28 = .ok (.sipush 195, 3) := by decide +kernel
theorem dX12_spells_31 : decode cX12_spells 31 = .ok (.iload_n 3, 1) := by decide +kernel
theorem dX12_spells_32 : decode cX12_spells 32 = .ok (.imul, 1) := by decide +kernel
theorem dX12_spells_33 : decode cX12_spells 33 = .ok (.iadd, 1) := by decide +kernel
theorem dX12_spells_34 : decode cX12_spells 34 = .ok (.iconst 2, 1) := by decide +kernel
theorem dX12_spells_35 : decode cX12_spells 35 = .ok (.iadd, 1) := by decide +kernel
theorem dX12_spells_36 : decode cX12_spells 36 = .ok (.iaload, 1) := by decide +kernel
theorem dX12_spells_37 : decode cX12_spells 37 = .ok (.istore 4, 2) := by decide +kernel
theorem dX12_spells_39 : decode cX12_spells 39 = .ok (.bipush 90, 2) := by decide +kernel
theorem dX12_spells_41 : decode cX12_spells 41 = .ok (.bipush 16, 2) := by decide +kernel
theorem dX12_spells_43 : decode cX12_spells 43 = .ok (.iload_n 1, 1) := by decide +kernel
theorem dX12_spells_44 : decode cX12_spells 44 = .ok (.imul, 1) := by decide +kernel
theorem dX12_spells_45 : decode cX12_spells 45 = .ok (.iadd, 1) := by decide +kernel
theorem dX12_spells_46 : decode cX12_spells 46 = .ok (.iconst 4, 1) := by decide +kernel
theorem dX12_spells_47 : decode cX12_spells 47 = .ok (.iadd, 1) := by decide +kernel
theorem dX12_spells_48 : decode cX12_spells 48 = .ok (.istore 5, 2) := by decide +kernel
theorem dX12_spells_50 : decode cX12_spells 50 = .ok (.aload_n 0, 1) := by decide +kernel
theorem dX12_spells_51 : decode cX12_spells 51 = .ok (.iload_n 1, 1) := by decide +kernel
theorem dX12_spells_52 : decode cX12_spells 52 = .ok (.iconst 3, 1) := by decide +kernel
theorem dX12_spells_53 : decode cX12_spells 53 = .ok (.invokevirtual 265, 3) := by decide +kernel
theorem dX12_spells_56 : decode cX12_spells 56 = .ok (.istore 6, 2) := by decide +kernel
theorem dX12_spells_58 : decode cX12_spells 58 = .ok (.iconst 0, 1) := by decide +kernel
theorem dX12_spells_59 : decode cX12_spells 59 = .ok (.istore 7, 2) := by decide +kernel
theorem dX12_spells_61 : decode cX12_spells 61 = .ok (.iload 7, 2) := by decide +kernel
theorem dX12_spells_63 : decode cX12_spells 63 = .ok (.iload 6, 2) := by decide +kernel
theorem dX12_spells_65 : decode cX12_spells 65 = .ok (.if_icmp .ge 162, 3) := by decide +kernel
theorem dX12_spells_68 : decode cX12_spells 68 = .ok (.iconst 0, 1) := by decide +kernel
theorem dX12_spells_69 : decode cX12_spells 69 = .ok (.istore 8, 2) := by decide +kernel
theorem dX12_spells_71 : decode cX12_spells 71 = .ok (.iload 8, 2) := by decide +kernel
theorem dX12_spells_73 : decode cX12_spells 73 = .ok (.iload 4, 2) := by decide +kernel
theorem dX12_spells_75 : decode cX12_spells 75 = .ok (.if_icmp .ge 39, 3) := by decide +kernel
theorem dX12_spells_78 : decode cX12_spells 78 = .ok (.aload_n 0, 1) := by decide +kernel
theorem dX12_spells_79 : decode cX12_spells 79 = .ok (.sipush 1370, 3) := by decide +kernel
theorem dX12_spells_82 : decode cX12_spells 82 = .ok (.sipush 195, 3) := by decide +kernel
theorem dX12_spells_85 : decode cX12_spells 85 = .ok (.iload_n 3, 1) := by decide +kernel
theorem dX12_spells_86 : decode cX12_spells 86 = .ok (.imul, 1) := by decide +kernel
theorem dX12_spells_87 : decode cX12_spells 87 = .ok (.iadd, 1) := by decide +kernel
theorem dX12_spells_88 : decode cX12_spells 88 = .ok (.iconst 3, 1) := by decide +kernel
theorem dX12_spells_89 : decode cX12_spells 89 = .ok (.iadd, 1) := by decide +kernel
theorem dX12_spells_90 : decode cX12_spells 90 = .ok (.bipush 12, 2) := by decide +kernel
theorem dX12_spells_92 : decode cX12_spells 92 = .ok (.iload 8, 2) := by decide +kernel
theorem dX12_spells_94 : decode cX12_spells 94 = .ok (.imul, 1) := by decide +kernel
theorem dX12_spells_95 : decode cX12_spells 95 = .ok (.iadd, 1) := by decide +kernel
theorem dX12_spells_96 : decode cX12_spells 96 = .ok (.iload 5, 2) := by decide +kernel
theorem dX12_spells_98 : decode cX12_spells 98 = .ok (.iload 6, 2) := by decide +kernel
theorem dX12_spells_100 : decode cX12_spells 100 = .ok (.iload 7, 2) := by decide +kernel
theorem dX12_spells_102 : decode cX12_spells 102 = .ok (.invokevirtual 271, 3) := by decide +kernel
theorem dX12_spells_105 : decode cX12_spells 105 = .ok (.ifCond .ne 9, 3) := by decide +kernel
theorem dX12_spells_108 : decode cX12_spells 108 = .ok (.iinc 8 1, 3) := by decide +kernel
theorem dX12_spells_111 : decode cX12_spells 111 = .ok (.goto (-40), 3) := by decide +kernel
theorem dX12_spells_114 : decode cX12_spells 114 = .ok (.iload 8, 2) := by decide +kernel
theorem dX12_spells_116 : decode cX12_spells 116 = .ok (.iload 4, 2) := by decide +kernel
theorem dX12_spells_118 : decode cX12_spells 118 = .ok (.if_icmp .ne 25, 3) := by decide +kernel
theorem dX12_spells_121 : decode cX12_spells 121 = .ok (.aload_n 0, 1) := by decide +kernel
theorem dX12_spells_122 : decode cX12_spells 122 = .ok (.aload_n 0, 1) := by decide +kernel
theorem dX12_spells_123 : decode cX12_spells 123 = .ok (.getfield 9, 3) := by decide +kernel
theorem dX12_spells_126 : decode cX12_spells 126 = .ok (.iload 5, 2) := by decide +kernel
theorem dX12_spells_128 : decode cX12_spells 128 = .ok (.iload 7, 2) := by decide +kernel
theorem dX12_spells_130 : decode cX12_spells 130 = .ok (.iadd, 1) := by decide +kernel
theorem dX12_spells_131 : decode cX12_spells 131 = .ok (.iaload, 1) := by decide +kernel
theorem dX12_spells_132 : decode cX12_spells 132 = .ok (.bipush (-3), 2) := by decide +kernel
theorem dX12_spells_134 : decode cX12_spells 134 = .ok (.invokevirtual 275, 3) := by decide +kernel
theorem dX12_spells_137 : decode cX12_spells 137 = .ok (.iinc 7 1, 3) := by decide +kernel
theorem dX12_spells_140 : decode cX12_spells 140 = .ok (.goto (-79), 3) := by decide +kernel
theorem dX12_spells_143 : decode cX12_spells 143 = .ok (.sipush 1370, 3) := by decide +kernel
theorem dX12_spells_146 : decode cX12_spells 146 = .ok (.sipush 195, 3) := by decide +kernel
theorem dX12_spells_149 : decode cX12_spells 149 = .ok (.iload_n 3, 1) := by decide +kernel
theorem dX12_spells_150 : decode cX12_spells 150 = .ok (.imul, 1) := by decide +kernel
theorem dX12_spells_151 : decode cX12_spells 151 = .ok (.iadd, 1) := by decide +kernel
theorem dX12_spells_152 : decode cX12_spells 152 = .ok (.iconst 3, 1) := by decide +kernel
theorem dX12_spells_153 : decode cX12_spells 153 = .ok (.iadd, 1) := by decide +kernel
theorem dX12_spells_154 : decode cX12_spells 154 = .ok (.bipush 12, 2) := by decide +kernel
theorem dX12_spells_156 : decode cX12_spells 156 = .ok (.iload 8, 2) := by decide +kernel
theorem dX12_spells_158 : decode cX12_spells 158 = .ok (.imul, 1) := by decide +kernel
theorem dX12_spells_159 : decode cX12_spells 159 = .ok (.iadd, 1) := by decide +kernel
theorem dX12_spells_160 : decode cX12_spells 160 = .ok (.istore 9, 2) := by decide +kernel
theorem dX12_spells_162 : decode cX12_spells 162 = .ok (.iconst 0, 1) := by decide +kernel
theorem dX12_spells_163 : decode cX12_spells 163 = .ok (.istore 10, 2) := by decide +kernel
theorem dX12_spells_165 : decode cX12_spells 165 = .ok (.iload 10, 2) := by decide +kernel
theorem dX12_spells_167 : decode cX12_spells 167 = .ok (.aload_n 0, 1) := by decide +kernel
theorem dX12_spells_168 : decode cX12_spells 168 = .ok (.getfield 9, 3) := by decide +kernel
theorem dX12_spells_171 : decode cX12_spells 171 = .ok (.iload 9, 2) := by decide +kernel
theorem dX12_spells_173 : decode cX12_spells 173 = .ok (.bipush 6, 2) := by decide +kernel
theorem dX12_spells_175 : decode cX12_spells 175 = .ok (.iadd, 1) := by decide +kernel
theorem dX12_spells_176 : decode cX12_spells 176 = .ok (.iaload, 1) := by decide +kernel
theorem dX12_spells_177 : decode cX12_spells 177 = .ok (.if_icmp .ge 33, 3) := by decide +kernel
theorem dX12_spells_180 : decode cX12_spells 180 = .ok (.aload_n 0, 1) := by decide +kernel
theorem dX12_spells_181 : decode cX12_spells 181 = .ok (.aload_n 0, 1) := by decide +kernel
theorem dX12_spells_182 : decode cX12_spells 182 = .ok (.getfield 9, 3) := by decide +kernel
theorem dX12_spells_185 : decode cX12_spells 185 = .ok (.iload 9, 2) := by decide +kernel
theorem dX12_spells_187 : decode cX12_spells 187 = .ok (.bipush 7, 2) := by decide +kernel
theorem dX12_spells_189 : decode cX12_spells 189 = .ok (.iadd, 1) := by decide +kernel
theorem dX12_spells_190 : decode cX12_spells 190 = .ok (.iload 10, 2) := by decide +kernel
theorem dX12_spells_192 : decode cX12_spells 192 = .ok (.iadd, 1) := by decide +kernel
theorem dX12_spells_193 : decode cX12_spells 193 = .ok (.iaload, 1) := by decide +kernel
theorem dX12_spells_194 : decode cX12_spells 194 = .ok (.bipush 100, 2) := by decide +kernel
theorem dX12_spells_196 : decode cX12_spells 196 = .ok (.iload_n 3, 1) := by decide +kernel
theorem dX12_spells_197 : decode cX12_spells 197 = .ok (.imul, 1) := by decide +kernel
theorem dX12_spells_198 : decode cX12_spells 198 = .ok (.iload 8, 2) := by decide +kernel
theorem dX12_spells_200 : decode cX12_spells 200 = .ok (.iadd, 1) := by decide +kernel
theorem dX12_spells_201 : decode cX12_spells 201 = .ok (.invokevirtual 275, 3) := by decide +kernel
theorem dX12_spells_204 : decode cX12_spells 204 = .ok (.iinc 10 1, 3) := by decide +kernel
theorem dX12_spells_207 : decode cX12_spells 207 = .ok (.goto (-42), 3) := by decide +kernel
theorem dX12_spells_210 : decode cX12_spells 210 = .ok (.iload 7, 2) := by decide +kernel
theorem dX12_spells_212 : decode cX12_spells 212 = .ok (.aload_n 0, 1) := by decide +kernel
theorem dX12_spells_213 : decode cX12_spells 213 = .ok (.getfield 9, 3) := by decide +kernel
theorem dX12_spells_216 : decode cX12_spells 216 = .ok (.iload 9, 2) := by decide +kernel
theorem dX12_spells_218 : decode cX12_spells 218 = .ok (.iconst 2, 1) := by decide +kernel
theorem dX12_spells_219 : decode cX12_spells 219 = .ok (.iadd, 1) := by decide +kernel
theorem dX12_spells_220 : decode cX12_spells 220 = .ok (.iaload, 1) := by decide +kernel
theorem dX12_spells_221 : decode cX12_spells 221 = .ok (.iadd, 1) := by decide +kernel
theorem dX12_spells_222 : decode cX12_spells 222 = .ok (.istore 7, 2) := by decide +kernel
theorem dX12_spells_224 : decode cX12_spells 224 = .ok (.goto (-163), 3) := by decide +kernel
theorem dX12_spells_227 : decode cX12_spells 227 = .ok (.return_, 1) := by decide +kernel
theorem dX12_takesInHand_0 : decode cX12_takesInHand 0 = .ok (.aload_n 0, 1) := by decide +kernel
theorem dX12_takesInHand_1 : decode cX12_takesInHand 1 = .ok (.aload_n 0, 1) := by decide +kernel
theorem dX12_takesInHand_2 : decode cX12_takesInHand 2 = .ok (.getfield 258, 3) := by decide +kernel
theorem dX12_takesInHand_5 : decode cX12_takesInHand 5 = .ok (.putfield 279, 3) := by decide +kernel
theorem dX12_takesInHand_8 : decode cX12_takesInHand 8 = .ok (.iconst 0, 1) := by decide +kernel
theorem dX12_takesInHand_9 : decode cX12_takesInHand 9 = .ok (.istore_n 1, 1) := by decide +kernel
theorem dX12_takesInHand_10 : decode cX12_takesInHand 10 = .ok (.iload_n 1, 1) := by decide +kernel
theorem dX12_takesInHand_11 : decode cX12_takesInHand 11 = .ok (.aload_n 0, 1) := by decide +kernel
theorem dX12_takesInHand_12 : decode cX12_takesInHand 12 = .ok (.getfield 258, 3) := by decide +kernel
theorem dX12_takesInHand_15 : decode cX12_takesInHand 15 = .ok (.if_icmp .ge 33, 3) := by decide +kernel
theorem dX12_takesInHand_18 : decode cX12_takesInHand 18 = .ok (.aload_n 0, 1) := by decide +kernel
theorem dX12_takesInHand_19 : decode cX12_takesInHand 19 = .ok (.getfield 50, 3) := by decide +kernel
theorem dX12_takesInHand_22 : decode cX12_takesInHand 22 = .ok (.iload_n 1, 1) := by decide +kernel
theorem dX12_takesInHand_23 : decode cX12_takesInHand 23 = .ok (.aload_n 0, 1) := by decide +kernel
theorem dX12_takesInHand_24 : decode cX12_takesInHand 24 = .ok (.getfield 44, 3) := by decide +kernel
theorem dX12_takesInHand_27 : decode cX12_takesInHand 27 = .ok (.iload_n 1, 1) := by decide +kernel
theorem dX12_takesInHand_28 : decode cX12_takesInHand 28 = .ok (.iaload, 1) := by decide +kernel
theorem dX12_takesInHand_29 : decode cX12_takesInHand 29 = .ok (.iastore, 1) := by decide +kernel
theorem dX12_takesInHand_30 : decode cX12_takesInHand 30 = .ok (.aload_n 0, 1) := by decide +kernel
theorem dX12_takesInHand_31 : decode cX12_takesInHand 31 = .ok (.getfield 53, 3) := by decide +kernel
theorem dX12_takesInHand_34 : decode cX12_takesInHand 34 = .ok (.iload_n 1, 1) := by decide +kernel
theorem dX12_takesInHand_35 : decode cX12_takesInHand 35 = .ok (.aload_n 0, 1) := by decide +kernel
theorem dX12_takesInHand_36 : decode cX12_takesInHand 36 = .ok (.getfield 47, 3) := by decide +kernel
theorem dX12_takesInHand_39 : decode cX12_takesInHand 39 = .ok (.iload_n 1, 1) := by decide +kernel
theorem dX12_takesInHand_40 : decode cX12_takesInHand 40 = .ok (.iaload, 1) := by decide +kernel
theorem dX12_takesInHand_41 : decode cX12_takesInHand 41 = .ok (.iastore, 1) := by decide +kernel
theorem dX12_takesInHand_42 : decode cX12_takesInHand 42 = .ok (.iinc 1 1, 3) := by decide +kernel
theorem dX12_takesInHand_45 : decode cX12_takesInHand 45 = .ok (.goto (-35), 3) := by decide +kernel
theorem dX12_takesInHand_48 : decode cX12_takesInHand 48 = .ok (.aload_n 0, 1) := by decide +kernel
theorem dX12_takesInHand_49 : decode cX12_takesInHand 49 = .ok (.getfield 279, 3) := by decide +kernel
theorem dX12_takesInHand_52 : decode cX12_takesInHand 52 = .ok (.ireturn, 1) := by decide +kernel
theorem dX12_spell_0 : decode cX12_spell 0 = .ok (.aload_n 0, 1) := by decide +kernel
theorem dX12_spell_1 : decode cX12_spell 1 = .ok (.iload_n 1, 1) := by decide +kernel
theorem dX12_spell_2 : decode cX12_spell 2 = .ok (.invokevirtual 282, 3) := by decide +kernel
theorem dX12_spell_5 : decode cX12_spell 5 = .ok (.ifCond .eq 10, 3) := by decide +kernel
theorem dX12_spell_8 : decode cX12_spell 8 = .ok (.iload_n 2, 1) := by decide +kernel
theorem dX12_spell_9 : decode cX12_spell 9 = .ok (.invokestatic 160, 3) := by decide +kernel
theorem dX12_spell_12 : decode cX12_spell 12 = .ok (.ifCond .ne 6, 3) := by decide +kernel
theorem dX12_spell_15 : decode cX12_spell 15 = .ok (.bipush (-2), 2) := by decide +kernel
theorem dX12_spell_17 : decode cX12_spell 17 = .ok (.ireturn, 1) := by decide +kernel
theorem dX12_spell_18 : decode cX12_spell 18 = .ok (.aload_n 0, 1) := by decide +kernel
theorem dX12_spell_19 : decode cX12_spell 19 = .ok (.iconst 0, 1) := by decide +kernel
theorem dX12_spell_20 : decode cX12_spell 20 = .ok (.putfield 258, 3) := by decide +kernel
theorem dX12_spell_23 : decode cX12_spell 23 = .ok (.aload_n 0, 1) := by decide +kernel
theorem dX12_spell_24 : decode cX12_spell 24 = .ok (.iload_n 1, 1) := by decide +kernel
theorem dX12_spell_25 : decode cX12_spell 25 = .ok (.iload_n 2, 1) := by decide +kernel
theorem dX12_spell_26 : decode cX12_spell 26 = .ok (.invokevirtual 285, 3) := by decide +kernel
theorem dX12_spell_29 : decode cX12_spell 29 = .ok (.aload_n 0, 1) := by decide +kernel
theorem dX12_spell_30 : decode cX12_spell 30 = .ok (.invokevirtual 288, 3) := by decide +kernel
theorem dX12_spell_33 : decode cX12_spell 33 = .ok (.ireturn, 1) := by decide +kernel
theorem dX12_letter_0 : decode cX12_letter 0 = .ok (.iload_n 1, 1) := by decide +kernel
theorem dX12_letter_1 : decode cX12_letter 1 = .ok (.i2l, 1) := by decide +kernel
theorem dX12_letter_2 : decode cX12_letter 2 = .ok (.lconst 0, 1) := by decide +kernel
theorem dX12_letter_3 : decode cX12_letter 3 = .ok (.aload_n 0, 1) := by decide +kernel
theorem dX12_letter_4 : decode cX12_letter 4 = .ok (.getfield 279, 3) := by decide +kernel
theorem dX12_letter_7 : decode cX12_letter 7 = .ok (.iconst 1, 1) := by decide +kernel
theorem dX12_letter_8 : decode cX12_letter 8 = .ok (.isub, 1) := by decide +kernel
theorem dX12_letter_9 : decode cX12_letter 9 = .ok (.i2l, 1) := by decide +kernel
theorem dX12_letter_10 : decode cX12_letter 10 = .ok (.invokestatic 125, 3) := by decide +kernel
theorem dX12_letter_13 : decode cX12_letter 13 = .ok (.ifCond .eq 12, 3) := by decide +kernel
theorem dX12_letter_16 : decode cX12_letter 16 = .ok (.aload_n 0, 1) := by decide +kernel
theorem dX12_letter_17 : decode cX12_letter 17 = .ok (.getfield 50, 3) := by decide +kernel
theorem dX12_letter_20 : decode cX12_letter 20 = .ok (.iload_n 1, 1) := by decide +kernel
theorem dX12_letter_21 : decode cX12_letter 21 = .ok (.iaload, 1) := by decide +kernel
theorem dX12_letter_22 : decode cX12_letter 22 = .ok (.goto 4, 3) := by decide +kernel
theorem dX12_letter_25 : decode cX12_letter 25 = .ok (.iconst (-1), 1) := by decide +kernel
theorem dX12_letter_26 : decode cX12_letter 26 = .ok (.ireturn, 1) := by decide +kernel
theorem dX12_led_0 : decode cX12_led 0 = .ok (.iload_n 1, 1) := by decide +kernel
theorem dX12_led_1 : decode cX12_led 1 = .ok (.i2l, 1) := by decide +kernel
theorem dX12_led_2 : decode cX12_led 2 = .ok (.lconst 0, 1) := by decide +kernel
theorem dX12_led_3 : decode cX12_led 3 = .ok (.aload_n 0, 1) := by decide +kernel
theorem dX12_led_4 : decode cX12_led 4 = .ok (.getfield 279, 3) := by decide +kernel
theorem dX12_led_7 : decode cX12_led 7 = .ok (.iconst 1, 1) := by decide +kernel
theorem dX12_led_8 : decode cX12_led 8 = .ok (.isub, 1) := by decide +kernel
theorem dX12_led_9 : decode cX12_led 9 = .ok (.i2l, 1) := by decide +kernel
theorem dX12_led_10 : decode cX12_led 10 = .ok (.invokestatic 125, 3) := by decide +kernel
theorem dX12_led_13 : decode cX12_led 13 = .ok (.ifCond .eq 12, 3) := by decide +kernel
theorem dX12_led_16 : decode cX12_led 16 = .ok (.aload_n 0, 1) := by decide +kernel
theorem dX12_led_17 : decode cX12_led 17 = .ok (.getfield 53, 3) := by decide +kernel
theorem dX12_led_20 : decode cX12_led 20 = .ok (.iload_n 1, 1) := by decide +kernel
theorem dX12_led_21 : decode cX12_led 21 = .ok (.iaload, 1) := by decide +kernel
theorem dX12_led_22 : decode cX12_led 22 = .ok (.goto 4, 3) := by decide +kernel
theorem dX12_led_25 : decode cX12_led 25 = .ok (.iconst (-1), 1) := by decide +kernel
theorem dX12_led_26 : decode cX12_led 26 = .ok (.ireturn, 1) := by decide +kernel
theorem dX12_holds_0 : decode cX12_holds 0 = .ok (.aload_n 0, 1) := by decide +kernel
theorem dX12_holds_1 : decode cX12_holds 1 = .ok (.aload_n 0, 1) := by decide +kernel
theorem dX12_holds_2 : decode cX12_holds 2 = .ok (.getfield 258, 3) := by decide +kernel
theorem dX12_holds_5 : decode cX12_holds 5 = .ok (.putfield 291, 3) := by decide +kernel
theorem dX12_holds_8 : decode cX12_holds 8 = .ok (.iconst 0, 1) := by decide +kernel
theorem dX12_holds_9 : decode cX12_holds 9 = .ok (.istore_n 1, 1) := by decide +kernel
theorem dX12_holds_10 : decode cX12_holds 10 = .ok (.iload_n 1, 1) := by decide +kernel
theorem dX12_holds_11 : decode cX12_holds 11 = .ok (.aload_n 0, 1) := by decide +kernel
theorem dX12_holds_12 : decode cX12_holds 12 = .ok (.getfield 258, 3) := by decide +kernel
theorem dX12_holds_15 : decode cX12_holds 15 = .ok (.if_icmp .ge 21, 3) := by decide +kernel
theorem dX12_holds_18 : decode cX12_holds 18 = .ok (.aload_n 0, 1) := by decide +kernel
