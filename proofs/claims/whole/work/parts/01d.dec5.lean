theorem dX12_holds_19 : decode cX12_holds 19 = .ok (.getfield 56, 3) := by decide +kernel
theorem dX12_holds_22 : decode cX12_holds 22 = .ok (.iload_n 1, 1) := by decide +kernel
theorem dX12_holds_23 : decode cX12_holds 23 = .ok (.aload_n 0, 1) := by decide +kernel
theorem dX12_holds_24 : decode cX12_holds 24 = .ok (.getfield 44, 3) := by decide +kernel
theorem dX12_holds_27 : decode cX12_holds 27 = .ok (.iload_n 1, 1) := by decide +kernel
theorem dX12_holds_28 : decode cX12_holds 28 = .ok (.iaload, 1) := by decide +kernel
theorem dX12_holds_29 : decode cX12_holds 29 = .ok (.iastore, 1) := by decide +kernel
theorem dX12_holds_30 : decode cX12_holds 30 = .ok (.iinc 1 1, 3) := by decide +kernel
theorem dX12_holds_33 : decode cX12_holds 33 = .ok (.goto (-23), 3) := by decide +kernel
theorem dX12_holds_36 : decode cX12_holds 36 = .ok (.return_, 1) := by decide +kernel
theorem dX12_isAlike_0 : decode cX12_isAlike 0 = .ok (.aload_n 0, 1) := by decide +kernel
theorem dX12_isAlike_1 : decode cX12_isAlike 1 = .ok (.getfield 291, 3) := by decide +kernel
theorem dX12_isAlike_4 : decode cX12_isAlike 4 = .ok (.aload_n 0, 1) := by decide +kernel
theorem dX12_isAlike_5 : decode cX12_isAlike 5 = .ok (.getfield 258, 3) := by decide +kernel
theorem dX12_isAlike_8 : decode cX12_isAlike 8 = .ok (.if_icmp .ne 7, 3) := by decide +kernel
theorem dX12_isAlike_11 : decode cX12_isAlike 11 = .ok (.iconst 1, 1) := by decide +kernel
theorem dX12_isAlike_12 : decode cX12_isAlike 12 = .ok (.goto 4, 3) := by decide +kernel
theorem dX12_isAlike_15 : decode cX12_isAlike 15 = .ok (.iconst 0, 1) := by decide +kernel
theorem dX12_isAlike_16 : decode cX12_isAlike 16 = .ok (.istore_n 1, 1) := by decide +kernel
theorem dX12_isAlike_17 : decode cX12_isAlike 17 = .ok (.iconst 0, 1) := by decide +kernel
theorem dX12_isAlike_18 : decode cX12_isAlike 18 = .ok (.istore_n 2, 1) := by decide +kernel
theorem dX12_isAlike_19 : decode cX12_isAlike 19 = .ok (.iload_n 2, 1) := by decide +kernel
theorem dX12_isAlike_20 : decode cX12_isAlike 20 = .ok (.aload_n 0, 1) := by decide +kernel
theorem dX12_isAlike_21 : decode cX12_isAlike 21 = .ok (.getfield 258, 3) := by decide +kernel
theorem dX12_isAlike_24 : decode cX12_isAlike 24 = .ok (.if_icmp .ge 34, 3) := by decide +kernel
theorem dX12_isAlike_27 : decode cX12_isAlike 27 = .ok (.iload_n 1, 1) := by decide +kernel
theorem dX12_isAlike_28 : decode cX12_isAlike 28 = .ok (.ifCond .eq 30, 3) := by decide +kernel
theorem dX12_isAlike_31 : decode cX12_isAlike 31 = .ok (.aload_n 0, 1) := by decide +kernel
theorem dX12_isAlike_32 : decode cX12_isAlike 32 = .ok (.getfield 56, 3) := by decide +kernel
theorem dX12_isAlike_35 : decode cX12_isAlike 35 = .ok (.iload_n 2, 1) := by decide +kernel
theorem dX12_isAlike_36 : decode cX12_isAlike 36 = .ok (.iaload, 1) := by decide +kernel
theorem dX12_isAlike_37 : decode cX12_isAlike 37 = .ok (.aload_n 0, 1) := by decide +kernel
theorem dX12_isAlike_38 : decode cX12_isAlike 38 = .ok (.getfield 44, 3) := by decide +kernel
theorem dX12_isAlike_41 : decode cX12_isAlike 41 = .ok (.iload_n 2, 1) := by decide +kernel
theorem dX12_isAlike_42 : decode cX12_isAlike 42 = .ok (.iaload, 1) := by decide +kernel
theorem dX12_isAlike_43 : decode cX12_isAlike 43 = .ok (.if_icmp .ne 7, 3) := by decide +kernel
theorem dX12_isAlike_46 : decode cX12_isAlike 46 = .ok (.iconst 1, 1) := by decide +kernel
theorem dX12_isAlike_47 : decode cX12_isAlike 47 = .ok (.goto 4, 3) := by decide +kernel
theorem dX12_isAlike_50 : decode cX12_isAlike 50 = .ok (.iconst 0, 1) := by decide +kernel
theorem dX12_isAlike_51 : decode cX12_isAlike 51 = .ok (.istore_n 1, 1) := by decide +kernel
theorem dX12_isAlike_52 : decode cX12_isAlike 52 = .ok (.iinc 2 1, 3) := by decide +kernel
theorem dX12_isAlike_55 : decode cX12_isAlike 55 = .ok (.goto (-36), 3) := by decide +kernel
theorem dX12_isAlike_58 : decode cX12_isAlike 58 = .ok (.iload_n 1, 1) := by decide +kernel
theorem dX12_isAlike_59 : decode cX12_isAlike 59 = .ok (.ireturn, 1) := by decide +kernel
theorem dX12_alikes_0 : decode cX12_alikes 0 = .ok (.iload_n 1, 1) := by decide +kernel
theorem dX12_alikes_1 : decode cX12_alikes 1 = .ok (.invokestatic 160, 3) := by decide +kernel
theorem dX12_alikes_4 : decode cX12_alikes 4 = .ok (.ifCond .ne 6, 3) := by decide +kernel
theorem dX12_alikes_7 : decode cX12_alikes 7 = .ok (.bipush (-2), 2) := by decide +kernel
theorem dX12_alikes_9 : decode cX12_alikes 9 = .ok (.ireturn, 1) := by decide +kernel
theorem dX12_alikes_10 : decode cX12_alikes 10 = .ok (.iconst 0, 1) := by decide +kernel
theorem dX12_alikes_11 : decode cX12_alikes 11 = .ok (.istore_n 2, 1) := by decide +kernel
theorem dX12_alikes_12 : decode cX12_alikes 12 = .ok (.iconst 0, 1) := by decide +kernel
theorem dX12_alikes_13 : decode cX12_alikes 13 = .ok (.istore_n 3, 1) := by decide +kernel
theorem dX12_alikes_14 : decode cX12_alikes 14 = .ok (.iload_n 3, 1) := by decide +kernel
theorem dX12_alikes_15 : decode cX12_alikes 15 = .ok (.aload_n 0, 1) := by decide +kernel
theorem dX12_alikes_16 : decode cX12_alikes 16 = .ok (.getfield 9, 3) := by decide +kernel
theorem dX12_alikes_19 : decode cX12_alikes 19 = .ok (.iconst 2, 1) := by decide +kernel
theorem dX12_alikes_20 : decode cX12_alikes 20 = .ok (.iaload, 1) := by decide +kernel
theorem dX12_alikes_21 : decode cX12_alikes 21 = .ok (.if_icmp .ge 92, 3) := by decide +kernel
theorem dX12_alikes_24 : decode cX12_alikes 24 = .ok (.aload_n 0, 1) := by decide +kernel
theorem dX12_alikes_25 : decode cX12_alikes 25 = .ok (.iconst 0, 1) := by decide +kernel
theorem dX12_alikes_26 : decode cX12_alikes 26 = .ok (.putfield 258, 3) := by decide +kernel
theorem dX12_alikes_29 : decode cX12_alikes 29 = .ok (.aload_n 0, 1) := by decide +kernel
theorem dX12_alikes_30 : decode cX12_alikes 30 = .ok (.iload_n 3, 1) := by decide +kernel
theorem dX12_alikes_31 : decode cX12_alikes 31 = .ok (.iload_n 1, 1) := by decide +kernel
theorem dX12_alikes_32 : decode cX12_alikes 32 = .ok (.invokevirtual 285, 3) := by decide +kernel
theorem dX12_alikes_35 : decode cX12_alikes 35 = .ok (.aload_n 0, 1) := by decide +kernel
theorem dX12_alikes_36 : decode cX12_alikes 36 = .ok (.invokevirtual 294, 3) := by decide +kernel
theorem dX12_alikes_39 : decode cX12_alikes 39 = .ok (.iload_n 3, 1) := by decide +kernel
theorem dX12_alikes_40 : decode cX12_alikes 40 = .ok (.iconst 1, 1) := by decide +kernel
theorem dX12_alikes_41 : decode cX12_alikes 41 = .ok (.iadd, 1) := by decide +kernel
theorem dX12_alikes_42 : decode cX12_alikes 42 = .ok (.istore 4, 2) := by decide +kernel
theorem dX12_alikes_44 : decode cX12_alikes 44 = .ok (.iload 4, 2) := by decide +kernel
theorem dX12_alikes_46 : decode cX12_alikes 46 = .ok (.aload_n 0, 1) := by decide +kernel
theorem dX12_alikes_47 : decode cX12_alikes 47 = .ok (.getfield 9, 3) := by decide +kernel
theorem dX12_alikes_50 : decode cX12_alikes 50 = .ok (.iconst 2, 1) := by decide +kernel
theorem dX12_alikes_51 : decode cX12_alikes 51 = .ok (.iaload, 1) := by decide +kernel
theorem dX12_alikes_52 : decode cX12_alikes 52 = .ok (.if_icmp .ge 55, 3) := by decide +kernel
theorem dX12_alikes_55 : decode cX12_alikes 55 = .ok (.aload_n 0, 1) := by decide +kernel
theorem dX12_alikes_56 : decode cX12_alikes 56 = .ok (.iload_n 3, 1) := by decide +kernel
theorem dX12_alikes_57 : decode cX12_alikes 57 = .ok (.iconst 0, 1) := by decide +kernel
theorem dX12_alikes_58 : decode cX12_alikes 58 = .ok (.invokevirtual 265, 3) := by decide +kernel
theorem dX12_alikes_61 : decode cX12_alikes 61 = .ok (.aload_n 0, 1) := by decide +kernel
theorem dX12_alikes_62 : decode cX12_alikes 62 = .ok (.iload 4, 2) := by decide +kernel
theorem dX12_alikes_64 : decode cX12_alikes 64 = .ok (.iconst 0, 1) := by decide +kernel
theorem dX12_alikes_65 : decode cX12_alikes 65 = .ok (.invokevirtual 265, 3) := by decide +kernel
theorem dX12_alikes_68 : decode cX12_alikes 68 = .ok (.if_icmp .ne 6, 3) := by decide +kernel
theorem dX12_alikes_71 : decode cX12_alikes 71 = .ok (.goto 30, 3) := by decide +kernel
theorem dX12_alikes_74 : decode cX12_alikes 74 = .ok (.aload_n 0, 1) := by decide +kernel
theorem dX12_alikes_75 : decode cX12_alikes 75 = .ok (.iconst 0, 1) := by decide +kernel
theorem dX12_alikes_76 : decode cX12_alikes 76 = .ok (.putfield 258, 3) := by decide +kernel
theorem dX12_alikes_79 : decode cX12_alikes 79 = .ok (.aload_n 0, 1) := by decide +kernel
theorem dX12_alikes_80 : decode cX12_alikes 80 = .ok (.iload 4, 2) := by decide +kernel
theorem dX12_alikes_82 : decode cX12_alikes 82 = .ok (.iload_n 1, 1) := by decide +kernel
theorem dX12_alikes_83 : decode cX12_alikes 83 = .ok (.invokevirtual 285, 3) := by decide +kernel
theorem dX12_alikes_86 : decode cX12_alikes 86 = .ok (.iload_n 2, 1) := by decide +kernel
theorem dX12_alikes_87 : decode cX12_alikes 87 = .ok (.aload_n 0, 1) := by decide +kernel
theorem dX12_alikes_88 : decode cX12_alikes 88 = .ok (.invokevirtual 297, 3) := by decide +kernel
theorem dX12_alikes_91 : decode cX12_alikes 91 = .ok (.ifCond .eq 7, 3) := by decide +kernel
theorem dX12_alikes_94 : decode cX12_alikes 94 = .ok (.iconst 1, 1) := by decide +kernel
theorem dX12_alikes_95 : decode cX12_alikes 95 = .ok (.goto 4, 3) := by decide +kernel
theorem dX12_alikes_98 : decode cX12_alikes 98 = .ok (.iconst 0, 1) := by decide +kernel
theorem dX12_alikes_99 : decode cX12_alikes 99 = .ok (.iadd, 1) := by decide +kernel
theorem dX12_alikes_100 : decode cX12_alikes 100 = .ok (.istore_n 2, 1) := by decide +kernel
theorem dX12_alikes_101 : decode cX12_alikes 101 = .ok (.iinc 4 1, 3) := by decide +kernel
theorem dX12_alikes_104 : decode cX12_alikes 104 = .ok (.goto (-60), 3) := by decide +kernel
theorem dX12_alikes_107 : decode cX12_alikes 107 = .ok (.iinc 3 1, 3) := by decide +kernel
theorem dX12_alikes_110 : decode cX12_alikes 110 = .ok (.goto (-96), 3) := by decide +kernel
theorem dX12_alikes_113 : decode cX12_alikes 113 = .ok (.iload_n 2, 1) := by decide +kernel
theorem dX12_alikes_114 : decode cX12_alikes 114 = .ok (.ireturn, 1) := by decide +kernel
theorem dX12_apart_0 : decode cX12_apart 0 = .ok (.aload_n 0, 1) := by decide +kernel
theorem dX12_apart_1 : decode cX12_apart 1 = .ok (.getfield 258, 3) := by decide +kernel
theorem dX12_apart_4 : decode cX12_apart 4 = .ok (.iconst 1, 1) := by decide +kernel
theorem dX12_apart_5 : decode cX12_apart 5 = .ok (.iadd, 1) := by decide +kernel
theorem dX12_apart_6 : decode cX12_apart 6 = .ok (.istore_n 1, 1) := by decide +kernel
theorem dX12_apart_7 : decode cX12_apart 7 = .ok (.iconst 0, 1) := by decide +kernel
theorem dX12_apart_8 : decode cX12_apart 8 = .ok (.istore_n 2, 1) := by decide +kernel
theorem dX12_apart_9 : decode cX12_apart 9 = .ok (.iload_n 2, 1) := by decide +kernel
theorem dX12_apart_10 : decode cX12_apart 10 = .ok (.aload_n 0, 1) := by decide +kernel
theorem dX12_apart_11 : decode cX12_apart 11 = .ok (.getfield 291, 3) := by decide +kernel
theorem dX12_apart_14 : decode cX12_apart 14 = .ok (.if_icmp .gt 134, 3) := by decide +kernel
theorem dX12_apart_17 : decode cX12_apart 17 = .ok (.iconst 0, 1) := by decide +kernel
theorem dX12_apart_18 : decode cX12_apart 18 = .ok (.istore_n 3, 1) := by decide +kernel
theorem dX12_apart_19 : decode cX12_apart 19 = .ok (.iload_n 3, 1) := by decide +kernel
theorem dX12_apart_20 : decode cX12_apart 20 = .ok (.aload_n 0, 1) := by decide +kernel
theorem dX12_apart_21 : decode cX12_apart 21 = .ok (.getfield 258, 3) := by decide +kernel
theorem dX12_apart_24 : decode cX12_apart 24 = .ok (.if_icmp .gt 118, 3) := by decide +kernel
theorem dX12_apart_27 : decode cX12_apart 27 = .ok (.iload_n 2, 1) := by decide +kernel
theorem dX12_apart_28 : decode cX12_apart 28 = .ok (.ifCond .eq 7, 3) := by decide +kernel
theorem dX12_apart_31 : decode cX12_apart 31 = .ok (.iload_n 3, 1) := by decide +kernel
theorem dX12_apart_32 : decode cX12_apart 32 = .ok (.ifCond .ne 19, 3) := by decide +kernel
theorem dX12_apart_35 : decode cX12_apart 35 = .ok (.aload_n 0, 1) := by decide +kernel
theorem dX12_apart_36 : decode cX12_apart 36 = .ok (.getfield 59, 3) := by decide +kernel
theorem dX12_apart_39 : decode cX12_apart 39 = .ok (.iload_n 1, 1) := by decide +kernel
theorem dX12_apart_40 : decode cX12_apart 40 = .ok (.iload_n 2, 1) := by decide +kernel
theorem dX12_apart_41 : decode cX12_apart 41 = .ok (.imul, 1) := by decide +kernel
theorem dX12_apart_42 : decode cX12_apart 42 = .ok (.iload_n 3, 1) := by decide +kernel
theorem dX12_apart_43 : decode cX12_apart 43 = .ok (.iadd, 1) := by decide +kernel
theorem dX12_apart_44 : decode cX12_apart 44 = .ok (.iload_n 2, 1) := by decide +kernel
theorem dX12_apart_45 : decode cX12_apart 45 = .ok (.iload_n 3, 1) := by decide +kernel
theorem dX12_apart_46 : decode cX12_apart 46 = .ok (.iadd, 1) := by decide +kernel
theorem dX12_apart_47 : decode cX12_apart 47 = .ok (.iastore, 1) := by decide +kernel
theorem dX12_apart_48 : decode cX12_apart 48 = .ok (.goto 88, 3) := by decide +kernel
theorem dX12_apart_51 : decode cX12_apart 51 = .ok (.aload_n 0, 1) := by decide +kernel
theorem dX12_apart_52 : decode cX12_apart 52 = .ok (.getfield 59, 3) := by decide +kernel
theorem dX12_apart_55 : decode cX12_apart 55 = .ok (.iload_n 1, 1) := by decide +kernel
theorem dX12_apart_56 : decode cX12_apart 56 = .ok (.iload_n 2, 1) := by decide +kernel
theorem dX12_apart_57 : decode cX12_apart 57 = .ok (.iconst 1, 1) := by decide +kernel
theorem dX12_apart_58 : decode cX12_apart 58 = .ok (.isub, 1) := by decide +kernel
theorem dX12_apart_59 : decode cX12_apart 59 = .ok (.imul, 1) := by decide +kernel
theorem dX12_apart_60 : decode cX12_apart 60 = .ok (.iload_n 3, 1) := by decide +kernel
theorem dX12_apart_61 : decode cX12_apart 61 = .ok (.iadd, 1) := by decide +kernel
theorem dX12_apart_62 : decode cX12_apart 62 = .ok (.iconst 1, 1) := by decide +kernel
theorem dX12_apart_63 : decode cX12_apart 63 = .ok (.isub, 1) := by decide +kernel
theorem dX12_apart_64 : decode cX12_apart 64 = .ok (.iaload, 1) := by decide +kernel
theorem dX12_apart_65 : decode cX12_apart 65 = .ok (.aload_n 0, 1) := by decide +kernel
theorem dX12_apart_66 : decode cX12_apart 66 = .ok (.getfield 56, 3) := by decide +kernel
theorem dX12_apart_69 : decode cX12_apart 69 = .ok (.iload_n 2, 1) := by decide +kernel
theorem dX12_apart_70 : decode cX12_apart 70 = .ok (.iconst 1, 1) := by decide +kernel
theorem dX12_apart_71 : decode cX12_apart 71 = .ok (.isub, 1) := by decide +kernel
theorem dX12_apart_72 : decode cX12_apart 72 = .ok (.iaload, 1) := by decide +kernel
theorem dX12_apart_73 : decode cX12_apart 73 = .ok (.aload_n 0, 1) := by decide +kernel
theorem dX12_apart_74 : decode cX12_apart 74 = .ok (.getfield 44, 3) := by decide +kernel
theorem dX12_apart_77 : decode cX12_apart 77 = .ok (.iload_n 3, 1) := by decide +kernel
theorem dX12_apart_78 : decode cX12_apart 78 = .ok (.iconst 1, 1) := by decide +kernel
theorem dX12_apart_79 : decode cX12_apart 79 = .ok (.isub, 1) := by decide +kernel
theorem dX12_apart_80 : decode cX12_apart 80 = .ok (.iaload, 1) := by decide +kernel
theorem dX12_apart_81 : decode cX12_apart 81 = .ok (.if_icmp .ne 7, 3) := by decide +kernel
theorem dX12_apart_84 : decode cX12_apart 84 = .ok (.iconst 0, 1) := by decide +kernel
theorem dX12_apart_85 : decode cX12_apart 85 = .ok (.goto 4, 3) := by decide +kernel
theorem dX12_apart_88 : decode cX12_apart 88 = .ok (.iconst 1, 1) := by decide +kernel
theorem dX12_apart_89 : decode cX12_apart 89 = .ok (.iadd, 1) := by decide +kernel
theorem dX12_apart_90 : decode cX12_apart 90 = .ok (.istore 4, 2) := by decide +kernel
theorem dX12_apart_92 : decode cX12_apart 92 = .ok (.aload_n 0, 1) := by decide +kernel
theorem dX12_apart_93 : decode cX12_apart 93 = .ok (.getfield 59, 3) := by decide +kernel
theorem dX12_apart_96 : decode cX12_apart 96 = .ok (.iload_n 1, 1) := by decide +kernel
theorem dX12_apart_97 : decode cX12_apart 97 = .ok (.iload_n 2, 1) := by decide +kernel
theorem dX12_apart_98 : decode cX12_apart 98 = .ok (.imul, 1) := by decide +kernel
theorem dX12_apart_99 : decode cX12_apart 99 = .ok (.iload_n 3, 1) := by decide +kernel
theorem dX12_apart_100 : decode cX12_apart 100 = .ok (.iadd, 1) := by decide +kernel
theorem dX12_apart_101 : decode cX12_apart 101 = .ok (.iload 4, 2) := by decide +kernel
theorem dX12_apart_103 : decode cX12_apart 103 = .ok (.iconst 1, 1) := by decide +kernel
theorem dX12_apart_104 : decode cX12_apart 104 = .ok (.aload_n 0, 1) := by decide +kernel
theorem dX12_apart_105 : decode cX12_apart 105 = .ok (.getfield 59, 3) := by decide +kernel
theorem dX12_apart_108 : decode cX12_apart 108 = .ok (.iload_n 1, 1) := by decide +kernel
theorem dX12_apart_109 : decode cX12_apart 109 = .ok (.iload_n 2, 1) := by decide +kernel
theorem dX12_apart_110 : decode cX12_apart 110 = .ok (.iconst 1, 1) := by decide +kernel
theorem dX12_apart_111 : decode cX12_apart 111 = .ok (.isub, 1) := by decide +kernel
theorem dX12_apart_112 : decode cX12_apart 112 = .ok (.imul, 1) := by decide +kernel
theorem dX12_apart_113 : decode cX12_apart 113 = .ok (.iload_n 3, 1) := by decide +kernel
theorem dX12_apart_114 : decode cX12_apart 114 = .ok (.iadd, 1) := by decide +kernel
theorem dX12_apart_115 : decode cX12_apart 115 = .ok (.iaload, 1) := by decide +kernel
theorem dX12_apart_116 : decode cX12_apart 116 = .ok (.aload_n 0, 1) := by decide +kernel
theorem dX12_apart_117 : decode cX12_apart 117 = .ok (.getfield 59, 3) := by decide +kernel
theorem dX12_apart_120 : decode cX12_apart 120 = .ok (.iload_n 1, 1) := by decide +kernel
theorem dX12_apart_121 : decode cX12_apart 121 = .ok (.iload_n 2, 1) := by decide +kernel
theorem dX12_apart_122 : decode cX12_apart 122 = .ok (.imul, 1) := by decide +kernel
theorem dX12_apart_123 : decode cX12_apart 123 = .ok (.iload_n 3, 1) := by decide +kernel
theorem dX12_apart_124 : decode cX12_apart 124 = .ok (.iadd, 1) := by decide +kernel
theorem dX12_apart_125 : decode cX12_apart 125 = .ok (.iconst 1, 1) := by decide +kernel
theorem dX12_apart_126 : decode cX12_apart 126 = .ok (.isub, 1) := by decide +kernel
theorem dX12_apart_127 : decode cX12_apart 127 = .ok (.iaload, 1) := by decide +kernel
theorem dX12_apart_128 : decode cX12_apart 128 = .ok (.invokestatic 163, 3) := by decide +kernel
theorem dX12_apart_131 : decode cX12_apart 131 = .ok (.iadd, 1) := by decide +kernel
theorem dX12_apart_132 : decode cX12_apart 132 = .ok (.invokestatic 163, 3) := by decide +kernel
theorem dX12_apart_135 : decode cX12_apart 135 = .ok (.iastore, 1) := by decide +kernel
theorem dX12_apart_136 : decode cX12_apart 136 = .ok (.iinc 3 1, 3) := by decide +kernel
theorem dX12_apart_139 : decode cX12_apart 139 = .ok (.goto (-120), 3) := by decide +kernel
theorem dX12_apart_142 : decode cX12_apart 142 = .ok (.iinc 2 1, 3) := by decide +kernel
theorem dX12_apart_145 : decode cX12_apart 145 = .ok (.goto (-136), 3) := by decide +kernel
theorem dX12_apart_148 : decode cX12_apart 148 = .ok (.aload_n 0, 1) := by decide +kernel
theorem dX12_apart_149 : decode cX12_apart 149 = .ok (.getfield 59, 3) := by decide +kernel
theorem dX12_apart_152 : decode cX12_apart 152 = .ok (.iload_n 1, 1) := by decide +kernel
theorem dX12_apart_153 : decode cX12_apart 153 = .ok (.aload_n 0, 1) := by decide +kernel
theorem dX12_apart_154 : decode cX12_apart 154 = .ok (.getfield 291, 3) := by decide +kernel
theorem dX12_apart_157 : decode cX12_apart 157 = .ok (.imul, 1) := by decide +kernel
theorem dX12_apart_158 : decode cX12_apart 158 = .ok (.aload_n 0, 1) := by decide +kernel
theorem dX12_apart_159 : decode cX12_apart 159 = .ok (.getfield 258, 3) := by decide +kernel
theorem dX12_apart_162 : decode cX12_apart 162 = .ok (.iadd, 1) := by decide +kernel
theorem dX12_apart_163 : decode cX12_apart 163 = .ok (.iaload, 1) := by decide +kernel
theorem dX12_apart_164 : decode cX12_apart 164 = .ok (.ireturn, 1) := by decide +kernel
theorem dX12_editsOf_0 : decode cX12_editsOf 0 = .ok (.aload_n 0, 1) := by decide +kernel
theorem dX12_editsOf_1 : decode cX12_editsOf 1 = .ok (.iconst 0, 1) := by decide +kernel
theorem dX12_editsOf_2 : decode cX12_editsOf 2 = .ok (.putfield 258, 3) := by decide +kernel
theorem dX12_editsOf_5 : decode cX12_editsOf 5 = .ok (.aload_n 0, 1) := by decide +kernel
theorem dX12_editsOf_6 : decode cX12_editsOf 6 = .ok (.iload_n 1, 1) := by decide +kernel
theorem dX12_editsOf_7 : decode cX12_editsOf 7 = .ok (.iload_n 3, 1) := by decide +kernel
theorem dX12_editsOf_8 : decode cX12_editsOf 8 = .ok (.invokevirtual 285, 3) := by decide +kernel
theorem dX12_editsOf_11 : decode cX12_editsOf 11 = .ok (.aload_n 0, 1) := by decide +kernel
theorem dX12_editsOf_12 : decode cX12_editsOf 12 = .ok (.invokevirtual 294, 3) := by decide +kernel
theorem dX12_editsOf_15 : decode cX12_editsOf 15 = .ok (.aload_n 0, 1) := by decide +kernel
theorem dX12_editsOf_16 : decode cX12_editsOf 16 = .ok (.iconst 0, 1) := by decide +kernel
theorem dX12_editsOf_17 : decode cX12_editsOf 17 = .ok (.putfield 258, 3) := by decide +kernel
theorem dX12_editsOf_20 : decode cX12_editsOf 20 = .ok (.aload_n 0, 1) := by decide +kernel
theorem dX12_editsOf_21 : decode cX12_editsOf 21 = .ok (.iload_n 2, 1) := by decide +kernel
theorem dX12_editsOf_22 : decode cX12_editsOf 22 = .ok (.iload_n 3, 1) := by decide +kernel
theorem dX12_editsOf_23 : decode cX12_editsOf 23 = .ok (.invokevirtual 285, 3) := by decide +kernel
theorem dX12_editsOf_26 : decode cX12_editsOf 26 = .ok (.aload_n 0, 1) := by decide +kernel
theorem dX12_editsOf_27 : decode cX12_editsOf 27 = .ok (.invokevirtual 300, 3) := by decide +kernel
theorem dX12_editsOf_30 : decode cX12_editsOf 30 = .ok (.ireturn, 1) := by decide +kernel
theorem dX12_edits_0 : decode cX12_edits 0 = .ok (.aload_n 0, 1) := by decide +kernel
theorem dX12_edits_1 : decode cX12_edits 1 = .ok (.iload_n 1, 1) := by decide +kernel
theorem dX12_edits_2 : decode cX12_edits 2 = .ok (.invokevirtual 282, 3) := by decide +kernel
theorem dX12_edits_5 : decode cX12_edits 5 = .ok (.ifCond .eq 28, 3) := by decide +kernel
theorem dX12_edits_8 : decode cX12_edits 8 = .ok (.aload_n 0, 1) := by decide +kernel
theorem dX12_edits_9 : decode cX12_edits 9 = .ok (.iload_n 2, 1) := by decide +kernel
theorem dX12_edits_10 : decode cX12_edits 10 = .ok (.invokevirtual 282, 3) := by decide +kernel
theorem dX12_edits_13 : decode cX12_edits 13 = .ok (.ifCond .eq 20, 3) := by decide +kernel
theorem dX12_edits_16 : decode cX12_edits 16 = .ok (.iload_n 3, 1) := by decide +kernel
theorem dX12_edits_17 : decode cX12_edits 17 = .ok (.invokestatic 160, 3) := by decide +kernel
theorem dX12_edits_20 : decode cX12_edits 20 = .ok (.ifCond .eq 13, 3) := by decide +kernel
theorem dX12_edits_23 : decode cX12_edits 23 = .ok (.aload_n 0, 1) := by decide +kernel
theorem dX12_edits_24 : decode cX12_edits 24 = .ok (.iload_n 1, 1) := by decide +kernel
theorem dX12_edits_25 : decode cX12_edits 25 = .ok (.iload_n 2, 1) := by decide +kernel
theorem dX12_edits_26 : decode cX12_edits 26 = .ok (.iload_n 3, 1) := by decide +kernel
theorem dX12_edits_27 : decode cX12_edits 27 = .ok (.invokevirtual 303, 3) := by decide +kernel
theorem dX12_edits_30 : decode cX12_edits 30 = .ok (.goto 5, 3) := by decide +kernel
theorem dX12_edits_33 : decode cX12_edits 33 = .ok (.bipush (-2), 2) := by decide +kernel
theorem dX12_edits_35 : decode cX12_edits 35 = .ok (.ireturn, 1) := by decide +kernel
theorem dX12_sortHere_0 : decode cX12_sortHere 0 = .ok (.aload_n 0, 1) := by decide +kernel
theorem dX12_sortHere_1 : decode cX12_sortHere 1 = .ok (.ldc_w 307, 3) := by decide +kernel
theorem dX12_sortHere_4 : decode cX12_sortHere 4 = .ok (.invokevirtual 228, 3) := by decide +kernel
theorem dX12_sortHere_7 : decode cX12_sortHere 7 = .ok (.ifCond .eq 7, 3) := by decide +kernel
theorem dX12_sortHere_10 : decode cX12_sortHere 10 = .ok (.iconst 0, 1) := by decide +kernel
theorem dX12_sortHere_11 : decode cX12_sortHere 11 = .ok (.goto 74, 3) := by decide +kernel
theorem dX12_sortHere_14 : decode cX12_sortHere 14 = .ok (.aload_n 0, 1) := by decide +kernel
theorem dX12_sortHere_15 : decode cX12_sortHere 15 = .ok (.ldc_w 309, 3) := by decide +kernel
theorem dX12_sortHere_18 : decode cX12_sortHere 18 = .ok (.invokevirtual 228, 3) := by decide +kernel
theorem dX12_sortHere_21 : decode cX12_sortHere 21 = .ok (.ifCond .eq 7, 3) := by decide +kernel
theorem dX12_sortHere_24 : decode cX12_sortHere 24 = .ok (.iconst 1, 1) := by decide +kernel
theorem dX12_sortHere_25 : decode cX12_sortHere 25 = .ok (.goto 60, 3) := by decide +kernel
theorem dX12_sortHere_28 : decode cX12_sortHere 28 = .ok (.aload_n 0, 1) := by decide +kernel
theorem dX12_sortHere_29 : decode cX12_sortHere 29 = .ok (.ldc_w 311, 3) := by decide +kernel
theorem dX12_sortHere_32 : decode cX12_sortHere 32 = .ok (.invokevirtual 228, 3) := by decide +kernel
theorem dX12_sortHere_35 : decode cX12_sortHere 35 = .ok (.ifCond .eq 7, 3) := by decide +kernel
theorem dX12_sortHere_38 : decode cX12_sortHere 38 = .ok (.iconst 2, 1) := by decide +kernel
theorem dX12_sortHere_39 : decode cX12_sortHere 39 = .ok (.goto 46, 3) := by decide +kernel
theorem dX12_sortHere_42 : decode cX12_sortHere 42 = .ok (.aload_n 0, 1) := by decide +kernel
theorem dX12_sortHere_43 : decode cX12_sortHere 43 = .ok (.ldc_w 313, 3) := by decide +kernel
theorem dX12_sortHere_46 : decode cX12_sortHere 46 = .ok (.invokevirtual 228, 3) := by decide +kernel
theorem dX12_sortHere_49 : decode cX12_sortHere 49 = .ok (.ifCond .eq 7, 3) := by decide +kernel
theorem dX12_sortHere_52 : decode cX12_sortHere 52 = .ok (.iconst 3, 1) := by decide +kernel
theorem dX12_sortHere_53 : decode cX12_sortHere 53 = .ok (.goto 32, 3) := by decide +kernel
theorem dX12_sortHere_56 : decode cX12_sortHere 56 = .ok (.aload_n 0, 1) := by decide +kernel
theorem dX12_sortHere_57 : decode cX12_sortHere 57 = .ok (.ldc_w 315, 3) := by decide +kernel
theorem dX12_sortHere_60 : decode cX12_sortHere 60 = .ok (.invokevirtual 228, 3) := by decide +kernel
theorem dX12_sortHere_63 : decode cX12_sortHere 63 = .ok (.ifCond .eq 7, 3) := by decide +kernel
theorem dX12_sortHere_66 : decode cX12_sortHere 66 = .ok (.iconst 4, 1) := by decide +kernel
theorem dX12_sortHere_67 : decode cX12_sortHere 67 = .ok (.goto 18, 3) := by decide +kernel
theorem dX12_sortHere_70 : decode cX12_sortHere 70 = .ok (.aload_n 0, 1) := by decide +kernel
theorem dX12_sortHere_71 : decode cX12_sortHere 71 = .ok (.ldc_w 317, 3) := by decide +kernel
theorem dX12_sortHere_74 : decode cX12_sortHere 74 = .ok (.invokevirtual 228, 3) := by decide +kernel
theorem dX12_sortHere_77 : decode cX12_sortHere 77 = .ok (.ifCond .eq 7, 3) := by decide +kernel
theorem dX12_sortHere_80 : decode cX12_sortHere 80 = .ok (.iconst 5, 1) := by decide +kernel
theorem dX12_sortHere_81 : decode cX12_sortHere 81 = .ok (.goto 4, 3) := by decide +kernel
theorem dX12_sortHere_84 : decode cX12_sortHere 84 = .ok (.iconst (-1), 1) := by decide +kernel
theorem dX12_sortHere_85 : decode cX12_sortHere 85 = .ok (.ireturn, 1) := by decide +kernel
theorem dX12_factHere_0 : decode cX12_factHere 0 = .ok (.aload_n 0, 1) := by decide +kernel
theorem dX12_factHere_1 : decode cX12_factHere 1 = .ok (.ldc_w 319, 3) := by decide +kernel
theorem dX12_factHere_4 : decode cX12_factHere 4 = .ok (.invokevirtual 228, 3) := by decide +kernel
theorem dX12_factHere_7 : decode cX12_factHere 7 = .ok (.ifCond .eq 7, 3) := by decide +kernel
theorem dX12_factHere_10 : decode cX12_factHere 10 = .ok (.iconst 0, 1) := by decide +kernel
theorem dX12_factHere_11 : decode cX12_factHere 11 = .ok (.goto 46, 3) := by decide +kernel
theorem dX12_factHere_14 : decode cX12_factHere 14 = .ok (.aload_n 0, 1) := by decide +kernel
theorem dX12_factHere_15 : decode cX12_factHere 15 = .ok (.ldc_w 321, 3) := by decide +kernel
theorem dX12_factHere_18 : decode cX12_factHere 18 = .ok (.invokevirtual 228, 3) := by decide +kernel
theorem dX12_factHere_21 : decode cX12_factHere 21 = .ok (.ifCond .eq 7, 3) := by decide +kernel
theorem dX12_factHere_24 : decode cX12_factHere 24 = .ok (.iconst 1, 1) := by decide +kernel
theorem dX12_factHere_25 : decode cX12_factHere 25 = .ok (.goto 32, 3) := by decide +kernel
theorem dX12_factHere_28 : decode cX12_factHere 28 = .ok (.aload_n 0, 1) := by decide +kernel
theorem dX12_factHere_29 : decode cX12_factHere 29 = .ok (.ldc_w 323, 3) := by decide +kernel
theorem dX12_factHere_32 : decode cX12_factHere 32 = .ok (.invokevirtual 228, 3) := by decide +kernel
theorem dX12_factHere_35 : decode cX12_factHere 35 = .ok (.ifCond .eq 7, 3) := by decide +kernel
theorem dX12_factHere_38 : decode cX12_factHere 38 = .ok (.iconst 2, 1) := by decide +kernel
theorem dX12_factHere_39 : decode cX12_factHere 39 = .ok (.goto 18, 3) := by decide +kernel
theorem dX12_factHere_42 : decode cX12_factHere 42 = .ok (.aload_n 0, 1) := by decide +kernel
theorem dX12_factHere_43 : decode cX12_factHere 43 = .ok (.ldc_w 325, 3) := by decide +kernel
theorem dX12_factHere_46 : decode cX12_factHere 46 = .ok (.invokevirtual 228, 3) := by decide +kernel
theorem dX12_factHere_49 : decode cX12_factHere 49 = .ok (.ifCond .eq 7, 3) := by decide +kernel
theorem dX12_factHere_52 : decode cX12_factHere 52 = .ok (.iconst 3, 1) := by decide +kernel
theorem dX12_factHere_53 : decode cX12_factHere 53 = .ok (.goto 4, 3) := by decide +kernel
theorem dX12_factHere_56 : decode cX12_factHere 56 = .ok (.iconst (-1), 1) := by decide +kernel
theorem dX12_factHere_57 : decode cX12_factHere 57 = .ok (.ireturn, 1) := by decide +kernel
theorem dX12_cond_0 : decode cX12_cond 0 = .ok (.aload_n 0, 1) := by decide +kernel
theorem dX12_cond_1 : decode cX12_cond 1 = .ok (.ldc_w 327, 3) := by decide +kernel
theorem dX12_cond_4 : decode cX12_cond 4 = .ok (.invokevirtual 228, 3) := by decide +kernel
theorem dX12_cond_7 : decode cX12_cond 7 = .ok (.ifCond .ne 11, 3) := by decide +kernel
theorem dX12_cond_10 : decode cX12_cond 10 = .ok (.aload_n 0, 1) := by decide +kernel
theorem dX12_cond_11 : decode cX12_cond 11 = .ok (.invokevirtual 329, 3) := by decide +kernel
theorem dX12_cond_14 : decode cX12_cond 14 = .ok (.iconst (-1), 1) := by decide +kernel
theorem dX12_cond_15 : decode cX12_cond 15 = .ok (.if_icmp .eq 20, 3) := by decide +kernel
theorem dX12_cond_18 : decode cX12_cond 18 = .ok (.aload_n 0, 1) := by decide +kernel
theorem dX12_cond_19 : decode cX12_cond 19 = .ok (.getfield 41, 3) := by decide +kernel
theorem dX12_cond_22 : decode cX12_cond 22 = .ok (.iload_n 1, 1) := by decide +kernel
theorem dX12_cond_23 : decode cX12_cond 23 = .ok (.iconst 3, 1) := by decide +kernel
theorem dX12_cond_24 : decode cX12_cond 24 = .ok (.iadd, 1) := by decide +kernel
theorem dX12_cond_25 : decode cX12_cond 25 = .ok (.iaload, 1) := by decide +kernel
theorem dX12_cond_26 : decode cX12_cond 26 = .ok (.iconst 4, 1) := by decide +kernel
theorem dX12_cond_27 : decode cX12_cond 27 = .ok (.if_icmp .ne 8, 3) := by decide +kernel
theorem dX12_cond_30 : decode cX12_cond 30 = .ok (.aload_n 0, 1) := by decide +kernel
theorem dX12_cond_31 : decode cX12_cond 31 = .ok (.iconst 3, 1) := by decide +kernel
theorem dX12_cond_32 : decode cX12_cond 32 = .ok (.invokevirtual 225, 3) := by decide +kernel
theorem dX12_cond_35 : decode cX12_cond 35 = .ok (.iload_n 1, 1) := by decide +kernel
theorem dX12_cond_36 : decode cX12_cond 36 = .ok (.iconst 4, 1) := by decide +kernel
theorem dX12_cond_37 : decode cX12_cond 37 = .ok (.iadd, 1) := by decide +kernel
theorem dX12_cond_38 : decode cX12_cond 38 = .ok (.iconst 5, 1) := by decide +kernel
theorem dX12_cond_39 : decode cX12_cond 39 = .ok (.iconst 3, 1) := by decide +kernel
theorem dX12_cond_40 : decode cX12_cond 40 = .ok (.aload_n 0, 1) := by decide +kernel
theorem dX12_cond_41 : decode cX12_cond 41 = .ok (.getfield 41, 3) := by decide +kernel
theorem dX12_cond_44 : decode cX12_cond 44 = .ok (.iload_n 1, 1) := by decide +kernel
theorem dX12_cond_45 : decode cX12_cond 45 = .ok (.iconst 3, 1) := by decide +kernel
theorem dX12_cond_46 : decode cX12_cond 46 = .ok (.iadd, 1) := by decide +kernel
theorem dX12_cond_47 : decode cX12_cond 47 = .ok (.iaload, 1) := by decide +kernel
theorem dX12_cond_48 : decode cX12_cond 48 = .ok (.invokestatic 163, 3) := by decide +kernel
theorem dX12_cond_51 : decode cX12_cond 51 = .ok (.imul, 1) := by decide +kernel
theorem dX12_cond_52 : decode cX12_cond 52 = .ok (.iadd, 1) := by decide +kernel
theorem dX12_cond_53 : decode cX12_cond 53 = .ok (.istore_n 2, 1) := by decide +kernel
theorem dX12_cond_54 : decode cX12_cond 54 = .ok (.aload_n 0, 1) := by decide +kernel
theorem dX12_cond_55 : decode cX12_cond 55 = .ok (.getfield 41, 3) := by decide +kernel
theorem dX12_cond_58 : decode cX12_cond 58 = .ok (.iload_n 2, 1) := by decide +kernel
theorem dX12_cond_59 : decode cX12_cond 59 = .ok (.aload_n 0, 1) := by decide +kernel
theorem dX12_cond_60 : decode cX12_cond 60 = .ok (.ldc_w 327, 3) := by decide +kernel
theorem dX12_cond_63 : decode cX12_cond 63 = .ok (.invokevirtual 239, 3) := by decide +kernel
theorem dX12_cond_66 : decode cX12_cond 66 = .ok (.ifCond .eq 7, 3) := by decide +kernel
theorem dX12_cond_69 : decode cX12_cond 69 = .ok (.iconst 1, 1) := by decide +kernel
theorem dX12_cond_70 : decode cX12_cond 70 = .ok (.goto 4, 3) := by decide +kernel
theorem dX12_cond_73 : decode cX12_cond 73 = .ok (.iconst 0, 1) := by decide +kernel
theorem dX12_cond_74 : decode cX12_cond 74 = .ok (.iastore, 1) := by decide +kernel
theorem dX12_cond_75 : decode cX12_cond 75 = .ok (.aload_n 0, 1) := by decide +kernel
theorem dX12_cond_76 : decode cX12_cond 76 = .ok (.invokevirtual 329, 3) := by decide +kernel
theorem dX12_cond_79 : decode cX12_cond 79 = .ok (.istore_n 3, 1) := by decide +kernel
theorem dX12_cond_80 : decode cX12_cond 80 = .ok (.iload_n 3, 1) := by decide +kernel
theorem dX12_cond_81 : decode cX12_cond 81 = .ok (.iconst (-1), 1) := by decide +kernel
theorem dX12_cond_82 : decode cX12_cond 82 = .ok (.if_icmp .ne 8, 3) := by decide +kernel
theorem dX12_cond_85 : decode cX12_cond 85 = .ok (.aload_n 0, 1) := by decide +kernel
theorem dX12_cond_86 : decode cX12_cond 86 = .ok (.iconst 1, 1) := by decide +kernel
theorem dX12_cond_87 : decode cX12_cond 87 = .ok (.invokevirtual 225, 3) := by decide +kernel
theorem dX12_cond_90 : decode cX12_cond 90 = .ok (.aload_n 0, 1) := by decide +kernel
theorem dX12_cond_91 : decode cX12_cond 91 = .ok (.invokevirtual 209, 3) := by decide +kernel
theorem dX12_cond_94 : decode cX12_cond 94 = .ok (.ifCond .ne 4, 3) := by decide +kernel
theorem dX12_cond_97 : decode cX12_cond 97 = .ok (.return_, 1) := by decide +kernel
theorem dX12_cond_98 : decode cX12_cond 98 = .ok (.aload_n 0, 1) := by decide +kernel
theorem dX12_cond_99 : decode cX12_cond 99 = .ok (.invokevirtual 206, 3) := by decide +kernel
theorem dX12_cond_102 : decode cX12_cond 102 = .ok (.aload_n 0, 1) := by decide +kernel
theorem dX12_cond_103 : decode cX12_cond 103 = .ok (.getfield 41, 3) := by decide +kernel
theorem dX12_cond_106 : decode cX12_cond 106 = .ok (.iload_n 2, 1) := by decide +kernel
theorem dX12_cond_107 : decode cX12_cond 107 = .ok (.iconst 1, 1) := by decide +kernel
theorem dX12_cond_108 : decode cX12_cond 108 = .ok (.iadd, 1) := by decide +kernel
theorem dX12_cond_109 : decode cX12_cond 109 = .ok (.iload_n 3, 1) := by decide +kernel
theorem dX12_cond_110 : decode cX12_cond 110 = .ok (.iastore, 1) := by decide +kernel
theorem dX12_cond_111 : decode cX12_cond 111 = .ok (.aload_n 0, 1) := by decide +kernel
theorem dX12_cond_112 : decode cX12_cond 112 = .ok (.getfield 41, 3) := by decide +kernel
theorem dX12_cond_115 : decode cX12_cond 115 = .ok (.iload_n 2, 1) := by decide +kernel
theorem dX12_cond_116 : decode cX12_cond 116 = .ok (.iconst 2, 1) := by decide +kernel
theorem dX12_cond_117 : decode cX12_cond 117 = .ok (.iadd, 1) := by decide +kernel
theorem dX12_cond_118 : decode cX12_cond 118 = .ok (.iload_n 3, 1) := by decide +kernel
theorem dX12_cond_119 : decode cX12_cond 119 = .ok (.ifCond .ne 10, 3) := by decide +kernel
theorem dX12_cond_122 : decode cX12_cond 122 = .ok (.aload_n 0, 1) := by decide +kernel
theorem dX12_cond_123 : decode cX12_cond 123 = .ok (.invokevirtual 332, 3) := by decide +kernel
theorem dX12_cond_126 : decode cX12_cond 126 = .ok (.goto 4, 3) := by decide +kernel
theorem dX12_cond_129 : decode cX12_cond 129 = .ok (.iconst 0, 1) := by decide +kernel
theorem dX12_cond_130 : decode cX12_cond 130 = .ok (.iastore, 1) := by decide +kernel
theorem dX12_cond_131 : decode cX12_cond 131 = .ok (.aload_n 0, 1) := by decide +kernel
theorem dX12_cond_132 : decode cX12_cond 132 = .ok (.bipush 60, 2) := by decide +kernel
theorem dX12_cond_134 : decode cX12_cond 134 = .ok (.invokevirtual 222, 3) := by decide +kernel
theorem dX12_cond_137 : decode cX12_cond 137 = .ok (.ifCond .ne 26, 3) := by decide +kernel
theorem dX12_cond_140 : decode cX12_cond 140 = .ok (.aload_n 0, 1) := by decide +kernel
theorem dX12_cond_141 : decode cX12_cond 141 = .ok (.bipush 61, 2) := by decide +kernel
theorem dX12_cond_143 : decode cX12_cond 143 = .ok (.invokevirtual 222, 3) := by decide +kernel
theorem dX12_cond_146 : decode cX12_cond 146 = .ok (.ifCond .ne 17, 3) := by decide +kernel
theorem dX12_cond_149 : decode cX12_cond 149 = .ok (.aload_n 0, 1) := by decide +kernel
theorem dX12_cond_150 : decode cX12_cond 150 = .ok (.bipush 62, 2) := by decide +kernel
theorem dX12_cond_152 : decode cX12_cond 152 = .ok (.invokevirtual 222, 3) := by decide +kernel
theorem dX12_cond_155 : decode cX12_cond 155 = .ok (.ifCond .ne 8, 3) := by decide +kernel
theorem dX12_cond_158 : decode cX12_cond 158 = .ok (.aload_n 0, 1) := by decide +kernel
theorem dX12_cond_159 : decode cX12_cond 159 = .ok (.iconst 1, 1) := by decide +kernel
theorem dX12_cond_160 : decode cX12_cond 160 = .ok (.invokevirtual 225, 3) := by decide +kernel
theorem dX12_cond_163 : decode cX12_cond 163 = .ok (.aload_n 0, 1) := by decide +kernel
theorem dX12_cond_164 : decode cX12_cond 164 = .ok (.invokevirtual 209, 3) := by decide +kernel
theorem dX12_cond_167 : decode cX12_cond 167 = .ok (.ifCond .ne 4, 3) := by decide +kernel
theorem dX12_cond_170 : decode cX12_cond 170 = .ok (.return_, 1) := by decide +kernel
theorem dX12_cond_171 : decode cX12_cond 171 = .ok (.aload_n 0, 1) := by decide +kernel
theorem dX12_cond_172 : decode cX12_cond 172 = .ok (.getfield 41, 3) := by decide +kernel
theorem dX12_cond_175 : decode cX12_cond 175 = .ok (.iload_n 2, 1) := by decide +kernel
theorem dX12_cond_176 : decode cX12_cond 176 = .ok (.iconst 3, 1) := by decide +kernel
theorem dX12_cond_177 : decode cX12_cond 177 = .ok (.iadd, 1) := by decide +kernel
theorem dX12_cond_178 : decode cX12_cond 178 = .ok (.aload_n 0, 1) := by decide +kernel
theorem dX12_cond_179 : decode cX12_cond 179 = .ok (.getfield 199, 3) := by decide +kernel
theorem dX12_cond_182 : decode cX12_cond 182 = .ok (.iastore, 1) := by decide +kernel
theorem dX12_cond_183 : decode cX12_cond 183 = .ok (.aload_n 0, 1) := by decide +kernel
theorem dX12_cond_184 : decode cX12_cond 184 = .ok (.invokevirtual 206, 3) := by decide +kernel
theorem dX12_cond_187 : decode cX12_cond 187 = .ok (.aload_n 0, 1) := by decide +kernel
theorem dX12_cond_188 : decode cX12_cond 188 = .ok (.getfield 41, 3) := by decide +kernel
theorem dX12_cond_191 : decode cX12_cond 191 = .ok (.iload_n 2, 1) := by decide +kernel
theorem dX12_cond_192 : decode cX12_cond 192 = .ok (.iconst 4, 1) := by decide +kernel
theorem dX12_cond_193 : decode cX12_cond 193 = .ok (.iadd, 1) := by decide +kernel
theorem dX12_cond_194 : decode cX12_cond 194 = .ok (.aload_n 0, 1) := by decide +kernel
theorem dX12_cond_195 : decode cX12_cond 195 = .ok (.sipush 9999, 3) := by decide +kernel
theorem dX12_cond_198 : decode cX12_cond 198 = .ok (.invokevirtual 335, 3) := by decide +kernel
theorem dX12_cond_201 : decode cX12_cond 201 = .ok (.iastore, 1) := by decide +kernel
theorem dX12_cond_202 : decode cX12_cond 202 = .ok (.aload_n 0, 1) := by decide +kernel
theorem dX12_cond_203 : decode cX12_cond 203 = .ok (.getfield 41, 3) := by decide +kernel
theorem dX12_cond_206 : decode cX12_cond 206 = .ok (.iload_n 1, 1) := by decide +kernel
theorem dX12_cond_207 : decode cX12_cond 207 = .ok (.iconst 3, 1) := by decide +kernel
theorem dX12_cond_208 : decode cX12_cond 208 = .ok (.iadd, 1) := by decide +kernel
theorem dX12_cond_209 : decode cX12_cond 209 = .ok (.dup2, 1) := by decide +kernel
theorem dX12_cond_210 : decode cX12_cond 210 = .ok (.iaload, 1) := by decide +kernel
theorem dX12_cond_211 : decode cX12_cond 211 = .ok (.iconst 1, 1) := by decide +kernel
theorem dX12_cond_212 : decode cX12_cond 212 = .ok (.iadd, 1) := by decide +kernel
theorem dX12_cond_213 : decode cX12_cond 213 = .ok (.iastore, 1) := by decide +kernel
theorem dX12_cond_214 : decode cX12_cond 214 = .ok (.return_, 1) := by decide +kernel
theorem dX12_tongueHere_0 : decode cX12_tongueHere 0 = .ok (.aload_n 0, 1) := by decide +kernel
theorem dX12_tongueHere_1 : decode cX12_tongueHere 1 = .ok (.iconst 2, 1) := by decide +kernel
theorem dX12_tongueHere_2 : decode cX12_tongueHere 2 = .ok (.invokevirtual 335, 3) := by decide +kernel
theorem dX12_tongueHere_5 : decode cX12_tongueHere 5 = .ok (.ireturn, 1) := by decide +kernel
theorem dX12_line_0 : decode cX12_line 0 = .ok (.aload_n 0, 1) := by decide +kernel
theorem dX12_line_1 : decode cX12_line 1 = .ok (.invokevirtual 338, 3) := by decide +kernel
theorem dX12_line_4 : decode cX12_line 4 = .ok (.istore_n 2, 1) := by decide +kernel
theorem dX12_line_5 : decode cX12_line 5 = .ok (.aload_n 0, 1) := by decide +kernel
theorem dX12_line_6 : decode cX12_line 6 = .ok (.invokevirtual 206, 3) := by decide +kernel
theorem dX12_line_9 : decode cX12_line 9 = .ok (.iconst 0, 1) := by decide +kernel
theorem dX12_line_10 : decode cX12_line 10 = .ok (.istore_n 3, 1) := by decide +kernel
theorem dX12_line_11 : decode cX12_line 11 = .ok (.iload_n 3, 1) := by decide +kernel
theorem dX12_line_12 : decode cX12_line 12 = .ok (.bipush 24, 2) := by decide +kernel
theorem dX12_line_14 : decode cX12_line 14 = .ok (.if_icmp .ge 18, 3) := by decide +kernel
theorem dX12_line_17 : decode cX12_line 17 = .ok (.aload_n 0, 1) := by decide +kernel
theorem dX12_line_18 : decode cX12_line 18 = .ok (.getfield 41, 3) := by decide +kernel
theorem dX12_line_21 : decode cX12_line 21 = .ok (.iload_n 1, 1) := by decide +kernel
theorem dX12_line_22 : decode cX12_line 22 = .ok (.iload_n 3, 1) := by decide +kernel
theorem dX12_line_23 : decode cX12_line 23 = .ok (.iadd, 1) := by decide +kernel
theorem dX12_line_24 : decode cX12_line 24 = .ok (.iconst 0, 1) := by decide +kernel
theorem dX12_line_25 : decode cX12_line 25 = .ok (.iastore, 1) := by decide +kernel
theorem dX12_line_26 : decode cX12_line 26 = .ok (.iinc 3 1, 3) := by decide +kernel
theorem dX12_line_29 : decode cX12_line 29 = .ok (.goto (-18), 3) := by decide +kernel
theorem dX12_line_32 : decode cX12_line 32 = .ok (.aload_n 0, 1) := by decide +kernel
theorem dX12_line_33 : decode cX12_line 33 = .ok (.getfield 41, 3) := by decide +kernel
theorem dX12_line_36 : decode cX12_line 36 = .ok (.iload_n 1, 1) := by decide +kernel
theorem dX12_line_37 : decode cX12_line 37 = .ok (.iload_n 2, 1) := by decide +kernel
theorem dX12_line_38 : decode cX12_line 38 = .ok (.iastore, 1) := by decide +kernel
theorem dX12_line_39 : decode cX12_line 39 = .ok (.iload_n 2, 1) := by decide +kernel
theorem dX12_line_40 : decode cX12_line 40 = .ok (.ifCond .ne 19, 3) := by decide +kernel
theorem dX12_line_43 : decode cX12_line 43 = .ok (.aload_n 0, 1) := by decide +kernel
theorem dX12_line_44 : decode cX12_line 44 = .ok (.getfield 41, 3) := by decide +kernel
theorem dX12_line_47 : decode cX12_line 47 = .ok (.iload_n 1, 1) := by decide +kernel
theorem dX12_line_48 : decode cX12_line 48 = .ok (.iconst 1, 1) := by decide +kernel
theorem dX12_line_49 : decode cX12_line 49 = .ok (.iadd, 1) := by decide +kernel
theorem dX12_line_50 : decode cX12_line 50 = .ok (.aload_n 0, 1) := by decide +kernel
theorem dX12_line_51 : decode cX12_line 51 = .ok (.iconst 2, 1) := by decide +kernel
theorem dX12_line_52 : decode cX12_line 52 = .ok (.invokevirtual 335, 3) := by decide +kernel
theorem dX12_line_55 : decode cX12_line 55 = .ok (.iastore, 1) := by decide +kernel
theorem dX12_line_56 : decode cX12_line 56 = .ok (.goto 23, 3) := by decide +kernel
theorem dX12_line_59 : decode cX12_line 59 = .ok (.iload_n 2, 1) := by decide +kernel
theorem dX12_line_60 : decode cX12_line 60 = .ok (.iconst 1, 1) := by decide +kernel
theorem dX12_line_61 : decode cX12_line 61 = .ok (.if_icmp .eq 18, 3) := by decide +kernel
theorem dX12_line_64 : decode cX12_line 64 = .ok (.aload_n 0, 1) := by decide +kernel
theorem dX12_line_65 : decode cX12_line 65 = .ok (.getfield 41, 3) := by decide +kernel
theorem dX12_line_68 : decode cX12_line 68 = .ok (.iload_n 1, 1) := by decide +kernel
theorem dX12_line_69 : decode cX12_line 69 = .ok (.iconst 1, 1) := by decide +kernel
theorem dX12_line_70 : decode cX12_line 70 = .ok (.iadd, 1) := by decide +kernel
theorem dX12_line_71 : decode cX12_line 71 = .ok (.aload_n 0, 1) := by decide +kernel
theorem dX12_line_72 : decode cX12_line 72 = .ok (.sipush 9999, 3) := by decide +kernel
theorem dX12_line_75 : decode cX12_line 75 = .ok (.invokevirtual 335, 3) := by decide +kernel
theorem dX12_line_78 : decode cX12_line 78 = .ok (.iastore, 1) := by decide +kernel
theorem dX12_line_79 : decode cX12_line 79 = .ok (.iload_n 2, 1) := by decide +kernel
theorem dX12_line_80 : decode cX12_line 80 = .ok (.iconst 2, 1) := by decide +kernel
theorem dX12_line_81 : decode cX12_line 81 = .ok (.if_icmp .ne 40, 3) := by decide +kernel
theorem dX12_line_84 : decode cX12_line 84 = .ok (.aload_n 0, 1) := by decide +kernel
theorem dX12_line_85 : decode cX12_line 85 = .ok (.ldc_w 341, 3) := by decide +kernel
theorem dX12_line_88 : decode cX12_line 88 = .ok (.invokevirtual 239, 3) := by decide +kernel
theorem dX12_line_91 : decode cX12_line 91 = .ok (.ifCond .ne 8, 3) := by decide +kernel
theorem dX12_line_94 : decode cX12_line 94 = .ok (.aload_n 0, 1) := by decide +kernel
theorem dX12_line_95 : decode cX12_line 95 = .ok (.iconst 1, 1) := by decide +kernel
theorem dX12_line_96 : decode cX12_line 96 = .ok (.invokevirtual 225, 3) := by decide +kernel
theorem dX12_line_99 : decode cX12_line 99 = .ok (.aload_n 0, 1) := by decide +kernel
theorem dX12_line_100 : decode cX12_line 100 = .ok (.invokevirtual 209, 3) := by decide +kernel
theorem dX12_line_103 : decode cX12_line 103 = .ok (.ifCond .eq 18, 3) := by decide +kernel
theorem dX12_line_106 : decode cX12_line 106 = .ok (.aload_n 0, 1) := by decide +kernel
theorem dX12_line_107 : decode cX12_line 107 = .ok (.getfield 41, 3) := by decide +kernel
theorem dX12_line_110 : decode cX12_line 110 = .ok (.iload_n 1, 1) := by decide +kernel
theorem dX12_line_111 : decode cX12_line 111 = .ok (.iconst 2, 1) := by decide +kernel
theorem dX12_line_112 : decode cX12_line 112 = .ok (.iadd, 1) := by decide +kernel
theorem dX12_line_113 : decode cX12_line 113 = .ok (.aload_n 0, 1) := by decide +kernel
theorem dX12_line_114 : decode cX12_line 114 = .ok (.sipush 9999, 3) := by decide +kernel
theorem dX12_line_117 : decode cX12_line 117 = .ok (.invokevirtual 335, 3) := by decide +kernel
theorem dX12_line_120 : decode cX12_line 120 = .ok (.iastore, 1) := by decide +kernel
theorem dX12_line_121 : decode cX12_line 121 = .ok (.iload_n 2, 1) := by decide +kernel
theorem dX12_line_122 : decode cX12_line 122 = .ok (.iconst 1, 1) := by decide +kernel
theorem dX12_line_123 : decode cX12_line 123 = .ok (.if_icmp .gt 42, 3) := by decide +kernel
theorem dX12_line_126 : decode cX12_line 126 = .ok (.aload_n 0, 1) := by decide +kernel
theorem dX12_line_127 : decode cX12_line 127 = .ok (.ldc_w 342, 3) := by decide +kernel
theorem dX12_line_130 : decode cX12_line 130 = .ok (.invokevirtual 239, 3) := by decide +kernel
theorem dX12_line_133 : decode cX12_line 133 = .ok (.ifCond .eq 32, 3) := by decide +kernel
theorem dX12_line_136 : decode cX12_line 136 = .ok (.iconst 1, 1) := by decide +kernel
theorem dX12_line_137 : decode cX12_line 137 = .ok (.istore_n 3, 1) := by decide +kernel
theorem dX12_line_138 : decode cX12_line 138 = .ok (.iload_n 3, 1) := by decide +kernel
theorem dX12_line_139 : decode cX12_line 139 = .ok (.ifCond .eq 26, 3) := by decide +kernel
theorem dX12_line_142 : decode cX12_line 142 = .ok (.aload_n 0, 1) := by decide +kernel
theorem dX12_line_143 : decode cX12_line 143 = .ok (.invokevirtual 209, 3) := by decide +kernel
theorem dX12_line_146 : decode cX12_line 146 = .ok (.ifCond .eq 19, 3) := by decide +kernel
theorem dX12_line_149 : decode cX12_line 149 = .ok (.aload_n 0, 1) := by decide +kernel
theorem dX12_line_150 : decode cX12_line 150 = .ok (.iload_n 1, 1) := by decide +kernel
theorem dX12_line_151 : decode cX12_line 151 = .ok (.invokevirtual 344, 3) := by decide +kernel
theorem dX12_line_154 : decode cX12_line 154 = .ok (.aload_n 0, 1) := by decide +kernel
theorem dX12_line_155 : decode cX12_line 155 = .ok (.ldc_w 347, 3) := by decide +kernel
theorem dX12_line_158 : decode cX12_line 158 = .ok (.invokevirtual 239, 3) := by decide +kernel
theorem dX12_line_161 : decode cX12_line 161 = .ok (.istore_n 3, 1) := by decide +kernel
theorem dX12_line_162 : decode cX12_line 162 = .ok (.goto (-24), 3) := by decide +kernel
theorem dX12_line_165 : decode cX12_line 165 = .ok (.aload_n 0, 1) := by decide +kernel
theorem dX12_line_166 : decode cX12_line 166 = .ok (.bipush 59, 2) := by decide +kernel
theorem dX12_line_168 : decode cX12_line 168 = .ok (.invokevirtual 248, 3) := by decide +kernel
theorem dX12_line_171 : decode cX12_line 171 = .ok (.return_, 1) := by decide +kernel
theorem dX12_act_0 : decode cX12_act 0 = .ok (.aload_n 0, 1) := by decide +kernel
theorem dX12_act_1 : decode cX12_act 1 = .ok (.getfield 9, 3) := by decide +kernel
theorem dX12_act_4 : decode cX12_act 4 = .ok (.iconst 4, 1) := by decide +kernel
theorem dX12_act_5 : decode cX12_act 5 = .ok (.iaload, 1) := by decide +kernel
theorem dX12_act_6 : decode cX12_act 6 = .ok (.bipush 8, 2) := by decide +kernel
theorem dX12_act_8 : decode cX12_act 8 = .ok (.if_icmp .ne 6, 3) := by decide +kernel
theorem dX12_act_11 : decode cX12_act 11 = .ok (.bipush (-3), 2) := by decide +kernel
theorem dX12_act_13 : decode cX12_act 13 = .ok (.ireturn, 1) := by decide +kernel
theorem dX12_act_14 : decode cX12_act 14 = .ok (.aload_n 0, 1) := by decide +kernel
theorem dX12_act_15 : decode cX12_act 15 = .ok (.iconst 1, 1) := by decide +kernel
theorem dX12_act_16 : decode cX12_act 16 = .ok (.invokevirtual 251, 3) := by decide +kernel
theorem dX12_act_19 : decode cX12_act 19 = .ok (.iconst 0, 1) := by decide +kernel
theorem dX12_act_20 : decode cX12_act 20 = .ok (.istore_n 1, 1) := by decide +kernel
theorem dX12_act_21 : decode cX12_act 21 = .ok (.aload_n 0, 1) := by decide +kernel
theorem dX12_act_22 : decode cX12_act 22 = .ok (.invokevirtual 209, 3) := by decide +kernel
theorem dX12_act_25 : decode cX12_act 25 = .ok (.ifCond .eq 63, 3) := by decide +kernel
theorem dX12_act_28 : decode cX12_act 28 = .ok (.aload_n 0, 1) := by decide +kernel
theorem dX12_act_29 : decode cX12_act 29 = .ok (.getfield 188, 3) := by decide +kernel
theorem dX12_act_32 : decode cX12_act 32 = .ok (.ifCond .eq 56, 3) := by decide +kernel
theorem dX12_act_35 : decode cX12_act 35 = .ok (.aload_n 0, 1) := by decide +kernel
theorem dX12_act_36 : decode cX12_act 36 = .ok (.invokevirtual 338, 3) := by decide +kernel
theorem dX12_act_39 : decode cX12_act 39 = .ok (.iconst (-1), 1) := by decide +kernel
theorem dX12_act_40 : decode cX12_act 40 = .ok (.if_icmp .ne 11, 3) := by decide +kernel
theorem dX12_act_43 : decode cX12_act 43 = .ok (.aload_n 0, 1) := by decide +kernel
theorem dX12_act_44 : decode cX12_act 44 = .ok (.iconst 1, 1) := by decide +kernel
theorem dX12_act_45 : decode cX12_act 45 = .ok (.invokevirtual 225, 3) := by decide +kernel
theorem dX12_act_48 : decode cX12_act 48 = .ok (.goto 14, 3) := by decide +kernel
theorem dX12_act_51 : decode cX12_act 51 = .ok (.iload_n 1, 1) := by decide +kernel
theorem dX12_act_52 : decode cX12_act 52 = .ok (.bipush 12, 2) := by decide +kernel
theorem dX12_act_54 : decode cX12_act 54 = .ok (.if_icmp .ne 8, 3) := by decide +kernel
theorem dX12_act_57 : decode cX12_act 57 = .ok (.aload_n 0, 1) := by decide +kernel
theorem dX12_act_58 : decode cX12_act 58 = .ok (.iconst 3, 1) := by decide +kernel
theorem dX12_act_59 : decode cX12_act 59 = .ok (.invokevirtual 225, 3) := by decide +kernel
theorem dX12_act_62 : decode cX12_act 62 = .ok (.aload_n 0, 1) := by decide +kernel
theorem dX12_act_63 : decode cX12_act 63 = .ok (.invokevirtual 209, 3) := by decide +kernel
theorem dX12_act_66 : decode cX12_act 66 = .ok (.ifCond .ne 6, 3) := by decide +kernel
theorem dX12_act_69 : decode cX12_act 69 = .ok (.goto 19, 3) := by decide +kernel
theorem dX12_act_72 : decode cX12_act 72 = .ok (.aload_n 0, 1) := by decide +kernel
theorem dX12_act_73 : decode cX12_act 73 = .ok (.iconst 2, 1) := by decide +kernel
theorem dX12_act_74 : decode cX12_act 74 = .ok (.bipush 24, 2) := by decide +kernel
theorem dX12_act_76 : decode cX12_act 76 = .ok (.iload_n 1, 1) := by decide +kernel
theorem dX12_act_77 : decode cX12_act 77 = .ok (.imul, 1) := by decide +kernel
theorem dX12_act_78 : decode cX12_act 78 = .ok (.iadd, 1) := by decide +kernel
theorem dX12_act_79 : decode cX12_act 79 = .ok (.invokevirtual 349, 3) := by decide +kernel
theorem dX12_act_82 : decode cX12_act 82 = .ok (.iinc 1 1, 3) := by decide +kernel
theorem dX12_act_85 : decode cX12_act 85 = .ok (.goto (-64), 3) := by decide +kernel
theorem dX12_act_88 : decode cX12_act 88 = .ok (.aload_n 0, 1) := by decide +kernel
theorem dX12_act_89 : decode cX12_act 89 = .ok (.invokevirtual 209, 3) := by decide +kernel
theorem dX12_act_92 : decode cX12_act 92 = .ok (.ifCond .ne 6, 3) := by decide +kernel
theorem dX12_act_95 : decode cX12_act 95 = .ok (.bipush (-4), 2) := by decide +kernel
theorem dX12_act_97 : decode cX12_act 97 = .ok (.ireturn, 1) := by decide +kernel
theorem dX12_act_98 : decode cX12_act 98 = .ok (.aload_n 0, 1) := by decide +kernel
theorem dX12_act_99 : decode cX12_act 99 = .ok (.getfield 41, 3) := by decide +kernel
theorem dX12_act_102 : decode cX12_act 102 = .ok (.iconst 0, 1) := by decide +kernel
theorem dX12_act_103 : decode cX12_act 103 = .ok (.aload_n 0, 1) := by decide +kernel
theorem dX12_act_104 : decode cX12_act 104 = .ok (.invokevirtual 138, 3) := by decide +kernel
theorem dX12_act_107 : decode cX12_act 107 = .ok (.iastore, 1) := by decide +kernel
theorem dX12_act_108 : decode cX12_act 108 = .ok (.aload_n 0, 1) := by decide +kernel
theorem dX12_act_109 : decode cX12_act 109 = .ok (.getfield 41, 3) := by decide +kernel
theorem dX12_act_112 : decode cX12_act 112 = .ok (.iconst 1, 1) := by decide +kernel
theorem dX12_act_113 : decode cX12_act 113 = .ok (.iload_n 1, 1) := by decide +kernel
theorem dX12_act_114 : decode cX12_act 114 = .ok (.iastore, 1) := by decide +kernel
theorem dX12_act_115 : decode cX12_act 115 = .ok (.sipush 3710, 3) := by decide +kernel
theorem dX12_act_118 : decode cX12_act 118 = .ok (.sipush 290, 3) := by decide +kernel
theorem dX12_act_121 : decode cX12_act 121 = .ok (.aload_n 0, 1) := by decide +kernel
theorem dX12_act_122 : decode cX12_act 122 = .ok (.getfield 9, 3) := by decide +kernel
theorem dX12_act_125 : decode cX12_act 125 = .ok (.iconst 4, 1) := by decide +kernel
theorem dX12_act_126 : decode cX12_act 126 = .ok (.iaload, 1) := by decide +kernel
theorem dX12_act_127 : decode cX12_act 127 = .ok (.imul, 1) := by decide +kernel
theorem dX12_act_128 : decode cX12_act 128 = .ok (.iadd, 1) := by decide +kernel
theorem dX12_act_129 : decode cX12_act 129 = .ok (.istore_n 2, 1) := by decide +kernel
theorem dX12_act_130 : decode cX12_act 130 = .ok (.iconst 0, 1) := by decide +kernel
theorem dX12_act_131 : decode cX12_act 131 = .ok (.istore_n 3, 1) := by decide +kernel
theorem dX12_act_132 : decode cX12_act 132 = .ok (.iload_n 3, 1) := by decide +kernel
theorem dX12_act_133 : decode cX12_act 133 = .ok (.sipush 290, 3) := by decide +kernel
theorem dX12_act_136 : decode cX12_act 136 = .ok (.if_icmp .ge 23, 3) := by decide +kernel
theorem dX12_act_139 : decode cX12_act 139 = .ok (.aload_n 0, 1) := by decide +kernel
theorem dX12_act_140 : decode cX12_act 140 = .ok (.getfield 9, 3) := by decide +kernel
theorem dX12_act_143 : decode cX12_act 143 = .ok (.iload_n 2, 1) := by decide +kernel
theorem dX12_act_144 : decode cX12_act 144 = .ok (.iload_n 3, 1) := by decide +kernel
theorem dX12_act_145 : decode cX12_act 145 = .ok (.iadd, 1) := by decide +kernel
theorem dX12_act_146 : decode cX12_act 146 = .ok (.aload_n 0, 1) := by decide +kernel
theorem dX12_act_147 : decode cX12_act 147 = .ok (.getfield 41, 3) := by decide +kernel
theorem dX12_act_150 : decode cX12_act 150 = .ok (.iload_n 3, 1) := by decide +kernel
theorem dX12_act_151 : decode cX12_act 151 = .ok (.iaload, 1) := by decide +kernel
theorem dX12_act_152 : decode cX12_act 152 = .ok (.iastore, 1) := by decide +kernel
theorem dX12_act_153 : decode cX12_act 153 = .ok (.iinc 3 1, 3) := by decide +kernel
theorem dX12_act_156 : decode cX12_act 156 = .ok (.goto (-24), 3) := by decide +kernel
theorem dX12_act_159 : decode cX12_act 159 = .ok (.aload_n 0, 1) := by decide +kernel
theorem dX12_act_160 : decode cX12_act 160 = .ok (.getfield 9, 3) := by decide +kernel
theorem dX12_act_163 : decode cX12_act 163 = .ok (.iconst 4, 1) := by decide +kernel
theorem dX12_act_164 : decode cX12_act 164 = .ok (.dup2, 1) := by decide +kernel
theorem dX12_act_165 : decode cX12_act 165 = .ok (.iaload, 1) := by decide +kernel
theorem dX12_act_166 : decode cX12_act 166 = .ok (.iconst 1, 1) := by decide +kernel
theorem dX12_act_167 : decode cX12_act 167 = .ok (.iadd, 1) := by decide +kernel
theorem dX12_act_168 : decode cX12_act 168 = .ok (.iastore, 1) := by decide +kernel
theorem dX12_act_169 : decode cX12_act 169 = .ok (.iload_n 1, 1) := by decide +kernel
theorem dX12_act_170 : decode cX12_act 170 = .ok (.ireturn, 1) := by decide +kernel
theorem dX12_actOf_0 : decode cX12_actOf 0 = .ok (.iconst (-1), 1) := by decide +kernel
theorem dX12_actOf_1 : decode cX12_actOf 1 = .ok (.istore_n 2, 1) := by decide +kernel
theorem dX12_actOf_2 : decode cX12_actOf 2 = .ok (.iconst 0, 1) := by decide +kernel
theorem dX12_actOf_3 : decode cX12_actOf 3 = .ok (.istore_n 3, 1) := by decide +kernel
theorem dX12_actOf_4 : decode cX12_actOf 4 = .ok (.iload_n 3, 1) := by decide +kernel
theorem dX12_actOf_5 : decode cX12_actOf 5 = .ok (.aload_n 0, 1) := by decide +kernel
theorem dX12_actOf_6 : decode cX12_actOf 6 = .ok (.getfield 9, 3) := by decide +kernel
theorem dX12_actOf_9 : decode cX12_actOf 9 = .ok (.iconst 4, 1) := by decide +kernel
theorem dX12_actOf_10 : decode cX12_actOf 10 = .ok (.iaload, 1) := by decide +kernel
theorem dX12_actOf_11 : decode cX12_actOf 11 = .ok (.if_icmp .ge 37, 3) := by decide +kernel
theorem dX12_actOf_14 : decode cX12_actOf 14 = .ok (.aload_n 0, 1) := by decide +kernel
theorem dX12_actOf_15 : decode cX12_actOf 15 = .ok (.getfield 9, 3) := by decide +kernel
theorem dX12_actOf_18 : decode cX12_actOf 18 = .ok (.sipush 3710, 3) := by decide +kernel
theorem dX12_actOf_21 : decode cX12_actOf 21 = .ok (.sipush 290, 3) := by decide +kernel
theorem dX12_actOf_24 : decode cX12_actOf 24 = .ok (.iload_n 3, 1) := by decide +kernel
theorem dX12_actOf_25 : decode cX12_actOf 25 = .ok (.imul, 1) := by decide +kernel
theorem dX12_actOf_26 : decode cX12_actOf 26 = .ok (.iadd, 1) := by decide +kernel
theorem dX12_actOf_27 : decode cX12_actOf 27 = .ok (.iaload, 1) := by decide +kernel
theorem dX12_actOf_28 : decode cX12_actOf 28 = .ok (.iload_n 1, 1) := by decide +kernel
theorem dX12_actOf_29 : decode cX12_actOf 29 = .ok (.if_icmp .gt 13, 3) := by decide +kernel
theorem dX12_actOf_32 : decode cX12_actOf 32 = .ok (.sipush 3710, 3) := by decide +kernel
theorem dX12_actOf_35 : decode cX12_actOf 35 = .ok (.sipush 290, 3) := by decide +kernel
theorem dX12_actOf_38 : decode cX12_actOf 38 = .ok (.iload_n 3, 1) := by decide +kernel
theorem dX12_actOf_39 : decode cX12_actOf 39 = .ok (.imul, 1) := by decide +kernel
theorem dX12_actOf_40 : decode cX12_actOf 40 = .ok (.iadd, 1) := by decide +kernel
theorem dX12_actOf_41 : decode cX12_actOf 41 = .ok (.istore_n 2, 1) := by decide +kernel
theorem dX12_actOf_42 : decode cX12_actOf 42 = .ok (.iinc 3 1, 3) := by decide +kernel
theorem dX12_actOf_45 : decode cX12_actOf 45 = .ok (.goto (-41), 3) := by decide +kernel
theorem dX12_actOf_48 : decode cX12_actOf 48 = .ok (.iload_n 2, 1) := by decide +kernel
theorem dX12_actOf_49 : decode cX12_actOf 49 = .ok (.ireturn, 1) := by decide +kernel
theorem dX12_termOf_0 : decode cX12_termOf 0 = .ok (.aload_n 0, 1) := by decide +kernel
theorem dX12_termOf_1 : decode cX12_termOf 1 = .ok (.aload_n 0, 1) := by decide +kernel
theorem dX12_termOf_2 : decode cX12_termOf 2 = .ok (.invokevirtual 138, 3) := by decide +kernel
theorem dX12_termOf_5 : decode cX12_termOf 5 = .ok (.invokevirtual 352, 3) := by decide +kernel
theorem dX12_termOf_8 : decode cX12_termOf 8 = .ok (.istore 4, 2) := by decide +kernel
theorem dX12_termOf_10 : decode cX12_termOf 10 = .ok (.iload_n 3, 1) := by decide +kernel
theorem dX12_termOf_11 : decode cX12_termOf 11 = .ok (.istore 5, 2) := by decide +kernel
theorem dX12_termOf_13 : decode cX12_termOf 13 = .ok (.iconst 0, 1) := by decide +kernel
theorem dX12_termOf_14 : decode cX12_termOf 14 = .ok (.istore 6, 2) := by decide +kernel
theorem dX12_termOf_16 : decode cX12_termOf 16 = .ok (.iload 4, 2) := by decide +kernel
theorem dX12_termOf_18 : decode cX12_termOf 18 = .ok (.iconst (-1), 1) := by decide +kernel
theorem dX12_termOf_19 : decode cX12_termOf 19 = .ok (.if_icmp .eq 61, 3) := by decide +kernel
theorem dX12_termOf_22 : decode cX12_termOf 22 = .ok (.iload 6, 2) := by decide +kernel
theorem dX12_termOf_24 : decode cX12_termOf 24 = .ok (.aload_n 0, 1) := by decide +kernel
theorem dX12_termOf_25 : decode cX12_termOf 25 = .ok (.getfield 9, 3) := by decide +kernel
theorem dX12_termOf_28 : decode cX12_termOf 28 = .ok (.iload 4, 2) := by decide +kernel
theorem dX12_termOf_30 : decode cX12_termOf 30 = .ok (.iconst 1, 1) := by decide +kernel
theorem dX12_termOf_31 : decode cX12_termOf 31 = .ok (.iadd, 1) := by decide +kernel
theorem dX12_termOf_32 : decode cX12_termOf 32 = .ok (.iaload, 1) := by decide +kernel
theorem dX12_termOf_33 : decode cX12_termOf 33 = .ok (.if_icmp .ge 47, 3) := by decide +kernel
theorem dX12_termOf_36 : decode cX12_termOf 36 = .ok (.aload_n 0, 1) := by decide +kernel
theorem dX12_termOf_37 : decode cX12_termOf 37 = .ok (.getfield 9, 3) := by decide +kernel
theorem dX12_termOf_40 : decode cX12_termOf 40 = .ok (.iload 4, 2) := by decide +kernel
theorem dX12_termOf_42 : decode cX12_termOf 42 = .ok (.iconst 2, 1) := by decide +kernel
theorem dX12_termOf_43 : decode cX12_termOf 43 = .ok (.iadd, 1) := by decide +kernel
theorem dX12_termOf_44 : decode cX12_termOf 44 = .ok (.bipush 24, 2) := by decide +kernel
theorem dX12_termOf_46 : decode cX12_termOf 46 = .ok (.iload 6, 2) := by decide +kernel
theorem dX12_termOf_48 : decode cX12_termOf 48 = .ok (.imul, 1) := by decide +kernel
theorem dX12_termOf_49 : decode cX12_termOf 49 = .ok (.iadd, 1) := by decide +kernel
theorem dX12_termOf_50 : decode cX12_termOf 50 = .ok (.iaload, 1) := by decide +kernel
theorem dX12_termOf_51 : decode cX12_termOf 51 = .ok (.iload_n 1, 1) := by decide +kernel
theorem dX12_termOf_52 : decode cX12_termOf 52 = .ok (.if_icmp .ne 22, 3) := by decide +kernel
theorem dX12_termOf_55 : decode cX12_termOf 55 = .ok (.aload_n 0, 1) := by decide +kernel
theorem dX12_termOf_56 : decode cX12_termOf 56 = .ok (.getfield 9, 3) := by decide +kernel
theorem dX12_termOf_59 : decode cX12_termOf 59 = .ok (.iload 4, 2) := by decide +kernel
theorem dX12_termOf_61 : decode cX12_termOf 61 = .ok (.iconst 2, 1) := by decide +kernel
theorem dX12_termOf_62 : decode cX12_termOf 62 = .ok (.iadd, 1) := by decide +kernel
theorem dX12_termOf_63 : decode cX12_termOf 63 = .ok (.bipush 24, 2) := by decide +kernel
theorem dX12_termOf_65 : decode cX12_termOf 65 = .ok (.iload 6, 2) := by decide +kernel
theorem dX12_termOf_67 : decode cX12_termOf 67 = .ok (.imul, 1) := by decide +kernel
theorem dX12_termOf_68 : decode cX12_termOf 68 = .ok (.iadd, 1) := by decide +kernel
theorem dX12_termOf_69 : decode cX12_termOf 69 = .ok (.iload_n 2, 1) := by decide +kernel
theorem dX12_termOf_70 : decode cX12_termOf 70 = .ok (.iadd, 1) := by decide +kernel
theorem dX12_termOf_71 : decode cX12_termOf 71 = .ok (.iaload, 1) := by decide +kernel
theorem dX12_termOf_72 : decode cX12_termOf 72 = .ok (.istore 5, 2) := by decide +kernel
theorem dX12_termOf_74 : decode cX12_termOf 74 = .ok (.iinc 6 1, 3) := by decide +kernel
theorem dX12_termOf_77 : decode cX12_termOf 77 = .ok (.goto (-61), 3) := by decide +kernel
theorem dX12_termOf_80 : decode cX12_termOf 80 = .ok (.iload 5, 2) := by decide +kernel
theorem dX12_termOf_82 : decode cX12_termOf 82 = .ok (.ireturn, 1) := by decide +kernel
theorem dX12_partsOf_0 : decode cX12_partsOf 0 = .ok (.iconst 0, 1) := by decide +kernel
theorem dX12_partsOf_1 : decode cX12_partsOf 1 = .ok (.istore_n 2, 1) := by decide +kernel
theorem dX12_partsOf_2 : decode cX12_partsOf 2 = .ok (.iconst 0, 1) := by decide +kernel
theorem dX12_partsOf_3 : decode cX12_partsOf 3 = .ok (.istore_n 3, 1) := by decide +kernel
theorem dX12_partsOf_4 : decode cX12_partsOf 4 = .ok (.iload_n 3, 1) := by decide +kernel
theorem dX12_partsOf_5 : decode cX12_partsOf 5 = .ok (.aload_n 0, 1) := by decide +kernel
theorem dX12_partsOf_6 : decode cX12_partsOf 6 = .ok (.getfield 9, 3) := by decide +kernel
theorem dX12_partsOf_9 : decode cX12_partsOf 9 = .ok (.iconst 1, 1) := by decide +kernel
theorem dX12_partsOf_10 : decode cX12_partsOf 10 = .ok (.iaload, 1) := by decide +kernel
theorem dX12_partsOf_11 : decode cX12_partsOf 11 = .ok (.if_icmp .ge 27, 3) := by decide +kernel
theorem dX12_partsOf_14 : decode cX12_partsOf 14 = .ok (.iload_n 2, 1) := by decide +kernel
theorem dX12_partsOf_15 : decode cX12_partsOf 15 = .ok (.aload_n 0, 1) := by decide +kernel
theorem dX12_partsOf_16 : decode cX12_partsOf 16 = .ok (.getfield 28, 3) := by decide +kernel
theorem dX12_partsOf_19 : decode cX12_partsOf 19 = .ok (.iload_n 3, 1) := by decide +kernel
theorem dX12_partsOf_20 : decode cX12_partsOf 20 = .ok (.iaload, 1) := by decide +kernel
theorem dX12_partsOf_21 : decode cX12_partsOf 21 = .ok (.iload_n 1, 1) := by decide +kernel
theorem dX12_partsOf_22 : decode cX12_partsOf 22 = .ok (.if_icmp .ne 7, 3) := by decide +kernel
theorem dX12_partsOf_25 : decode cX12_partsOf 25 = .ok (.iconst 1, 1) := by decide +kernel
theorem dX12_partsOf_26 : decode cX12_partsOf 26 = .ok (.goto 4, 3) := by decide +kernel
theorem dX12_partsOf_29 : decode cX12_partsOf 29 = .ok (.iconst 0, 1) := by decide +kernel
theorem dX12_partsOf_30 : decode cX12_partsOf 30 = .ok (.iadd, 1) := by decide +kernel
theorem dX12_partsOf_31 : decode cX12_partsOf 31 = .ok (.istore_n 2, 1) := by decide +kernel
theorem dX12_partsOf_32 : decode cX12_partsOf 32 = .ok (.iinc 3 1, 3) := by decide +kernel
theorem dX12_partsOf_35 : decode cX12_partsOf 35 = .ok (.goto (-31), 3) := by decide +kernel
theorem dX12_partsOf_38 : decode cX12_partsOf 38 = .ok (.iload_n 2, 1) := by decide +kernel
theorem dX12_partsOf_39 : decode cX12_partsOf 39 = .ok (.ireturn, 1) := by decide +kernel
theorem dX12_holdFor_0 : decode cX12_holdFor 0 = .ok (.iload_n 1, 1) := by decide +kernel
theorem dX12_holdFor_1 : decode cX12_holdFor 1 = .ok (.iconst 4, 1) := by decide +kernel
theorem dX12_holdFor_2 : decode cX12_holdFor 2 = .ok (.iadd, 1) := by decide +kernel
theorem dX12_holdFor_3 : decode cX12_holdFor 3 = .ok (.istore 4, 2) := by decide +kernel
theorem dX12_holdFor_5 : decode cX12_holdFor 5 = .ok (.iload 4, 2) := by decide +kernel
theorem dX12_holdFor_7 : decode cX12_holdFor 7 = .ok (.iload_n 1, 1) := by decide +kernel
theorem dX12_holdFor_8 : decode cX12_holdFor 8 = .ok (.iconst 4, 1) := by decide +kernel
theorem dX12_holdFor_9 : decode cX12_holdFor 9 = .ok (.iadd, 1) := by decide +kernel
theorem dX12_holdFor_10 : decode cX12_holdFor 10 = .ok (.iconst 5, 1) := by decide +kernel
theorem dX12_holdFor_11 : decode cX12_holdFor 11 = .ok (.aload_n 0, 1) := by decide +kernel
theorem dX12_holdFor_12 : decode cX12_holdFor 12 = .ok (.getfield 9, 3) := by decide +kernel
theorem dX12_holdFor_15 : decode cX12_holdFor 15 = .ok (.iload_n 1, 1) := by decide +kernel
theorem dX12_holdFor_16 : decode cX12_holdFor 16 = .ok (.iconst 3, 1) := by decide +kernel
theorem dX12_holdFor_17 : decode cX12_holdFor 17 = .ok (.iadd, 1) := by decide +kernel
theorem dX12_holdFor_18 : decode cX12_holdFor 18 = .ok (.iaload, 1) := by decide +kernel
theorem dX12_holdFor_19 : decode cX12_holdFor 19 = .ok (.imul, 1) := by decide +kernel
theorem dX12_holdFor_20 : decode cX12_holdFor 20 = .ok (.iadd, 1) := by decide +kernel
theorem dX12_holdFor_21 : decode cX12_holdFor 21 = .ok (.if_icmp .ge 202, 3) := by decide +kernel
theorem dX12_holdFor_24 : decode cX12_holdFor 24 = .ok (.aload_n 0, 1) := by decide +kernel
theorem dX12_holdFor_25 : decode cX12_holdFor 25 = .ok (.iload_n 2, 1) := by decide +kernel
theorem dX12_holdFor_26 : decode cX12_holdFor 26 = .ok (.invokevirtual 169, 3) := by decide +kernel
theorem dX12_holdFor_29 : decode cX12_holdFor 29 = .ok (.istore 5, 2) := by decide +kernel
theorem dX12_holdFor_31 : decode cX12_holdFor 31 = .ok (.aload_n 0, 1) := by decide +kernel
theorem dX12_holdFor_32 : decode cX12_holdFor 32 = .ok (.getfield 9, 3) := by decide +kernel
theorem dX12_holdFor_35 : decode cX12_holdFor 35 = .ok (.iload 4, 2) := by decide +kernel
theorem dX12_holdFor_37 : decode cX12_holdFor 37 = .ok (.iconst 1, 1) := by decide +kernel
theorem dX12_holdFor_38 : decode cX12_holdFor 38 = .ok (.iadd, 1) := by decide +kernel
theorem dX12_holdFor_39 : decode cX12_holdFor 39 = .ok (.iaload, 1) := by decide +kernel
theorem dX12_holdFor_40 : decode cX12_holdFor 40 = .ok (.istore 6, 2) := by decide +kernel
theorem dX12_holdFor_42 : decode cX12_holdFor 42 = .ok (.iload 6, 2) := by decide +kernel
theorem dX12_holdFor_44 : decode cX12_holdFor 44 = .ok (.ifCond .ne 39, 3) := by decide +kernel
theorem dX12_holdFor_47 : decode cX12_holdFor 47 = .ok (.iload 5, 2) := by decide +kernel
theorem dX12_holdFor_49 : decode cX12_holdFor 49 = .ok (.ifCond .ne 7, 3) := by decide +kernel
theorem dX12_holdFor_52 : decode cX12_holdFor 52 = .ok (.iconst 0, 1) := by decide +kernel
theorem dX12_holdFor_53 : decode cX12_holdFor 53 = .ok (.goto 56, 3) := by decide +kernel
theorem dX12_holdFor_56 : decode cX12_holdFor 56 = .ok (.bipush 100, 2) := by decide +kernel
theorem dX12_holdFor_58 : decode cX12_holdFor 58 = .ok (.aload_n 0, 1) := by decide +kernel
theorem dX12_holdFor_59 : decode cX12_holdFor 59 = .ok (.getfield 34, 3) := by decide +kernel
theorem dX12_holdFor_62 : decode cX12_holdFor 62 = .ok (.iconst 3, 1) := by decide +kernel
theorem dX12_holdFor_63 : decode cX12_holdFor 63 = .ok (.iload_n 2, 1) := by decide +kernel
theorem dX12_holdFor_64 : decode cX12_holdFor 64 = .ok (.imul, 1) := by decide +kernel
theorem dX12_holdFor_65 : decode cX12_holdFor 65 = .ok (.aload_n 0, 1) := by decide +kernel
theorem dX12_holdFor_66 : decode cX12_holdFor 66 = .ok (.getfield 9, 3) := by decide +kernel
theorem dX12_holdFor_69 : decode cX12_holdFor 69 = .ok (.iload 4, 2) := by decide +kernel
theorem dX12_holdFor_71 : decode cX12_holdFor 71 = .ok (.iconst 2, 1) := by decide +kernel
theorem dX12_holdFor_72 : decode cX12_holdFor 72 = .ok (.iadd, 1) := by decide +kernel
theorem dX12_holdFor_73 : decode cX12_holdFor 73 = .ok (.iaload, 1) := by decide +kernel
theorem dX12_holdFor_74 : decode cX12_holdFor 74 = .ok (.iadd, 1) := by decide +kernel
theorem dX12_holdFor_75 : decode cX12_holdFor 75 = .ok (.iaload, 1) := by decide +kernel
theorem dX12_holdFor_76 : decode cX12_holdFor 76 = .ok (.imul, 1) := by decide +kernel
theorem dX12_holdFor_77 : decode cX12_holdFor 77 = .ok (.iload 5, 2) := by decide +kernel
theorem dX12_holdFor_79 : decode cX12_holdFor 79 = .ok (.idiv, 1) := by decide +kernel
theorem dX12_holdFor_80 : decode cX12_holdFor 80 = .ok (.goto 29, 3) := by decide +kernel
theorem dX12_holdFor_83 : decode cX12_holdFor 83 = .ok (.iload 6, 2) := by decide +kernel
theorem dX12_holdFor_85 : decode cX12_holdFor 85 = .ok (.iconst 1, 1) := by decide +kernel
theorem dX12_holdFor_86 : decode cX12_holdFor 86 = .ok (.if_icmp .ne 8, 3) := by decide +kernel
theorem dX12_holdFor_89 : decode cX12_holdFor 89 = .ok (.iload 5, 2) := by decide +kernel
theorem dX12_holdFor_91 : decode cX12_holdFor 91 = .ok (.goto 18, 3) := by decide +kernel
theorem dX12_holdFor_94 : decode cX12_holdFor 94 = .ok (.iload 6, 2) := by decide +kernel
theorem dX12_holdFor_96 : decode cX12_holdFor 96 = .ok (.iconst 2, 1) := by decide +kernel
theorem dX12_holdFor_97 : decode cX12_holdFor 97 = .ok (.if_icmp .ne 11, 3) := by decide +kernel
theorem dX12_holdFor_100 : decode cX12_holdFor 100 = .ok (.aload_n 0, 1) := by decide +kernel
theorem dX12_holdFor_101 : decode cX12_holdFor 101 = .ok (.iload_n 2, 1) := by decide +kernel
theorem dX12_holdFor_102 : decode cX12_holdFor 102 = .ok (.invokevirtual 355, 3) := by decide +kernel
theorem dX12_holdFor_105 : decode cX12_holdFor 105 = .ok (.goto 4, 3) := by decide +kernel
theorem dX12_holdFor_108 : decode cX12_holdFor 108 = .ok (.iload_n 3, 1) := by decide +kernel
theorem dX12_holdFor_109 : decode cX12_holdFor 109 = .ok (.istore 7, 2) := by decide +kernel
theorem dX12_holdFor_111 : decode cX12_holdFor 111 = .ok (.aload_n 0, 1) := by decide +kernel
theorem dX12_holdFor_112 : decode cX12_holdFor 112 = .ok (.getfield 9, 3) := by decide +kernel
theorem dX12_holdFor_115 : decode cX12_holdFor 115 = .ok (.iload 4, 2) := by decide +kernel
theorem dX12_holdFor_117 : decode cX12_holdFor 117 = .ok (.iconst 4, 1) := by decide +kernel
theorem dX12_holdFor_118 : decode cX12_holdFor 118 = .ok (.iadd, 1) := by decide +kernel
theorem dX12_holdFor_119 : decode cX12_holdFor 119 = .ok (.iaload, 1) := by decide +kernel
theorem dX12_holdFor_120 : decode cX12_holdFor 120 = .ok (.istore 8, 2) := by decide +kernel
theorem dX12_holdFor_122 : decode cX12_holdFor 122 = .ok (.aload_n 0, 1) := by decide +kernel
theorem dX12_holdFor_123 : decode cX12_holdFor 123 = .ok (.getfield 9, 3) := by decide +kernel
theorem dX12_holdFor_126 : decode cX12_holdFor 126 = .ok (.iload 4, 2) := by decide +kernel
theorem dX12_holdFor_128 : decode cX12_holdFor 128 = .ok (.iconst 3, 1) := by decide +kernel
theorem dX12_holdFor_129 : decode cX12_holdFor 129 = .ok (.iadd, 1) := by decide +kernel
theorem dX12_holdFor_130 : decode cX12_holdFor 130 = .ok (.iaload, 1) := by decide +kernel
theorem dX12_holdFor_131 : decode cX12_holdFor 131 = .ok (.bipush 60, 2) := by decide +kernel
theorem dX12_holdFor_133 : decode cX12_holdFor 133 = .ok (.if_icmp .ne 18, 3) := by decide +kernel
theorem dX12_holdFor_136 : decode cX12_holdFor 136 = .ok (.iload 7, 2) := by decide +kernel
theorem dX12_holdFor_138 : decode cX12_holdFor 138 = .ok (.iload 8, 2) := by decide +kernel
theorem dX12_holdFor_140 : decode cX12_holdFor 140 = .ok (.if_icmp .ge 7, 3) := by decide +kernel
theorem dX12_holdFor_143 : decode cX12_holdFor 143 = .ok (.iconst 1, 1) := by decide +kernel
theorem dX12_holdFor_144 : decode cX12_holdFor 144 = .ok (.goto 48, 3) := by decide +kernel
theorem dX12_holdFor_147 : decode cX12_holdFor 147 = .ok (.iconst 0, 1) := by decide +kernel
theorem dX12_holdFor_148 : decode cX12_holdFor 148 = .ok (.goto 44, 3) := by decide +kernel
theorem dX12_holdFor_151 : decode cX12_holdFor 151 = .ok (.aload_n 0, 1) := by decide +kernel
theorem dX12_holdFor_152 : decode cX12_holdFor 152 = .ok (.getfield 9, 3) := by decide +kernel
theorem dX12_holdFor_155 : decode cX12_holdFor 155 = .ok (.iload 4, 2) := by decide +kernel
theorem dX12_holdFor_157 : decode cX12_holdFor 157 = .ok (.iconst 3, 1) := by decide +kernel
theorem dX12_holdFor_158 : decode cX12_holdFor 158 = .ok (.iadd, 1) := by decide +kernel
theorem dX12_holdFor_159 : decode cX12_holdFor 159 = .ok (.iaload, 1) := by decide +kernel
theorem dX12_holdFor_160 : decode cX12_holdFor 160 = .ok (.bipush 62, 2) := by decide +kernel
theorem dX12_holdFor_162 : decode cX12_holdFor 162 = .ok (.if_icmp .ne 18, 3) := by decide +kernel
theorem dX12_holdFor_165 : decode cX12_holdFor 165 = .ok (.iload 7, 2) := by decide +kernel
theorem dX12_holdFor_167 : decode cX12_holdFor 167 = .ok (.iload 8, 2) := by decide +kernel
theorem dX12_holdFor_169 : decode cX12_holdFor 169 = .ok (.if_icmp .le 7, 3) := by decide +kernel
theorem dX12_holdFor_172 : decode cX12_holdFor 172 = .ok (.iconst 1, 1) := by decide +kernel
theorem dX12_holdFor_173 : decode cX12_holdFor 173 = .ok (.goto 19, 3) := by decide +kernel
theorem dX12_holdFor_176 : decode cX12_holdFor 176 = .ok (.iconst 0, 1) := by decide +kernel
theorem dX12_holdFor_177 : decode cX12_holdFor 177 = .ok (.goto 15, 3) := by decide +kernel
theorem dX12_holdFor_180 : decode cX12_holdFor 180 = .ok (.iload 7, 2) := by decide +kernel
theorem dX12_holdFor_182 : decode cX12_holdFor 182 = .ok (.iload 8, 2) := by decide +kernel
theorem dX12_holdFor_184 : decode cX12_holdFor 184 = .ok (.if_icmp .ne 7, 3) := by decide +kernel
theorem dX12_holdFor_187 : decode cX12_holdFor 187 = .ok (.iconst 1, 1) := by decide +kernel
theorem dX12_holdFor_188 : decode cX12_holdFor 188 = .ok (.goto 4, 3) := by decide +kernel
theorem dX12_holdFor_191 : decode cX12_holdFor 191 = .ok (.iconst 0, 1) := by decide +kernel
theorem dX12_holdFor_192 : decode cX12_holdFor 192 = .ok (.istore 9, 2) := by decide +kernel
theorem dX12_holdFor_194 : decode cX12_holdFor 194 = .ok (.iload 9, 2) := by decide +kernel
theorem dX12_holdFor_196 : decode cX12_holdFor 196 = .ok (.aload_n 0, 1) := by decide +kernel
theorem dX12_holdFor_197 : decode cX12_holdFor 197 = .ok (.getfield 9, 3) := by decide +kernel
theorem dX12_holdFor_200 : decode cX12_holdFor 200 = .ok (.iload 4, 2) := by decide +kernel
theorem dX12_holdFor_202 : decode cX12_holdFor 202 = .ok (.iaload, 1) := by decide +kernel
theorem dX12_holdFor_203 : decode cX12_holdFor 203 = .ok (.iconst 1, 1) := by decide +kernel
theorem dX12_holdFor_204 : decode cX12_holdFor 204 = .ok (.if_icmp .ne 7, 3) := by decide +kernel
theorem dX12_holdFor_207 : decode cX12_holdFor 207 = .ok (.iconst 1, 1) := by decide +kernel
theorem dX12_holdFor_208 : decode cX12_holdFor 208 = .ok (.goto 4, 3) := by decide +kernel
theorem dX12_holdFor_211 : decode cX12_holdFor 211 = .ok (.iconst 0, 1) := by decide +kernel
theorem dX12_holdFor_212 : decode cX12_holdFor 212 = .ok (.if_icmp .ne 5, 3) := by decide +kernel
theorem dX12_holdFor_215 : decode cX12_holdFor 215 = .ok (.iconst 0, 1) := by decide +kernel
theorem dX12_holdFor_216 : decode cX12_holdFor 216 = .ok (.ireturn, 1) := by decide +kernel
theorem dX12_holdFor_217 : decode cX12_holdFor 217 = .ok (.iinc 4 5, 3) := by decide +kernel
theorem dX12_holdFor_220 : decode cX12_holdFor 220 = .ok (.goto (-215), 3) := by decide +kernel
theorem dX12_holdFor_223 : decode cX12_holdFor 223 = .ok (.iconst 1, 1) := by decide +kernel
theorem dX12_holdFor_224 : decode cX12_holdFor 224 = .ok (.ireturn, 1) := by decide +kernel
theorem dX12_most_0 : decode cX12_most 0 = .ok (.iconst (-1), 1) := by decide +kernel
theorem dX12_most_1 : decode cX12_most 1 = .ok (.istore_n 3, 1) := by decide +kernel
theorem dX12_most_2 : decode cX12_most 2 = .ok (.iconst 0, 1) := by decide +kernel
theorem dX12_most_3 : decode cX12_most 3 = .ok (.istore 4, 2) := by decide +kernel
theorem dX12_most_5 : decode cX12_most 5 = .ok (.iload 4, 2) := by decide +kernel
theorem dX12_most_7 : decode cX12_most 7 = .ok (.iconst 3, 1) := by decide +kernel
theorem dX12_most_8 : decode cX12_most 8 = .ok (.if_icmp .ge 47, 3) := by decide +kernel
theorem dX12_most_11 : decode cX12_most 11 = .ok (.iload 4, 2) := by decide +kernel
theorem dX12_most_13 : decode cX12_most 13 = .ok (.iload_n 2, 1) := by decide +kernel
theorem dX12_most_14 : decode cX12_most 14 = .ok (.if_icmp .eq 35, 3) := by decide +kernel
theorem dX12_most_17 : decode cX12_most 17 = .ok (.iload_n 3, 1) := by decide +kernel
theorem dX12_most_18 : decode cX12_most 18 = .ok (.iconst (-1), 1) := by decide +kernel
theorem dX12_most_19 : decode cX12_most 19 = .ok (.if_icmp .eq 27, 3) := by decide +kernel
theorem dX12_most_22 : decode cX12_most 22 = .ok (.aload_n 0, 1) := by decide +kernel
theorem dX12_most_23 : decode cX12_most 23 = .ok (.getfield 34, 3) := by decide +kernel
theorem dX12_most_26 : decode cX12_most 26 = .ok (.iconst 3, 1) := by decide +kernel
theorem dX12_most_27 : decode cX12_most 27 = .ok (.iload_n 1, 1) := by decide +kernel
theorem dX12_most_28 : decode cX12_most 28 = .ok (.imul, 1) := by decide +kernel
theorem dX12_most_29 : decode cX12_most 29 = .ok (.iload 4, 2) := by decide +kernel
theorem dX12_most_31 : decode cX12_most 31 = .ok (.iadd, 1) := by decide +kernel
theorem dX12_most_32 : decode cX12_most 32 = .ok (.iaload, 1) := by decide +kernel
theorem dX12_most_33 : decode cX12_most 33 = .ok (.aload_n 0, 1) := by decide +kernel
theorem dX12_most_34 : decode cX12_most 34 = .ok (.getfield 34, 3) := by decide +kernel
theorem dX12_most_37 : decode cX12_most 37 = .ok (.iconst 3, 1) := by decide +kernel
theorem dX12_most_38 : decode cX12_most 38 = .ok (.iload_n 1, 1) := by decide +kernel
theorem dX12_most_39 : decode cX12_most 39 = .ok (.imul, 1) := by decide +kernel
theorem dX12_most_40 : decode cX12_most 40 = .ok (.iload_n 3, 1) := by decide +kernel
theorem dX12_most_41 : decode cX12_most 41 = .ok (.iadd, 1) := by decide +kernel
theorem dX12_most_42 : decode cX12_most 42 = .ok (.iaload, 1) := by decide +kernel
theorem dX12_most_43 : decode cX12_most 43 = .ok (.if_icmp .le 6, 3) := by decide +kernel
theorem dX12_most_46 : decode cX12_most 46 = .ok (.iload 4, 2) := by decide +kernel
theorem dX12_most_48 : decode cX12_most 48 = .ok (.istore_n 3, 1) := by decide +kernel
theorem dX12_most_49 : decode cX12_most 49 = .ok (.iinc 4 1, 3) := by decide +kernel
theorem dX12_most_52 : decode cX12_most 52 = .ok (.goto (-47), 3) := by decide +kernel
theorem dX12_most_55 : decode cX12_most 55 = .ok (.iload_n 3, 1) := by decide +kernel
theorem dX12_most_56 : decode cX12_most 56 = .ok (.ireturn, 1) := by decide +kernel
theorem dX12_firstOf_0 : decode cX12_firstOf 0 = .ok (.aload_n 0, 1) := by decide +kernel
theorem dX12_firstOf_1 : decode cX12_firstOf 1 = .ok (.iload_n 2, 1) := by decide +kernel
theorem dX12_firstOf_2 : decode cX12_firstOf 2 = .ok (.invokevirtual 352, 3) := by decide +kernel
theorem dX12_firstOf_5 : decode cX12_firstOf 5 = .ok (.istore 4, 2) := by decide +kernel
theorem dX12_firstOf_7 : decode cX12_firstOf 7 = .ok (.iconst 0, 1) := by decide +kernel
theorem dX12_firstOf_8 : decode cX12_firstOf 8 = .ok (.istore 5, 2) := by decide +kernel
theorem dX12_firstOf_10 : decode cX12_firstOf 10 = .ok (.iload 4, 2) := by decide +kernel
theorem dX12_firstOf_12 : decode cX12_firstOf 12 = .ok (.iconst (-1), 1) := by decide +kernel
theorem dX12_firstOf_13 : decode cX12_firstOf 13 = .ok (.if_icmp .eq 66, 3) := by decide +kernel
theorem dX12_firstOf_16 : decode cX12_firstOf 16 = .ok (.iload 5, 2) := by decide +kernel
theorem dX12_firstOf_18 : decode cX12_firstOf 18 = .ok (.aload_n 0, 1) := by decide +kernel
theorem dX12_firstOf_19 : decode cX12_firstOf 19 = .ok (.getfield 9, 3) := by decide +kernel
theorem dX12_firstOf_22 : decode cX12_firstOf 22 = .ok (.iload 4, 2) := by decide +kernel
theorem dX12_firstOf_24 : decode cX12_firstOf 24 = .ok (.iconst 1, 1) := by decide +kernel
theorem dX12_firstOf_25 : decode cX12_firstOf 25 = .ok (.iadd, 1) := by decide +kernel
theorem dX12_firstOf_26 : decode cX12_firstOf 26 = .ok (.iaload, 1) := by decide +kernel
theorem dX12_firstOf_27 : decode cX12_firstOf 27 = .ok (.if_icmp .ge 52, 3) := by decide +kernel
theorem dX12_firstOf_30 : decode cX12_firstOf 30 = .ok (.iload 4, 2) := by decide +kernel
theorem dX12_firstOf_32 : decode cX12_firstOf 32 = .ok (.iconst 2, 1) := by decide +kernel
theorem dX12_firstOf_33 : decode cX12_firstOf 33 = .ok (.iadd, 1) := by decide +kernel
theorem dX12_firstOf_34 : decode cX12_firstOf 34 = .ok (.bipush 24, 2) := by decide +kernel
theorem dX12_firstOf_36 : decode cX12_firstOf 36 = .ok (.iload 5, 2) := by decide +kernel
theorem dX12_firstOf_38 : decode cX12_firstOf 38 = .ok (.imul, 1) := by decide +kernel
theorem dX12_firstOf_39 : decode cX12_firstOf 39 = .ok (.iadd, 1) := by decide +kernel
theorem dX12_firstOf_40 : decode cX12_firstOf 40 = .ok (.istore 6, 2) := by decide +kernel
theorem dX12_firstOf_42 : decode cX12_firstOf 42 = .ok (.aload_n 0, 1) := by decide +kernel
theorem dX12_firstOf_43 : decode cX12_firstOf 43 = .ok (.getfield 9, 3) := by decide +kernel
theorem dX12_firstOf_46 : decode cX12_firstOf 46 = .ok (.iload 6, 2) := by decide +kernel
theorem dX12_firstOf_48 : decode cX12_firstOf 48 = .ok (.iaload, 1) := by decide +kernel
theorem dX12_firstOf_49 : decode cX12_firstOf 49 = .ok (.ifCond .ne 24, 3) := by decide +kernel
theorem dX12_firstOf_52 : decode cX12_firstOf 52 = .ok (.aload_n 0, 1) := by decide +kernel
theorem dX12_firstOf_53 : decode cX12_firstOf 53 = .ok (.iload 6, 2) := by decide +kernel
theorem dX12_firstOf_55 : decode cX12_firstOf 55 = .ok (.iload_n 1, 1) := by decide +kernel
theorem dX12_firstOf_56 : decode cX12_firstOf 56 = .ok (.iload_n 3, 1) := by decide +kernel
theorem dX12_firstOf_57 : decode cX12_firstOf 57 = .ok (.invokevirtual 358, 3) := by decide +kernel
theorem dX12_firstOf_60 : decode cX12_firstOf 60 = .ok (.ifCond .eq 13, 3) := by decide +kernel
theorem dX12_firstOf_63 : decode cX12_firstOf 63 = .ok (.aload_n 0, 1) := by decide +kernel
theorem dX12_firstOf_64 : decode cX12_firstOf 64 = .ok (.getfield 9, 3) := by decide +kernel
theorem dX12_firstOf_67 : decode cX12_firstOf 67 = .ok (.iload 6, 2) := by decide +kernel
theorem dX12_firstOf_69 : decode cX12_firstOf 69 = .ok (.iconst 1, 1) := by decide +kernel
theorem dX12_firstOf_70 : decode cX12_firstOf 70 = .ok (.iadd, 1) := by decide +kernel
theorem dX12_firstOf_71 : decode cX12_firstOf 71 = .ok (.iaload, 1) := by decide +kernel
theorem dX12_firstOf_72 : decode cX12_firstOf 72 = .ok (.ireturn, 1) := by decide +kernel
theorem dX12_firstOf_73 : decode cX12_firstOf 73 = .ok (.iinc 5 1, 3) := by decide +kernel
theorem dX12_firstOf_76 : decode cX12_firstOf 76 = .ok (.goto (-66), 3) := by decide +kernel
theorem dX12_firstOf_79 : decode cX12_firstOf 79 = .ok (.aload_n 0, 1) := by decide +kernel
theorem dX12_firstOf_80 : decode cX12_firstOf 80 = .ok (.iload_n 1, 1) := by decide +kernel
theorem dX12_firstOf_81 : decode cX12_firstOf 81 = .ok (.iconst (-1), 1) := by decide +kernel
theorem dX12_firstOf_82 : decode cX12_firstOf 82 = .ok (.invokevirtual 362, 3) := by decide +kernel
theorem dX12_firstOf_85 : decode cX12_firstOf 85 = .ok (.ireturn, 1) := by decide +kernel
theorem dX12_besideOf_0 : decode cX12_besideOf 0 = .ok (.aload_n 0, 1) := by decide +kernel
theorem dX12_besideOf_1 : decode cX12_besideOf 1 = .ok (.iload_n 2, 1) := by decide +kernel
theorem dX12_besideOf_2 : decode cX12_besideOf 2 = .ok (.invokevirtual 352, 3) := by decide +kernel
theorem dX12_besideOf_5 : decode cX12_besideOf 5 = .ok (.istore 4, 2) := by decide +kernel
theorem dX12_besideOf_7 : decode cX12_besideOf 7 = .ok (.iconst 0, 1) := by decide +kernel
theorem dX12_besideOf_8 : decode cX12_besideOf 8 = .ok (.istore 5, 2) := by decide +kernel
theorem dX12_besideOf_10 : decode cX12_besideOf 10 = .ok (.iconst 0, 1) := by decide +kernel
theorem dX12_besideOf_11 : decode cX12_besideOf 11 = .ok (.istore 6, 2) := by decide +kernel
theorem dX12_besideOf_13 : decode cX12_besideOf 13 = .ok (.iload 4, 2) := by decide +kernel
theorem dX12_besideOf_15 : decode cX12_besideOf 15 = .ok (.iconst (-1), 1) := by decide +kernel
theorem dX12_besideOf_16 : decode cX12_besideOf 16 = .ok (.if_icmp .eq 73, 3) := by decide +kernel
theorem dX12_besideOf_19 : decode cX12_besideOf 19 = .ok (.iload 6, 2) := by decide +kernel
theorem dX12_besideOf_21 : decode cX12_besideOf 21 = .ok (.aload_n 0, 1) := by decide +kernel
theorem dX12_besideOf_22 : decode cX12_besideOf 22 = .ok (.getfield 9, 3) := by decide +kernel
theorem dX12_besideOf_25 : decode cX12_besideOf 25 = .ok (.iload 4, 2) := by decide +kernel
theorem dX12_besideOf_27 : decode cX12_besideOf 27 = .ok (.iconst 1, 1) := by decide +kernel
theorem dX12_besideOf_28 : decode cX12_besideOf 28 = .ok (.iadd, 1) := by decide +kernel
theorem dX12_besideOf_29 : decode cX12_besideOf 29 = .ok (.iaload, 1) := by decide +kernel
theorem dX12_besideOf_30 : decode cX12_besideOf 30 = .ok (.if_icmp .ge 59, 3) := by decide +kernel
theorem dX12_besideOf_33 : decode cX12_besideOf 33 = .ok (.iload 5, 2) := by decide +kernel
theorem dX12_besideOf_35 : decode cX12_besideOf 35 = .ok (.ifCond .ne 41, 3) := by decide +kernel
theorem dX12_besideOf_38 : decode cX12_besideOf 38 = .ok (.aload_n 0, 1) := by decide +kernel
theorem dX12_besideOf_39 : decode cX12_besideOf 39 = .ok (.getfield 9, 3) := by decide +kernel
theorem dX12_besideOf_42 : decode cX12_besideOf 42 = .ok (.iload 4, 2) := by decide +kernel
theorem dX12_besideOf_44 : decode cX12_besideOf 44 = .ok (.iconst 2, 1) := by decide +kernel
theorem dX12_besideOf_45 : decode cX12_besideOf 45 = .ok (.iadd, 1) := by decide +kernel
theorem dX12_besideOf_46 : decode cX12_besideOf 46 = .ok (.bipush 24, 2) := by decide +kernel
theorem dX12_besideOf_48 : decode cX12_besideOf 48 = .ok (.iload 6, 2) := by decide +kernel
theorem dX12_besideOf_50 : decode cX12_besideOf 50 = .ok (.imul, 1) := by decide +kernel
theorem dX12_besideOf_51 : decode cX12_besideOf 51 = .ok (.iadd, 1) := by decide +kernel
theorem dX12_besideOf_52 : decode cX12_besideOf 52 = .ok (.iaload, 1) := by decide +kernel
theorem dX12_besideOf_53 : decode cX12_besideOf 53 = .ok (.iconst 1, 1) := by decide +kernel
theorem dX12_besideOf_54 : decode cX12_besideOf 54 = .ok (.if_icmp .ne 26, 3) := by decide +kernel
theorem dX12_besideOf_57 : decode cX12_besideOf 57 = .ok (.aload_n 0, 1) := by decide +kernel
theorem dX12_besideOf_58 : decode cX12_besideOf 58 = .ok (.iload 4, 2) := by decide +kernel
theorem dX12_besideOf_60 : decode cX12_besideOf 60 = .ok (.iconst 2, 1) := by decide +kernel
theorem dX12_besideOf_61 : decode cX12_besideOf 61 = .ok (.iadd, 1) := by decide +kernel
theorem dX12_besideOf_62 : decode cX12_besideOf 62 = .ok (.bipush 24, 2) := by decide +kernel
theorem dX12_besideOf_64 : decode cX12_besideOf 64 = .ok (.iload 6, 2) := by decide +kernel
theorem dX12_besideOf_66 : decode cX12_besideOf 66 = .ok (.imul, 1) := by decide +kernel
theorem dX12_besideOf_67 : decode cX12_besideOf 67 = .ok (.iadd, 1) := by decide +kernel
theorem dX12_besideOf_68 : decode cX12_besideOf 68 = .ok (.iload_n 1, 1) := by decide +kernel
theorem dX12_besideOf_69 : decode cX12_besideOf 69 = .ok (.iload_n 3, 1) := by decide +kernel
theorem dX12_besideOf_70 : decode cX12_besideOf 70 = .ok (.invokevirtual 358, 3) := by decide +kernel
theorem dX12_besideOf_73 : decode cX12_besideOf 73 = .ok (.ifCond .eq 7, 3) := by decide +kernel
theorem dX12_besideOf_76 : decode cX12_besideOf 76 = .ok (.iconst 1, 1) := by decide +kernel
theorem dX12_besideOf_77 : decode cX12_besideOf 77 = .ok (.goto 4, 3) := by decide +kernel
theorem dX12_besideOf_80 : decode cX12_besideOf 80 = .ok (.iconst 0, 1) := by decide +kernel
theorem dX12_besideOf_81 : decode cX12_besideOf 81 = .ok (.istore 5, 2) := by decide +kernel
theorem dX12_besideOf_83 : decode cX12_besideOf 83 = .ok (.iinc 6 1, 3) := by decide +kernel
theorem dX12_besideOf_86 : decode cX12_besideOf 86 = .ok (.goto (-73), 3) := by decide +kernel
theorem dX12_besideOf_89 : decode cX12_besideOf 89 = .ok (.aload_n 0, 1) := by decide +kernel
theorem dX12_besideOf_90 : decode cX12_besideOf 90 = .ok (.iload_n 1, 1) := by decide +kernel
theorem dX12_besideOf_91 : decode cX12_besideOf 91 = .ok (.aload_n 0, 1) := by decide +kernel
theorem dX12_besideOf_92 : decode cX12_besideOf 92 = .ok (.iload_n 1, 1) := by decide +kernel
theorem dX12_besideOf_93 : decode cX12_besideOf 93 = .ok (.iload_n 2, 1) := by decide +kernel
theorem dX12_besideOf_94 : decode cX12_besideOf 94 = .ok (.iload_n 3, 1) := by decide +kernel
theorem dX12_besideOf_95 : decode cX12_besideOf 95 = .ok (.invokevirtual 365, 3) := by decide +kernel
theorem dX12_besideOf_98 : decode cX12_besideOf 98 = .ok (.invokevirtual 362, 3) := by decide +kernel
theorem dX12_besideOf_101 : decode cX12_besideOf 101 = .ok (.istore 6, 2) := by decide +kernel
theorem dX12_besideOf_103 : decode cX12_besideOf 103 = .ok (.iload 5, 2) := by decide +kernel
theorem dX12_besideOf_105 : decode cX12_besideOf 105 = .ok (.ifCond .eq 22, 3) := by decide +kernel
theorem dX12_besideOf_108 : decode cX12_besideOf 108 = .ok (.aload_n 0, 1) := by decide +kernel
theorem dX12_besideOf_109 : decode cX12_besideOf 109 = .ok (.getfield 34, 3) := by decide +kernel
theorem dX12_besideOf_112 : decode cX12_besideOf 112 = .ok (.iconst 3, 1) := by decide +kernel
theorem dX12_besideOf_113 : decode cX12_besideOf 113 = .ok (.iload_n 1, 1) := by decide +kernel
theorem dX12_besideOf_114 : decode cX12_besideOf 114 = .ok (.imul, 1) := by decide +kernel
theorem dX12_besideOf_115 : decode cX12_besideOf 115 = .ok (.iload 6, 2) := by decide +kernel
theorem dX12_besideOf_117 : decode cX12_besideOf 117 = .ok (.iadd, 1) := by decide +kernel
theorem dX12_besideOf_118 : decode cX12_besideOf 118 = .ok (.iaload, 1) := by decide +kernel
theorem dX12_besideOf_119 : decode cX12_besideOf 119 = .ok (.ifCond .le 8, 3) := by decide +kernel
theorem dX12_besideOf_122 : decode cX12_besideOf 122 = .ok (.iload 6, 2) := by decide +kernel
theorem dX12_besideOf_124 : decode cX12_besideOf 124 = .ok (.goto 4, 3) := by decide +kernel
theorem dX12_besideOf_127 : decode cX12_besideOf 127 = .ok (.iconst (-1), 1) := by decide +kernel
theorem dX12_besideOf_128 : decode cX12_besideOf 128 = .ok (.ireturn, 1) := by decide +kernel
theorem dX12_first_0 : decode cX12_first 0 = .ok (.aload_n 0, 1) := by decide +kernel
theorem dX12_first_1 : decode cX12_first 1 = .ok (.iload_n 1, 1) := by decide +kernel
theorem dX12_first_2 : decode cX12_first 2 = .ok (.invokevirtual 147, 3) := by decide +kernel
theorem dX12_first_5 : decode cX12_first 5 = .ok (.ifCond .eq 17, 3) := by decide +kernel
theorem dX12_first_8 : decode cX12_first 8 = .ok (.iload_n 2, 1) := by decide +kernel
theorem dX12_first_9 : decode cX12_first 9 = .ok (.invokestatic 160, 3) := by decide +kernel
theorem dX12_first_12 : decode cX12_first 12 = .ok (.ifCond .eq 10, 3) := by decide +kernel
theorem dX12_first_15 : decode cX12_first 15 = .ok (.iload_n 3, 1) := by decide +kernel
theorem dX12_first_16 : decode cX12_first 16 = .ok (.invokestatic 160, 3) := by decide +kernel
theorem dX12_first_19 : decode cX12_first 19 = .ok (.ifCond .ne 6, 3) := by decide +kernel
theorem dX12_first_22 : decode cX12_first 22 = .ok (.bipush (-2), 2) := by decide +kernel
theorem dX12_first_24 : decode cX12_first 24 = .ok (.ireturn, 1) := by decide +kernel
theorem dX12_first_25 : decode cX12_first 25 = .ok (.iload_n 2, 1) := by decide +kernel
theorem dX12_first_26 : decode cX12_first 26 = .ok (.iload_n 3, 1) := by decide +kernel
theorem dX12_first_27 : decode cX12_first 27 = .ok (.invokestatic 163, 3) := by decide +kernel
theorem dX12_first_30 : decode cX12_first 30 = .ok (.istore 4, 2) := by decide +kernel
theorem dX12_first_32 : decode cX12_first 32 = .ok (.aload_n 0, 1) := by decide +kernel
theorem dX12_first_33 : decode cX12_first 33 = .ok (.iload 4, 2) := by decide +kernel
theorem dX12_first_35 : decode cX12_first 35 = .ok (.invokevirtual 151, 3) := by decide +kernel
theorem dX12_first_38 : decode cX12_first 38 = .ok (.aload_n 0, 1) := by decide +kernel
theorem dX12_first_39 : decode cX12_first 39 = .ok (.iload_n 1, 1) := by decide +kernel
theorem dX12_first_40 : decode cX12_first 40 = .ok (.iload 4, 2) := by decide +kernel
theorem dX12_first_42 : decode cX12_first 42 = .ok (.iload_n 2, 1) := by decide +kernel
theorem dX12_first_43 : decode cX12_first 43 = .ok (.invokevirtual 365, 3) := by decide +kernel
theorem dX12_first_46 : decode cX12_first 46 = .ok (.ireturn, 1) := by decide +kernel
theorem dX12_beside_0 : decode cX12_beside 0 = .ok (.aload_n 0, 1) := by decide +kernel
theorem dX12_beside_1 : decode cX12_beside 1 = .ok (.iload_n 1, 1) := by decide +kernel
theorem dX12_beside_2 : decode cX12_beside 2 = .ok (.invokevirtual 147, 3) := by decide +kernel
theorem dX12_beside_5 : decode cX12_beside 5 = .ok (.ifCond .eq 17, 3) := by decide +kernel
theorem dX12_beside_8 : decode cX12_beside 8 = .ok (.iload_n 2, 1) := by decide +kernel
theorem dX12_beside_9 : decode cX12_beside 9 = .ok (.invokestatic 160, 3) := by decide +kernel
theorem dX12_beside_12 : decode cX12_beside 12 = .ok (.ifCond .eq 10, 3) := by decide +kernel
theorem dX12_beside_15 : decode cX12_beside 15 = .ok (.iload_n 3, 1) := by decide +kernel
theorem dX12_beside_16 : decode cX12_beside 16 = .ok (.invokestatic 160, 3) := by decide +kernel
theorem dX12_beside_19 : decode cX12_beside 19 = .ok (.ifCond .ne 6, 3) := by decide +kernel
theorem dX12_beside_22 : decode cX12_beside 22 = .ok (.bipush (-2), 2) := by decide +kernel
theorem dX12_beside_24 : decode cX12_beside 24 = .ok (.ireturn, 1) := by decide +kernel
theorem dX12_beside_25 : decode cX12_beside 25 = .ok (.iload_n 2, 1) := by decide +kernel
theorem dX12_beside_26 : decode cX12_beside 26 = .ok (.iload_n 3, 1) := by decide +kernel
theorem dX12_beside_27 : decode cX12_beside 27 = .ok (.invokestatic 163, 3) := by decide +kernel
theorem dX12_beside_30 : decode cX12_beside 30 = .ok (.istore 4, 2) := by decide +kernel
theorem dX12_beside_32 : decode cX12_beside 32 = .ok (.aload_n 0, 1) := by decide +kernel
theorem dX12_beside_33 : decode cX12_beside 33 = .ok (.iload 4, 2) := by decide +kernel
theorem dX12_beside_35 : decode cX12_beside 35 = .ok (.invokevirtual 151, 3) := by decide +kernel
theorem dX12_beside_38 : decode cX12_beside 38 = .ok (.aload_n 0, 1) := by decide +kernel
theorem dX12_beside_39 : decode cX12_beside 39 = .ok (.iload_n 1, 1) := by decide +kernel
theorem dX12_beside_40 : decode cX12_beside 40 = .ok (.iload 4, 2) := by decide +kernel
theorem dX12_beside_42 : decode cX12_beside 42 = .ok (.iload_n 2, 1) := by decide +kernel
theorem dX12_beside_43 : decode cX12_beside 43 = .ok (.invokevirtual 368, 3) := by decide +kernel
theorem dX12_beside_46 : decode cX12_beside 46 = .ok (.ireturn, 1) := by decide +kernel
theorem dX12_swings_0 : decode cX12_swings 0 = .ok (.aload_n 0, 1) := by decide +kernel
theorem dX12_swings_1 : decode cX12_swings 1 = .ok (.iload_n 1, 1) := by decide +kernel
theorem dX12_swings_2 : decode cX12_swings 2 = .ok (.invokevirtual 147, 3) := by decide +kernel
theorem dX12_swings_5 : decode cX12_swings 5 = .ok (.ifCond .ne 6, 3) := by decide +kernel
theorem dX12_swings_8 : decode cX12_swings 8 = .ok (.bipush (-2), 2) := by decide +kernel
theorem dX12_swings_10 : decode cX12_swings 10 = .ok (.ireturn, 1) := by decide +kernel
theorem dX12_swings_11 : decode cX12_swings 11 = .ok (.aload_n 0, 1) := by decide +kernel
theorem dX12_swings_12 : decode cX12_swings 12 = .ok (.aload_n 0, 1) := by decide +kernel
theorem dX12_swings_13 : decode cX12_swings 13 = .ok (.invokevirtual 138, 3) := by decide +kernel
theorem dX12_swings_16 : decode cX12_swings 16 = .ok (.invokevirtual 151, 3) := by decide +kernel
theorem dX12_swings_19 : decode cX12_swings 19 = .ok (.aload_n 0, 1) := by decide +kernel
theorem dX12_swings_20 : decode cX12_swings 20 = .ok (.iload_n 1, 1) := by decide +kernel
theorem dX12_swings_21 : decode cX12_swings 21 = .ok (.aload_n 0, 1) := by decide +kernel
theorem dX12_swings_22 : decode cX12_swings 22 = .ok (.invokevirtual 138, 3) := by decide +kernel
theorem dX12_swings_25 : decode cX12_swings 25 = .ok (.aload_n 0, 1) := by decide +kernel
theorem dX12_swings_26 : decode cX12_swings 26 = .ok (.invokevirtual 138, 3) := by decide +kernel
theorem dX12_swings_29 : decode cX12_swings 29 = .ok (.invokevirtual 365, 3) := by decide +kernel
theorem dX12_swings_32 : decode cX12_swings 32 = .ok (.istore_n 2, 1) := by decide +kernel
theorem dX12_swings_33 : decode cX12_swings 33 = .ok (.iconst (-1), 1) := by decide +kernel
theorem dX12_swings_34 : decode cX12_swings 34 = .ok (.istore_n 3, 1) := by decide +kernel
theorem dX12_swings_35 : decode cX12_swings 35 = .ok (.iconst 0, 1) := by decide +kernel
theorem dX12_swings_36 : decode cX12_swings 36 = .ok (.istore 4, 2) := by decide +kernel
theorem dX12_swings_38 : decode cX12_swings 38 = .ok (.iload 4, 2) := by decide +kernel
theorem dX12_swings_40 : decode cX12_swings 40 = .ok (.iconst 3, 1) := by decide +kernel
theorem dX12_swings_41 : decode cX12_swings 41 = .ok (.if_icmp .ge 174, 3) := by decide +kernel
theorem dX12_swings_44 : decode cX12_swings 44 = .ok (.iconst 0, 1) := by decide +kernel
theorem dX12_swings_45 : decode cX12_swings 45 = .ok (.istore 5, 2) := by decide +kernel
theorem dX12_swings_47 : decode cX12_swings 47 = .ok (.iload 5, 2) := by decide +kernel
theorem dX12_swings_49 : decode cX12_swings 49 = .ok (.iconst 3, 1) := by decide +kernel
theorem dX12_swings_50 : decode cX12_swings 50 = .ok (.if_icmp .ge 159, 3) := by decide +kernel
theorem dX12_swings_53 : decode cX12_swings 53 = .ok (.iload 4, 2) := by decide +kernel
theorem dX12_swings_55 : decode cX12_swings 55 = .ok (.iload 5, 2) := by decide +kernel
theorem dX12_swings_57 : decode cX12_swings 57 = .ok (.if_icmp .ne 6, 3) := by decide +kernel
theorem dX12_swings_60 : decode cX12_swings 60 = .ok (.goto 143, 3) := by decide +kernel
theorem dX12_swings_63 : decode cX12_swings 63 = .ok (.aload_n 0, 1) := by decide +kernel
theorem dX12_swings_64 : decode cX12_swings 64 = .ok (.getfield 34, 3) := by decide +kernel
theorem dX12_swings_67 : decode cX12_swings 67 = .ok (.iconst 3, 1) := by decide +kernel
theorem dX12_swings_68 : decode cX12_swings 68 = .ok (.iload_n 1, 1) := by decide +kernel
theorem dX12_swings_69 : decode cX12_swings 69 = .ok (.imul, 1) := by decide +kernel
theorem dX12_swings_70 : decode cX12_swings 70 = .ok (.iload 4, 2) := by decide +kernel
theorem dX12_swings_72 : decode cX12_swings 72 = .ok (.iadd, 1) := by decide +kernel
theorem dX12_swings_73 : decode cX12_swings 73 = .ok (.iaload, 1) := by decide +kernel
theorem dX12_swings_74 : decode cX12_swings 74 = .ok (.istore 6, 2) := by decide +kernel
theorem dX12_swings_76 : decode cX12_swings 76 = .ok (.aload_n 0, 1) := by decide +kernel
theorem dX12_swings_77 : decode cX12_swings 77 = .ok (.getfield 34, 3) := by decide +kernel
theorem dX12_swings_80 : decode cX12_swings 80 = .ok (.iconst 3, 1) := by decide +kernel
theorem dX12_swings_81 : decode cX12_swings 81 = .ok (.iload_n 1, 1) := by decide +kernel
theorem dX12_swings_82 : decode cX12_swings 82 = .ok (.imul, 1) := by decide +kernel
theorem dX12_swings_83 : decode cX12_swings 83 = .ok (.iload 5, 2) := by decide +kernel
theorem dX12_swings_85 : decode cX12_swings 85 = .ok (.iadd, 1) := by decide +kernel
theorem dX12_swings_86 : decode cX12_swings 86 = .ok (.iaload, 1) := by decide +kernel
theorem dX12_swings_87 : decode cX12_swings 87 = .ok (.istore 7, 2) := by decide +kernel
theorem dX12_swings_89 : decode cX12_swings 89 = .ok (.iconst 1, 1) := by decide +kernel
theorem dX12_swings_90 : decode cX12_swings 90 = .ok (.istore 8, 2) := by decide +kernel
theorem dX12_swings_92 : decode cX12_swings 92 = .ok (.iload 8, 2) := by decide +kernel
theorem dX12_swings_94 : decode cX12_swings 94 = .ok (.aload_n 0, 1) := by decide +kernel
theorem dX12_swings_95 : decode cX12_swings 95 = .ok (.getfield 31, 3) := by decide +kernel
theorem dX12_swings_98 : decode cX12_swings 98 = .ok (.iconst 3, 1) := by decide +kernel
theorem dX12_swings_99 : decode cX12_swings 99 = .ok (.iload_n 1, 1) := by decide +kernel
theorem dX12_swings_100 : decode cX12_swings 100 = .ok (.imul, 1) := by decide +kernel
theorem dX12_swings_101 : decode cX12_swings 101 = .ok (.iload 4, 2) := by decide +kernel
theorem dX12_swings_103 : decode cX12_swings 103 = .ok (.iadd, 1) := by decide +kernel
theorem dX12_swings_104 : decode cX12_swings 104 = .ok (.iaload, 1) := by decide +kernel
theorem dX12_swings_105 : decode cX12_swings 105 = .ok (.if_icmp .gt 72, 3) := by decide +kernel
theorem dX12_swings_108 : decode cX12_swings 108 = .ok (.iload_n 3, 1) := by decide +kernel
theorem dX12_swings_109 : decode cX12_swings 109 = .ok (.iconst (-1), 1) := by decide +kernel
theorem dX12_swings_110 : decode cX12_swings 110 = .ok (.if_icmp .eq 9, 3) := by decide +kernel
theorem dX12_swings_113 : decode cX12_swings 113 = .ok (.iload 8, 2) := by decide +kernel
theorem dX12_swings_115 : decode cX12_swings 115 = .ok (.iload_n 3, 1) := by decide +kernel
theorem dX12_swings_116 : decode cX12_swings 116 = .ok (.if_icmp .ge 61, 3) := by decide +kernel
theorem dX12_swings_119 : decode cX12_swings 119 = .ok (.aload_n 0, 1) := by decide +kernel
theorem dX12_swings_120 : decode cX12_swings 120 = .ok (.getfield 34, 3) := by decide +kernel
theorem dX12_swings_123 : decode cX12_swings 123 = .ok (.iconst 3, 1) := by decide +kernel
theorem dX12_swings_124 : decode cX12_swings 124 = .ok (.iload_n 1, 1) := by decide +kernel
theorem dX12_swings_125 : decode cX12_swings 125 = .ok (.imul, 1) := by decide +kernel
theorem dX12_swings_126 : decode cX12_swings 126 = .ok (.iload 4, 2) := by decide +kernel
theorem dX12_swings_128 : decode cX12_swings 128 = .ok (.iadd, 1) := by decide +kernel
theorem dX12_swings_129 : decode cX12_swings 129 = .ok (.iload 6, 2) := by decide +kernel
theorem dX12_swings_131 : decode cX12_swings 131 = .ok (.iload 8, 2) := by decide +kernel
theorem dX12_swings_133 : decode cX12_swings 133 = .ok (.isub, 1) := by decide +kernel
theorem dX12_swings_134 : decode cX12_swings 134 = .ok (.iastore, 1) := by decide +kernel
theorem dX12_swings_135 : decode cX12_swings 135 = .ok (.aload_n 0, 1) := by decide +kernel
theorem dX12_swings_136 : decode cX12_swings 136 = .ok (.getfield 34, 3) := by decide +kernel
theorem dX12_swings_139 : decode cX12_swings 139 = .ok (.iconst 3, 1) := by decide +kernel
theorem dX12_swings_140 : decode cX12_swings 140 = .ok (.iload_n 1, 1) := by decide +kernel
theorem dX12_swings_141 : decode cX12_swings 141 = .ok (.imul, 1) := by decide +kernel
theorem dX12_swings_142 : decode cX12_swings 142 = .ok (.iload 5, 2) := by decide +kernel
theorem dX12_swings_144 : decode cX12_swings 144 = .ok (.iadd, 1) := by decide +kernel
theorem dX12_swings_145 : decode cX12_swings 145 = .ok (.iload 7, 2) := by decide +kernel
theorem dX12_swings_147 : decode cX12_swings 147 = .ok (.iload 8, 2) := by decide +kernel
theorem dX12_swings_149 : decode cX12_swings 149 = .ok (.iadd, 1) := by decide +kernel
theorem dX12_swings_150 : decode cX12_swings 150 = .ok (.iastore, 1) := by decide +kernel
theorem dX12_swings_151 : decode cX12_swings 151 = .ok (.aload_n 0, 1) := by decide +kernel
theorem dX12_swings_152 : decode cX12_swings 152 = .ok (.iload_n 1, 1) := by decide +kernel
theorem dX12_swings_153 : decode cX12_swings 153 = .ok (.aload_n 0, 1) := by decide +kernel
theorem dX12_swings_154 : decode cX12_swings 154 = .ok (.invokevirtual 138, 3) := by decide +kernel
theorem dX12_swings_157 : decode cX12_swings 157 = .ok (.aload_n 0, 1) := by decide +kernel
theorem dX12_swings_158 : decode cX12_swings 158 = .ok (.invokevirtual 138, 3) := by decide +kernel
theorem dX12_swings_161 : decode cX12_swings 161 = .ok (.invokevirtual 365, 3) := by decide +kernel
theorem dX12_swings_164 : decode cX12_swings 164 = .ok (.iload_n 2, 1) := by decide +kernel
theorem dX12_swings_165 : decode cX12_swings 165 = .ok (.if_icmp .eq 6, 3) := by decide +kernel
theorem dX12_swings_168 : decode cX12_swings 168 = .ok (.iload 8, 2) := by decide +kernel
theorem dX12_swings_170 : decode cX12_swings 170 = .ok (.istore_n 3, 1) := by decide +kernel
theorem dX12_swings_171 : decode cX12_swings 171 = .ok (.iinc 8 1, 3) := by decide +kernel
theorem dX12_swings_174 : decode cX12_swings 174 = .ok (.goto (-82), 3) := by decide +kernel
theorem dX12_swings_177 : decode cX12_swings 177 = .ok (.aload_n 0, 1) := by decide +kernel
theorem dX12_swings_178 : decode cX12_swings 178 = .ok (.getfield 34, 3) := by decide +kernel
theorem dX12_swings_181 : decode cX12_swings 181 = .ok (.iconst 3, 1) := by decide +kernel
theorem dX12_swings_182 : decode cX12_swings 182 = .ok (.iload_n 1, 1) := by decide +kernel
theorem dX12_swings_183 : decode cX12_swings 183 = .ok (.imul, 1) := by decide +kernel
theorem dX12_swings_184 : decode cX12_swings 184 = .ok (.iload 4, 2) := by decide +kernel
theorem dX12_swings_186 : decode cX12_swings 186 = .ok (.iadd, 1) := by decide +kernel
theorem dX12_swings_187 : decode cX12_swings 187 = .ok (.iload 6, 2) := by decide +kernel
theorem dX12_swings_189 : decode cX12_swings 189 = .ok (.iastore, 1) := by decide +kernel
theorem dX12_swings_190 : decode cX12_swings 190 = .ok (.aload_n 0, 1) := by decide +kernel
theorem dX12_swings_191 : decode cX12_swings 191 = .ok (.getfield 34, 3) := by decide +kernel
theorem dX12_swings_194 : decode cX12_swings 194 = .ok (.iconst 3, 1) := by decide +kernel
theorem dX12_swings_195 : decode cX12_swings 195 = .ok (.iload_n 1, 1) := by decide +kernel
theorem dX12_swings_196 : decode cX12_swings 196 = .ok (.imul, 1) := by decide +kernel
theorem dX12_swings_197 : decode cX12_swings 197 = .ok (.iload 5, 2) := by decide +kernel
theorem dX12_swings_199 : decode cX12_swings 199 = .ok (.iadd, 1) := by decide +kernel
theorem dX12_swings_200 : decode cX12_swings 200 = .ok (.iload 7, 2) := by decide +kernel
theorem dX12_swings_202 : decode cX12_swings 202 = .ok (.iastore, 1) := by decide +kernel
theorem dX12_swings_203 : decode cX12_swings 203 = .ok (.iinc 5 1, 3) := by decide +kernel
theorem dX12_swings_206 : decode cX12_swings 206 = .ok (.goto (-159), 3) := by decide +kernel
theorem dX12_swings_209 : decode cX12_swings 209 = .ok (.iinc 4 1, 3) := by decide +kernel
theorem dX12_swings_212 : decode cX12_swings 212 = .ok (.goto (-174), 3) := by decide +kernel
theorem dX12_swings_215 : decode cX12_swings 215 = .ok (.iload_n 3, 1) := by decide +kernel
theorem dX12_swings_216 : decode cX12_swings 216 = .ok (.ireturn, 1) := by decide +kernel
theorem dX12_isHearing_0 : decode cX12_isHearing 0 = .ok (.iload_n 1, 1) := by decide +kernel
theorem dX12_isHearing_1 : decode cX12_isHearing 1 = .ok (.i2l, 1) := by decide +kernel
theorem dX12_isHearing_2 : decode cX12_isHearing 2 = .ok (.lconst 0, 1) := by decide +kernel
theorem dX12_isHearing_3 : decode cX12_isHearing 3 = .ok (.aload_n 0, 1) := by decide +kernel
theorem dX12_isHearing_4 : decode cX12_isHearing 4 = .ok (.getfield 9, 3) := by decide +kernel
theorem dX12_isHearing_7 : decode cX12_isHearing 7 = .ok (.iconst 5, 1) := by decide +kernel
theorem dX12_isHearing_8 : decode cX12_isHearing 8 = .ok (.iaload, 1) := by decide +kernel
theorem dX12_isHearing_9 : decode cX12_isHearing 9 = .ok (.iconst 1, 1) := by decide +kernel
theorem dX12_isHearing_10 : decode cX12_isHearing 10 = .ok (.isub, 1) := by decide +kernel
theorem dX12_isHearing_11 : decode cX12_isHearing 11 = .ok (.i2l, 1) := by decide +kernel
theorem dX12_isHearing_12 : decode cX12_isHearing 12 = .ok (.invokestatic 125, 3) := by decide +kernel
theorem dX12_isHearing_15 : decode cX12_isHearing 15 = .ok (.ireturn, 1) := by decide +kernel
theorem dX12_hearing_0 : decode cX12_hearing 0 = .ok (.sipush 6030, 3) := by decide +kernel
theorem dX12_hearing_3 : decode cX12_hearing 3 = .ok (.bipush 11, 2) := by decide +kernel
theorem dX12_hearing_5 : decode cX12_hearing 5 = .ok (.iload_n 1, 1) := by decide +kernel
theorem dX12_hearing_6 : decode cX12_hearing 6 = .ok (.imul, 1) := by decide +kernel
theorem dX12_hearing_7 : decode cX12_hearing 7 = .ok (.iadd, 1) := by decide +kernel
theorem dX12_hearing_8 : decode cX12_hearing 8 = .ok (.ireturn, 1) := by decide +kernel
theorem dX12_ask_0 : decode cX12_ask 0 = .ok (.aload_n 0, 1) := by decide +kernel
theorem dX12_ask_1 : decode cX12_ask 1 = .ok (.iload_n 1, 1) := by decide +kernel
theorem dX12_ask_2 : decode cX12_ask 2 = .ok (.invokevirtual 282, 3) := by decide +kernel
theorem dX12_ask_5 : decode cX12_ask 5 = .ok (.ifCond .ne 6, 3) := by decide +kernel
theorem dX12_ask_8 : decode cX12_ask 8 = .ok (.bipush (-2), 2) := by decide +kernel
theorem dX12_ask_10 : decode cX12_ask 10 = .ok (.ireturn, 1) := by decide +kernel
theorem dX12_ask_11 : decode cX12_ask 11 = .ok (.aload_n 0, 1) := by decide +kernel
theorem dX12_ask_12 : decode cX12_ask 12 = .ok (.getfield 9, 3) := by decide +kernel
theorem dX12_ask_15 : decode cX12_ask 15 = .ok (.iconst 5, 1) := by decide +kernel
theorem dX12_ask_16 : decode cX12_ask 16 = .ok (.iaload, 1) := by decide +kernel
theorem dX12_ask_17 : decode cX12_ask 17 = .ok (.istore_n 2, 1) := by decide +kernel
theorem dX12_ask_18 : decode cX12_ask 18 = .ok (.iload_n 2, 1) := by decide +kernel
theorem dX12_ask_19 : decode cX12_ask 19 = .ok (.bipush 60, 2) := by decide +kernel
theorem dX12_ask_21 : decode cX12_ask 21 = .ok (.if_icmp .ne 6, 3) := by decide +kernel
theorem dX12_ask_24 : decode cX12_ask 24 = .ok (.bipush (-3), 2) := by decide +kernel
theorem dX12_ask_26 : decode cX12_ask 26 = .ok (.ireturn, 1) := by decide +kernel
theorem dX12_ask_27 : decode cX12_ask 27 = .ok (.iconst 0, 1) := by decide +kernel
theorem dX12_ask_28 : decode cX12_ask 28 = .ok (.istore_n 3, 1) := by decide +kernel
theorem dX12_ask_29 : decode cX12_ask 29 = .ok (.iload_n 3, 1) := by decide +kernel
theorem dX12_ask_30 : decode cX12_ask 30 = .ok (.iload_n 2, 1) := by decide +kernel
theorem dX12_ask_31 : decode cX12_ask 31 = .ok (.if_icmp .ge 52, 3) := by decide +kernel
theorem dX12_ask_34 : decode cX12_ask 34 = .ok (.aload_n 0, 1) := by decide +kernel
theorem dX12_ask_35 : decode cX12_ask 35 = .ok (.getfield 9, 3) := by decide +kernel
theorem dX12_ask_38 : decode cX12_ask 38 = .ok (.aload_n 0, 1) := by decide +kernel
theorem dX12_ask_39 : decode cX12_ask 39 = .ok (.iload_n 3, 1) := by decide +kernel
theorem dX12_ask_40 : decode cX12_ask 40 = .ok (.invokevirtual 371, 3) := by decide +kernel
theorem dX12_ask_43 : decode cX12_ask 43 = .ok (.iconst 1, 1) := by decide +kernel
theorem dX12_ask_44 : decode cX12_ask 44 = .ok (.iadd, 1) := by decide +kernel
theorem dX12_ask_45 : decode cX12_ask 45 = .ok (.iaload, 1) := by decide +kernel
theorem dX12_ask_46 : decode cX12_ask 46 = .ok (.iconst 1, 1) := by decide +kernel
theorem dX12_ask_47 : decode cX12_ask 47 = .ok (.if_icmp .ne 30, 3) := by decide +kernel
theorem dX12_ask_50 : decode cX12_ask 50 = .ok (.aload_n 0, 1) := by decide +kernel
theorem dX12_ask_51 : decode cX12_ask 51 = .ok (.aload_n 0, 1) := by decide +kernel
theorem dX12_ask_52 : decode cX12_ask 52 = .ok (.getfield 9, 3) := by decide +kernel
theorem dX12_ask_55 : decode cX12_ask 55 = .ok (.aload_n 0, 1) := by decide +kernel
theorem dX12_ask_56 : decode cX12_ask 56 = .ok (.iload_n 3, 1) := by decide +kernel
theorem dX12_ask_57 : decode cX12_ask 57 = .ok (.invokevirtual 371, 3) := by decide +kernel
theorem dX12_ask_60 : decode cX12_ask 60 = .ok (.iaload, 1) := by decide +kernel
theorem dX12_ask_61 : decode cX12_ask 61 = .ok (.iconst 0, 1) := by decide +kernel
theorem dX12_ask_62 : decode cX12_ask 62 = .ok (.invokevirtual 265, 3) := by decide +kernel
theorem dX12_ask_65 : decode cX12_ask 65 = .ok (.aload_n 0, 1) := by decide +kernel
theorem dX12_ask_66 : decode cX12_ask 66 = .ok (.iload_n 1, 1) := by decide +kernel
theorem dX12_ask_67 : decode cX12_ask 67 = .ok (.iconst 0, 1) := by decide +kernel
theorem dX12_ask_68 : decode cX12_ask 68 = .ok (.invokevirtual 265, 3) := by decide +kernel
theorem dX12_ask_71 : decode cX12_ask 71 = .ok (.if_icmp .ne 6, 3) := by decide +kernel
theorem dX12_ask_74 : decode cX12_ask 74 = .ok (.bipush (-5), 2) := by decide +kernel
theorem dX12_ask_76 : decode cX12_ask 76 = .ok (.ireturn, 1) := by decide +kernel
theorem dX12_ask_77 : decode cX12_ask 77 = .ok (.iinc 3 1, 3) := by decide +kernel
theorem dX12_ask_80 : decode cX12_ask 80 = .ok (.goto (-51), 3) := by decide +kernel
theorem dX12_ask_83 : decode cX12_ask 83 = .ok (.aload_n 0, 1) := by decide +kernel
theorem dX12_ask_84 : decode cX12_ask 84 = .ok (.getfield 9, 3) := by decide +kernel
theorem dX12_ask_87 : decode cX12_ask 87 = .ok (.aload_n 0, 1) := by decide +kernel
theorem dX12_ask_88 : decode cX12_ask 88 = .ok (.iload_n 2, 1) := by decide +kernel
theorem dX12_ask_89 : decode cX12_ask 89 = .ok (.invokevirtual 371, 3) := by decide +kernel
theorem dX12_ask_92 : decode cX12_ask 92 = .ok (.iload_n 1, 1) := by decide +kernel
theorem dX12_ask_93 : decode cX12_ask 93 = .ok (.iastore, 1) := by decide +kernel
theorem dX12_ask_94 : decode cX12_ask 94 = .ok (.aload_n 0, 1) := by decide +kernel
theorem dX12_ask_95 : decode cX12_ask 95 = .ok (.getfield 9, 3) := by decide +kernel
theorem dX12_ask_98 : decode cX12_ask 98 = .ok (.aload_n 0, 1) := by decide +kernel
theorem dX12_ask_99 : decode cX12_ask 99 = .ok (.iload_n 2, 1) := by decide +kernel
theorem dX12_ask_100 : decode cX12_ask 100 = .ok (.invokevirtual 371, 3) := by decide +kernel
theorem dX12_ask_103 : decode cX12_ask 103 = .ok (.iconst 1, 1) := by decide +kernel
theorem dX12_ask_104 : decode cX12_ask 104 = .ok (.iadd, 1) := by decide +kernel
theorem dX12_ask_105 : decode cX12_ask 105 = .ok (.iconst 1, 1) := by decide +kernel
theorem dX12_ask_106 : decode cX12_ask 106 = .ok (.iastore, 1) := by decide +kernel
theorem dX12_ask_107 : decode cX12_ask 107 = .ok (.iconst 0, 1) := by decide +kernel
theorem dX12_ask_108 : decode cX12_ask 108 = .ok (.istore_n 3, 1) := by decide +kernel
theorem dX12_ask_109 : decode cX12_ask 109 = .ok (.iload_n 3, 1) := by decide +kernel
theorem dX12_ask_110 : decode cX12_ask 110 = .ok (.bipush 9, 2) := by decide +kernel
theorem dX12_ask_112 : decode cX12_ask 112 = .ok (.if_icmp .ge 24, 3) := by decide +kernel
theorem dX12_ask_115 : decode cX12_ask 115 = .ok (.aload_n 0, 1) := by decide +kernel
theorem dX12_ask_116 : decode cX12_ask 116 = .ok (.getfield 9, 3) := by decide +kernel
theorem dX12_ask_119 : decode cX12_ask 119 = .ok (.aload_n 0, 1) := by decide +kernel
theorem dX12_ask_120 : decode cX12_ask 120 = .ok (.iload_n 2, 1) := by decide +kernel
theorem dX12_ask_121 : decode cX12_ask 121 = .ok (.invokevirtual 371, 3) := by decide +kernel
theorem dX12_ask_124 : decode cX12_ask 124 = .ok (.iconst 2, 1) := by decide +kernel
theorem dX12_ask_125 : decode cX12_ask 125 = .ok (.iadd, 1) := by decide +kernel
theorem dX12_ask_126 : decode cX12_ask 126 = .ok (.iload_n 3, 1) := by decide +kernel
theorem dX12_ask_127 : decode cX12_ask 127 = .ok (.iadd, 1) := by decide +kernel
theorem dX12_ask_128 : decode cX12_ask 128 = .ok (.iconst 0, 1) := by decide +kernel
theorem dX12_ask_129 : decode cX12_ask 129 = .ok (.iastore, 1) := by decide +kernel
theorem dX12_ask_130 : decode cX12_ask 130 = .ok (.iinc 3 1, 3) := by decide +kernel
theorem dX12_ask_133 : decode cX12_ask 133 = .ok (.goto (-24), 3) := by decide +kernel
theorem dX12_ask_136 : decode cX12_ask 136 = .ok (.aload_n 0, 1) := by decide +kernel
theorem dX12_ask_137 : decode cX12_ask 137 = .ok (.getfield 9, 3) := by decide +kernel
theorem dX12_ask_140 : decode cX12_ask 140 = .ok (.iconst 5, 1) := by decide +kernel
theorem dX12_ask_141 : decode cX12_ask 141 = .ok (.dup2, 1) := by decide +kernel
theorem dX12_ask_142 : decode cX12_ask 142 = .ok (.iaload, 1) := by decide +kernel
theorem dX12_ask_143 : decode cX12_ask 143 = .ok (.iconst 1, 1) := by decide +kernel
theorem dX12_ask_144 : decode cX12_ask 144 = .ok (.iadd, 1) := by decide +kernel
theorem dX12_ask_145 : decode cX12_ask 145 = .ok (.iastore, 1) := by decide +kernel
theorem dX12_ask_146 : decode cX12_ask 146 = .ok (.iload_n 2, 1) := by decide +kernel
theorem dX12_ask_147 : decode cX12_ask 147 = .ok (.ireturn, 1) := by decide +kernel
theorem dX12_vote_0 : decode cX12_vote 0 = .ok (.aload_n 0, 1) := by decide +kernel
theorem dX12_vote_1 : decode cX12_vote 1 = .ok (.iload_n 1, 1) := by decide +kernel
theorem dX12_vote_2 : decode cX12_vote 2 = .ok (.invokevirtual 374, 3) := by decide +kernel
theorem dX12_vote_5 : decode cX12_vote 5 = .ok (.ifCond .eq 15, 3) := by decide +kernel
theorem dX12_vote_8 : decode cX12_vote 8 = .ok (.iload_n 2, 1) := by decide +kernel
theorem dX12_vote_9 : decode cX12_vote 9 = .ok (.i2l, 1) := by decide +kernel
theorem dX12_vote_10 : decode cX12_vote 10 = .ok (.lconst 0, 1) := by decide +kernel
theorem dX12_vote_11 : decode cX12_vote 11 = .ok (.ldc2_w 377, 3) := by decide +kernel
theorem dX12_vote_14 : decode cX12_vote 14 = .ok (.invokestatic 125, 3) := by decide +kernel
theorem dX12_vote_17 : decode cX12_vote 17 = .ok (.ifCond .ne 6, 3) := by decide +kernel
theorem dX12_vote_20 : decode cX12_vote 20 = .ok (.bipush (-2), 2) := by decide +kernel
theorem dX12_vote_22 : decode cX12_vote 22 = .ok (.ireturn, 1) := by decide +kernel
theorem dX12_vote_23 : decode cX12_vote 23 = .ok (.aload_n 0, 1) := by decide +kernel
theorem dX12_vote_24 : decode cX12_vote 24 = .ok (.getfield 9, 3) := by decide +kernel
theorem dX12_vote_27 : decode cX12_vote 27 = .ok (.aload_n 0, 1) := by decide +kernel
theorem dX12_vote_28 : decode cX12_vote 28 = .ok (.iload_n 1, 1) := by decide +kernel
theorem dX12_vote_29 : decode cX12_vote 29 = .ok (.invokevirtual 371, 3) := by decide +kernel
theorem dX12_vote_32 : decode cX12_vote 32 = .ok (.iconst 1, 1) := by decide +kernel
theorem dX12_vote_33 : decode cX12_vote 33 = .ok (.iadd, 1) := by decide +kernel
theorem dX12_vote_34 : decode cX12_vote 34 = .ok (.iaload, 1) := by decide +kernel
theorem dX12_vote_35 : decode cX12_vote 35 = .ok (.ifCond .ne 6, 3) := by decide +kernel
theorem dX12_vote_38 : decode cX12_vote 38 = .ok (.bipush (-5), 2) := by decide +kernel
theorem dX12_vote_40 : decode cX12_vote 40 = .ok (.ireturn, 1) := by decide +kernel
theorem dX12_vote_41 : decode cX12_vote 41 = .ok (.aload_n 0, 1) := by decide +kernel
theorem dX12_vote_42 : decode cX12_vote 42 = .ok (.getfield 9, 3) := by decide +kernel
theorem dX12_vote_45 : decode cX12_vote 45 = .ok (.aload_n 0, 1) := by decide +kernel
theorem dX12_vote_46 : decode cX12_vote 46 = .ok (.iload_n 1, 1) := by decide +kernel
theorem dX12_vote_47 : decode cX12_vote 47 = .ok (.invokevirtual 371, 3) := by decide +kernel
theorem dX12_vote_50 : decode cX12_vote 50 = .ok (.iconst 2, 1) := by decide +kernel
theorem dX12_vote_51 : decode cX12_vote 51 = .ok (.iadd, 1) := by decide +kernel
theorem dX12_vote_52 : decode cX12_vote 52 = .ok (.iload_n 2, 1) := by decide +kernel
theorem dX12_vote_53 : decode cX12_vote 53 = .ok (.iadd, 1) := by decide +kernel
theorem dX12_vote_54 : decode cX12_vote 54 = .ok (.iload_n 3, 1) := by decide +kernel
theorem dX12_vote_55 : decode cX12_vote 55 = .ok (.ifCond .eq 7, 3) := by decide +kernel
theorem dX12_vote_58 : decode cX12_vote 58 = .ok (.iconst 1, 1) := by decide +kernel
theorem dX12_vote_59 : decode cX12_vote 59 = .ok (.goto 4, 3) := by decide +kernel
theorem dX12_vote_62 : decode cX12_vote 62 = .ok (.iconst 2, 1) := by decide +kernel
theorem dX12_vote_63 : decode cX12_vote 63 = .ok (.iastore, 1) := by decide +kernel
theorem dX12_vote_64 : decode cX12_vote 64 = .ok (.iconst 0, 1) := by decide +kernel
theorem dX12_vote_65 : decode cX12_vote 65 = .ok (.ireturn, 1) := by decide +kernel
theorem dX12_event_0 : decode cX12_event 0 = .ok (.sipush 9170, 3) := by decide +kernel
theorem dX12_event_3 : decode cX12_event 3 = .ok (.iconst 4, 1) := by decide +kernel
theorem dX12_event_4 : decode cX12_event 4 = .ok (.aload_n 0, 1) := by decide +kernel
theorem dX12_event_5 : decode cX12_event 5 = .ok (.getfield 9, 3) := by decide +kernel
theorem dX12_event_8 : decode cX12_event 8 = .ok (.bipush 9, 2) := by decide +kernel
theorem dX12_event_10 : decode cX12_event 10 = .ok (.iaload, 1) := by decide +kernel
theorem dX12_event_11 : decode cX12_event 11 = .ok (.imul, 1) := by decide +kernel
theorem dX12_event_12 : decode cX12_event 12 = .ok (.iadd, 1) := by decide +kernel
theorem dX12_event_13 : decode cX12_event 13 = .ok (.istore 4, 2) := by decide +kernel
theorem dX12_event_15 : decode cX12_event 15 = .ok (.aload_n 0, 1) := by decide +kernel
theorem dX12_event_16 : decode cX12_event 16 = .ok (.getfield 9, 3) := by decide +kernel
theorem dX12_event_19 : decode cX12_event 19 = .ok (.iload 4, 2) := by decide +kernel
theorem dX12_event_21 : decode cX12_event 21 = .ok (.iload_n 1, 1) := by decide +kernel
theorem dX12_event_22 : decode cX12_event 22 = .ok (.iastore, 1) := by decide +kernel
theorem dX12_event_23 : decode cX12_event 23 = .ok (.aload_n 0, 1) := by decide +kernel
theorem dX12_event_24 : decode cX12_event 24 = .ok (.getfield 9, 3) := by decide +kernel
theorem dX12_event_27 : decode cX12_event 27 = .ok (.iload 4, 2) := by decide +kernel
theorem dX12_event_29 : decode cX12_event 29 = .ok (.iconst 1, 1) := by decide +kernel
theorem dX12_event_30 : decode cX12_event 30 = .ok (.iadd, 1) := by decide +kernel
theorem dX12_event_31 : decode cX12_event 31 = .ok (.iload_n 2, 1) := by decide +kernel
theorem dX12_event_32 : decode cX12_event 32 = .ok (.iastore, 1) := by decide +kernel
theorem dX12_event_33 : decode cX12_event 33 = .ok (.aload_n 0, 1) := by decide +kernel
theorem dX12_event_34 : decode cX12_event 34 = .ok (.getfield 9, 3) := by decide +kernel
theorem dX12_event_37 : decode cX12_event 37 = .ok (.iload 4, 2) := by decide +kernel
theorem dX12_event_39 : decode cX12_event 39 = .ok (.iconst 2, 1) := by decide +kernel
theorem dX12_event_40 : decode cX12_event 40 = .ok (.iadd, 1) := by decide +kernel
theorem dX12_event_41 : decode cX12_event 41 = .ok (.iload_n 3, 1) := by decide +kernel
theorem dX12_event_42 : decode cX12_event 42 = .ok (.iastore, 1) := by decide +kernel
theorem dX12_event_43 : decode cX12_event 43 = .ok (.aload_n 0, 1) := by decide +kernel
theorem dX12_event_44 : decode cX12_event 44 = .ok (.getfield 9, 3) := by decide +kernel
theorem dX12_event_47 : decode cX12_event 47 = .ok (.iload 4, 2) := by decide +kernel
theorem dX12_event_49 : decode cX12_event 49 = .ok (.iconst 3, 1) := by decide +kernel
theorem dX12_event_50 : decode cX12_event 50 = .ok (.iadd, 1) := by decide +kernel
theorem dX12_event_51 : decode cX12_event 51 = .ok (.aload_n 0, 1) := by decide +kernel
theorem dX12_event_52 : decode cX12_event 52 = .ok (.invokevirtual 138, 3) := by decide +kernel
theorem dX12_event_55 : decode cX12_event 55 = .ok (.iastore, 1) := by decide +kernel
theorem dX12_event_56 : decode cX12_event 56 = .ok (.aload_n 0, 1) := by decide +kernel
theorem dX12_event_57 : decode cX12_event 57 = .ok (.getfield 9, 3) := by decide +kernel
theorem dX12_event_60 : decode cX12_event 60 = .ok (.bipush 9, 2) := by decide +kernel
theorem dX12_event_62 : decode cX12_event 62 = .ok (.dup2, 1) := by decide +kernel
theorem dX12_event_63 : decode cX12_event 63 = .ok (.iaload, 1) := by decide +kernel
theorem dX12_event_64 : decode cX12_event 64 = .ok (.iconst 1, 1) := by decide +kernel
theorem dX12_event_65 : decode cX12_event 65 = .ok (.iadd, 1) := by decide +kernel
theorem dX12_event_66 : decode cX12_event 66 = .ok (.iastore, 1) := by decide +kernel
theorem dX12_event_67 : decode cX12_event 67 = .ok (.return_, 1) := by decide +kernel
theorem dX12_settledOf_0 : decode cX12_settledOf 0 = .ok (.iconst 0, 1) := by decide +kernel
theorem dX12_settledOf_1 : decode cX12_settledOf 1 = .ok (.istore 4, 2) := by decide +kernel
theorem dX12_settledOf_3 : decode cX12_settledOf 3 = .ok (.sipush 9170, 3) := by decide +kernel
theorem dX12_settledOf_6 : decode cX12_settledOf 6 = .ok (.istore 5, 2) := by decide +kernel
theorem dX12_settledOf_8 : decode cX12_settledOf 8 = .ok (.iload 5, 2) := by decide +kernel
theorem dX12_settledOf_10 : decode cX12_settledOf 10 = .ok (.sipush 9170, 3) := by decide +kernel
theorem dX12_settledOf_13 : decode cX12_settledOf 13 = .ok (.iconst 4, 1) := by decide +kernel
theorem dX12_settledOf_14 : decode cX12_settledOf 14 = .ok (.aload_n 0, 1) := by decide +kernel
theorem dX12_settledOf_15 : decode cX12_settledOf 15 = .ok (.getfield 9, 3) := by decide +kernel
theorem dX12_settledOf_18 : decode cX12_settledOf 18 = .ok (.bipush 9, 2) := by decide +kernel
theorem dX12_settledOf_20 : decode cX12_settledOf 20 = .ok (.iaload, 1) := by decide +kernel
theorem dX12_settledOf_21 : decode cX12_settledOf 21 = .ok (.imul, 1) := by decide +kernel
theorem dX12_settledOf_22 : decode cX12_settledOf 22 = .ok (.iadd, 1) := by decide +kernel
theorem dX12_settledOf_23 : decode cX12_settledOf 23 = .ok (.if_icmp .ge 87, 3) := by decide +kernel
theorem dX12_settledOf_26 : decode cX12_settledOf 26 = .ok (.aload_n 0, 1) := by decide +kernel
theorem dX12_settledOf_27 : decode cX12_settledOf 27 = .ok (.getfield 9, 3) := by decide +kernel
theorem dX12_settledOf_30 : decode cX12_settledOf 30 = .ok (.iload 5, 2) := by decide +kernel
theorem dX12_settledOf_32 : decode cX12_settledOf 32 = .ok (.iaload, 1) := by decide +kernel
theorem dX12_settledOf_33 : decode cX12_settledOf 33 = .ok (.iload_n 1, 1) := by decide +kernel
theorem dX12_settledOf_34 : decode cX12_settledOf 34 = .ok (.if_icmp .ne 70, 3) := by decide +kernel
theorem dX12_settledOf_37 : decode cX12_settledOf 37 = .ok (.aload_n 0, 1) := by decide +kernel
theorem dX12_settledOf_38 : decode cX12_settledOf 38 = .ok (.getfield 9, 3) := by decide +kernel
theorem dX12_settledOf_41 : decode cX12_settledOf 41 = .ok (.iload 5, 2) := by decide +kernel
theorem dX12_settledOf_43 : decode cX12_settledOf 43 = .ok (.iconst 1, 1) := by decide +kernel
theorem dX12_settledOf_44 : decode cX12_settledOf 44 = .ok (.iadd, 1) := by decide +kernel
theorem dX12_settledOf_45 : decode cX12_settledOf 45 = .ok (.iaload, 1) := by decide +kernel
theorem dX12_settledOf_46 : decode cX12_settledOf 46 = .ok (.iload_n 2, 1) := by decide +kernel
theorem dX12_settledOf_47 : decode cX12_settledOf 47 = .ok (.if_icmp .ne 57, 3) := by decide +kernel
theorem dX12_settledOf_50 : decode cX12_settledOf 50 = .ok (.aload_n 0, 1) := by decide +kernel
theorem dX12_settledOf_51 : decode cX12_settledOf 51 = .ok (.getfield 9, 3) := by decide +kernel
theorem dX12_settledOf_54 : decode cX12_settledOf 54 = .ok (.iload 5, 2) := by decide +kernel
theorem dX12_settledOf_56 : decode cX12_settledOf 56 = .ok (.iconst 3, 1) := by decide +kernel
theorem dX12_settledOf_57 : decode cX12_settledOf 57 = .ok (.iadd, 1) := by decide +kernel
theorem dX12_settledOf_58 : decode cX12_settledOf 58 = .ok (.iaload, 1) := by decide +kernel
theorem dX12_settledOf_59 : decode cX12_settledOf 59 = .ok (.iload_n 3, 1) := by decide +kernel
theorem dX12_settledOf_60 : decode cX12_settledOf 60 = .ok (.if_icmp .le 6, 3) := by decide +kernel
theorem dX12_settledOf_63 : decode cX12_settledOf 63 = .ok (.goto 41, 3) := by decide +kernel
theorem dX12_settledOf_66 : decode cX12_settledOf 66 = .ok (.aload_n 0, 1) := by decide +kernel
theorem dX12_settledOf_67 : decode cX12_settledOf 67 = .ok (.getfield 9, 3) := by decide +kernel
theorem dX12_settledOf_70 : decode cX12_settledOf 70 = .ok (.iload 5, 2) := by decide +kernel
theorem dX12_settledOf_72 : decode cX12_settledOf 72 = .ok (.iconst 2, 1) := by decide +kernel
theorem dX12_settledOf_73 : decode cX12_settledOf 73 = .ok (.iadd, 1) := by decide +kernel
theorem dX12_settledOf_74 : decode cX12_settledOf 74 = .ok (.iaload, 1) := by decide +kernel
theorem dX12_settledOf_75 : decode cX12_settledOf 75 = .ok (.iconst (-1), 1) := by decide +kernel
theorem dX12_settledOf_76 : decode cX12_settledOf 76 = .ok (.if_icmp .ne 9, 3) := by decide +kernel
theorem dX12_settledOf_79 : decode cX12_settledOf 79 = .ok (.iinc 4 (-1), 3) := by decide +kernel
theorem dX12_settledOf_82 : decode cX12_settledOf 82 = .ok (.goto 22, 3) := by decide +kernel
theorem dX12_settledOf_85 : decode cX12_settledOf 85 = .ok (.aload_n 0, 1) := by decide +kernel
theorem dX12_settledOf_86 : decode cX12_settledOf 86 = .ok (.getfield 62, 3) := by decide +kernel
theorem dX12_settledOf_89 : decode cX12_settledOf 89 = .ok (.iload 4, 2) := by decide +kernel
theorem dX12_settledOf_91 : decode cX12_settledOf 91 = .ok (.aload_n 0, 1) := by decide +kernel
theorem dX12_settledOf_92 : decode cX12_settledOf 92 = .ok (.getfield 9, 3) := by decide +kernel
theorem dX12_settledOf_95 : decode cX12_settledOf 95 = .ok (.iload 5, 2) := by decide +kernel
theorem dX12_settledOf_97 : decode cX12_settledOf 97 = .ok (.iconst 2, 1) := by decide +kernel
theorem dX12_settledOf_98 : decode cX12_settledOf 98 = .ok (.iadd, 1) := by decide +kernel
theorem dX12_settledOf_99 : decode cX12_settledOf 99 = .ok (.iaload, 1) := by decide +kernel
theorem dX12_settledOf_100 : decode cX12_settledOf 100 = .ok (.iastore, 1) := by decide +kernel
theorem dX12_settledOf_101 : decode cX12_settledOf 101 = .ok (.iinc 4 1, 3) := by decide +kernel
theorem dX12_settledOf_104 : decode cX12_settledOf 104 = .ok (.iinc 5 4, 3) := by decide +kernel
theorem dX12_settledOf_107 : decode cX12_settledOf 107 = .ok (.goto (-99), 3) := by decide +kernel
theorem dX12_settledOf_110 : decode cX12_settledOf 110 = .ok (.iload 4, 2) := by decide +kernel
theorem dX12_settledOf_112 : decode cX12_settledOf 112 = .ok (.ifCond .ne 7, 3) := by decide +kernel
theorem dX12_settledOf_115 : decode cX12_settledOf 115 = .ok (.iconst (-1), 1) := by decide +kernel
theorem dX12_settledOf_116 : decode cX12_settledOf 116 = .ok (.goto 12, 3) := by decide +kernel
theorem dX12_settledOf_119 : decode cX12_settledOf 119 = .ok (.aload_n 0, 1) := by decide +kernel
theorem dX12_settledOf_120 : decode cX12_settledOf 120 = .ok (.getfield 62, 3) := by decide +kernel
theorem dX12_settledOf_123 : decode cX12_settledOf 123 = .ok (.iload 4, 2) := by decide +kernel
theorem dX12_settledOf_125 : decode cX12_settledOf 125 = .ok (.iconst 1, 1) := by decide +kernel
theorem dX12_settledOf_126 : decode cX12_settledOf 126 = .ok (.isub, 1) := by decide +kernel
theorem dX12_settledOf_127 : decode cX12_settledOf 127 = .ok (.iaload, 1) := by decide +kernel
theorem dX12_settledOf_128 : decode cX12_settledOf 128 = .ok (.ireturn, 1) := by decide +kernel
theorem dX12_isNear_0 : decode cX12_isNear 0 = .ok (.aload_n 0, 1) := by decide +kernel
theorem dX12_isNear_1 : decode cX12_isNear 1 = .ok (.getfield 9, 3) := by decide +kernel
theorem dX12_isNear_4 : decode cX12_isNear 4 = .ok (.bipush 10, 2) := by decide +kernel
theorem dX12_isNear_6 : decode cX12_isNear 6 = .ok (.iconst 2, 1) := by decide +kernel
theorem dX12_isNear_7 : decode cX12_isNear 7 = .ok (.iload_n 1, 1) := by decide +kernel
theorem dX12_isNear_8 : decode cX12_isNear 8 = .ok (.imul, 1) := by decide +kernel
theorem dX12_isNear_9 : decode cX12_isNear 9 = .ok (.iadd, 1) := by decide +kernel
theorem dX12_isNear_10 : decode cX12_isNear 10 = .ok (.iaload, 1) := by decide +kernel
theorem dX12_isNear_11 : decode cX12_isNear 11 = .ok (.aload_n 0, 1) := by decide +kernel
theorem dX12_isNear_12 : decode cX12_isNear 12 = .ok (.getfield 9, 3) := by decide +kernel
theorem dX12_isNear_15 : decode cX12_isNear 15 = .ok (.bipush 10, 2) := by decide +kernel
