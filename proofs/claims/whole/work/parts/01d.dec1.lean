theorem dX3_fillGains_50 : decode cX3_fillGains 50 = .ok (.invokevirtual 100, 3) := by decide +kernel
theorem dX3_fillGains_53 : decode cX3_fillGains 53 = .ok (.iinc 4 1, 3) := by decide +kernel
theorem dX3_fillGains_56 : decode cX3_fillGains 56 = .ok (.goto (-35), 3) := by decide +kernel
theorem dX3_fillGains_59 : decode cX3_fillGains 59 = .ok (.iconst 0, 1) := by decide +kernel
theorem dX3_fillGains_60 : decode cX3_fillGains 60 = .ok (.istore 4, 2) := by decide +kernel
theorem dX3_fillGains_62 : decode cX3_fillGains 62 = .ok (.iload 4, 2) := by decide +kernel
theorem dX3_fillGains_64 : decode cX3_fillGains 64 = .ok (.aload_n 0, 1) := by decide +kernel
theorem dX3_fillGains_65 : decode cX3_fillGains 65 = .ok (.getfield 54, 3) := by decide +kernel
theorem dX3_fillGains_68 : decode cX3_fillGains 68 = .ok (.if_icmp .ge 37, 3) := by decide +kernel
theorem dX3_fillGains_71 : decode cX3_fillGains 71 = .ok (.aload_n 0, 1) := by decide +kernel
theorem dX3_fillGains_72 : decode cX3_fillGains 72 = .ok (.getfield 29, 3) := by decide +kernel
theorem dX3_fillGains_75 : decode cX3_fillGains 75 = .ok (.iload_n 3, 1) := by decide +kernel
theorem dX3_fillGains_76 : decode cX3_fillGains 76 = .ok (.bipush 10, 2) := by decide +kernel
theorem dX3_fillGains_78 : decode cX3_fillGains 78 = .ok (.imul, 1) := by decide +kernel
theorem dX3_fillGains_79 : decode cX3_fillGains 79 = .ok (.iload 4, 2) := by decide +kernel
theorem dX3_fillGains_81 : decode cX3_fillGains 81 = .ok (.iadd, 1) := by decide +kernel
theorem dX3_fillGains_82 : decode cX3_fillGains 82 = .ok (.bipush 20, 2) := by decide +kernel
theorem dX3_fillGains_84 : decode cX3_fillGains 84 = .ok (.aload_n 0, 1) := by decide +kernel
theorem dX3_fillGains_85 : decode cX3_fillGains 85 = .ok (.aload_n 1, 1) := by decide +kernel
theorem dX3_fillGains_86 : decode cX3_fillGains 86 = .ok (.aload_n 2, 1) := by decide +kernel
theorem dX3_fillGains_87 : decode cX3_fillGains 87 = .ok (.aload_n 0, 1) := by decide +kernel
theorem dX3_fillGains_88 : decode cX3_fillGains 88 = .ok (.getfield 26, 3) := by decide +kernel
theorem dX3_fillGains_91 : decode cX3_fillGains 91 = .ok (.iload 4, 2) := by decide +kernel
theorem dX3_fillGains_93 : decode cX3_fillGains 93 = .ok (.iaload, 1) := by decide +kernel
theorem dX3_fillGains_94 : decode cX3_fillGains 94 = .ok (.invokevirtual 104, 3) := by decide +kernel
theorem dX3_fillGains_97 : decode cX3_fillGains 97 = .ok (.isub, 1) := by decide +kernel
theorem dX3_fillGains_98 : decode cX3_fillGains 98 = .ok (.iastore, 1) := by decide +kernel
theorem dX3_fillGains_99 : decode cX3_fillGains 99 = .ok (.iinc 4 1, 3) := by decide +kernel
theorem dX3_fillGains_102 : decode cX3_fillGains 102 = .ok (.goto (-40), 3) := by decide +kernel
theorem dX3_fillGains_105 : decode cX3_fillGains 105 = .ok (.iinc 3 1, 3) := by decide +kernel
theorem dX3_fillGains_108 : decode cX3_fillGains 108 = .ok (.goto (-106), 3) := by decide +kernel
theorem dX3_fillGains_111 : decode cX3_fillGains 111 = .ok (.return_, 1) := by decide +kernel
theorem dX3_fewestEdits_0 : decode cX3_fewestEdits 0 = .ok (.bipush 73, 2) := by decide +kernel
theorem dX3_fewestEdits_2 : decode cX3_fewestEdits 2 = .ok (.istore 4, 2) := by decide +kernel
theorem dX3_fewestEdits_4 : decode cX3_fewestEdits 4 = .ok (.iconst 0, 1) := by decide +kernel
theorem dX3_fewestEdits_5 : decode cX3_fewestEdits 5 = .ok (.istore 5, 2) := by decide +kernel
theorem dX3_fewestEdits_7 : decode cX3_fewestEdits 7 = .ok (.iload 5, 2) := by decide +kernel
theorem dX3_fewestEdits_9 : decode cX3_fewestEdits 9 = .ok (.aload_n 1, 1) := by decide +kernel
theorem dX3_fewestEdits_10 : decode cX3_fewestEdits 10 = .ok (.getfield 81, 3) := by decide +kernel
theorem dX3_fewestEdits_13 : decode cX3_fewestEdits 13 = .ok (.getfield 85, 3) := by decide +kernel
theorem dX3_fewestEdits_16 : decode cX3_fewestEdits 16 = .ok (.if_icmp .ge 67, 3) := by decide +kernel
theorem dX3_fewestEdits_19 : decode cX3_fewestEdits 19 = .ok (.aload_n 1, 1) := by decide +kernel
theorem dX3_fewestEdits_20 : decode cX3_fewestEdits 20 = .ok (.getfield 81, 3) := by decide +kernel
theorem dX3_fewestEdits_23 : decode cX3_fewestEdits 23 = .ok (.getfield 90, 3) := by decide +kernel
theorem dX3_fewestEdits_26 : decode cX3_fewestEdits 26 = .ok (.iload 5, 2) := by decide +kernel
theorem dX3_fewestEdits_28 : decode cX3_fewestEdits 28 = .ok (.iaload, 1) := by decide +kernel
theorem dX3_fewestEdits_29 : decode cX3_fewestEdits 29 = .ok (.iload_n 3, 1) := by decide +kernel
theorem dX3_fewestEdits_30 : decode cX3_fewestEdits 30 = .ok (.if_icmp .ne 47, 3) := by decide +kernel
theorem dX3_fewestEdits_33 : decode cX3_fewestEdits 33 = .ok (.aload_n 2, 1) := by decide +kernel
theorem dX3_fewestEdits_34 : decode cX3_fewestEdits 34 = .ok (.getfield 108, 3) := by decide +kernel
theorem dX3_fewestEdits_37 : decode cX3_fewestEdits 37 = .ok (.iconst 0, 1) := by decide +kernel
theorem dX3_fewestEdits_38 : decode cX3_fewestEdits 38 = .ok (.putfield 97, 3) := by decide +kernel
theorem dX3_fewestEdits_41 : decode cX3_fewestEdits 41 = .ok (.aload_n 1, 1) := by decide +kernel
theorem dX3_fewestEdits_42 : decode cX3_fewestEdits 42 = .ok (.getfield 81, 3) := by decide +kernel
theorem dX3_fewestEdits_45 : decode cX3_fewestEdits 45 = .ok (.aload_n 2, 1) := by decide +kernel
theorem dX3_fewestEdits_46 : decode cX3_fewestEdits 46 = .ok (.getfield 108, 3) := by decide +kernel
theorem dX3_fewestEdits_49 : decode cX3_fewestEdits 49 = .ok (.iload 5, 2) := by decide +kernel
theorem dX3_fewestEdits_51 : decode cX3_fewestEdits 51 = .ok (.aload_n 0, 1) := by decide +kernel
theorem dX3_fewestEdits_52 : decode cX3_fewestEdits 52 = .ok (.getfield 9, 3) := by decide +kernel
theorem dX3_fewestEdits_55 : decode cX3_fewestEdits 55 = .ok (.invokevirtual 111, 3) := by decide +kernel
theorem dX3_fewestEdits_58 : decode cX3_fewestEdits 58 = .ok (.iload 4, 2) := by decide +kernel
theorem dX3_fewestEdits_60 : decode cX3_fewestEdits 60 = .ok (.aload_n 2, 1) := by decide +kernel
theorem dX3_fewestEdits_61 : decode cX3_fewestEdits 61 = .ok (.aload_n 2, 1) := by decide +kernel
theorem dX3_fewestEdits_62 : decode cX3_fewestEdits 62 = .ok (.getfield 91, 3) := by decide +kernel
theorem dX3_fewestEdits_65 : decode cX3_fewestEdits 65 = .ok (.aload_n 2, 1) := by decide +kernel
theorem dX3_fewestEdits_66 : decode cX3_fewestEdits 66 = .ok (.getfield 108, 3) := by decide +kernel
theorem dX3_fewestEdits_69 : decode cX3_fewestEdits 69 = .ok (.invokevirtual 115, 3) := by decide +kernel
theorem dX3_fewestEdits_72 : decode cX3_fewestEdits 72 = .ok (.invokestatic 119, 3) := by decide +kernel
theorem dX3_fewestEdits_75 : decode cX3_fewestEdits 75 = .ok (.istore 4, 2) := by decide +kernel
theorem dX3_fewestEdits_77 : decode cX3_fewestEdits 77 = .ok (.iinc 5 1, 3) := by decide +kernel
theorem dX3_fewestEdits_80 : decode cX3_fewestEdits 80 = .ok (.goto (-73), 3) := by decide +kernel
theorem dX3_fewestEdits_83 : decode cX3_fewestEdits 83 = .ok (.iload 4, 2) := by decide +kernel
theorem dX3_fewestEdits_85 : decode cX3_fewestEdits 85 = .ok (.ireturn, 1) := by decide +kernel
theorem dX3_fillMost_0 : decode cX3_fillMost 0 = .ok (.aload_n 0, 1) := by decide +kernel
theorem dX3_fillMost_1 : decode cX3_fillMost 1 = .ok (.getfield 32, 3) := by decide +kernel
theorem dX3_fillMost_4 : decode cX3_fillMost 4 = .ok (.arraylength, 1) := by decide +kernel
theorem dX3_fillMost_5 : decode cX3_fillMost 5 = .ok (.ifCond .ne 19, 3) := by decide +kernel
theorem dX3_fillMost_8 : decode cX3_fillMost 8 = .ok (.aload_n 0, 1) := by decide +kernel
theorem dX3_fillMost_9 : decode cX3_fillMost 9 = .ok (.getfield 35, 3) := by decide +kernel
theorem dX3_fillMost_12 : decode cX3_fillMost 12 = .ok (.ifCond .le 12, 3) := by decide +kernel
theorem dX3_fillMost_15 : decode cX3_fillMost 15 = .ok (.aload_n 0, 1) := by decide +kernel
theorem dX3_fillMost_16 : decode cX3_fillMost 16 = .ok (.sipush 10240, 3) := by decide +kernel
theorem dX3_fillMost_19 : decode cX3_fillMost 19 = .ok (.newarray .int, 2) := by decide +kernel
theorem dX3_fillMost_21 : decode cX3_fillMost 21 = .ok (.putfield 32, 3) := by decide +kernel
theorem dX3_fillMost_24 : decode cX3_fillMost 24 = .ok (.iconst 1, 1) := by decide +kernel
theorem dX3_fillMost_25 : decode cX3_fillMost 25 = .ok (.aload_n 0, 1) := by decide +kernel
theorem dX3_fillMost_26 : decode cX3_fillMost 26 = .ok (.getfield 54, 3) := by decide +kernel
theorem dX3_fillMost_29 : decode cX3_fillMost 29 = .ok (.ishl, 1) := by decide +kernel
theorem dX3_fillMost_30 : decode cX3_fillMost 30 = .ok (.iconst 1, 1) := by decide +kernel
theorem dX3_fillMost_31 : decode cX3_fillMost 31 = .ok (.isub, 1) := by decide +kernel
theorem dX3_fillMost_32 : decode cX3_fillMost 32 = .ok (.istore_n 2, 1) := by decide +kernel
theorem dX3_fillMost_33 : decode cX3_fillMost 33 = .ok (.iload_n 2, 1) := by decide +kernel
theorem dX3_fillMost_34 : decode cX3_fillMost 34 = .ok (.ifCond .le 70, 3) := by decide +kernel
theorem dX3_fillMost_37 : decode cX3_fillMost 37 = .ok (.aload_n 0, 1) := by decide +kernel
theorem dX3_fillMost_38 : decode cX3_fillMost 38 = .ok (.getfield 35, 3) := by decide +kernel
theorem dX3_fillMost_41 : decode cX3_fillMost 41 = .ok (.ifCond .le 63, 3) := by decide +kernel
theorem dX3_fillMost_44 : decode cX3_fillMost 44 = .ok (.iconst 0, 1) := by decide +kernel
theorem dX3_fillMost_45 : decode cX3_fillMost 45 = .ok (.istore_n 3, 1) := by decide +kernel
theorem dX3_fillMost_46 : decode cX3_fillMost 46 = .ok (.iload_n 3, 1) := by decide +kernel
theorem dX3_fillMost_47 : decode cX3_fillMost 47 = .ok (.aload_n 0, 1) := by decide +kernel
theorem dX3_fillMost_48 : decode cX3_fillMost 48 = .ok (.getfield 54, 3) := by decide +kernel
theorem dX3_fillMost_51 : decode cX3_fillMost 51 = .ok (.if_icmp .ge 47, 3) := by decide +kernel
theorem dX3_fillMost_54 : decode cX3_fillMost 54 = .ok (.iload_n 2, 1) := by decide +kernel
theorem dX3_fillMost_55 : decode cX3_fillMost 55 = .ok (.invokestatic 125, 3) := by decide +kernel
theorem dX3_fillMost_58 : decode cX3_fillMost 58 = .ok (.aload_n 0, 1) := by decide +kernel
theorem dX3_fillMost_59 : decode cX3_fillMost 59 = .ok (.getfield 35, 3) := by decide +kernel
theorem dX3_fillMost_62 : decode cX3_fillMost 62 = .ok (.if_icmp .gt 36, 3) := by decide +kernel
theorem dX3_fillMost_65 : decode cX3_fillMost 65 = .ok (.iload_n 2, 1) := by decide +kernel
theorem dX3_fillMost_66 : decode cX3_fillMost 66 = .ok (.iload_n 3, 1) := by decide +kernel
theorem dX3_fillMost_67 : decode cX3_fillMost 67 = .ok (.ishr, 1) := by decide +kernel
theorem dX3_fillMost_68 : decode cX3_fillMost 68 = .ok (.iconst 1, 1) := by decide +kernel
theorem dX3_fillMost_69 : decode cX3_fillMost 69 = .ok (.iand, 1) := by decide +kernel
theorem dX3_fillMost_70 : decode cX3_fillMost 70 = .ok (.iconst 1, 1) := by decide +kernel
theorem dX3_fillMost_71 : decode cX3_fillMost 71 = .ok (.if_icmp .ne 21, 3) := by decide +kernel
theorem dX3_fillMost_74 : decode cX3_fillMost 74 = .ok (.aload_n 0, 1) := by decide +kernel
theorem dX3_fillMost_75 : decode cX3_fillMost 75 = .ok (.getfield 32, 3) := by decide +kernel
theorem dX3_fillMost_78 : decode cX3_fillMost 78 = .ok (.iload_n 2, 1) := by decide +kernel
theorem dX3_fillMost_79 : decode cX3_fillMost 79 = .ok (.bipush 10, 2) := by decide +kernel
theorem dX3_fillMost_81 : decode cX3_fillMost 81 = .ok (.imul, 1) := by decide +kernel
theorem dX3_fillMost_82 : decode cX3_fillMost 82 = .ok (.iload_n 3, 1) := by decide +kernel
theorem dX3_fillMost_83 : decode cX3_fillMost 83 = .ok (.iadd, 1) := by decide +kernel
theorem dX3_fillMost_84 : decode cX3_fillMost 84 = .ok (.aload_n 0, 1) := by decide +kernel
theorem dX3_fillMost_85 : decode cX3_fillMost 85 = .ok (.aload_n 1, 1) := by decide +kernel
theorem dX3_fillMost_86 : decode cX3_fillMost 86 = .ok (.iload_n 2, 1) := by decide +kernel
theorem dX3_fillMost_87 : decode cX3_fillMost 87 = .ok (.iload_n 3, 1) := by decide +kernel
theorem dX3_fillMost_88 : decode cX3_fillMost 88 = .ok (.invokevirtual 71, 3) := by decide +kernel
theorem dX3_fillMost_91 : decode cX3_fillMost 91 = .ok (.iastore, 1) := by decide +kernel
theorem dX3_fillMost_92 : decode cX3_fillMost 92 = .ok (.iinc 3 1, 3) := by decide +kernel
theorem dX3_fillMost_95 : decode cX3_fillMost 95 = .ok (.goto (-49), 3) := by decide +kernel
theorem dX3_fillMost_98 : decode cX3_fillMost 98 = .ok (.iinc 2 (-1), 3) := by decide +kernel
theorem dX3_fillMost_101 : decode cX3_fillMost 101 = .ok (.goto (-68), 3) := by decide +kernel
theorem dX3_fillMost_104 : decode cX3_fillMost 104 = .ok (.return_, 1) := by decide +kernel
theorem dX3_mostBehind_0 : decode cX3_mostBehind 0 = .ok (.iload_n 2, 1) := by decide +kernel
theorem dX3_mostBehind_1 : decode cX3_mostBehind 1 = .ok (.invokestatic 125, 3) := by decide +kernel
theorem dX3_mostBehind_4 : decode cX3_mostBehind 4 = .ok (.istore 4, 2) := by decide +kernel
theorem dX3_mostBehind_6 : decode cX3_mostBehind 6 = .ok (.iload 4, 2) := by decide +kernel
theorem dX3_mostBehind_8 : decode cX3_mostBehind 8 = .ok (.aload_n 0, 1) := by decide +kernel
theorem dX3_mostBehind_9 : decode cX3_mostBehind 9 = .ok (.getfield 35, 3) := by decide +kernel
theorem dX3_mostBehind_12 : decode cX3_mostBehind 12 = .ok (.if_icmp .lt 5, 3) := by decide +kernel
theorem dX3_mostBehind_15 : decode cX3_mostBehind 15 = .ok (.iconst 0, 1) := by decide +kernel
theorem dX3_mostBehind_16 : decode cX3_mostBehind 16 = .ok (.ireturn, 1) := by decide +kernel
theorem dX3_mostBehind_17 : decode cX3_mostBehind 17 = .ok (.ldc 131, 2) := by decide +kernel
theorem dX3_mostBehind_19 : decode cX3_mostBehind 19 = .ok (.istore 5, 2) := by decide +kernel
theorem dX3_mostBehind_21 : decode cX3_mostBehind 21 = .ok (.iconst 0, 1) := by decide +kernel
theorem dX3_mostBehind_22 : decode cX3_mostBehind 22 = .ok (.istore 6, 2) := by decide +kernel
theorem dX3_mostBehind_24 : decode cX3_mostBehind 24 = .ok (.iload 6, 2) := by decide +kernel
theorem dX3_mostBehind_26 : decode cX3_mostBehind 26 = .ok (.aload_n 0, 1) := by decide +kernel
theorem dX3_mostBehind_27 : decode cX3_mostBehind 27 = .ok (.getfield 54, 3) := by decide +kernel
theorem dX3_mostBehind_30 : decode cX3_mostBehind 30 = .ok (.if_icmp .ge 34, 3) := by decide +kernel
theorem dX3_mostBehind_33 : decode cX3_mostBehind 33 = .ok (.iload_n 2, 1) := by decide +kernel
theorem dX3_mostBehind_34 : decode cX3_mostBehind 34 = .ok (.iload 6, 2) := by decide +kernel
theorem dX3_mostBehind_36 : decode cX3_mostBehind 36 = .ok (.ishr, 1) := by decide +kernel
theorem dX3_mostBehind_37 : decode cX3_mostBehind 37 = .ok (.iconst 1, 1) := by decide +kernel
theorem dX3_mostBehind_38 : decode cX3_mostBehind 38 = .ok (.iand, 1) := by decide +kernel
theorem dX3_mostBehind_39 : decode cX3_mostBehind 39 = .ok (.ifCond .ne 19, 3) := by decide +kernel
theorem dX3_mostBehind_42 : decode cX3_mostBehind 42 = .ok (.iload 5, 2) := by decide +kernel
theorem dX3_mostBehind_44 : decode cX3_mostBehind 44 = .ok (.aload_n 0, 1) := by decide +kernel
theorem dX3_mostBehind_45 : decode cX3_mostBehind 45 = .ok (.aload_n 1, 1) := by decide +kernel
theorem dX3_mostBehind_46 : decode cX3_mostBehind 46 = .ok (.iload_n 2, 1) := by decide +kernel
theorem dX3_mostBehind_47 : decode cX3_mostBehind 47 = .ok (.iload_n 3, 1) := by decide +kernel
theorem dX3_mostBehind_48 : decode cX3_mostBehind 48 = .ok (.iload 6, 2) := by decide +kernel
theorem dX3_mostBehind_50 : decode cX3_mostBehind 50 = .ok (.invokevirtual 132, 3) := by decide +kernel
theorem dX3_mostBehind_53 : decode cX3_mostBehind 53 = .ok (.invokestatic 136, 3) := by decide +kernel
theorem dX3_mostBehind_56 : decode cX3_mostBehind 56 = .ok (.istore 5, 2) := by decide +kernel
theorem dX3_mostBehind_58 : decode cX3_mostBehind 58 = .ok (.iinc 6 1, 3) := by decide +kernel
theorem dX3_mostBehind_61 : decode cX3_mostBehind 61 = .ok (.goto (-37), 3) := by decide +kernel
theorem dX3_mostBehind_64 : decode cX3_mostBehind 64 = .ok (.iload 5, 2) := by decide +kernel
theorem dX3_mostBehind_66 : decode cX3_mostBehind 66 = .ok (.ireturn, 1) := by decide +kernel
theorem dX3_sumWith_0 : decode cX3_sumWith 0 = .ok (.aload_n 0, 1) := by decide +kernel
theorem dX3_sumWith_1 : decode cX3_sumWith 1 = .ok (.getfield 29, 3) := by decide +kernel
theorem dX3_sumWith_4 : decode cX3_sumWith 4 = .ok (.iload_n 2, 1) := by decide +kernel
theorem dX3_sumWith_5 : decode cX3_sumWith 5 = .ok (.invokestatic 125, 3) := by decide +kernel
theorem dX3_sumWith_8 : decode cX3_sumWith 8 = .ok (.bipush 10, 2) := by decide +kernel
theorem dX3_sumWith_10 : decode cX3_sumWith 10 = .ok (.imul, 1) := by decide +kernel
theorem dX3_sumWith_11 : decode cX3_sumWith 11 = .ok (.iload 4, 2) := by decide +kernel
theorem dX3_sumWith_13 : decode cX3_sumWith 13 = .ok (.iadd, 1) := by decide +kernel
theorem dX3_sumWith_14 : decode cX3_sumWith 14 = .ok (.iaload, 1) := by decide +kernel
theorem dX3_sumWith_15 : decode cX3_sumWith 15 = .ok (.istore 5, 2) := by decide +kernel
theorem dX3_sumWith_17 : decode cX3_sumWith 17 = .ok (.iload_n 3, 1) := by decide +kernel
theorem dX3_sumWith_18 : decode cX3_sumWith 18 = .ok (.iconst (-1), 1) := by decide +kernel
theorem dX3_sumWith_19 : decode cX3_sumWith 19 = .ok (.if_icmp .eq 28, 3) := by decide +kernel
theorem dX3_sumWith_22 : decode cX3_sumWith 22 = .ok (.aload_n 1, 1) := by decide +kernel
theorem dX3_sumWith_23 : decode cX3_sumWith 23 = .ok (.aload_n 0, 1) := by decide +kernel
theorem dX3_sumWith_24 : decode cX3_sumWith 24 = .ok (.getfield 26, 3) := by decide +kernel
theorem dX3_sumWith_27 : decode cX3_sumWith 27 = .ok (.iload_n 3, 1) := by decide +kernel
theorem dX3_sumWith_28 : decode cX3_sumWith 28 = .ok (.iaload, 1) := by decide +kernel
theorem dX3_sumWith_29 : decode cX3_sumWith 29 = .ok (.aload_n 0, 1) := by decide +kernel
theorem dX3_sumWith_30 : decode cX3_sumWith 30 = .ok (.getfield 26, 3) := by decide +kernel
theorem dX3_sumWith_33 : decode cX3_sumWith 33 = .ok (.iload 4, 2) := by decide +kernel
theorem dX3_sumWith_35 : decode cX3_sumWith 35 = .ok (.iaload, 1) := by decide +kernel
theorem dX3_sumWith_36 : decode cX3_sumWith 36 = .ok (.bipush 30, 2) := by decide +kernel
theorem dX3_sumWith_38 : decode cX3_sumWith 38 = .ok (.invokevirtual 139, 3) := by decide +kernel
theorem dX3_sumWith_41 : decode cX3_sumWith 41 = .ok (.ifCond .eq 6, 3) := by decide +kernel
theorem dX3_sumWith_44 : decode cX3_sumWith 44 = .ok (.iinc 5 3, 3) := by decide +kernel
theorem dX3_sumWith_47 : decode cX3_sumWith 47 = .ok (.iload 5, 2) := by decide +kernel
theorem dX3_sumWith_49 : decode cX3_sumWith 49 = .ok (.aload_n 0, 1) := by decide +kernel
theorem dX3_sumWith_50 : decode cX3_sumWith 50 = .ok (.getfield 32, 3) := by decide +kernel
theorem dX3_sumWith_53 : decode cX3_sumWith 53 = .ok (.iload_n 2, 1) := by decide +kernel
theorem dX3_sumWith_54 : decode cX3_sumWith 54 = .ok (.iconst 1, 1) := by decide +kernel
theorem dX3_sumWith_55 : decode cX3_sumWith 55 = .ok (.iload 4, 2) := by decide +kernel
theorem dX3_sumWith_57 : decode cX3_sumWith 57 = .ok (.ishl, 1) := by decide +kernel
theorem dX3_sumWith_58 : decode cX3_sumWith 58 = .ok (.ior, 1) := by decide +kernel
theorem dX3_sumWith_59 : decode cX3_sumWith 59 = .ok (.bipush 10, 2) := by decide +kernel
theorem dX3_sumWith_61 : decode cX3_sumWith 61 = .ok (.imul, 1) := by decide +kernel
theorem dX3_sumWith_62 : decode cX3_sumWith 62 = .ok (.iload 4, 2) := by decide +kernel
theorem dX3_sumWith_64 : decode cX3_sumWith 64 = .ok (.iadd, 1) := by decide +kernel
theorem dX3_sumWith_65 : decode cX3_sumWith 65 = .ok (.iaload, 1) := by decide +kernel
theorem dX3_sumWith_66 : decode cX3_sumWith 66 = .ok (.iadd, 1) := by decide +kernel
theorem dX3_sumWith_67 : decode cX3_sumWith 67 = .ok (.ireturn, 1) := by decide +kernel
theorem dX3_takeFirst_0 : decode cX3_takeFirst 0 = .ok (.aload_n 0, 1) := by decide +kernel
theorem dX3_takeFirst_1 : decode cX3_takeFirst 1 = .ok (.aload_n 0, 1) := by decide +kernel
theorem dX3_takeFirst_2 : decode cX3_takeFirst 2 = .ok (.getfield 35, 3) := by decide +kernel
theorem dX3_takeFirst_5 : decode cX3_takeFirst 5 = .ok (.putfield 143, 3) := by decide +kernel
theorem dX3_takeFirst_8 : decode cX3_takeFirst 8 = .ok (.iconst 0, 1) := by decide +kernel
theorem dX3_takeFirst_9 : decode cX3_takeFirst 9 = .ok (.istore_n 2, 1) := by decide +kernel
theorem dX3_takeFirst_10 : decode cX3_takeFirst 10 = .ok (.iconst (-1), 1) := by decide +kernel
theorem dX3_takeFirst_11 : decode cX3_takeFirst 11 = .ok (.istore_n 3, 1) := by decide +kernel
theorem dX3_takeFirst_12 : decode cX3_takeFirst 12 = .ok (.iconst 0, 1) := by decide +kernel
theorem dX3_takeFirst_13 : decode cX3_takeFirst 13 = .ok (.istore 4, 2) := by decide +kernel
theorem dX3_takeFirst_15 : decode cX3_takeFirst 15 = .ok (.iload 4, 2) := by decide +kernel
theorem dX3_takeFirst_17 : decode cX3_takeFirst 17 = .ok (.aload_n 0, 1) := by decide +kernel
theorem dX3_takeFirst_18 : decode cX3_takeFirst 18 = .ok (.getfield 35, 3) := by decide +kernel
theorem dX3_takeFirst_21 : decode cX3_takeFirst 21 = .ok (.if_icmp .ge 76, 3) := by decide +kernel
theorem dX3_takeFirst_24 : decode cX3_takeFirst 24 = .ok (.aload_n 0, 1) := by decide +kernel
theorem dX3_takeFirst_25 : decode cX3_takeFirst 25 = .ok (.aload_n 1, 1) := by decide +kernel
theorem dX3_takeFirst_26 : decode cX3_takeFirst 26 = .ok (.iload_n 2, 1) := by decide +kernel
theorem dX3_takeFirst_27 : decode cX3_takeFirst 27 = .ok (.iload_n 3, 1) := by decide +kernel
theorem dX3_takeFirst_28 : decode cX3_takeFirst 28 = .ok (.invokevirtual 71, 3) := by decide +kernel
theorem dX3_takeFirst_31 : decode cX3_takeFirst 31 = .ok (.istore 5, 2) := by decide +kernel
theorem dX3_takeFirst_33 : decode cX3_takeFirst 33 = .ok (.iconst 0, 1) := by decide +kernel
theorem dX3_takeFirst_34 : decode cX3_takeFirst 34 = .ok (.istore 6, 2) := by decide +kernel
theorem dX3_takeFirst_36 : decode cX3_takeFirst 36 = .ok (.iload 6, 2) := by decide +kernel
theorem dX3_takeFirst_38 : decode cX3_takeFirst 38 = .ok (.aload_n 0, 1) := by decide +kernel
theorem dX3_takeFirst_39 : decode cX3_takeFirst 39 = .ok (.getfield 54, 3) := by decide +kernel
theorem dX3_takeFirst_42 : decode cX3_takeFirst 42 = .ok (.iconst 1, 1) := by decide +kernel
theorem dX3_takeFirst_43 : decode cX3_takeFirst 43 = .ok (.isub, 1) := by decide +kernel
theorem dX3_takeFirst_44 : decode cX3_takeFirst 44 = .ok (.if_icmp .ge 23, 3) := by decide +kernel
theorem dX3_takeFirst_47 : decode cX3_takeFirst 47 = .ok (.aload_n 0, 1) := by decide +kernel
theorem dX3_takeFirst_48 : decode cX3_takeFirst 48 = .ok (.aload_n 1, 1) := by decide +kernel
theorem dX3_takeFirst_49 : decode cX3_takeFirst 49 = .ok (.iload_n 2, 1) := by decide +kernel
theorem dX3_takeFirst_50 : decode cX3_takeFirst 50 = .ok (.iload_n 3, 1) := by decide +kernel
theorem dX3_takeFirst_51 : decode cX3_takeFirst 51 = .ok (.iload 6, 2) := by decide +kernel
theorem dX3_takeFirst_53 : decode cX3_takeFirst 53 = .ok (.iload 5, 2) := by decide +kernel
theorem dX3_takeFirst_55 : decode cX3_takeFirst 55 = .ok (.invokevirtual 146, 3) := by decide +kernel
theorem dX3_takeFirst_58 : decode cX3_takeFirst 58 = .ok (.ifCond .ne 9, 3) := by decide +kernel
theorem dX3_takeFirst_61 : decode cX3_takeFirst 61 = .ok (.iinc 6 1, 3) := by decide +kernel
theorem dX3_takeFirst_64 : decode cX3_takeFirst 64 = .ok (.goto (-28), 3) := by decide +kernel
theorem dX3_takeFirst_67 : decode cX3_takeFirst 67 = .ok (.aload_n 0, 1) := by decide +kernel
theorem dX3_takeFirst_68 : decode cX3_takeFirst 68 = .ok (.getfield 23, 3) := by decide +kernel
theorem dX3_takeFirst_71 : decode cX3_takeFirst 71 = .ok (.iload 4, 2) := by decide +kernel
theorem dX3_takeFirst_73 : decode cX3_takeFirst 73 = .ok (.aload_n 0, 1) := by decide +kernel
theorem dX3_takeFirst_74 : decode cX3_takeFirst 74 = .ok (.getfield 26, 3) := by decide +kernel
theorem dX3_takeFirst_77 : decode cX3_takeFirst 77 = .ok (.iload 6, 2) := by decide +kernel
theorem dX3_takeFirst_79 : decode cX3_takeFirst 79 = .ok (.iaload, 1) := by decide +kernel
theorem dX3_takeFirst_80 : decode cX3_takeFirst 80 = .ok (.iastore, 1) := by decide +kernel
theorem dX3_takeFirst_81 : decode cX3_takeFirst 81 = .ok (.iload_n 2, 1) := by decide +kernel
theorem dX3_takeFirst_82 : decode cX3_takeFirst 82 = .ok (.iconst 1, 1) := by decide +kernel
theorem dX3_takeFirst_83 : decode cX3_takeFirst 83 = .ok (.iload 6, 2) := by decide +kernel
theorem dX3_takeFirst_85 : decode cX3_takeFirst 85 = .ok (.ishl, 1) := by decide +kernel
theorem dX3_takeFirst_86 : decode cX3_takeFirst 86 = .ok (.ior, 1) := by decide +kernel
theorem dX3_takeFirst_87 : decode cX3_takeFirst 87 = .ok (.istore_n 2, 1) := by decide +kernel
theorem dX3_takeFirst_88 : decode cX3_takeFirst 88 = .ok (.iload 6, 2) := by decide +kernel
theorem dX3_takeFirst_90 : decode cX3_takeFirst 90 = .ok (.istore_n 3, 1) := by decide +kernel
theorem dX3_takeFirst_91 : decode cX3_takeFirst 91 = .ok (.iinc 4 1, 3) := by decide +kernel
theorem dX3_takeFirst_94 : decode cX3_takeFirst 94 = .ok (.goto (-79), 3) := by decide +kernel
theorem dX3_takeFirst_97 : decode cX3_takeFirst 97 = .ok (.return_, 1) := by decide +kernel
theorem dX3_reaches_0 : decode cX3_reaches 0 = .ok (.iload_n 2, 1) := by decide +kernel
theorem dX3_reaches_1 : decode cX3_reaches 1 = .ok (.iload 4, 2) := by decide +kernel
theorem dX3_reaches_3 : decode cX3_reaches 3 = .ok (.ishr, 1) := by decide +kernel
theorem dX3_reaches_4 : decode cX3_reaches 4 = .ok (.iconst 1, 1) := by decide +kernel
theorem dX3_reaches_5 : decode cX3_reaches 5 = .ok (.iand, 1) := by decide +kernel
theorem dX3_reaches_6 : decode cX3_reaches 6 = .ok (.ifCond .ne 21, 3) := by decide +kernel
theorem dX3_reaches_9 : decode cX3_reaches 9 = .ok (.aload_n 0, 1) := by decide +kernel
theorem dX3_reaches_10 : decode cX3_reaches 10 = .ok (.aload_n 1, 1) := by decide +kernel
theorem dX3_reaches_11 : decode cX3_reaches 11 = .ok (.iload_n 2, 1) := by decide +kernel
theorem dX3_reaches_12 : decode cX3_reaches 12 = .ok (.iload_n 3, 1) := by decide +kernel
theorem dX3_reaches_13 : decode cX3_reaches 13 = .ok (.iload 4, 2) := by decide +kernel
theorem dX3_reaches_15 : decode cX3_reaches 15 = .ok (.invokevirtual 132, 3) := by decide +kernel
theorem dX3_reaches_18 : decode cX3_reaches 18 = .ok (.iload 5, 2) := by decide +kernel
theorem dX3_reaches_20 : decode cX3_reaches 20 = .ok (.if_icmp .ne 7, 3) := by decide +kernel
theorem dX3_reaches_23 : decode cX3_reaches 23 = .ok (.iconst 1, 1) := by decide +kernel
theorem dX3_reaches_24 : decode cX3_reaches 24 = .ok (.goto 4, 3) := by decide +kernel
theorem dX3_reaches_27 : decode cX3_reaches 27 = .ok (.iconst 0, 1) := by decide +kernel
theorem dX3_reaches_28 : decode cX3_reaches 28 = .ok (.ireturn, 1) := by decide +kernel
theorem dX4_begin_0 : decode cX4_begin 0 = .ok (.aload_n 0, 1) := by decide +kernel
theorem dX4_begin_1 : decode cX4_begin 1 = .ok (.iconst 0, 1) := by decide +kernel
theorem dX4_begin_2 : decode cX4_begin 2 = .ok (.putfield 36, 3) := by decide +kernel
theorem dX4_begin_5 : decode cX4_begin 5 = .ok (.return_, 1) := by decide +kernel
theorem dX4_take_0 : decode cX4_take 0 = .ok (.aload_n 0, 1) := by decide +kernel
theorem dX4_take_1 : decode cX4_take 1 = .ok (.getfield 36, 3) := by decide +kernel
theorem dX4_take_4 : decode cX4_take 4 = .ok (.bipush 9, 2) := by decide +kernel
theorem dX4_take_6 : decode cX4_take 6 = .ok (.if_icmp .ge 8, 3) := by decide +kernel
theorem dX4_take_9 : decode cX4_take 9 = .ok (.iload_n 2, 1) := by decide +kernel
theorem dX4_take_10 : decode cX4_take 10 = .ok (.iload_n 3, 1) := by decide +kernel
theorem dX4_take_11 : decode cX4_take 11 = .ok (.if_icmp .le 5, 3) := by decide +kernel
theorem dX4_take_14 : decode cX4_take 14 = .ok (.iconst 0, 1) := by decide +kernel
theorem dX4_take_15 : decode cX4_take 15 = .ok (.ireturn, 1) := by decide +kernel
theorem dX4_take_16 : decode cX4_take 16 = .ok (.aload_n 0, 1) := by decide +kernel
theorem dX4_take_17 : decode cX4_take 17 = .ok (.getfield 17, 3) := by decide +kernel
theorem dX4_take_20 : decode cX4_take 20 = .ok (.aload_n 0, 1) := by decide +kernel
theorem dX4_take_21 : decode cX4_take 21 = .ok (.getfield 36, 3) := by decide +kernel
theorem dX4_take_24 : decode cX4_take 24 = .ok (.iload_n 1, 1) := by decide +kernel
theorem dX4_take_25 : decode cX4_take 25 = .ok (.iastore, 1) := by decide +kernel
theorem dX4_take_26 : decode cX4_take 26 = .ok (.iconst 1, 1) := by decide +kernel
theorem dX4_take_27 : decode cX4_take 27 = .ok (.aload_n 0, 1) := by decide +kernel
theorem dX4_take_28 : decode cX4_take 28 = .ok (.getfield 36, 3) := by decide +kernel
theorem dX4_take_31 : decode cX4_take 31 = .ok (.ishl, 1) := by decide +kernel
theorem dX4_take_32 : decode cX4_take 32 = .ok (.istore 4, 2) := by decide +kernel
theorem dX4_take_34 : decode cX4_take 34 = .ok (.ldc2_w 40, 3) := by decide +kernel
theorem dX4_take_37 : decode cX4_take 37 = .ok (.lconst 1, 1) := by decide +kernel
theorem dX4_take_38 : decode cX4_take 38 = .ok (.iconst 4, 1) := by decide +kernel
theorem dX4_take_39 : decode cX4_take 39 = .ok (.bipush 8, 2) := by decide +kernel
theorem dX4_take_41 : decode cX4_take 41 = .ok (.aload_n 0, 1) := by decide +kernel
theorem dX4_take_42 : decode cX4_take 42 = .ok (.getfield 36, 3) := by decide +kernel
theorem dX4_take_45 : decode cX4_take 45 = .ok (.isub, 1) := by decide +kernel
theorem dX4_take_46 : decode cX4_take 46 = .ok (.imul, 1) := by decide +kernel
theorem dX4_take_47 : decode cX4_take 47 = .ok (.lshl, 1) := by decide +kernel
theorem dX4_take_48 : decode cX4_take 48 = .ok (.ladd, 1) := by decide +kernel
theorem dX4_take_49 : decode cX4_take 49 = .ok (.lstore 5, 2) := by decide +kernel
theorem dX4_take_51 : decode cX4_take 51 = .ok (.iconst 0, 1) := by decide +kernel
theorem dX4_take_52 : decode cX4_take 52 = .ok (.istore 7, 2) := by decide +kernel
theorem dX4_take_54 : decode cX4_take 54 = .ok (.iload 7, 2) := by decide +kernel
theorem dX4_take_56 : decode cX4_take 56 = .ok (.iload 4, 2) := by decide +kernel
theorem dX4_take_58 : decode cX4_take 58 = .ok (.if_icmp .ge 48, 3) := by decide +kernel
theorem dX4_take_61 : decode cX4_take 61 = .ok (.aload_n 0, 1) := by decide +kernel
theorem dX4_take_62 : decode cX4_take 62 = .ok (.getfield 20, 3) := by decide +kernel
theorem dX4_take_65 : decode cX4_take 65 = .ok (.iload 4, 2) := by decide +kernel
theorem dX4_take_67 : decode cX4_take 67 = .ok (.iload 7, 2) := by decide +kernel
theorem dX4_take_69 : decode cX4_take 69 = .ok (.iadd, 1) := by decide +kernel
theorem dX4_take_70 : decode cX4_take 70 = .ok (.aload_n 0, 1) := by decide +kernel
theorem dX4_take_71 : decode cX4_take 71 = .ok (.getfield 20, 3) := by decide +kernel
theorem dX4_take_74 : decode cX4_take 74 = .ok (.iload 7, 2) := by decide +kernel
theorem dX4_take_76 : decode cX4_take 76 = .ok (.iaload, 1) := by decide +kernel
theorem dX4_take_77 : decode cX4_take 77 = .ok (.iload_n 2, 1) := by decide +kernel
theorem dX4_take_78 : decode cX4_take 78 = .ok (.iadd, 1) := by decide +kernel
theorem dX4_take_79 : decode cX4_take 79 = .ok (.iastore, 1) := by decide +kernel
theorem dX4_take_80 : decode cX4_take 80 = .ok (.aload_n 0, 1) := by decide +kernel
theorem dX4_take_81 : decode cX4_take 81 = .ok (.getfield 23, 3) := by decide +kernel
theorem dX4_take_84 : decode cX4_take 84 = .ok (.iload 4, 2) := by decide +kernel
theorem dX4_take_86 : decode cX4_take 86 = .ok (.iload 7, 2) := by decide +kernel
theorem dX4_take_88 : decode cX4_take 88 = .ok (.iadd, 1) := by decide +kernel
theorem dX4_take_89 : decode cX4_take 89 = .ok (.aload_n 0, 1) := by decide +kernel
theorem dX4_take_90 : decode cX4_take 90 = .ok (.getfield 23, 3) := by decide +kernel
theorem dX4_take_93 : decode cX4_take 93 = .ok (.iload 7, 2) := by decide +kernel
theorem dX4_take_95 : decode cX4_take 95 = .ok (.laload, 1) := by decide +kernel
theorem dX4_take_96 : decode cX4_take 96 = .ok (.lload 5, 2) := by decide +kernel
theorem dX4_take_98 : decode cX4_take 98 = .ok (.ladd, 1) := by decide +kernel
theorem dX4_take_99 : decode cX4_take 99 = .ok (.lastore, 1) := by decide +kernel
theorem dX4_take_100 : decode cX4_take 100 = .ok (.iinc 7 1, 3) := by decide +kernel
theorem dX4_take_103 : decode cX4_take 103 = .ok (.goto (-49), 3) := by decide +kernel
theorem dX4_take_106 : decode cX4_take 106 = .ok (.aload_n 0, 1) := by decide +kernel
theorem dX4_take_107 : decode cX4_take 107 = .ok (.dup, 1) := by decide +kernel
theorem dX4_take_108 : decode cX4_take 108 = .ok (.getfield 36, 3) := by decide +kernel
theorem dX4_take_111 : decode cX4_take 111 = .ok (.iconst 1, 1) := by decide +kernel
theorem dX4_take_112 : decode cX4_take 112 = .ok (.iadd, 1) := by decide +kernel
theorem dX4_take_113 : decode cX4_take 113 = .ok (.putfield 36, 3) := by decide +kernel
theorem dX4_take_116 : decode cX4_take 116 = .ok (.iconst 1, 1) := by decide +kernel
theorem dX4_take_117 : decode cX4_take 117 = .ok (.ireturn, 1) := by decide +kernel
theorem dX4_leastSum_0 : decode cX4_leastSum 0 = .ok (.iconst 1, 1) := by decide +kernel
theorem dX4_leastSum_1 : decode cX4_leastSum 1 = .ok (.aload_n 0, 1) := by decide +kernel
theorem dX4_leastSum_2 : decode cX4_leastSum 2 = .ok (.getfield 36, 3) := by decide +kernel
theorem dX4_leastSum_5 : decode cX4_leastSum 5 = .ok (.ishl, 1) := by decide +kernel
theorem dX4_leastSum_6 : decode cX4_leastSum 6 = .ok (.istore_n 2, 1) := by decide +kernel
theorem dX4_leastSum_7 : decode cX4_leastSum 7 = .ok (.iconst 1, 1) := by decide +kernel
theorem dX4_leastSum_8 : decode cX4_leastSum 8 = .ok (.istore_n 3, 1) := by decide +kernel
theorem dX4_leastSum_9 : decode cX4_leastSum 9 = .ok (.iload_n 3, 1) := by decide +kernel
theorem dX4_leastSum_10 : decode cX4_leastSum 10 = .ok (.iload_n 2, 1) := by decide +kernel
theorem dX4_leastSum_11 : decode cX4_leastSum 11 = .ok (.if_icmp .ge 21, 3) := by decide +kernel
theorem dX4_leastSum_14 : decode cX4_leastSum 14 = .ok (.aload_n 0, 1) := by decide +kernel
theorem dX4_leastSum_15 : decode cX4_leastSum 15 = .ok (.getfield 27, 3) := by decide +kernel
theorem dX4_leastSum_18 : decode cX4_leastSum 18 = .ok (.iload_n 3, 1) := by decide +kernel
theorem dX4_leastSum_19 : decode cX4_leastSum 19 = .ok (.aload_n 0, 1) := by decide +kernel
theorem dX4_leastSum_20 : decode cX4_leastSum 20 = .ok (.iload_n 3, 1) := by decide +kernel
theorem dX4_leastSum_21 : decode cX4_leastSum 21 = .ok (.iload_n 1, 1) := by decide +kernel
theorem dX4_leastSum_22 : decode cX4_leastSum 22 = .ok (.invokevirtual 42, 3) := by decide +kernel
theorem dX4_leastSum_25 : decode cX4_leastSum 25 = .ok (.lastore, 1) := by decide +kernel
theorem dX4_leastSum_26 : decode cX4_leastSum 26 = .ok (.iinc 3 1, 3) := by decide +kernel
theorem dX4_leastSum_29 : decode cX4_leastSum 29 = .ok (.goto (-20), 3) := by decide +kernel
theorem dX4_leastSum_32 : decode cX4_leastSum 32 = .ok (.aload_n 0, 1) := by decide +kernel
theorem dX4_leastSum_33 : decode cX4_leastSum 33 = .ok (.getfield 27, 3) := by decide +kernel
theorem dX4_leastSum_36 : decode cX4_leastSum 36 = .ok (.iload_n 2, 1) := by decide +kernel
theorem dX4_leastSum_37 : decode cX4_leastSum 37 = .ok (.iconst 1, 1) := by decide +kernel
theorem dX4_leastSum_38 : decode cX4_leastSum 38 = .ok (.isub, 1) := by decide +kernel
theorem dX4_leastSum_39 : decode cX4_leastSum 39 = .ok (.laload, 1) := by decide +kernel
theorem dX4_leastSum_40 : decode cX4_leastSum 40 = .ok (.lstore_n 3, 1) := by decide +kernel
theorem dX4_leastSum_41 : decode cX4_leastSum 41 = .ok (.aload_n 0, 1) := by decide +kernel
theorem dX4_leastSum_42 : decode cX4_leastSum 42 = .ok (.getfield 13, 3) := by decide +kernel
theorem dX4_leastSum_45 : decode cX4_leastSum 45 = .ok (.iconst (-1), 1) := by decide +kernel
theorem dX4_leastSum_46 : decode cX4_leastSum 46 = .ok (.invokestatic 30, 3) := by decide +kernel
theorem dX4_leastSum_49 : decode cX4_leastSum 49 = .ok (.iconst 0, 1) := by decide +kernel
theorem dX4_leastSum_50 : decode cX4_leastSum 50 = .ok (.istore 5, 2) := by decide +kernel
theorem dX4_leastSum_52 : decode cX4_leastSum 52 = .ok (.iload 5, 2) := by decide +kernel
theorem dX4_leastSum_54 : decode cX4_leastSum 54 = .ok (.aload_n 0, 1) := by decide +kernel
theorem dX4_leastSum_55 : decode cX4_leastSum 55 = .ok (.getfield 36, 3) := by decide +kernel
theorem dX4_leastSum_58 : decode cX4_leastSum 58 = .ok (.if_icmp .ge 34, 3) := by decide +kernel
theorem dX4_leastSum_61 : decode cX4_leastSum 61 = .ok (.aload_n 0, 1) := by decide +kernel
theorem dX4_leastSum_62 : decode cX4_leastSum 62 = .ok (.getfield 13, 3) := by decide +kernel
theorem dX4_leastSum_65 : decode cX4_leastSum 65 = .ok (.aload_n 0, 1) := by decide +kernel
theorem dX4_leastSum_66 : decode cX4_leastSum 66 = .ok (.getfield 17, 3) := by decide +kernel
theorem dX4_leastSum_69 : decode cX4_leastSum 69 = .ok (.iload 5, 2) := by decide +kernel
theorem dX4_leastSum_71 : decode cX4_leastSum 71 = .ok (.iaload, 1) := by decide +kernel
theorem dX4_leastSum_72 : decode cX4_leastSum 72 = .ok (.lload_n 3, 1) := by decide +kernel
theorem dX4_leastSum_73 : decode cX4_leastSum 73 = .ok (.iconst 4, 1) := by decide +kernel
theorem dX4_leastSum_74 : decode cX4_leastSum 74 = .ok (.bipush 8, 2) := by decide +kernel
theorem dX4_leastSum_76 : decode cX4_leastSum 76 = .ok (.iload 5, 2) := by decide +kernel
theorem dX4_leastSum_78 : decode cX4_leastSum 78 = .ok (.isub, 1) := by decide +kernel
theorem dX4_leastSum_79 : decode cX4_leastSum 79 = .ok (.imul, 1) := by decide +kernel
theorem dX4_leastSum_80 : decode cX4_leastSum 80 = .ok (.lshr, 1) := by decide +kernel
theorem dX4_leastSum_81 : decode cX4_leastSum 81 = .ok (.l2i, 1) := by decide +kernel
theorem dX4_leastSum_82 : decode cX4_leastSum 82 = .ok (.bipush 15, 2) := by decide +kernel
theorem dX4_leastSum_84 : decode cX4_leastSum 84 = .ok (.iand, 1) := by decide +kernel
theorem dX4_leastSum_85 : decode cX4_leastSum 85 = .ok (.iastore, 1) := by decide +kernel
theorem dX4_leastSum_86 : decode cX4_leastSum 86 = .ok (.iinc 5 1, 3) := by decide +kernel
theorem dX4_leastSum_89 : decode cX4_leastSum 89 = .ok (.goto (-37), 3) := by decide +kernel
theorem dX4_leastSum_92 : decode cX4_leastSum 92 = .ok (.lload_n 3, 1) := by decide +kernel
theorem dX4_leastSum_93 : decode cX4_leastSum 93 = .ok (.bipush 36, 2) := by decide +kernel
theorem dX4_leastSum_95 : decode cX4_leastSum 95 = .ok (.lshr, 1) := by decide +kernel
theorem dX4_leastSum_96 : decode cX4_leastSum 96 = .ok (.l2i, 1) := by decide +kernel
theorem dX4_leastSum_97 : decode cX4_leastSum 97 = .ok (.ireturn, 1) := by decide +kernel
theorem dX4_leastKey_0 : decode cX4_leastKey 0 = .ok (.ldc2_w 48, 3) := by decide +kernel
theorem dX4_leastKey_3 : decode cX4_leastKey 3 = .ok (.lstore_n 3, 1) := by decide +kernel
theorem dX4_leastKey_4 : decode cX4_leastKey 4 = .ok (.iload_n 1, 1) := by decide +kernel
theorem dX4_leastKey_5 : decode cX4_leastKey 5 = .ok (.istore 5, 2) := by decide +kernel
theorem dX4_leastKey_7 : decode cX4_leastKey 7 = .ok (.iload 5, 2) := by decide +kernel
theorem dX4_leastKey_9 : decode cX4_leastKey 9 = .ok (.ifCond .le 51, 3) := by decide +kernel
theorem dX4_leastKey_12 : decode cX4_leastKey 12 = .ok (.iload_n 1, 1) := by decide +kernel
theorem dX4_leastKey_13 : decode cX4_leastKey 13 = .ok (.iload 5, 2) := by decide +kernel
theorem dX4_leastKey_15 : decode cX4_leastKey 15 = .ok (.isub, 1) := by decide +kernel
theorem dX4_leastKey_16 : decode cX4_leastKey 16 = .ok (.istore 6, 2) := by decide +kernel
theorem dX4_leastKey_18 : decode cX4_leastKey 18 = .ok (.aload_n 0, 1) := by decide +kernel
theorem dX4_leastKey_19 : decode cX4_leastKey 19 = .ok (.getfield 20, 3) := by decide +kernel
theorem dX4_leastKey_22 : decode cX4_leastKey 22 = .ok (.iload 5, 2) := by decide +kernel
theorem dX4_leastKey_24 : decode cX4_leastKey 24 = .ok (.iaload, 1) := by decide +kernel
theorem dX4_leastKey_25 : decode cX4_leastKey 25 = .ok (.iload_n 2, 1) := by decide +kernel
theorem dX4_leastKey_26 : decode cX4_leastKey 26 = .ok (.if_icmp .gt 23, 3) := by decide +kernel
theorem dX4_leastKey_29 : decode cX4_leastKey 29 = .ok (.lload_n 3, 1) := by decide +kernel
theorem dX4_leastKey_30 : decode cX4_leastKey 30 = .ok (.aload_n 0, 1) := by decide +kernel
theorem dX4_leastKey_31 : decode cX4_leastKey 31 = .ok (.getfield 27, 3) := by decide +kernel
theorem dX4_leastKey_34 : decode cX4_leastKey 34 = .ok (.iload 6, 2) := by decide +kernel
theorem dX4_leastKey_36 : decode cX4_leastKey 36 = .ok (.laload, 1) := by decide +kernel
theorem dX4_leastKey_37 : decode cX4_leastKey 37 = .ok (.aload_n 0, 1) := by decide +kernel
theorem dX4_leastKey_38 : decode cX4_leastKey 38 = .ok (.getfield 23, 3) := by decide +kernel
theorem dX4_leastKey_41 : decode cX4_leastKey 41 = .ok (.iload 6, 2) := by decide +kernel
theorem dX4_leastKey_43 : decode cX4_leastKey 43 = .ok (.laload, 1) := by decide +kernel
theorem dX4_leastKey_44 : decode cX4_leastKey 44 = .ok (.ladd, 1) := by decide +kernel
theorem dX4_leastKey_45 : decode cX4_leastKey 45 = .ok (.invokestatic 50, 3) := by decide +kernel
theorem dX4_leastKey_48 : decode cX4_leastKey 48 = .ok (.lstore_n 3, 1) := by decide +kernel
theorem dX4_leastKey_49 : decode cX4_leastKey 49 = .ok (.iload 5, 2) := by decide +kernel
theorem dX4_leastKey_51 : decode cX4_leastKey 51 = .ok (.iconst 1, 1) := by decide +kernel
theorem dX4_leastKey_52 : decode cX4_leastKey 52 = .ok (.isub, 1) := by decide +kernel
theorem dX4_leastKey_53 : decode cX4_leastKey 53 = .ok (.iload_n 1, 1) := by decide +kernel
theorem dX4_leastKey_54 : decode cX4_leastKey 54 = .ok (.iand, 1) := by decide +kernel
theorem dX4_leastKey_55 : decode cX4_leastKey 55 = .ok (.istore 5, 2) := by decide +kernel
theorem dX4_leastKey_57 : decode cX4_leastKey 57 = .ok (.goto (-50), 3) := by decide +kernel
theorem dX4_leastKey_60 : decode cX4_leastKey 60 = .ok (.lload_n 3, 1) := by decide +kernel
theorem dX4_leastKey_61 : decode cX4_leastKey 61 = .ok (.lreturn, 1) := by decide +kernel
theorem dX5_has_0 : decode cX5_has 0 = .ok (.iload_n 1, 1) := by decide +kernel
theorem dX5_has_1 : decode cX5_has 1 = .ok (.ifCond .lt 15, 3) := by decide +kernel
theorem dX5_has_4 : decode cX5_has 4 = .ok (.iload_n 1, 1) := by decide +kernel
theorem dX5_has_5 : decode cX5_has 5 = .ok (.aload_n 0, 1) := by decide +kernel
theorem dX5_has_6 : decode cX5_has 6 = .ok (.getfield 17, 3) := by decide +kernel
theorem dX5_has_9 : decode cX5_has 9 = .ok (.if_icmp .ge 7, 3) := by decide +kernel
theorem dX5_has_12 : decode cX5_has 12 = .ok (.iconst 1, 1) := by decide +kernel
theorem dX5_has_13 : decode cX5_has 13 = .ok (.goto 4, 3) := by decide +kernel
theorem dX5_has_16 : decode cX5_has 16 = .ok (.iconst 0, 1) := by decide +kernel
theorem dX5_has_17 : decode cX5_has 17 = .ok (.ireturn, 1) := by decide +kernel
theorem dX5_add_0 : decode cX5_add 0 = .ok (.aload_n 0, 1) := by decide +kernel
theorem dX5_add_1 : decode cX5_add 1 = .ok (.getfield 17, 3) := by decide +kernel
theorem dX5_add_4 : decode cX5_add 4 = .ok (.bipush 73, 2) := by decide +kernel
theorem dX5_add_6 : decode cX5_add 6 = .ok (.if_icmp .ge 34, 3) := by decide +kernel
theorem dX5_add_9 : decode cX5_add 9 = .ok (.aload_n 0, 1) := by decide +kernel
theorem dX5_add_10 : decode cX5_add 10 = .ok (.getfield 9, 3) := by decide +kernel
theorem dX5_add_13 : decode cX5_add 13 = .ok (.aload_n 0, 1) := by decide +kernel
theorem dX5_add_14 : decode cX5_add 14 = .ok (.getfield 17, 3) := by decide +kernel
theorem dX5_add_17 : decode cX5_add 17 = .ok (.iload_n 1, 1) := by decide +kernel
theorem dX5_add_18 : decode cX5_add 18 = .ok (.i2b, 1) := by decide +kernel
theorem dX5_add_19 : decode cX5_add 19 = .ok (.bastore, 1) := by decide +kernel
theorem dX5_add_20 : decode cX5_add 20 = .ok (.aload_n 0, 1) := by decide +kernel
theorem dX5_add_21 : decode cX5_add 21 = .ok (.getfield 13, 3) := by decide +kernel
theorem dX5_add_24 : decode cX5_add 24 = .ok (.aload_n 0, 1) := by decide +kernel
theorem dX5_add_25 : decode cX5_add 25 = .ok (.getfield 17, 3) := by decide +kernel
theorem dX5_add_28 : decode cX5_add 28 = .ok (.iload_n 2, 1) := by decide +kernel
theorem dX5_add_29 : decode cX5_add 29 = .ok (.iastore, 1) := by decide +kernel
theorem dX5_add_30 : decode cX5_add 30 = .ok (.aload_n 0, 1) := by decide +kernel
theorem dX5_add_31 : decode cX5_add 31 = .ok (.dup, 1) := by decide +kernel
theorem dX5_add_32 : decode cX5_add 32 = .ok (.getfield 17, 3) := by decide +kernel
theorem dX5_add_35 : decode cX5_add 35 = .ok (.iconst 1, 1) := by decide +kernel
theorem dX5_add_36 : decode cX5_add 36 = .ok (.iadd, 1) := by decide +kernel
theorem dX5_add_37 : decode cX5_add 37 = .ok (.putfield 17, 3) := by decide +kernel
theorem dX5_add_40 : decode cX5_add 40 = .ok (.return_, 1) := by decide +kernel
theorem dX5_readsAs_0 : decode cX5_readsAs 0 = .ok (.aload_n 0, 1) := by decide +kernel
theorem dX5_readsAs_1 : decode cX5_readsAs 1 = .ok (.getfield 17, 3) := by decide +kernel
theorem dX5_readsAs_4 : decode cX5_readsAs 4 = .ok (.aload_n 1, 1) := by decide +kernel
theorem dX5_readsAs_5 : decode cX5_readsAs 5 = .ok (.getfield 17, 3) := by decide +kernel
theorem dX5_readsAs_8 : decode cX5_readsAs 8 = .ok (.if_icmp .eq 5, 3) := by decide +kernel
theorem dX5_readsAs_11 : decode cX5_readsAs 11 = .ok (.iconst 0, 1) := by decide +kernel
theorem dX5_readsAs_12 : decode cX5_readsAs 12 = .ok (.ireturn, 1) := by decide +kernel
theorem dX5_readsAs_13 : decode cX5_readsAs 13 = .ok (.iconst 0, 1) := by decide +kernel
theorem dX5_readsAs_14 : decode cX5_readsAs 14 = .ok (.istore_n 2, 1) := by decide +kernel
theorem dX5_readsAs_15 : decode cX5_readsAs 15 = .ok (.iload_n 2, 1) := by decide +kernel
theorem dX5_readsAs_16 : decode cX5_readsAs 16 = .ok (.aload_n 0, 1) := by decide +kernel
theorem dX5_readsAs_17 : decode cX5_readsAs 17 = .ok (.getfield 17, 3) := by decide +kernel
theorem dX5_readsAs_20 : decode cX5_readsAs 20 = .ok (.if_icmp .ge 26, 3) := by decide +kernel
theorem dX5_readsAs_23 : decode cX5_readsAs 23 = .ok (.aload_n 0, 1) := by decide +kernel
theorem dX5_readsAs_24 : decode cX5_readsAs 24 = .ok (.getfield 9, 3) := by decide +kernel
theorem dX5_readsAs_27 : decode cX5_readsAs 27 = .ok (.iload_n 2, 1) := by decide +kernel
theorem dX5_readsAs_28 : decode cX5_readsAs 28 = .ok (.baload, 1) := by decide +kernel
theorem dX5_readsAs_29 : decode cX5_readsAs 29 = .ok (.aload_n 1, 1) := by decide +kernel
theorem dX5_readsAs_30 : decode cX5_readsAs 30 = .ok (.getfield 9, 3) := by decide +kernel
theorem dX5_readsAs_33 : decode cX5_readsAs 33 = .ok (.iload_n 2, 1) := by decide +kernel
theorem dX5_readsAs_34 : decode cX5_readsAs 34 = .ok (.baload, 1) := by decide +kernel
theorem dX5_readsAs_35 : decode cX5_readsAs 35 = .ok (.if_icmp .eq 5, 3) := by decide +kernel
theorem dX5_readsAs_38 : decode cX5_readsAs 38 = .ok (.iconst 0, 1) := by decide +kernel
theorem dX5_readsAs_39 : decode cX5_readsAs 39 = .ok (.ireturn, 1) := by decide +kernel
theorem dX5_readsAs_40 : decode cX5_readsAs 40 = .ok (.iinc 2 1, 3) := by decide +kernel
theorem dX5_readsAs_43 : decode cX5_readsAs 43 = .ok (.goto (-28), 3) := by decide +kernel
theorem dX5_readsAs_46 : decode cX5_readsAs 46 = .ok (.iconst 1, 1) := by decide +kernel
theorem dX5_readsAs_47 : decode cX5_readsAs 47 = .ok (.ireturn, 1) := by decide +kernel
theorem dX6_has_0 : decode cX6_has 0 = .ok (.iload_n 1, 1) := by decide +kernel
theorem dX6_has_1 : decode cX6_has 1 = .ok (.ifCond .lt 15, 3) := by decide +kernel
theorem dX6_has_4 : decode cX6_has 4 = .ok (.iload_n 1, 1) := by decide +kernel
theorem dX6_has_5 : decode cX6_has 5 = .ok (.aload_n 0, 1) := by decide +kernel
theorem dX6_has_6 : decode cX6_has 6 = .ok (.getfield 21, 3) := by decide +kernel
theorem dX6_has_9 : decode cX6_has 9 = .ok (.if_icmp .ge 7, 3) := by decide +kernel
theorem dX6_has_12 : decode cX6_has 12 = .ok (.iconst 1, 1) := by decide +kernel
theorem dX6_has_13 : decode cX6_has 13 = .ok (.goto 4, 3) := by decide +kernel
theorem dX6_has_16 : decode cX6_has 16 = .ok (.iconst 0, 1) := by decide +kernel
theorem dX6_has_17 : decode cX6_has 17 = .ok (.ireturn, 1) := by decide +kernel
theorem dX6_make_0 : decode cX6_make 0 = .ok (.aload_n 0, 1) := by decide +kernel
theorem dX6_make_1 : decode cX6_make 1 = .ok (.getfield 21, 3) := by decide +kernel
theorem dX6_make_4 : decode cX6_make 4 = .ok (.bipush 40, 2) := by decide +kernel
theorem dX6_make_6 : decode cX6_make 6 = .ok (.if_icmp .lt 6, 3) := by decide +kernel
theorem dX6_make_9 : decode cX6_make 9 = .ok (.bipush (-3), 2) := by decide +kernel
theorem dX6_make_11 : decode cX6_make 11 = .ok (.ireturn, 1) := by decide +kernel
theorem dX6_make_12 : decode cX6_make 12 = .ok (.aload_n 0, 1) := by decide +kernel
theorem dX6_make_13 : decode cX6_make 13 = .ok (.getfield 11, 3) := by decide +kernel
theorem dX6_make_16 : decode cX6_make 16 = .ok (.aload_n 0, 1) := by decide +kernel
theorem dX6_make_17 : decode cX6_make 17 = .ok (.getfield 21, 3) := by decide +kernel
theorem dX6_make_20 : decode cX6_make 20 = .ok (.iload_n 1, 1) := by decide +kernel
theorem dX6_make_21 : decode cX6_make 21 = .ok (.iastore, 1) := by decide +kernel
theorem dX6_make_22 : decode cX6_make 22 = .ok (.aload_n 0, 1) := by decide +kernel
theorem dX6_make_23 : decode cX6_make 23 = .ok (.getfield 15, 3) := by decide +kernel
theorem dX6_make_26 : decode cX6_make 26 = .ok (.aload_n 0, 1) := by decide +kernel
theorem dX6_make_27 : decode cX6_make 27 = .ok (.getfield 21, 3) := by decide +kernel
theorem dX6_make_30 : decode cX6_make 30 = .ok (.iload_n 2, 1) := by decide +kernel
theorem dX6_make_31 : decode cX6_make 31 = .ok (.iastore, 1) := by decide +kernel
theorem dX6_make_32 : decode cX6_make 32 = .ok (.aload_n 0, 1) := by decide +kernel
theorem dX6_make_33 : decode cX6_make 33 = .ok (.getfield 18, 3) := by decide +kernel
theorem dX6_make_36 : decode cX6_make 36 = .ok (.aload_n 0, 1) := by decide +kernel
theorem dX6_make_37 : decode cX6_make 37 = .ok (.getfield 21, 3) := by decide +kernel
theorem dX6_make_40 : decode cX6_make 40 = .ok (.iload_n 3, 1) := by decide +kernel
theorem dX6_make_41 : decode cX6_make 41 = .ok (.iastore, 1) := by decide +kernel
theorem dX6_make_42 : decode cX6_make 42 = .ok (.aload_n 0, 1) := by decide +kernel
theorem dX6_make_43 : decode cX6_make 43 = .ok (.dup, 1) := by decide +kernel
theorem dX6_make_44 : decode cX6_make 44 = .ok (.getfield 21, 3) := by decide +kernel
theorem dX6_make_47 : decode cX6_make 47 = .ok (.iconst 1, 1) := by decide +kernel
theorem dX6_make_48 : decode cX6_make 48 = .ok (.iadd, 1) := by decide +kernel
theorem dX6_make_49 : decode cX6_make 49 = .ok (.putfield 21, 3) := by decide +kernel
theorem dX6_make_52 : decode cX6_make 52 = .ok (.aload_n 0, 1) := by decide +kernel
theorem dX6_make_53 : decode cX6_make 53 = .ok (.getfield 21, 3) := by decide +kernel
theorem dX6_make_56 : decode cX6_make 56 = .ok (.iconst 1, 1) := by decide +kernel
theorem dX6_make_57 : decode cX6_make 57 = .ok (.isub, 1) := by decide +kernel
theorem dX6_make_58 : decode cX6_make 58 = .ok (.ireturn, 1) := by decide +kernel
theorem dX6_copyFrom_0 : decode cX6_copyFrom 0 = .ok (.aload_n 0, 1) := by decide +kernel
theorem dX6_copyFrom_1 : decode cX6_copyFrom 1 = .ok (.aload_n 1, 1) := by decide +kernel
theorem dX6_copyFrom_2 : decode cX6_copyFrom 2 = .ok (.getfield 21, 3) := by decide +kernel
theorem dX6_copyFrom_5 : decode cX6_copyFrom 5 = .ok (.putfield 21, 3) := by decide +kernel
theorem dX6_copyFrom_8 : decode cX6_copyFrom 8 = .ok (.aload_n 1, 1) := by decide +kernel
theorem dX6_copyFrom_9 : decode cX6_copyFrom 9 = .ok (.getfield 11, 3) := by decide +kernel
theorem dX6_copyFrom_12 : decode cX6_copyFrom 12 = .ok (.iconst 0, 1) := by decide +kernel
theorem dX6_copyFrom_13 : decode cX6_copyFrom 13 = .ok (.aload_n 0, 1) := by decide +kernel
theorem dX6_copyFrom_14 : decode cX6_copyFrom 14 = .ok (.getfield 11, 3) := by decide +kernel
theorem dX6_copyFrom_17 : decode cX6_copyFrom 17 = .ok (.iconst 0, 1) := by decide +kernel
theorem dX6_copyFrom_18 : decode cX6_copyFrom 18 = .ok (.aload_n 0, 1) := by decide +kernel
theorem dX6_copyFrom_19 : decode cX6_copyFrom 19 = .ok (.getfield 21, 3) := by decide +kernel
theorem dX6_copyFrom_22 : decode cX6_copyFrom 22 = .ok (.invokestatic 25, 3) := by decide +kernel
theorem dX6_copyFrom_25 : decode cX6_copyFrom 25 = .ok (.aload_n 1, 1) := by decide +kernel
theorem dX6_copyFrom_26 : decode cX6_copyFrom 26 = .ok (.getfield 15, 3) := by decide +kernel
theorem dX6_copyFrom_29 : decode cX6_copyFrom 29 = .ok (.iconst 0, 1) := by decide +kernel
theorem dX6_copyFrom_30 : decode cX6_copyFrom 30 = .ok (.aload_n 0, 1) := by decide +kernel
theorem dX6_copyFrom_31 : decode cX6_copyFrom 31 = .ok (.getfield 15, 3) := by decide +kernel
theorem dX6_copyFrom_34 : decode cX6_copyFrom 34 = .ok (.iconst 0, 1) := by decide +kernel
theorem dX6_copyFrom_35 : decode cX6_copyFrom 35 = .ok (.aload_n 0, 1) := by decide +kernel
theorem dX6_copyFrom_36 : decode cX6_copyFrom 36 = .ok (.getfield 21, 3) := by decide +kernel
theorem dX6_copyFrom_39 : decode cX6_copyFrom 39 = .ok (.invokestatic 25, 3) := by decide +kernel
theorem dX6_copyFrom_42 : decode cX6_copyFrom 42 = .ok (.aload_n 1, 1) := by decide +kernel
theorem dX6_copyFrom_43 : decode cX6_copyFrom 43 = .ok (.getfield 18, 3) := by decide +kernel
theorem dX6_copyFrom_46 : decode cX6_copyFrom 46 = .ok (.iconst 0, 1) := by decide +kernel
theorem dX6_copyFrom_47 : decode cX6_copyFrom 47 = .ok (.aload_n 0, 1) := by decide +kernel
theorem dX6_copyFrom_48 : decode cX6_copyFrom 48 = .ok (.getfield 18, 3) := by decide +kernel
theorem dX6_copyFrom_51 : decode cX6_copyFrom 51 = .ok (.iconst 0, 1) := by decide +kernel
theorem dX6_copyFrom_52 : decode cX6_copyFrom 52 = .ok (.aload_n 0, 1) := by decide +kernel
theorem dX6_copyFrom_53 : decode cX6_copyFrom 53 = .ok (.getfield 21, 3) := by decide +kernel
theorem dX6_copyFrom_56 : decode cX6_copyFrom 56 = .ok (.invokestatic 25, 3) := by decide +kernel
theorem dX6_copyFrom_59 : decode cX6_copyFrom 59 = .ok (.return_, 1) := by decide +kernel
theorem dX7_hasName_0 : decode cX7_hasName 0 = .ok (.iload_n 1, 1) := by decide +kernel
theorem dX7_hasName_1 : decode cX7_hasName 1 = .ok (.ifCond .lt 15, 3) := by decide +kernel
theorem dX7_hasName_4 : decode cX7_hasName 4 = .ok (.iload_n 1, 1) := by decide +kernel
theorem dX7_hasName_5 : decode cX7_hasName 5 = .ok (.aload_n 0, 1) := by decide +kernel
theorem dX7_hasName_6 : decode cX7_hasName 6 = .ok (.getfield 55, 3) := by decide +kernel
theorem dX7_hasName_9 : decode cX7_hasName 9 = .ok (.if_icmp .ge 7, 3) := by decide +kernel
theorem dX7_hasName_12 : decode cX7_hasName 12 = .ok (.iconst 1, 1) := by decide +kernel
theorem dX7_hasName_13 : decode cX7_hasName 13 = .ok (.goto 4, 3) := by decide +kernel
theorem dX7_hasName_16 : decode cX7_hasName 16 = .ok (.iconst 0, 1) := by decide +kernel
theorem dX7_hasName_17 : decode cX7_hasName 17 = .ok (.ireturn, 1) := by decide +kernel
theorem dX7_addName_0 : decode cX7_addName 0 = .ok (.aload_n 0, 1) := by decide +kernel
theorem dX7_addName_1 : decode cX7_addName 1 = .ok (.getfield 55, 3) := by decide +kernel
theorem dX7_addName_4 : decode cX7_addName 4 = .ok (.bipush 80, 2) := by decide +kernel
theorem dX7_addName_6 : decode cX7_addName 6 = .ok (.if_icmp .ge 12, 3) := by decide +kernel
theorem dX7_addName_9 : decode cX7_addName 9 = .ok (.aload_n 1, 1) := by decide +kernel
theorem dX7_addName_10 : decode cX7_addName 10 = .ok (.getfield 59, 3) := by decide +kernel
theorem dX7_addName_13 : decode cX7_addName 13 = .ok (.bipush 12, 2) := by decide +kernel
theorem dX7_addName_15 : decode cX7_addName 15 = .ok (.if_icmp .le 6, 3) := by decide +kernel
theorem dX7_addName_18 : decode cX7_addName 18 = .ok (.bipush (-3), 2) := by decide +kernel
theorem dX7_addName_20 : decode cX7_addName 20 = .ok (.ireturn, 1) := by decide +kernel
theorem dX7_addName_21 : decode cX7_addName 21 = .ok (.aload_n 0, 1) := by decide +kernel
theorem dX7_addName_22 : decode cX7_addName 22 = .ok (.getfield 11, 3) := by decide +kernel
theorem dX7_addName_25 : decode cX7_addName 25 = .ok (.aload_n 0, 1) := by decide +kernel
theorem dX7_addName_26 : decode cX7_addName 26 = .ok (.getfield 55, 3) := by decide +kernel
theorem dX7_addName_29 : decode cX7_addName 29 = .ok (.iload_n 2, 1) := by decide +kernel
theorem dX7_addName_30 : decode cX7_addName 30 = .ok (.iastore, 1) := by decide +kernel
theorem dX7_addName_31 : decode cX7_addName 31 = .ok (.aload_n 0, 1) := by decide +kernel
theorem dX7_addName_32 : decode cX7_addName 32 = .ok (.getfield 15, 3) := by decide +kernel
theorem dX7_addName_35 : decode cX7_addName 35 = .ok (.aload_n 0, 1) := by decide +kernel
theorem dX7_addName_36 : decode cX7_addName 36 = .ok (.getfield 55, 3) := by decide +kernel
theorem dX7_addName_39 : decode cX7_addName 39 = .ok (.iload_n 3, 1) := by decide +kernel
theorem dX7_addName_40 : decode cX7_addName 40 = .ok (.iastore, 1) := by decide +kernel
theorem dX7_addName_41 : decode cX7_addName 41 = .ok (.aload_n 0, 1) := by decide +kernel
theorem dX7_addName_42 : decode cX7_addName 42 = .ok (.getfield 18, 3) := by decide +kernel
theorem dX7_addName_45 : decode cX7_addName 45 = .ok (.aload_n 0, 1) := by decide +kernel
theorem dX7_addName_46 : decode cX7_addName 46 = .ok (.getfield 55, 3) := by decide +kernel
theorem dX7_addName_49 : decode cX7_addName 49 = .ok (.iload 4, 2) := by decide +kernel
theorem dX7_addName_51 : decode cX7_addName 51 = .ok (.iastore, 1) := by decide +kernel
theorem dX7_addName_52 : decode cX7_addName 52 = .ok (.aload_n 0, 1) := by decide +kernel
theorem dX7_addName_53 : decode cX7_addName 53 = .ok (.getfield 21, 3) := by decide +kernel
theorem dX7_addName_56 : decode cX7_addName 56 = .ok (.aload_n 0, 1) := by decide +kernel
theorem dX7_addName_57 : decode cX7_addName 57 = .ok (.getfield 55, 3) := by decide +kernel
theorem dX7_addName_60 : decode cX7_addName 60 = .ok (.aload_n 1, 1) := by decide +kernel
theorem dX7_addName_61 : decode cX7_addName 61 = .ok (.getfield 59, 3) := by decide +kernel
theorem dX7_addName_64 : decode cX7_addName 64 = .ok (.iastore, 1) := by decide +kernel
theorem dX7_addName_65 : decode cX7_addName 65 = .ok (.aload_n 0, 1) := by decide +kernel
theorem dX7_addName_66 : decode cX7_addName 66 = .ok (.getfield 55, 3) := by decide +kernel
theorem dX7_addName_69 : decode cX7_addName 69 = .ok (.bipush 14, 2) := by decide +kernel
theorem dX7_addName_71 : decode cX7_addName 71 = .ok (.imul, 1) := by decide +kernel
theorem dX7_addName_72 : decode cX7_addName 72 = .ok (.istore 5, 2) := by decide +kernel
theorem dX7_addName_74 : decode cX7_addName 74 = .ok (.aload_n 0, 1) := by decide +kernel
theorem dX7_addName_75 : decode cX7_addName 75 = .ok (.getfield 24, 3) := by decide +kernel
theorem dX7_addName_78 : decode cX7_addName 78 = .ok (.iload 5, 2) := by decide +kernel
theorem dX7_addName_80 : decode cX7_addName 80 = .ok (.bipush 123, 2) := by decide +kernel
theorem dX7_addName_82 : decode cX7_addName 82 = .ok (.bastore, 1) := by decide +kernel
theorem dX7_addName_83 : decode cX7_addName 83 = .ok (.aload_n 1, 1) := by decide +kernel
theorem dX7_addName_84 : decode cX7_addName 84 = .ok (.getfield 64, 3) := by decide +kernel
theorem dX7_addName_87 : decode cX7_addName 87 = .ok (.iconst 0, 1) := by decide +kernel
theorem dX7_addName_88 : decode cX7_addName 88 = .ok (.aload_n 0, 1) := by decide +kernel
theorem dX7_addName_89 : decode cX7_addName 89 = .ok (.getfield 24, 3) := by decide +kernel
theorem dX7_addName_92 : decode cX7_addName 92 = .ok (.iload 5, 2) := by decide +kernel
theorem dX7_addName_94 : decode cX7_addName 94 = .ok (.iconst 1, 1) := by decide +kernel
theorem dX7_addName_95 : decode cX7_addName 95 = .ok (.iadd, 1) := by decide +kernel
theorem dX7_addName_96 : decode cX7_addName 96 = .ok (.aload_n 1, 1) := by decide +kernel
theorem dX7_addName_97 : decode cX7_addName 97 = .ok (.getfield 59, 3) := by decide +kernel
theorem dX7_addName_100 : decode cX7_addName 100 = .ok (.invokestatic 67, 3) := by decide +kernel
theorem dX7_addName_103 : decode cX7_addName 103 = .ok (.aload_n 0, 1) := by decide +kernel
theorem dX7_addName_104 : decode cX7_addName 104 = .ok (.getfield 24, 3) := by decide +kernel
theorem dX7_addName_107 : decode cX7_addName 107 = .ok (.iload 5, 2) := by decide +kernel
theorem dX7_addName_109 : decode cX7_addName 109 = .ok (.iconst 1, 1) := by decide +kernel
theorem dX7_addName_110 : decode cX7_addName 110 = .ok (.iadd, 1) := by decide +kernel
theorem dX7_addName_111 : decode cX7_addName 111 = .ok (.aload_n 1, 1) := by decide +kernel
theorem dX7_addName_112 : decode cX7_addName 112 = .ok (.getfield 59, 3) := by decide +kernel
theorem dX7_addName_115 : decode cX7_addName 115 = .ok (.iadd, 1) := by decide +kernel
theorem dX7_addName_116 : decode cX7_addName 116 = .ok (.bipush 123, 2) := by decide +kernel
theorem dX7_addName_118 : decode cX7_addName 118 = .ok (.bastore, 1) := by decide +kernel
theorem dX7_addName_119 : decode cX7_addName 119 = .ok (.aload_n 0, 1) := by decide +kernel
theorem dX7_addName_120 : decode cX7_addName 120 = .ok (.dup, 1) := by decide +kernel
theorem dX7_addName_121 : decode cX7_addName 121 = .ok (.getfield 55, 3) := by decide +kernel
theorem dX7_addName_124 : decode cX7_addName 124 = .ok (.iconst 1, 1) := by decide +kernel
theorem dX7_addName_125 : decode cX7_addName 125 = .ok (.iadd, 1) := by decide +kernel
theorem dX7_addName_126 : decode cX7_addName 126 = .ok (.putfield 55, 3) := by decide +kernel
theorem dX7_addName_129 : decode cX7_addName 129 = .ok (.aload_n 0, 1) := by decide +kernel
theorem dX7_addName_130 : decode cX7_addName 130 = .ok (.getfield 55, 3) := by decide +kernel
theorem dX7_addName_133 : decode cX7_addName 133 = .ok (.iconst 1, 1) := by decide +kernel
theorem dX7_addName_134 : decode cX7_addName 134 = .ok (.isub, 1) := by decide +kernel
theorem dX7_addName_135 : decode cX7_addName 135 = .ok (.ireturn, 1) := by decide +kernel
theorem dX7_readSpelling_0 : decode cX7_readSpelling 0 = .ok (.aload_n 1, 1) := by decide +kernel
theorem dX7_readSpelling_1 : decode cX7_readSpelling 1 = .ok (.invokevirtual 73, 3) := by decide +kernel
theorem dX7_readSpelling_4 : decode cX7_readSpelling 4 = .ok (.iconst 0, 1) := by decide +kernel
theorem dX7_readSpelling_5 : decode cX7_readSpelling 5 = .ok (.istore 4, 2) := by decide +kernel
theorem dX7_readSpelling_7 : decode cX7_readSpelling 7 = .ok (.iconst 0, 1) := by decide +kernel
theorem dX7_readSpelling_8 : decode cX7_readSpelling 8 = .ok (.istore 5, 2) := by decide +kernel
theorem dX7_readSpelling_10 : decode cX7_readSpelling 10 = .ok (.iload 5, 2) := by decide +kernel
theorem dX7_readSpelling_12 : decode cX7_readSpelling 12 = .ok (.bipush 16, 2) := by decide +kernel
theorem dX7_readSpelling_14 : decode cX7_readSpelling 14 = .ok (.if_icmp .gt 74, 3) := by decide +kernel
theorem dX7_readSpelling_17 : decode cX7_readSpelling 17 = .ok (.aload_n 1, 1) := by decide +kernel
theorem dX7_readSpelling_18 : decode cX7_readSpelling 18 = .ok (.invokevirtual 76, 3) := by decide +kernel
theorem dX7_readSpelling_21 : decode cX7_readSpelling 21 = .ok (.ifCond .eq 67, 3) := by decide +kernel
theorem dX7_readSpelling_24 : decode cX7_readSpelling 24 = .ok (.aload_n 1, 1) := by decide +kernel
theorem dX7_readSpelling_25 : decode cX7_readSpelling 25 = .ok (.ldc 80, 2) := by decide +kernel
theorem dX7_readSpelling_27 : decode cX7_readSpelling 27 = .ok (.invokevirtual 81, 3) := by decide +kernel
theorem dX7_readSpelling_30 : decode cX7_readSpelling 30 = .ok (.ifCond .ne 19, 3) := by decide +kernel
theorem dX7_readSpelling_33 : decode cX7_readSpelling 33 = .ok (.aload_n 1, 1) := by decide +kernel
theorem dX7_readSpelling_34 : decode cX7_readSpelling 34 = .ok (.iconst 3, 1) := by decide +kernel
theorem dX7_readSpelling_35 : decode cX7_readSpelling 35 = .ok (.invokevirtual 85, 3) := by decide +kernel
theorem dX7_readSpelling_38 : decode cX7_readSpelling 38 = .ok (.ifCond .ne 11, 3) := by decide +kernel
theorem dX7_readSpelling_41 : decode cX7_readSpelling 41 = .ok (.aload_n 1, 1) := by decide +kernel
theorem dX7_readSpelling_42 : decode cX7_readSpelling 42 = .ok (.iconst 1, 1) := by decide +kernel
theorem dX7_readSpelling_43 : decode cX7_readSpelling 43 = .ok (.invokevirtual 89, 3) := by decide +kernel
theorem dX7_readSpelling_46 : decode cX7_readSpelling 46 = .ok (.goto 36, 3) := by decide +kernel
theorem dX7_readSpelling_49 : decode cX7_readSpelling 49 = .ok (.iload 4, 2) := by decide +kernel
theorem dX7_readSpelling_51 : decode cX7_readSpelling 51 = .ok (.bipush 16, 2) := by decide +kernel
theorem dX7_readSpelling_53 : decode cX7_readSpelling 53 = .ok (.if_icmp .lt 11, 3) := by decide +kernel
theorem dX7_readSpelling_56 : decode cX7_readSpelling 56 = .ok (.aload_n 1, 1) := by decide +kernel
theorem dX7_readSpelling_57 : decode cX7_readSpelling 57 = .ok (.iconst 3, 1) := by decide +kernel
theorem dX7_readSpelling_58 : decode cX7_readSpelling 58 = .ok (.invokevirtual 89, 3) := by decide +kernel
theorem dX7_readSpelling_61 : decode cX7_readSpelling 61 = .ok (.goto 21, 3) := by decide +kernel
theorem dX7_readSpelling_64 : decode cX7_readSpelling 64 = .ok (.aload_n 0, 1) := by decide +kernel
theorem dX7_readSpelling_65 : decode cX7_readSpelling 65 = .ok (.aload_n 1, 1) := by decide +kernel
theorem dX7_readSpelling_66 : decode cX7_readSpelling 66 = .ok (.aload_n 0, 1) := by decide +kernel
theorem dX7_readSpelling_67 : decode cX7_readSpelling 67 = .ok (.getfield 93, 3) := by decide +kernel
theorem dX7_readSpelling_70 : decode cX7_readSpelling 70 = .ok (.bipush 16, 2) := by decide +kernel
theorem dX7_readSpelling_72 : decode cX7_readSpelling 72 = .ok (.imul, 1) := by decide +kernel
theorem dX7_readSpelling_73 : decode cX7_readSpelling 73 = .ok (.iload 4, 2) := by decide +kernel
theorem dX7_readSpelling_75 : decode cX7_readSpelling 75 = .ok (.iadd, 1) := by decide +kernel
theorem dX7_readSpelling_76 : decode cX7_readSpelling 76 = .ok (.invokevirtual 96, 3) := by decide +kernel
theorem dX7_readSpelling_79 : decode cX7_readSpelling 79 = .ok (.iinc 4 1, 3) := by decide +kernel
theorem dX7_readSpelling_82 : decode cX7_readSpelling 82 = .ok (.iinc 5 1, 3) := by decide +kernel
theorem dX7_readSpelling_85 : decode cX7_readSpelling 85 = .ok (.goto (-75), 3) := by decide +kernel
theorem dX7_readSpelling_88 : decode cX7_readSpelling 88 = .ok (.aload_n 1, 1) := by decide +kernel
theorem dX7_readSpelling_89 : decode cX7_readSpelling 89 = .ok (.getfield 100, 3) := by decide +kernel
theorem dX7_readSpelling_92 : decode cX7_readSpelling 92 = .ok (.ifCond .ne 44, 3) := by decide +kernel
theorem dX7_readSpelling_95 : decode cX7_readSpelling 95 = .ok (.aload_n 0, 1) := by decide +kernel
theorem dX7_readSpelling_96 : decode cX7_readSpelling 96 = .ok (.getfield 28, 3) := by decide +kernel
theorem dX7_readSpelling_99 : decode cX7_readSpelling 99 = .ok (.aload_n 0, 1) := by decide +kernel
theorem dX7_readSpelling_100 : decode cX7_readSpelling 100 = .ok (.getfield 93, 3) := by decide +kernel
theorem dX7_readSpelling_103 : decode cX7_readSpelling 103 = .ok (.iload_n 2, 1) := by decide +kernel
theorem dX7_readSpelling_104 : decode cX7_readSpelling 104 = .ok (.iastore, 1) := by decide +kernel
theorem dX7_readSpelling_105 : decode cX7_readSpelling 105 = .ok (.aload_n 0, 1) := by decide +kernel
theorem dX7_readSpelling_106 : decode cX7_readSpelling 106 = .ok (.getfield 31, 3) := by decide +kernel
theorem dX7_readSpelling_109 : decode cX7_readSpelling 109 = .ok (.aload_n 0, 1) := by decide +kernel
theorem dX7_readSpelling_110 : decode cX7_readSpelling 110 = .ok (.getfield 93, 3) := by decide +kernel
theorem dX7_readSpelling_113 : decode cX7_readSpelling 113 = .ok (.iload_n 3, 1) := by decide +kernel
theorem dX7_readSpelling_114 : decode cX7_readSpelling 114 = .ok (.iastore, 1) := by decide +kernel
theorem dX7_readSpelling_115 : decode cX7_readSpelling 115 = .ok (.aload_n 0, 1) := by decide +kernel
theorem dX7_readSpelling_116 : decode cX7_readSpelling 116 = .ok (.getfield 34, 3) := by decide +kernel
theorem dX7_readSpelling_119 : decode cX7_readSpelling 119 = .ok (.aload_n 0, 1) := by decide +kernel
theorem dX7_readSpelling_120 : decode cX7_readSpelling 120 = .ok (.getfield 93, 3) := by decide +kernel
theorem dX7_readSpelling_123 : decode cX7_readSpelling 123 = .ok (.iload 4, 2) := by decide +kernel
theorem dX7_readSpelling_125 : decode cX7_readSpelling 125 = .ok (.iastore, 1) := by decide +kernel
theorem dX7_readSpelling_126 : decode cX7_readSpelling 126 = .ok (.aload_n 0, 1) := by decide +kernel
theorem dX7_readSpelling_127 : decode cX7_readSpelling 127 = .ok (.dup, 1) := by decide +kernel
theorem dX7_readSpelling_128 : decode cX7_readSpelling 128 = .ok (.getfield 93, 3) := by decide +kernel
theorem dX7_readSpelling_131 : decode cX7_readSpelling 131 = .ok (.iconst 1, 1) := by decide +kernel
theorem dX7_readSpelling_132 : decode cX7_readSpelling 132 = .ok (.iadd, 1) := by decide +kernel
theorem dX7_readSpelling_133 : decode cX7_readSpelling 133 = .ok (.putfield 93, 3) := by decide +kernel
theorem dX7_readSpelling_136 : decode cX7_readSpelling 136 = .ok (.iload 4, 2) := by decide +kernel
theorem dX7_readSpelling_138 : decode cX7_readSpelling 138 = .ok (.ireturn, 1) := by decide +kernel
theorem dX7_readRule_0 : decode cX7_readRule 0 = .ok (.aload_n 0, 1) := by decide +kernel
theorem dX7_readRule_1 : decode cX7_readRule 1 = .ok (.getfield 37, 3) := by decide +kernel
theorem dX7_readRule_4 : decode cX7_readRule 4 = .ok (.iload_n 2, 1) := by decide +kernel
theorem dX7_readRule_5 : decode cX7_readRule 5 = .ok (.ldc 103, 2) := by decide +kernel
theorem dX7_readRule_7 : decode cX7_readRule 7 = .ok (.iastore, 1) := by decide +kernel
theorem dX7_readRule_8 : decode cX7_readRule 8 = .ok (.aload_n 0, 1) := by decide +kernel
theorem dX7_readRule_9 : decode cX7_readRule 9 = .ok (.getfield 40, 3) := by decide +kernel
theorem dX7_readRule_12 : decode cX7_readRule 12 = .ok (.iload_n 2, 1) := by decide +kernel
theorem dX7_readRule_13 : decode cX7_readRule 13 = .ok (.ldc 103, 2) := by decide +kernel
theorem dX7_readRule_15 : decode cX7_readRule 15 = .ok (.iastore, 1) := by decide +kernel
theorem dX7_readRule_16 : decode cX7_readRule 16 = .ok (.aload_n 0, 1) := by decide +kernel
theorem dX7_readRule_17 : decode cX7_readRule 17 = .ok (.getfield 46, 3) := by decide +kernel
theorem dX7_readRule_20 : decode cX7_readRule 20 = .ok (.iload_n 2, 1) := by decide +kernel
theorem dX7_readRule_21 : decode cX7_readRule 21 = .ok (.iconst 0, 1) := by decide +kernel
theorem dX7_readRule_22 : decode cX7_readRule 22 = .ok (.iastore, 1) := by decide +kernel
theorem dX7_readRule_23 : decode cX7_readRule 23 = .ok (.aload_n 1, 1) := by decide +kernel
theorem dX7_readRule_24 : decode cX7_readRule 24 = .ok (.ldc 80, 2) := by decide +kernel
theorem dX7_readRule_26 : decode cX7_readRule 26 = .ok (.invokevirtual 81, 3) := by decide +kernel
theorem dX7_readRule_29 : decode cX7_readRule 29 = .ok (.ifCond .eq 18, 3) := by decide +kernel
theorem dX7_readRule_32 : decode cX7_readRule 32 = .ok (.aload_n 1, 1) := by decide +kernel
theorem dX7_readRule_33 : decode cX7_readRule 33 = .ok (.invokevirtual 104, 3) := by decide +kernel
theorem dX7_readRule_36 : decode cX7_readRule 36 = .ok (.aload_n 0, 1) := by decide +kernel
theorem dX7_readRule_37 : decode cX7_readRule 37 = .ok (.getfield 37, 3) := by decide +kernel
theorem dX7_readRule_40 : decode cX7_readRule 40 = .ok (.iload_n 2, 1) := by decide +kernel
theorem dX7_readRule_41 : decode cX7_readRule 41 = .ok (.aload_n 0, 1) := by decide +kernel
theorem dX7_readRule_42 : decode cX7_readRule 42 = .ok (.aload_n 1, 1) := by decide +kernel
theorem dX7_readRule_43 : decode cX7_readRule 43 = .ok (.invokevirtual 107, 3) := by decide +kernel
theorem dX7_readRule_46 : decode cX7_readRule 46 = .ok (.iastore, 1) := by decide +kernel
theorem dX7_readRule_47 : decode cX7_readRule 47 = .ok (.aload_n 0, 1) := by decide +kernel
theorem dX7_readRule_48 : decode cX7_readRule 48 = .ok (.getfield 43, 3) := by decide +kernel
theorem dX7_readRule_51 : decode cX7_readRule 51 = .ok (.iload_n 2, 1) := by decide +kernel
theorem dX7_readRule_52 : decode cX7_readRule 52 = .ok (.aload_n 0, 1) := by decide +kernel
theorem dX7_readRule_53 : decode cX7_readRule 53 = .ok (.aload_n 1, 1) := by decide +kernel
theorem dX7_readRule_54 : decode cX7_readRule 54 = .ok (.aload_n 0, 1) := by decide +kernel
theorem dX7_readRule_55 : decode cX7_readRule 55 = .ok (.getfield 49, 3) := by decide +kernel
theorem dX7_readRule_58 : decode cX7_readRule 58 = .ok (.iload_n 2, 1) := by decide +kernel
theorem dX7_readRule_59 : decode cX7_readRule 59 = .ok (.iconst 3, 1) := by decide +kernel
theorem dX7_readRule_60 : decode cX7_readRule 60 = .ok (.imul, 1) := by decide +kernel
theorem dX7_readRule_61 : decode cX7_readRule 61 = .ok (.invokevirtual 111, 3) := by decide +kernel
theorem dX7_readRule_64 : decode cX7_readRule 64 = .ok (.iastore, 1) := by decide +kernel
theorem dX7_readRule_65 : decode cX7_readRule 65 = .ok (.aload_n 1, 1) := by decide +kernel
theorem dX7_readRule_66 : decode cX7_readRule 66 = .ok (.bipush 62, 2) := by decide +kernel
theorem dX7_readRule_68 : decode cX7_readRule 68 = .ok (.invokevirtual 115, 3) := by decide +kernel
theorem dX7_readRule_71 : decode cX7_readRule 71 = .ok (.aload_n 1, 1) := by decide +kernel
theorem dX7_readRule_72 : decode cX7_readRule 72 = .ok (.bipush 45, 2) := by decide +kernel
theorem dX7_readRule_74 : decode cX7_readRule 74 = .ok (.invokevirtual 119, 3) := by decide +kernel
theorem dX7_readRule_77 : decode cX7_readRule 77 = .ok (.ifCond .eq 10, 3) := by decide +kernel
theorem dX7_readRule_80 : decode cX7_readRule 80 = .ok (.aload_n 1, 1) := by decide +kernel
theorem dX7_readRule_81 : decode cX7_readRule 81 = .ok (.invokevirtual 104, 3) := by decide +kernel
theorem dX7_readRule_84 : decode cX7_readRule 84 = .ok (.goto 21, 3) := by decide +kernel
theorem dX7_readRule_87 : decode cX7_readRule 87 = .ok (.aload_n 0, 1) := by decide +kernel
theorem dX7_readRule_88 : decode cX7_readRule 88 = .ok (.getfield 46, 3) := by decide +kernel
theorem dX7_readRule_91 : decode cX7_readRule 91 = .ok (.iload_n 2, 1) := by decide +kernel
theorem dX7_readRule_92 : decode cX7_readRule 92 = .ok (.aload_n 0, 1) := by decide +kernel
theorem dX7_readRule_93 : decode cX7_readRule 93 = .ok (.aload_n 1, 1) := by decide +kernel
theorem dX7_readRule_94 : decode cX7_readRule 94 = .ok (.aload_n 0, 1) := by decide +kernel
theorem dX7_readRule_95 : decode cX7_readRule 95 = .ok (.getfield 52, 3) := by decide +kernel
theorem dX7_readRule_98 : decode cX7_readRule 98 = .ok (.iload_n 2, 1) := by decide +kernel
theorem dX7_readRule_99 : decode cX7_readRule 99 = .ok (.iconst 3, 1) := by decide +kernel
theorem dX7_readRule_100 : decode cX7_readRule 100 = .ok (.imul, 1) := by decide +kernel
theorem dX7_readRule_101 : decode cX7_readRule 101 = .ok (.invokevirtual 111, 3) := by decide +kernel
theorem dX7_readRule_104 : decode cX7_readRule 104 = .ok (.iastore, 1) := by decide +kernel
theorem dX7_readRule_105 : decode cX7_readRule 105 = .ok (.aload_n 1, 1) := by decide +kernel
theorem dX7_readRule_106 : decode cX7_readRule 106 = .ok (.ldc 123, 2) := by decide +kernel
theorem dX7_readRule_108 : decode cX7_readRule 108 = .ok (.invokevirtual 81, 3) := by decide +kernel
theorem dX7_readRule_111 : decode cX7_readRule 111 = .ok (.ifCond .eq 18, 3) := by decide +kernel
theorem dX7_readRule_114 : decode cX7_readRule 114 = .ok (.aload_n 1, 1) := by decide +kernel
theorem dX7_readRule_115 : decode cX7_readRule 115 = .ok (.invokevirtual 104, 3) := by decide +kernel
theorem dX7_readRule_118 : decode cX7_readRule 118 = .ok (.aload_n 0, 1) := by decide +kernel
theorem dX7_readRule_119 : decode cX7_readRule 119 = .ok (.getfield 40, 3) := by decide +kernel
theorem dX7_readRule_122 : decode cX7_readRule 122 = .ok (.iload_n 2, 1) := by decide +kernel
theorem dX7_readRule_123 : decode cX7_readRule 123 = .ok (.aload_n 0, 1) := by decide +kernel
theorem dX7_readRule_124 : decode cX7_readRule 124 = .ok (.aload_n 1, 1) := by decide +kernel
theorem dX7_readRule_125 : decode cX7_readRule 125 = .ok (.invokevirtual 107, 3) := by decide +kernel
theorem dX7_readRule_128 : decode cX7_readRule 128 = .ok (.iastore, 1) := by decide +kernel
theorem dX7_readRule_129 : decode cX7_readRule 129 = .ok (.aload_n 1, 1) := by decide +kernel
theorem dX7_readRule_130 : decode cX7_readRule 130 = .ok (.bipush 59, 2) := by decide +kernel
theorem dX7_readRule_132 : decode cX7_readRule 132 = .ok (.invokevirtual 115, 3) := by decide +kernel
theorem dX7_readRule_135 : decode cX7_readRule 135 = .ok (.return_, 1) := by decide +kernel
theorem dX7_readSet_0 : decode cX7_readSet 0 = .ok (.iconst 0, 1) := by decide +kernel
theorem dX7_readSet_1 : decode cX7_readSet 1 = .ok (.istore_n 2, 1) := by decide +kernel
theorem dX7_readSet_2 : decode cX7_readSet 2 = .ok (.aload_n 1, 1) := by decide +kernel
theorem dX7_readSet_3 : decode cX7_readSet 3 = .ok (.bipush 35, 2) := by decide +kernel
theorem dX7_readSet_5 : decode cX7_readSet 5 = .ok (.invokevirtual 119, 3) := by decide +kernel
theorem dX7_readSet_8 : decode cX7_readSet 8 = .ok (.ifCond .eq 13, 3) := by decide +kernel
theorem dX7_readSet_11 : decode cX7_readSet 11 = .ok (.ldc 124, 2) := by decide +kernel
theorem dX7_readSet_13 : decode cX7_readSet 13 = .ok (.istore_n 2, 1) := by decide +kernel
theorem dX7_readSet_14 : decode cX7_readSet 14 = .ok (.aload_n 1, 1) := by decide +kernel
theorem dX7_readSet_15 : decode cX7_readSet 15 = .ok (.invokevirtual 104, 3) := by decide +kernel
theorem dX7_readSet_18 : decode cX7_readSet 18 = .ok (.goto 75, 3) := by decide +kernel
theorem dX7_readSet_21 : decode cX7_readSet 21 = .ok (.aload_n 1, 1) := by decide +kernel
theorem dX7_readSet_22 : decode cX7_readSet 22 = .ok (.bipush 26, 2) := by decide +kernel
theorem dX7_readSet_24 : decode cX7_readSet 24 = .ok (.invokevirtual 85, 3) := by decide +kernel
theorem dX7_readSet_27 : decode cX7_readSet 27 = .ok (.ifCond .eq 61, 3) := by decide +kernel
theorem dX7_readSet_30 : decode cX7_readSet 30 = .ok (.aload_n 1, 1) := by decide +kernel
theorem dX7_readSet_31 : decode cX7_readSet 31 = .ok (.ldc 80, 2) := by decide +kernel
theorem dX7_readSet_33 : decode cX7_readSet 33 = .ok (.invokevirtual 81, 3) := by decide +kernel
theorem dX7_readSet_36 : decode cX7_readSet 36 = .ok (.ifCond .ne 52, 3) := by decide +kernel
theorem dX7_readSet_39 : decode cX7_readSet 39 = .ok (.aload_n 1, 1) := by decide +kernel
theorem dX7_readSet_40 : decode cX7_readSet 40 = .ok (.ldc 123, 2) := by decide +kernel
theorem dX7_readSet_42 : decode cX7_readSet 42 = .ok (.invokevirtual 81, 3) := by decide +kernel
theorem dX7_readSet_45 : decode cX7_readSet 45 = .ok (.ifCond .ne 43, 3) := by decide +kernel
theorem dX7_readSet_48 : decode cX7_readSet 48 = .ok (.aload_n 1, 1) := by decide +kernel
theorem dX7_readSet_49 : decode cX7_readSet 49 = .ok (.getfield 125, 3) := by decide +kernel
theorem dX7_readSet_52 : decode cX7_readSet 52 = .ok (.istore_n 3, 1) := by decide +kernel
theorem dX7_readSet_53 : decode cX7_readSet 53 = .ok (.iload_n 3, 1) := by decide +kernel
theorem dX7_readSet_54 : decode cX7_readSet 54 = .ok (.aload_n 1, 1) := by decide +kernel
theorem dX7_readSet_55 : decode cX7_readSet 55 = .ok (.getfield 128, 3) := by decide +kernel
theorem dX7_readSet_58 : decode cX7_readSet 58 = .ok (.if_icmp .ge 23, 3) := by decide +kernel
theorem dX7_readSet_61 : decode cX7_readSet 61 = .ok (.iload_n 2, 1) := by decide +kernel
theorem dX7_readSet_62 : decode cX7_readSet 62 = .ok (.iconst 1, 1) := by decide +kernel
theorem dX7_readSet_63 : decode cX7_readSet 63 = .ok (.aload_n 1, 1) := by decide +kernel
theorem dX7_readSet_64 : decode cX7_readSet 64 = .ok (.getfield 64, 3) := by decide +kernel
theorem dX7_readSet_67 : decode cX7_readSet 67 = .ok (.iload_n 3, 1) := by decide +kernel
theorem dX7_readSet_68 : decode cX7_readSet 68 = .ok (.baload, 1) := by decide +kernel
theorem dX7_readSet_69 : decode cX7_readSet 69 = .ok (.bipush 97, 2) := by decide +kernel
theorem dX7_readSet_71 : decode cX7_readSet 71 = .ok (.isub, 1) := by decide +kernel
theorem dX7_readSet_72 : decode cX7_readSet 72 = .ok (.ishl, 1) := by decide +kernel
theorem dX7_readSet_73 : decode cX7_readSet 73 = .ok (.ior, 1) := by decide +kernel
theorem dX7_readSet_74 : decode cX7_readSet 74 = .ok (.istore_n 2, 1) := by decide +kernel
theorem dX7_readSet_75 : decode cX7_readSet 75 = .ok (.iinc 3 1, 3) := by decide +kernel
theorem dX7_readSet_78 : decode cX7_readSet 78 = .ok (.goto (-25), 3) := by decide +kernel
theorem dX7_readSet_81 : decode cX7_readSet 81 = .ok (.aload_n 1, 1) := by decide +kernel
theorem dX7_readSet_82 : decode cX7_readSet 82 = .ok (.invokevirtual 104, 3) := by decide +kernel
theorem dX7_readSet_85 : decode cX7_readSet 85 = .ok (.goto 8, 3) := by decide +kernel
theorem dX7_readSet_88 : decode cX7_readSet 88 = .ok (.aload_n 1, 1) := by decide +kernel
theorem dX7_readSet_89 : decode cX7_readSet 89 = .ok (.iconst 1, 1) := by decide +kernel
theorem dX7_readSet_90 : decode cX7_readSet 90 = .ok (.invokevirtual 89, 3) := by decide +kernel
theorem dX7_readSet_93 : decode cX7_readSet 93 = .ok (.iload_n 2, 1) := by decide +kernel
theorem dX7_readSet_94 : decode cX7_readSet 94 = .ok (.ireturn, 1) := by decide +kernel
theorem dX7_readWord_0 : decode cX7_readWord 0 = .ok (.aload_n 1, 1) := by decide +kernel
theorem dX7_readWord_1 : decode cX7_readWord 1 = .ok (.iconst 3, 1) := by decide +kernel
theorem dX7_readWord_2 : decode cX7_readWord 2 = .ok (.invokevirtual 85, 3) := by decide +kernel
theorem dX7_readWord_5 : decode cX7_readWord 5 = .ok (.ifCond .ne 10, 3) := by decide +kernel
theorem dX7_readWord_8 : decode cX7_readWord 8 = .ok (.aload_n 1, 1) := by decide +kernel
theorem dX7_readWord_9 : decode cX7_readWord 9 = .ok (.iconst 1, 1) := by decide +kernel
theorem dX7_readWord_10 : decode cX7_readWord 10 = .ok (.invokevirtual 89, 3) := by decide +kernel
theorem dX7_readWord_13 : decode cX7_readWord 13 = .ok (.iconst 0, 1) := by decide +kernel
theorem dX7_readWord_14 : decode cX7_readWord 14 = .ok (.ireturn, 1) := by decide +kernel
theorem dX7_readWord_15 : decode cX7_readWord 15 = .ok (.aload_n 1, 1) := by decide +kernel
theorem dX7_readWord_16 : decode cX7_readWord 16 = .ok (.getfield 128, 3) := by decide +kernel
theorem dX7_readWord_19 : decode cX7_readWord 19 = .ok (.aload_n 1, 1) := by decide +kernel
theorem dX7_readWord_20 : decode cX7_readWord 20 = .ok (.getfield 125, 3) := by decide +kernel
theorem dX7_readWord_23 : decode cX7_readWord 23 = .ok (.isub, 1) := by decide +kernel
theorem dX7_readWord_24 : decode cX7_readWord 24 = .ok (.istore 4, 2) := by decide +kernel
theorem dX7_readWord_26 : decode cX7_readWord 26 = .ok (.aload_n 1, 1) := by decide +kernel
theorem dX7_readWord_27 : decode cX7_readWord 27 = .ok (.getfield 64, 3) := by decide +kernel
theorem dX7_readWord_30 : decode cX7_readWord 30 = .ok (.aload_n 1, 1) := by decide +kernel
theorem dX7_readWord_31 : decode cX7_readWord 31 = .ok (.getfield 125, 3) := by decide +kernel
theorem dX7_readWord_34 : decode cX7_readWord 34 = .ok (.aload_n 2, 1) := by decide +kernel
theorem dX7_readWord_35 : decode cX7_readWord 35 = .ok (.iload_n 3, 1) := by decide +kernel
theorem dX7_readWord_36 : decode cX7_readWord 36 = .ok (.iload 4, 2) := by decide +kernel
theorem dX7_readWord_38 : decode cX7_readWord 38 = .ok (.invokestatic 67, 3) := by decide +kernel
theorem dX7_readWord_41 : decode cX7_readWord 41 = .ok (.aload_n 1, 1) := by decide +kernel
theorem dX7_readWord_42 : decode cX7_readWord 42 = .ok (.invokevirtual 104, 3) := by decide +kernel
theorem dX7_readWord_45 : decode cX7_readWord 45 = .ok (.iload 4, 2) := by decide +kernel
theorem dX7_readWord_47 : decode cX7_readWord 47 = .ok (.ireturn, 1) := by decide +kernel
theorem dX7_spellingAt_0 : decode cX7_spellingAt 0 = .ok (.aload_n 0, 1) := by decide +kernel
theorem dX7_spellingAt_1 : decode cX7_spellingAt 1 = .ok (.getfield 93, 3) := by decide +kernel
theorem dX7_spellingAt_4 : decode cX7_spellingAt 4 = .ok (.iconst 1, 1) := by decide +kernel
theorem dX7_spellingAt_5 : decode cX7_spellingAt 5 = .ok (.isub, 1) := by decide +kernel
theorem dX7_spellingAt_6 : decode cX7_spellingAt 6 = .ok (.istore_n 3, 1) := by decide +kernel
theorem dX7_spellingAt_7 : decode cX7_spellingAt 7 = .ok (.iload_n 3, 1) := by decide +kernel
theorem dX7_spellingAt_8 : decode cX7_spellingAt 8 = .ok (.ifCond .lt 31, 3) := by decide +kernel
theorem dX7_spellingAt_11 : decode cX7_spellingAt 11 = .ok (.aload_n 0, 1) := by decide +kernel
theorem dX7_spellingAt_12 : decode cX7_spellingAt 12 = .ok (.getfield 28, 3) := by decide +kernel
theorem dX7_spellingAt_15 : decode cX7_spellingAt 15 = .ok (.iload_n 3, 1) := by decide +kernel
theorem dX7_spellingAt_16 : decode cX7_spellingAt 16 = .ok (.iaload, 1) := by decide +kernel
theorem dX7_spellingAt_17 : decode cX7_spellingAt 17 = .ok (.iload_n 1, 1) := by decide +kernel
theorem dX7_spellingAt_18 : decode cX7_spellingAt 18 = .ok (.if_icmp .ne 15, 3) := by decide +kernel
theorem dX7_spellingAt_21 : decode cX7_spellingAt 21 = .ok (.aload_n 0, 1) := by decide +kernel
theorem dX7_spellingAt_22 : decode cX7_spellingAt 22 = .ok (.getfield 31, 3) := by decide +kernel
theorem dX7_spellingAt_25 : decode cX7_spellingAt 25 = .ok (.iload_n 3, 1) := by decide +kernel
theorem dX7_spellingAt_26 : decode cX7_spellingAt 26 = .ok (.iaload, 1) := by decide +kernel
theorem dX7_spellingAt_27 : decode cX7_spellingAt 27 = .ok (.iload_n 2, 1) := by decide +kernel
theorem dX7_spellingAt_28 : decode cX7_spellingAt 28 = .ok (.if_icmp .gt 5, 3) := by decide +kernel
theorem dX7_spellingAt_31 : decode cX7_spellingAt 31 = .ok (.iload_n 3, 1) := by decide +kernel
theorem dX7_spellingAt_32 : decode cX7_spellingAt 32 = .ok (.ireturn, 1) := by decide +kernel
theorem dX7_spellingAt_33 : decode cX7_spellingAt 33 = .ok (.iinc 3 (-1), 3) := by decide +kernel
theorem dX7_spellingAt_36 : decode cX7_spellingAt 36 = .ok (.goto (-29), 3) := by decide +kernel
theorem dX7_spellingAt_39 : decode cX7_spellingAt 39 = .ok (.iconst (-1), 1) := by decide +kernel
theorem dX7_spellingAt_40 : decode cX7_spellingAt 40 = .ok (.ireturn, 1) := by decide +kernel
theorem dX7_spellInto_0 : decode cX7_spellInto 0 = .ok (.aload_n 0, 1) := by decide +kernel
theorem dX7_spellInto_1 : decode cX7_spellInto 1 = .ok (.aload_n 0, 1) := by decide +kernel
theorem dX7_spellInto_2 : decode cX7_spellInto 2 = .ok (.getfield 15, 3) := by decide +kernel
theorem dX7_spellInto_5 : decode cX7_spellInto 5 = .ok (.iload_n 2, 1) := by decide +kernel
theorem dX7_spellInto_6 : decode cX7_spellInto 6 = .ok (.iaload, 1) := by decide +kernel
theorem dX7_spellInto_7 : decode cX7_spellInto 7 = .ok (.iload_n 3, 1) := by decide +kernel
theorem dX7_spellInto_8 : decode cX7_spellInto 8 = .ok (.invokevirtual 131, 3) := by decide +kernel
theorem dX7_spellInto_11 : decode cX7_spellInto 11 = .ok (.istore 4, 2) := by decide +kernel
theorem dX7_spellInto_13 : decode cX7_spellInto 13 = .ok (.iload_n 2, 1) := by decide +kernel
theorem dX7_spellInto_14 : decode cX7_spellInto 14 = .ok (.bipush 14, 2) := by decide +kernel
theorem dX7_spellInto_16 : decode cX7_spellInto 16 = .ok (.imul, 1) := by decide +kernel
theorem dX7_spellInto_17 : decode cX7_spellInto 17 = .ok (.iconst 1, 1) := by decide +kernel
theorem dX7_spellInto_18 : decode cX7_spellInto 18 = .ok (.iadd, 1) := by decide +kernel
theorem dX7_spellInto_19 : decode cX7_spellInto 19 = .ok (.istore 5, 2) := by decide +kernel
theorem dX7_spellInto_21 : decode cX7_spellInto 21 = .ok (.iload 5, 2) := by decide +kernel
theorem dX7_spellInto_23 : decode cX7_spellInto 23 = .ok (.aload_n 0, 1) := by decide +kernel
theorem dX7_spellInto_24 : decode cX7_spellInto 24 = .ok (.getfield 21, 3) := by decide +kernel
theorem dX7_spellInto_27 : decode cX7_spellInto 27 = .ok (.iload_n 2, 1) := by decide +kernel
theorem dX7_spellInto_28 : decode cX7_spellInto 28 = .ok (.iaload, 1) := by decide +kernel
theorem dX7_spellInto_29 : decode cX7_spellInto 29 = .ok (.iadd, 1) := by decide +kernel
theorem dX7_spellInto_30 : decode cX7_spellInto 30 = .ok (.istore 6, 2) := by decide +kernel
theorem dX7_spellInto_32 : decode cX7_spellInto 32 = .ok (.iconst 0, 1) := by decide +kernel
theorem dX7_spellInto_33 : decode cX7_spellInto 33 = .ok (.istore 7, 2) := by decide +kernel
theorem dX7_spellInto_35 : decode cX7_spellInto 35 = .ok (.iload 7, 2) := by decide +kernel
theorem dX7_spellInto_37 : decode cX7_spellInto 37 = .ok (.bipush 12, 2) := by decide +kernel
theorem dX7_spellInto_39 : decode cX7_spellInto 39 = .ok (.if_icmp .ge 120, 3) := by decide +kernel
theorem dX7_spellInto_42 : decode cX7_spellInto 42 = .ok (.iload 5, 2) := by decide +kernel
theorem dX7_spellInto_44 : decode cX7_spellInto 44 = .ok (.iload 6, 2) := by decide +kernel
theorem dX7_spellInto_46 : decode cX7_spellInto 46 = .ok (.if_icmp .ge 113, 3) := by decide +kernel
theorem dX7_spellInto_49 : decode cX7_spellInto 49 = .ok (.aload_n 0, 1) := by decide +kernel
theorem dX7_spellInto_50 : decode cX7_spellInto 50 = .ok (.iload 4, 2) := by decide +kernel
theorem dX7_spellInto_52 : decode cX7_spellInto 52 = .ok (.iload 5, 2) := by decide +kernel
theorem dX7_spellInto_54 : decode cX7_spellInto 54 = .ok (.iload 6, 2) := by decide +kernel
theorem dX7_spellInto_56 : decode cX7_spellInto 56 = .ok (.invokevirtual 135, 3) := by decide +kernel
theorem dX7_spellInto_59 : decode cX7_spellInto 59 = .ok (.istore 8, 2) := by decide +kernel
theorem dX7_spellInto_61 : decode cX7_spellInto 61 = .ok (.iload 8, 2) := by decide +kernel
theorem dX7_spellInto_63 : decode cX7_spellInto 63 = .ok (.iconst (-1), 1) := by decide +kernel
theorem dX7_spellInto_64 : decode cX7_spellInto 64 = .ok (.if_icmp .ne 22, 3) := by decide +kernel
theorem dX7_spellInto_67 : decode cX7_spellInto 67 = .ok (.aload_n 1, 1) := by decide +kernel
theorem dX7_spellInto_68 : decode cX7_spellInto 68 = .ok (.aload_n 0, 1) := by decide +kernel
theorem dX7_spellInto_69 : decode cX7_spellInto 69 = .ok (.getfield 24, 3) := by decide +kernel
theorem dX7_spellInto_72 : decode cX7_spellInto 72 = .ok (.iload 5, 2) := by decide +kernel
theorem dX7_spellInto_74 : decode cX7_spellInto 74 = .ok (.baload, 1) := by decide +kernel
theorem dX7_spellInto_75 : decode cX7_spellInto 75 = .ok (.bipush (-3), 2) := by decide +kernel
theorem dX7_spellInto_77 : decode cX7_spellInto 77 = .ok (.invokevirtual 139, 3) := by decide +kernel
theorem dX7_spellInto_80 : decode cX7_spellInto 80 = .ok (.iinc 5 1, 3) := by decide +kernel
theorem dX7_spellInto_83 : decode cX7_spellInto 83 = .ok (.goto 70, 3) := by decide +kernel
theorem dX7_spellInto_86 : decode cX7_spellInto 86 = .ok (.bipush 100, 2) := by decide +kernel
theorem dX7_spellInto_88 : decode cX7_spellInto 88 = .ok (.iload 4, 2) := by decide +kernel
theorem dX7_spellInto_90 : decode cX7_spellInto 90 = .ok (.imul, 1) := by decide +kernel
theorem dX7_spellInto_91 : decode cX7_spellInto 91 = .ok (.iload 8, 2) := by decide +kernel
theorem dX7_spellInto_93 : decode cX7_spellInto 93 = .ok (.iadd, 1) := by decide +kernel
theorem dX7_spellInto_94 : decode cX7_spellInto 94 = .ok (.iload 4, 2) := by decide +kernel
theorem dX7_spellInto_96 : decode cX7_spellInto 96 = .ok (.bipush 16, 2) := by decide +kernel
theorem dX7_spellInto_98 : decode cX7_spellInto 98 = .ok (.imul, 1) := by decide +kernel
theorem dX7_spellInto_99 : decode cX7_spellInto 99 = .ok (.isub, 1) := by decide +kernel
theorem dX7_spellInto_100 : decode cX7_spellInto 100 = .ok (.istore 9, 2) := by decide +kernel
theorem dX7_spellInto_102 : decode cX7_spellInto 102 = .ok (.iconst 0, 1) := by decide +kernel
theorem dX7_spellInto_103 : decode cX7_spellInto 103 = .ok (.istore 10, 2) := by decide +kernel
theorem dX7_spellInto_105 : decode cX7_spellInto 105 = .ok (.iload 10, 2) := by decide +kernel
theorem dX7_spellInto_107 : decode cX7_spellInto 107 = .ok (.aload_n 0, 1) := by decide +kernel
theorem dX7_spellInto_108 : decode cX7_spellInto 108 = .ok (.getfield 46, 3) := by decide +kernel
theorem dX7_spellInto_111 : decode cX7_spellInto 111 = .ok (.iload 8, 2) := by decide +kernel
theorem dX7_spellInto_113 : decode cX7_spellInto 113 = .ok (.iaload, 1) := by decide +kernel
theorem dX7_spellInto_114 : decode cX7_spellInto 114 = .ok (.if_icmp .ge 27, 3) := by decide +kernel
theorem dX7_spellInto_117 : decode cX7_spellInto 117 = .ok (.aload_n 1, 1) := by decide +kernel
theorem dX7_spellInto_118 : decode cX7_spellInto 118 = .ok (.aload_n 0, 1) := by decide +kernel
theorem dX7_spellInto_119 : decode cX7_spellInto 119 = .ok (.getfield 52, 3) := by decide +kernel
theorem dX7_spellInto_122 : decode cX7_spellInto 122 = .ok (.iload 8, 2) := by decide +kernel
theorem dX7_spellInto_124 : decode cX7_spellInto 124 = .ok (.iconst 3, 1) := by decide +kernel
theorem dX7_spellInto_125 : decode cX7_spellInto 125 = .ok (.imul, 1) := by decide +kernel
theorem dX7_spellInto_126 : decode cX7_spellInto 126 = .ok (.iload 10, 2) := by decide +kernel
theorem dX7_spellInto_128 : decode cX7_spellInto 128 = .ok (.iadd, 1) := by decide +kernel
theorem dX7_spellInto_129 : decode cX7_spellInto 129 = .ok (.baload, 1) := by decide +kernel
theorem dX7_spellInto_130 : decode cX7_spellInto 130 = .ok (.iload 9, 2) := by decide +kernel
theorem dX7_spellInto_132 : decode cX7_spellInto 132 = .ok (.invokevirtual 139, 3) := by decide +kernel
theorem dX7_spellInto_135 : decode cX7_spellInto 135 = .ok (.iinc 10 1, 3) := by decide +kernel
theorem dX7_spellInto_138 : decode cX7_spellInto 138 = .ok (.goto (-33), 3) := by decide +kernel
theorem dX7_spellInto_141 : decode cX7_spellInto 141 = .ok (.iload 5, 2) := by decide +kernel
theorem dX7_spellInto_143 : decode cX7_spellInto 143 = .ok (.aload_n 0, 1) := by decide +kernel
theorem dX7_spellInto_144 : decode cX7_spellInto 144 = .ok (.getfield 43, 3) := by decide +kernel
theorem dX7_spellInto_147 : decode cX7_spellInto 147 = .ok (.iload 8, 2) := by decide +kernel
theorem dX7_spellInto_149 : decode cX7_spellInto 149 = .ok (.iaload, 1) := by decide +kernel
theorem dX7_spellInto_150 : decode cX7_spellInto 150 = .ok (.iadd, 1) := by decide +kernel
theorem dX7_spellInto_151 : decode cX7_spellInto 151 = .ok (.istore 5, 2) := by decide +kernel
theorem dX7_spellInto_153 : decode cX7_spellInto 153 = .ok (.iinc 7 1, 3) := by decide +kernel
theorem dX7_spellInto_156 : decode cX7_spellInto 156 = .ok (.goto (-121), 3) := by decide +kernel
theorem dX7_spellInto_159 : decode cX7_spellInto 159 = .ok (.return_, 1) := by decide +kernel
theorem dX7_ruleFor_0 : decode cX7_ruleFor 0 = .ok (.iload_n 1, 1) := by decide +kernel
theorem dX7_ruleFor_1 : decode cX7_ruleFor 1 = .ok (.iconst (-1), 1) := by decide +kernel
theorem dX7_ruleFor_2 : decode cX7_ruleFor 2 = .ok (.if_icmp .ne 5, 3) := by decide +kernel
theorem dX7_ruleFor_5 : decode cX7_ruleFor 5 = .ok (.iconst (-1), 1) := by decide +kernel
theorem dX7_ruleFor_6 : decode cX7_ruleFor 6 = .ok (.ireturn, 1) := by decide +kernel
theorem dX7_ruleFor_7 : decode cX7_ruleFor 7 = .ok (.iload_n 1, 1) := by decide +kernel
theorem dX7_ruleFor_8 : decode cX7_ruleFor 8 = .ok (.bipush 16, 2) := by decide +kernel
theorem dX7_ruleFor_10 : decode cX7_ruleFor 10 = .ok (.imul, 1) := by decide +kernel
theorem dX7_ruleFor_11 : decode cX7_ruleFor 11 = .ok (.istore 4, 2) := by decide +kernel
theorem dX7_ruleFor_13 : decode cX7_ruleFor 13 = .ok (.iload 4, 2) := by decide +kernel
theorem dX7_ruleFor_15 : decode cX7_ruleFor 15 = .ok (.istore 5, 2) := by decide +kernel
theorem dX7_ruleFor_17 : decode cX7_ruleFor 17 = .ok (.iload 5, 2) := by decide +kernel
theorem dX7_ruleFor_19 : decode cX7_ruleFor 19 = .ok (.iload 4, 2) := by decide +kernel
theorem dX7_ruleFor_21 : decode cX7_ruleFor 21 = .ok (.aload_n 0, 1) := by decide +kernel
theorem dX7_ruleFor_22 : decode cX7_ruleFor 22 = .ok (.getfield 34, 3) := by decide +kernel
theorem dX7_ruleFor_25 : decode cX7_ruleFor 25 = .ok (.iload_n 1, 1) := by decide +kernel
theorem dX7_ruleFor_26 : decode cX7_ruleFor 26 = .ok (.iaload, 1) := by decide +kernel
theorem dX7_ruleFor_27 : decode cX7_ruleFor 27 = .ok (.iadd, 1) := by decide +kernel
theorem dX7_ruleFor_28 : decode cX7_ruleFor 28 = .ok (.if_icmp .ge 23, 3) := by decide +kernel
theorem dX7_ruleFor_31 : decode cX7_ruleFor 31 = .ok (.aload_n 0, 1) := by decide +kernel
theorem dX7_ruleFor_32 : decode cX7_ruleFor 32 = .ok (.iload 5, 2) := by decide +kernel
theorem dX7_ruleFor_34 : decode cX7_ruleFor 34 = .ok (.iload_n 2, 1) := by decide +kernel
theorem dX7_ruleFor_35 : decode cX7_ruleFor 35 = .ok (.iload_n 3, 1) := by decide +kernel
theorem dX7_ruleFor_36 : decode cX7_ruleFor 36 = .ok (.invokevirtual 145, 3) := by decide +kernel
theorem dX7_ruleFor_39 : decode cX7_ruleFor 39 = .ok (.ifCond .eq 6, 3) := by decide +kernel
theorem dX7_ruleFor_42 : decode cX7_ruleFor 42 = .ok (.iload 5, 2) := by decide +kernel
theorem dX7_ruleFor_44 : decode cX7_ruleFor 44 = .ok (.ireturn, 1) := by decide +kernel
theorem dX7_ruleFor_45 : decode cX7_ruleFor 45 = .ok (.iinc 5 1, 3) := by decide +kernel
theorem dX7_ruleFor_48 : decode cX7_ruleFor 48 = .ok (.goto (-31), 3) := by decide +kernel
theorem dX7_ruleFor_51 : decode cX7_ruleFor 51 = .ok (.iconst (-1), 1) := by decide +kernel
theorem dX7_ruleFor_52 : decode cX7_ruleFor 52 = .ok (.ireturn, 1) := by decide +kernel
theorem dX7_fits_0 : decode cX7_fits 0 = .ok (.iload_n 2, 1) := by decide +kernel
theorem dX7_fits_1 : decode cX7_fits 1 = .ok (.aload_n 0, 1) := by decide +kernel
theorem dX7_fits_2 : decode cX7_fits 2 = .ok (.getfield 43, 3) := by decide +kernel
theorem dX7_fits_5 : decode cX7_fits 5 = .ok (.iload_n 1, 1) := by decide +kernel
theorem dX7_fits_6 : decode cX7_fits 6 = .ok (.iaload, 1) := by decide +kernel
theorem dX7_fits_7 : decode cX7_fits 7 = .ok (.iadd, 1) := by decide +kernel
theorem dX7_fits_8 : decode cX7_fits 8 = .ok (.istore 4, 2) := by decide +kernel
theorem dX7_fits_10 : decode cX7_fits 10 = .ok (.iload 4, 2) := by decide +kernel
theorem dX7_fits_12 : decode cX7_fits 12 = .ok (.iload_n 3, 1) := by decide +kernel
theorem dX7_fits_13 : decode cX7_fits 13 = .ok (.if_icmp .le 5, 3) := by decide +kernel
theorem dX7_fits_16 : decode cX7_fits 16 = .ok (.iconst 0, 1) := by decide +kernel
theorem dX7_fits_17 : decode cX7_fits 17 = .ok (.ireturn, 1) := by decide +kernel
theorem dX7_fits_18 : decode cX7_fits 18 = .ok (.iload_n 2, 1) := by decide +kernel
theorem dX7_fits_19 : decode cX7_fits 19 = .ok (.istore 5, 2) := by decide +kernel
theorem dX7_fits_21 : decode cX7_fits 21 = .ok (.iload 5, 2) := by decide +kernel
theorem dX7_fits_23 : decode cX7_fits 23 = .ok (.iload 4, 2) := by decide +kernel
theorem dX7_fits_25 : decode cX7_fits 25 = .ok (.if_icmp .ge 34, 3) := by decide +kernel
theorem dX7_fits_28 : decode cX7_fits 28 = .ok (.aload_n 0, 1) := by decide +kernel
theorem dX7_fits_29 : decode cX7_fits 29 = .ok (.getfield 24, 3) := by decide +kernel
theorem dX7_fits_32 : decode cX7_fits 32 = .ok (.iload 5, 2) := by decide +kernel
theorem dX7_fits_34 : decode cX7_fits 34 = .ok (.baload, 1) := by decide +kernel
theorem dX7_fits_35 : decode cX7_fits 35 = .ok (.aload_n 0, 1) := by decide +kernel
theorem dX7_fits_36 : decode cX7_fits 36 = .ok (.getfield 49, 3) := by decide +kernel
theorem dX7_fits_39 : decode cX7_fits 39 = .ok (.iload_n 1, 1) := by decide +kernel
theorem dX7_fits_40 : decode cX7_fits 40 = .ok (.iconst 3, 1) := by decide +kernel
theorem dX7_fits_41 : decode cX7_fits 41 = .ok (.imul, 1) := by decide +kernel
theorem dX7_fits_42 : decode cX7_fits 42 = .ok (.iload 5, 2) := by decide +kernel
theorem dX7_fits_44 : decode cX7_fits 44 = .ok (.iadd, 1) := by decide +kernel
theorem dX7_fits_45 : decode cX7_fits 45 = .ok (.iload_n 2, 1) := by decide +kernel
theorem dX7_fits_46 : decode cX7_fits 46 = .ok (.isub, 1) := by decide +kernel
theorem dX7_fits_47 : decode cX7_fits 47 = .ok (.baload, 1) := by decide +kernel
theorem dX7_fits_48 : decode cX7_fits 48 = .ok (.if_icmp .eq 5, 3) := by decide +kernel
theorem dX7_fits_51 : decode cX7_fits 51 = .ok (.iconst 0, 1) := by decide +kernel
theorem dX7_fits_52 : decode cX7_fits 52 = .ok (.ireturn, 1) := by decide +kernel
theorem dX7_fits_53 : decode cX7_fits 53 = .ok (.iinc 5 1, 3) := by decide +kernel
theorem dX7_fits_56 : decode cX7_fits 56 = .ok (.goto (-35), 3) := by decide +kernel
theorem dX7_fits_59 : decode cX7_fits 59 = .ok (.aload_n 0, 1) := by decide +kernel
theorem dX7_fits_60 : decode cX7_fits 60 = .ok (.getfield 37, 3) := by decide +kernel
theorem dX7_fits_63 : decode cX7_fits 63 = .ok (.iload_n 1, 1) := by decide +kernel
theorem dX7_fits_64 : decode cX7_fits 64 = .ok (.iaload, 1) := by decide +kernel
theorem dX7_fits_65 : decode cX7_fits 65 = .ok (.aload_n 0, 1) := by decide +kernel
theorem dX7_fits_66 : decode cX7_fits 66 = .ok (.getfield 24, 3) := by decide +kernel
theorem dX7_fits_69 : decode cX7_fits 69 = .ok (.iload_n 2, 1) := by decide +kernel
theorem dX7_fits_70 : decode cX7_fits 70 = .ok (.iconst 1, 1) := by decide +kernel
theorem dX7_fits_71 : decode cX7_fits 71 = .ok (.isub, 1) := by decide +kernel
theorem dX7_fits_72 : decode cX7_fits 72 = .ok (.baload, 1) := by decide +kernel
theorem dX7_fits_73 : decode cX7_fits 73 = .ok (.bipush 97, 2) := by decide +kernel
theorem dX7_fits_75 : decode cX7_fits 75 = .ok (.isub, 1) := by decide +kernel
theorem dX7_fits_76 : decode cX7_fits 76 = .ok (.ishr, 1) := by decide +kernel
theorem dX7_fits_77 : decode cX7_fits 77 = .ok (.iconst 1, 1) := by decide +kernel
theorem dX7_fits_78 : decode cX7_fits 78 = .ok (.iand, 1) := by decide +kernel
theorem dX7_fits_79 : decode cX7_fits 79 = .ok (.iconst 1, 1) := by decide +kernel
theorem dX7_fits_80 : decode cX7_fits 80 = .ok (.if_icmp .ne 7, 3) := by decide +kernel
theorem dX7_fits_83 : decode cX7_fits 83 = .ok (.iconst 1, 1) := by decide +kernel
theorem dX7_fits_84 : decode cX7_fits 84 = .ok (.goto 4, 3) := by decide +kernel
theorem dX7_fits_87 : decode cX7_fits 87 = .ok (.iconst 0, 1) := by decide +kernel
theorem dX7_fits_88 : decode cX7_fits 88 = .ok (.istore 5, 2) := by decide +kernel
theorem dX7_fits_90 : decode cX7_fits 90 = .ok (.iload 5, 2) := by decide +kernel
theorem dX7_fits_92 : decode cX7_fits 92 = .ok (.ifCond .eq 30, 3) := by decide +kernel
theorem dX7_fits_95 : decode cX7_fits 95 = .ok (.aload_n 0, 1) := by decide +kernel
theorem dX7_fits_96 : decode cX7_fits 96 = .ok (.getfield 40, 3) := by decide +kernel
theorem dX7_fits_99 : decode cX7_fits 99 = .ok (.iload_n 1, 1) := by decide +kernel
theorem dX7_fits_100 : decode cX7_fits 100 = .ok (.iaload, 1) := by decide +kernel
theorem dX7_fits_101 : decode cX7_fits 101 = .ok (.aload_n 0, 1) := by decide +kernel
theorem dX7_fits_102 : decode cX7_fits 102 = .ok (.getfield 24, 3) := by decide +kernel
theorem dX7_fits_105 : decode cX7_fits 105 = .ok (.iload 4, 2) := by decide +kernel
theorem dX7_fits_107 : decode cX7_fits 107 = .ok (.baload, 1) := by decide +kernel
theorem dX7_fits_108 : decode cX7_fits 108 = .ok (.bipush 97, 2) := by decide +kernel
theorem dX7_fits_110 : decode cX7_fits 110 = .ok (.isub, 1) := by decide +kernel
theorem dX7_fits_111 : decode cX7_fits 111 = .ok (.ishr, 1) := by decide +kernel
theorem dX7_fits_112 : decode cX7_fits 112 = .ok (.iconst 1, 1) := by decide +kernel
theorem dX7_fits_113 : decode cX7_fits 113 = .ok (.iand, 1) := by decide +kernel
theorem dX7_fits_114 : decode cX7_fits 114 = .ok (.iconst 1, 1) := by decide +kernel
theorem dX7_fits_115 : decode cX7_fits 115 = .ok (.if_icmp .ne 7, 3) := by decide +kernel
theorem dX7_fits_118 : decode cX7_fits 118 = .ok (.iconst 1, 1) := by decide +kernel
theorem dX7_fits_119 : decode cX7_fits 119 = .ok (.goto 4, 3) := by decide +kernel
theorem dX7_fits_122 : decode cX7_fits 122 = .ok (.iconst 0, 1) := by decide +kernel
theorem dX7_fits_123 : decode cX7_fits 123 = .ok (.ireturn, 1) := by decide +kernel
theorem dX7_copyFrom_0 : decode cX7_copyFrom 0 = .ok (.aload_n 0, 1) := by decide +kernel
theorem dX7_copyFrom_1 : decode cX7_copyFrom 1 = .ok (.aload_n 1, 1) := by decide +kernel
theorem dX7_copyFrom_2 : decode cX7_copyFrom 2 = .ok (.getfield 55, 3) := by decide +kernel
theorem dX7_copyFrom_5 : decode cX7_copyFrom 5 = .ok (.putfield 55, 3) := by decide +kernel
theorem dX7_copyFrom_8 : decode cX7_copyFrom 8 = .ok (.aload_n 1, 1) := by decide +kernel
theorem dX7_copyFrom_9 : decode cX7_copyFrom 9 = .ok (.getfield 11, 3) := by decide +kernel
theorem dX7_copyFrom_12 : decode cX7_copyFrom 12 = .ok (.iconst 0, 1) := by decide +kernel
theorem dX7_copyFrom_13 : decode cX7_copyFrom 13 = .ok (.aload_n 0, 1) := by decide +kernel
theorem dX7_copyFrom_14 : decode cX7_copyFrom 14 = .ok (.getfield 11, 3) := by decide +kernel
theorem dX7_copyFrom_17 : decode cX7_copyFrom 17 = .ok (.iconst 0, 1) := by decide +kernel
theorem dX7_copyFrom_18 : decode cX7_copyFrom 18 = .ok (.aload_n 0, 1) := by decide +kernel
theorem dX7_copyFrom_19 : decode cX7_copyFrom 19 = .ok (.getfield 55, 3) := by decide +kernel
theorem dX7_copyFrom_22 : decode cX7_copyFrom 22 = .ok (.invokestatic 67, 3) := by decide +kernel
theorem dX7_copyFrom_25 : decode cX7_copyFrom 25 = .ok (.aload_n 1, 1) := by decide +kernel
theorem dX7_copyFrom_26 : decode cX7_copyFrom 26 = .ok (.getfield 15, 3) := by decide +kernel
theorem dX7_copyFrom_29 : decode cX7_copyFrom 29 = .ok (.iconst 0, 1) := by decide +kernel
theorem dX7_copyFrom_30 : decode cX7_copyFrom 30 = .ok (.aload_n 0, 1) := by decide +kernel
theorem dX7_copyFrom_31 : decode cX7_copyFrom 31 = .ok (.getfield 15, 3) := by decide +kernel
theorem dX7_copyFrom_34 : decode cX7_copyFrom 34 = .ok (.iconst 0, 1) := by decide +kernel
theorem dX7_copyFrom_35 : decode cX7_copyFrom 35 = .ok (.aload_n 0, 1) := by decide +kernel
theorem dX7_copyFrom_36 : decode cX7_copyFrom 36 = .ok (.getfield 55, 3) := by decide +kernel
theorem dX7_copyFrom_39 : decode cX7_copyFrom 39 = .ok (.invokestatic 67, 3) := by decide +kernel
theorem dX7_copyFrom_42 : decode cX7_copyFrom 42 = .ok (.aload_n 1, 1) := by decide +kernel
theorem dX7_copyFrom_43 : decode cX7_copyFrom 43 = .ok (.getfield 18, 3) := by decide +kernel
theorem dX7_copyFrom_46 : decode cX7_copyFrom 46 = .ok (.iconst 0, 1) := by decide +kernel
theorem dX7_copyFrom_47 : decode cX7_copyFrom 47 = .ok (.aload_n 0, 1) := by decide +kernel
theorem dX7_copyFrom_48 : decode cX7_copyFrom 48 = .ok (.getfield 18, 3) := by decide +kernel
theorem dX7_copyFrom_51 : decode cX7_copyFrom 51 = .ok (.iconst 0, 1) := by decide +kernel
theorem dX7_copyFrom_52 : decode cX7_copyFrom 52 = .ok (.aload_n 0, 1) := by decide +kernel
theorem dX7_copyFrom_53 : decode cX7_copyFrom 53 = .ok (.getfield 55, 3) := by decide +kernel
theorem dX7_copyFrom_56 : decode cX7_copyFrom 56 = .ok (.invokestatic 67, 3) := by decide +kernel
theorem dX7_copyFrom_59 : decode cX7_copyFrom 59 = .ok (.aload_n 1, 1) := by decide +kernel
theorem dX7_copyFrom_60 : decode cX7_copyFrom 60 = .ok (.getfield 21, 3) := by decide +kernel
theorem dX7_copyFrom_63 : decode cX7_copyFrom 63 = .ok (.iconst 0, 1) := by decide +kernel
theorem dX7_copyFrom_64 : decode cX7_copyFrom 64 = .ok (.aload_n 0, 1) := by decide +kernel
theorem dX7_copyFrom_65 : decode cX7_copyFrom 65 = .ok (.getfield 21, 3) := by decide +kernel
theorem dX7_copyFrom_68 : decode cX7_copyFrom 68 = .ok (.iconst 0, 1) := by decide +kernel
theorem dX7_copyFrom_69 : decode cX7_copyFrom 69 = .ok (.aload_n 0, 1) := by decide +kernel
theorem dX7_copyFrom_70 : decode cX7_copyFrom 70 = .ok (.getfield 55, 3) := by decide +kernel
theorem dX7_copyFrom_73 : decode cX7_copyFrom 73 = .ok (.invokestatic 67, 3) := by decide +kernel
theorem dX7_copyFrom_76 : decode cX7_copyFrom 76 = .ok (.aload_n 1, 1) := by decide +kernel
theorem dX7_copyFrom_77 : decode cX7_copyFrom 77 = .ok (.getfield 24, 3) := by decide +kernel
theorem dX7_copyFrom_80 : decode cX7_copyFrom 80 = .ok (.iconst 0, 1) := by decide +kernel
theorem dX7_copyFrom_81 : decode cX7_copyFrom 81 = .ok (.aload_n 0, 1) := by decide +kernel
theorem dX7_copyFrom_82 : decode cX7_copyFrom 82 = .ok (.getfield 24, 3) := by decide +kernel
theorem dX7_copyFrom_85 : decode cX7_copyFrom 85 = .ok (.iconst 0, 1) := by decide +kernel
theorem dX7_copyFrom_86 : decode cX7_copyFrom 86 = .ok (.aload_n 0, 1) := by decide +kernel
theorem dX7_copyFrom_87 : decode cX7_copyFrom 87 = .ok (.getfield 55, 3) := by decide +kernel
theorem dX7_copyFrom_90 : decode cX7_copyFrom 90 = .ok (.bipush 14, 2) := by decide +kernel
theorem dX7_copyFrom_92 : decode cX7_copyFrom 92 = .ok (.imul, 1) := by decide +kernel
theorem dX7_copyFrom_93 : decode cX7_copyFrom 93 = .ok (.invokestatic 67, 3) := by decide +kernel
theorem dX7_copyFrom_96 : decode cX7_copyFrom 96 = .ok (.aload_n 0, 1) := by decide +kernel
theorem dX7_copyFrom_97 : decode cX7_copyFrom 97 = .ok (.aload_n 1, 1) := by decide +kernel
theorem dX7_copyFrom_98 : decode cX7_copyFrom 98 = .ok (.getfield 93, 3) := by decide +kernel
theorem dX7_copyFrom_101 : decode cX7_copyFrom 101 = .ok (.putfield 93, 3) := by decide +kernel
theorem dX7_copyFrom_104 : decode cX7_copyFrom 104 = .ok (.aload_n 1, 1) := by decide +kernel
theorem dX7_copyFrom_105 : decode cX7_copyFrom 105 = .ok (.getfield 28, 3) := by decide +kernel
theorem dX7_copyFrom_108 : decode cX7_copyFrom 108 = .ok (.iconst 0, 1) := by decide +kernel
theorem dX7_copyFrom_109 : decode cX7_copyFrom 109 = .ok (.aload_n 0, 1) := by decide +kernel
theorem dX7_copyFrom_110 : decode cX7_copyFrom 110 = .ok (.getfield 28, 3) := by decide +kernel
theorem dX7_copyFrom_113 : decode cX7_copyFrom 113 = .ok (.iconst 0, 1) := by decide +kernel
theorem dX7_copyFrom_114 : decode cX7_copyFrom 114 = .ok (.aload_n 0, 1) := by decide +kernel
theorem dX7_copyFrom_115 : decode cX7_copyFrom 115 = .ok (.getfield 93, 3) := by decide +kernel
theorem dX7_copyFrom_118 : decode cX7_copyFrom 118 = .ok (.invokestatic 67, 3) := by decide +kernel
theorem dX7_copyFrom_121 : decode cX7_copyFrom 121 = .ok (.aload_n 1, 1) := by decide +kernel
theorem dX7_copyFrom_122 : decode cX7_copyFrom 122 = .ok (.getfield 31, 3) := by decide +kernel
theorem dX7_copyFrom_125 : decode cX7_copyFrom 125 = .ok (.iconst 0, 1) := by decide +kernel
theorem dX7_copyFrom_126 : decode cX7_copyFrom 126 = .ok (.aload_n 0, 1) := by decide +kernel
theorem dX7_copyFrom_127 : decode cX7_copyFrom 127 = .ok (.getfield 31, 3) := by decide +kernel
theorem dX7_copyFrom_130 : decode cX7_copyFrom 130 = .ok (.iconst 0, 1) := by decide +kernel
theorem dX7_copyFrom_131 : decode cX7_copyFrom 131 = .ok (.aload_n 0, 1) := by decide +kernel
theorem dX7_copyFrom_132 : decode cX7_copyFrom 132 = .ok (.getfield 93, 3) := by decide +kernel
theorem dX7_copyFrom_135 : decode cX7_copyFrom 135 = .ok (.invokestatic 67, 3) := by decide +kernel
theorem dX7_copyFrom_138 : decode cX7_copyFrom 138 = .ok (.aload_n 1, 1) := by decide +kernel
theorem dX7_copyFrom_139 : decode cX7_copyFrom 139 = .ok (.getfield 34, 3) := by decide +kernel
theorem dX7_copyFrom_142 : decode cX7_copyFrom 142 = .ok (.iconst 0, 1) := by decide +kernel
theorem dX7_copyFrom_143 : decode cX7_copyFrom 143 = .ok (.aload_n 0, 1) := by decide +kernel
theorem dX7_copyFrom_144 : decode cX7_copyFrom 144 = .ok (.getfield 34, 3) := by decide +kernel
theorem dX7_copyFrom_147 : decode cX7_copyFrom 147 = .ok (.iconst 0, 1) := by decide +kernel
theorem dX7_copyFrom_148 : decode cX7_copyFrom 148 = .ok (.aload_n 0, 1) := by decide +kernel
theorem dX7_copyFrom_149 : decode cX7_copyFrom 149 = .ok (.getfield 93, 3) := by decide +kernel
theorem dX7_copyFrom_152 : decode cX7_copyFrom 152 = .ok (.invokestatic 67, 3) := by decide +kernel
theorem dX7_copyFrom_155 : decode cX7_copyFrom 155 = .ok (.aload_n 0, 1) := by decide +kernel
theorem dX7_copyFrom_156 : decode cX7_copyFrom 156 = .ok (.getfield 93, 3) := by decide +kernel
theorem dX7_copyFrom_159 : decode cX7_copyFrom 159 = .ok (.bipush 16, 2) := by decide +kernel
theorem dX7_copyFrom_161 : decode cX7_copyFrom 161 = .ok (.imul, 1) := by decide +kernel
theorem dX7_copyFrom_162 : decode cX7_copyFrom 162 = .ok (.istore_n 2, 1) := by decide +kernel
theorem dX7_copyFrom_163 : decode cX7_copyFrom 163 = .ok (.aload_n 1, 1) := by decide +kernel
theorem dX7_copyFrom_164 : decode cX7_copyFrom 164 = .ok (.getfield 37, 3) := by decide +kernel
theorem dX7_copyFrom_167 : decode cX7_copyFrom 167 = .ok (.iconst 0, 1) := by decide +kernel
theorem dX7_copyFrom_168 : decode cX7_copyFrom 168 = .ok (.aload_n 0, 1) := by decide +kernel
theorem dX7_copyFrom_169 : decode cX7_copyFrom 169 = .ok (.getfield 37, 3) := by decide +kernel
theorem dX7_copyFrom_172 : decode cX7_copyFrom 172 = .ok (.iconst 0, 1) := by decide +kernel
theorem dX7_copyFrom_173 : decode cX7_copyFrom 173 = .ok (.iload_n 2, 1) := by decide +kernel
theorem dX7_copyFrom_174 : decode cX7_copyFrom 174 = .ok (.invokestatic 67, 3) := by decide +kernel
theorem dX7_copyFrom_177 : decode cX7_copyFrom 177 = .ok (.aload_n 1, 1) := by decide +kernel
theorem dX7_copyFrom_178 : decode cX7_copyFrom 178 = .ok (.getfield 40, 3) := by decide +kernel
theorem dX7_copyFrom_181 : decode cX7_copyFrom 181 = .ok (.iconst 0, 1) := by decide +kernel
theorem dX7_copyFrom_182 : decode cX7_copyFrom 182 = .ok (.aload_n 0, 1) := by decide +kernel
theorem dX7_copyFrom_183 : decode cX7_copyFrom 183 = .ok (.getfield 40, 3) := by decide +kernel
theorem dX7_copyFrom_186 : decode cX7_copyFrom 186 = .ok (.iconst 0, 1) := by decide +kernel
theorem dX7_copyFrom_187 : decode cX7_copyFrom 187 = .ok (.iload_n 2, 1) := by decide +kernel
theorem dX7_copyFrom_188 : decode cX7_copyFrom 188 = .ok (.invokestatic 67, 3) := by decide +kernel
theorem dX7_copyFrom_191 : decode cX7_copyFrom 191 = .ok (.aload_n 1, 1) := by decide +kernel
theorem dX7_copyFrom_192 : decode cX7_copyFrom 192 = .ok (.getfield 43, 3) := by decide +kernel
theorem dX7_copyFrom_195 : decode cX7_copyFrom 195 = .ok (.iconst 0, 1) := by decide +kernel
theorem dX7_copyFrom_196 : decode cX7_copyFrom 196 = .ok (.aload_n 0, 1) := by decide +kernel
theorem dX7_copyFrom_197 : decode cX7_copyFrom 197 = .ok (.getfield 43, 3) := by decide +kernel
theorem dX7_copyFrom_200 : decode cX7_copyFrom 200 = .ok (.iconst 0, 1) := by decide +kernel
theorem dX7_copyFrom_201 : decode cX7_copyFrom 201 = .ok (.iload_n 2, 1) := by decide +kernel
theorem dX7_copyFrom_202 : decode cX7_copyFrom 202 = .ok (.invokestatic 67, 3) := by decide +kernel
theorem dX7_copyFrom_205 : decode cX7_copyFrom 205 = .ok (.aload_n 1, 1) := by decide +kernel
theorem dX7_copyFrom_206 : decode cX7_copyFrom 206 = .ok (.getfield 46, 3) := by decide +kernel
theorem dX7_copyFrom_209 : decode cX7_copyFrom 209 = .ok (.iconst 0, 1) := by decide +kernel
theorem dX7_copyFrom_210 : decode cX7_copyFrom 210 = .ok (.aload_n 0, 1) := by decide +kernel
theorem dX7_copyFrom_211 : decode cX7_copyFrom 211 = .ok (.getfield 46, 3) := by decide +kernel
theorem dX7_copyFrom_214 : decode cX7_copyFrom 214 = .ok (.iconst 0, 1) := by decide +kernel
theorem dX7_copyFrom_215 : decode cX7_copyFrom 215 = .ok (.iload_n 2, 1) := by decide +kernel
theorem dX7_copyFrom_216 : decode cX7_copyFrom 216 = .ok (.invokestatic 67, 3) := by decide +kernel
theorem dX7_copyFrom_219 : decode cX7_copyFrom 219 = .ok (.aload_n 1, 1) := by decide +kernel
theorem dX7_copyFrom_220 : decode cX7_copyFrom 220 = .ok (.getfield 49, 3) := by decide +kernel
theorem dX7_copyFrom_223 : decode cX7_copyFrom 223 = .ok (.iconst 0, 1) := by decide +kernel
theorem dX7_copyFrom_224 : decode cX7_copyFrom 224 = .ok (.aload_n 0, 1) := by decide +kernel
theorem dX7_copyFrom_225 : decode cX7_copyFrom 225 = .ok (.getfield 49, 3) := by decide +kernel
theorem dX7_copyFrom_228 : decode cX7_copyFrom 228 = .ok (.iconst 0, 1) := by decide +kernel
theorem dX7_copyFrom_229 : decode cX7_copyFrom 229 = .ok (.iload_n 2, 1) := by decide +kernel
theorem dX7_copyFrom_230 : decode cX7_copyFrom 230 = .ok (.iconst 3, 1) := by decide +kernel
theorem dX7_copyFrom_231 : decode cX7_copyFrom 231 = .ok (.imul, 1) := by decide +kernel
theorem dX7_copyFrom_232 : decode cX7_copyFrom 232 = .ok (.invokestatic 67, 3) := by decide +kernel
theorem dX7_copyFrom_235 : decode cX7_copyFrom 235 = .ok (.aload_n 1, 1) := by decide +kernel
theorem dX7_copyFrom_236 : decode cX7_copyFrom 236 = .ok (.getfield 52, 3) := by decide +kernel
theorem dX7_copyFrom_239 : decode cX7_copyFrom 239 = .ok (.iconst 0, 1) := by decide +kernel
theorem dX7_copyFrom_240 : decode cX7_copyFrom 240 = .ok (.aload_n 0, 1) := by decide +kernel
theorem dX7_copyFrom_241 : decode cX7_copyFrom 241 = .ok (.getfield 52, 3) := by decide +kernel
theorem dX7_copyFrom_244 : decode cX7_copyFrom 244 = .ok (.iconst 0, 1) := by decide +kernel
theorem dX7_copyFrom_245 : decode cX7_copyFrom 245 = .ok (.iload_n 2, 1) := by decide +kernel
theorem dX7_copyFrom_246 : decode cX7_copyFrom 246 = .ok (.iconst 3, 1) := by decide +kernel
theorem dX7_copyFrom_247 : decode cX7_copyFrom 247 = .ok (.imul, 1) := by decide +kernel
theorem dX7_copyFrom_248 : decode cX7_copyFrom 248 = .ok (.invokestatic 67, 3) := by decide +kernel
theorem dX7_copyFrom_251 : decode cX7_copyFrom 251 = .ok (.return_, 1) := by decide +kernel
theorem dX8_mark_0 : decode cX8_mark 0 = .ok (.aload_n 0, 1) := by decide +kernel
theorem dX8_mark_1 : decode cX8_mark 1 = .ok (.getfield 9, 3) := by decide +kernel
theorem dX8_mark_4 : decode cX8_mark 4 = .ok (.aload_n 0, 1) := by decide +kernel
theorem dX8_mark_5 : decode cX8_mark 5 = .ok (.getfield 50, 3) := by decide +kernel
theorem dX8_mark_8 : decode cX8_mark 8 = .ok (.iconst 1, 1) := by decide +kernel
theorem dX8_mark_9 : decode cX8_mark 9 = .ok (.bastore, 1) := by decide +kernel
theorem dX8_mark_10 : decode cX8_mark 10 = .ok (.return_, 1) := by decide +kernel
theorem dX8_copyFrom_0 : decode cX8_copyFrom 0 = .ok (.aload_n 0, 1) := by decide +kernel
theorem dX8_copyFrom_1 : decode cX8_copyFrom 1 = .ok (.aload_n 1, 1) := by decide +kernel
theorem dX8_copyFrom_2 : decode cX8_copyFrom 2 = .ok (.getfield 50, 3) := by decide +kernel
theorem dX8_copyFrom_5 : decode cX8_copyFrom 5 = .ok (.putfield 50, 3) := by decide +kernel
theorem dX8_copyFrom_8 : decode cX8_copyFrom 8 = .ok (.aload_n 1, 1) := by decide +kernel
theorem dX8_copyFrom_9 : decode cX8_copyFrom 9 = .ok (.getfield 9, 3) := by decide +kernel
theorem dX8_copyFrom_12 : decode cX8_copyFrom 12 = .ok (.aload_n 0, 1) := by decide +kernel
theorem dX8_copyFrom_13 : decode cX8_copyFrom 13 = .ok (.getfield 9, 3) := by decide +kernel
theorem dX8_copyFrom_16 : decode cX8_copyFrom 16 = .ok (.sipush 400, 3) := by decide +kernel
theorem dX8_copyFrom_19 : decode cX8_copyFrom 19 = .ok (.invokestatic 54, 3) := by decide +kernel
theorem dX8_copyFrom_22 : decode cX8_copyFrom 22 = .ok (.aload_n 0, 1) := by decide +kernel
theorem dX8_copyFrom_23 : decode cX8_copyFrom 23 = .ok (.getfield 18, 3) := by decide +kernel
theorem dX8_copyFrom_26 : decode cX8_copyFrom 26 = .ok (.aload_n 1, 1) := by decide +kernel
theorem dX8_copyFrom_27 : decode cX8_copyFrom 27 = .ok (.getfield 18, 3) := by decide +kernel
theorem dX8_copyFrom_30 : decode cX8_copyFrom 30 = .ok (.invokevirtual 58, 3) := by decide +kernel
theorem dX8_copyFrom_33 : decode cX8_copyFrom 33 = .ok (.aload_n 0, 1) := by decide +kernel
theorem dX8_copyFrom_34 : decode cX8_copyFrom 34 = .ok (.getfield 25, 3) := by decide +kernel
theorem dX8_copyFrom_37 : decode cX8_copyFrom 37 = .ok (.aload_n 1, 1) := by decide +kernel
theorem dX8_copyFrom_38 : decode cX8_copyFrom 38 = .ok (.getfield 25, 3) := by decide +kernel
theorem dX8_copyFrom_41 : decode cX8_copyFrom 41 = .ok (.invokevirtual 62, 3) := by decide +kernel
theorem dX8_copyFrom_44 : decode cX8_copyFrom 44 = .ok (.aload_n 0, 1) := by decide +kernel
theorem dX8_copyFrom_45 : decode cX8_copyFrom 45 = .ok (.getfield 32, 3) := by decide +kernel
theorem dX8_copyFrom_48 : decode cX8_copyFrom 48 = .ok (.aload_n 1, 1) := by decide +kernel
theorem dX8_copyFrom_49 : decode cX8_copyFrom 49 = .ok (.getfield 32, 3) := by decide +kernel
theorem dX8_copyFrom_52 : decode cX8_copyFrom 52 = .ok (.invokevirtual 65, 3) := by decide +kernel
theorem dX8_copyFrom_55 : decode cX8_copyFrom 55 = .ok (.aload_n 0, 1) := by decide +kernel
theorem dX8_copyFrom_56 : decode cX8_copyFrom 56 = .ok (.getfield 39, 3) := by decide +kernel
theorem dX8_copyFrom_59 : decode cX8_copyFrom 59 = .ok (.aload_n 1, 1) := by decide +kernel
theorem dX8_copyFrom_60 : decode cX8_copyFrom 60 = .ok (.getfield 39, 3) := by decide +kernel
theorem dX8_copyFrom_63 : decode cX8_copyFrom 63 = .ok (.invokevirtual 68, 3) := by decide +kernel
theorem dX8_copyFrom_66 : decode cX8_copyFrom 66 = .ok (.aload_n 0, 1) := by decide +kernel
theorem dX8_copyFrom_67 : decode cX8_copyFrom 67 = .ok (.getfield 46, 3) := by decide +kernel
theorem dX8_copyFrom_70 : decode cX8_copyFrom 70 = .ok (.aload_n 1, 1) := by decide +kernel
theorem dX8_copyFrom_71 : decode cX8_copyFrom 71 = .ok (.getfield 46, 3) := by decide +kernel
theorem dX8_copyFrom_74 : decode cX8_copyFrom 74 = .ok (.invokevirtual 71, 3) := by decide +kernel
theorem dX8_copyFrom_77 : decode cX8_copyFrom 77 = .ok (.return_, 1) := by decide +kernel
theorem dX9_push_0 : decode cX9_push 0 = .ok (.bipush 24, 2) := by decide +kernel
theorem dX9_push_2 : decode cX9_push 2 = .ok (.istore_n 2, 1) := by decide +kernel
theorem dX9_push_3 : decode cX9_push 3 = .ok (.iload_n 2, 1) := by decide +kernel
theorem dX9_push_4 : decode cX9_push 4 = .ok (.ifCond .lt 42, 3) := by decide +kernel
theorem dX9_push_7 : decode cX9_push 7 = .ok (.aload_n 0, 1) := by decide +kernel
theorem dX9_push_8 : decode cX9_push 8 = .ok (.getfield 19, 3) := by decide +kernel
theorem dX9_push_11 : decode cX9_push 11 = .ok (.sipush 500, 3) := by decide +kernel
theorem dX9_push_14 : decode cX9_push 14 = .ok (.if_icmp .ge 32, 3) := by decide +kernel
theorem dX9_push_17 : decode cX9_push 17 = .ok (.aload_n 0, 1) := by decide +kernel
theorem dX9_push_18 : decode cX9_push 18 = .ok (.getfield 11, 3) := by decide +kernel
theorem dX9_push_21 : decode cX9_push 21 = .ok (.aload_n 0, 1) := by decide +kernel
theorem dX9_push_22 : decode cX9_push 22 = .ok (.getfield 19, 3) := by decide +kernel
theorem dX9_push_25 : decode cX9_push 25 = .ok (.iload_n 1, 1) := by decide +kernel
theorem dX9_push_26 : decode cX9_push 26 = .ok (.iload_n 2, 1) := by decide +kernel
theorem dX9_push_27 : decode cX9_push 27 = .ok (.ishr, 1) := by decide +kernel
theorem dX9_push_28 : decode cX9_push 28 = .ok (.i2b, 1) := by decide +kernel
theorem dX9_push_29 : decode cX9_push 29 = .ok (.bastore, 1) := by decide +kernel
theorem dX9_push_30 : decode cX9_push 30 = .ok (.aload_n 0, 1) := by decide +kernel
theorem dX9_push_31 : decode cX9_push 31 = .ok (.dup, 1) := by decide +kernel
theorem dX9_push_32 : decode cX9_push 32 = .ok (.getfield 19, 3) := by decide +kernel
theorem dX9_push_35 : decode cX9_push 35 = .ok (.iconst 1, 1) := by decide +kernel
theorem dX9_push_36 : decode cX9_push 36 = .ok (.iadd, 1) := by decide +kernel
theorem dX9_push_37 : decode cX9_push 37 = .ok (.putfield 19, 3) := by decide +kernel
theorem dX9_push_40 : decode cX9_push 40 = .ok (.iinc 2 (-8), 3) := by decide +kernel
theorem dX9_push_43 : decode cX9_push 43 = .ok (.goto (-40), 3) := by decide +kernel
theorem dX9_push_46 : decode cX9_push 46 = .ok (.return_, 1) := by decide +kernel
theorem dX9_isLetters_0 : decode cX9_isLetters 0 = .ok (.aload_n 0, 1) := by decide +kernel
theorem dX9_isLetters_1 : decode cX9_isLetters 1 = .ok (.getfield 19, 3) := by decide +kernel
theorem dX9_isLetters_4 : decode cX9_isLetters 4 = .ok (.iconst 1, 1) := by decide +kernel
theorem dX9_isLetters_5 : decode cX9_isLetters 5 = .ok (.if_icmp .lt 11, 3) := by decide +kernel
theorem dX9_isLetters_8 : decode cX9_isLetters 8 = .ok (.aload_n 0, 1) := by decide +kernel
theorem dX9_isLetters_9 : decode cX9_isLetters 9 = .ok (.getfield 19, 3) := by decide +kernel
theorem dX9_isLetters_12 : decode cX9_isLetters 12 = .ok (.iload_n 1, 1) := by decide +kernel
theorem dX9_isLetters_13 : decode cX9_isLetters 13 = .ok (.if_icmp .le 5, 3) := by decide +kernel
theorem dX9_isLetters_16 : decode cX9_isLetters 16 = .ok (.iconst 0, 1) := by decide +kernel
theorem dX9_isLetters_17 : decode cX9_isLetters 17 = .ok (.ireturn, 1) := by decide +kernel
theorem dX9_isLetters_18 : decode cX9_isLetters 18 = .ok (.iconst 0, 1) := by decide +kernel
theorem dX9_isLetters_19 : decode cX9_isLetters 19 = .ok (.istore_n 2, 1) := by decide +kernel
theorem dX9_isLetters_20 : decode cX9_isLetters 20 = .ok (.iload_n 2, 1) := by decide +kernel
theorem dX9_isLetters_21 : decode cX9_isLetters 21 = .ok (.aload_n 0, 1) := by decide +kernel
theorem dX9_isLetters_22 : decode cX9_isLetters 22 = .ok (.getfield 19, 3) := by decide +kernel
theorem dX9_isLetters_25 : decode cX9_isLetters 25 = .ok (.if_icmp .ge 24, 3) := by decide +kernel
theorem dX9_isLetters_28 : decode cX9_isLetters 28 = .ok (.aload_n 0, 1) := by decide +kernel
theorem dX9_isLetters_29 : decode cX9_isLetters 29 = .ok (.getfield 11, 3) := by decide +kernel
theorem dX9_isLetters_32 : decode cX9_isLetters 32 = .ok (.iload_n 2, 1) := by decide +kernel
theorem dX9_isLetters_33 : decode cX9_isLetters 33 = .ok (.baload, 1) := by decide +kernel
theorem dX9_isLetters_34 : decode cX9_isLetters 34 = .ok (.invokestatic 22, 3) := by decide +kernel
theorem dX9_isLetters_37 : decode cX9_isLetters 37 = .ok (.iconst 1, 1) := by decide +kernel
theorem dX9_isLetters_38 : decode cX9_isLetters 38 = .ok (.if_icmp .eq 5, 3) := by decide +kernel
theorem dX9_isLetters_41 : decode cX9_isLetters 41 = .ok (.iconst 0, 1) := by decide +kernel
theorem dX9_isLetters_42 : decode cX9_isLetters 42 = .ok (.ireturn, 1) := by decide +kernel
theorem dX9_isLetters_43 : decode cX9_isLetters 43 = .ok (.iinc 2 1, 3) := by decide +kernel
theorem dX9_isLetters_46 : decode cX9_isLetters 46 = .ok (.goto (-26), 3) := by decide +kernel
theorem dX9_isLetters_49 : decode cX9_isLetters 49 = .ok (.iconst 1, 1) := by decide +kernel
theorem dX9_isLetters_50 : decode cX9_isLetters 50 = .ok (.ireturn, 1) := by decide +kernel
theorem dX9_kindOf_0 : decode cX9_kindOf 0 = .ok (.iload_n 0, 1) := by decide +kernel
theorem dX9_kindOf_1 : decode cX9_kindOf 1 = .ok (.bipush 97, 2) := by decide +kernel
theorem dX9_kindOf_3 : decode cX9_kindOf 3 = .ok (.if_icmp .lt 11, 3) := by decide +kernel
theorem dX9_kindOf_6 : decode cX9_kindOf 6 = .ok (.iload_n 0, 1) := by decide +kernel
theorem dX9_kindOf_7 : decode cX9_kindOf 7 = .ok (.bipush 122, 2) := by decide +kernel
theorem dX9_kindOf_9 : decode cX9_kindOf 9 = .ok (.if_icmp .gt 5, 3) := by decide +kernel
theorem dX9_kindOf_12 : decode cX9_kindOf 12 = .ok (.iconst 1, 1) := by decide +kernel
theorem dX9_kindOf_13 : decode cX9_kindOf 13 = .ok (.ireturn, 1) := by decide +kernel
theorem dX9_kindOf_14 : decode cX9_kindOf 14 = .ok (.iload_n 0, 1) := by decide +kernel
theorem dX9_kindOf_15 : decode cX9_kindOf 15 = .ok (.bipush 48, 2) := by decide +kernel
theorem dX9_kindOf_17 : decode cX9_kindOf 17 = .ok (.if_icmp .lt 13, 3) := by decide +kernel
theorem dX9_kindOf_20 : decode cX9_kindOf 20 = .ok (.iload_n 0, 1) := by decide +kernel
theorem dX9_kindOf_21 : decode cX9_kindOf 21 = .ok (.bipush 57, 2) := by decide +kernel
theorem dX9_kindOf_23 : decode cX9_kindOf 23 = .ok (.if_icmp .gt 7, 3) := by decide +kernel
theorem dX9_kindOf_26 : decode cX9_kindOf 26 = .ok (.iconst 2, 1) := by decide +kernel
theorem dX9_kindOf_27 : decode cX9_kindOf 27 = .ok (.goto 4, 3) := by decide +kernel
theorem dX9_kindOf_30 : decode cX9_kindOf 30 = .ok (.iconst 3, 1) := by decide +kernel
theorem dX9_kindOf_31 : decode cX9_kindOf 31 = .ok (.ireturn, 1) := by decide +kernel
theorem dX9_begin_0 : decode cX9_begin 0 = .ok (.aload_n 0, 1) := by decide +kernel
theorem dX9_begin_1 : decode cX9_begin 1 = .ok (.iconst 0, 1) := by decide +kernel
theorem dX9_begin_2 : decode cX9_begin 2 = .ok (.putfield 26, 3) := by decide +kernel
theorem dX9_begin_5 : decode cX9_begin 5 = .ok (.aload_n 0, 1) := by decide +kernel
theorem dX9_begin_6 : decode cX9_begin 6 = .ok (.iconst (-1), 1) := by decide +kernel
theorem dX9_begin_7 : decode cX9_begin 7 = .ok (.putfield 15, 3) := by decide +kernel
theorem dX9_begin_10 : decode cX9_begin 10 = .ok (.aload_n 0, 1) := by decide +kernel
theorem dX9_begin_11 : decode cX9_begin 11 = .ok (.iconst 0, 1) := by decide +kernel
theorem dX9_begin_12 : decode cX9_begin 12 = .ok (.putfield 29, 3) := by decide +kernel
theorem dX9_begin_15 : decode cX9_begin 15 = .ok (.aload_n 0, 1) := by decide +kernel
theorem dX9_begin_16 : decode cX9_begin 16 = .ok (.invokevirtual 32, 3) := by decide +kernel
theorem dX9_begin_19 : decode cX9_begin 19 = .ok (.return_, 1) := by decide +kernel
theorem dX9_goesOn_0 : decode cX9_goesOn 0 = .ok (.aload_n 0, 1) := by decide +kernel
theorem dX9_goesOn_1 : decode cX9_goesOn 1 = .ok (.getfield 35, 3) := by decide +kernel
theorem dX9_goesOn_4 : decode cX9_goesOn 4 = .ok (.ifCond .eq 14, 3) := by decide +kernel
theorem dX9_goesOn_7 : decode cX9_goesOn 7 = .ok (.aload_n 0, 1) := by decide +kernel
theorem dX9_goesOn_8 : decode cX9_goesOn 8 = .ok (.getfield 26, 3) := by decide +kernel
theorem dX9_goesOn_11 : decode cX9_goesOn 11 = .ok (.ifCond .ne 7, 3) := by decide +kernel
theorem dX9_goesOn_14 : decode cX9_goesOn 14 = .ok (.iconst 1, 1) := by decide +kernel
theorem dX9_goesOn_15 : decode cX9_goesOn 15 = .ok (.goto 4, 3) := by decide +kernel
theorem dX9_goesOn_18 : decode cX9_goesOn 18 = .ok (.iconst 0, 1) := by decide +kernel
theorem dX9_goesOn_19 : decode cX9_goesOn 19 = .ok (.ireturn, 1) := by decide +kernel
theorem dX9_advance_0 : decode cX9_advance 0 = .ok (.aload_n 0, 1) := by decide +kernel
theorem dX9_advance_1 : decode cX9_advance 1 = .ok (.aload_n 0, 1) := by decide +kernel
theorem dX9_advance_2 : decode cX9_advance 2 = .ok (.getfield 29, 3) := by decide +kernel
theorem dX9_advance_5 : decode cX9_advance 5 = .ok (.putfield 38, 3) := by decide +kernel
theorem dX9_advance_8 : decode cX9_advance 8 = .ok (.aload_n 0, 1) := by decide +kernel
theorem dX9_advance_9 : decode cX9_advance 9 = .ok (.getfield 38, 3) := by decide +kernel
theorem dX9_advance_12 : decode cX9_advance 12 = .ok (.aload_n 0, 1) := by decide +kernel
theorem dX9_advance_13 : decode cX9_advance 13 = .ok (.getfield 19, 3) := by decide +kernel
theorem dX9_advance_16 : decode cX9_advance 16 = .ok (.if_icmp .ge 44, 3) := by decide +kernel
theorem dX9_advance_19 : decode cX9_advance 19 = .ok (.aload_n 0, 1) := by decide +kernel
theorem dX9_advance_20 : decode cX9_advance 20 = .ok (.getfield 11, 3) := by decide +kernel
theorem dX9_advance_23 : decode cX9_advance 23 = .ok (.aload_n 0, 1) := by decide +kernel
theorem dX9_advance_24 : decode cX9_advance 24 = .ok (.getfield 38, 3) := by decide +kernel
theorem dX9_advance_27 : decode cX9_advance 27 = .ok (.baload, 1) := by decide +kernel
theorem dX9_advance_28 : decode cX9_advance 28 = .ok (.bipush 32, 2) := by decide +kernel
theorem dX9_advance_30 : decode cX9_advance 30 = .ok (.if_icmp .eq 17, 3) := by decide +kernel
theorem dX9_advance_33 : decode cX9_advance 33 = .ok (.aload_n 0, 1) := by decide +kernel
theorem dX9_advance_34 : decode cX9_advance 34 = .ok (.getfield 11, 3) := by decide +kernel
theorem dX9_advance_37 : decode cX9_advance 37 = .ok (.aload_n 0, 1) := by decide +kernel
theorem dX9_advance_38 : decode cX9_advance 38 = .ok (.getfield 38, 3) := by decide +kernel
theorem dX9_advance_41 : decode cX9_advance 41 = .ok (.baload, 1) := by decide +kernel
theorem dX9_advance_42 : decode cX9_advance 42 = .ok (.bipush 10, 2) := by decide +kernel
theorem dX9_advance_44 : decode cX9_advance 44 = .ok (.if_icmp .ne 16, 3) := by decide +kernel
theorem dX9_advance_47 : decode cX9_advance 47 = .ok (.aload_n 0, 1) := by decide +kernel
theorem dX9_advance_48 : decode cX9_advance 48 = .ok (.dup, 1) := by decide +kernel
theorem dX9_advance_49 : decode cX9_advance 49 = .ok (.getfield 38, 3) := by decide +kernel
theorem dX9_advance_52 : decode cX9_advance 52 = .ok (.iconst 1, 1) := by decide +kernel
theorem dX9_advance_53 : decode cX9_advance 53 = .ok (.iadd, 1) := by decide +kernel
theorem dX9_advance_54 : decode cX9_advance 54 = .ok (.putfield 38, 3) := by decide +kernel
theorem dX9_advance_57 : decode cX9_advance 57 = .ok (.goto (-49), 3) := by decide +kernel
theorem dX9_advance_60 : decode cX9_advance 60 = .ok (.aload_n 0, 1) := by decide +kernel
theorem dX9_advance_61 : decode cX9_advance 61 = .ok (.aload_n 0, 1) := by decide +kernel
theorem dX9_advance_62 : decode cX9_advance 62 = .ok (.getfield 38, 3) := by decide +kernel
theorem dX9_advance_65 : decode cX9_advance 65 = .ok (.putfield 29, 3) := by decide +kernel
theorem dX9_advance_68 : decode cX9_advance 68 = .ok (.aload_n 0, 1) := by decide +kernel
theorem dX9_advance_69 : decode cX9_advance 69 = .ok (.iconst 0, 1) := by decide +kernel
theorem dX9_advance_70 : decode cX9_advance 70 = .ok (.putfield 41, 3) := by decide +kernel
theorem dX9_advance_73 : decode cX9_advance 73 = .ok (.aload_n 0, 1) := by decide +kernel
theorem dX9_advance_74 : decode cX9_advance 74 = .ok (.aload_n 0, 1) := by decide +kernel
theorem dX9_advance_75 : decode cX9_advance 75 = .ok (.getfield 38, 3) := by decide +kernel
theorem dX9_advance_78 : decode cX9_advance 78 = .ok (.aload_n 0, 1) := by decide +kernel
theorem dX9_advance_79 : decode cX9_advance 79 = .ok (.getfield 19, 3) := by decide +kernel
theorem dX9_advance_82 : decode cX9_advance 82 = .ok (.if_icmp .ge 18, 3) := by decide +kernel
theorem dX9_advance_85 : decode cX9_advance 85 = .ok (.aload_n 0, 1) := by decide +kernel
theorem dX9_advance_86 : decode cX9_advance 86 = .ok (.getfield 11, 3) := by decide +kernel
theorem dX9_advance_89 : decode cX9_advance 89 = .ok (.aload_n 0, 1) := by decide +kernel
theorem dX9_advance_90 : decode cX9_advance 90 = .ok (.getfield 38, 3) := by decide +kernel
theorem dX9_advance_93 : decode cX9_advance 93 = .ok (.baload, 1) := by decide +kernel
theorem dX9_advance_94 : decode cX9_advance 94 = .ok (.invokestatic 22, 3) := by decide +kernel
theorem dX9_advance_97 : decode cX9_advance 97 = .ok (.goto 4, 3) := by decide +kernel
theorem dX9_advance_100 : decode cX9_advance 100 = .ok (.iconst 0, 1) := by decide +kernel
theorem dX9_advance_101 : decode cX9_advance 101 = .ok (.putfield 35, 3) := by decide +kernel
theorem dX9_advance_104 : decode cX9_advance 104 = .ok (.aload_n 0, 1) := by decide +kernel
theorem dX9_advance_105 : decode cX9_advance 105 = .ok (.getfield 35, 3) := by decide +kernel
theorem dX9_advance_108 : decode cX9_advance 108 = .ok (.iconst 3, 1) := by decide +kernel
theorem dX9_advance_109 : decode cX9_advance 109 = .ok (.if_icmp .ne 14, 3) := by decide +kernel
theorem dX9_advance_112 : decode cX9_advance 112 = .ok (.aload_n 0, 1) := by decide +kernel
theorem dX9_advance_113 : decode cX9_advance 113 = .ok (.dup, 1) := by decide +kernel
theorem dX9_advance_114 : decode cX9_advance 114 = .ok (.getfield 29, 3) := by decide +kernel
theorem dX9_advance_117 : decode cX9_advance 117 = .ok (.iconst 1, 1) := by decide +kernel
theorem dX9_advance_118 : decode cX9_advance 118 = .ok (.iadd, 1) := by decide +kernel
theorem dX9_advance_119 : decode cX9_advance 119 = .ok (.putfield 29, 3) := by decide +kernel
theorem dX9_advance_122 : decode cX9_advance 122 = .ok (.return_, 1) := by decide +kernel
theorem dX9_advance_123 : decode cX9_advance 123 = .ok (.aload_n 0, 1) := by decide +kernel
theorem dX9_advance_124 : decode cX9_advance 124 = .ok (.getfield 29, 3) := by decide +kernel
theorem dX9_advance_127 : decode cX9_advance 127 = .ok (.aload_n 0, 1) := by decide +kernel
theorem dX9_advance_128 : decode cX9_advance 128 = .ok (.getfield 19, 3) := by decide +kernel
theorem dX9_advance_131 : decode cX9_advance 131 = .ok (.if_icmp .ge 73, 3) := by decide +kernel
theorem dX9_advance_134 : decode cX9_advance 134 = .ok (.aload_n 0, 1) := by decide +kernel
theorem dX9_advance_135 : decode cX9_advance 135 = .ok (.getfield 11, 3) := by decide +kernel
theorem dX9_advance_138 : decode cX9_advance 138 = .ok (.aload_n 0, 1) := by decide +kernel
theorem dX9_advance_139 : decode cX9_advance 139 = .ok (.getfield 29, 3) := by decide +kernel
theorem dX9_advance_142 : decode cX9_advance 142 = .ok (.baload, 1) := by decide +kernel
theorem dX9_advance_143 : decode cX9_advance 143 = .ok (.invokestatic 22, 3) := by decide +kernel
theorem dX9_advance_146 : decode cX9_advance 146 = .ok (.aload_n 0, 1) := by decide +kernel
theorem dX9_advance_147 : decode cX9_advance 147 = .ok (.getfield 35, 3) := by decide +kernel
theorem dX9_advance_150 : decode cX9_advance 150 = .ok (.if_icmp .ne 54, 3) := by decide +kernel
theorem dX9_advance_153 : decode cX9_advance 153 = .ok (.aload_n 0, 1) := by decide +kernel
theorem dX9_advance_154 : decode cX9_advance 154 = .ok (.getfield 35, 3) := by decide +kernel
theorem dX9_advance_157 : decode cX9_advance 157 = .ok (.iconst 2, 1) := by decide +kernel
theorem dX9_advance_158 : decode cX9_advance 158 = .ok (.if_icmp .ne 33, 3) := by decide +kernel
theorem dX9_advance_161 : decode cX9_advance 161 = .ok (.aload_n 0, 1) := by decide +kernel
theorem dX9_advance_162 : decode cX9_advance 162 = .ok (.sipush 10000, 3) := by decide +kernel
theorem dX9_advance_165 : decode cX9_advance 165 = .ok (.aload_n 0, 1) := by decide +kernel
theorem dX9_advance_166 : decode cX9_advance 166 = .ok (.getfield 41, 3) := by decide +kernel
theorem dX9_advance_169 : decode cX9_advance 169 = .ok (.bipush 10, 2) := by decide +kernel
theorem dX9_advance_171 : decode cX9_advance 171 = .ok (.imul, 1) := by decide +kernel
theorem dX9_advance_172 : decode cX9_advance 172 = .ok (.aload_n 0, 1) := by decide +kernel
theorem dX9_advance_173 : decode cX9_advance 173 = .ok (.getfield 11, 3) := by decide +kernel
