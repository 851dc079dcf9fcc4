theorem dX10_nextOrder_48 : decode cX10_nextOrder 48 = .ok (.getfield 23, 3) := by decide +kernel
theorem dX10_nextOrder_51 : decode cX10_nextOrder 51 = .ok (.iload_n 2, 1) := by decide +kernel
theorem dX10_nextOrder_52 : decode cX10_nextOrder 52 = .ok (.iaload, 1) := by decide +kernel
theorem dX10_nextOrder_53 : decode cX10_nextOrder 53 = .ok (.aload_n 0, 1) := by decide +kernel
theorem dX10_nextOrder_54 : decode cX10_nextOrder 54 = .ok (.getfield 23, 3) := by decide +kernel
theorem dX10_nextOrder_57 : decode cX10_nextOrder 57 = .ok (.iload_n 1, 1) := by decide +kernel
theorem dX10_nextOrder_58 : decode cX10_nextOrder 58 = .ok (.iaload, 1) := by decide +kernel
theorem dX10_nextOrder_59 : decode cX10_nextOrder 59 = .ok (.if_icmp .gt 9, 3) := by decide +kernel
theorem dX10_nextOrder_62 : decode cX10_nextOrder 62 = .ok (.iinc 2 (-1), 3) := by decide +kernel
theorem dX10_nextOrder_65 : decode cX10_nextOrder 65 = .ok (.goto (-18), 3) := by decide +kernel
theorem dX10_nextOrder_68 : decode cX10_nextOrder 68 = .ok (.aload_n 0, 1) := by decide +kernel
theorem dX10_nextOrder_69 : decode cX10_nextOrder 69 = .ok (.iload_n 1, 1) := by decide +kernel
theorem dX10_nextOrder_70 : decode cX10_nextOrder 70 = .ok (.iload_n 2, 1) := by decide +kernel
theorem dX10_nextOrder_71 : decode cX10_nextOrder 71 = .ok (.invokevirtual 78, 3) := by decide +kernel
theorem dX10_nextOrder_74 : decode cX10_nextOrder 74 = .ok (.iload_n 1, 1) := by decide +kernel
theorem dX10_nextOrder_75 : decode cX10_nextOrder 75 = .ok (.iconst 1, 1) := by decide +kernel
theorem dX10_nextOrder_76 : decode cX10_nextOrder 76 = .ok (.iadd, 1) := by decide +kernel
theorem dX10_nextOrder_77 : decode cX10_nextOrder 77 = .ok (.istore_n 3, 1) := by decide +kernel
theorem dX10_nextOrder_78 : decode cX10_nextOrder 78 = .ok (.aload_n 0, 1) := by decide +kernel
theorem dX10_nextOrder_79 : decode cX10_nextOrder 79 = .ok (.getfield 71, 3) := by decide +kernel
theorem dX10_nextOrder_82 : decode cX10_nextOrder 82 = .ok (.iconst 1, 1) := by decide +kernel
theorem dX10_nextOrder_83 : decode cX10_nextOrder 83 = .ok (.isub, 1) := by decide +kernel
theorem dX10_nextOrder_84 : decode cX10_nextOrder 84 = .ok (.istore 4, 2) := by decide +kernel
theorem dX10_nextOrder_86 : decode cX10_nextOrder 86 = .ok (.iload_n 3, 1) := by decide +kernel
theorem dX10_nextOrder_87 : decode cX10_nextOrder 87 = .ok (.iload 4, 2) := by decide +kernel
theorem dX10_nextOrder_89 : decode cX10_nextOrder 89 = .ok (.if_icmp .ge 19, 3) := by decide +kernel
theorem dX10_nextOrder_92 : decode cX10_nextOrder 92 = .ok (.aload_n 0, 1) := by decide +kernel
theorem dX10_nextOrder_93 : decode cX10_nextOrder 93 = .ok (.iload_n 3, 1) := by decide +kernel
theorem dX10_nextOrder_94 : decode cX10_nextOrder 94 = .ok (.iload 4, 2) := by decide +kernel
theorem dX10_nextOrder_96 : decode cX10_nextOrder 96 = .ok (.invokevirtual 78, 3) := by decide +kernel
theorem dX10_nextOrder_99 : decode cX10_nextOrder 99 = .ok (.iinc 3 1, 3) := by decide +kernel
theorem dX10_nextOrder_102 : decode cX10_nextOrder 102 = .ok (.iinc 4 (-1), 3) := by decide +kernel
theorem dX10_nextOrder_105 : decode cX10_nextOrder 105 = .ok (.goto (-19), 3) := by decide +kernel
theorem dX10_nextOrder_108 : decode cX10_nextOrder 108 = .ok (.iconst 1, 1) := by decide +kernel
theorem dX10_nextOrder_109 : decode cX10_nextOrder 109 = .ok (.ireturn, 1) := by decide +kernel
theorem dX10_keepBest_0 : decode cX10_keepBest 0 = .ok (.iconst 0, 1) := by decide +kernel
theorem dX10_keepBest_1 : decode cX10_keepBest 1 = .ok (.istore_n 1, 1) := by decide +kernel
theorem dX10_keepBest_2 : decode cX10_keepBest 2 = .ok (.iload_n 1, 1) := by decide +kernel
theorem dX10_keepBest_3 : decode cX10_keepBest 3 = .ok (.aload_n 0, 1) := by decide +kernel
theorem dX10_keepBest_4 : decode cX10_keepBest 4 = .ok (.getfield 71, 3) := by decide +kernel
theorem dX10_keepBest_7 : decode cX10_keepBest 7 = .ok (.if_icmp .ge 21, 3) := by decide +kernel
theorem dX10_keepBest_10 : decode cX10_keepBest 10 = .ok (.aload_n 0, 1) := by decide +kernel
theorem dX10_keepBest_11 : decode cX10_keepBest 11 = .ok (.getfield 26, 3) := by decide +kernel
theorem dX10_keepBest_14 : decode cX10_keepBest 14 = .ok (.iload_n 1, 1) := by decide +kernel
theorem dX10_keepBest_15 : decode cX10_keepBest 15 = .ok (.aload_n 0, 1) := by decide +kernel
theorem dX10_keepBest_16 : decode cX10_keepBest 16 = .ok (.getfield 23, 3) := by decide +kernel
theorem dX10_keepBest_19 : decode cX10_keepBest 19 = .ok (.iload_n 1, 1) := by decide +kernel
theorem dX10_keepBest_20 : decode cX10_keepBest 20 = .ok (.iaload, 1) := by decide +kernel
theorem dX10_keepBest_21 : decode cX10_keepBest 21 = .ok (.iastore, 1) := by decide +kernel
theorem dX10_keepBest_22 : decode cX10_keepBest 22 = .ok (.iinc 1 1, 3) := by decide +kernel
theorem dX10_keepBest_25 : decode cX10_keepBest 25 = .ok (.goto (-23), 3) := by decide +kernel
theorem dX10_keepBest_28 : decode cX10_keepBest 28 = .ok (.return_, 1) := by decide +kernel
theorem dX10_told__0 : decode cX10_told_ 0 = .ok (.iload_n 1, 1) := by decide +kernel
theorem dX10_told__1 : decode cX10_told_ 1 = .ok (.iconst 0, 1) := by decide +kernel
theorem dX10_told__2 : decode cX10_told_ 2 = .ok (.aload_n 0, 1) := by decide +kernel
theorem dX10_told__3 : decode cX10_told_ 3 = .ok (.getfield 71, 3) := by decide +kernel
theorem dX10_told__6 : decode cX10_told_ 6 = .ok (.iconst 1, 1) := by decide +kernel
theorem dX10_told__7 : decode cX10_told_ 7 = .ok (.isub, 1) := by decide +kernel
theorem dX10_told__8 : decode cX10_told_ 8 = .ok (.invokestatic 38, 3) := by decide +kernel
theorem dX10_told__11 : decode cX10_told_ 11 = .ok (.ifCond .eq 19, 3) := by decide +kernel
theorem dX10_told__14 : decode cX10_told_ 14 = .ok (.aload_n 0, 1) := by decide +kernel
theorem dX10_told__15 : decode cX10_told_ 15 = .ok (.getfield 82, 3) := by decide +kernel
theorem dX10_told__18 : decode cX10_told_ 18 = .ok (.ifCond .le 12, 3) := by decide +kernel
theorem dX10_told__21 : decode cX10_told_ 21 = .ok (.aload_n 0, 1) := by decide +kernel
theorem dX10_told__22 : decode cX10_told_ 22 = .ok (.getfield 26, 3) := by decide +kernel
theorem dX10_told__25 : decode cX10_told_ 25 = .ok (.iload_n 1, 1) := by decide +kernel
theorem dX10_told__26 : decode cX10_told_ 26 = .ok (.iaload, 1) := by decide +kernel
theorem dX10_told__27 : decode cX10_told_ 27 = .ok (.goto 5, 3) := by decide +kernel
theorem dX10_told__30 : decode cX10_told_ 30 = .ok (.bipush (-6), 2) := by decide +kernel
theorem dX10_told__32 : decode cX10_told_ 32 = .ok (.ireturn, 1) := by decide +kernel
theorem dX10_goFits_0 : decode cX10_goFits 0 = .ok (.aload_n 0, 1) := by decide +kernel
theorem dX10_goFits_1 : decode cX10_goFits 1 = .ok (.iconst 0, 1) := by decide +kernel
theorem dX10_goFits_2 : decode cX10_goFits 2 = .ok (.putfield 82, 3) := by decide +kernel
theorem dX10_goFits_5 : decode cX10_goFits 5 = .ok (.iconst 0, 1) := by decide +kernel
theorem dX10_goFits_6 : decode cX10_goFits 6 = .ok (.istore_n 1, 1) := by decide +kernel
theorem dX10_goFits_7 : decode cX10_goFits 7 = .ok (.iload_n 1, 1) := by decide +kernel
theorem dX10_goFits_8 : decode cX10_goFits 8 = .ok (.bipush 9, 2) := by decide +kernel
theorem dX10_goFits_10 : decode cX10_goFits 10 = .ok (.if_icmp .ge 16, 3) := by decide +kernel
theorem dX10_goFits_13 : decode cX10_goFits 13 = .ok (.aload_n 0, 1) := by decide +kernel
theorem dX10_goFits_14 : decode cX10_goFits 14 = .ok (.getfield 29, 3) := by decide +kernel
theorem dX10_goFits_17 : decode cX10_goFits 17 = .ok (.iload_n 1, 1) := by decide +kernel
theorem dX10_goFits_18 : decode cX10_goFits 18 = .ok (.iconst 0, 1) := by decide +kernel
theorem dX10_goFits_19 : decode cX10_goFits 19 = .ok (.iastore, 1) := by decide +kernel
theorem dX10_goFits_20 : decode cX10_goFits 20 = .ok (.iinc 1 1, 3) := by decide +kernel
theorem dX10_goFits_23 : decode cX10_goFits 23 = .ok (.goto (-16), 3) := by decide +kernel
theorem dX10_goFits_26 : decode cX10_goFits 26 = .ok (.aload_n 0, 1) := by decide +kernel
theorem dX10_goFits_27 : decode cX10_goFits 27 = .ok (.invokevirtual 85, 3) := by decide +kernel
theorem dX10_goFits_30 : decode cX10_goFits 30 = .ok (.iconst 1, 1) := by decide +kernel
theorem dX10_goFits_31 : decode cX10_goFits 31 = .ok (.istore_n 1, 1) := by decide +kernel
theorem dX10_goFits_32 : decode cX10_goFits 32 = .ok (.iload_n 1, 1) := by decide +kernel
theorem dX10_goFits_33 : decode cX10_goFits 33 = .ok (.ifCond .eq 72, 3) := by decide +kernel
theorem dX10_goFits_36 : decode cX10_goFits 36 = .ok (.aload_n 0, 1) := by decide +kernel
theorem dX10_goFits_37 : decode cX10_goFits 37 = .ok (.invokevirtual 88, 3) := by decide +kernel
theorem dX10_goFits_40 : decode cX10_goFits 40 = .ok (.ifCond .ne 57, 3) := by decide +kernel
theorem dX10_goFits_43 : decode cX10_goFits 43 = .ok (.aload_n 0, 1) := by decide +kernel
theorem dX10_goFits_44 : decode cX10_goFits 44 = .ok (.getfield 82, 3) := by decide +kernel
theorem dX10_goFits_47 : decode cX10_goFits 47 = .ok (.ifCond .ne 7, 3) := by decide +kernel
theorem dX10_goFits_50 : decode cX10_goFits 50 = .ok (.aload_n 0, 1) := by decide +kernel
theorem dX10_goFits_51 : decode cX10_goFits 51 = .ok (.invokevirtual 91, 3) := by decide +kernel
theorem dX10_goFits_54 : decode cX10_goFits 54 = .ok (.aload_n 0, 1) := by decide +kernel
theorem dX10_goFits_55 : decode cX10_goFits 55 = .ok (.dup, 1) := by decide +kernel
theorem dX10_goFits_56 : decode cX10_goFits 56 = .ok (.getfield 82, 3) := by decide +kernel
theorem dX10_goFits_59 : decode cX10_goFits 59 = .ok (.iconst 1, 1) := by decide +kernel
theorem dX10_goFits_60 : decode cX10_goFits 60 = .ok (.iadd, 1) := by decide +kernel
theorem dX10_goFits_61 : decode cX10_goFits 61 = .ok (.putfield 82, 3) := by decide +kernel
theorem dX10_goFits_64 : decode cX10_goFits 64 = .ok (.iconst 0, 1) := by decide +kernel
theorem dX10_goFits_65 : decode cX10_goFits 65 = .ok (.istore_n 2, 1) := by decide +kernel
theorem dX10_goFits_66 : decode cX10_goFits 66 = .ok (.iload_n 2, 1) := by decide +kernel
theorem dX10_goFits_67 : decode cX10_goFits 67 = .ok (.aload_n 0, 1) := by decide +kernel
theorem dX10_goFits_68 : decode cX10_goFits 68 = .ok (.getfield 71, 3) := by decide +kernel
theorem dX10_goFits_71 : decode cX10_goFits 71 = .ok (.if_icmp .ge 26, 3) := by decide +kernel
theorem dX10_goFits_74 : decode cX10_goFits 74 = .ok (.aload_n 0, 1) := by decide +kernel
theorem dX10_goFits_75 : decode cX10_goFits 75 = .ok (.getfield 29, 3) := by decide +kernel
theorem dX10_goFits_78 : decode cX10_goFits 78 = .ok (.iload_n 2, 1) := by decide +kernel
theorem dX10_goFits_79 : decode cX10_goFits 79 = .ok (.dup2, 1) := by decide +kernel
theorem dX10_goFits_80 : decode cX10_goFits 80 = .ok (.iaload, 1) := by decide +kernel
theorem dX10_goFits_81 : decode cX10_goFits 81 = .ok (.iconst 1, 1) := by decide +kernel
theorem dX10_goFits_82 : decode cX10_goFits 82 = .ok (.aload_n 0, 1) := by decide +kernel
theorem dX10_goFits_83 : decode cX10_goFits 83 = .ok (.getfield 23, 3) := by decide +kernel
theorem dX10_goFits_86 : decode cX10_goFits 86 = .ok (.iload_n 2, 1) := by decide +kernel
theorem dX10_goFits_87 : decode cX10_goFits 87 = .ok (.iaload, 1) := by decide +kernel
theorem dX10_goFits_88 : decode cX10_goFits 88 = .ok (.ishl, 1) := by decide +kernel
theorem dX10_goFits_89 : decode cX10_goFits 89 = .ok (.ior, 1) := by decide +kernel
theorem dX10_goFits_90 : decode cX10_goFits 90 = .ok (.iastore, 1) := by decide +kernel
theorem dX10_goFits_91 : decode cX10_goFits 91 = .ok (.iinc 2 1, 3) := by decide +kernel
theorem dX10_goFits_94 : decode cX10_goFits 94 = .ok (.goto (-28), 3) := by decide +kernel
theorem dX10_goFits_97 : decode cX10_goFits 97 = .ok (.aload_n 0, 1) := by decide +kernel
theorem dX10_goFits_98 : decode cX10_goFits 98 = .ok (.invokevirtual 94, 3) := by decide +kernel
theorem dX10_goFits_101 : decode cX10_goFits 101 = .ok (.istore_n 1, 1) := by decide +kernel
theorem dX10_goFits_102 : decode cX10_goFits 102 = .ok (.goto (-70), 3) := by decide +kernel
theorem dX10_goFits_105 : decode cX10_goFits 105 = .ok (.return_, 1) := by decide +kernel
theorem dX10_fits_0 : decode cX10_fits 0 = .ok (.iload_n 1, 1) := by decide +kernel
theorem dX10_fits_1 : decode cX10_fits 1 = .ok (.iconst (-1), 1) := by decide +kernel
theorem dX10_fits_2 : decode cX10_fits 2 = .ok (.if_icmp .ge 6, 3) := by decide +kernel
theorem dX10_fits_5 : decode cX10_fits 5 = .ok (.bipush (-2), 2) := by decide +kernel
theorem dX10_fits_7 : decode cX10_fits 7 = .ok (.ireturn, 1) := by decide +kernel
theorem dX10_fits_8 : decode cX10_fits 8 = .ok (.aload_n 0, 1) := by decide +kernel
theorem dX10_fits_9 : decode cX10_fits 9 = .ok (.invokevirtual 98, 3) := by decide +kernel
theorem dX10_fits_12 : decode cX10_fits 12 = .ok (.iload_n 1, 1) := by decide +kernel
theorem dX10_fits_13 : decode cX10_fits 13 = .ok (.iconst (-1), 1) := by decide +kernel
theorem dX10_fits_14 : decode cX10_fits 14 = .ok (.if_icmp .ne 10, 3) := by decide +kernel
theorem dX10_fits_17 : decode cX10_fits 17 = .ok (.aload_n 0, 1) := by decide +kernel
theorem dX10_fits_18 : decode cX10_fits 18 = .ok (.getfield 82, 3) := by decide +kernel
theorem dX10_fits_21 : decode cX10_fits 21 = .ok (.goto 8, 3) := by decide +kernel
theorem dX10_fits_24 : decode cX10_fits 24 = .ok (.aload_n 0, 1) := by decide +kernel
theorem dX10_fits_25 : decode cX10_fits 25 = .ok (.iload_n 1, 1) := by decide +kernel
theorem dX10_fits_26 : decode cX10_fits 26 = .ok (.invokevirtual 101, 3) := by decide +kernel
theorem dX10_fits_29 : decode cX10_fits 29 = .ok (.ireturn, 1) := by decide +kernel
theorem dX10_at_0 : decode cX10_at 0 = .ok (.aload_n 0, 1) := by decide +kernel
theorem dX10_at_1 : decode cX10_at 1 = .ok (.invokevirtual 98, 3) := by decide +kernel
theorem dX10_at_4 : decode cX10_at 4 = .ok (.aload_n 0, 1) := by decide +kernel
theorem dX10_at_5 : decode cX10_at 5 = .ok (.getfield 82, 3) := by decide +kernel
theorem dX10_at_8 : decode cX10_at 8 = .ok (.ifCond .le 26, 3) := by decide +kernel
theorem dX10_at_11 : decode cX10_at 11 = .ok (.iload_n 1, 1) := by decide +kernel
theorem dX10_at_12 : decode cX10_at 12 = .ok (.iconst 0, 1) := by decide +kernel
theorem dX10_at_13 : decode cX10_at 13 = .ok (.aload_n 0, 1) := by decide +kernel
theorem dX10_at_14 : decode cX10_at 14 = .ok (.getfield 71, 3) := by decide +kernel
theorem dX10_at_17 : decode cX10_at 17 = .ok (.iconst 1, 1) := by decide +kernel
theorem dX10_at_18 : decode cX10_at 18 = .ok (.isub, 1) := by decide +kernel
theorem dX10_at_19 : decode cX10_at 19 = .ok (.invokestatic 38, 3) := by decide +kernel
theorem dX10_at_22 : decode cX10_at 22 = .ok (.ifCond .eq 12, 3) := by decide +kernel
theorem dX10_at_25 : decode cX10_at 25 = .ok (.aload_n 0, 1) := by decide +kernel
theorem dX10_at_26 : decode cX10_at 26 = .ok (.getfield 29, 3) := by decide +kernel
theorem dX10_at_29 : decode cX10_at 29 = .ok (.iload_n 1, 1) := by decide +kernel
theorem dX10_at_30 : decode cX10_at 30 = .ok (.iaload, 1) := by decide +kernel
theorem dX10_at_31 : decode cX10_at 31 = .ok (.goto 5, 3) := by decide +kernel
theorem dX10_at_34 : decode cX10_at 34 = .ok (.bipush (-6), 2) := by decide +kernel
theorem dX10_at_36 : decode cX10_at 36 = .ok (.ireturn, 1) := by decide +kernel
theorem dX10_goLeast_0 : decode cX10_goLeast 0 = .ok (.aload_n 0, 1) := by decide +kernel
theorem dX10_goLeast_1 : decode cX10_goLeast 1 = .ok (.sipush 1000, 3) := by decide +kernel
theorem dX10_goLeast_4 : decode cX10_goLeast 4 = .ok (.putfield 104, 3) := by decide +kernel
theorem dX10_goLeast_7 : decode cX10_goLeast 7 = .ok (.aload_n 0, 1) := by decide +kernel
theorem dX10_goLeast_8 : decode cX10_goLeast 8 = .ok (.iconst 0, 1) := by decide +kernel
theorem dX10_goLeast_9 : decode cX10_goLeast 9 = .ok (.putfield 107, 3) := by decide +kernel
theorem dX10_goLeast_12 : decode cX10_goLeast 12 = .ok (.aload_n 0, 1) := by decide +kernel
theorem dX10_goLeast_13 : decode cX10_goLeast 13 = .ok (.iconst 0, 1) := by decide +kernel
theorem dX10_goLeast_14 : decode cX10_goLeast 14 = .ok (.putfield 110, 3) := by decide +kernel
theorem dX10_goLeast_17 : decode cX10_goLeast 17 = .ok (.aload_n 0, 1) := by decide +kernel
theorem dX10_goLeast_18 : decode cX10_goLeast 18 = .ok (.iconst 0, 1) := by decide +kernel
theorem dX10_goLeast_19 : decode cX10_goLeast 19 = .ok (.putfield 113, 3) := by decide +kernel
theorem dX10_goLeast_22 : decode cX10_goLeast 22 = .ok (.aload_n 0, 1) := by decide +kernel
theorem dX10_goLeast_23 : decode cX10_goLeast 23 = .ok (.iconst 1, 1) := by decide +kernel
theorem dX10_goLeast_24 : decode cX10_goLeast 24 = .ok (.putfield 82, 3) := by decide +kernel
theorem dX10_goLeast_27 : decode cX10_goLeast 27 = .ok (.aload_n 0, 1) := by decide +kernel
theorem dX10_goLeast_28 : decode cX10_goLeast 28 = .ok (.invokevirtual 85, 3) := by decide +kernel
theorem dX10_goLeast_31 : decode cX10_goLeast 31 = .ok (.iconst 1, 1) := by decide +kernel
theorem dX10_goLeast_32 : decode cX10_goLeast 32 = .ok (.istore_n 1, 1) := by decide +kernel
theorem dX10_goLeast_33 : decode cX10_goLeast 33 = .ok (.iload_n 1, 1) := by decide +kernel
theorem dX10_goLeast_34 : decode cX10_goLeast 34 = .ok (.ifCond .eq 90, 3) := by decide +kernel
theorem dX10_goLeast_37 : decode cX10_goLeast 37 = .ok (.aload_n 0, 1) := by decide +kernel
theorem dX10_goLeast_38 : decode cX10_goLeast 38 = .ok (.invokevirtual 88, 3) := by decide +kernel
theorem dX10_goLeast_41 : decode cX10_goLeast 41 = .ok (.istore_n 2, 1) := by decide +kernel
theorem dX10_goLeast_42 : decode cX10_goLeast 42 = .ok (.iload_n 2, 1) := by decide +kernel
theorem dX10_goLeast_43 : decode cX10_goLeast 43 = .ok (.aload_n 0, 1) := by decide +kernel
theorem dX10_goLeast_44 : decode cX10_goLeast 44 = .ok (.getfield 104, 3) := by decide +kernel
theorem dX10_goLeast_47 : decode cX10_goLeast 47 = .ok (.if_icmp .ge 17, 3) := by decide +kernel
theorem dX10_goLeast_50 : decode cX10_goLeast 50 = .ok (.aload_n 0, 1) := by decide +kernel
theorem dX10_goLeast_51 : decode cX10_goLeast 51 = .ok (.iload_n 2, 1) := by decide +kernel
theorem dX10_goLeast_52 : decode cX10_goLeast 52 = .ok (.putfield 104, 3) := by decide +kernel
theorem dX10_goLeast_55 : decode cX10_goLeast 55 = .ok (.aload_n 0, 1) := by decide +kernel
theorem dX10_goLeast_56 : decode cX10_goLeast 56 = .ok (.iconst 0, 1) := by decide +kernel
theorem dX10_goLeast_57 : decode cX10_goLeast 57 = .ok (.putfield 110, 3) := by decide +kernel
theorem dX10_goLeast_60 : decode cX10_goLeast 60 = .ok (.aload_n 0, 1) := by decide +kernel
theorem dX10_goLeast_61 : decode cX10_goLeast 61 = .ok (.invokevirtual 91, 3) := by decide +kernel
theorem dX10_goLeast_64 : decode cX10_goLeast 64 = .ok (.aload_n 0, 1) := by decide +kernel
theorem dX10_goLeast_65 : decode cX10_goLeast 65 = .ok (.dup, 1) := by decide +kernel
theorem dX10_goLeast_66 : decode cX10_goLeast 66 = .ok (.getfield 110, 3) := by decide +kernel
theorem dX10_goLeast_69 : decode cX10_goLeast 69 = .ok (.iload_n 2, 1) := by decide +kernel
theorem dX10_goLeast_70 : decode cX10_goLeast 70 = .ok (.aload_n 0, 1) := by decide +kernel
theorem dX10_goLeast_71 : decode cX10_goLeast 71 = .ok (.getfield 104, 3) := by decide +kernel
theorem dX10_goLeast_74 : decode cX10_goLeast 74 = .ok (.if_icmp .ne 7, 3) := by decide +kernel
theorem dX10_goLeast_77 : decode cX10_goLeast 77 = .ok (.iconst 1, 1) := by decide +kernel
theorem dX10_goLeast_78 : decode cX10_goLeast 78 = .ok (.goto 4, 3) := by decide +kernel
theorem dX10_goLeast_81 : decode cX10_goLeast 81 = .ok (.iconst 0, 1) := by decide +kernel
theorem dX10_goLeast_82 : decode cX10_goLeast 82 = .ok (.iadd, 1) := by decide +kernel
theorem dX10_goLeast_83 : decode cX10_goLeast 83 = .ok (.putfield 110, 3) := by decide +kernel
theorem dX10_goLeast_86 : decode cX10_goLeast 86 = .ok (.aload_n 0, 1) := by decide +kernel
theorem dX10_goLeast_87 : decode cX10_goLeast 87 = .ok (.iload_n 2, 1) := by decide +kernel
theorem dX10_goLeast_88 : decode cX10_goLeast 88 = .ok (.aload_n 0, 1) := by decide +kernel
theorem dX10_goLeast_89 : decode cX10_goLeast 89 = .ok (.getfield 107, 3) := by decide +kernel
theorem dX10_goLeast_92 : decode cX10_goLeast 92 = .ok (.if_icmp .le 7, 3) := by decide +kernel
theorem dX10_goLeast_95 : decode cX10_goLeast 95 = .ok (.iload_n 2, 1) := by decide +kernel
theorem dX10_goLeast_96 : decode cX10_goLeast 96 = .ok (.goto 7, 3) := by decide +kernel
theorem dX10_goLeast_99 : decode cX10_goLeast 99 = .ok (.aload_n 0, 1) := by decide +kernel
theorem dX10_goLeast_100 : decode cX10_goLeast 100 = .ok (.getfield 107, 3) := by decide +kernel
theorem dX10_goLeast_103 : decode cX10_goLeast 103 = .ok (.putfield 107, 3) := by decide +kernel
theorem dX10_goLeast_106 : decode cX10_goLeast 106 = .ok (.aload_n 0, 1) := by decide +kernel
theorem dX10_goLeast_107 : decode cX10_goLeast 107 = .ok (.dup, 1) := by decide +kernel
theorem dX10_goLeast_108 : decode cX10_goLeast 108 = .ok (.getfield 113, 3) := by decide +kernel
theorem dX10_goLeast_111 : decode cX10_goLeast 111 = .ok (.iconst 1, 1) := by decide +kernel
theorem dX10_goLeast_112 : decode cX10_goLeast 112 = .ok (.iadd, 1) := by decide +kernel
theorem dX10_goLeast_113 : decode cX10_goLeast 113 = .ok (.putfield 113, 3) := by decide +kernel
theorem dX10_goLeast_116 : decode cX10_goLeast 116 = .ok (.aload_n 0, 1) := by decide +kernel
theorem dX10_goLeast_117 : decode cX10_goLeast 117 = .ok (.invokevirtual 94, 3) := by decide +kernel
theorem dX10_goLeast_120 : decode cX10_goLeast 120 = .ok (.istore_n 1, 1) := by decide +kernel
theorem dX10_goLeast_121 : decode cX10_goLeast 121 = .ok (.goto (-88), 3) := by decide +kernel
theorem dX10_goLeast_124 : decode cX10_goLeast 124 = .ok (.return_, 1) := by decide +kernel
theorem dX10_least_0 : decode cX10_least 0 = .ok (.iload_n 1, 1) := by decide +kernel
theorem dX10_least_1 : decode cX10_least 1 = .ok (.iconst (-1), 1) := by decide +kernel
theorem dX10_least_2 : decode cX10_least 2 = .ok (.if_icmp .ge 6, 3) := by decide +kernel
theorem dX10_least_5 : decode cX10_least 5 = .ok (.bipush (-2), 2) := by decide +kernel
theorem dX10_least_7 : decode cX10_least 7 = .ok (.ireturn, 1) := by decide +kernel
theorem dX10_least_8 : decode cX10_least 8 = .ok (.aload_n 0, 1) := by decide +kernel
theorem dX10_least_9 : decode cX10_least 9 = .ok (.invokevirtual 116, 3) := by decide +kernel
theorem dX10_least_12 : decode cX10_least 12 = .ok (.iload_n 1, 1) := by decide +kernel
theorem dX10_least_13 : decode cX10_least 13 = .ok (.iconst (-1), 1) := by decide +kernel
theorem dX10_least_14 : decode cX10_least 14 = .ok (.if_icmp .ne 10, 3) := by decide +kernel
theorem dX10_least_17 : decode cX10_least 17 = .ok (.aload_n 0, 1) := by decide +kernel
theorem dX10_least_18 : decode cX10_least 18 = .ok (.getfield 104, 3) := by decide +kernel
theorem dX10_least_21 : decode cX10_least 21 = .ok (.goto 8, 3) := by decide +kernel
theorem dX10_least_24 : decode cX10_least 24 = .ok (.aload_n 0, 1) := by decide +kernel
theorem dX10_least_25 : decode cX10_least 25 = .ok (.iload_n 1, 1) := by decide +kernel
theorem dX10_least_26 : decode cX10_least 26 = .ok (.invokevirtual 101, 3) := by decide +kernel
theorem dX10_least_29 : decode cX10_least 29 = .ok (.ireturn, 1) := by decide +kernel
theorem dX10_orders_0 : decode cX10_orders 0 = .ok (.iload_n 1, 1) := by decide +kernel
theorem dX10_orders_1 : decode cX10_orders 1 = .ok (.iconst 0, 1) := by decide +kernel
theorem dX10_orders_2 : decode cX10_orders 2 = .ok (.iconst 2, 1) := by decide +kernel
theorem dX10_orders_3 : decode cX10_orders 3 = .ok (.invokestatic 38, 3) := by decide +kernel
theorem dX10_orders_6 : decode cX10_orders 6 = .ok (.ifCond .ne 6, 3) := by decide +kernel
theorem dX10_orders_9 : decode cX10_orders 9 = .ok (.bipush (-2), 2) := by decide +kernel
theorem dX10_orders_11 : decode cX10_orders 11 = .ok (.ireturn, 1) := by decide +kernel
theorem dX10_orders_12 : decode cX10_orders 12 = .ok (.aload_n 0, 1) := by decide +kernel
theorem dX10_orders_13 : decode cX10_orders 13 = .ok (.invokevirtual 116, 3) := by decide +kernel
theorem dX10_orders_16 : decode cX10_orders 16 = .ok (.iload_n 1, 1) := by decide +kernel
theorem dX10_orders_17 : decode cX10_orders 17 = .ok (.ifCond .ne 10, 3) := by decide +kernel
theorem dX10_orders_20 : decode cX10_orders 20 = .ok (.aload_n 0, 1) := by decide +kernel
theorem dX10_orders_21 : decode cX10_orders 21 = .ok (.getfield 113, 3) := by decide +kernel
theorem dX10_orders_24 : decode cX10_orders 24 = .ok (.goto 19, 3) := by decide +kernel
theorem dX10_orders_27 : decode cX10_orders 27 = .ok (.iload_n 1, 1) := by decide +kernel
theorem dX10_orders_28 : decode cX10_orders 28 = .ok (.iconst 1, 1) := by decide +kernel
theorem dX10_orders_29 : decode cX10_orders 29 = .ok (.if_icmp .ne 10, 3) := by decide +kernel
theorem dX10_orders_32 : decode cX10_orders 32 = .ok (.aload_n 0, 1) := by decide +kernel
theorem dX10_orders_33 : decode cX10_orders 33 = .ok (.getfield 107, 3) := by decide +kernel
theorem dX10_orders_36 : decode cX10_orders 36 = .ok (.goto 7, 3) := by decide +kernel
theorem dX10_orders_39 : decode cX10_orders 39 = .ok (.aload_n 0, 1) := by decide +kernel
theorem dX10_orders_40 : decode cX10_orders 40 = .ok (.getfield 110, 3) := by decide +kernel
theorem dX10_orders_43 : decode cX10_orders 43 = .ok (.ireturn, 1) := by decide +kernel
theorem dX10_size_0 : decode cX10_size 0 = .ok (.iload_n 0, 1) := by decide +kernel
theorem dX10_size_1 : decode cX10_size 1 = .ok (.iconst 1, 1) := by decide +kernel
theorem dX10_size_2 : decode cX10_size 2 = .ok (.iand, 1) := by decide +kernel
theorem dX10_size_3 : decode cX10_size 3 = .ok (.iload_n 0, 1) := by decide +kernel
theorem dX10_size_4 : decode cX10_size 4 = .ok (.iconst 1, 1) := by decide +kernel
theorem dX10_size_5 : decode cX10_size 5 = .ok (.ishr, 1) := by decide +kernel
theorem dX10_size_6 : decode cX10_size 6 = .ok (.iconst 1, 1) := by decide +kernel
theorem dX10_size_7 : decode cX10_size 7 = .ok (.iand, 1) := by decide +kernel
theorem dX10_size_8 : decode cX10_size 8 = .ok (.iadd, 1) := by decide +kernel
theorem dX10_size_9 : decode cX10_size 9 = .ok (.iload_n 0, 1) := by decide +kernel
theorem dX10_size_10 : decode cX10_size 10 = .ok (.iconst 2, 1) := by decide +kernel
theorem dX10_size_11 : decode cX10_size 11 = .ok (.ishr, 1) := by decide +kernel
theorem dX10_size_12 : decode cX10_size 12 = .ok (.iconst 1, 1) := by decide +kernel
theorem dX10_size_13 : decode cX10_size 13 = .ok (.iand, 1) := by decide +kernel
theorem dX10_size_14 : decode cX10_size 14 = .ok (.iadd, 1) := by decide +kernel
theorem dX10_size_15 : decode cX10_size 15 = .ok (.iload_n 0, 1) := by decide +kernel
theorem dX10_size_16 : decode cX10_size 16 = .ok (.iconst 3, 1) := by decide +kernel
theorem dX10_size_17 : decode cX10_size 17 = .ok (.ishr, 1) := by decide +kernel
theorem dX10_size_18 : decode cX10_size 18 = .ok (.iconst 1, 1) := by decide +kernel
theorem dX10_size_19 : decode cX10_size 19 = .ok (.iand, 1) := by decide +kernel
theorem dX10_size_20 : decode cX10_size 20 = .ok (.iadd, 1) := by decide +kernel
theorem dX10_size_21 : decode cX10_size 21 = .ok (.ireturn, 1) := by decide +kernel
theorem dX10_layLeft_0 : decode cX10_layLeft 0 = .ok (.iconst 0, 1) := by decide +kernel
theorem dX10_layLeft_1 : decode cX10_layLeft 1 = .ok (.istore_n 2, 1) := by decide +kernel
theorem dX10_layLeft_2 : decode cX10_layLeft 2 = .ok (.iload_n 2, 1) := by decide +kernel
theorem dX10_layLeft_3 : decode cX10_layLeft 3 = .ok (.iconst 5, 1) := by decide +kernel
theorem dX10_layLeft_4 : decode cX10_layLeft 4 = .ok (.if_icmp .ge 24, 3) := by decide +kernel
theorem dX10_layLeft_7 : decode cX10_layLeft 7 = .ok (.aload_n 0, 1) := by decide +kernel
theorem dX10_layLeft_8 : decode cX10_layLeft 8 = .ok (.getfield 32, 3) := by decide +kernel
theorem dX10_layLeft_11 : decode cX10_layLeft 11 = .ok (.iload_n 2, 1) := by decide +kernel
theorem dX10_layLeft_12 : decode cX10_layLeft 12 = .ok (.aload_n 0, 1) := by decide +kernel
theorem dX10_layLeft_13 : decode cX10_layLeft 13 = .ok (.getfield 7, 3) := by decide +kernel
theorem dX10_layLeft_16 : decode cX10_layLeft 16 = .ok (.bipush 13, 2) := by decide +kernel
theorem dX10_layLeft_18 : decode cX10_layLeft 18 = .ok (.iload_n 2, 1) := by decide +kernel
theorem dX10_layLeft_19 : decode cX10_layLeft 19 = .ok (.iadd, 1) := by decide +kernel
theorem dX10_layLeft_20 : decode cX10_layLeft 20 = .ok (.iaload, 1) := by decide +kernel
theorem dX10_layLeft_21 : decode cX10_layLeft 21 = .ok (.iastore, 1) := by decide +kernel
theorem dX10_layLeft_22 : decode cX10_layLeft 22 = .ok (.iinc 2 1, 3) := by decide +kernel
theorem dX10_layLeft_25 : decode cX10_layLeft 25 = .ok (.goto (-23), 3) := by decide +kernel
theorem dX10_layLeft_28 : decode cX10_layLeft 28 = .ok (.iconst 0, 1) := by decide +kernel
theorem dX10_layLeft_29 : decode cX10_layLeft 29 = .ok (.istore_n 2, 1) := by decide +kernel
theorem dX10_layLeft_30 : decode cX10_layLeft 30 = .ok (.iload_n 2, 1) := by decide +kernel
theorem dX10_layLeft_31 : decode cX10_layLeft 31 = .ok (.iload_n 1, 1) := by decide +kernel
theorem dX10_layLeft_32 : decode cX10_layLeft 32 = .ok (.if_icmp .ge 24, 3) := by decide +kernel
theorem dX10_layLeft_35 : decode cX10_layLeft 35 = .ok (.aload_n 0, 1) := by decide +kernel
theorem dX10_layLeft_36 : decode cX10_layLeft 36 = .ok (.getfield 32, 3) := by decide +kernel
theorem dX10_layLeft_39 : decode cX10_layLeft 39 = .ok (.aload_n 0, 1) := by decide +kernel
theorem dX10_layLeft_40 : decode cX10_layLeft 40 = .ok (.getfield 23, 3) := by decide +kernel
theorem dX10_layLeft_43 : decode cX10_layLeft 43 = .ok (.iload_n 2, 1) := by decide +kernel
theorem dX10_layLeft_44 : decode cX10_layLeft 44 = .ok (.iaload, 1) := by decide +kernel
theorem dX10_layLeft_45 : decode cX10_layLeft 45 = .ok (.dup2, 1) := by decide +kernel
theorem dX10_layLeft_46 : decode cX10_layLeft 46 = .ok (.iaload, 1) := by decide +kernel
theorem dX10_layLeft_47 : decode cX10_layLeft 47 = .ok (.iconst 1, 1) := by decide +kernel
theorem dX10_layLeft_48 : decode cX10_layLeft 48 = .ok (.isub, 1) := by decide +kernel
theorem dX10_layLeft_49 : decode cX10_layLeft 49 = .ok (.iastore, 1) := by decide +kernel
theorem dX10_layLeft_50 : decode cX10_layLeft 50 = .ok (.iinc 2 1, 3) := by decide +kernel
theorem dX10_layLeft_53 : decode cX10_layLeft 53 = .ok (.goto (-23), 3) := by decide +kernel
theorem dX10_layLeft_56 : decode cX10_layLeft 56 = .ok (.return_, 1) := by decide +kernel
theorem dX10_isBetter_0 : decode cX10_isBetter 0 = .ok (.aload_n 0, 1) := by decide +kernel
theorem dX10_isBetter_1 : decode cX10_isBetter 1 = .ok (.getfield 7, 3) := by decide +kernel
theorem dX10_isBetter_4 : decode cX10_isBetter 4 = .ok (.bipush 8, 2) := by decide +kernel
theorem dX10_isBetter_6 : decode cX10_isBetter 6 = .ok (.iload_n 1, 1) := by decide +kernel
theorem dX10_isBetter_7 : decode cX10_isBetter 7 = .ok (.iadd, 1) := by decide +kernel
theorem dX10_isBetter_8 : decode cX10_isBetter 8 = .ok (.iaload, 1) := by decide +kernel
theorem dX10_isBetter_9 : decode cX10_isBetter 9 = .ok (.invokestatic 119, 3) := by decide +kernel
theorem dX10_isBetter_12 : decode cX10_isBetter 12 = .ok (.aload_n 0, 1) := by decide +kernel
theorem dX10_isBetter_13 : decode cX10_isBetter 13 = .ok (.getfield 7, 3) := by decide +kernel
theorem dX10_isBetter_16 : decode cX10_isBetter 16 = .ok (.bipush 8, 2) := by decide +kernel
theorem dX10_isBetter_18 : decode cX10_isBetter 18 = .ok (.iload_n 3, 1) := by decide +kernel
theorem dX10_isBetter_19 : decode cX10_isBetter 19 = .ok (.iadd, 1) := by decide +kernel
theorem dX10_isBetter_20 : decode cX10_isBetter 20 = .ok (.iaload, 1) := by decide +kernel
theorem dX10_isBetter_21 : decode cX10_isBetter 21 = .ok (.invokestatic 119, 3) := by decide +kernel
theorem dX10_isBetter_24 : decode cX10_isBetter 24 = .ok (.isub, 1) := by decide +kernel
theorem dX10_isBetter_25 : decode cX10_isBetter 25 = .ok (.istore 5, 2) := by decide +kernel
theorem dX10_isBetter_27 : decode cX10_isBetter 27 = .ok (.iload_n 2, 1) := by decide +kernel
theorem dX10_isBetter_28 : decode cX10_isBetter 28 = .ok (.iload 4, 2) := by decide +kernel
theorem dX10_isBetter_30 : decode cX10_isBetter 30 = .ok (.if_icmp .eq 17, 3) := by decide +kernel
theorem dX10_isBetter_33 : decode cX10_isBetter 33 = .ok (.iload_n 2, 1) := by decide +kernel
theorem dX10_isBetter_34 : decode cX10_isBetter 34 = .ok (.iload 4, 2) := by decide +kernel
theorem dX10_isBetter_36 : decode cX10_isBetter 36 = .ok (.if_icmp .ge 7, 3) := by decide +kernel
theorem dX10_isBetter_39 : decode cX10_isBetter 39 = .ok (.iconst 1, 1) := by decide +kernel
theorem dX10_isBetter_40 : decode cX10_isBetter 40 = .ok (.goto 45, 3) := by decide +kernel
theorem dX10_isBetter_43 : decode cX10_isBetter 43 = .ok (.iconst 0, 1) := by decide +kernel
theorem dX10_isBetter_44 : decode cX10_isBetter 44 = .ok (.goto 41, 3) := by decide +kernel
theorem dX10_isBetter_47 : decode cX10_isBetter 47 = .ok (.iload 5, 2) := by decide +kernel
theorem dX10_isBetter_49 : decode cX10_isBetter 49 = .ok (.ifCond .eq 16, 3) := by decide +kernel
theorem dX10_isBetter_52 : decode cX10_isBetter 52 = .ok (.iload 5, 2) := by decide +kernel
theorem dX10_isBetter_54 : decode cX10_isBetter 54 = .ok (.ifCond .le 7, 3) := by decide +kernel
theorem dX10_isBetter_57 : decode cX10_isBetter 57 = .ok (.iconst 1, 1) := by decide +kernel
theorem dX10_isBetter_58 : decode cX10_isBetter 58 = .ok (.goto 27, 3) := by decide +kernel
theorem dX10_isBetter_61 : decode cX10_isBetter 61 = .ok (.iconst 0, 1) := by decide +kernel
theorem dX10_isBetter_62 : decode cX10_isBetter 62 = .ok (.goto 23, 3) := by decide +kernel
theorem dX10_isBetter_65 : decode cX10_isBetter 65 = .ok (.aload_n 0, 1) := by decide +kernel
theorem dX10_isBetter_66 : decode cX10_isBetter 66 = .ok (.getfield 32, 3) := by decide +kernel
theorem dX10_isBetter_69 : decode cX10_isBetter 69 = .ok (.iload_n 1, 1) := by decide +kernel
theorem dX10_isBetter_70 : decode cX10_isBetter 70 = .ok (.iaload, 1) := by decide +kernel
theorem dX10_isBetter_71 : decode cX10_isBetter 71 = .ok (.aload_n 0, 1) := by decide +kernel
theorem dX10_isBetter_72 : decode cX10_isBetter 72 = .ok (.getfield 32, 3) := by decide +kernel
theorem dX10_isBetter_75 : decode cX10_isBetter 75 = .ok (.iload_n 3, 1) := by decide +kernel
theorem dX10_isBetter_76 : decode cX10_isBetter 76 = .ok (.iaload, 1) := by decide +kernel
theorem dX10_isBetter_77 : decode cX10_isBetter 77 = .ok (.if_icmp .le 7, 3) := by decide +kernel
theorem dX10_isBetter_80 : decode cX10_isBetter 80 = .ok (.iconst 1, 1) := by decide +kernel
theorem dX10_isBetter_81 : decode cX10_isBetter 81 = .ok (.goto 4, 3) := by decide +kernel
theorem dX10_isBetter_84 : decode cX10_isBetter 84 = .ok (.iconst 0, 1) := by decide +kernel
theorem dX10_isBetter_85 : decode cX10_isBetter 85 = .ok (.ireturn, 1) := by decide +kernel
theorem dX10_taken_0 : decode cX10_taken 0 = .ok (.aload_n 0, 1) := by decide +kernel
theorem dX10_taken_1 : decode cX10_taken 1 = .ok (.iload_n 1, 1) := by decide +kernel
theorem dX10_taken_2 : decode cX10_taken 2 = .ok (.invokevirtual 122, 3) := by decide +kernel
theorem dX10_taken_5 : decode cX10_taken 5 = .ok (.aload_n 0, 1) := by decide +kernel
theorem dX10_taken_6 : decode cX10_taken 6 = .ok (.getfield 23, 3) := by decide +kernel
theorem dX10_taken_9 : decode cX10_taken 9 = .ok (.iload_n 1, 1) := by decide +kernel
theorem dX10_taken_10 : decode cX10_taken 10 = .ok (.iaload, 1) := by decide +kernel
theorem dX10_taken_11 : decode cX10_taken 11 = .ok (.istore_n 2, 1) := by decide +kernel
theorem dX10_taken_12 : decode cX10_taken 12 = .ok (.bipush (-6), 2) := by decide +kernel
theorem dX10_taken_14 : decode cX10_taken 14 = .ok (.istore_n 3, 1) := by decide +kernel
theorem dX10_taken_15 : decode cX10_taken 15 = .ok (.iconst 0, 1) := by decide +kernel
theorem dX10_taken_16 : decode cX10_taken 16 = .ok (.istore 4, 2) := by decide +kernel
theorem dX10_taken_18 : decode cX10_taken 18 = .ok (.iconst 0, 1) := by decide +kernel
theorem dX10_taken_19 : decode cX10_taken 19 = .ok (.istore 5, 2) := by decide +kernel
theorem dX10_taken_21 : decode cX10_taken 21 = .ok (.iload 5, 2) := by decide +kernel
theorem dX10_taken_23 : decode cX10_taken 23 = .ok (.iconst 5, 1) := by decide +kernel
theorem dX10_taken_24 : decode cX10_taken 24 = .ok (.if_icmp .ge 59, 3) := by decide +kernel
theorem dX10_taken_27 : decode cX10_taken 27 = .ok (.aload_n 0, 1) := by decide +kernel
theorem dX10_taken_28 : decode cX10_taken 28 = .ok (.getfield 32, 3) := by decide +kernel
theorem dX10_taken_31 : decode cX10_taken 31 = .ok (.iload 5, 2) := by decide +kernel
theorem dX10_taken_33 : decode cX10_taken 33 = .ok (.iaload, 1) := by decide +kernel
theorem dX10_taken_34 : decode cX10_taken 34 = .ok (.ifCond .le 43, 3) := by decide +kernel
theorem dX10_taken_37 : decode cX10_taken 37 = .ok (.aload_n 0, 1) := by decide +kernel
theorem dX10_taken_38 : decode cX10_taken 38 = .ok (.getfield 23, 3) := by decide +kernel
theorem dX10_taken_41 : decode cX10_taken 41 = .ok (.iload_n 1, 1) := by decide +kernel
theorem dX10_taken_42 : decode cX10_taken 42 = .ok (.iload 5, 2) := by decide +kernel
theorem dX10_taken_44 : decode cX10_taken 44 = .ok (.iastore, 1) := by decide +kernel
theorem dX10_taken_45 : decode cX10_taken 45 = .ok (.aload_n 0, 1) := by decide +kernel
theorem dX10_taken_46 : decode cX10_taken 46 = .ok (.iload_n 1, 1) := by decide +kernel
theorem dX10_taken_47 : decode cX10_taken 47 = .ok (.invokevirtual 75, 3) := by decide +kernel
theorem dX10_taken_50 : decode cX10_taken 50 = .ok (.istore 6, 2) := by decide +kernel
theorem dX10_taken_52 : decode cX10_taken 52 = .ok (.iload_n 3, 1) := by decide +kernel
theorem dX10_taken_53 : decode cX10_taken 53 = .ok (.ifCond .lt 17, 3) := by decide +kernel
theorem dX10_taken_56 : decode cX10_taken 56 = .ok (.aload_n 0, 1) := by decide +kernel
theorem dX10_taken_57 : decode cX10_taken 57 = .ok (.iload 5, 2) := by decide +kernel
theorem dX10_taken_59 : decode cX10_taken 59 = .ok (.iload 6, 2) := by decide +kernel
theorem dX10_taken_61 : decode cX10_taken 61 = .ok (.iload_n 3, 1) := by decide +kernel
theorem dX10_taken_62 : decode cX10_taken 62 = .ok (.iload 4, 2) := by decide +kernel
theorem dX10_taken_64 : decode cX10_taken 64 = .ok (.invokevirtual 126, 3) := by decide +kernel
theorem dX10_taken_67 : decode cX10_taken 67 = .ok (.ifCond .eq 10, 3) := by decide +kernel
theorem dX10_taken_70 : decode cX10_taken 70 = .ok (.iload 5, 2) := by decide +kernel
theorem dX10_taken_72 : decode cX10_taken 72 = .ok (.istore_n 3, 1) := by decide +kernel
theorem dX10_taken_73 : decode cX10_taken 73 = .ok (.iload 6, 2) := by decide +kernel
theorem dX10_taken_75 : decode cX10_taken 75 = .ok (.istore 4, 2) := by decide +kernel
theorem dX10_taken_77 : decode cX10_taken 77 = .ok (.iinc 5 1, 3) := by decide +kernel
theorem dX10_taken_80 : decode cX10_taken 80 = .ok (.goto (-59), 3) := by decide +kernel
theorem dX10_taken_83 : decode cX10_taken 83 = .ok (.aload_n 0, 1) := by decide +kernel
theorem dX10_taken_84 : decode cX10_taken 84 = .ok (.getfield 23, 3) := by decide +kernel
theorem dX10_taken_87 : decode cX10_taken 87 = .ok (.iload_n 1, 1) := by decide +kernel
theorem dX10_taken_88 : decode cX10_taken 88 = .ok (.iload_n 2, 1) := by decide +kernel
theorem dX10_taken_89 : decode cX10_taken 89 = .ok (.iastore, 1) := by decide +kernel
theorem dX10_taken_90 : decode cX10_taken 90 = .ok (.iload_n 3, 1) := by decide +kernel
theorem dX10_taken_91 : decode cX10_taken 91 = .ok (.ireturn, 1) := by decide +kernel
theorem dX10_goRule_0 : decode cX10_goRule 0 = .ok (.aload_n 0, 1) := by decide +kernel
theorem dX10_goRule_1 : decode cX10_goRule 1 = .ok (.invokevirtual 85, 3) := by decide +kernel
theorem dX10_goRule_4 : decode cX10_goRule 4 = .ok (.iconst 0, 1) := by decide +kernel
theorem dX10_goRule_5 : decode cX10_goRule 5 = .ok (.istore_n 1, 1) := by decide +kernel
theorem dX10_goRule_6 : decode cX10_goRule 6 = .ok (.iload_n 1, 1) := by decide +kernel
theorem dX10_goRule_7 : decode cX10_goRule 7 = .ok (.aload_n 0, 1) := by decide +kernel
theorem dX10_goRule_8 : decode cX10_goRule 8 = .ok (.getfield 71, 3) := by decide +kernel
theorem dX10_goRule_11 : decode cX10_goRule 11 = .ok (.if_icmp .ge 20, 3) := by decide +kernel
theorem dX10_goRule_14 : decode cX10_goRule 14 = .ok (.aload_n 0, 1) := by decide +kernel
theorem dX10_goRule_15 : decode cX10_goRule 15 = .ok (.getfield 23, 3) := by decide +kernel
theorem dX10_goRule_18 : decode cX10_goRule 18 = .ok (.iload_n 1, 1) := by decide +kernel
theorem dX10_goRule_19 : decode cX10_goRule 19 = .ok (.aload_n 0, 1) := by decide +kernel
theorem dX10_goRule_20 : decode cX10_goRule 20 = .ok (.iload_n 1, 1) := by decide +kernel
theorem dX10_goRule_21 : decode cX10_goRule 21 = .ok (.invokevirtual 130, 3) := by decide +kernel
theorem dX10_goRule_24 : decode cX10_goRule 24 = .ok (.iastore, 1) := by decide +kernel
theorem dX10_goRule_25 : decode cX10_goRule 25 = .ok (.iinc 1 1, 3) := by decide +kernel
theorem dX10_goRule_28 : decode cX10_goRule 28 = .ok (.goto (-22), 3) := by decide +kernel
theorem dX10_goRule_31 : decode cX10_goRule 31 = .ok (.return_, 1) := by decide +kernel
theorem dX10_rule_0 : decode cX10_rule 0 = .ok (.iload_n 1, 1) := by decide +kernel
theorem dX10_rule_1 : decode cX10_rule 1 = .ok (.iconst (-1), 1) := by decide +kernel
theorem dX10_rule_2 : decode cX10_rule 2 = .ok (.if_icmp .ge 6, 3) := by decide +kernel
theorem dX10_rule_5 : decode cX10_rule 5 = .ok (.bipush (-2), 2) := by decide +kernel
theorem dX10_rule_7 : decode cX10_rule 7 = .ok (.ireturn, 1) := by decide +kernel
theorem dX10_rule_8 : decode cX10_rule 8 = .ok (.aload_n 0, 1) := by decide +kernel
theorem dX10_rule_9 : decode cX10_rule 9 = .ok (.invokevirtual 133, 3) := by decide +kernel
theorem dX10_rule_12 : decode cX10_rule 12 = .ok (.iload_n 1, 1) := by decide +kernel
theorem dX10_rule_13 : decode cX10_rule 13 = .ok (.iconst (-1), 1) := by decide +kernel
theorem dX10_rule_14 : decode cX10_rule 14 = .ok (.if_icmp .ne 10, 3) := by decide +kernel
theorem dX10_rule_17 : decode cX10_rule 17 = .ok (.aload_n 0, 1) := by decide +kernel
theorem dX10_rule_18 : decode cX10_rule 18 = .ok (.invokevirtual 88, 3) := by decide +kernel
theorem dX10_rule_21 : decode cX10_rule 21 = .ok (.goto 22, 3) := by decide +kernel
theorem dX10_rule_24 : decode cX10_rule 24 = .ok (.iload_n 1, 1) := by decide +kernel
theorem dX10_rule_25 : decode cX10_rule 25 = .ok (.aload_n 0, 1) := by decide +kernel
theorem dX10_rule_26 : decode cX10_rule 26 = .ok (.getfield 71, 3) := by decide +kernel
theorem dX10_rule_29 : decode cX10_rule 29 = .ok (.if_icmp .ge 12, 3) := by decide +kernel
theorem dX10_rule_32 : decode cX10_rule 32 = .ok (.aload_n 0, 1) := by decide +kernel
theorem dX10_rule_33 : decode cX10_rule 33 = .ok (.getfield 23, 3) := by decide +kernel
theorem dX10_rule_36 : decode cX10_rule 36 = .ok (.iload_n 1, 1) := by decide +kernel
theorem dX10_rule_37 : decode cX10_rule 37 = .ok (.iaload, 1) := by decide +kernel
theorem dX10_rule_38 : decode cX10_rule 38 = .ok (.goto 5, 3) := by decide +kernel
theorem dX10_rule_41 : decode cX10_rule 41 = .ok (.bipush (-6), 2) := by decide +kernel
theorem dX10_rule_43 : decode cX10_rule 43 = .ok (.ireturn, 1) := by decide +kernel
theorem dX10_off_0 : decode cX10_off 0 = .ok (.iconst 0, 1) := by decide +kernel
theorem dX10_off_1 : decode cX10_off 1 = .ok (.istore_n 1, 1) := by decide +kernel
theorem dX10_off_2 : decode cX10_off 2 = .ok (.iconst 0, 1) := by decide +kernel
theorem dX10_off_3 : decode cX10_off 3 = .ok (.istore_n 2, 1) := by decide +kernel
theorem dX10_off_4 : decode cX10_off 4 = .ok (.iload_n 2, 1) := by decide +kernel
theorem dX10_off_5 : decode cX10_off 5 = .ok (.aload_n 0, 1) := by decide +kernel
theorem dX10_off_6 : decode cX10_off 6 = .ok (.getfield 71, 3) := by decide +kernel
theorem dX10_off_9 : decode cX10_off 9 = .ok (.if_icmp .ge 31, 3) := by decide +kernel
theorem dX10_off_12 : decode cX10_off 12 = .ok (.iload_n 1, 1) := by decide +kernel
theorem dX10_off_13 : decode cX10_off 13 = .ok (.aload_n 0, 1) := by decide +kernel
theorem dX10_off_14 : decode cX10_off 14 = .ok (.iload_n 2, 1) := by decide +kernel
theorem dX10_off_15 : decode cX10_off 15 = .ok (.invokevirtual 130, 3) := by decide +kernel
theorem dX10_off_18 : decode cX10_off 18 = .ok (.aload_n 0, 1) := by decide +kernel
theorem dX10_off_19 : decode cX10_off 19 = .ok (.getfield 23, 3) := by decide +kernel
theorem dX10_off_22 : decode cX10_off 22 = .ok (.iload_n 2, 1) := by decide +kernel
theorem dX10_off_23 : decode cX10_off 23 = .ok (.iaload, 1) := by decide +kernel
theorem dX10_off_24 : decode cX10_off 24 = .ok (.if_icmp .ne 7, 3) := by decide +kernel
theorem dX10_off_27 : decode cX10_off 27 = .ok (.iconst 0, 1) := by decide +kernel
theorem dX10_off_28 : decode cX10_off 28 = .ok (.goto 4, 3) := by decide +kernel
theorem dX10_off_31 : decode cX10_off 31 = .ok (.iconst 1, 1) := by decide +kernel
theorem dX10_off_32 : decode cX10_off 32 = .ok (.iadd, 1) := by decide +kernel
theorem dX10_off_33 : decode cX10_off 33 = .ok (.istore_n 1, 1) := by decide +kernel
theorem dX10_off_34 : decode cX10_off 34 = .ok (.iinc 2 1, 3) := by decide +kernel
theorem dX10_off_37 : decode cX10_off 37 = .ok (.goto (-33), 3) := by decide +kernel
theorem dX10_off_40 : decode cX10_off 40 = .ok (.iload_n 1, 1) := by decide +kernel
theorem dX10_off_41 : decode cX10_off 41 = .ok (.ireturn, 1) := by decide +kernel
theorem dX10_near_0 : decode cX10_near 0 = .ok (.iload_n 1, 1) := by decide +kernel
theorem dX10_near_1 : decode cX10_near 1 = .ok (.iconst (-1), 1) := by decide +kernel
theorem dX10_near_2 : decode cX10_near 2 = .ok (.if_icmp .ge 6, 3) := by decide +kernel
theorem dX10_near_5 : decode cX10_near 5 = .ok (.bipush (-2), 2) := by decide +kernel
theorem dX10_near_7 : decode cX10_near 7 = .ok (.ireturn, 1) := by decide +kernel
theorem dX10_near_8 : decode cX10_near 8 = .ok (.aload_n 0, 1) := by decide +kernel
theorem dX10_near_9 : decode cX10_near 9 = .ok (.iconst 0, 1) := by decide +kernel
theorem dX10_near_10 : decode cX10_near 10 = .ok (.putfield 82, 3) := by decide +kernel
theorem dX10_near_13 : decode cX10_near 13 = .ok (.bipush (-6), 2) := by decide +kernel
theorem dX10_near_15 : decode cX10_near 15 = .ok (.istore_n 2, 1) := by decide +kernel
theorem dX10_near_16 : decode cX10_near 16 = .ok (.aload_n 0, 1) := by decide +kernel
theorem dX10_near_17 : decode cX10_near 17 = .ok (.invokevirtual 85, 3) := by decide +kernel
theorem dX10_near_20 : decode cX10_near 20 = .ok (.iconst 1, 1) := by decide +kernel
theorem dX10_near_21 : decode cX10_near 21 = .ok (.istore_n 3, 1) := by decide +kernel
theorem dX10_near_22 : decode cX10_near 22 = .ok (.iload_n 3, 1) := by decide +kernel
theorem dX10_near_23 : decode cX10_near 23 = .ok (.ifCond .eq 49, 3) := by decide +kernel
theorem dX10_near_26 : decode cX10_near 26 = .ok (.aload_n 0, 1) := by decide +kernel
theorem dX10_near_27 : decode cX10_near 27 = .ok (.invokevirtual 88, 3) := by decide +kernel
theorem dX10_near_30 : decode cX10_near 30 = .ok (.ifCond .ne 34, 3) := by decide +kernel
theorem dX10_near_33 : decode cX10_near 33 = .ok (.aload_n 0, 1) := by decide +kernel
theorem dX10_near_34 : decode cX10_near 34 = .ok (.invokevirtual 136, 3) := by decide +kernel
theorem dX10_near_37 : decode cX10_near 37 = .ok (.istore 4, 2) := by decide +kernel
theorem dX10_near_39 : decode cX10_near 39 = .ok (.aload_n 0, 1) := by decide +kernel
theorem dX10_near_40 : decode cX10_near 40 = .ok (.getfield 82, 3) := by decide +kernel
theorem dX10_near_43 : decode cX10_near 43 = .ok (.ifCond .eq 9, 3) := by decide +kernel
theorem dX10_near_46 : decode cX10_near 46 = .ok (.iload 4, 2) := by decide +kernel
theorem dX10_near_48 : decode cX10_near 48 = .ok (.iload_n 2, 1) := by decide +kernel
theorem dX10_near_49 : decode cX10_near 49 = .ok (.if_icmp .ge 15, 3) := by decide +kernel
theorem dX10_near_52 : decode cX10_near 52 = .ok (.iload 4, 2) := by decide +kernel
theorem dX10_near_54 : decode cX10_near 54 = .ok (.istore_n 2, 1) := by decide +kernel
theorem dX10_near_55 : decode cX10_near 55 = .ok (.aload_n 0, 1) := by decide +kernel
theorem dX10_near_56 : decode cX10_near 56 = .ok (.iconst 1, 1) := by decide +kernel
theorem dX10_near_57 : decode cX10_near 57 = .ok (.putfield 82, 3) := by decide +kernel
theorem dX10_near_60 : decode cX10_near 60 = .ok (.aload_n 0, 1) := by decide +kernel
theorem dX10_near_61 : decode cX10_near 61 = .ok (.invokevirtual 91, 3) := by decide +kernel
theorem dX10_near_64 : decode cX10_near 64 = .ok (.aload_n 0, 1) := by decide +kernel
theorem dX10_near_65 : decode cX10_near 65 = .ok (.invokevirtual 94, 3) := by decide +kernel
theorem dX10_near_68 : decode cX10_near 68 = .ok (.istore_n 3, 1) := by decide +kernel
theorem dX10_near_69 : decode cX10_near 69 = .ok (.goto (-47), 3) := by decide +kernel
theorem dX10_near_72 : decode cX10_near 72 = .ok (.iload_n 1, 1) := by decide +kernel
theorem dX10_near_73 : decode cX10_near 73 = .ok (.iconst (-1), 1) := by decide +kernel
theorem dX10_near_74 : decode cX10_near 74 = .ok (.if_icmp .ne 7, 3) := by decide +kernel
theorem dX10_near_77 : decode cX10_near 77 = .ok (.iload_n 2, 1) := by decide +kernel
theorem dX10_near_78 : decode cX10_near 78 = .ok (.goto 8, 3) := by decide +kernel
theorem dX10_near_81 : decode cX10_near 81 = .ok (.aload_n 0, 1) := by decide +kernel
theorem dX10_near_82 : decode cX10_near 82 = .ok (.iload_n 1, 1) := by decide +kernel
