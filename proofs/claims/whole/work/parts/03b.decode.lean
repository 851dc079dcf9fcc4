theorem dX6_init_0 : decode cX6_init 0 = .ok (.aload_n 0, 1) := by decide +kernel
theorem dX6_init_1 : decode cX6_init 1 = .ok (.invokespecial 3, 3) := by decide +kernel
theorem dX6_init_4 : decode cX6_init 4 = .ok (.aload_n 0, 1) := by decide +kernel
theorem dX6_init_5 : decode cX6_init 5 = .ok (.bipush 9, 2) := by decide +kernel
theorem dX6_init_7 : decode cX6_init 7 = .ok (.newarray .int, 2) := by decide +kernel
theorem dX6_init_9 : decode cX6_init 9 = .ok (.putfield 9, 3) := by decide +kernel
theorem dX6_init_12 : decode cX6_init 12 = .ok (.aload_n 0, 1) := by decide +kernel
theorem dX6_init_13 : decode cX6_init 13 = .ok (.bipush 10, 2) := by decide +kernel
theorem dX6_init_15 : decode cX6_init 15 = .ok (.newarray .int, 2) := by decide +kernel
theorem dX6_init_17 : decode cX6_init 17 = .ok (.putfield 15, 3) := by decide +kernel
theorem dX6_init_20 : decode cX6_init 20 = .ok (.aload_n 0, 1) := by decide +kernel
theorem dX6_init_21 : decode cX6_init 21 = .ok (.bipush 10, 2) := by decide +kernel
theorem dX6_init_23 : decode cX6_init 23 = .ok (.newarray .int, 2) := by decide +kernel
theorem dX6_init_25 : decode cX6_init 25 = .ok (.putfield 18, 3) := by decide +kernel
theorem dX6_init_28 : decode cX6_init 28 = .ok (.aload_n 0, 1) := by decide +kernel
theorem dX6_init_29 : decode cX6_init 29 = .ok (.iconst 5, 1) := by decide +kernel
theorem dX6_init_30 : decode cX6_init 30 = .ok (.newarray .int, 2) := by decide +kernel
theorem dX6_init_32 : decode cX6_init 32 = .ok (.putfield 21, 3) := by decide +kernel
theorem dX6_init_35 : decode cX6_init 35 = .ok (.aload_n 0, 1) := by decide +kernel
theorem dX6_init_36 : decode cX6_init 36 = .ok (.iconst 0, 1) := by decide +kernel
theorem dX6_init_37 : decode cX6_init 37 = .ok (.putfield 24, 3) := by decide +kernel
theorem dX6_init_40 : decode cX6_init 40 = .ok (.aload_n 0, 1) := by decide +kernel
theorem dX6_init_41 : decode cX6_init 41 = .ok (.aload_n 1, 1) := by decide +kernel
theorem dX6_init_42 : decode cX6_init 42 = .ok (.putfield 28, 3) := by decide +kernel
theorem dX6_init_45 : decode cX6_init 45 = .ok (.return_, 1) := by decide +kernel
theorem dX6_start_0 : decode cX6_start 0 = .ok (.aload_n 0, 1) := by decide +kernel
theorem dX6_start_1 : decode cX6_start 1 = .ok (.iconst 0, 1) := by decide +kernel
theorem dX6_start_2 : decode cX6_start 2 = .ok (.putfield 24, 3) := by decide +kernel
theorem dX6_start_5 : decode cX6_start 5 = .ok (.aload_n 0, 1) := by decide +kernel
theorem dX6_start_6 : decode cX6_start 6 = .ok (.getfield 28, 3) := by decide +kernel
theorem dX6_start_9 : decode cX6_start 9 = .ok (.getfield 32, 3) := by decide +kernel
theorem dX6_start_12 : decode cX6_start 12 = .ok (.iconst 0, 1) := by decide +kernel
theorem dX6_start_13 : decode cX6_start 13 = .ok (.aload_n 0, 1) := by decide +kernel
theorem dX6_start_14 : decode cX6_start 14 = .ok (.getfield 21, 3) := by decide +kernel
theorem dX6_start_17 : decode cX6_start 17 = .ok (.iconst 0, 1) := by decide +kernel
theorem dX6_start_18 : decode cX6_start 18 = .ok (.iconst 5, 1) := by decide +kernel
theorem dX6_start_19 : decode cX6_start 19 = .ok (.invokestatic 37, 3) := by decide +kernel
theorem dX6_start_22 : decode cX6_start 22 = .ok (.return_, 1) := by decide +kernel
theorem dX6_put_0 : decode cX6_put 0 = .ok (.iload_n 1, 1) := by decide +kernel
theorem dX6_put_1 : decode cX6_put 1 = .ok (.invokestatic 43, 3) := by decide +kernel
theorem dX6_put_4 : decode cX6_put 4 = .ok (.ifCond .eq 12, 3) := by decide +kernel
theorem dX6_put_7 : decode cX6_put 7 = .ok (.aload_n 0, 1) := by decide +kernel
theorem dX6_put_8 : decode cX6_put 8 = .ok (.getfield 24, 3) := by decide +kernel
theorem dX6_put_11 : decode cX6_put 11 = .ok (.bipush 9, 2) := by decide +kernel
theorem dX6_put_13 : decode cX6_put 13 = .ok (.if_icmp .lt 4, 3) := by decide +kernel
theorem dX6_put_16 : decode cX6_put 16 = .ok (.return_, 1) := by decide +kernel
theorem dX6_put_17 : decode cX6_put 17 = .ok (.aload_n 0, 1) := by decide +kernel
theorem dX6_put_18 : decode cX6_put 18 = .ok (.iload_n 1, 1) := by decide +kernel
theorem dX6_put_19 : decode cX6_put 19 = .ok (.invokevirtual 47, 3) := by decide +kernel
theorem dX6_put_22 : decode cX6_put 22 = .ok (.istore_n 2, 1) := by decide +kernel
theorem dX6_put_23 : decode cX6_put 23 = .ok (.aload_n 0, 1) := by decide +kernel
theorem dX6_put_24 : decode cX6_put 24 = .ok (.getfield 18, 3) := by decide +kernel
theorem dX6_put_27 : decode cX6_put 27 = .ok (.aload_n 0, 1) := by decide +kernel
theorem dX6_put_28 : decode cX6_put 28 = .ok (.getfield 24, 3) := by decide +kernel
theorem dX6_put_31 : decode cX6_put 31 = .ok (.iaload, 1) := by decide +kernel
theorem dX6_put_32 : decode cX6_put 32 = .ok (.istore_n 3, 1) := by decide +kernel
theorem dX6_put_33 : decode cX6_put 33 = .ok (.aload_n 0, 1) := by decide +kernel
theorem dX6_put_34 : decode cX6_put 34 = .ok (.getfield 9, 3) := by decide +kernel
theorem dX6_put_37 : decode cX6_put 37 = .ok (.aload_n 0, 1) := by decide +kernel
theorem dX6_put_38 : decode cX6_put 38 = .ok (.getfield 24, 3) := by decide +kernel
theorem dX6_put_41 : decode cX6_put 41 = .ok (.iload_n 1, 1) := by decide +kernel
theorem dX6_put_42 : decode cX6_put 42 = .ok (.iastore, 1) := by decide +kernel
theorem dX6_put_43 : decode cX6_put 43 = .ok (.aload_n 0, 1) := by decide +kernel
theorem dX6_put_44 : decode cX6_put 44 = .ok (.getfield 21, 3) := by decide +kernel
theorem dX6_put_47 : decode cX6_put 47 = .ok (.iload_n 1, 1) := by decide +kernel
theorem dX6_put_48 : decode cX6_put 48 = .ok (.dup2, 1) := by decide +kernel
theorem dX6_put_49 : decode cX6_put 49 = .ok (.iaload, 1) := by decide +kernel
theorem dX6_put_50 : decode cX6_put 50 = .ok (.iconst 1, 1) := by decide +kernel
theorem dX6_put_51 : decode cX6_put 51 = .ok (.isub, 1) := by decide +kernel
theorem dX6_put_52 : decode cX6_put 52 = .ok (.iastore, 1) := by decide +kernel
theorem dX6_put_53 : decode cX6_put 53 = .ok (.aload_n 0, 1) := by decide +kernel
theorem dX6_put_54 : decode cX6_put 54 = .ok (.dup, 1) := by decide +kernel
theorem dX6_put_55 : decode cX6_put 55 = .ok (.getfield 24, 3) := by decide +kernel
theorem dX6_put_58 : decode cX6_put 58 = .ok (.iconst 1, 1) := by decide +kernel
theorem dX6_put_59 : decode cX6_put 59 = .ok (.iadd, 1) := by decide +kernel
theorem dX6_put_60 : decode cX6_put 60 = .ok (.putfield 24, 3) := by decide +kernel
theorem dX6_put_63 : decode cX6_put 63 = .ok (.aload_n 0, 1) := by decide +kernel
theorem dX6_put_64 : decode cX6_put 64 = .ok (.getfield 15, 3) := by decide +kernel
theorem dX6_put_67 : decode cX6_put 67 = .ok (.aload_n 0, 1) := by decide +kernel
theorem dX6_put_68 : decode cX6_put 68 = .ok (.getfield 24, 3) := by decide +kernel
theorem dX6_put_71 : decode cX6_put 71 = .ok (.iload_n 2, 1) := by decide +kernel
theorem dX6_put_72 : decode cX6_put 72 = .ok (.iastore, 1) := by decide +kernel
theorem dX6_put_73 : decode cX6_put 73 = .ok (.aload_n 0, 1) := by decide +kernel
theorem dX6_put_74 : decode cX6_put 74 = .ok (.getfield 18, 3) := by decide +kernel
theorem dX6_put_77 : decode cX6_put 77 = .ok (.aload_n 0, 1) := by decide +kernel
theorem dX6_put_78 : decode cX6_put 78 = .ok (.getfield 24, 3) := by decide +kernel
theorem dX6_put_81 : decode cX6_put 81 = .ok (.iload_n 3, 1) := by decide +kernel
theorem dX6_put_82 : decode cX6_put 82 = .ok (.aload_n 0, 1) := by decide +kernel
theorem dX6_put_83 : decode cX6_put 83 = .ok (.getfield 28, 3) := by decide +kernel
theorem dX6_put_86 : decode cX6_put 86 = .ok (.iload_n 2, 1) := by decide +kernel
theorem dX6_put_87 : decode cX6_put 87 = .ok (.aload_n 0, 1) := by decide +kernel
theorem dX6_put_88 : decode cX6_put 88 = .ok (.getfield 24, 3) := by decide +kernel
theorem dX6_put_91 : decode cX6_put 91 = .ok (.invokevirtual 51, 3) := by decide +kernel
theorem dX6_put_94 : decode cX6_put 94 = .ok (.iadd, 1) := by decide +kernel
theorem dX6_put_95 : decode cX6_put 95 = .ok (.iastore, 1) := by decide +kernel
theorem dX6_put_96 : decode cX6_put 96 = .ok (.return_, 1) := by decide +kernel
theorem dX6_takeRule_0 : decode cX6_takeRule 0 = .ok (.aload_n 0, 1) := by decide +kernel
theorem dX6_takeRule_1 : decode cX6_takeRule 1 = .ok (.invokevirtual 55, 3) := by decide +kernel
theorem dX6_takeRule_4 : decode cX6_takeRule 4 = .ok (.iconst 0, 1) := by decide +kernel
theorem dX6_takeRule_5 : decode cX6_takeRule 5 = .ok (.istore_n 2, 1) := by decide +kernel
theorem dX6_takeRule_6 : decode cX6_takeRule 6 = .ok (.iload_n 2, 1) := by decide +kernel
theorem dX6_takeRule_7 : decode cX6_takeRule 7 = .ok (.iload_n 1, 1) := by decide +kernel
theorem dX6_takeRule_8 : decode cX6_takeRule 8 = .ok (.if_icmp .ge 17, 3) := by decide +kernel
theorem dX6_takeRule_11 : decode cX6_takeRule 11 = .ok (.aload_n 0, 1) := by decide +kernel
theorem dX6_takeRule_12 : decode cX6_takeRule 12 = .ok (.aload_n 0, 1) := by decide +kernel
theorem dX6_takeRule_13 : decode cX6_takeRule 13 = .ok (.invokevirtual 58, 3) := by decide +kernel
theorem dX6_takeRule_16 : decode cX6_takeRule 16 = .ok (.invokevirtual 62, 3) := by decide +kernel
theorem dX6_takeRule_19 : decode cX6_takeRule 19 = .ok (.iinc 2 1, 3) := by decide +kernel
theorem dX6_takeRule_22 : decode cX6_takeRule 22 = .ok (.goto (-16), 3) := by decide +kernel
theorem dX6_takeRule_25 : decode cX6_takeRule 25 = .ok (.return_, 1) := by decide +kernel
theorem dX6_drop_0 : decode cX6_drop 0 = .ok (.aload_n 0, 1) := by decide +kernel
theorem dX6_drop_1 : decode cX6_drop 1 = .ok (.getfield 24, 3) := by decide +kernel
theorem dX6_drop_4 : decode cX6_drop 4 = .ok (.ifCond .le 31, 3) := by decide +kernel
theorem dX6_drop_7 : decode cX6_drop 7 = .ok (.aload_n 0, 1) := by decide +kernel
theorem dX6_drop_8 : decode cX6_drop 8 = .ok (.dup, 1) := by decide +kernel
theorem dX6_drop_9 : decode cX6_drop 9 = .ok (.getfield 24, 3) := by decide +kernel
theorem dX6_drop_12 : decode cX6_drop 12 = .ok (.iconst 1, 1) := by decide +kernel
theorem dX6_drop_13 : decode cX6_drop 13 = .ok (.isub, 1) := by decide +kernel
theorem dX6_drop_14 : decode cX6_drop 14 = .ok (.putfield 24, 3) := by decide +kernel
theorem dX6_drop_17 : decode cX6_drop 17 = .ok (.aload_n 0, 1) := by decide +kernel
theorem dX6_drop_18 : decode cX6_drop 18 = .ok (.getfield 21, 3) := by decide +kernel
theorem dX6_drop_21 : decode cX6_drop 21 = .ok (.aload_n 0, 1) := by decide +kernel
theorem dX6_drop_22 : decode cX6_drop 22 = .ok (.getfield 9, 3) := by decide +kernel
theorem dX6_drop_25 : decode cX6_drop 25 = .ok (.aload_n 0, 1) := by decide +kernel
theorem dX6_drop_26 : decode cX6_drop 26 = .ok (.getfield 24, 3) := by decide +kernel
theorem dX6_drop_29 : decode cX6_drop 29 = .ok (.iaload, 1) := by decide +kernel
theorem dX6_drop_30 : decode cX6_drop 30 = .ok (.dup2, 1) := by decide +kernel
theorem dX6_drop_31 : decode cX6_drop 31 = .ok (.iaload, 1) := by decide +kernel
theorem dX6_drop_32 : decode cX6_drop 32 = .ok (.iconst 1, 1) := by decide +kernel
theorem dX6_drop_33 : decode cX6_drop 33 = .ok (.iadd, 1) := by decide +kernel
theorem dX6_drop_34 : decode cX6_drop 34 = .ok (.iastore, 1) := by decide +kernel
theorem dX6_drop_35 : decode cX6_drop 35 = .ok (.return_, 1) := by decide +kernel
theorem dX6_breaks_0 : decode cX6_breaks 0 = .ok (.aload_n 0, 1) := by decide +kernel
theorem dX6_breaks_1 : decode cX6_breaks 1 = .ok (.getfield 18, 3) := by decide +kernel
theorem dX6_breaks_4 : decode cX6_breaks 4 = .ok (.aload_n 0, 1) := by decide +kernel
theorem dX6_breaks_5 : decode cX6_breaks 5 = .ok (.getfield 24, 3) := by decide +kernel
theorem dX6_breaks_8 : decode cX6_breaks 8 = .ok (.iaload, 1) := by decide +kernel
theorem dX6_breaks_9 : decode cX6_breaks 9 = .ok (.ireturn, 1) := by decide +kernel
theorem dX6_firstBreak_0 : decode cX6_firstBreak 0 = .ok (.iconst 0, 1) := by decide +kernel
theorem dX6_firstBreak_1 : decode cX6_firstBreak 1 = .ok (.istore_n 1, 1) := by decide +kernel
theorem dX6_firstBreak_2 : decode cX6_firstBreak 2 = .ok (.iload_n 1, 1) := by decide +kernel
theorem dX6_firstBreak_3 : decode cX6_firstBreak 3 = .ok (.aload_n 0, 1) := by decide +kernel
theorem dX6_firstBreak_4 : decode cX6_firstBreak 4 = .ok (.getfield 24, 3) := by decide +kernel
theorem dX6_firstBreak_7 : decode cX6_firstBreak 7 = .ok (.if_icmp .ge 22, 3) := by decide +kernel
theorem dX6_firstBreak_10 : decode cX6_firstBreak 10 = .ok (.aload_n 0, 1) := by decide +kernel
theorem dX6_firstBreak_11 : decode cX6_firstBreak 11 = .ok (.getfield 18, 3) := by decide +kernel
theorem dX6_firstBreak_14 : decode cX6_firstBreak 14 = .ok (.iload_n 1, 1) := by decide +kernel
theorem dX6_firstBreak_15 : decode cX6_firstBreak 15 = .ok (.iconst 1, 1) := by decide +kernel
theorem dX6_firstBreak_16 : decode cX6_firstBreak 16 = .ok (.iadd, 1) := by decide +kernel
theorem dX6_firstBreak_17 : decode cX6_firstBreak 17 = .ok (.iaload, 1) := by decide +kernel
theorem dX6_firstBreak_18 : decode cX6_firstBreak 18 = .ok (.ifCond .le 5, 3) := by decide +kernel
theorem dX6_firstBreak_21 : decode cX6_firstBreak 21 = .ok (.iload_n 1, 1) := by decide +kernel
theorem dX6_firstBreak_22 : decode cX6_firstBreak 22 = .ok (.ireturn, 1) := by decide +kernel
theorem dX6_firstBreak_23 : decode cX6_firstBreak 23 = .ok (.iinc 1 1, 3) := by decide +kernel
theorem dX6_firstBreak_26 : decode cX6_firstBreak 26 = .ok (.goto (-24), 3) := by decide +kernel
theorem dX6_firstBreak_29 : decode cX6_firstBreak 29 = .ok (.bipush (-6), 2) := by decide +kernel
theorem dX6_firstBreak_31 : decode cX6_firstBreak 31 = .ok (.ireturn, 1) := by decide +kernel
theorem dX6_isOrder_0 : decode cX6_isOrder 0 = .ok (.iconst 0, 1) := by decide +kernel
theorem dX6_isOrder_1 : decode cX6_isOrder 1 = .ok (.istore_n 1, 1) := by decide +kernel
theorem dX6_isOrder_2 : decode cX6_isOrder 2 = .ok (.iload_n 1, 1) := by decide +kernel
theorem dX6_isOrder_3 : decode cX6_isOrder 3 = .ok (.iconst 5, 1) := by decide +kernel
theorem dX6_isOrder_4 : decode cX6_isOrder 4 = .ok (.if_icmp .ge 20, 3) := by decide +kernel
theorem dX6_isOrder_7 : decode cX6_isOrder 7 = .ok (.aload_n 0, 1) := by decide +kernel
theorem dX6_isOrder_8 : decode cX6_isOrder 8 = .ok (.getfield 21, 3) := by decide +kernel
theorem dX6_isOrder_11 : decode cX6_isOrder 11 = .ok (.iload_n 1, 1) := by decide +kernel
theorem dX6_isOrder_12 : decode cX6_isOrder 12 = .ok (.iaload, 1) := by decide +kernel
theorem dX6_isOrder_13 : decode cX6_isOrder 13 = .ok (.ifCond .eq 5, 3) := by decide +kernel
theorem dX6_isOrder_16 : decode cX6_isOrder 16 = .ok (.iconst 0, 1) := by decide +kernel
theorem dX6_isOrder_17 : decode cX6_isOrder 17 = .ok (.ireturn, 1) := by decide +kernel
theorem dX6_isOrder_18 : decode cX6_isOrder 18 = .ok (.iinc 1 1, 3) := by decide +kernel
theorem dX6_isOrder_21 : decode cX6_isOrder 21 = .ok (.goto (-19), 3) := by decide +kernel
theorem dX6_isOrder_24 : decode cX6_isOrder 24 = .ok (.iconst 1, 1) := by decide +kernel
theorem dX6_isOrder_25 : decode cX6_isOrder 25 = .ok (.ireturn, 1) := by decide +kernel
theorem dX6_ruleClass_0 : decode cX6_ruleClass 0 = .ok (.bipush (-6), 2) := by decide +kernel
theorem dX6_ruleClass_2 : decode cX6_ruleClass 2 = .ok (.istore_n 1, 1) := by decide +kernel
theorem dX6_ruleClass_3 : decode cX6_ruleClass 3 = .ok (.iconst 0, 1) := by decide +kernel
theorem dX6_ruleClass_4 : decode cX6_ruleClass 4 = .ok (.istore_n 2, 1) := by decide +kernel
theorem dX6_ruleClass_5 : decode cX6_ruleClass 5 = .ok (.iconst 0, 1) := by decide +kernel
theorem dX6_ruleClass_6 : decode cX6_ruleClass 6 = .ok (.istore_n 3, 1) := by decide +kernel
theorem dX6_ruleClass_7 : decode cX6_ruleClass 7 = .ok (.iload_n 3, 1) := by decide +kernel
theorem dX6_ruleClass_8 : decode cX6_ruleClass 8 = .ok (.iconst 5, 1) := by decide +kernel
theorem dX6_ruleClass_9 : decode cX6_ruleClass 9 = .ok (.if_icmp .ge 94, 3) := by decide +kernel
theorem dX6_ruleClass_12 : decode cX6_ruleClass 12 = .ok (.aload_n 0, 1) := by decide +kernel
theorem dX6_ruleClass_13 : decode cX6_ruleClass 13 = .ok (.getfield 21, 3) := by decide +kernel
theorem dX6_ruleClass_16 : decode cX6_ruleClass 16 = .ok (.iload_n 3, 1) := by decide +kernel
theorem dX6_ruleClass_17 : decode cX6_ruleClass 17 = .ok (.iaload, 1) := by decide +kernel
theorem dX6_ruleClass_18 : decode cX6_ruleClass 18 = .ok (.ifCond .le 79, 3) := by decide +kernel
theorem dX6_ruleClass_21 : decode cX6_ruleClass 21 = .ok (.aload_n 0, 1) := by decide +kernel
theorem dX6_ruleClass_22 : decode cX6_ruleClass 22 = .ok (.getfield 28, 3) := by decide +kernel
theorem dX6_ruleClass_25 : decode cX6_ruleClass 25 = .ok (.aload_n 0, 1) := by decide +kernel
theorem dX6_ruleClass_26 : decode cX6_ruleClass 26 = .ok (.iload_n 3, 1) := by decide +kernel
theorem dX6_ruleClass_27 : decode cX6_ruleClass 27 = .ok (.invokevirtual 47, 3) := by decide +kernel
theorem dX6_ruleClass_30 : decode cX6_ruleClass 30 = .ok (.aload_n 0, 1) := by decide +kernel
theorem dX6_ruleClass_31 : decode cX6_ruleClass 31 = .ok (.getfield 24, 3) := by decide +kernel
theorem dX6_ruleClass_34 : decode cX6_ruleClass 34 = .ok (.iconst 1, 1) := by decide +kernel
theorem dX6_ruleClass_35 : decode cX6_ruleClass 35 = .ok (.iadd, 1) := by decide +kernel
theorem dX6_ruleClass_36 : decode cX6_ruleClass 36 = .ok (.invokevirtual 51, 3) := by decide +kernel
theorem dX6_ruleClass_39 : decode cX6_ruleClass 39 = .ok (.istore 4, 2) := by decide +kernel
theorem dX6_ruleClass_41 : decode cX6_ruleClass 41 = .ok (.iconst 4, 1) := by decide +kernel
theorem dX6_ruleClass_42 : decode cX6_ruleClass 42 = .ok (.aload_n 0, 1) := by decide +kernel
theorem dX6_ruleClass_43 : decode cX6_ruleClass 43 = .ok (.getfield 28, 3) := by decide +kernel
theorem dX6_ruleClass_46 : decode cX6_ruleClass 46 = .ok (.getfield 66, 3) := by decide +kernel
theorem dX6_ruleClass_49 : decode cX6_ruleClass 49 = .ok (.iload_n 3, 1) := by decide +kernel
theorem dX6_ruleClass_50 : decode cX6_ruleClass 50 = .ok (.iaload, 1) := by decide +kernel
theorem dX6_ruleClass_51 : decode cX6_ruleClass 51 = .ok (.invokestatic 69, 3) := by decide +kernel
theorem dX6_ruleClass_54 : decode cX6_ruleClass 54 = .ok (.isub, 1) := by decide +kernel
theorem dX6_ruleClass_55 : decode cX6_ruleClass 55 = .ok (.istore 5, 2) := by decide +kernel
theorem dX6_ruleClass_57 : decode cX6_ruleClass 57 = .ok (.bipush 100, 2) := by decide +kernel
theorem dX6_ruleClass_59 : decode cX6_ruleClass 59 = .ok (.iload 4, 2) := by decide +kernel
theorem dX6_ruleClass_61 : decode cX6_ruleClass 61 = .ok (.imul, 1) := by decide +kernel
theorem dX6_ruleClass_62 : decode cX6_ruleClass 62 = .ok (.bipush 10, 2) := by decide +kernel
theorem dX6_ruleClass_64 : decode cX6_ruleClass 64 = .ok (.iload 5, 2) := by decide +kernel
theorem dX6_ruleClass_66 : decode cX6_ruleClass 66 = .ok (.imul, 1) := by decide +kernel
theorem dX6_ruleClass_67 : decode cX6_ruleClass 67 = .ok (.iadd, 1) := by decide +kernel
theorem dX6_ruleClass_68 : decode cX6_ruleClass 68 = .ok (.bipush 9, 2) := by decide +kernel
theorem dX6_ruleClass_70 : decode cX6_ruleClass 70 = .ok (.iadd, 1) := by decide +kernel
theorem dX6_ruleClass_71 : decode cX6_ruleClass 71 = .ok (.aload_n 0, 1) := by decide +kernel
theorem dX6_ruleClass_72 : decode cX6_ruleClass 72 = .ok (.getfield 21, 3) := by decide +kernel
theorem dX6_ruleClass_75 : decode cX6_ruleClass 75 = .ok (.iload_n 3, 1) := by decide +kernel
theorem dX6_ruleClass_76 : decode cX6_ruleClass 76 = .ok (.iaload, 1) := by decide +kernel
theorem dX6_ruleClass_77 : decode cX6_ruleClass 77 = .ok (.isub, 1) := by decide +kernel
theorem dX6_ruleClass_78 : decode cX6_ruleClass 78 = .ok (.istore 6, 2) := by decide +kernel
theorem dX6_ruleClass_80 : decode cX6_ruleClass 80 = .ok (.iload_n 1, 1) := by decide +kernel
theorem dX6_ruleClass_81 : decode cX6_ruleClass 81 = .ok (.bipush (-6), 2) := by decide +kernel
theorem dX6_ruleClass_83 : decode cX6_ruleClass 83 = .ok (.if_icmp .eq 9, 3) := by decide +kernel
theorem dX6_ruleClass_86 : decode cX6_ruleClass 86 = .ok (.iload 6, 2) := by decide +kernel
theorem dX6_ruleClass_88 : decode cX6_ruleClass 88 = .ok (.iload_n 2, 1) := by decide +kernel
theorem dX6_ruleClass_89 : decode cX6_ruleClass 89 = .ok (.if_icmp .ge 8, 3) := by decide +kernel
theorem dX6_ruleClass_92 : decode cX6_ruleClass 92 = .ok (.iload_n 3, 1) := by decide +kernel
theorem dX6_ruleClass_93 : decode cX6_ruleClass 93 = .ok (.istore_n 1, 1) := by decide +kernel
theorem dX6_ruleClass_94 : decode cX6_ruleClass 94 = .ok (.iload 6, 2) := by decide +kernel
theorem dX6_ruleClass_96 : decode cX6_ruleClass 96 = .ok (.istore_n 2, 1) := by decide +kernel
theorem dX6_ruleClass_97 : decode cX6_ruleClass 97 = .ok (.iinc 3 1, 3) := by decide +kernel
theorem dX6_ruleClass_100 : decode cX6_ruleClass 100 = .ok (.goto (-93), 3) := by decide +kernel
theorem dX6_ruleClass_103 : decode cX6_ruleClass 103 = .ok (.iload_n 1, 1) := by decide +kernel
theorem dX6_ruleClass_104 : decode cX6_ruleClass 104 = .ok (.ireturn, 1) := by decide +kernel
theorem dX6_trailWith_0 : decode cX6_trailWith 0 = .ok (.aload_n 0, 1) := by decide +kernel
theorem dX6_trailWith_1 : decode cX6_trailWith 1 = .ok (.getfield 15, 3) := by decide +kernel
theorem dX6_trailWith_4 : decode cX6_trailWith 4 = .ok (.aload_n 0, 1) := by decide +kernel
theorem dX6_trailWith_5 : decode cX6_trailWith 5 = .ok (.getfield 24, 3) := by decide +kernel
theorem dX6_trailWith_8 : decode cX6_trailWith 8 = .ok (.iaload, 1) := by decide +kernel
theorem dX6_trailWith_9 : decode cX6_trailWith 9 = .ok (.iconst 4, 1) := by decide +kernel
theorem dX6_trailWith_10 : decode cX6_trailWith 10 = .ok (.ishl, 1) := by decide +kernel
theorem dX6_trailWith_11 : decode cX6_trailWith 11 = .ok (.aload_n 0, 1) := by decide +kernel
theorem dX6_trailWith_12 : decode cX6_trailWith 12 = .ok (.getfield 28, 3) := by decide +kernel
theorem dX6_trailWith_15 : decode cX6_trailWith 15 = .ok (.getfield 66, 3) := by decide +kernel
theorem dX6_trailWith_18 : decode cX6_trailWith 18 = .ok (.iload_n 1, 1) := by decide +kernel
theorem dX6_trailWith_19 : decode cX6_trailWith 19 = .ok (.iaload, 1) := by decide +kernel
theorem dX6_trailWith_20 : decode cX6_trailWith 20 = .ok (.ior, 1) := by decide +kernel
theorem dX6_trailWith_21 : decode cX6_trailWith 21 = .ok (.ireturn, 1) := by decide +kernel
theorem dX8_init_0 : decode cX8_init 0 = .ok (.aload_n 0, 1) := by decide +kernel
theorem dX8_init_1 : decode cX8_init 1 = .ok (.invokespecial 3, 3) := by decide +kernel
theorem dX8_init_4 : decode cX8_init 4 = .ok (.aload_n 0, 1) := by decide +kernel
theorem dX8_init_5 : decode cX8_init 5 = .ok (.iconst 0, 1) := by decide +kernel
theorem dX8_init_6 : decode cX8_init 6 = .ok (.putfield 9, 3) := by decide +kernel
theorem dX8_init_9 : decode cX8_init 9 = .ok (.aload_n 0, 1) := by decide +kernel
theorem dX8_init_10 : decode cX8_init 10 = .ok (.iconst 0, 1) := by decide +kernel
theorem dX8_init_11 : decode cX8_init 11 = .ok (.putfield 15, 3) := by decide +kernel
theorem dX8_init_14 : decode cX8_init 14 = .ok (.aload_n 0, 1) := by decide +kernel
theorem dX8_init_15 : decode cX8_init 15 = .ok (.aload_n 1, 1) := by decide +kernel
theorem dX8_init_16 : decode cX8_init 16 = .ok (.putfield 19, 3) := by decide +kernel
theorem dX8_init_19 : decode cX8_init 19 = .ok (.aload_n 0, 1) := by decide +kernel
theorem dX8_init_20 : decode cX8_init 20 = .ok (.aload_n 2, 1) := by decide +kernel
theorem dX8_init_21 : decode cX8_init 21 = .ok (.putfield 23, 3) := by decide +kernel
theorem dX8_init_24 : decode cX8_init 24 = .ok (.return_, 1) := by decide +kernel
theorem dX8_forget_0 : decode cX8_forget 0 = .ok (.aload_n 0, 1) := by decide +kernel
theorem dX8_forget_1 : decode cX8_forget 1 = .ok (.iconst 0, 1) := by decide +kernel
theorem dX8_forget_2 : decode cX8_forget 2 = .ok (.putfield 15, 3) := by decide +kernel
theorem dX8_forget_5 : decode cX8_forget 5 = .ok (.return_, 1) := by decide +kernel
theorem dX8_refresh_0 : decode cX8_refresh 0 = .ok (.aload_n 0, 1) := by decide +kernel
theorem dX8_refresh_1 : decode cX8_refresh 1 = .ok (.getfield 15, 3) := by decide +kernel
theorem dX8_refresh_4 : decode cX8_refresh 4 = .ok (.ifCond .eq 4, 3) := by decide +kernel
theorem dX8_refresh_7 : decode cX8_refresh 7 = .ok (.return_, 1) := by decide +kernel
theorem dX8_refresh_8 : decode cX8_refresh 8 = .ok (.aload_n 0, 1) := by decide +kernel
theorem dX8_refresh_9 : decode cX8_refresh 9 = .ok (.aload_n 0, 1) := by decide +kernel
theorem dX8_refresh_10 : decode cX8_refresh 10 = .ok (.getfield 19, 3) := by decide +kernel
theorem dX8_refresh_13 : decode cX8_refresh 13 = .ok (.invokevirtual 27, 3) := by decide +kernel
theorem dX8_refresh_16 : decode cX8_refresh 16 = .ok (.putfield 9, 3) := by decide +kernel
theorem dX8_refresh_19 : decode cX8_refresh 19 = .ok (.aload_n 0, 1) := by decide +kernel
theorem dX8_refresh_20 : decode cX8_refresh 20 = .ok (.invokevirtual 32, 3) := by decide +kernel
theorem dX8_refresh_23 : decode cX8_refresh 23 = .ok (.aload_n 0, 1) := by decide +kernel
theorem dX8_refresh_24 : decode cX8_refresh 24 = .ok (.getfield 23, 3) := by decide +kernel
theorem dX8_refresh_27 : decode cX8_refresh 27 = .ok (.invokevirtual 35, 3) := by decide +kernel
theorem dX8_refresh_30 : decode cX8_refresh 30 = .ok (.aload_n 0, 1) := by decide +kernel
theorem dX8_refresh_31 : decode cX8_refresh 31 = .ok (.iconst 0, 1) := by decide +kernel
theorem dX8_refresh_32 : decode cX8_refresh 32 = .ok (.invokevirtual 40, 3) := by decide +kernel
theorem dX8_refresh_35 : decode cX8_refresh 35 = .ok (.aload_n 0, 1) := by decide +kernel
theorem dX8_refresh_36 : decode cX8_refresh 36 = .ok (.iconst 1, 1) := by decide +kernel
theorem dX8_refresh_37 : decode cX8_refresh 37 = .ok (.putfield 15, 3) := by decide +kernel
theorem dX8_refresh_40 : decode cX8_refresh 40 = .ok (.return_, 1) := by decide +kernel
theorem dX8_goOn_0 : decode cX8_goOn 0 = .ok (.aload_n 0, 1) := by decide +kernel
theorem dX8_goOn_1 : decode cX8_goOn 1 = .ok (.iload_n 1, 1) := by decide +kernel
theorem dX8_goOn_2 : decode cX8_goOn 2 = .ok (.invokevirtual 44, 3) := by decide +kernel
theorem dX8_goOn_5 : decode cX8_goOn 5 = .ok (.ifCond .ne 4, 3) := by decide +kernel
theorem dX8_goOn_8 : decode cX8_goOn 8 = .ok (.return_, 1) := by decide +kernel
theorem dX8_goOn_9 : decode cX8_goOn 9 = .ok (.iload_n 1, 1) := by decide +kernel
theorem dX8_goOn_10 : decode cX8_goOn 10 = .ok (.aload_n 0, 1) := by decide +kernel
theorem dX8_goOn_11 : decode cX8_goOn 11 = .ok (.getfield 9, 3) := by decide +kernel
theorem dX8_goOn_14 : decode cX8_goOn 14 = .ok (.if_icmp .lt 8, 3) := by decide +kernel
theorem dX8_goOn_17 : decode cX8_goOn 17 = .ok (.aload_n 0, 1) := by decide +kernel
theorem dX8_goOn_18 : decode cX8_goOn 18 = .ok (.invokevirtual 48, 3) := by decide +kernel
theorem dX8_goOn_21 : decode cX8_goOn 21 = .ok (.return_, 1) := by decide +kernel
theorem dX8_goOn_22 : decode cX8_goOn 22 = .ok (.iconst 0, 1) := by decide +kernel
theorem dX8_goOn_23 : decode cX8_goOn 23 = .ok (.istore_n 2, 1) := by decide +kernel
theorem dX8_goOn_24 : decode cX8_goOn 24 = .ok (.iload_n 2, 1) := by decide +kernel
theorem dX8_goOn_25 : decode cX8_goOn 25 = .ok (.iconst 5, 1) := by decide +kernel
theorem dX8_goOn_26 : decode cX8_goOn 26 = .ok (.if_icmp .ge 43, 3) := by decide +kernel
theorem dX8_goOn_29 : decode cX8_goOn 29 = .ok (.aload_n 0, 1) := by decide +kernel
theorem dX8_goOn_30 : decode cX8_goOn 30 = .ok (.getfield 23, 3) := by decide +kernel
theorem dX8_goOn_33 : decode cX8_goOn 33 = .ok (.getfield 51, 3) := by decide +kernel
theorem dX8_goOn_36 : decode cX8_goOn 36 = .ok (.iload_n 2, 1) := by decide +kernel
theorem dX8_goOn_37 : decode cX8_goOn 37 = .ok (.iaload, 1) := by decide +kernel
theorem dX8_goOn_38 : decode cX8_goOn 38 = .ok (.ifCond .le 25, 3) := by decide +kernel
theorem dX8_goOn_41 : decode cX8_goOn 41 = .ok (.aload_n 0, 1) := by decide +kernel
theorem dX8_goOn_42 : decode cX8_goOn 42 = .ok (.getfield 23, 3) := by decide +kernel
theorem dX8_goOn_45 : decode cX8_goOn 45 = .ok (.iload_n 2, 1) := by decide +kernel
theorem dX8_goOn_46 : decode cX8_goOn 46 = .ok (.invokevirtual 55, 3) := by decide +kernel
theorem dX8_goOn_49 : decode cX8_goOn 49 = .ok (.aload_n 0, 1) := by decide +kernel
theorem dX8_goOn_50 : decode cX8_goOn 50 = .ok (.iload_n 1, 1) := by decide +kernel
theorem dX8_goOn_51 : decode cX8_goOn 51 = .ok (.iconst 1, 1) := by decide +kernel
theorem dX8_goOn_52 : decode cX8_goOn 52 = .ok (.iadd, 1) := by decide +kernel
theorem dX8_goOn_53 : decode cX8_goOn 53 = .ok (.invokevirtual 40, 3) := by decide +kernel
theorem dX8_goOn_56 : decode cX8_goOn 56 = .ok (.aload_n 0, 1) := by decide +kernel
theorem dX8_goOn_57 : decode cX8_goOn 57 = .ok (.getfield 23, 3) := by decide +kernel
theorem dX8_goOn_60 : decode cX8_goOn 60 = .ok (.invokevirtual 58, 3) := by decide +kernel
theorem dX8_goOn_63 : decode cX8_goOn 63 = .ok (.iinc 2 1, 3) := by decide +kernel
theorem dX8_goOn_66 : decode cX8_goOn 66 = .ok (.goto (-42), 3) := by decide +kernel
theorem dX8_goOn_69 : decode cX8_goOn 69 = .ok (.return_, 1) := by decide +kernel
theorem dX8_keepRow_0 : decode cX8_keepRow 0 = .ok (.aload_n 0, 1) := by decide +kernel
theorem dX8_keepRow_1 : decode cX8_keepRow 1 = .ok (.getfield 23, 3) := by decide +kernel
theorem dX8_keepRow_4 : decode cX8_keepRow 4 = .ok (.getfield 61, 3) := by decide +kernel
theorem dX8_keepRow_7 : decode cX8_keepRow 7 = .ok (.iconst 0, 1) := by decide +kernel
theorem dX8_keepRow_8 : decode cX8_keepRow 8 = .ok (.aload_n 1, 1) := by decide +kernel
theorem dX8_keepRow_9 : decode cX8_keepRow 9 = .ok (.iconst 0, 1) := by decide +kernel
theorem dX8_keepRow_10 : decode cX8_keepRow 10 = .ok (.bipush 9, 2) := by decide +kernel
theorem dX8_keepRow_12 : decode cX8_keepRow 12 = .ok (.invokestatic 64, 3) := by decide +kernel
theorem dX8_keepRow_15 : decode cX8_keepRow 15 = .ok (.return_, 1) := by decide +kernel
theorem dX9_init_0 : decode cX9_init 0 = .ok (.aload_n 0, 1) := by decide +kernel
theorem dX9_init_1 : decode cX9_init 1 = .ok (.invokespecial 1, 3) := by decide +kernel
theorem dX9_init_4 : decode cX9_init 4 = .ok (.aload_n 0, 1) := by decide +kernel
theorem dX9_init_5 : decode cX9_init 5 = .ok (.new 7, 3) := by decide +kernel
theorem dX9_init_8 : decode cX9_init 8 = .ok (.dup, 1) := by decide +kernel
theorem dX9_init_9 : decode cX9_init 9 = .ok (.invokespecial 9, 3) := by decide +kernel
theorem dX9_init_12 : decode cX9_init 12 = .ok (.putfield 10, 3) := by decide +kernel
theorem dX9_init_15 : decode cX9_init 15 = .ok (.aload_n 0, 1) := by decide +kernel
theorem dX9_init_16 : decode cX9_init 16 = .ok (.new 16, 3) := by decide +kernel
theorem dX9_init_19 : decode cX9_init 19 = .ok (.dup, 1) := by decide +kernel
theorem dX9_init_20 : decode cX9_init 20 = .ok (.invokespecial 18, 3) := by decide +kernel
theorem dX9_init_23 : decode cX9_init 23 = .ok (.putfield 19, 3) := by decide +kernel
theorem dX9_init_26 : decode cX9_init 26 = .ok (.aload_n 0, 1) := by decide +kernel
theorem dX9_init_27 : decode cX9_init 27 = .ok (.new 23, 3) := by decide +kernel
theorem dX9_init_30 : decode cX9_init 30 = .ok (.dup, 1) := by decide +kernel
theorem dX9_init_31 : decode cX9_init 31 = .ok (.aload_n 0, 1) := by decide +kernel
theorem dX9_init_32 : decode cX9_init 32 = .ok (.getfield 10, 3) := by decide +kernel
theorem dX9_init_35 : decode cX9_init 35 = .ok (.invokespecial 25, 3) := by decide +kernel
theorem dX9_init_38 : decode cX9_init 38 = .ok (.putfield 28, 3) := by decide +kernel
theorem dX9_init_41 : decode cX9_init 41 = .ok (.aload_n 0, 1) := by decide +kernel
theorem dX9_init_42 : decode cX9_init 42 = .ok (.new 32, 3) := by decide +kernel
theorem dX9_init_45 : decode cX9_init 45 = .ok (.dup, 1) := by decide +kernel
theorem dX9_init_46 : decode cX9_init 46 = .ok (.aload_n 0, 1) := by decide +kernel
theorem dX9_init_47 : decode cX9_init 47 = .ok (.getfield 10, 3) := by decide +kernel
theorem dX9_init_50 : decode cX9_init 50 = .ok (.aload_n 0, 1) := by decide +kernel
theorem dX9_init_51 : decode cX9_init 51 = .ok (.getfield 28, 3) := by decide +kernel
theorem dX9_init_54 : decode cX9_init 54 = .ok (.invokespecial 34, 3) := by decide +kernel
theorem dX9_init_57 : decode cX9_init 57 = .ok (.putfield 37, 3) := by decide +kernel
theorem dX9_init_60 : decode cX9_init 60 = .ok (.aload_n 0, 1) := by decide +kernel
theorem dX9_init_61 : decode cX9_init 61 = .ok (.new 41, 3) := by decide +kernel
theorem dX9_init_64 : decode cX9_init 64 = .ok (.dup, 1) := by decide +kernel
theorem dX9_init_65 : decode cX9_init 65 = .ok (.aload_n 0, 1) := by decide +kernel
theorem dX9_init_66 : decode cX9_init 66 = .ok (.getfield 10, 3) := by decide +kernel
theorem dX9_init_69 : decode cX9_init 69 = .ok (.aload_n 0, 1) := by decide +kernel
theorem dX9_init_70 : decode cX9_init 70 = .ok (.getfield 28, 3) := by decide +kernel
theorem dX9_init_73 : decode cX9_init 73 = .ok (.invokespecial 43, 3) := by decide +kernel
theorem dX9_init_76 : decode cX9_init 76 = .ok (.putfield 44, 3) := by decide +kernel
theorem dX9_init_79 : decode cX9_init 79 = .ok (.aload_n 0, 1) := by decide +kernel
theorem dX9_init_80 : decode cX9_init 80 = .ok (.new 48, 3) := by decide +kernel
theorem dX9_init_83 : decode cX9_init 83 = .ok (.dup, 1) := by decide +kernel
theorem dX9_init_84 : decode cX9_init 84 = .ok (.aload_n 0, 1) := by decide +kernel
theorem dX9_init_85 : decode cX9_init 85 = .ok (.getfield 10, 3) := by decide +kernel
theorem dX9_init_88 : decode cX9_init 88 = .ok (.aload_n 0, 1) := by decide +kernel
theorem dX9_init_89 : decode cX9_init 89 = .ok (.getfield 28, 3) := by decide +kernel
theorem dX9_init_92 : decode cX9_init 92 = .ok (.invokespecial 50, 3) := by decide +kernel
theorem dX9_init_95 : decode cX9_init 95 = .ok (.putfield 51, 3) := by decide +kernel
theorem dX9_init_98 : decode cX9_init 98 = .ok (.aload_n 0, 1) := by decide +kernel
theorem dX9_init_99 : decode cX9_init 99 = .ok (.new 55, 3) := by decide +kernel
theorem dX9_init_102 : decode cX9_init 102 = .ok (.dup, 1) := by decide +kernel
theorem dX9_init_103 : decode cX9_init 103 = .ok (.aload_n 0, 1) := by decide +kernel
theorem dX9_init_104 : decode cX9_init 104 = .ok (.getfield 10, 3) := by decide +kernel
theorem dX9_init_107 : decode cX9_init 107 = .ok (.aload_n 0, 1) := by decide +kernel
theorem dX9_init_108 : decode cX9_init 108 = .ok (.getfield 28, 3) := by decide +kernel
theorem dX9_init_111 : decode cX9_init 111 = .ok (.aload_n 0, 1) := by decide +kernel
theorem dX9_init_112 : decode cX9_init 112 = .ok (.getfield 19, 3) := by decide +kernel
theorem dX9_init_115 : decode cX9_init 115 = .ok (.invokespecial 57, 3) := by decide +kernel
theorem dX9_init_118 : decode cX9_init 118 = .ok (.putfield 60, 3) := by decide +kernel
theorem dX9_init_121 : decode cX9_init 121 = .ok (.aload_n 0, 1) := by decide +kernel
theorem dX9_init_122 : decode cX9_init 122 = .ok (.new 64, 3) := by decide +kernel
theorem dX9_init_125 : decode cX9_init 125 = .ok (.dup, 1) := by decide +kernel
theorem dX9_init_126 : decode cX9_init 126 = .ok (.aload_n 0, 1) := by decide +kernel
theorem dX9_init_127 : decode cX9_init 127 = .ok (.getfield 19, 3) := by decide +kernel
theorem dX9_init_130 : decode cX9_init 130 = .ok (.aload_n 0, 1) := by decide +kernel
theorem dX9_init_131 : decode cX9_init 131 = .ok (.getfield 28, 3) := by decide +kernel
theorem dX9_init_134 : decode cX9_init 134 = .ok (.invokespecial 66, 3) := by decide +kernel
theorem dX9_init_137 : decode cX9_init 137 = .ok (.putfield 69, 3) := by decide +kernel
theorem dX9_init_140 : decode cX9_init 140 = .ok (.aload_n 0, 1) := by decide +kernel
theorem dX9_init_141 : decode cX9_init 141 = .ok (.new 7, 3) := by decide +kernel
theorem dX9_init_144 : decode cX9_init 144 = .ok (.dup, 1) := by decide +kernel
theorem dX9_init_145 : decode cX9_init 145 = .ok (.invokespecial 9, 3) := by decide +kernel
theorem dX9_init_148 : decode cX9_init 148 = .ok (.putfield 73, 3) := by decide +kernel
theorem dX9_init_151 : decode cX9_init 151 = .ok (.aload_n 0, 1) := by decide +kernel
theorem dX9_init_152 : decode cX9_init 152 = .ok (.new 7, 3) := by decide +kernel
theorem dX9_init_155 : decode cX9_init 155 = .ok (.dup, 1) := by decide +kernel
theorem dX9_init_156 : decode cX9_init 156 = .ok (.invokespecial 9, 3) := by decide +kernel
theorem dX9_init_159 : decode cX9_init 159 = .ok (.putfield 76, 3) := by decide +kernel
theorem dX9_init_162 : decode cX9_init 162 = .ok (.aload_n 0, 1) := by decide +kernel
theorem dX9_init_163 : decode cX9_init 163 = .ok (.iconst 0, 1) := by decide +kernel
theorem dX9_init_164 : decode cX9_init 164 = .ok (.putfield 79, 3) := by decide +kernel
theorem dX9_init_167 : decode cX9_init 167 = .ok (.return_, 1) := by decide +kernel
theorem dX9_option_0 : decode cX9_option 0 = .ok (.iload_n 1, 1) := by decide +kernel
theorem dX9_option_1 : decode cX9_option 1 = .ok (.invokestatic 83, 3) := by decide +kernel
theorem dX9_option_4 : decode cX9_option 4 = .ok (.ifCond .ne 5, 3) := by decide +kernel
theorem dX9_option_7 : decode cX9_option 7 = .ok (.iconst (-1), 1) := by decide +kernel
theorem dX9_option_8 : decode cX9_option 8 = .ok (.ireturn, 1) := by decide +kernel
theorem dX9_option_9 : decode cX9_option 9 = .ok (.iload_n 3, 1) := by decide +kernel
theorem dX9_option_10 : decode cX9_option 10 = .ok (.iconst 1, 1) := by decide +kernel
theorem dX9_option_11 : decode cX9_option 11 = .ok (.if_icmp .lt 18, 3) := by decide +kernel
theorem dX9_option_14 : decode cX9_option 14 = .ok (.iload_n 3, 1) := by decide +kernel
theorem dX9_option_15 : decode cX9_option 15 = .ok (.iconst 5, 1) := by decide +kernel
theorem dX9_option_16 : decode cX9_option 16 = .ok (.if_icmp .gt 13, 3) := by decide +kernel
theorem dX9_option_19 : decode cX9_option 19 = .ok (.iload_n 2, 1) := by decide +kernel
theorem dX9_option_20 : decode cX9_option 20 = .ok (.iconst 1, 1) := by decide +kernel
theorem dX9_option_21 : decode cX9_option 21 = .ok (.if_icmp .lt 8, 3) := by decide +kernel
theorem dX9_option_24 : decode cX9_option 24 = .ok (.iload_n 2, 1) := by decide +kernel
theorem dX9_option_25 : decode cX9_option 25 = .ok (.iload_n 3, 1) := by decide +kernel
theorem dX9_option_26 : decode cX9_option 26 = .ok (.if_icmp .le 6, 3) := by decide +kernel
theorem dX9_option_29 : decode cX9_option 29 = .ok (.bipush (-2), 2) := by decide +kernel
theorem dX9_option_31 : decode cX9_option 31 = .ok (.ireturn, 1) := by decide +kernel
theorem dX9_option_32 : decode cX9_option 32 = .ok (.bipush 10, 2) := by decide +kernel
theorem dX9_option_34 : decode cX9_option 34 = .ok (.aload_n 0, 1) := by decide +kernel
theorem dX9_option_35 : decode cX9_option 35 = .ok (.getfield 10, 3) := by decide +kernel
theorem dX9_option_38 : decode cX9_option 38 = .ok (.getfield 87, 3) := by decide +kernel
theorem dX9_option_41 : decode cX9_option 41 = .ok (.iload_n 1, 1) := by decide +kernel
theorem dX9_option_42 : decode cX9_option 42 = .ok (.iaload, 1) := by decide +kernel
theorem dX9_option_43 : decode cX9_option 43 = .ok (.imul, 1) := by decide +kernel
theorem dX9_option_44 : decode cX9_option 44 = .ok (.aload_n 0, 1) := by decide +kernel
theorem dX9_option_45 : decode cX9_option 45 = .ok (.getfield 10, 3) := by decide +kernel
theorem dX9_option_48 : decode cX9_option 48 = .ok (.getfield 91, 3) := by decide +kernel
theorem dX9_option_51 : decode cX9_option 51 = .ok (.iload_n 1, 1) := by decide +kernel
theorem dX9_option_52 : decode cX9_option 52 = .ok (.iaload, 1) := by decide +kernel
theorem dX9_option_53 : decode cX9_option 53 = .ok (.iadd, 1) := by decide +kernel
theorem dX9_option_54 : decode cX9_option 54 = .ok (.istore 4, 2) := by decide +kernel
theorem dX9_option_56 : decode cX9_option 56 = .ok (.aload_n 0, 1) := by decide +kernel
theorem dX9_option_57 : decode cX9_option 57 = .ok (.getfield 10, 3) := by decide +kernel
theorem dX9_option_60 : decode cX9_option 60 = .ok (.iload_n 1, 1) := by decide +kernel
theorem dX9_option_61 : decode cX9_option 61 = .ok (.iload_n 2, 1) := by decide +kernel
theorem dX9_option_62 : decode cX9_option 62 = .ok (.iload_n 3, 1) := by decide +kernel
theorem dX9_option_63 : decode cX9_option 63 = .ok (.invokevirtual 94, 3) := by decide +kernel
theorem dX9_option_66 : decode cX9_option 66 = .ok (.aload_n 0, 1) := by decide +kernel
theorem dX9_option_67 : decode cX9_option 67 = .ok (.invokevirtual 98, 3) := by decide +kernel
theorem dX9_option_70 : decode cX9_option 70 = .ok (.iload 4, 2) := by decide +kernel
theorem dX9_option_72 : decode cX9_option 72 = .ok (.ireturn, 1) := by decide +kernel
theorem dX9_options_0 : decode cX9_options 0 = .ok (.iload_n 1, 1) := by decide +kernel
theorem dX9_options_1 : decode cX9_options 1 = .ok (.invokestatic 101, 3) := by decide +kernel
theorem dX9_options_4 : decode cX9_options 4 = .ok (.ifCond .ne 5, 3) := by decide +kernel
theorem dX9_options_7 : decode cX9_options 7 = .ok (.iconst (-1), 1) := by decide +kernel
theorem dX9_options_8 : decode cX9_options 8 = .ok (.ireturn, 1) := by decide +kernel
theorem dX9_options_9 : decode cX9_options 9 = .ok (.iload_n 2, 1) := by decide +kernel
theorem dX9_options_10 : decode cX9_options 10 = .ok (.ifCond .lt 9, 3) := by decide +kernel
theorem dX9_options_13 : decode cX9_options 13 = .ok (.iload_n 2, 1) := by decide +kernel
theorem dX9_options_14 : decode cX9_options 14 = .ok (.bipush 15, 2) := by decide +kernel
theorem dX9_options_16 : decode cX9_options 16 = .ok (.if_icmp .le 6, 3) := by decide +kernel
theorem dX9_options_19 : decode cX9_options 19 = .ok (.bipush (-2), 2) := by decide +kernel
theorem dX9_options_21 : decode cX9_options 21 = .ok (.ireturn, 1) := by decide +kernel
theorem dX9_options_22 : decode cX9_options 22 = .ok (.aload_n 0, 1) := by decide +kernel
theorem dX9_options_23 : decode cX9_options 23 = .ok (.getfield 10, 3) := by decide +kernel
theorem dX9_options_26 : decode cX9_options 26 = .ok (.getfield 104, 3) := by decide +kernel
theorem dX9_options_29 : decode cX9_options 29 = .ok (.iload_n 1, 1) := by decide +kernel
theorem dX9_options_30 : decode cX9_options 30 = .ok (.iaload, 1) := by decide +kernel
theorem dX9_options_31 : decode cX9_options 31 = .ok (.istore_n 3, 1) := by decide +kernel
theorem dX9_options_32 : decode cX9_options 32 = .ok (.aload_n 0, 1) := by decide +kernel
theorem dX9_options_33 : decode cX9_options 33 = .ok (.getfield 10, 3) := by decide +kernel
theorem dX9_options_36 : decode cX9_options 36 = .ok (.getfield 104, 3) := by decide +kernel
theorem dX9_options_39 : decode cX9_options 39 = .ok (.iload_n 1, 1) := by decide +kernel
theorem dX9_options_40 : decode cX9_options 40 = .ok (.iload_n 2, 1) := by decide +kernel
theorem dX9_options_41 : decode cX9_options 41 = .ok (.iastore, 1) := by decide +kernel
theorem dX9_options_42 : decode cX9_options 42 = .ok (.aload_n 0, 1) := by decide +kernel
theorem dX9_options_43 : decode cX9_options 43 = .ok (.invokevirtual 98, 3) := by decide +kernel
theorem dX9_options_46 : decode cX9_options 46 = .ok (.iload_n 3, 1) := by decide +kernel
theorem dX9_options_47 : decode cX9_options 47 = .ok (.ireturn, 1) := by decide +kernel
theorem dX9_demand_0 : decode cX9_demand 0 = .ok (.iload_n 1, 1) := by decide +kernel
theorem dX9_demand_1 : decode cX9_demand 1 = .ok (.invokestatic 101, 3) := by decide +kernel
theorem dX9_demand_4 : decode cX9_demand 4 = .ok (.ifCond .ne 5, 3) := by decide +kernel
theorem dX9_demand_7 : decode cX9_demand 7 = .ok (.iconst (-1), 1) := by decide +kernel
theorem dX9_demand_8 : decode cX9_demand 8 = .ok (.ireturn, 1) := by decide +kernel
theorem dX9_demand_9 : decode cX9_demand 9 = .ok (.iload_n 2, 1) := by decide +kernel
theorem dX9_demand_10 : decode cX9_demand 10 = .ok (.ifCond .lt 9, 3) := by decide +kernel
theorem dX9_demand_13 : decode cX9_demand 13 = .ok (.iload_n 2, 1) := by decide +kernel
theorem dX9_demand_14 : decode cX9_demand 14 = .ok (.bipush 9, 2) := by decide +kernel
theorem dX9_demand_16 : decode cX9_demand 16 = .ok (.if_icmp .le 6, 3) := by decide +kernel
theorem dX9_demand_19 : decode cX9_demand 19 = .ok (.bipush (-2), 2) := by decide +kernel
theorem dX9_demand_21 : decode cX9_demand 21 = .ok (.ireturn, 1) := by decide +kernel
theorem dX9_demand_22 : decode cX9_demand 22 = .ok (.aload_n 0, 1) := by decide +kernel
theorem dX9_demand_23 : decode cX9_demand 23 = .ok (.getfield 10, 3) := by decide +kernel
theorem dX9_demand_26 : decode cX9_demand 26 = .ok (.invokevirtual 107, 3) := by decide +kernel
theorem dX9_demand_29 : decode cX9_demand 29 = .ok (.aload_n 0, 1) := by decide +kernel
theorem dX9_demand_30 : decode cX9_demand 30 = .ok (.getfield 10, 3) := by decide +kernel
theorem dX9_demand_33 : decode cX9_demand 33 = .ok (.getfield 111, 3) := by decide +kernel
theorem dX9_demand_36 : decode cX9_demand 36 = .ok (.iload_n 1, 1) := by decide +kernel
theorem dX9_demand_37 : decode cX9_demand 37 = .ok (.iaload, 1) := by decide +kernel
theorem dX9_demand_38 : decode cX9_demand 38 = .ok (.isub, 1) := by decide +kernel
theorem dX9_demand_39 : decode cX9_demand 39 = .ok (.iload_n 2, 1) := by decide +kernel
theorem dX9_demand_40 : decode cX9_demand 40 = .ok (.iadd, 1) := by decide +kernel
theorem dX9_demand_41 : decode cX9_demand 41 = .ok (.istore_n 3, 1) := by decide +kernel
theorem dX9_demand_42 : decode cX9_demand 42 = .ok (.iload_n 3, 1) := by decide +kernel
theorem dX9_demand_43 : decode cX9_demand 43 = .ok (.bipush 9, 2) := by decide +kernel
theorem dX9_demand_45 : decode cX9_demand 45 = .ok (.if_icmp .le 6, 3) := by decide +kernel
theorem dX9_demand_48 : decode cX9_demand 48 = .ok (.bipush (-4), 2) := by decide +kernel
theorem dX9_demand_50 : decode cX9_demand 50 = .ok (.ireturn, 1) := by decide +kernel
theorem dX9_demand_51 : decode cX9_demand 51 = .ok (.aload_n 0, 1) := by decide +kernel
theorem dX9_demand_52 : decode cX9_demand 52 = .ok (.getfield 10, 3) := by decide +kernel
theorem dX9_demand_55 : decode cX9_demand 55 = .ok (.getfield 111, 3) := by decide +kernel
theorem dX9_demand_58 : decode cX9_demand 58 = .ok (.iload_n 1, 1) := by decide +kernel
theorem dX9_demand_59 : decode cX9_demand 59 = .ok (.iload_n 2, 1) := by decide +kernel
theorem dX9_demand_60 : decode cX9_demand 60 = .ok (.iastore, 1) := by decide +kernel
theorem dX9_demand_61 : decode cX9_demand 61 = .ok (.aload_n 0, 1) := by decide +kernel
theorem dX9_demand_62 : decode cX9_demand 62 = .ok (.invokevirtual 98, 3) := by decide +kernel
theorem dX9_demand_65 : decode cX9_demand 65 = .ok (.iload_n 3, 1) := by decide +kernel
theorem dX9_demand_66 : decode cX9_demand 66 = .ok (.ireturn, 1) := by decide +kernel
theorem dX9_told_0 : decode cX9_told 0 = .ok (.iload_n 1, 1) := by decide +kernel
theorem dX9_told_1 : decode cX9_told 1 = .ok (.invokestatic 101, 3) := by decide +kernel
theorem dX9_told_4 : decode cX9_told 4 = .ok (.ifCond .ne 5, 3) := by decide +kernel
theorem dX9_told_7 : decode cX9_told 7 = .ok (.iconst (-1), 1) := by decide +kernel
theorem dX9_told_8 : decode cX9_told 8 = .ok (.ireturn, 1) := by decide +kernel
theorem dX9_told_9 : decode cX9_told 9 = .ok (.iload_n 2, 1) := by decide +kernel
theorem dX9_told_10 : decode cX9_told 10 = .ok (.lookupswitch 46 #[(0, 26), (1, 36)], 26) := by decide +kernel
theorem dX9_told_36 : decode cX9_told 36 = .ok (.aload_n 0, 1) := by decide +kernel
theorem dX9_told_37 : decode cX9_told 37 = .ok (.getfield 10, 3) := by decide +kernel
theorem dX9_told_40 : decode cX9_told 40 = .ok (.getfield 104, 3) := by decide +kernel
theorem dX9_told_43 : decode cX9_told 43 = .ok (.iload_n 1, 1) := by decide +kernel
theorem dX9_told_44 : decode cX9_told 44 = .ok (.iaload, 1) := by decide +kernel
theorem dX9_told_45 : decode cX9_told 45 = .ok (.ireturn, 1) := by decide +kernel
theorem dX9_told_46 : decode cX9_told 46 = .ok (.aload_n 0, 1) := by decide +kernel
theorem dX9_told_47 : decode cX9_told 47 = .ok (.getfield 10, 3) := by decide +kernel
theorem dX9_told_50 : decode cX9_told 50 = .ok (.getfield 111, 3) := by decide +kernel
theorem dX9_told_53 : decode cX9_told 53 = .ok (.iload_n 1, 1) := by decide +kernel
theorem dX9_told_54 : decode cX9_told 54 = .ok (.iaload, 1) := by decide +kernel
theorem dX9_told_55 : decode cX9_told 55 = .ok (.ireturn, 1) := by decide +kernel
theorem dX9_told_56 : decode cX9_told 56 = .ok (.bipush (-2), 2) := by decide +kernel
theorem dX9_told_58 : decode cX9_told 58 = .ok (.ireturn, 1) := by decide +kernel
theorem dX9_of_0 : decode cX9_of 0 = .ok (.iload_n 1, 1) := by decide +kernel
theorem dX9_of_1 : decode cX9_of 1 = .ok (.invokestatic 83, 3) := by decide +kernel
theorem dX9_of_4 : decode cX9_of 4 = .ok (.ifCond .ne 5, 3) := by decide +kernel
theorem dX9_of_7 : decode cX9_of 7 = .ok (.iconst (-1), 1) := by decide +kernel
theorem dX9_of_8 : decode cX9_of 8 = .ok (.ireturn, 1) := by decide +kernel
theorem dX9_of_9 : decode cX9_of 9 = .ok (.iload_n 2, 1) := by decide +kernel
theorem dX9_of_10 : decode cX9_of 10 = .ok (.tableswitch 68 0 3 #[30, 40, 50, 59], 30) := by decide +kernel
theorem dX9_of_40 : decode cX9_of 40 = .ok (.aload_n 0, 1) := by decide +kernel
theorem dX9_of_41 : decode cX9_of 41 = .ok (.getfield 10, 3) := by decide +kernel
theorem dX9_of_44 : decode cX9_of 44 = .ok (.getfield 87, 3) := by decide +kernel
theorem dX9_of_47 : decode cX9_of 47 = .ok (.iload_n 1, 1) := by decide +kernel
theorem dX9_of_48 : decode cX9_of 48 = .ok (.iaload, 1) := by decide +kernel
theorem dX9_of_49 : decode cX9_of 49 = .ok (.ireturn, 1) := by decide +kernel
theorem dX9_of_50 : decode cX9_of 50 = .ok (.aload_n 0, 1) := by decide +kernel
theorem dX9_of_51 : decode cX9_of 51 = .ok (.getfield 10, 3) := by decide +kernel
theorem dX9_of_54 : decode cX9_of 54 = .ok (.getfield 91, 3) := by decide +kernel
theorem dX9_of_57 : decode cX9_of 57 = .ok (.iload_n 1, 1) := by decide +kernel
theorem dX9_of_58 : decode cX9_of 58 = .ok (.iaload, 1) := by decide +kernel
theorem dX9_of_59 : decode cX9_of 59 = .ok (.ireturn, 1) := by decide +kernel
theorem dX9_of_60 : decode cX9_of 60 = .ok (.aload_n 0, 1) := by decide +kernel
theorem dX9_of_61 : decode cX9_of 61 = .ok (.getfield 10, 3) := by decide +kernel
theorem dX9_of_64 : decode cX9_of 64 = .ok (.iload_n 1, 1) := by decide +kernel
theorem dX9_of_65 : decode cX9_of 65 = .ok (.invokevirtual 114, 3) := by decide +kernel
theorem dX9_of_68 : decode cX9_of 68 = .ok (.ireturn, 1) := by decide +kernel
theorem dX9_of_69 : decode cX9_of 69 = .ok (.aload_n 0, 1) := by decide +kernel
theorem dX9_of_70 : decode cX9_of 70 = .ok (.getfield 10, 3) := by decide +kernel
theorem dX9_of_73 : decode cX9_of 73 = .ok (.iload_n 1, 1) := by decide +kernel
theorem dX9_of_74 : decode cX9_of 74 = .ok (.invokevirtual 118, 3) := by decide +kernel
theorem dX9_of_77 : decode cX9_of 77 = .ok (.ireturn, 1) := by decide +kernel
theorem dX9_of_78 : decode cX9_of 78 = .ok (.bipush (-2), 2) := by decide +kernel
theorem dX9_of_80 : decode cX9_of 80 = .ok (.ireturn, 1) := by decide +kernel
theorem dX9_fits_0 : decode cX9_fits 0 = .ok (.iload_n 1, 1) := by decide +kernel
theorem dX9_fits_1 : decode cX9_fits 1 = .ok (.iconst (-1), 1) := by decide +kernel
theorem dX9_fits_2 : decode cX9_fits 2 = .ok (.if_icmp .ge 6, 3) := by decide +kernel
theorem dX9_fits_5 : decode cX9_fits 5 = .ok (.bipush (-2), 2) := by decide +kernel
theorem dX9_fits_7 : decode cX9_fits 7 = .ok (.ireturn, 1) := by decide +kernel
theorem dX9_fits_8 : decode cX9_fits 8 = .ok (.aload_n 0, 1) := by decide +kernel
theorem dX9_fits_9 : decode cX9_fits 9 = .ok (.getfield 37, 3) := by decide +kernel
theorem dX9_fits_12 : decode cX9_fits 12 = .ok (.invokevirtual 121, 3) := by decide +kernel
theorem dX9_fits_15 : decode cX9_fits 15 = .ok (.iload_n 1, 1) := by decide +kernel
theorem dX9_fits_16 : decode cX9_fits 16 = .ok (.iconst (-1), 1) := by decide +kernel
theorem dX9_fits_17 : decode cX9_fits 17 = .ok (.if_icmp .ne 11, 3) := by decide +kernel
theorem dX9_fits_20 : decode cX9_fits 20 = .ok (.aload_n 0, 1) := by decide +kernel
theorem dX9_fits_21 : decode cX9_fits 21 = .ok (.getfield 37, 3) := by decide +kernel
theorem dX9_fits_24 : decode cX9_fits 24 = .ok (.getfield 124, 3) := by decide +kernel
theorem dX9_fits_27 : decode cX9_fits 27 = .ok (.ireturn, 1) := by decide +kernel
theorem dX9_fits_28 : decode cX9_fits 28 = .ok (.aload_n 0, 1) := by decide +kernel
theorem dX9_fits_29 : decode cX9_fits 29 = .ok (.getfield 37, 3) := by decide +kernel
theorem dX9_fits_32 : decode cX9_fits 32 = .ok (.getfield 124, 3) := by decide +kernel
theorem dX9_fits_35 : decode cX9_fits 35 = .ok (.ifCond .ne 8, 3) := by decide +kernel
theorem dX9_fits_38 : decode cX9_fits 38 = .ok (.bipush (-6), 2) := by decide +kernel
theorem dX9_fits_40 : decode cX9_fits 40 = .ok (.goto 15, 3) := by decide +kernel
theorem dX9_fits_43 : decode cX9_fits 43 = .ok (.aload_n 0, 1) := by decide +kernel
theorem dX9_fits_44 : decode cX9_fits 44 = .ok (.aload_n 0, 1) := by decide +kernel
theorem dX9_fits_45 : decode cX9_fits 45 = .ok (.getfield 37, 3) := by decide +kernel
theorem dX9_fits_48 : decode cX9_fits 48 = .ok (.getfield 127, 3) := by decide +kernel
theorem dX9_fits_51 : decode cX9_fits 51 = .ok (.iload_n 1, 1) := by decide +kernel
theorem dX9_fits_52 : decode cX9_fits 52 = .ok (.invokevirtual 130, 3) := by decide +kernel
theorem dX9_fits_55 : decode cX9_fits 55 = .ok (.ireturn, 1) := by decide +kernel
theorem dX9_least_0 : decode cX9_least 0 = .ok (.iload_n 1, 1) := by decide +kernel
theorem dX9_least_1 : decode cX9_least 1 = .ok (.iconst (-1), 1) := by decide +kernel
theorem dX9_least_2 : decode cX9_least 2 = .ok (.if_icmp .ge 6, 3) := by decide +kernel
theorem dX9_least_5 : decode cX9_least 5 = .ok (.bipush (-2), 2) := by decide +kernel
theorem dX9_least_7 : decode cX9_least 7 = .ok (.ireturn, 1) := by decide +kernel
theorem dX9_least_8 : decode cX9_least 8 = .ok (.aload_n 0, 1) := by decide +kernel
theorem dX9_least_9 : decode cX9_least 9 = .ok (.getfield 44, 3) := by decide +kernel
theorem dX9_least_12 : decode cX9_least 12 = .ok (.invokevirtual 134, 3) := by decide +kernel
theorem dX9_least_15 : decode cX9_least 15 = .ok (.iload_n 1, 1) := by decide +kernel
theorem dX9_least_16 : decode cX9_least 16 = .ok (.iconst (-1), 1) := by decide +kernel
theorem dX9_least_17 : decode cX9_least 17 = .ok (.if_icmp .ne 13, 3) := by decide +kernel
theorem dX9_least_20 : decode cX9_least 20 = .ok (.aload_n 0, 1) := by decide +kernel
theorem dX9_least_21 : decode cX9_least 21 = .ok (.getfield 44, 3) := by decide +kernel
theorem dX9_least_24 : decode cX9_least 24 = .ok (.getfield 135, 3) := by decide +kernel
theorem dX9_least_27 : decode cX9_least 27 = .ok (.goto 15, 3) := by decide +kernel
theorem dX9_least_30 : decode cX9_least 30 = .ok (.aload_n 0, 1) := by decide +kernel
theorem dX9_least_31 : decode cX9_least 31 = .ok (.aload_n 0, 1) := by decide +kernel
theorem dX9_least_32 : decode cX9_least 32 = .ok (.getfield 44, 3) := by decide +kernel
theorem dX9_least_35 : decode cX9_least 35 = .ok (.getfield 138, 3) := by decide +kernel
theorem dX9_least_38 : decode cX9_least 38 = .ok (.iload_n 1, 1) := by decide +kernel
theorem dX9_least_39 : decode cX9_least 39 = .ok (.invokevirtual 130, 3) := by decide +kernel
theorem dX9_least_42 : decode cX9_least 42 = .ok (.ireturn, 1) := by decide +kernel
theorem dX9_clash_0 : decode cX9_clash 0 = .ok (.iconst 0, 1) := by decide +kernel
theorem dX9_clash_1 : decode cX9_clash 1 = .ok (.istore_n 1, 1) := by decide +kernel
theorem dX9_clash_2 : decode cX9_clash 2 = .ok (.iconst 0, 1) := by decide +kernel
theorem dX9_clash_3 : decode cX9_clash 3 = .ok (.istore_n 2, 1) := by decide +kernel
theorem dX9_clash_4 : decode cX9_clash 4 = .ok (.iload_n 2, 1) := by decide +kernel
theorem dX9_clash_5 : decode cX9_clash 5 = .ok (.iconst 4, 1) := by decide +kernel
theorem dX9_clash_6 : decode cX9_clash 6 = .ok (.if_icmp .ge 34, 3) := by decide +kernel
theorem dX9_clash_9 : decode cX9_clash 9 = .ok (.aload_n 0, 1) := by decide +kernel
theorem dX9_clash_10 : decode cX9_clash 10 = .ok (.getfield 10, 3) := by decide +kernel
theorem dX9_clash_13 : decode cX9_clash 13 = .ok (.iload_n 2, 1) := by decide +kernel
theorem dX9_clash_14 : decode cX9_clash 14 = .ok (.invokevirtual 114, 3) := by decide +kernel
theorem dX9_clash_17 : decode cX9_clash 17 = .ok (.aload_n 0, 1) := by decide +kernel
theorem dX9_clash_18 : decode cX9_clash 18 = .ok (.getfield 10, 3) := by decide +kernel
theorem dX9_clash_21 : decode cX9_clash 21 = .ok (.iload_n 2, 1) := by decide +kernel
theorem dX9_clash_22 : decode cX9_clash 22 = .ok (.invokevirtual 118, 3) := by decide +kernel
theorem dX9_clash_25 : decode cX9_clash 25 = .ok (.if_icmp .le 9, 3) := by decide +kernel
theorem dX9_clash_28 : decode cX9_clash 28 = .ok (.iload_n 1, 1) := by decide +kernel
theorem dX9_clash_29 : decode cX9_clash 29 = .ok (.iconst 1, 1) := by decide +kernel
theorem dX9_clash_30 : decode cX9_clash 30 = .ok (.iload_n 2, 1) := by decide +kernel
theorem dX9_clash_31 : decode cX9_clash 31 = .ok (.ishl, 1) := by decide +kernel
theorem dX9_clash_32 : decode cX9_clash 32 = .ok (.ior, 1) := by decide +kernel
theorem dX9_clash_33 : decode cX9_clash 33 = .ok (.istore_n 1, 1) := by decide +kernel
theorem dX9_clash_34 : decode cX9_clash 34 = .ok (.iinc 2 1, 3) := by decide +kernel
theorem dX9_clash_37 : decode cX9_clash 37 = .ok (.goto (-33), 3) := by decide +kernel
theorem dX9_clash_40 : decode cX9_clash 40 = .ok (.iload_n 1, 1) := by decide +kernel
theorem dX9_clash_41 : decode cX9_clash 41 = .ok (.ireturn, 1) := by decide +kernel
theorem dX9_orders_0 : decode cX9_orders 0 = .ok (.iload_n 1, 1) := by decide +kernel
theorem dX9_orders_1 : decode cX9_orders 1 = .ok (.tableswitch 65 0 2 #[27, 35, 50], 27) := by decide +kernel
theorem dX9_orders_28 : decode cX9_orders 28 = .ok (.aload_n 0, 1) := by decide +kernel
theorem dX9_orders_29 : decode cX9_orders 29 = .ok (.getfield 10, 3) := by decide +kernel
theorem dX9_orders_32 : decode cX9_orders 32 = .ok (.invokevirtual 139, 3) := by decide +kernel
theorem dX9_orders_35 : decode cX9_orders 35 = .ok (.ireturn, 1) := by decide +kernel
theorem dX9_orders_36 : decode cX9_orders 36 = .ok (.aload_n 0, 1) := by decide +kernel
theorem dX9_orders_37 : decode cX9_orders 37 = .ok (.getfield 51, 3) := by decide +kernel
theorem dX9_orders_40 : decode cX9_orders 40 = .ok (.invokevirtual 142, 3) := by decide +kernel
theorem dX9_orders_43 : decode cX9_orders 43 = .ok (.aload_n 0, 1) := by decide +kernel
theorem dX9_orders_44 : decode cX9_orders 44 = .ok (.getfield 51, 3) := by decide +kernel
theorem dX9_orders_47 : decode cX9_orders 47 = .ok (.getfield 143, 3) := by decide +kernel
theorem dX9_orders_50 : decode cX9_orders 50 = .ok (.ireturn, 1) := by decide +kernel
theorem dX9_orders_51 : decode cX9_orders 51 = .ok (.aload_n 0, 1) := by decide +kernel
theorem dX9_orders_52 : decode cX9_orders 52 = .ok (.getfield 44, 3) := by decide +kernel
theorem dX9_orders_55 : decode cX9_orders 55 = .ok (.invokevirtual 134, 3) := by decide +kernel
theorem dX9_orders_58 : decode cX9_orders 58 = .ok (.aload_n 0, 1) := by decide +kernel
theorem dX9_orders_59 : decode cX9_orders 59 = .ok (.getfield 44, 3) := by decide +kernel
theorem dX9_orders_62 : decode cX9_orders 62 = .ok (.getfield 145, 3) := by decide +kernel
theorem dX9_orders_65 : decode cX9_orders 65 = .ok (.ireturn, 1) := by decide +kernel
theorem dX9_orders_66 : decode cX9_orders 66 = .ok (.bipush (-2), 2) := by decide +kernel
theorem dX9_orders_68 : decode cX9_orders 68 = .ok (.ireturn, 1) := by decide +kernel
theorem dX9_at_0 : decode cX9_at 0 = .ok (.aload_n 0, 1) := by decide +kernel
theorem dX9_at_1 : decode cX9_at 1 = .ok (.getfield 37, 3) := by decide +kernel
theorem dX9_at_4 : decode cX9_at 4 = .ok (.invokevirtual 121, 3) := by decide +kernel
theorem dX9_at_7 : decode cX9_at 7 = .ok (.aload_n 0, 1) := by decide +kernel
theorem dX9_at_8 : decode cX9_at 8 = .ok (.getfield 37, 3) := by decide +kernel
theorem dX9_at_11 : decode cX9_at 11 = .ok (.getfield 124, 3) := by decide +kernel
theorem dX9_at_14 : decode cX9_at 14 = .ok (.ifCond .ne 8, 3) := by decide +kernel
theorem dX9_at_17 : decode cX9_at 17 = .ok (.bipush (-6), 2) := by decide +kernel
theorem dX9_at_19 : decode cX9_at 19 = .ok (.goto 15, 3) := by decide +kernel
theorem dX9_at_22 : decode cX9_at 22 = .ok (.aload_n 0, 1) := by decide +kernel
theorem dX9_at_23 : decode cX9_at 23 = .ok (.aload_n 0, 1) := by decide +kernel
theorem dX9_at_24 : decode cX9_at 24 = .ok (.getfield 37, 3) := by decide +kernel
theorem dX9_at_27 : decode cX9_at 27 = .ok (.getfield 146, 3) := by decide +kernel
theorem dX9_at_30 : decode cX9_at 30 = .ok (.iload_n 1, 1) := by decide +kernel
theorem dX9_at_31 : decode cX9_at 31 = .ok (.invokevirtual 130, 3) := by decide +kernel
theorem dX9_at_34 : decode cX9_at 34 = .ok (.ireturn, 1) := by decide +kernel
theorem dX9_rule_0 : decode cX9_rule 0 = .ok (.iload_n 1, 1) := by decide +kernel
theorem dX9_rule_1 : decode cX9_rule 1 = .ok (.iconst (-1), 1) := by decide +kernel
theorem dX9_rule_2 : decode cX9_rule 2 = .ok (.if_icmp .ge 6, 3) := by decide +kernel
