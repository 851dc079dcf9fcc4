theorem dX10_init_0 : decode cX10_init 0 = .ok (.aload_n 0, 1) := by decide +kernel
theorem dX10_init_1 : decode cX10_init 1 = .ok (.invokespecial 1, 3) := by decide +kernel
theorem dX10_init_4 : decode cX10_init 4 = .ok (.aload_n 0, 1) := by decide +kernel
theorem dX10_init_5 : decode cX10_init 5 = .ok (.bipush 18, 2) := by decide +kernel
theorem dX10_init_7 : decode cX10_init 7 = .ok (.newarray .int, 2) := by decide +kernel
theorem dX10_init_9 : decode cX10_init 9 = .ok (.putfield 7, 3) := by decide +kernel
theorem dX10_init_12 : decode cX10_init 12 = .ok (.aload_n 0, 1) := by decide +kernel
theorem dX10_init_13 : decode cX10_init 13 = .ok (.bipush 36, 2) := by decide +kernel
theorem dX10_init_15 : decode cX10_init 15 = .ok (.newarray .int, 2) := by decide +kernel
theorem dX10_init_17 : decode cX10_init 17 = .ok (.putfield 13, 3) := by decide +kernel
theorem dX10_init_20 : decode cX10_init 20 = .ok (.aload_n 0, 1) := by decide +kernel
theorem dX10_init_21 : decode cX10_init 21 = .ok (.iconst 2, 1) := by decide +kernel
theorem dX10_init_22 : decode cX10_init 22 = .ok (.newarray .boolean, 2) := by decide +kernel
theorem dX10_init_24 : decode cX10_init 24 = .ok (.putfield 16, 3) := by decide +kernel
theorem dX10_init_27 : decode cX10_init 27 = .ok (.aload_n 0, 1) := by decide +kernel
theorem dX10_init_28 : decode cX10_init 28 = .ok (.bipush 9, 2) := by decide +kernel
theorem dX10_init_30 : decode cX10_init 30 = .ok (.newarray .int, 2) := by decide +kernel
theorem dX10_init_32 : decode cX10_init 32 = .ok (.putfield 20, 3) := by decide +kernel
theorem dX10_init_35 : decode cX10_init 35 = .ok (.aload_n 0, 1) := by decide +kernel
theorem dX10_init_36 : decode cX10_init 36 = .ok (.bipush 9, 2) := by decide +kernel
theorem dX10_init_38 : decode cX10_init 38 = .ok (.newarray .int, 2) := by decide +kernel
theorem dX10_init_40 : decode cX10_init 40 = .ok (.putfield 23, 3) := by decide +kernel
theorem dX10_init_43 : decode cX10_init 43 = .ok (.aload_n 0, 1) := by decide +kernel
theorem dX10_init_44 : decode cX10_init 44 = .ok (.bipush 9, 2) := by decide +kernel
theorem dX10_init_46 : decode cX10_init 46 = .ok (.newarray .int, 2) := by decide +kernel
theorem dX10_init_48 : decode cX10_init 48 = .ok (.putfield 26, 3) := by decide +kernel
theorem dX10_init_51 : decode cX10_init 51 = .ok (.aload_n 0, 1) := by decide +kernel
theorem dX10_init_52 : decode cX10_init 52 = .ok (.bipush 9, 2) := by decide +kernel
theorem dX10_init_54 : decode cX10_init 54 = .ok (.newarray .int, 2) := by decide +kernel
theorem dX10_init_56 : decode cX10_init 56 = .ok (.putfield 29, 3) := by decide +kernel
theorem dX10_init_59 : decode cX10_init 59 = .ok (.aload_n 0, 1) := by decide +kernel
theorem dX10_init_60 : decode cX10_init 60 = .ok (.iconst 5, 1) := by decide +kernel
theorem dX10_init_61 : decode cX10_init 61 = .ok (.newarray .int, 2) := by decide +kernel
theorem dX10_init_63 : decode cX10_init 63 = .ok (.putfield 32, 3) := by decide +kernel
theorem dX10_init_66 : decode cX10_init 66 = .ok (.aload_n 0, 1) := by decide +kernel
theorem dX10_init_67 : decode cX10_init 67 = .ok (.bipush 9, 2) := by decide +kernel
theorem dX10_init_69 : decode cX10_init 69 = .ok (.newarray .int, 2) := by decide +kernel
theorem dX10_init_71 : decode cX10_init 71 = .ok (.putfield 35, 3) := by decide +kernel
theorem dX10_init_74 : decode cX10_init 74 = .ok (.iconst 0, 1) := by decide +kernel
theorem dX10_init_75 : decode cX10_init 75 = .ok (.istore_n 1, 1) := by decide +kernel
theorem dX10_init_76 : decode cX10_init 76 = .ok (.iload_n 1, 1) := by decide +kernel
theorem dX10_init_77 : decode cX10_init 77 = .ok (.iconst 4, 1) := by decide +kernel
theorem dX10_init_78 : decode cX10_init 78 = .ok (.if_icmp .ge 27, 3) := by decide +kernel
theorem dX10_init_81 : decode cX10_init 81 = .ok (.aload_n 0, 1) := by decide +kernel
theorem dX10_init_82 : decode cX10_init 82 = .ok (.getfield 7, 3) := by decide +kernel
theorem dX10_init_85 : decode cX10_init 85 = .ok (.iconst 0, 1) := by decide +kernel
theorem dX10_init_86 : decode cX10_init 86 = .ok (.iload_n 1, 1) := by decide +kernel
theorem dX10_init_87 : decode cX10_init 87 = .ok (.iadd, 1) := by decide +kernel
theorem dX10_init_88 : decode cX10_init 88 = .ok (.iconst 1, 1) := by decide +kernel
theorem dX10_init_89 : decode cX10_init 89 = .ok (.iastore, 1) := by decide +kernel
theorem dX10_init_90 : decode cX10_init 90 = .ok (.aload_n 0, 1) := by decide +kernel
theorem dX10_init_91 : decode cX10_init 91 = .ok (.getfield 7, 3) := by decide +kernel
theorem dX10_init_94 : decode cX10_init 94 = .ok (.iconst 4, 1) := by decide +kernel
theorem dX10_init_95 : decode cX10_init 95 = .ok (.iload_n 1, 1) := by decide +kernel
theorem dX10_init_96 : decode cX10_init 96 = .ok (.iadd, 1) := by decide +kernel
theorem dX10_init_97 : decode cX10_init 97 = .ok (.iconst 2, 1) := by decide +kernel
theorem dX10_init_98 : decode cX10_init 98 = .ok (.iastore, 1) := by decide +kernel
theorem dX10_init_99 : decode cX10_init 99 = .ok (.iinc 1 1, 3) := by decide +kernel
theorem dX10_init_102 : decode cX10_init 102 = .ok (.goto (-26), 3) := by decide +kernel
theorem dX10_init_105 : decode cX10_init 105 = .ok (.return_, 1) := by decide +kernel
theorem dX10_in_0 : decode cX10_in 0 = .ok (.iload_n 0, 1) := by decide +kernel
theorem dX10_in_1 : decode cX10_in 1 = .ok (.iload_n 1, 1) := by decide +kernel
theorem dX10_in_2 : decode cX10_in 2 = .ok (.if_icmp .lt 12, 3) := by decide +kernel
theorem dX10_in_5 : decode cX10_in 5 = .ok (.iload_n 0, 1) := by decide +kernel
theorem dX10_in_6 : decode cX10_in 6 = .ok (.iload_n 2, 1) := by decide +kernel
theorem dX10_in_7 : decode cX10_in 7 = .ok (.if_icmp .gt 7, 3) := by decide +kernel
theorem dX10_in_10 : decode cX10_in 10 = .ok (.iconst 1, 1) := by decide +kernel
theorem dX10_in_11 : decode cX10_in 11 = .ok (.goto 4, 3) := by decide +kernel
theorem dX10_in_14 : decode cX10_in 14 = .ok (.iconst 0, 1) := by decide +kernel
theorem dX10_in_15 : decode cX10_in 15 = .ok (.ireturn, 1) := by decide +kernel
theorem dX10_isOption_0 : decode cX10_isOption 0 = .ok (.iload_n 0, 1) := by decide +kernel
theorem dX10_isOption_1 : decode cX10_isOption 1 = .ok (.iconst 0, 1) := by decide +kernel
theorem dX10_isOption_2 : decode cX10_isOption 2 = .ok (.iconst 3, 1) := by decide +kernel
theorem dX10_isOption_3 : decode cX10_isOption 3 = .ok (.invokestatic 38, 3) := by decide +kernel
theorem dX10_isOption_6 : decode cX10_isOption 6 = .ok (.ireturn, 1) := by decide +kernel
theorem dX10_isClass_0 : decode cX10_isClass 0 = .ok (.iload_n 0, 1) := by decide +kernel
theorem dX10_isClass_1 : decode cX10_isClass 1 = .ok (.iconst 0, 1) := by decide +kernel
theorem dX10_isClass_2 : decode cX10_isClass 2 = .ok (.iconst 4, 1) := by decide +kernel
theorem dX10_isClass_3 : decode cX10_isClass 3 = .ok (.invokestatic 38, 3) := by decide +kernel
theorem dX10_isClass_6 : decode cX10_isClass 6 = .ok (.ireturn, 1) := by decide +kernel
theorem dX10_has_0 : decode cX10_has 0 = .ok (.aload_n 0, 1) := by decide +kernel
theorem dX10_has_1 : decode cX10_has 1 = .ok (.getfield 7, 3) := by decide +kernel
theorem dX10_has_4 : decode cX10_has 4 = .ok (.bipush 8, 2) := by decide +kernel
theorem dX10_has_6 : decode cX10_has 6 = .ok (.iload_n 1, 1) := by decide +kernel
theorem dX10_has_7 : decode cX10_has 7 = .ok (.iadd, 1) := by decide +kernel
theorem dX10_has_8 : decode cX10_has 8 = .ok (.iaload, 1) := by decide +kernel
theorem dX10_has_9 : decode cX10_has 9 = .ok (.iload_n 2, 1) := by decide +kernel
theorem dX10_has_10 : decode cX10_has 10 = .ok (.ishr, 1) := by decide +kernel
theorem dX10_has_11 : decode cX10_has 11 = .ok (.iconst 1, 1) := by decide +kernel
theorem dX10_has_12 : decode cX10_has 12 = .ok (.iand, 1) := by decide +kernel
theorem dX10_has_13 : decode cX10_has 13 = .ok (.iconst 1, 1) := by decide +kernel
theorem dX10_has_14 : decode cX10_has 14 = .ok (.if_icmp .ne 7, 3) := by decide +kernel
theorem dX10_has_17 : decode cX10_has 17 = .ok (.iconst 1, 1) := by decide +kernel
theorem dX10_has_18 : decode cX10_has 18 = .ok (.goto 4, 3) := by decide +kernel
theorem dX10_has_21 : decode cX10_has 21 = .ok (.iconst 0, 1) := by decide +kernel
theorem dX10_has_22 : decode cX10_has 22 = .ok (.ireturn, 1) := by decide +kernel
theorem dX10_cars_0 : decode cX10_cars 0 = .ok (.iconst 0, 1) := by decide +kernel
theorem dX10_cars_1 : decode cX10_cars 1 = .ok (.istore_n 1, 1) := by decide +kernel
theorem dX10_cars_2 : decode cX10_cars 2 = .ok (.iconst 0, 1) := by decide +kernel
theorem dX10_cars_3 : decode cX10_cars 3 = .ok (.istore_n 2, 1) := by decide +kernel
theorem dX10_cars_4 : decode cX10_cars 4 = .ok (.iload_n 2, 1) := by decide +kernel
theorem dX10_cars_5 : decode cX10_cars 5 = .ok (.iconst 5, 1) := by decide +kernel
theorem dX10_cars_6 : decode cX10_cars 6 = .ok (.if_icmp .ge 21, 3) := by decide +kernel
theorem dX10_cars_9 : decode cX10_cars 9 = .ok (.iload_n 1, 1) := by decide +kernel
theorem dX10_cars_10 : decode cX10_cars 10 = .ok (.aload_n 0, 1) := by decide +kernel
theorem dX10_cars_11 : decode cX10_cars 11 = .ok (.getfield 7, 3) := by decide +kernel
theorem dX10_cars_14 : decode cX10_cars 14 = .ok (.bipush 13, 2) := by decide +kernel
theorem dX10_cars_16 : decode cX10_cars 16 = .ok (.iload_n 2, 1) := by decide +kernel
theorem dX10_cars_17 : decode cX10_cars 17 = .ok (.iadd, 1) := by decide +kernel
theorem dX10_cars_18 : decode cX10_cars 18 = .ok (.iaload, 1) := by decide +kernel
theorem dX10_cars_19 : decode cX10_cars 19 = .ok (.iadd, 1) := by decide +kernel
theorem dX10_cars_20 : decode cX10_cars 20 = .ok (.istore_n 1, 1) := by decide +kernel
theorem dX10_cars_21 : decode cX10_cars 21 = .ok (.iinc 2 1, 3) := by decide +kernel
theorem dX10_cars_24 : decode cX10_cars 24 = .ok (.goto (-20), 3) := by decide +kernel
theorem dX10_cars_27 : decode cX10_cars 27 = .ok (.iload_n 1, 1) := by decide +kernel
theorem dX10_cars_28 : decode cX10_cars 28 = .ok (.ireturn, 1) := by decide +kernel
theorem dX10_option_0 : decode cX10_option 0 = .ok (.iload_n 1, 1) := by decide +kernel
theorem dX10_option_1 : decode cX10_option 1 = .ok (.invokestatic 42, 3) := by decide +kernel
theorem dX10_option_4 : decode cX10_option 4 = .ok (.ifCond .ne 5, 3) := by decide +kernel
theorem dX10_option_7 : decode cX10_option 7 = .ok (.iconst (-1), 1) := by decide +kernel
theorem dX10_option_8 : decode cX10_option 8 = .ok (.ireturn, 1) := by decide +kernel
theorem dX10_option_9 : decode cX10_option 9 = .ok (.iload_n 3, 1) := by decide +kernel
theorem dX10_option_10 : decode cX10_option 10 = .ok (.iconst 1, 1) := by decide +kernel
theorem dX10_option_11 : decode cX10_option 11 = .ok (.iconst 5, 1) := by decide +kernel
theorem dX10_option_12 : decode cX10_option 12 = .ok (.invokestatic 38, 3) := by decide +kernel
theorem dX10_option_15 : decode cX10_option 15 = .ok (.ifCond .eq 12, 3) := by decide +kernel
theorem dX10_option_18 : decode cX10_option 18 = .ok (.iload_n 2, 1) := by decide +kernel
theorem dX10_option_19 : decode cX10_option 19 = .ok (.iconst 1, 1) := by decide +kernel
theorem dX10_option_20 : decode cX10_option 20 = .ok (.iload_n 3, 1) := by decide +kernel
theorem dX10_option_21 : decode cX10_option 21 = .ok (.invokestatic 38, 3) := by decide +kernel
theorem dX10_option_24 : decode cX10_option 24 = .ok (.ifCond .ne 6, 3) := by decide +kernel
theorem dX10_option_27 : decode cX10_option 27 = .ok (.bipush (-2), 2) := by decide +kernel
theorem dX10_option_29 : decode cX10_option 29 = .ok (.ireturn, 1) := by decide +kernel
theorem dX10_option_30 : decode cX10_option 30 = .ok (.bipush 10, 2) := by decide +kernel
theorem dX10_option_32 : decode cX10_option 32 = .ok (.aload_n 0, 1) := by decide +kernel
theorem dX10_option_33 : decode cX10_option 33 = .ok (.getfield 7, 3) := by decide +kernel
theorem dX10_option_36 : decode cX10_option 36 = .ok (.iconst 0, 1) := by decide +kernel
theorem dX10_option_37 : decode cX10_option 37 = .ok (.iload_n 1, 1) := by decide +kernel
theorem dX10_option_38 : decode cX10_option 38 = .ok (.iadd, 1) := by decide +kernel
theorem dX10_option_39 : decode cX10_option 39 = .ok (.iaload, 1) := by decide +kernel
theorem dX10_option_40 : decode cX10_option 40 = .ok (.imul, 1) := by decide +kernel
theorem dX10_option_41 : decode cX10_option 41 = .ok (.aload_n 0, 1) := by decide +kernel
theorem dX10_option_42 : decode cX10_option 42 = .ok (.getfield 7, 3) := by decide +kernel
theorem dX10_option_45 : decode cX10_option 45 = .ok (.iconst 4, 1) := by decide +kernel
theorem dX10_option_46 : decode cX10_option 46 = .ok (.iload_n 1, 1) := by decide +kernel
theorem dX10_option_47 : decode cX10_option 47 = .ok (.iadd, 1) := by decide +kernel
theorem dX10_option_48 : decode cX10_option 48 = .ok (.iaload, 1) := by decide +kernel
theorem dX10_option_49 : decode cX10_option 49 = .ok (.iadd, 1) := by decide +kernel
theorem dX10_option_50 : decode cX10_option 50 = .ok (.istore 4, 2) := by decide +kernel
theorem dX10_option_52 : decode cX10_option 52 = .ok (.aload_n 0, 1) := by decide +kernel
theorem dX10_option_53 : decode cX10_option 53 = .ok (.getfield 7, 3) := by decide +kernel
theorem dX10_option_56 : decode cX10_option 56 = .ok (.iconst 0, 1) := by decide +kernel
theorem dX10_option_57 : decode cX10_option 57 = .ok (.iload_n 1, 1) := by decide +kernel
theorem dX10_option_58 : decode cX10_option 58 = .ok (.iadd, 1) := by decide +kernel
theorem dX10_option_59 : decode cX10_option 59 = .ok (.iload_n 2, 1) := by decide +kernel
theorem dX10_option_60 : decode cX10_option 60 = .ok (.iastore, 1) := by decide +kernel
theorem dX10_option_61 : decode cX10_option 61 = .ok (.aload_n 0, 1) := by decide +kernel
theorem dX10_option_62 : decode cX10_option 62 = .ok (.getfield 7, 3) := by decide +kernel
theorem dX10_option_65 : decode cX10_option 65 = .ok (.iconst 4, 1) := by decide +kernel
theorem dX10_option_66 : decode cX10_option 66 = .ok (.iload_n 1, 1) := by decide +kernel
theorem dX10_option_67 : decode cX10_option 67 = .ok (.iadd, 1) := by decide +kernel
theorem dX10_option_68 : decode cX10_option 68 = .ok (.iload_n 3, 1) := by decide +kernel
theorem dX10_option_69 : decode cX10_option 69 = .ok (.iastore, 1) := by decide +kernel
theorem dX10_option_70 : decode cX10_option 70 = .ok (.iload 4, 2) := by decide +kernel
theorem dX10_option_72 : decode cX10_option 72 = .ok (.ireturn, 1) := by decide +kernel
theorem dX10_options_0 : decode cX10_options 0 = .ok (.iload_n 1, 1) := by decide +kernel
theorem dX10_options_1 : decode cX10_options 1 = .ok (.invokestatic 46, 3) := by decide +kernel
theorem dX10_options_4 : decode cX10_options 4 = .ok (.ifCond .ne 5, 3) := by decide +kernel
theorem dX10_options_7 : decode cX10_options 7 = .ok (.iconst (-1), 1) := by decide +kernel
theorem dX10_options_8 : decode cX10_options 8 = .ok (.ireturn, 1) := by decide +kernel
theorem dX10_options_9 : decode cX10_options 9 = .ok (.iload_n 2, 1) := by decide +kernel
theorem dX10_options_10 : decode cX10_options 10 = .ok (.iconst 0, 1) := by decide +kernel
theorem dX10_options_11 : decode cX10_options 11 = .ok (.bipush 15, 2) := by decide +kernel
theorem dX10_options_13 : decode cX10_options 13 = .ok (.invokestatic 38, 3) := by decide +kernel
theorem dX10_options_16 : decode cX10_options 16 = .ok (.ifCond .ne 6, 3) := by decide +kernel
theorem dX10_options_19 : decode cX10_options 19 = .ok (.bipush (-2), 2) := by decide +kernel
theorem dX10_options_21 : decode cX10_options 21 = .ok (.ireturn, 1) := by decide +kernel
theorem dX10_options_22 : decode cX10_options 22 = .ok (.aload_n 0, 1) := by decide +kernel
theorem dX10_options_23 : decode cX10_options 23 = .ok (.getfield 7, 3) := by decide +kernel
theorem dX10_options_26 : decode cX10_options 26 = .ok (.bipush 8, 2) := by decide +kernel
theorem dX10_options_28 : decode cX10_options 28 = .ok (.iload_n 1, 1) := by decide +kernel
theorem dX10_options_29 : decode cX10_options 29 = .ok (.iadd, 1) := by decide +kernel
theorem dX10_options_30 : decode cX10_options 30 = .ok (.iaload, 1) := by decide +kernel
theorem dX10_options_31 : decode cX10_options 31 = .ok (.istore_n 3, 1) := by decide +kernel
theorem dX10_options_32 : decode cX10_options 32 = .ok (.aload_n 0, 1) := by decide +kernel
theorem dX10_options_33 : decode cX10_options 33 = .ok (.getfield 7, 3) := by decide +kernel
theorem dX10_options_36 : decode cX10_options 36 = .ok (.bipush 8, 2) := by decide +kernel
theorem dX10_options_38 : decode cX10_options 38 = .ok (.iload_n 1, 1) := by decide +kernel
theorem dX10_options_39 : decode cX10_options 39 = .ok (.iadd, 1) := by decide +kernel
theorem dX10_options_40 : decode cX10_options 40 = .ok (.iload_n 2, 1) := by decide +kernel
theorem dX10_options_41 : decode cX10_options 41 = .ok (.iastore, 1) := by decide +kernel
theorem dX10_options_42 : decode cX10_options 42 = .ok (.iload_n 3, 1) := by decide +kernel
theorem dX10_options_43 : decode cX10_options 43 = .ok (.ireturn, 1) := by decide +kernel
theorem dX10_demand_0 : decode cX10_demand 0 = .ok (.iload_n 1, 1) := by decide +kernel
theorem dX10_demand_1 : decode cX10_demand 1 = .ok (.invokestatic 46, 3) := by decide +kernel
theorem dX10_demand_4 : decode cX10_demand 4 = .ok (.ifCond .ne 5, 3) := by decide +kernel
theorem dX10_demand_7 : decode cX10_demand 7 = .ok (.iconst (-1), 1) := by decide +kernel
theorem dX10_demand_8 : decode cX10_demand 8 = .ok (.ireturn, 1) := by decide +kernel
theorem dX10_demand_9 : decode cX10_demand 9 = .ok (.iload_n 2, 1) := by decide +kernel
theorem dX10_demand_10 : decode cX10_demand 10 = .ok (.iconst 0, 1) := by decide +kernel
theorem dX10_demand_11 : decode cX10_demand 11 = .ok (.bipush 9, 2) := by decide +kernel
theorem dX10_demand_13 : decode cX10_demand 13 = .ok (.invokestatic 38, 3) := by decide +kernel
theorem dX10_demand_16 : decode cX10_demand 16 = .ok (.ifCond .ne 6, 3) := by decide +kernel
theorem dX10_demand_19 : decode cX10_demand 19 = .ok (.bipush (-2), 2) := by decide +kernel
theorem dX10_demand_21 : decode cX10_demand 21 = .ok (.ireturn, 1) := by decide +kernel
theorem dX10_demand_22 : decode cX10_demand 22 = .ok (.aload_n 0, 1) := by decide +kernel
theorem dX10_demand_23 : decode cX10_demand 23 = .ok (.invokevirtual 49, 3) := by decide +kernel
theorem dX10_demand_26 : decode cX10_demand 26 = .ok (.aload_n 0, 1) := by decide +kernel
theorem dX10_demand_27 : decode cX10_demand 27 = .ok (.getfield 7, 3) := by decide +kernel
theorem dX10_demand_30 : decode cX10_demand 30 = .ok (.bipush 13, 2) := by decide +kernel
theorem dX10_demand_32 : decode cX10_demand 32 = .ok (.iload_n 1, 1) := by decide +kernel
theorem dX10_demand_33 : decode cX10_demand 33 = .ok (.iadd, 1) := by decide +kernel
theorem dX10_demand_34 : decode cX10_demand 34 = .ok (.iaload, 1) := by decide +kernel
theorem dX10_demand_35 : decode cX10_demand 35 = .ok (.isub, 1) := by decide +kernel
theorem dX10_demand_36 : decode cX10_demand 36 = .ok (.iload_n 2, 1) := by decide +kernel
theorem dX10_demand_37 : decode cX10_demand 37 = .ok (.iadd, 1) := by decide +kernel
theorem dX10_demand_38 : decode cX10_demand 38 = .ok (.bipush 9, 2) := by decide +kernel
theorem dX10_demand_40 : decode cX10_demand 40 = .ok (.if_icmp .le 6, 3) := by decide +kernel
theorem dX10_demand_43 : decode cX10_demand 43 = .ok (.bipush (-4), 2) := by decide +kernel
theorem dX10_demand_45 : decode cX10_demand 45 = .ok (.ireturn, 1) := by decide +kernel
theorem dX10_demand_46 : decode cX10_demand 46 = .ok (.aload_n 0, 1) := by decide +kernel
theorem dX10_demand_47 : decode cX10_demand 47 = .ok (.getfield 7, 3) := by decide +kernel
theorem dX10_demand_50 : decode cX10_demand 50 = .ok (.bipush 13, 2) := by decide +kernel
theorem dX10_demand_52 : decode cX10_demand 52 = .ok (.iload_n 1, 1) := by decide +kernel
theorem dX10_demand_53 : decode cX10_demand 53 = .ok (.iadd, 1) := by decide +kernel
theorem dX10_demand_54 : decode cX10_demand 54 = .ok (.iload_n 2, 1) := by decide +kernel
theorem dX10_demand_55 : decode cX10_demand 55 = .ok (.iastore, 1) := by decide +kernel
theorem dX10_demand_56 : decode cX10_demand 56 = .ok (.aload_n 0, 1) := by decide +kernel
theorem dX10_demand_57 : decode cX10_demand 57 = .ok (.invokevirtual 49, 3) := by decide +kernel
theorem dX10_demand_60 : decode cX10_demand 60 = .ok (.ireturn, 1) := by decide +kernel
theorem dX10_told_0 : decode cX10_told 0 = .ok (.iload_n 1, 1) := by decide +kernel
theorem dX10_told_1 : decode cX10_told 1 = .ok (.invokestatic 46, 3) := by decide +kernel
theorem dX10_told_4 : decode cX10_told 4 = .ok (.ifCond .ne 5, 3) := by decide +kernel
theorem dX10_told_7 : decode cX10_told 7 = .ok (.iconst (-1), 1) := by decide +kernel
theorem dX10_told_8 : decode cX10_told 8 = .ok (.ireturn, 1) := by decide +kernel
theorem dX10_told_9 : decode cX10_told 9 = .ok (.iload_n 2, 1) := by decide +kernel
theorem dX10_told_10 : decode cX10_told 10 = .ok (.ifCond .ne 15, 3) := by decide +kernel
theorem dX10_told_13 : decode cX10_told 13 = .ok (.aload_n 0, 1) := by decide +kernel
theorem dX10_told_14 : decode cX10_told 14 = .ok (.getfield 7, 3) := by decide +kernel
theorem dX10_told_17 : decode cX10_told 17 = .ok (.bipush 8, 2) := by decide +kernel
theorem dX10_told_19 : decode cX10_told 19 = .ok (.iload_n 1, 1) := by decide +kernel
theorem dX10_told_20 : decode cX10_told 20 = .ok (.iadd, 1) := by decide +kernel
theorem dX10_told_21 : decode cX10_told 21 = .ok (.iaload, 1) := by decide +kernel
theorem dX10_told_22 : decode cX10_told 22 = .ok (.goto 22, 3) := by decide +kernel
theorem dX10_told_25 : decode cX10_told 25 = .ok (.iload_n 2, 1) := by decide +kernel
theorem dX10_told_26 : decode cX10_told 26 = .ok (.iconst 1, 1) := by decide +kernel
theorem dX10_told_27 : decode cX10_told 27 = .ok (.if_icmp .ne 15, 3) := by decide +kernel
theorem dX10_told_30 : decode cX10_told 30 = .ok (.aload_n 0, 1) := by decide +kernel
theorem dX10_told_31 : decode cX10_told 31 = .ok (.getfield 7, 3) := by decide +kernel
theorem dX10_told_34 : decode cX10_told 34 = .ok (.bipush 13, 2) := by decide +kernel
theorem dX10_told_36 : decode cX10_told 36 = .ok (.iload_n 1, 1) := by decide +kernel
theorem dX10_told_37 : decode cX10_told 37 = .ok (.iadd, 1) := by decide +kernel
theorem dX10_told_38 : decode cX10_told 38 = .ok (.iaload, 1) := by decide +kernel
theorem dX10_told_39 : decode cX10_told 39 = .ok (.goto 5, 3) := by decide +kernel
theorem dX10_told_42 : decode cX10_told 42 = .ok (.bipush (-2), 2) := by decide +kernel
theorem dX10_told_44 : decode cX10_told 44 = .ok (.ireturn, 1) := by decide +kernel
theorem dX10_wanted_0 : decode cX10_wanted 0 = .ok (.iconst 0, 1) := by decide +kernel
theorem dX10_wanted_1 : decode cX10_wanted 1 = .ok (.istore_n 2, 1) := by decide +kernel
theorem dX10_wanted_2 : decode cX10_wanted 2 = .ok (.iconst 0, 1) := by decide +kernel
theorem dX10_wanted_3 : decode cX10_wanted 3 = .ok (.istore_n 3, 1) := by decide +kernel
theorem dX10_wanted_4 : decode cX10_wanted 4 = .ok (.iload_n 3, 1) := by decide +kernel
theorem dX10_wanted_5 : decode cX10_wanted 5 = .ok (.iconst 5, 1) := by decide +kernel
theorem dX10_wanted_6 : decode cX10_wanted 6 = .ok (.if_icmp .ge 34, 3) := by decide +kernel
theorem dX10_wanted_9 : decode cX10_wanted 9 = .ok (.iload_n 2, 1) := by decide +kernel
theorem dX10_wanted_10 : decode cX10_wanted 10 = .ok (.aload_n 0, 1) := by decide +kernel
theorem dX10_wanted_11 : decode cX10_wanted 11 = .ok (.iload_n 3, 1) := by decide +kernel
theorem dX10_wanted_12 : decode cX10_wanted 12 = .ok (.iload_n 1, 1) := by decide +kernel
theorem dX10_wanted_13 : decode cX10_wanted 13 = .ok (.invokevirtual 53, 3) := by decide +kernel
theorem dX10_wanted_16 : decode cX10_wanted 16 = .ok (.ifCond .eq 15, 3) := by decide +kernel
theorem dX10_wanted_19 : decode cX10_wanted 19 = .ok (.aload_n 0, 1) := by decide +kernel
theorem dX10_wanted_20 : decode cX10_wanted 20 = .ok (.getfield 7, 3) := by decide +kernel
theorem dX10_wanted_23 : decode cX10_wanted 23 = .ok (.bipush 13, 2) := by decide +kernel
theorem dX10_wanted_25 : decode cX10_wanted 25 = .ok (.iload_n 3, 1) := by decide +kernel
theorem dX10_wanted_26 : decode cX10_wanted 26 = .ok (.iadd, 1) := by decide +kernel
theorem dX10_wanted_27 : decode cX10_wanted 27 = .ok (.iaload, 1) := by decide +kernel
theorem dX10_wanted_28 : decode cX10_wanted 28 = .ok (.goto 4, 3) := by decide +kernel
theorem dX10_wanted_31 : decode cX10_wanted 31 = .ok (.iconst 0, 1) := by decide +kernel
theorem dX10_wanted_32 : decode cX10_wanted 32 = .ok (.iadd, 1) := by decide +kernel
theorem dX10_wanted_33 : decode cX10_wanted 33 = .ok (.istore_n 2, 1) := by decide +kernel
theorem dX10_wanted_34 : decode cX10_wanted 34 = .ok (.iinc 3 1, 3) := by decide +kernel
theorem dX10_wanted_37 : decode cX10_wanted 37 = .ok (.goto (-33), 3) := by decide +kernel
theorem dX10_wanted_40 : decode cX10_wanted 40 = .ok (.iload_n 2, 1) := by decide +kernel
theorem dX10_wanted_41 : decode cX10_wanted 41 = .ok (.ireturn, 1) := by decide +kernel
theorem dX10_less_0 : decode cX10_less 0 = .ok (.iload_n 0, 1) := by decide +kernel
theorem dX10_less_1 : decode cX10_less 1 = .ok (.iload_n 1, 1) := by decide +kernel
theorem dX10_less_2 : decode cX10_less 2 = .ok (.if_icmp .ge 7, 3) := by decide +kernel
theorem dX10_less_5 : decode cX10_less 5 = .ok (.iload_n 0, 1) := by decide +kernel
theorem dX10_less_6 : decode cX10_less 6 = .ok (.goto 4, 3) := by decide +kernel
theorem dX10_less_9 : decode cX10_less 9 = .ok (.iload_n 1, 1) := by decide +kernel
theorem dX10_less_10 : decode cX10_less 10 = .ok (.ireturn, 1) := by decide +kernel
theorem dX10_room_0 : decode cX10_room 0 = .ok (.aload_n 0, 1) := by decide +kernel
theorem dX10_room_1 : decode cX10_room 1 = .ok (.getfield 7, 3) := by decide +kernel
theorem dX10_room_4 : decode cX10_room 4 = .ok (.iconst 0, 1) := by decide +kernel
theorem dX10_room_5 : decode cX10_room 5 = .ok (.iload_n 1, 1) := by decide +kernel
theorem dX10_room_6 : decode cX10_room 6 = .ok (.iadd, 1) := by decide +kernel
theorem dX10_room_7 : decode cX10_room 7 = .ok (.iaload, 1) := by decide +kernel
theorem dX10_room_8 : decode cX10_room 8 = .ok (.istore_n 2, 1) := by decide +kernel
theorem dX10_room_9 : decode cX10_room 9 = .ok (.aload_n 0, 1) := by decide +kernel
theorem dX10_room_10 : decode cX10_room 10 = .ok (.getfield 7, 3) := by decide +kernel
theorem dX10_room_13 : decode cX10_room 13 = .ok (.iconst 4, 1) := by decide +kernel
theorem dX10_room_14 : decode cX10_room 14 = .ok (.iload_n 1, 1) := by decide +kernel
theorem dX10_room_15 : decode cX10_room 15 = .ok (.iadd, 1) := by decide +kernel
theorem dX10_room_16 : decode cX10_room 16 = .ok (.iaload, 1) := by decide +kernel
theorem dX10_room_17 : decode cX10_room 17 = .ok (.istore_n 3, 1) := by decide +kernel
theorem dX10_room_18 : decode cX10_room 18 = .ok (.iload_n 2, 1) := by decide +kernel
theorem dX10_room_19 : decode cX10_room 19 = .ok (.aload_n 0, 1) := by decide +kernel
theorem dX10_room_20 : decode cX10_room 20 = .ok (.invokevirtual 49, 3) := by decide +kernel
theorem dX10_room_23 : decode cX10_room 23 = .ok (.iload_n 3, 1) := by decide +kernel
theorem dX10_room_24 : decode cX10_room 24 = .ok (.idiv, 1) := by decide +kernel
theorem dX10_room_25 : decode cX10_room 25 = .ok (.imul, 1) := by decide +kernel
theorem dX10_room_26 : decode cX10_room 26 = .ok (.iload_n 2, 1) := by decide +kernel
theorem dX10_room_27 : decode cX10_room 27 = .ok (.aload_n 0, 1) := by decide +kernel
theorem dX10_room_28 : decode cX10_room 28 = .ok (.invokevirtual 49, 3) := by decide +kernel
theorem dX10_room_31 : decode cX10_room 31 = .ok (.iload_n 3, 1) := by decide +kernel
theorem dX10_room_32 : decode cX10_room 32 = .ok (.irem, 1) := by decide +kernel
theorem dX10_room_33 : decode cX10_room 33 = .ok (.invokestatic 57, 3) := by decide +kernel
theorem dX10_room_36 : decode cX10_room 36 = .ok (.iadd, 1) := by decide +kernel
theorem dX10_room_37 : decode cX10_room 37 = .ok (.ireturn, 1) := by decide +kernel
theorem dX10_of_0 : decode cX10_of 0 = .ok (.iload_n 1, 1) := by decide +kernel
theorem dX10_of_1 : decode cX10_of 1 = .ok (.invokestatic 42, 3) := by decide +kernel
theorem dX10_of_4 : decode cX10_of 4 = .ok (.ifCond .ne 5, 3) := by decide +kernel
theorem dX10_of_7 : decode cX10_of 7 = .ok (.iconst (-1), 1) := by decide +kernel
theorem dX10_of_8 : decode cX10_of 8 = .ok (.ireturn, 1) := by decide +kernel
theorem dX10_of_9 : decode cX10_of 9 = .ok (.iload_n 2, 1) := by decide +kernel
theorem dX10_of_10 : decode cX10_of 10 = .ok (.tableswitch 60 0 3 #[30, 39, 48, 54], 30) := by decide +kernel
theorem dX10_of_40 : decode cX10_of 40 = .ok (.aload_n 0, 1) := by decide +kernel
theorem dX10_of_41 : decode cX10_of 41 = .ok (.getfield 7, 3) := by decide +kernel
theorem dX10_of_44 : decode cX10_of 44 = .ok (.iconst 0, 1) := by decide +kernel
theorem dX10_of_45 : decode cX10_of 45 = .ok (.iload_n 1, 1) := by decide +kernel
theorem dX10_of_46 : decode cX10_of 46 = .ok (.iadd, 1) := by decide +kernel
theorem dX10_of_47 : decode cX10_of 47 = .ok (.iaload, 1) := by decide +kernel
theorem dX10_of_48 : decode cX10_of 48 = .ok (.ireturn, 1) := by decide +kernel
theorem dX10_of_49 : decode cX10_of 49 = .ok (.aload_n 0, 1) := by decide +kernel
theorem dX10_of_50 : decode cX10_of 50 = .ok (.getfield 7, 3) := by decide +kernel
theorem dX10_of_53 : decode cX10_of 53 = .ok (.iconst 4, 1) := by decide +kernel
theorem dX10_of_54 : decode cX10_of 54 = .ok (.iload_n 1, 1) := by decide +kernel
theorem dX10_of_55 : decode cX10_of 55 = .ok (.iadd, 1) := by decide +kernel
theorem dX10_of_56 : decode cX10_of 56 = .ok (.iaload, 1) := by decide +kernel
theorem dX10_of_57 : decode cX10_of 57 = .ok (.ireturn, 1) := by decide +kernel
theorem dX10_of_58 : decode cX10_of 58 = .ok (.aload_n 0, 1) := by decide +kernel
theorem dX10_of_59 : decode cX10_of 59 = .ok (.iload_n 1, 1) := by decide +kernel
theorem dX10_of_60 : decode cX10_of 60 = .ok (.invokevirtual 61, 3) := by decide +kernel
theorem dX10_of_63 : decode cX10_of 63 = .ok (.ireturn, 1) := by decide +kernel
theorem dX10_of_64 : decode cX10_of 64 = .ok (.aload_n 0, 1) := by decide +kernel
theorem dX10_of_65 : decode cX10_of 65 = .ok (.iload_n 1, 1) := by decide +kernel
theorem dX10_of_66 : decode cX10_of 66 = .ok (.invokevirtual 65, 3) := by decide +kernel
theorem dX10_of_69 : decode cX10_of 69 = .ok (.ireturn, 1) := by decide +kernel
theorem dX10_of_70 : decode cX10_of 70 = .ok (.bipush (-2), 2) := by decide +kernel
theorem dX10_of_72 : decode cX10_of 72 = .ok (.ireturn, 1) := by decide +kernel
theorem dX10_clash_0 : decode cX10_clash 0 = .ok (.iconst 0, 1) := by decide +kernel
theorem dX10_clash_1 : decode cX10_clash 1 = .ok (.istore_n 1, 1) := by decide +kernel
theorem dX10_clash_2 : decode cX10_clash 2 = .ok (.iconst 0, 1) := by decide +kernel
theorem dX10_clash_3 : decode cX10_clash 3 = .ok (.istore_n 2, 1) := by decide +kernel
theorem dX10_clash_4 : decode cX10_clash 4 = .ok (.iload_n 2, 1) := by decide +kernel
theorem dX10_clash_5 : decode cX10_clash 5 = .ok (.iconst 4, 1) := by decide +kernel
theorem dX10_clash_6 : decode cX10_clash 6 = .ok (.if_icmp .ge 32, 3) := by decide +kernel
theorem dX10_clash_9 : decode cX10_clash 9 = .ok (.iload_n 1, 1) := by decide +kernel
theorem dX10_clash_10 : decode cX10_clash 10 = .ok (.aload_n 0, 1) := by decide +kernel
theorem dX10_clash_11 : decode cX10_clash 11 = .ok (.iload_n 2, 1) := by decide +kernel
theorem dX10_clash_12 : decode cX10_clash 12 = .ok (.invokevirtual 61, 3) := by decide +kernel
theorem dX10_clash_15 : decode cX10_clash 15 = .ok (.aload_n 0, 1) := by decide +kernel
theorem dX10_clash_16 : decode cX10_clash 16 = .ok (.iload_n 2, 1) := by decide +kernel
theorem dX10_clash_17 : decode cX10_clash 17 = .ok (.invokevirtual 65, 3) := by decide +kernel
theorem dX10_clash_20 : decode cX10_clash 20 = .ok (.if_icmp .le 9, 3) := by decide +kernel
theorem dX10_clash_23 : decode cX10_clash 23 = .ok (.iconst 1, 1) := by decide +kernel
theorem dX10_clash_24 : decode cX10_clash 24 = .ok (.iload_n 2, 1) := by decide +kernel
theorem dX10_clash_25 : decode cX10_clash 25 = .ok (.ishl, 1) := by decide +kernel
theorem dX10_clash_26 : decode cX10_clash 26 = .ok (.goto 4, 3) := by decide +kernel
theorem dX10_clash_29 : decode cX10_clash 29 = .ok (.iconst 0, 1) := by decide +kernel
theorem dX10_clash_30 : decode cX10_clash 30 = .ok (.ior, 1) := by decide +kernel
theorem dX10_clash_31 : decode cX10_clash 31 = .ok (.istore_n 1, 1) := by decide +kernel
theorem dX10_clash_32 : decode cX10_clash 32 = .ok (.iinc 2 1, 3) := by decide +kernel
theorem dX10_clash_35 : decode cX10_clash 35 = .ok (.goto (-31), 3) := by decide +kernel
theorem dX10_clash_38 : decode cX10_clash 38 = .ok (.iload_n 1, 1) := by decide +kernel
theorem dX10_clash_39 : decode cX10_clash 39 = .ok (.ireturn, 1) := by decide +kernel
theorem dX10_isBreak_0 : decode cX10_isBreak 0 = .ok (.iload_n 1, 1) := by decide +kernel
theorem dX10_isBreak_1 : decode cX10_isBreak 1 = .ok (.aload_n 0, 1) := by decide +kernel
theorem dX10_isBreak_2 : decode cX10_isBreak 2 = .ok (.getfield 7, 3) := by decide +kernel
theorem dX10_isBreak_5 : decode cX10_isBreak 5 = .ok (.iconst 4, 1) := by decide +kernel
theorem dX10_isBreak_6 : decode cX10_isBreak 6 = .ok (.iload_n 2, 1) := by decide +kernel
theorem dX10_isBreak_7 : decode cX10_isBreak 7 = .ok (.iadd, 1) := by decide +kernel
theorem dX10_isBreak_8 : decode cX10_isBreak 8 = .ok (.iaload, 1) := by decide +kernel
theorem dX10_isBreak_9 : decode cX10_isBreak 9 = .ok (.isub, 1) := by decide +kernel
theorem dX10_isBreak_10 : decode cX10_isBreak 10 = .ok (.iconst 1, 1) := by decide +kernel
theorem dX10_isBreak_11 : decode cX10_isBreak 11 = .ok (.iadd, 1) := by decide +kernel
theorem dX10_isBreak_12 : decode cX10_isBreak 12 = .ok (.istore_n 3, 1) := by decide +kernel
theorem dX10_isBreak_13 : decode cX10_isBreak 13 = .ok (.iload_n 3, 1) := by decide +kernel
theorem dX10_isBreak_14 : decode cX10_isBreak 14 = .ok (.ifCond .ge 5, 3) := by decide +kernel
theorem dX10_isBreak_17 : decode cX10_isBreak 17 = .ok (.iconst 0, 1) := by decide +kernel
theorem dX10_isBreak_18 : decode cX10_isBreak 18 = .ok (.ireturn, 1) := by decide +kernel
theorem dX10_isBreak_19 : decode cX10_isBreak 19 = .ok (.iconst 0, 1) := by decide +kernel
theorem dX10_isBreak_20 : decode cX10_isBreak 20 = .ok (.istore 4, 2) := by decide +kernel
theorem dX10_isBreak_22 : decode cX10_isBreak 22 = .ok (.iload_n 3, 1) := by decide +kernel
theorem dX10_isBreak_23 : decode cX10_isBreak 23 = .ok (.istore 5, 2) := by decide +kernel
theorem dX10_isBreak_25 : decode cX10_isBreak 25 = .ok (.iload 5, 2) := by decide +kernel
theorem dX10_isBreak_27 : decode cX10_isBreak 27 = .ok (.iload_n 1, 1) := by decide +kernel
theorem dX10_isBreak_28 : decode cX10_isBreak 28 = .ok (.if_icmp .gt 34, 3) := by decide +kernel
theorem dX10_isBreak_31 : decode cX10_isBreak 31 = .ok (.iload 4, 2) := by decide +kernel
theorem dX10_isBreak_33 : decode cX10_isBreak 33 = .ok (.aload_n 0, 1) := by decide +kernel
theorem dX10_isBreak_34 : decode cX10_isBreak 34 = .ok (.aload_n 0, 1) := by decide +kernel
theorem dX10_isBreak_35 : decode cX10_isBreak 35 = .ok (.getfield 23, 3) := by decide +kernel
theorem dX10_isBreak_38 : decode cX10_isBreak 38 = .ok (.iload 5, 2) := by decide +kernel
theorem dX10_isBreak_40 : decode cX10_isBreak 40 = .ok (.iaload, 1) := by decide +kernel
theorem dX10_isBreak_41 : decode cX10_isBreak 41 = .ok (.iload_n 2, 1) := by decide +kernel
theorem dX10_isBreak_42 : decode cX10_isBreak 42 = .ok (.invokevirtual 53, 3) := by decide +kernel
theorem dX10_isBreak_45 : decode cX10_isBreak 45 = .ok (.ifCond .eq 7, 3) := by decide +kernel
theorem dX10_isBreak_48 : decode cX10_isBreak 48 = .ok (.iconst 1, 1) := by decide +kernel
theorem dX10_isBreak_49 : decode cX10_isBreak 49 = .ok (.goto 4, 3) := by decide +kernel
theorem dX10_isBreak_52 : decode cX10_isBreak 52 = .ok (.iconst 0, 1) := by decide +kernel
theorem dX10_isBreak_53 : decode cX10_isBreak 53 = .ok (.iadd, 1) := by decide +kernel
theorem dX10_isBreak_54 : decode cX10_isBreak 54 = .ok (.istore 4, 2) := by decide +kernel
theorem dX10_isBreak_56 : decode cX10_isBreak 56 = .ok (.iinc 5 1, 3) := by decide +kernel
theorem dX10_isBreak_59 : decode cX10_isBreak 59 = .ok (.goto (-34), 3) := by decide +kernel
theorem dX10_isBreak_62 : decode cX10_isBreak 62 = .ok (.iload 4, 2) := by decide +kernel
theorem dX10_isBreak_64 : decode cX10_isBreak 64 = .ok (.aload_n 0, 1) := by decide +kernel
theorem dX10_isBreak_65 : decode cX10_isBreak 65 = .ok (.getfield 7, 3) := by decide +kernel
theorem dX10_isBreak_68 : decode cX10_isBreak 68 = .ok (.iconst 0, 1) := by decide +kernel
theorem dX10_isBreak_69 : decode cX10_isBreak 69 = .ok (.iload_n 2, 1) := by decide +kernel
theorem dX10_isBreak_70 : decode cX10_isBreak 70 = .ok (.iadd, 1) := by decide +kernel
theorem dX10_isBreak_71 : decode cX10_isBreak 71 = .ok (.iaload, 1) := by decide +kernel
theorem dX10_isBreak_72 : decode cX10_isBreak 72 = .ok (.if_icmp .le 7, 3) := by decide +kernel
theorem dX10_isBreak_75 : decode cX10_isBreak 75 = .ok (.iconst 1, 1) := by decide +kernel
theorem dX10_isBreak_76 : decode cX10_isBreak 76 = .ok (.goto 4, 3) := by decide +kernel
theorem dX10_isBreak_79 : decode cX10_isBreak 79 = .ok (.iconst 0, 1) := by decide +kernel
theorem dX10_isBreak_80 : decode cX10_isBreak 80 = .ok (.ireturn, 1) := by decide +kernel
theorem dX10_breaksAt_0 : decode cX10_breaksAt 0 = .ok (.iconst 0, 1) := by decide +kernel
theorem dX10_breaksAt_1 : decode cX10_breaksAt 1 = .ok (.istore_n 2, 1) := by decide +kernel
theorem dX10_breaksAt_2 : decode cX10_breaksAt 2 = .ok (.iconst 0, 1) := by decide +kernel
theorem dX10_breaksAt_3 : decode cX10_breaksAt 3 = .ok (.istore_n 3, 1) := by decide +kernel
theorem dX10_breaksAt_4 : decode cX10_breaksAt 4 = .ok (.iload_n 3, 1) := by decide +kernel
theorem dX10_breaksAt_5 : decode cX10_breaksAt 5 = .ok (.iconst 4, 1) := by decide +kernel
theorem dX10_breaksAt_6 : decode cX10_breaksAt 6 = .ok (.if_icmp .ge 26, 3) := by decide +kernel
theorem dX10_breaksAt_9 : decode cX10_breaksAt 9 = .ok (.iload_n 2, 1) := by decide +kernel
theorem dX10_breaksAt_10 : decode cX10_breaksAt 10 = .ok (.aload_n 0, 1) := by decide +kernel
theorem dX10_breaksAt_11 : decode cX10_breaksAt 11 = .ok (.iload_n 1, 1) := by decide +kernel
theorem dX10_breaksAt_12 : decode cX10_breaksAt 12 = .ok (.iload_n 3, 1) := by decide +kernel
theorem dX10_breaksAt_13 : decode cX10_breaksAt 13 = .ok (.invokevirtual 68, 3) := by decide +kernel
theorem dX10_breaksAt_16 : decode cX10_breaksAt 16 = .ok (.ifCond .eq 7, 3) := by decide +kernel
theorem dX10_breaksAt_19 : decode cX10_breaksAt 19 = .ok (.iconst 1, 1) := by decide +kernel
theorem dX10_breaksAt_20 : decode cX10_breaksAt 20 = .ok (.goto 4, 3) := by decide +kernel
theorem dX10_breaksAt_23 : decode cX10_breaksAt 23 = .ok (.iconst 0, 1) := by decide +kernel
theorem dX10_breaksAt_24 : decode cX10_breaksAt 24 = .ok (.iadd, 1) := by decide +kernel
theorem dX10_breaksAt_25 : decode cX10_breaksAt 25 = .ok (.istore_n 2, 1) := by decide +kernel
theorem dX10_breaksAt_26 : decode cX10_breaksAt 26 = .ok (.iinc 3 1, 3) := by decide +kernel
theorem dX10_breaksAt_29 : decode cX10_breaksAt 29 = .ok (.goto (-25), 3) := by decide +kernel
theorem dX10_breaksAt_32 : decode cX10_breaksAt 32 = .ok (.iload_n 2, 1) := by decide +kernel
theorem dX10_breaksAt_33 : decode cX10_breaksAt 33 = .ok (.ireturn, 1) := by decide +kernel
theorem dX10_breaks_0 : decode cX10_breaks 0 = .ok (.iconst 0, 1) := by decide +kernel
theorem dX10_breaks_1 : decode cX10_breaks 1 = .ok (.istore_n 1, 1) := by decide +kernel
theorem dX10_breaks_2 : decode cX10_breaks 2 = .ok (.iconst 0, 1) := by decide +kernel
theorem dX10_breaks_3 : decode cX10_breaks 3 = .ok (.istore_n 2, 1) := by decide +kernel
theorem dX10_breaks_4 : decode cX10_breaks 4 = .ok (.iload_n 2, 1) := by decide +kernel
theorem dX10_breaks_5 : decode cX10_breaks 5 = .ok (.aload_n 0, 1) := by decide +kernel
theorem dX10_breaks_6 : decode cX10_breaks 6 = .ok (.getfield 71, 3) := by decide +kernel
theorem dX10_breaks_9 : decode cX10_breaks 9 = .ok (.if_icmp .ge 17, 3) := by decide +kernel
theorem dX10_breaks_12 : decode cX10_breaks 12 = .ok (.iload_n 1, 1) := by decide +kernel
theorem dX10_breaks_13 : decode cX10_breaks 13 = .ok (.aload_n 0, 1) := by decide +kernel
theorem dX10_breaks_14 : decode cX10_breaks 14 = .ok (.iload_n 2, 1) := by decide +kernel
theorem dX10_breaks_15 : decode cX10_breaks 15 = .ok (.invokevirtual 75, 3) := by decide +kernel
theorem dX10_breaks_18 : decode cX10_breaks 18 = .ok (.iadd, 1) := by decide +kernel
theorem dX10_breaks_19 : decode cX10_breaks 19 = .ok (.istore_n 1, 1) := by decide +kernel
theorem dX10_breaks_20 : decode cX10_breaks 20 = .ok (.iinc 2 1, 3) := by decide +kernel
theorem dX10_breaks_23 : decode cX10_breaks 23 = .ok (.goto (-19), 3) := by decide +kernel
theorem dX10_breaks_26 : decode cX10_breaks 26 = .ok (.iload_n 1, 1) := by decide +kernel
theorem dX10_breaks_27 : decode cX10_breaks 27 = .ok (.ireturn, 1) := by decide +kernel
theorem dX10_firstOrder_0 : decode cX10_firstOrder 0 = .ok (.aload_n 0, 1) := by decide +kernel
theorem dX10_firstOrder_1 : decode cX10_firstOrder 1 = .ok (.iconst 0, 1) := by decide +kernel
theorem dX10_firstOrder_2 : decode cX10_firstOrder 2 = .ok (.putfield 71, 3) := by decide +kernel
theorem dX10_firstOrder_5 : decode cX10_firstOrder 5 = .ok (.iconst 0, 1) := by decide +kernel
theorem dX10_firstOrder_6 : decode cX10_firstOrder 6 = .ok (.istore_n 1, 1) := by decide +kernel
theorem dX10_firstOrder_7 : decode cX10_firstOrder 7 = .ok (.iload_n 1, 1) := by decide +kernel
theorem dX10_firstOrder_8 : decode cX10_firstOrder 8 = .ok (.iconst 5, 1) := by decide +kernel
theorem dX10_firstOrder_9 : decode cX10_firstOrder 9 = .ok (.if_icmp .ge 50, 3) := by decide +kernel
theorem dX10_firstOrder_12 : decode cX10_firstOrder 12 = .ok (.iconst 0, 1) := by decide +kernel
theorem dX10_firstOrder_13 : decode cX10_firstOrder 13 = .ok (.istore_n 2, 1) := by decide +kernel
theorem dX10_firstOrder_14 : decode cX10_firstOrder 14 = .ok (.iload_n 2, 1) := by decide +kernel
theorem dX10_firstOrder_15 : decode cX10_firstOrder 15 = .ok (.aload_n 0, 1) := by decide +kernel
theorem dX10_firstOrder_16 : decode cX10_firstOrder 16 = .ok (.getfield 7, 3) := by decide +kernel
theorem dX10_firstOrder_19 : decode cX10_firstOrder 19 = .ok (.bipush 13, 2) := by decide +kernel
theorem dX10_firstOrder_21 : decode cX10_firstOrder 21 = .ok (.iload_n 1, 1) := by decide +kernel
theorem dX10_firstOrder_22 : decode cX10_firstOrder 22 = .ok (.iadd, 1) := by decide +kernel
theorem dX10_firstOrder_23 : decode cX10_firstOrder 23 = .ok (.iaload, 1) := by decide +kernel
theorem dX10_firstOrder_24 : decode cX10_firstOrder 24 = .ok (.if_icmp .ge 29, 3) := by decide +kernel
theorem dX10_firstOrder_27 : decode cX10_firstOrder 27 = .ok (.aload_n 0, 1) := by decide +kernel
theorem dX10_firstOrder_28 : decode cX10_firstOrder 28 = .ok (.getfield 23, 3) := by decide +kernel
theorem dX10_firstOrder_31 : decode cX10_firstOrder 31 = .ok (.aload_n 0, 1) := by decide +kernel
theorem dX10_firstOrder_32 : decode cX10_firstOrder 32 = .ok (.getfield 71, 3) := by decide +kernel
theorem dX10_firstOrder_35 : decode cX10_firstOrder 35 = .ok (.iload_n 1, 1) := by decide +kernel
theorem dX10_firstOrder_36 : decode cX10_firstOrder 36 = .ok (.iastore, 1) := by decide +kernel
theorem dX10_firstOrder_37 : decode cX10_firstOrder 37 = .ok (.aload_n 0, 1) := by decide +kernel
theorem dX10_firstOrder_38 : decode cX10_firstOrder 38 = .ok (.dup, 1) := by decide +kernel
theorem dX10_firstOrder_39 : decode cX10_firstOrder 39 = .ok (.getfield 71, 3) := by decide +kernel
theorem dX10_firstOrder_42 : decode cX10_firstOrder 42 = .ok (.iconst 1, 1) := by decide +kernel
theorem dX10_firstOrder_43 : decode cX10_firstOrder 43 = .ok (.iadd, 1) := by decide +kernel
theorem dX10_firstOrder_44 : decode cX10_firstOrder 44 = .ok (.putfield 71, 3) := by decide +kernel
theorem dX10_firstOrder_47 : decode cX10_firstOrder 47 = .ok (.iinc 2 1, 3) := by decide +kernel
theorem dX10_firstOrder_50 : decode cX10_firstOrder 50 = .ok (.goto (-36), 3) := by decide +kernel
theorem dX10_firstOrder_53 : decode cX10_firstOrder 53 = .ok (.iinc 1 1, 3) := by decide +kernel
theorem dX10_firstOrder_56 : decode cX10_firstOrder 56 = .ok (.goto (-49), 3) := by decide +kernel
theorem dX10_firstOrder_59 : decode cX10_firstOrder 59 = .ok (.return_, 1) := by decide +kernel
theorem dX10_swap_0 : decode cX10_swap 0 = .ok (.aload_n 0, 1) := by decide +kernel
theorem dX10_swap_1 : decode cX10_swap 1 = .ok (.getfield 23, 3) := by decide +kernel
theorem dX10_swap_4 : decode cX10_swap 4 = .ok (.iload_n 1, 1) := by decide +kernel
theorem dX10_swap_5 : decode cX10_swap 5 = .ok (.iaload, 1) := by decide +kernel
theorem dX10_swap_6 : decode cX10_swap 6 = .ok (.istore_n 3, 1) := by decide +kernel
theorem dX10_swap_7 : decode cX10_swap 7 = .ok (.aload_n 0, 1) := by decide +kernel
theorem dX10_swap_8 : decode cX10_swap 8 = .ok (.getfield 23, 3) := by decide +kernel
theorem dX10_swap_11 : decode cX10_swap 11 = .ok (.iload_n 1, 1) := by decide +kernel
theorem dX10_swap_12 : decode cX10_swap 12 = .ok (.aload_n 0, 1) := by decide +kernel
theorem dX10_swap_13 : decode cX10_swap 13 = .ok (.getfield 23, 3) := by decide +kernel
theorem dX10_swap_16 : decode cX10_swap 16 = .ok (.iload_n 2, 1) := by decide +kernel
theorem dX10_swap_17 : decode cX10_swap 17 = .ok (.iaload, 1) := by decide +kernel
theorem dX10_swap_18 : decode cX10_swap 18 = .ok (.iastore, 1) := by decide +kernel
theorem dX10_swap_19 : decode cX10_swap 19 = .ok (.aload_n 0, 1) := by decide +kernel
theorem dX10_swap_20 : decode cX10_swap 20 = .ok (.getfield 23, 3) := by decide +kernel
theorem dX10_swap_23 : decode cX10_swap 23 = .ok (.iload_n 2, 1) := by decide +kernel
theorem dX10_swap_24 : decode cX10_swap 24 = .ok (.iload_n 3, 1) := by decide +kernel
theorem dX10_swap_25 : decode cX10_swap 25 = .ok (.iastore, 1) := by decide +kernel
theorem dX10_swap_26 : decode cX10_swap 26 = .ok (.return_, 1) := by decide +kernel
theorem dX10_nextOrder_0 : decode cX10_nextOrder 0 = .ok (.aload_n 0, 1) := by decide +kernel
theorem dX10_nextOrder_1 : decode cX10_nextOrder 1 = .ok (.getfield 71, 3) := by decide +kernel
theorem dX10_nextOrder_4 : decode cX10_nextOrder 4 = .ok (.iconst 2, 1) := by decide +kernel
theorem dX10_nextOrder_5 : decode cX10_nextOrder 5 = .ok (.isub, 1) := by decide +kernel
theorem dX10_nextOrder_6 : decode cX10_nextOrder 6 = .ok (.istore_n 1, 1) := by decide +kernel
theorem dX10_nextOrder_7 : decode cX10_nextOrder 7 = .ok (.iload_n 1, 1) := by decide +kernel
theorem dX10_nextOrder_8 : decode cX10_nextOrder 8 = .ok (.ifCond .lt 26, 3) := by decide +kernel
theorem dX10_nextOrder_11 : decode cX10_nextOrder 11 = .ok (.aload_n 0, 1) := by decide +kernel
theorem dX10_nextOrder_12 : decode cX10_nextOrder 12 = .ok (.getfield 23, 3) := by decide +kernel
theorem dX10_nextOrder_15 : decode cX10_nextOrder 15 = .ok (.iload_n 1, 1) := by decide +kernel
theorem dX10_nextOrder_16 : decode cX10_nextOrder 16 = .ok (.iaload, 1) := by decide +kernel
theorem dX10_nextOrder_17 : decode cX10_nextOrder 17 = .ok (.aload_n 0, 1) := by decide +kernel
theorem dX10_nextOrder_18 : decode cX10_nextOrder 18 = .ok (.getfield 23, 3) := by decide +kernel
theorem dX10_nextOrder_21 : decode cX10_nextOrder 21 = .ok (.iload_n 1, 1) := by decide +kernel
theorem dX10_nextOrder_22 : decode cX10_nextOrder 22 = .ok (.iconst 1, 1) := by decide +kernel
theorem dX10_nextOrder_23 : decode cX10_nextOrder 23 = .ok (.iadd, 1) := by decide +kernel
theorem dX10_nextOrder_24 : decode cX10_nextOrder 24 = .ok (.iaload, 1) := by decide +kernel
theorem dX10_nextOrder_25 : decode cX10_nextOrder 25 = .ok (.if_icmp .lt 9, 3) := by decide +kernel
theorem dX10_nextOrder_28 : decode cX10_nextOrder 28 = .ok (.iinc 1 (-1), 3) := by decide +kernel
theorem dX10_nextOrder_31 : decode cX10_nextOrder 31 = .ok (.goto (-24), 3) := by decide +kernel
theorem dX10_nextOrder_34 : decode cX10_nextOrder 34 = .ok (.iload_n 1, 1) := by decide +kernel
theorem dX10_nextOrder_35 : decode cX10_nextOrder 35 = .ok (.ifCond .ge 5, 3) := by decide +kernel
theorem dX10_nextOrder_38 : decode cX10_nextOrder 38 = .ok (.iconst 0, 1) := by decide +kernel
theorem dX10_nextOrder_39 : decode cX10_nextOrder 39 = .ok (.ireturn, 1) := by decide +kernel
theorem dX10_nextOrder_40 : decode cX10_nextOrder 40 = .ok (.aload_n 0, 1) := by decide +kernel
theorem dX10_nextOrder_41 : decode cX10_nextOrder 41 = .ok (.getfield 71, 3) := by decide +kernel
theorem dX10_nextOrder_44 : decode cX10_nextOrder 44 = .ok (.iconst 1, 1) := by decide +kernel
theorem dX10_nextOrder_45 : decode cX10_nextOrder 45 = .ok (.isub, 1) := by decide +kernel
theorem dX10_nextOrder_46 : decode cX10_nextOrder 46 = .ok (.istore_n 2, 1) := by decide +kernel
theorem dX10_nextOrder_47 : decode cX10_nextOrder 47 = .ok (.aload_n 0, 1) := by decide +kernel
