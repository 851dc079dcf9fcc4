theorem dX10_near_83 : decode cX10_near 83 = .ok (.invokevirtual 101, 3) := by decide +kernel
theorem dX10_near_86 : decode cX10_near 86 = .ok (.ireturn, 1) := by decide +kernel
theorem dX10_say_0 : decode cX10_say 0 = .ok (.iload_n 1, 1) := by decide +kernel
theorem dX10_say_1 : decode cX10_say 1 = .ok (.bipush 48, 2) := by decide +kernel
theorem dX10_say_3 : decode cX10_say 3 = .ok (.bipush 52, 2) := by decide +kernel
theorem dX10_say_5 : decode cX10_say 5 = .ok (.invokestatic 38, 3) := by decide +kernel
theorem dX10_say_8 : decode cX10_say 8 = .ok (.ifCond .ne 12, 3) := by decide +kernel
theorem dX10_say_11 : decode cX10_say 11 = .ok (.iload_n 1, 1) := by decide +kernel
theorem dX10_say_12 : decode cX10_say 12 = .ok (.bipush 63, 2) := by decide +kernel
theorem dX10_say_14 : decode cX10_say 14 = .ok (.if_icmp .eq 6, 3) := by decide +kernel
theorem dX10_say_17 : decode cX10_say 17 = .ok (.bipush (-2), 2) := by decide +kernel
theorem dX10_say_19 : decode cX10_say 19 = .ok (.ireturn, 1) := by decide +kernel
theorem dX10_say_20 : decode cX10_say 20 = .ok (.aload_n 0, 1) := by decide +kernel
theorem dX10_say_21 : decode cX10_say 21 = .ok (.getfield 139, 3) := by decide +kernel
theorem dX10_say_24 : decode cX10_say 24 = .ok (.bipush 9, 2) := by decide +kernel
theorem dX10_say_26 : decode cX10_say 26 = .ok (.if_icmp .ne 6, 3) := by decide +kernel
theorem dX10_say_29 : decode cX10_say 29 = .ok (.bipush (-4), 2) := by decide +kernel
theorem dX10_say_31 : decode cX10_say 31 = .ok (.ireturn, 1) := by decide +kernel
theorem dX10_say_32 : decode cX10_say 32 = .ok (.aload_n 0, 1) := by decide +kernel
theorem dX10_say_33 : decode cX10_say 33 = .ok (.getfield 20, 3) := by decide +kernel
theorem dX10_say_36 : decode cX10_say 36 = .ok (.aload_n 0, 1) := by decide +kernel
theorem dX10_say_37 : decode cX10_say 37 = .ok (.getfield 139, 3) := by decide +kernel
theorem dX10_say_40 : decode cX10_say 40 = .ok (.iload_n 1, 1) := by decide +kernel
theorem dX10_say_41 : decode cX10_say 41 = .ok (.iastore, 1) := by decide +kernel
theorem dX10_say_42 : decode cX10_say 42 = .ok (.aload_n 0, 1) := by decide +kernel
theorem dX10_say_43 : decode cX10_say 43 = .ok (.dup, 1) := by decide +kernel
theorem dX10_say_44 : decode cX10_say 44 = .ok (.getfield 139, 3) := by decide +kernel
theorem dX10_say_47 : decode cX10_say 47 = .ok (.iconst 1, 1) := by decide +kernel
theorem dX10_say_48 : decode cX10_say 48 = .ok (.iadd, 1) := by decide +kernel
theorem dX10_say_49 : decode cX10_say 49 = .ok (.putfield 139, 3) := by decide +kernel
theorem dX10_say_52 : decode cX10_say 52 = .ok (.aload_n 0, 1) := by decide +kernel
theorem dX10_say_53 : decode cX10_say 53 = .ok (.getfield 139, 3) := by decide +kernel
theorem dX10_say_56 : decode cX10_say 56 = .ok (.ireturn, 1) := by decide +kernel
theorem dX10_wipe_0 : decode cX10_wipe 0 = .ok (.aload_n 0, 1) := by decide +kernel
theorem dX10_wipe_1 : decode cX10_wipe 1 = .ok (.getfield 139, 3) := by decide +kernel
theorem dX10_wipe_4 : decode cX10_wipe 4 = .ok (.istore_n 1, 1) := by decide +kernel
theorem dX10_wipe_5 : decode cX10_wipe 5 = .ok (.aload_n 0, 1) := by decide +kernel
theorem dX10_wipe_6 : decode cX10_wipe 6 = .ok (.iconst 0, 1) := by decide +kernel
theorem dX10_wipe_7 : decode cX10_wipe 7 = .ok (.putfield 139, 3) := by decide +kernel
theorem dX10_wipe_10 : decode cX10_wipe 10 = .ok (.iload_n 1, 1) := by decide +kernel
theorem dX10_wipe_11 : decode cX10_wipe 11 = .ok (.ireturn, 1) := by decide +kernel
theorem dX10_isOpen_0 : decode cX10_isOpen 0 = .ok (.iconst 0, 1) := by decide +kernel
theorem dX10_isOpen_1 : decode cX10_isOpen 1 = .ok (.istore_n 1, 1) := by decide +kernel
theorem dX10_isOpen_2 : decode cX10_isOpen 2 = .ok (.iconst 0, 1) := by decide +kernel
theorem dX10_isOpen_3 : decode cX10_isOpen 3 = .ok (.istore_n 2, 1) := by decide +kernel
theorem dX10_isOpen_4 : decode cX10_isOpen 4 = .ok (.iload_n 2, 1) := by decide +kernel
theorem dX10_isOpen_5 : decode cX10_isOpen 5 = .ok (.aload_n 0, 1) := by decide +kernel
theorem dX10_isOpen_6 : decode cX10_isOpen 6 = .ok (.getfield 139, 3) := by decide +kernel
theorem dX10_isOpen_9 : decode cX10_isOpen 9 = .ok (.if_icmp .ge 30, 3) := by decide +kernel
theorem dX10_isOpen_12 : decode cX10_isOpen 12 = .ok (.iload_n 1, 1) := by decide +kernel
theorem dX10_isOpen_13 : decode cX10_isOpen 13 = .ok (.ifCond .ne 14, 3) := by decide +kernel
theorem dX10_isOpen_16 : decode cX10_isOpen 16 = .ok (.aload_n 0, 1) := by decide +kernel
theorem dX10_isOpen_17 : decode cX10_isOpen 17 = .ok (.getfield 20, 3) := by decide +kernel
theorem dX10_isOpen_20 : decode cX10_isOpen 20 = .ok (.iload_n 2, 1) := by decide +kernel
theorem dX10_isOpen_21 : decode cX10_isOpen 21 = .ok (.iaload, 1) := by decide +kernel
theorem dX10_isOpen_22 : decode cX10_isOpen 22 = .ok (.bipush 63, 2) := by decide +kernel
theorem dX10_isOpen_24 : decode cX10_isOpen 24 = .ok (.if_icmp .ne 7, 3) := by decide +kernel
theorem dX10_isOpen_27 : decode cX10_isOpen 27 = .ok (.iconst 1, 1) := by decide +kernel
theorem dX10_isOpen_28 : decode cX10_isOpen 28 = .ok (.goto 4, 3) := by decide +kernel
theorem dX10_isOpen_31 : decode cX10_isOpen 31 = .ok (.iconst 0, 1) := by decide +kernel
theorem dX10_isOpen_32 : decode cX10_isOpen 32 = .ok (.istore_n 1, 1) := by decide +kernel
theorem dX10_isOpen_33 : decode cX10_isOpen 33 = .ok (.iinc 2 1, 3) := by decide +kernel
theorem dX10_isOpen_36 : decode cX10_isOpen 36 = .ok (.goto (-32), 3) := by decide +kernel
theorem dX10_isOpen_39 : decode cX10_isOpen 39 = .ok (.iload_n 1, 1) := by decide +kernel
theorem dX10_isOpen_40 : decode cX10_isOpen 40 = .ok (.ireturn, 1) := by decide +kernel
theorem dX10_layPad_0 : decode cX10_layPad 0 = .ok (.aload_n 0, 1) := by decide +kernel
theorem dX10_layPad_1 : decode cX10_layPad 1 = .ok (.aload_n 0, 1) := by decide +kernel
theorem dX10_layPad_2 : decode cX10_layPad 2 = .ok (.getfield 139, 3) := by decide +kernel
theorem dX10_layPad_5 : decode cX10_layPad 5 = .ok (.putfield 71, 3) := by decide +kernel
theorem dX10_layPad_8 : decode cX10_layPad 8 = .ok (.iconst 0, 1) := by decide +kernel
theorem dX10_layPad_9 : decode cX10_layPad 9 = .ok (.istore_n 1, 1) := by decide +kernel
theorem dX10_layPad_10 : decode cX10_layPad 10 = .ok (.iload_n 1, 1) := by decide +kernel
theorem dX10_layPad_11 : decode cX10_layPad 11 = .ok (.aload_n 0, 1) := by decide +kernel
theorem dX10_layPad_12 : decode cX10_layPad 12 = .ok (.getfield 139, 3) := by decide +kernel
theorem dX10_layPad_15 : decode cX10_layPad 15 = .ok (.if_icmp .ge 24, 3) := by decide +kernel
theorem dX10_layPad_18 : decode cX10_layPad 18 = .ok (.aload_n 0, 1) := by decide +kernel
theorem dX10_layPad_19 : decode cX10_layPad 19 = .ok (.getfield 23, 3) := by decide +kernel
theorem dX10_layPad_22 : decode cX10_layPad 22 = .ok (.iload_n 1, 1) := by decide +kernel
theorem dX10_layPad_23 : decode cX10_layPad 23 = .ok (.aload_n 0, 1) := by decide +kernel
theorem dX10_layPad_24 : decode cX10_layPad 24 = .ok (.getfield 20, 3) := by decide +kernel
theorem dX10_layPad_27 : decode cX10_layPad 27 = .ok (.iload_n 1, 1) := by decide +kernel
theorem dX10_layPad_28 : decode cX10_layPad 28 = .ok (.iaload, 1) := by decide +kernel
theorem dX10_layPad_29 : decode cX10_layPad 29 = .ok (.bipush 48, 2) := by decide +kernel
theorem dX10_layPad_31 : decode cX10_layPad 31 = .ok (.isub, 1) := by decide +kernel
theorem dX10_layPad_32 : decode cX10_layPad 32 = .ok (.iastore, 1) := by decide +kernel
theorem dX10_layPad_33 : decode cX10_layPad 33 = .ok (.iinc 1 1, 3) := by decide +kernel
theorem dX10_layPad_36 : decode cX10_layPad 36 = .ok (.goto (-26), 3) := by decide +kernel
theorem dX10_layPad_39 : decode cX10_layPad 39 = .ok (.return_, 1) := by decide +kernel
theorem dX10_onPad_0 : decode cX10_onPad 0 = .ok (.iconst 0, 1) := by decide +kernel
theorem dX10_onPad_1 : decode cX10_onPad 1 = .ok (.istore_n 2, 1) := by decide +kernel
theorem dX10_onPad_2 : decode cX10_onPad 2 = .ok (.iconst 0, 1) := by decide +kernel
theorem dX10_onPad_3 : decode cX10_onPad 3 = .ok (.istore_n 3, 1) := by decide +kernel
theorem dX10_onPad_4 : decode cX10_onPad 4 = .ok (.iload_n 3, 1) := by decide +kernel
theorem dX10_onPad_5 : decode cX10_onPad 5 = .ok (.aload_n 0, 1) := by decide +kernel
theorem dX10_onPad_6 : decode cX10_onPad 6 = .ok (.getfield 139, 3) := by decide +kernel
theorem dX10_onPad_9 : decode cX10_onPad 9 = .ok (.if_icmp .ge 30, 3) := by decide +kernel
theorem dX10_onPad_12 : decode cX10_onPad 12 = .ok (.iload_n 2, 1) := by decide +kernel
theorem dX10_onPad_13 : decode cX10_onPad 13 = .ok (.aload_n 0, 1) := by decide +kernel
theorem dX10_onPad_14 : decode cX10_onPad 14 = .ok (.getfield 20, 3) := by decide +kernel
theorem dX10_onPad_17 : decode cX10_onPad 17 = .ok (.iload_n 3, 1) := by decide +kernel
theorem dX10_onPad_18 : decode cX10_onPad 18 = .ok (.iaload, 1) := by decide +kernel
theorem dX10_onPad_19 : decode cX10_onPad 19 = .ok (.bipush 48, 2) := by decide +kernel
theorem dX10_onPad_21 : decode cX10_onPad 21 = .ok (.iload_n 1, 1) := by decide +kernel
theorem dX10_onPad_22 : decode cX10_onPad 22 = .ok (.iadd, 1) := by decide +kernel
theorem dX10_onPad_23 : decode cX10_onPad 23 = .ok (.if_icmp .ne 7, 3) := by decide +kernel
theorem dX10_onPad_26 : decode cX10_onPad 26 = .ok (.iconst 1, 1) := by decide +kernel
theorem dX10_onPad_27 : decode cX10_onPad 27 = .ok (.goto 4, 3) := by decide +kernel
theorem dX10_onPad_30 : decode cX10_onPad 30 = .ok (.iconst 0, 1) := by decide +kernel
theorem dX10_onPad_31 : decode cX10_onPad 31 = .ok (.iadd, 1) := by decide +kernel
theorem dX10_onPad_32 : decode cX10_onPad 32 = .ok (.istore_n 2, 1) := by decide +kernel
theorem dX10_onPad_33 : decode cX10_onPad 33 = .ok (.iinc 3 1, 3) := by decide +kernel
theorem dX10_onPad_36 : decode cX10_onPad 36 = .ok (.goto (-32), 3) := by decide +kernel
theorem dX10_onPad_39 : decode cX10_onPad 39 = .ok (.iload_n 2, 1) := by decide +kernel
theorem dX10_onPad_40 : decode cX10_onPad 40 = .ok (.ireturn, 1) := by decide +kernel
theorem dX10_isOrder_0 : decode cX10_isOrder 0 = .ok (.aload_n 0, 1) := by decide +kernel
theorem dX10_isOrder_1 : decode cX10_isOrder 1 = .ok (.invokevirtual 142, 3) := by decide +kernel
theorem dX10_isOrder_4 : decode cX10_isOrder 4 = .ok (.ifCond .ne 7, 3) := by decide +kernel
theorem dX10_isOrder_7 : decode cX10_isOrder 7 = .ok (.iconst 1, 1) := by decide +kernel
theorem dX10_isOrder_8 : decode cX10_isOrder 8 = .ok (.goto 4, 3) := by decide +kernel
theorem dX10_isOrder_11 : decode cX10_isOrder 11 = .ok (.iconst 0, 1) := by decide +kernel
theorem dX10_isOrder_12 : decode cX10_isOrder 12 = .ok (.istore_n 1, 1) := by decide +kernel
theorem dX10_isOrder_13 : decode cX10_isOrder 13 = .ok (.iconst 0, 1) := by decide +kernel
theorem dX10_isOrder_14 : decode cX10_isOrder 14 = .ok (.istore_n 2, 1) := by decide +kernel
theorem dX10_isOrder_15 : decode cX10_isOrder 15 = .ok (.iload_n 2, 1) := by decide +kernel
theorem dX10_isOrder_16 : decode cX10_isOrder 16 = .ok (.iconst 5, 1) := by decide +kernel
theorem dX10_isOrder_17 : decode cX10_isOrder 17 = .ok (.if_icmp .ge 36, 3) := by decide +kernel
theorem dX10_isOrder_20 : decode cX10_isOrder 20 = .ok (.iload_n 1, 1) := by decide +kernel
theorem dX10_isOrder_21 : decode cX10_isOrder 21 = .ok (.ifCond .eq 24, 3) := by decide +kernel
theorem dX10_isOrder_24 : decode cX10_isOrder 24 = .ok (.aload_n 0, 1) := by decide +kernel
theorem dX10_isOrder_25 : decode cX10_isOrder 25 = .ok (.iload_n 2, 1) := by decide +kernel
theorem dX10_isOrder_26 : decode cX10_isOrder 26 = .ok (.invokevirtual 145, 3) := by decide +kernel
theorem dX10_isOrder_29 : decode cX10_isOrder 29 = .ok (.aload_n 0, 1) := by decide +kernel
theorem dX10_isOrder_30 : decode cX10_isOrder 30 = .ok (.getfield 7, 3) := by decide +kernel
theorem dX10_isOrder_33 : decode cX10_isOrder 33 = .ok (.bipush 13, 2) := by decide +kernel
theorem dX10_isOrder_35 : decode cX10_isOrder 35 = .ok (.iload_n 2, 1) := by decide +kernel
theorem dX10_isOrder_36 : decode cX10_isOrder 36 = .ok (.iadd, 1) := by decide +kernel
theorem dX10_isOrder_37 : decode cX10_isOrder 37 = .ok (.iaload, 1) := by decide +kernel
theorem dX10_isOrder_38 : decode cX10_isOrder 38 = .ok (.if_icmp .ne 7, 3) := by decide +kernel
theorem dX10_isOrder_41 : decode cX10_isOrder 41 = .ok (.iconst 1, 1) := by decide +kernel
theorem dX10_isOrder_42 : decode cX10_isOrder 42 = .ok (.goto 4, 3) := by decide +kernel
theorem dX10_isOrder_45 : decode cX10_isOrder 45 = .ok (.iconst 0, 1) := by decide +kernel
theorem dX10_isOrder_46 : decode cX10_isOrder 46 = .ok (.istore_n 1, 1) := by decide +kernel
theorem dX10_isOrder_47 : decode cX10_isOrder 47 = .ok (.iinc 2 1, 3) := by decide +kernel
theorem dX10_isOrder_50 : decode cX10_isOrder 50 = .ok (.goto (-35), 3) := by decide +kernel
theorem dX10_isOrder_53 : decode cX10_isOrder 53 = .ok (.iload_n 1, 1) := by decide +kernel
theorem dX10_isOrder_54 : decode cX10_isOrder 54 = .ok (.ireturn, 1) := by decide +kernel
theorem dX10_firstBreak_0 : decode cX10_firstBreak 0 = .ok (.iconst 0, 1) := by decide +kernel
theorem dX10_firstBreak_1 : decode cX10_firstBreak 1 = .ok (.istore_n 1, 1) := by decide +kernel
theorem dX10_firstBreak_2 : decode cX10_firstBreak 2 = .ok (.iload_n 1, 1) := by decide +kernel
theorem dX10_firstBreak_3 : decode cX10_firstBreak 3 = .ok (.aload_n 0, 1) := by decide +kernel
theorem dX10_firstBreak_4 : decode cX10_firstBreak 4 = .ok (.getfield 71, 3) := by decide +kernel
theorem dX10_firstBreak_7 : decode cX10_firstBreak 7 = .ok (.if_icmp .ge 17, 3) := by decide +kernel
theorem dX10_firstBreak_10 : decode cX10_firstBreak 10 = .ok (.aload_n 0, 1) := by decide +kernel
theorem dX10_firstBreak_11 : decode cX10_firstBreak 11 = .ok (.iload_n 1, 1) := by decide +kernel
theorem dX10_firstBreak_12 : decode cX10_firstBreak 12 = .ok (.invokevirtual 75, 3) := by decide +kernel
theorem dX10_firstBreak_15 : decode cX10_firstBreak 15 = .ok (.ifCond .ne 9, 3) := by decide +kernel
theorem dX10_firstBreak_18 : decode cX10_firstBreak 18 = .ok (.iinc 1 1, 3) := by decide +kernel
theorem dX10_firstBreak_21 : decode cX10_firstBreak 21 = .ok (.goto (-19), 3) := by decide +kernel
theorem dX10_firstBreak_24 : decode cX10_firstBreak 24 = .ok (.iload_n 1, 1) := by decide +kernel
theorem dX10_firstBreak_25 : decode cX10_firstBreak 25 = .ok (.aload_n 0, 1) := by decide +kernel
theorem dX10_firstBreak_26 : decode cX10_firstBreak 26 = .ok (.getfield 71, 3) := by decide +kernel
theorem dX10_firstBreak_29 : decode cX10_firstBreak 29 = .ok (.if_icmp .ge 7, 3) := by decide +kernel
theorem dX10_firstBreak_32 : decode cX10_firstBreak 32 = .ok (.iload_n 1, 1) := by decide +kernel
theorem dX10_firstBreak_33 : decode cX10_firstBreak 33 = .ok (.goto 5, 3) := by decide +kernel
theorem dX10_firstBreak_36 : decode cX10_firstBreak 36 = .ok (.bipush (-6), 2) := by decide +kernel
theorem dX10_firstBreak_38 : decode cX10_firstBreak 38 = .ok (.ireturn, 1) := by decide +kernel
theorem dX10_row_0 : decode cX10_row 0 = .ok (.iload_n 1, 1) := by decide +kernel
theorem dX10_row_1 : decode cX10_row 1 = .ok (.iconst 0, 1) := by decide +kernel
theorem dX10_row_2 : decode cX10_row 2 = .ok (.iconst 2, 1) := by decide +kernel
theorem dX10_row_3 : decode cX10_row 3 = .ok (.invokestatic 38, 3) := by decide +kernel
theorem dX10_row_6 : decode cX10_row 6 = .ok (.ifCond .ne 6, 3) := by decide +kernel
theorem dX10_row_9 : decode cX10_row 9 = .ok (.bipush (-2), 2) := by decide +kernel
theorem dX10_row_11 : decode cX10_row 11 = .ok (.ireturn, 1) := by decide +kernel
theorem dX10_row_12 : decode cX10_row 12 = .ok (.aload_n 0, 1) := by decide +kernel
theorem dX10_row_13 : decode cX10_row 13 = .ok (.invokevirtual 142, 3) := by decide +kernel
theorem dX10_row_16 : decode cX10_row 16 = .ok (.ifCond .eq 6, 3) := by decide +kernel
theorem dX10_row_19 : decode cX10_row 19 = .ok (.bipush (-7), 2) := by decide +kernel
theorem dX10_row_21 : decode cX10_row 21 = .ok (.ireturn, 1) := by decide +kernel
theorem dX10_row_22 : decode cX10_row 22 = .ok (.aload_n 0, 1) := by decide +kernel
theorem dX10_row_23 : decode cX10_row 23 = .ok (.invokevirtual 148, 3) := by decide +kernel
theorem dX10_row_26 : decode cX10_row 26 = .ok (.iload_n 1, 1) := by decide +kernel
theorem dX10_row_27 : decode cX10_row 27 = .ok (.ifCond .ne 10, 3) := by decide +kernel
theorem dX10_row_30 : decode cX10_row 30 = .ok (.aload_n 0, 1) := by decide +kernel
theorem dX10_row_31 : decode cX10_row 31 = .ok (.invokevirtual 88, 3) := by decide +kernel
theorem dX10_row_34 : decode cX10_row 34 = .ok (.goto 31, 3) := by decide +kernel
theorem dX10_row_37 : decode cX10_row 37 = .ok (.iload_n 1, 1) := by decide +kernel
theorem dX10_row_38 : decode cX10_row 38 = .ok (.iconst 1, 1) := by decide +kernel
theorem dX10_row_39 : decode cX10_row 39 = .ok (.if_icmp .ne 10, 3) := by decide +kernel
theorem dX10_row_42 : decode cX10_row 42 = .ok (.aload_n 0, 1) := by decide +kernel
theorem dX10_row_43 : decode cX10_row 43 = .ok (.invokevirtual 151, 3) := by decide +kernel
theorem dX10_row_46 : decode cX10_row 46 = .ok (.goto 19, 3) := by decide +kernel
theorem dX10_row_49 : decode cX10_row 49 = .ok (.aload_n 0, 1) := by decide +kernel
theorem dX10_row_50 : decode cX10_row 50 = .ok (.invokevirtual 154, 3) := by decide +kernel
theorem dX10_row_53 : decode cX10_row 53 = .ok (.ifCond .eq 10, 3) := by decide +kernel
theorem dX10_row_56 : decode cX10_row 56 = .ok (.aload_n 0, 1) := by decide +kernel
theorem dX10_row_57 : decode cX10_row 57 = .ok (.invokevirtual 136, 3) := by decide +kernel
theorem dX10_row_60 : decode cX10_row 60 = .ok (.goto 5, 3) := by decide +kernel
theorem dX10_row_63 : decode cX10_row 63 = .ok (.bipush (-6), 2) := by decide +kernel
theorem dX10_row_65 : decode cX10_row 65 = .ok (.ireturn, 1) := by decide +kernel
theorem dX10_isAsTold_0 : decode cX10_isAsTold 0 = .ok (.aload_n 0, 1) := by decide +kernel
theorem dX10_isAsTold_1 : decode cX10_isAsTold 1 = .ok (.getfield 71, 3) := by decide +kernel
theorem dX10_isAsTold_4 : decode cX10_isAsTold 4 = .ok (.aload_n 0, 1) := by decide +kernel
theorem dX10_isAsTold_5 : decode cX10_isAsTold 5 = .ok (.getfield 139, 3) := by decide +kernel
theorem dX10_isAsTold_8 : decode cX10_isAsTold 8 = .ok (.if_icmp .ne 7, 3) := by decide +kernel
theorem dX10_isAsTold_11 : decode cX10_isAsTold 11 = .ok (.iconst 1, 1) := by decide +kernel
theorem dX10_isAsTold_12 : decode cX10_isAsTold 12 = .ok (.goto 4, 3) := by decide +kernel
theorem dX10_isAsTold_15 : decode cX10_isAsTold 15 = .ok (.iconst 0, 1) := by decide +kernel
theorem dX10_isAsTold_16 : decode cX10_isAsTold 16 = .ok (.istore_n 1, 1) := by decide +kernel
theorem dX10_isAsTold_17 : decode cX10_isAsTold 17 = .ok (.iconst 0, 1) := by decide +kernel
theorem dX10_isAsTold_18 : decode cX10_isAsTold 18 = .ok (.istore_n 2, 1) := by decide +kernel
theorem dX10_isAsTold_19 : decode cX10_isAsTold 19 = .ok (.iload_n 2, 1) := by decide +kernel
theorem dX10_isAsTold_20 : decode cX10_isAsTold 20 = .ok (.aload_n 0, 1) := by decide +kernel
theorem dX10_isAsTold_21 : decode cX10_isAsTold 21 = .ok (.getfield 71, 3) := by decide +kernel
theorem dX10_isAsTold_24 : decode cX10_isAsTold 24 = .ok (.if_icmp .ge 48, 3) := by decide +kernel
theorem dX10_isAsTold_27 : decode cX10_isAsTold 27 = .ok (.iload_n 1, 1) := by decide +kernel
theorem dX10_isAsTold_28 : decode cX10_isAsTold 28 = .ok (.ifCond .eq 44, 3) := by decide +kernel
theorem dX10_isAsTold_31 : decode cX10_isAsTold 31 = .ok (.aload_n 0, 1) := by decide +kernel
theorem dX10_isAsTold_32 : decode cX10_isAsTold 32 = .ok (.getfield 20, 3) := by decide +kernel
theorem dX10_isAsTold_35 : decode cX10_isAsTold 35 = .ok (.iload_n 2, 1) := by decide +kernel
theorem dX10_isAsTold_36 : decode cX10_isAsTold 36 = .ok (.iaload, 1) := by decide +kernel
theorem dX10_isAsTold_37 : decode cX10_isAsTold 37 = .ok (.bipush 63, 2) := by decide +kernel
theorem dX10_isAsTold_39 : decode cX10_isAsTold 39 = .ok (.if_icmp .eq 21, 3) := by decide +kernel
theorem dX10_isAsTold_42 : decode cX10_isAsTold 42 = .ok (.aload_n 0, 1) := by decide +kernel
theorem dX10_isAsTold_43 : decode cX10_isAsTold 43 = .ok (.getfield 20, 3) := by decide +kernel
theorem dX10_isAsTold_46 : decode cX10_isAsTold 46 = .ok (.iload_n 2, 1) := by decide +kernel
theorem dX10_isAsTold_47 : decode cX10_isAsTold 47 = .ok (.iaload, 1) := by decide +kernel
theorem dX10_isAsTold_48 : decode cX10_isAsTold 48 = .ok (.bipush 48, 2) := by decide +kernel
theorem dX10_isAsTold_50 : decode cX10_isAsTold 50 = .ok (.isub, 1) := by decide +kernel
theorem dX10_isAsTold_51 : decode cX10_isAsTold 51 = .ok (.aload_n 0, 1) := by decide +kernel
theorem dX10_isAsTold_52 : decode cX10_isAsTold 52 = .ok (.getfield 23, 3) := by decide +kernel
theorem dX10_isAsTold_55 : decode cX10_isAsTold 55 = .ok (.iload_n 2, 1) := by decide +kernel
theorem dX10_isAsTold_56 : decode cX10_isAsTold 56 = .ok (.iaload, 1) := by decide +kernel
theorem dX10_isAsTold_57 : decode cX10_isAsTold 57 = .ok (.if_icmp .ne 7, 3) := by decide +kernel
theorem dX10_isAsTold_60 : decode cX10_isAsTold 60 = .ok (.iconst 1, 1) := by decide +kernel
theorem dX10_isAsTold_61 : decode cX10_isAsTold 61 = .ok (.goto 4, 3) := by decide +kernel
theorem dX10_isAsTold_64 : decode cX10_isAsTold 64 = .ok (.iconst 0, 1) := by decide +kernel
theorem dX10_isAsTold_65 : decode cX10_isAsTold 65 = .ok (.istore_n 1, 1) := by decide +kernel
theorem dX10_isAsTold_66 : decode cX10_isAsTold 66 = .ok (.iinc 2 1, 3) := by decide +kernel
theorem dX10_isAsTold_69 : decode cX10_isAsTold 69 = .ok (.goto (-50), 3) := by decide +kernel
theorem dX10_isAsTold_72 : decode cX10_isAsTold 72 = .ok (.iload_n 1, 1) := by decide +kernel
theorem dX10_isAsTold_73 : decode cX10_isAsTold 73 = .ok (.ireturn, 1) := by decide +kernel
theorem dX10_filled_0 : decode cX10_filled 0 = .ok (.iload_n 1, 1) := by decide +kernel
theorem dX10_filled_1 : decode cX10_filled 1 = .ok (.iconst (-1), 1) := by decide +kernel
theorem dX10_filled_2 : decode cX10_filled 2 = .ok (.if_icmp .ge 6, 3) := by decide +kernel
theorem dX10_filled_5 : decode cX10_filled 5 = .ok (.bipush (-2), 2) := by decide +kernel
theorem dX10_filled_7 : decode cX10_filled 7 = .ok (.ireturn, 1) := by decide +kernel
theorem dX10_filled_8 : decode cX10_filled 8 = .ok (.aload_n 0, 1) := by decide +kernel
theorem dX10_filled_9 : decode cX10_filled 9 = .ok (.iconst 0, 1) := by decide +kernel
theorem dX10_filled_10 : decode cX10_filled 10 = .ok (.putfield 82, 3) := by decide +kernel
theorem dX10_filled_13 : decode cX10_filled 13 = .ok (.aload_n 0, 1) := by decide +kernel
theorem dX10_filled_14 : decode cX10_filled 14 = .ok (.invokevirtual 85, 3) := by decide +kernel
theorem dX10_filled_17 : decode cX10_filled 17 = .ok (.iconst 1, 1) := by decide +kernel
theorem dX10_filled_18 : decode cX10_filled 18 = .ok (.istore_n 2, 1) := by decide +kernel
theorem dX10_filled_19 : decode cX10_filled 19 = .ok (.iload_n 2, 1) := by decide +kernel
theorem dX10_filled_20 : decode cX10_filled 20 = .ok (.ifCond .eq 46, 3) := by decide +kernel
theorem dX10_filled_23 : decode cX10_filled 23 = .ok (.aload_n 0, 1) := by decide +kernel
theorem dX10_filled_24 : decode cX10_filled 24 = .ok (.invokevirtual 157, 3) := by decide +kernel
theorem dX10_filled_27 : decode cX10_filled 27 = .ok (.ifCond .eq 31, 3) := by decide +kernel
theorem dX10_filled_30 : decode cX10_filled 30 = .ok (.aload_n 0, 1) := by decide +kernel
theorem dX10_filled_31 : decode cX10_filled 31 = .ok (.invokevirtual 88, 3) := by decide +kernel
theorem dX10_filled_34 : decode cX10_filled 34 = .ok (.ifCond .ne 24, 3) := by decide +kernel
theorem dX10_filled_37 : decode cX10_filled 37 = .ok (.aload_n 0, 1) := by decide +kernel
theorem dX10_filled_38 : decode cX10_filled 38 = .ok (.getfield 82, 3) := by decide +kernel
theorem dX10_filled_41 : decode cX10_filled 41 = .ok (.ifCond .ne 7, 3) := by decide +kernel
theorem dX10_filled_44 : decode cX10_filled 44 = .ok (.aload_n 0, 1) := by decide +kernel
theorem dX10_filled_45 : decode cX10_filled 45 = .ok (.invokevirtual 91, 3) := by decide +kernel
theorem dX10_filled_48 : decode cX10_filled 48 = .ok (.aload_n 0, 1) := by decide +kernel
theorem dX10_filled_49 : decode cX10_filled 49 = .ok (.dup, 1) := by decide +kernel
theorem dX10_filled_50 : decode cX10_filled 50 = .ok (.getfield 82, 3) := by decide +kernel
theorem dX10_filled_53 : decode cX10_filled 53 = .ok (.iconst 1, 1) := by decide +kernel
theorem dX10_filled_54 : decode cX10_filled 54 = .ok (.iadd, 1) := by decide +kernel
theorem dX10_filled_55 : decode cX10_filled 55 = .ok (.putfield 82, 3) := by decide +kernel
theorem dX10_filled_58 : decode cX10_filled 58 = .ok (.aload_n 0, 1) := by decide +kernel
theorem dX10_filled_59 : decode cX10_filled 59 = .ok (.invokevirtual 94, 3) := by decide +kernel
theorem dX10_filled_62 : decode cX10_filled 62 = .ok (.istore_n 2, 1) := by decide +kernel
theorem dX10_filled_63 : decode cX10_filled 63 = .ok (.goto (-44), 3) := by decide +kernel
theorem dX10_filled_66 : decode cX10_filled 66 = .ok (.iload_n 1, 1) := by decide +kernel
theorem dX10_filled_67 : decode cX10_filled 67 = .ok (.iconst (-1), 1) := by decide +kernel
theorem dX10_filled_68 : decode cX10_filled 68 = .ok (.if_icmp .ne 10, 3) := by decide +kernel
theorem dX10_filled_71 : decode cX10_filled 71 = .ok (.aload_n 0, 1) := by decide +kernel
theorem dX10_filled_72 : decode cX10_filled 72 = .ok (.getfield 82, 3) := by decide +kernel
theorem dX10_filled_75 : decode cX10_filled 75 = .ok (.goto 8, 3) := by decide +kernel
theorem dX10_filled_78 : decode cX10_filled 78 = .ok (.aload_n 0, 1) := by decide +kernel
theorem dX10_filled_79 : decode cX10_filled 79 = .ok (.iload_n 1, 1) := by decide +kernel
theorem dX10_filled_80 : decode cX10_filled 80 = .ok (.invokevirtual 101, 3) := by decide +kernel
theorem dX10_filled_83 : decode cX10_filled 83 = .ok (.ireturn, 1) := by decide +kernel
theorem dX10_goOn_0 : decode cX10_goOn 0 = .ok (.iload_n 1, 1) := by decide +kernel
theorem dX10_goOn_1 : decode cX10_goOn 1 = .ok (.istore_n 3, 1) := by decide +kernel
theorem dX10_goOn_2 : decode cX10_goOn 2 = .ok (.iconst 0, 1) := by decide +kernel
theorem dX10_goOn_3 : decode cX10_goOn 3 = .ok (.istore 4, 2) := by decide +kernel
theorem dX10_goOn_5 : decode cX10_goOn 5 = .ok (.iload 4, 2) := by decide +kernel
theorem dX10_goOn_7 : decode cX10_goOn 7 = .ok (.aload_n 0, 1) := by decide +kernel
theorem dX10_goOn_8 : decode cX10_goOn 8 = .ok (.getfield 139, 3) := by decide +kernel
theorem dX10_goOn_11 : decode cX10_goOn 11 = .ok (.if_icmp .ge 26, 3) := by decide +kernel
theorem dX10_goOn_14 : decode cX10_goOn 14 = .ok (.aload_n 0, 1) := by decide +kernel
theorem dX10_goOn_15 : decode cX10_goOn 15 = .ok (.getfield 35, 3) := by decide +kernel
theorem dX10_goOn_18 : decode cX10_goOn 18 = .ok (.iload 4, 2) := by decide +kernel
theorem dX10_goOn_20 : decode cX10_goOn 20 = .ok (.aload_n 0, 1) := by decide +kernel
theorem dX10_goOn_21 : decode cX10_goOn 21 = .ok (.getfield 20, 3) := by decide +kernel
theorem dX10_goOn_24 : decode cX10_goOn 24 = .ok (.iload 4, 2) := by decide +kernel
theorem dX10_goOn_26 : decode cX10_goOn 26 = .ok (.iaload, 1) := by decide +kernel
theorem dX10_goOn_27 : decode cX10_goOn 27 = .ok (.bipush 48, 2) := by decide +kernel
theorem dX10_goOn_29 : decode cX10_goOn 29 = .ok (.isub, 1) := by decide +kernel
theorem dX10_goOn_30 : decode cX10_goOn 30 = .ok (.iastore, 1) := by decide +kernel
theorem dX10_goOn_31 : decode cX10_goOn 31 = .ok (.iinc 4 1, 3) := by decide +kernel
theorem dX10_goOn_34 : decode cX10_goOn 34 = .ok (.goto (-29), 3) := by decide +kernel
theorem dX10_goOn_37 : decode cX10_goOn 37 = .ok (.aload_n 0, 1) := by decide +kernel
theorem dX10_goOn_38 : decode cX10_goOn 38 = .ok (.aload_n 0, 1) := by decide +kernel
theorem dX10_goOn_39 : decode cX10_goOn 39 = .ok (.getfield 139, 3) := by decide +kernel
theorem dX10_goOn_42 : decode cX10_goOn 42 = .ok (.putfield 71, 3) := by decide +kernel
theorem dX10_goOn_45 : decode cX10_goOn 45 = .ok (.iconst 0, 1) := by decide +kernel
theorem dX10_goOn_46 : decode cX10_goOn 46 = .ok (.istore 4, 2) := by decide +kernel
theorem dX10_goOn_48 : decode cX10_goOn 48 = .ok (.iload 4, 2) := by decide +kernel
theorem dX10_goOn_50 : decode cX10_goOn 50 = .ok (.aload_n 0, 1) := by decide +kernel
theorem dX10_goOn_51 : decode cX10_goOn 51 = .ok (.getfield 139, 3) := by decide +kernel
theorem dX10_goOn_54 : decode cX10_goOn 54 = .ok (.if_icmp .ge 87, 3) := by decide +kernel
theorem dX10_goOn_57 : decode cX10_goOn 57 = .ok (.iload_n 3, 1) := by decide +kernel
theorem dX10_goOn_58 : decode cX10_goOn 58 = .ok (.iload_n 2, 1) := by decide +kernel
theorem dX10_goOn_59 : decode cX10_goOn 59 = .ok (.iconst 1, 1) := by decide +kernel
theorem dX10_goOn_60 : decode cX10_goOn 60 = .ok (.iadd, 1) := by decide +kernel
theorem dX10_goOn_61 : decode cX10_goOn 61 = .ok (.irem, 1) := by decide +kernel
theorem dX10_goOn_62 : decode cX10_goOn 62 = .ok (.istore 5, 2) := by decide +kernel
theorem dX10_goOn_64 : decode cX10_goOn 64 = .ok (.iload_n 3, 1) := by decide +kernel
theorem dX10_goOn_65 : decode cX10_goOn 65 = .ok (.iload_n 2, 1) := by decide +kernel
theorem dX10_goOn_66 : decode cX10_goOn 66 = .ok (.iconst 1, 1) := by decide +kernel
theorem dX10_goOn_67 : decode cX10_goOn 67 = .ok (.iadd, 1) := by decide +kernel
theorem dX10_goOn_68 : decode cX10_goOn 68 = .ok (.idiv, 1) := by decide +kernel
theorem dX10_goOn_69 : decode cX10_goOn 69 = .ok (.istore_n 3, 1) := by decide +kernel
theorem dX10_goOn_70 : decode cX10_goOn 70 = .ok (.iload 5, 2) := by decide +kernel
theorem dX10_goOn_72 : decode cX10_goOn 72 = .ok (.aload_n 0, 1) := by decide +kernel
theorem dX10_goOn_73 : decode cX10_goOn 73 = .ok (.getfield 139, 3) := by decide +kernel
theorem dX10_goOn_76 : decode cX10_goOn 76 = .ok (.iload 4, 2) := by decide +kernel
theorem dX10_goOn_78 : decode cX10_goOn 78 = .ok (.isub, 1) := by decide +kernel
theorem dX10_goOn_79 : decode cX10_goOn 79 = .ok (.if_icmp .lt 5, 3) := by decide +kernel
theorem dX10_goOn_82 : decode cX10_goOn 82 = .ok (.iconst 0, 1) := by decide +kernel
theorem dX10_goOn_83 : decode cX10_goOn 83 = .ok (.ireturn, 1) := by decide +kernel
theorem dX10_goOn_84 : decode cX10_goOn 84 = .ok (.aload_n 0, 1) := by decide +kernel
theorem dX10_goOn_85 : decode cX10_goOn 85 = .ok (.getfield 23, 3) := by decide +kernel
theorem dX10_goOn_88 : decode cX10_goOn 88 = .ok (.iload 4, 2) := by decide +kernel
theorem dX10_goOn_90 : decode cX10_goOn 90 = .ok (.aload_n 0, 1) := by decide +kernel
theorem dX10_goOn_91 : decode cX10_goOn 91 = .ok (.getfield 35, 3) := by decide +kernel
theorem dX10_goOn_94 : decode cX10_goOn 94 = .ok (.iload 5, 2) := by decide +kernel
theorem dX10_goOn_96 : decode cX10_goOn 96 = .ok (.iaload, 1) := by decide +kernel
theorem dX10_goOn_97 : decode cX10_goOn 97 = .ok (.iastore, 1) := by decide +kernel
theorem dX10_goOn_98 : decode cX10_goOn 98 = .ok (.iload 5, 2) := by decide +kernel
theorem dX10_goOn_100 : decode cX10_goOn 100 = .ok (.istore 6, 2) := by decide +kernel
theorem dX10_goOn_102 : decode cX10_goOn 102 = .ok (.iload 6, 2) := by decide +kernel
theorem dX10_goOn_104 : decode cX10_goOn 104 = .ok (.iconst 1, 1) := by decide +kernel
theorem dX10_goOn_105 : decode cX10_goOn 105 = .ok (.iadd, 1) := by decide +kernel
theorem dX10_goOn_106 : decode cX10_goOn 106 = .ok (.aload_n 0, 1) := by decide +kernel
theorem dX10_goOn_107 : decode cX10_goOn 107 = .ok (.getfield 139, 3) := by decide +kernel
theorem dX10_goOn_110 : decode cX10_goOn 110 = .ok (.if_icmp .ge 25, 3) := by decide +kernel
theorem dX10_goOn_113 : decode cX10_goOn 113 = .ok (.aload_n 0, 1) := by decide +kernel
theorem dX10_goOn_114 : decode cX10_goOn 114 = .ok (.getfield 35, 3) := by decide +kernel
theorem dX10_goOn_117 : decode cX10_goOn 117 = .ok (.iload 6, 2) := by decide +kernel
theorem dX10_goOn_119 : decode cX10_goOn 119 = .ok (.aload_n 0, 1) := by decide +kernel
theorem dX10_goOn_120 : decode cX10_goOn 120 = .ok (.getfield 35, 3) := by decide +kernel
theorem dX10_goOn_123 : decode cX10_goOn 123 = .ok (.iload 6, 2) := by decide +kernel
theorem dX10_goOn_125 : decode cX10_goOn 125 = .ok (.iconst 1, 1) := by decide +kernel
theorem dX10_goOn_126 : decode cX10_goOn 126 = .ok (.iadd, 1) := by decide +kernel
theorem dX10_goOn_127 : decode cX10_goOn 127 = .ok (.iaload, 1) := by decide +kernel
theorem dX10_goOn_128 : decode cX10_goOn 128 = .ok (.iastore, 1) := by decide +kernel
theorem dX10_goOn_129 : decode cX10_goOn 129 = .ok (.iinc 6 1, 3) := by decide +kernel
theorem dX10_goOn_132 : decode cX10_goOn 132 = .ok (.goto (-30), 3) := by decide +kernel
theorem dX10_goOn_135 : decode cX10_goOn 135 = .ok (.iinc 4 1, 3) := by decide +kernel
theorem dX10_goOn_138 : decode cX10_goOn 138 = .ok (.goto (-90), 3) := by decide +kernel
theorem dX10_goOn_141 : decode cX10_goOn 141 = .ok (.iconst 1, 1) := by decide +kernel
theorem dX10_goOn_142 : decode cX10_goOn 142 = .ok (.ireturn, 1) := by decide +kernel
theorem dX10_lane_0 : decode cX10_lane 0 = .ok (.iload_n 1, 1) := by decide +kernel
theorem dX10_lane_1 : decode cX10_lane 1 = .ok (.iconst 0, 1) := by decide +kernel
theorem dX10_lane_2 : decode cX10_lane 2 = .ok (.iconst 2, 1) := by decide +kernel
theorem dX10_lane_3 : decode cX10_lane 3 = .ok (.invokestatic 38, 3) := by decide +kernel
theorem dX10_lane_6 : decode cX10_lane 6 = .ok (.ifCond .ne 6, 3) := by decide +kernel
theorem dX10_lane_9 : decode cX10_lane 9 = .ok (.bipush (-2), 2) := by decide +kernel
theorem dX10_lane_11 : decode cX10_lane 11 = .ok (.ireturn, 1) := by decide +kernel
theorem dX10_lane_12 : decode cX10_lane 12 = .ok (.aload_n 0, 1) := by decide +kernel
theorem dX10_lane_13 : decode cX10_lane 13 = .ok (.invokevirtual 142, 3) := by decide +kernel
theorem dX10_lane_16 : decode cX10_lane 16 = .ok (.ifCond .eq 6, 3) := by decide +kernel
theorem dX10_lane_19 : decode cX10_lane 19 = .ok (.bipush (-7), 2) := by decide +kernel
theorem dX10_lane_21 : decode cX10_lane 21 = .ok (.ireturn, 1) := by decide +kernel
theorem dX10_lane_22 : decode cX10_lane 22 = .ok (.iconst 1, 1) := by decide +kernel
theorem dX10_lane_23 : decode cX10_lane 23 = .ok (.istore_n 2, 1) := by decide +kernel
theorem dX10_lane_24 : decode cX10_lane 24 = .ok (.iconst 0, 1) := by decide +kernel
theorem dX10_lane_25 : decode cX10_lane 25 = .ok (.istore_n 3, 1) := by decide +kernel
theorem dX10_lane_26 : decode cX10_lane 26 = .ok (.iload_n 3, 1) := by decide +kernel
theorem dX10_lane_27 : decode cX10_lane 27 = .ok (.aload_n 0, 1) := by decide +kernel
theorem dX10_lane_28 : decode cX10_lane 28 = .ok (.getfield 139, 3) := by decide +kernel
theorem dX10_lane_31 : decode cX10_lane 31 = .ok (.if_icmp .ge 15, 3) := by decide +kernel
theorem dX10_lane_34 : decode cX10_lane 34 = .ok (.iload_n 2, 1) := by decide +kernel
theorem dX10_lane_35 : decode cX10_lane 35 = .ok (.iload_n 1, 1) := by decide +kernel
theorem dX10_lane_36 : decode cX10_lane 36 = .ok (.iconst 1, 1) := by decide +kernel
theorem dX10_lane_37 : decode cX10_lane 37 = .ok (.iadd, 1) := by decide +kernel
theorem dX10_lane_38 : decode cX10_lane 38 = .ok (.imul, 1) := by decide +kernel
theorem dX10_lane_39 : decode cX10_lane 39 = .ok (.istore_n 2, 1) := by decide +kernel
theorem dX10_lane_40 : decode cX10_lane 40 = .ok (.iinc 3 1, 3) := by decide +kernel
theorem dX10_lane_43 : decode cX10_lane 43 = .ok (.goto (-17), 3) := by decide +kernel
theorem dX10_lane_46 : decode cX10_lane 46 = .ok (.sipush 1000, 3) := by decide +kernel
theorem dX10_lane_49 : decode cX10_lane 49 = .ok (.istore_n 3, 1) := by decide +kernel
theorem dX10_lane_50 : decode cX10_lane 50 = .ok (.iconst 0, 1) := by decide +kernel
theorem dX10_lane_51 : decode cX10_lane 51 = .ok (.istore 4, 2) := by decide +kernel
theorem dX10_lane_53 : decode cX10_lane 53 = .ok (.iload 4, 2) := by decide +kernel
theorem dX10_lane_55 : decode cX10_lane 55 = .ok (.iload_n 2, 1) := by decide +kernel
theorem dX10_lane_56 : decode cX10_lane 56 = .ok (.if_icmp .ge 28, 3) := by decide +kernel
theorem dX10_lane_59 : decode cX10_lane 59 = .ok (.aload_n 0, 1) := by decide +kernel
theorem dX10_lane_60 : decode cX10_lane 60 = .ok (.iload 4, 2) := by decide +kernel
theorem dX10_lane_62 : decode cX10_lane 62 = .ok (.iload_n 1, 1) := by decide +kernel
theorem dX10_lane_63 : decode cX10_lane 63 = .ok (.invokevirtual 160, 3) := by decide +kernel
theorem dX10_lane_66 : decode cX10_lane 66 = .ok (.ifCond .eq 12, 3) := by decide +kernel
theorem dX10_lane_69 : decode cX10_lane 69 = .ok (.iload_n 3, 1) := by decide +kernel
theorem dX10_lane_70 : decode cX10_lane 70 = .ok (.aload_n 0, 1) := by decide +kernel
theorem dX10_lane_71 : decode cX10_lane 71 = .ok (.invokevirtual 88, 3) := by decide +kernel
theorem dX10_lane_74 : decode cX10_lane 74 = .ok (.invokestatic 57, 3) := by decide +kernel
theorem dX10_lane_77 : decode cX10_lane 77 = .ok (.istore_n 3, 1) := by decide +kernel
theorem dX10_lane_78 : decode cX10_lane 78 = .ok (.iinc 4 1, 3) := by decide +kernel
theorem dX10_lane_81 : decode cX10_lane 81 = .ok (.goto (-28), 3) := by decide +kernel
theorem dX10_lane_84 : decode cX10_lane 84 = .ok (.iload_n 3, 1) := by decide +kernel
theorem dX10_lane_85 : decode cX10_lane 85 = .ok (.ireturn, 1) := by decide +kernel
theorem dX10_image_0 : decode cX10_image 0 = .ok (.iload_n 1, 1) := by decide +kernel
theorem dX10_image_1 : decode cX10_image 1 = .ok (.iconst 0, 1) := by decide +kernel
theorem dX10_image_2 : decode cX10_image 2 = .ok (.iconst 1, 1) := by decide +kernel
theorem dX10_image_3 : decode cX10_image 3 = .ok (.invokestatic 38, 3) := by decide +kernel
theorem dX10_image_6 : decode cX10_image 6 = .ok (.ifCond .ne 6, 3) := by decide +kernel
theorem dX10_image_9 : decode cX10_image 9 = .ok (.bipush (-2), 2) := by decide +kernel
theorem dX10_image_11 : decode cX10_image 11 = .ok (.ireturn, 1) := by decide +kernel
theorem dX10_image_12 : decode cX10_image 12 = .ok (.iconst 0, 1) := by decide +kernel
theorem dX10_image_13 : decode cX10_image 13 = .ok (.istore_n 2, 1) := by decide +kernel
theorem dX10_image_14 : decode cX10_image 14 = .ok (.iload_n 2, 1) := by decide +kernel
theorem dX10_image_15 : decode cX10_image 15 = .ok (.bipush 18, 2) := by decide +kernel
theorem dX10_image_17 : decode cX10_image 17 = .ok (.if_icmp .ge 26, 3) := by decide +kernel
theorem dX10_image_20 : decode cX10_image 20 = .ok (.aload_n 0, 1) := by decide +kernel
theorem dX10_image_21 : decode cX10_image 21 = .ok (.getfield 13, 3) := by decide +kernel
theorem dX10_image_24 : decode cX10_image 24 = .ok (.bipush 18, 2) := by decide +kernel
theorem dX10_image_26 : decode cX10_image 26 = .ok (.iload_n 1, 1) := by decide +kernel
theorem dX10_image_27 : decode cX10_image 27 = .ok (.imul, 1) := by decide +kernel
theorem dX10_image_28 : decode cX10_image 28 = .ok (.iload_n 2, 1) := by decide +kernel
theorem dX10_image_29 : decode cX10_image 29 = .ok (.iadd, 1) := by decide +kernel
theorem dX10_image_30 : decode cX10_image 30 = .ok (.aload_n 0, 1) := by decide +kernel
theorem dX10_image_31 : decode cX10_image 31 = .ok (.getfield 7, 3) := by decide +kernel
theorem dX10_image_34 : decode cX10_image 34 = .ok (.iload_n 2, 1) := by decide +kernel
theorem dX10_image_35 : decode cX10_image 35 = .ok (.iaload, 1) := by decide +kernel
theorem dX10_image_36 : decode cX10_image 36 = .ok (.iastore, 1) := by decide +kernel
theorem dX10_image_37 : decode cX10_image 37 = .ok (.iinc 2 1, 3) := by decide +kernel
theorem dX10_image_40 : decode cX10_image 40 = .ok (.goto (-26), 3) := by decide +kernel
theorem dX10_image_43 : decode cX10_image 43 = .ok (.aload_n 0, 1) := by decide +kernel
theorem dX10_image_44 : decode cX10_image 44 = .ok (.getfield 16, 3) := by decide +kernel
theorem dX10_image_47 : decode cX10_image 47 = .ok (.iload_n 1, 1) := by decide +kernel
theorem dX10_image_48 : decode cX10_image 48 = .ok (.iconst 1, 1) := by decide +kernel
theorem dX10_image_49 : decode cX10_image 49 = .ok (.bastore, 1) := by decide +kernel
theorem dX10_image_50 : decode cX10_image 50 = .ok (.iconst 1, 1) := by decide +kernel
theorem dX10_image_51 : decode cX10_image 51 = .ok (.ireturn, 1) := by decide +kernel
theorem dX10_restore_0 : decode cX10_restore 0 = .ok (.iload_n 1, 1) := by decide +kernel
theorem dX10_restore_1 : decode cX10_restore 1 = .ok (.iconst 0, 1) := by decide +kernel
theorem dX10_restore_2 : decode cX10_restore 2 = .ok (.iconst 1, 1) := by decide +kernel
theorem dX10_restore_3 : decode cX10_restore 3 = .ok (.invokestatic 38, 3) := by decide +kernel
theorem dX10_restore_6 : decode cX10_restore 6 = .ok (.ifCond .ne 6, 3) := by decide +kernel
theorem dX10_restore_9 : decode cX10_restore 9 = .ok (.bipush (-2), 2) := by decide +kernel
theorem dX10_restore_11 : decode cX10_restore 11 = .ok (.ireturn, 1) := by decide +kernel
theorem dX10_restore_12 : decode cX10_restore 12 = .ok (.aload_n 0, 1) := by decide +kernel
theorem dX10_restore_13 : decode cX10_restore 13 = .ok (.getfield 16, 3) := by decide +kernel
theorem dX10_restore_16 : decode cX10_restore 16 = .ok (.iload_n 1, 1) := by decide +kernel
theorem dX10_restore_17 : decode cX10_restore 17 = .ok (.baload, 1) := by decide +kernel
theorem dX10_restore_18 : decode cX10_restore 18 = .ok (.ifCond .ne 6, 3) := by decide +kernel
theorem dX10_restore_21 : decode cX10_restore 21 = .ok (.bipush (-3), 2) := by decide +kernel
theorem dX10_restore_23 : decode cX10_restore 23 = .ok (.ireturn, 1) := by decide +kernel
theorem dX10_restore_24 : decode cX10_restore 24 = .ok (.iconst 0, 1) := by decide +kernel
theorem dX10_restore_25 : decode cX10_restore 25 = .ok (.istore_n 2, 1) := by decide +kernel
theorem dX10_restore_26 : decode cX10_restore 26 = .ok (.iload_n 2, 1) := by decide +kernel
theorem dX10_restore_27 : decode cX10_restore 27 = .ok (.bipush 18, 2) := by decide +kernel
theorem dX10_restore_29 : decode cX10_restore 29 = .ok (.if_icmp .ge 26, 3) := by decide +kernel
theorem dX10_restore_32 : decode cX10_restore 32 = .ok (.aload_n 0, 1) := by decide +kernel
theorem dX10_restore_33 : decode cX10_restore 33 = .ok (.getfield 7, 3) := by decide +kernel
theorem dX10_restore_36 : decode cX10_restore 36 = .ok (.iload_n 2, 1) := by decide +kernel
theorem dX10_restore_37 : decode cX10_restore 37 = .ok (.aload_n 0, 1) := by decide +kernel
theorem dX10_restore_38 : decode cX10_restore 38 = .ok (.getfield 13, 3) := by decide +kernel
theorem dX10_restore_41 : decode cX10_restore 41 = .ok (.bipush 18, 2) := by decide +kernel
theorem dX10_restore_43 : decode cX10_restore 43 = .ok (.iload_n 1, 1) := by decide +kernel
theorem dX10_restore_44 : decode cX10_restore 44 = .ok (.imul, 1) := by decide +kernel
theorem dX10_restore_45 : decode cX10_restore 45 = .ok (.iload_n 2, 1) := by decide +kernel
theorem dX10_restore_46 : decode cX10_restore 46 = .ok (.iadd, 1) := by decide +kernel
theorem dX10_restore_47 : decode cX10_restore 47 = .ok (.iaload, 1) := by decide +kernel
theorem dX10_restore_48 : decode cX10_restore 48 = .ok (.iastore, 1) := by decide +kernel
theorem dX10_restore_49 : decode cX10_restore 49 = .ok (.iinc 2 1, 3) := by decide +kernel
theorem dX10_restore_52 : decode cX10_restore 52 = .ok (.goto (-26), 3) := by decide +kernel
theorem dX10_restore_55 : decode cX10_restore 55 = .ok (.iconst 1, 1) := by decide +kernel
theorem dX10_restore_56 : decode cX10_restore 56 = .ok (.ireturn, 1) := by decide +kernel
theorem dX10_demanded_0 : decode cX10_demanded 0 = .ok (.iconst 0, 1) := by decide +kernel
theorem dX10_demanded_1 : decode cX10_demanded 1 = .ok (.istore_n 1, 1) := by decide +kernel
theorem dX10_demanded_2 : decode cX10_demanded 2 = .ok (.iconst 0, 1) := by decide +kernel
theorem dX10_demanded_3 : decode cX10_demanded 3 = .ok (.istore_n 2, 1) := by decide +kernel
theorem dX10_demanded_4 : decode cX10_demanded 4 = .ok (.iload_n 2, 1) := by decide +kernel
theorem dX10_demanded_5 : decode cX10_demanded 5 = .ok (.iconst 5, 1) := by decide +kernel
theorem dX10_demanded_6 : decode cX10_demanded 6 = .ok (.if_icmp .ge 29, 3) := by decide +kernel
theorem dX10_demanded_9 : decode cX10_demanded 9 = .ok (.iload_n 1, 1) := by decide +kernel
theorem dX10_demanded_10 : decode cX10_demanded 10 = .ok (.aload_n 0, 1) := by decide +kernel
theorem dX10_demanded_11 : decode cX10_demanded 11 = .ok (.getfield 7, 3) := by decide +kernel
theorem dX10_demanded_14 : decode cX10_demanded 14 = .ok (.bipush 13, 2) := by decide +kernel
theorem dX10_demanded_16 : decode cX10_demanded 16 = .ok (.iload_n 2, 1) := by decide +kernel
theorem dX10_demanded_17 : decode cX10_demanded 17 = .ok (.iadd, 1) := by decide +kernel
theorem dX10_demanded_18 : decode cX10_demanded 18 = .ok (.iaload, 1) := by decide +kernel
theorem dX10_demanded_19 : decode cX10_demanded 19 = .ok (.ifCond .le 7, 3) := by decide +kernel
theorem dX10_demanded_22 : decode cX10_demanded 22 = .ok (.iconst 1, 1) := by decide +kernel
theorem dX10_demanded_23 : decode cX10_demanded 23 = .ok (.goto 4, 3) := by decide +kernel
theorem dX10_demanded_26 : decode cX10_demanded 26 = .ok (.iconst 0, 1) := by decide +kernel
theorem dX10_demanded_27 : decode cX10_demanded 27 = .ok (.iadd, 1) := by decide +kernel
theorem dX10_demanded_28 : decode cX10_demanded 28 = .ok (.istore_n 1, 1) := by decide +kernel
theorem dX10_demanded_29 : decode cX10_demanded 29 = .ok (.iinc 2 1, 3) := by decide +kernel
theorem dX10_demanded_32 : decode cX10_demanded 32 = .ok (.goto (-28), 3) := by decide +kernel
theorem dX10_demanded_35 : decode cX10_demanded 35 = .ok (.iload_n 1, 1) := by decide +kernel
theorem dX10_demanded_36 : decode cX10_demanded 36 = .ok (.ireturn, 1) := by decide +kernel
theorem dX10_count_0 : decode cX10_count 0 = .ok (.iload_n 1, 1) := by decide +kernel
theorem dX10_count_1 : decode cX10_count 1 = .ok (.tableswitch 93 0 4 #[35, 40, 45, 50, 63], 35) := by decide +kernel
theorem dX10_count_36 : decode cX10_count 36 = .ok (.aload_n 0, 1) := by decide +kernel
theorem dX10_count_37 : decode cX10_count 37 = .ok (.invokevirtual 49, 3) := by decide +kernel
theorem dX10_count_40 : decode cX10_count 40 = .ok (.ireturn, 1) := by decide +kernel
theorem dX10_count_41 : decode cX10_count 41 = .ok (.aload_n 0, 1) := by decide +kernel
theorem dX10_count_42 : decode cX10_count 42 = .ok (.invokevirtual 163, 3) := by decide +kernel
theorem dX10_count_45 : decode cX10_count 45 = .ok (.ireturn, 1) := by decide +kernel
theorem dX10_count_46 : decode cX10_count 46 = .ok (.aload_n 0, 1) := by decide +kernel
theorem dX10_count_47 : decode cX10_count 47 = .ok (.getfield 139, 3) := by decide +kernel
theorem dX10_count_50 : decode cX10_count 50 = .ok (.ireturn, 1) := by decide +kernel
theorem dX10_count_51 : decode cX10_count 51 = .ok (.aload_n 0, 1) := by decide +kernel
theorem dX10_count_52 : decode cX10_count 52 = .ok (.invokevirtual 154, 3) := by decide +kernel
theorem dX10_count_55 : decode cX10_count 55 = .ok (.ifCond .eq 7, 3) := by decide +kernel
theorem dX10_count_58 : decode cX10_count 58 = .ok (.iconst 1, 1) := by decide +kernel
theorem dX10_count_59 : decode cX10_count 59 = .ok (.goto 4, 3) := by decide +kernel
theorem dX10_count_62 : decode cX10_count 62 = .ok (.iconst 0, 1) := by decide +kernel
theorem dX10_count_63 : decode cX10_count 63 = .ok (.ireturn, 1) := by decide +kernel
theorem dX10_count_64 : decode cX10_count 64 = .ok (.aload_n 0, 1) := by decide +kernel
theorem dX10_count_65 : decode cX10_count 65 = .ok (.getfield 16, 3) := by decide +kernel
theorem dX10_count_68 : decode cX10_count 68 = .ok (.iconst 0, 1) := by decide +kernel
theorem dX10_count_69 : decode cX10_count 69 = .ok (.baload, 1) := by decide +kernel
theorem dX10_count_70 : decode cX10_count 70 = .ok (.ifCond .eq 7, 3) := by decide +kernel
theorem dX10_count_73 : decode cX10_count 73 = .ok (.iconst 1, 1) := by decide +kernel
theorem dX10_count_74 : decode cX10_count 74 = .ok (.goto 4, 3) := by decide +kernel
theorem dX10_count_77 : decode cX10_count 77 = .ok (.iconst 0, 1) := by decide +kernel
theorem dX10_count_78 : decode cX10_count 78 = .ok (.aload_n 0, 1) := by decide +kernel
theorem dX10_count_79 : decode cX10_count 79 = .ok (.getfield 16, 3) := by decide +kernel
theorem dX10_count_82 : decode cX10_count 82 = .ok (.iconst 1, 1) := by decide +kernel
theorem dX10_count_83 : decode cX10_count 83 = .ok (.baload, 1) := by decide +kernel
theorem dX10_count_84 : decode cX10_count 84 = .ok (.ifCond .eq 7, 3) := by decide +kernel
theorem dX10_count_87 : decode cX10_count 87 = .ok (.iconst 2, 1) := by decide +kernel
theorem dX10_count_88 : decode cX10_count 88 = .ok (.goto 4, 3) := by decide +kernel
theorem dX10_count_91 : decode cX10_count 91 = .ok (.iconst 0, 1) := by decide +kernel
theorem dX10_count_92 : decode cX10_count 92 = .ok (.iadd, 1) := by decide +kernel
theorem dX10_count_93 : decode cX10_count 93 = .ok (.ireturn, 1) := by decide +kernel
theorem dX10_count_94 : decode cX10_count 94 = .ok (.bipush (-2), 2) := by decide +kernel
theorem dX10_count_96 : decode cX10_count 96 = .ok (.ireturn, 1) := by decide +kernel
