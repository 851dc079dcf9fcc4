theorem dX0_init_0 : decode cX0_init 0 = .ok (.aload_n 0, 1) := by decide +kernel
theorem dX0_init_1 : decode cX0_init 1 = .ok (.aload_n 1, 1) := by decide +kernel
theorem dX0_init_2 : decode cX0_init 2 = .ok (.aload_n 2, 1) := by decide +kernel
theorem dX0_init_3 : decode cX0_init 3 = .ok (.invokespecial 3, 3) := by decide +kernel
theorem dX0_init_6 : decode cX0_init 6 = .ok (.aload_n 0, 1) := by decide +kernel
theorem dX0_init_7 : decode cX0_init 7 = .ok (.bipush 9, 2) := by decide +kernel
theorem dX0_init_9 : decode cX0_init 9 = .ok (.newarray .int, 2) := by decide +kernel
theorem dX0_init_11 : decode cX0_init 11 = .ok (.putfield 9, 3) := by decide +kernel
theorem dX0_init_14 : decode cX0_init 14 = .ok (.aload_n 0, 1) := by decide +kernel
theorem dX0_init_15 : decode cX0_init 15 = .ok (.iconst 0, 1) := by decide +kernel
theorem dX0_init_16 : decode cX0_init 16 = .ok (.putfield 15, 3) := by decide +kernel
theorem dX0_init_19 : decode cX0_init 19 = .ok (.aload_n 0, 1) := by decide +kernel
theorem dX0_init_20 : decode cX0_init 20 = .ok (.iconst 0, 1) := by decide +kernel
theorem dX0_init_21 : decode cX0_init 21 = .ok (.putfield 19, 3) := by decide +kernel
theorem dX0_init_24 : decode cX0_init 24 = .ok (.return_, 1) := by decide +kernel
theorem dX0_begin_0 : decode cX0_begin 0 = .ok (.aload_n 0, 1) := by decide +kernel
theorem dX0_begin_1 : decode cX0_begin 1 = .ok (.getfield 22, 3) := by decide +kernel
theorem dX0_begin_4 : decode cX0_begin 4 = .ok (.aload_n 0, 1) := by decide +kernel
theorem dX0_begin_5 : decode cX0_begin 5 = .ok (.getfield 26, 3) := by decide +kernel
theorem dX0_begin_8 : decode cX0_begin 8 = .ok (.invokevirtual 29, 3) := by decide +kernel
theorem dX0_begin_11 : decode cX0_begin 11 = .ok (.aload_n 0, 1) := by decide +kernel
theorem dX0_begin_12 : decode cX0_begin 12 = .ok (.aload_n 0, 1) := by decide +kernel
theorem dX0_begin_13 : decode cX0_begin 13 = .ok (.getfield 22, 3) := by decide +kernel
theorem dX0_begin_16 : decode cX0_begin 16 = .ok (.invokevirtual 35, 3) := by decide +kernel
theorem dX0_begin_19 : decode cX0_begin 19 = .ok (.putfield 15, 3) := by decide +kernel
theorem dX0_begin_22 : decode cX0_begin 22 = .ok (.aload_n 0, 1) := by decide +kernel
theorem dX0_begin_23 : decode cX0_begin 23 = .ok (.iconst 0, 1) := by decide +kernel
theorem dX0_begin_24 : decode cX0_begin 24 = .ok (.putfield 19, 3) := by decide +kernel
theorem dX0_begin_27 : decode cX0_begin 27 = .ok (.return_, 1) := by decide +kernel
theorem dX0_matters_0 : decode cX0_matters 0 = .ok (.aload_n 0, 1) := by decide +kernel
theorem dX0_matters_1 : decode cX0_matters 1 = .ok (.getfield 22, 3) := by decide +kernel
theorem dX0_matters_4 : decode cX0_matters 4 = .ok (.invokevirtual 35, 3) := by decide +kernel
theorem dX0_matters_7 : decode cX0_matters 7 = .ok (.aload_n 0, 1) := by decide +kernel
theorem dX0_matters_8 : decode cX0_matters 8 = .ok (.getfield 15, 3) := by decide +kernel
theorem dX0_matters_11 : decode cX0_matters 11 = .ok (.if_icmp .gt 7, 3) := by decide +kernel
theorem dX0_matters_14 : decode cX0_matters 14 = .ok (.iconst 1, 1) := by decide +kernel
theorem dX0_matters_15 : decode cX0_matters 15 = .ok (.goto 4, 3) := by decide +kernel
theorem dX0_matters_18 : decode cX0_matters 18 = .ok (.iconst 0, 1) := by decide +kernel
theorem dX0_matters_19 : decode cX0_matters 19 = .ok (.ireturn, 1) := by decide +kernel
theorem dX0_note_0 : decode cX0_note 0 = .ok (.aload_n 0, 1) := by decide +kernel
theorem dX0_note_1 : decode cX0_note 1 = .ok (.getfield 19, 3) := by decide +kernel
theorem dX0_note_4 : decode cX0_note 4 = .ok (.ifCond .eq 17, 3) := by decide +kernel
theorem dX0_note_7 : decode cX0_note 7 = .ok (.aload_n 0, 1) := by decide +kernel
theorem dX0_note_8 : decode cX0_note 8 = .ok (.getfield 22, 3) := by decide +kernel
theorem dX0_note_11 : decode cX0_note 11 = .ok (.invokevirtual 35, 3) := by decide +kernel
theorem dX0_note_14 : decode cX0_note 14 = .ok (.aload_n 0, 1) := by decide +kernel
theorem dX0_note_15 : decode cX0_note 15 = .ok (.getfield 15, 3) := by decide +kernel
theorem dX0_note_18 : decode cX0_note 18 = .ok (.if_icmp .ge 27, 3) := by decide +kernel
theorem dX0_note_21 : decode cX0_note 21 = .ok (.aload_n 0, 1) := by decide +kernel
theorem dX0_note_22 : decode cX0_note 22 = .ok (.aload_n 0, 1) := by decide +kernel
theorem dX0_note_23 : decode cX0_note 23 = .ok (.getfield 22, 3) := by decide +kernel
theorem dX0_note_26 : decode cX0_note 26 = .ok (.invokevirtual 35, 3) := by decide +kernel
theorem dX0_note_29 : decode cX0_note 29 = .ok (.putfield 15, 3) := by decide +kernel
theorem dX0_note_32 : decode cX0_note 32 = .ok (.aload_n 0, 1) := by decide +kernel
theorem dX0_note_33 : decode cX0_note 33 = .ok (.iconst 0, 1) := by decide +kernel
theorem dX0_note_34 : decode cX0_note 34 = .ok (.putfield 19, 3) := by decide +kernel
theorem dX0_note_37 : decode cX0_note 37 = .ok (.aload_n 0, 1) := by decide +kernel
theorem dX0_note_38 : decode cX0_note 38 = .ok (.aload_n 0, 1) := by decide +kernel
theorem dX0_note_39 : decode cX0_note 39 = .ok (.getfield 9, 3) := by decide +kernel
theorem dX0_note_42 : decode cX0_note 42 = .ok (.invokevirtual 39, 3) := by decide +kernel
theorem dX0_note_45 : decode cX0_note 45 = .ok (.aload_n 0, 1) := by decide +kernel
theorem dX0_note_46 : decode cX0_note 46 = .ok (.dup, 1) := by decide +kernel
theorem dX0_note_47 : decode cX0_note 47 = .ok (.getfield 19, 3) := by decide +kernel
theorem dX0_note_50 : decode cX0_note 50 = .ok (.iconst 1, 1) := by decide +kernel
theorem dX0_note_51 : decode cX0_note 51 = .ok (.iadd, 1) := by decide +kernel
theorem dX0_note_52 : decode cX0_note 52 = .ok (.putfield 19, 3) := by decide +kernel
theorem dX0_note_55 : decode cX0_note 55 = .ok (.return_, 1) := by decide +kernel
theorem dX1_init_0 : decode cX1_init 0 = .ok (.aload_n 0, 1) := by decide +kernel
theorem dX1_init_1 : decode cX1_init 1 = .ok (.aload_n 1, 1) := by decide +kernel
theorem dX1_init_2 : decode cX1_init 2 = .ok (.aload_n 2, 1) := by decide +kernel
theorem dX1_init_3 : decode cX1_init 3 = .ok (.invokespecial 3, 3) := by decide +kernel
theorem dX1_init_6 : decode cX1_init 6 = .ok (.aload_n 0, 1) := by decide +kernel
theorem dX1_init_7 : decode cX1_init 7 = .ok (.bipush 9, 2) := by decide +kernel
theorem dX1_init_9 : decode cX1_init 9 = .ok (.newarray .int, 2) := by decide +kernel
theorem dX1_init_11 : decode cX1_init 11 = .ok (.putfield 9, 3) := by decide +kernel
theorem dX1_init_14 : decode cX1_init 14 = .ok (.aload_n 0, 1) := by decide +kernel
theorem dX1_init_15 : decode cX1_init 15 = .ok (.iconst 0, 1) := by decide +kernel
theorem dX1_init_16 : decode cX1_init 16 = .ok (.putfield 15, 3) := by decide +kernel
theorem dX1_init_19 : decode cX1_init 19 = .ok (.aload_n 0, 1) := by decide +kernel
theorem dX1_init_20 : decode cX1_init 20 = .ok (.aload_n 3, 1) := by decide +kernel
theorem dX1_init_21 : decode cX1_init 21 = .ok (.putfield 19, 3) := by decide +kernel
theorem dX1_init_24 : decode cX1_init 24 = .ok (.return_, 1) := by decide +kernel
theorem dX1_begin_0 : decode cX1_begin 0 = .ok (.aload_n 0, 1) := by decide +kernel
theorem dX1_begin_1 : decode cX1_begin 1 = .ok (.iconst 0, 1) := by decide +kernel
theorem dX1_begin_2 : decode cX1_begin 2 = .ok (.putfield 15, 3) := by decide +kernel
theorem dX1_begin_5 : decode cX1_begin 5 = .ok (.return_, 1) := by decide +kernel
theorem dX1_matters_0 : decode cX1_matters 0 = .ok (.aload_n 0, 1) := by decide +kernel
theorem dX1_matters_1 : decode cX1_matters 1 = .ok (.getfield 19, 3) := by decide +kernel
theorem dX1_matters_4 : decode cX1_matters 4 = .ok (.getfield 23, 3) := by decide +kernel
theorem dX1_matters_7 : decode cX1_matters 7 = .ok (.aload_n 0, 1) := by decide +kernel
theorem dX1_matters_8 : decode cX1_matters 8 = .ok (.getfield 28, 3) := by decide +kernel
theorem dX1_matters_11 : decode cX1_matters 11 = .ok (.if_icmp .ne 13, 3) := by decide +kernel
theorem dX1_matters_14 : decode cX1_matters 14 = .ok (.aload_n 0, 1) := by decide +kernel
theorem dX1_matters_15 : decode cX1_matters 15 = .ok (.getfield 31, 3) := by decide +kernel
theorem dX1_matters_18 : decode cX1_matters 18 = .ok (.invokevirtual 35, 3) := by decide +kernel
theorem dX1_matters_21 : decode cX1_matters 21 = .ok (.ifCond .le 5, 3) := by decide +kernel
theorem dX1_matters_24 : decode cX1_matters 24 = .ok (.iconst 0, 1) := by decide +kernel
theorem dX1_matters_25 : decode cX1_matters 25 = .ok (.ireturn, 1) := by decide +kernel
theorem dX1_matters_26 : decode cX1_matters 26 = .ok (.iload_n 1, 1) := by decide +kernel
theorem dX1_matters_27 : decode cX1_matters 27 = .ok (.ifCond .eq 27, 3) := by decide +kernel
theorem dX1_matters_30 : decode cX1_matters 30 = .ok (.aload_n 0, 1) := by decide +kernel
theorem dX1_matters_31 : decode cX1_matters 31 = .ok (.getfield 19, 3) := by decide +kernel
theorem dX1_matters_34 : decode cX1_matters 34 = .ok (.iload_n 1, 1) := by decide +kernel
theorem dX1_matters_35 : decode cX1_matters 35 = .ok (.iconst 1, 1) := by decide +kernel
theorem dX1_matters_36 : decode cX1_matters 36 = .ok (.isub, 1) := by decide +kernel
theorem dX1_matters_37 : decode cX1_matters 37 = .ok (.aload_n 0, 1) := by decide +kernel
theorem dX1_matters_38 : decode cX1_matters 38 = .ok (.getfield 31, 3) := by decide +kernel
theorem dX1_matters_41 : decode cX1_matters 41 = .ok (.getfield 41, 3) := by decide +kernel
theorem dX1_matters_44 : decode cX1_matters 44 = .ok (.iload_n 1, 1) := by decide +kernel
theorem dX1_matters_45 : decode cX1_matters 45 = .ok (.iconst 1, 1) := by decide +kernel
theorem dX1_matters_46 : decode cX1_matters 46 = .ok (.isub, 1) := by decide +kernel
theorem dX1_matters_47 : decode cX1_matters 47 = .ok (.iaload, 1) := by decide +kernel
theorem dX1_matters_48 : decode cX1_matters 48 = .ok (.invokevirtual 44, 3) := by decide +kernel
theorem dX1_matters_51 : decode cX1_matters 51 = .ok (.ifCond .eq 7, 3) := by decide +kernel
theorem dX1_matters_54 : decode cX1_matters 54 = .ok (.iconst 1, 1) := by decide +kernel
theorem dX1_matters_55 : decode cX1_matters 55 = .ok (.goto 4, 3) := by decide +kernel
theorem dX1_matters_58 : decode cX1_matters 58 = .ok (.iconst 0, 1) := by decide +kernel
theorem dX1_matters_59 : decode cX1_matters 59 = .ok (.ireturn, 1) := by decide +kernel
theorem dX1_note_0 : decode cX1_note 0 = .ok (.aload_n 0, 1) := by decide +kernel
theorem dX1_note_1 : decode cX1_note 1 = .ok (.getfield 15, 3) := by decide +kernel
theorem dX1_note_4 : decode cX1_note 4 = .ok (.ifCond .ne 11, 3) := by decide +kernel
theorem dX1_note_7 : decode cX1_note 7 = .ok (.aload_n 0, 1) := by decide +kernel
theorem dX1_note_8 : decode cX1_note 8 = .ok (.aload_n 0, 1) := by decide +kernel
theorem dX1_note_9 : decode cX1_note 9 = .ok (.getfield 9, 3) := by decide +kernel
theorem dX1_note_12 : decode cX1_note 12 = .ok (.invokevirtual 48, 3) := by decide +kernel
theorem dX1_note_15 : decode cX1_note 15 = .ok (.aload_n 0, 1) := by decide +kernel
theorem dX1_note_16 : decode cX1_note 16 = .ok (.dup, 1) := by decide +kernel
theorem dX1_note_17 : decode cX1_note 17 = .ok (.getfield 15, 3) := by decide +kernel
theorem dX1_note_20 : decode cX1_note 20 = .ok (.iconst 1, 1) := by decide +kernel
theorem dX1_note_21 : decode cX1_note 21 = .ok (.iadd, 1) := by decide +kernel
theorem dX1_note_22 : decode cX1_note 22 = .ok (.putfield 15, 3) := by decide +kernel
theorem dX1_note_25 : decode cX1_note 25 = .ok (.return_, 1) := by decide +kernel
theorem dX2_init_0 : decode cX2_init 0 = .ok (.aload_n 0, 1) := by decide +kernel
theorem dX2_init_1 : decode cX2_init 1 = .ok (.aload_n 1, 1) := by decide +kernel
theorem dX2_init_2 : decode cX2_init 2 = .ok (.aload_n 2, 1) := by decide +kernel
theorem dX2_init_3 : decode cX2_init 3 = .ok (.invokespecial 3, 3) := by decide +kernel
theorem dX2_init_6 : decode cX2_init 6 = .ok (.aload_n 0, 1) := by decide +kernel
theorem dX2_init_7 : decode cX2_init 7 = .ok (.bipush 9, 2) := by decide +kernel
theorem dX2_init_9 : decode cX2_init 9 = .ok (.newarray .int, 2) := by decide +kernel
theorem dX2_init_11 : decode cX2_init 11 = .ok (.putfield 9, 3) := by decide +kernel
theorem dX2_init_14 : decode cX2_init 14 = .ok (.aload_n 0, 1) := by decide +kernel
theorem dX2_init_15 : decode cX2_init 15 = .ok (.bipush 9, 2) := by decide +kernel
theorem dX2_init_17 : decode cX2_init 17 = .ok (.newarray .int, 2) := by decide +kernel
theorem dX2_init_19 : decode cX2_init 19 = .ok (.putfield 15, 3) := by decide +kernel
theorem dX2_init_22 : decode cX2_init 22 = .ok (.aload_n 0, 1) := by decide +kernel
theorem dX2_init_23 : decode cX2_init 23 = .ok (.bipush 9, 2) := by decide +kernel
theorem dX2_init_25 : decode cX2_init 25 = .ok (.newarray .int, 2) := by decide +kernel
theorem dX2_init_27 : decode cX2_init 27 = .ok (.putfield 18, 3) := by decide +kernel
theorem dX2_init_30 : decode cX2_init 30 = .ok (.aload_n 0, 1) := by decide +kernel
theorem dX2_init_31 : decode cX2_init 31 = .ok (.bipush 10, 2) := by decide +kernel
theorem dX2_init_33 : decode cX2_init 33 = .ok (.newarray .int, 2) := by decide +kernel
theorem dX2_init_35 : decode cX2_init 35 = .ok (.putfield 21, 3) := by decide +kernel
theorem dX2_init_38 : decode cX2_init 38 = .ok (.aload_n 0, 1) := by decide +kernel
theorem dX2_init_39 : decode cX2_init 39 = .ok (.bipush 10, 2) := by decide +kernel
theorem dX2_init_41 : decode cX2_init 41 = .ok (.newarray .int, 2) := by decide +kernel
theorem dX2_init_43 : decode cX2_init 43 = .ok (.putfield 24, 3) := by decide +kernel
theorem dX2_init_46 : decode cX2_init 46 = .ok (.aload_n 0, 1) := by decide +kernel
theorem dX2_init_47 : decode cX2_init 47 = .ok (.iconst 0, 1) := by decide +kernel
theorem dX2_init_48 : decode cX2_init 48 = .ok (.putfield 27, 3) := by decide +kernel
theorem dX2_init_51 : decode cX2_init 51 = .ok (.aload_n 0, 1) := by decide +kernel
theorem dX2_init_52 : decode cX2_init 52 = .ok (.iconst 0, 1) := by decide +kernel
theorem dX2_init_53 : decode cX2_init 53 = .ok (.putfield 31, 3) := by decide +kernel
theorem dX2_init_56 : decode cX2_init 56 = .ok (.return_, 1) := by decide +kernel
theorem dX2_begin_0 : decode cX2_begin 0 = .ok (.aload_n 0, 1) := by decide +kernel
theorem dX2_begin_1 : decode cX2_begin 1 = .ok (.iconst 0, 1) := by decide +kernel
theorem dX2_begin_2 : decode cX2_begin 2 = .ok (.putfield 27, 3) := by decide +kernel
theorem dX2_begin_5 : decode cX2_begin 5 = .ok (.iconst 0, 1) := by decide +kernel
theorem dX2_begin_6 : decode cX2_begin 6 = .ok (.istore_n 1, 1) := by decide +kernel
theorem dX2_begin_7 : decode cX2_begin 7 = .ok (.iload_n 1, 1) := by decide +kernel
theorem dX2_begin_8 : decode cX2_begin 8 = .ok (.bipush 9, 2) := by decide +kernel
theorem dX2_begin_10 : decode cX2_begin 10 = .ok (.if_icmp .ge 16, 3) := by decide +kernel
theorem dX2_begin_13 : decode cX2_begin 13 = .ok (.aload_n 0, 1) := by decide +kernel
theorem dX2_begin_14 : decode cX2_begin 14 = .ok (.getfield 18, 3) := by decide +kernel
theorem dX2_begin_17 : decode cX2_begin 17 = .ok (.iload_n 1, 1) := by decide +kernel
theorem dX2_begin_18 : decode cX2_begin 18 = .ok (.iconst 0, 1) := by decide +kernel
theorem dX2_begin_19 : decode cX2_begin 19 = .ok (.iastore, 1) := by decide +kernel
theorem dX2_begin_20 : decode cX2_begin 20 = .ok (.iinc 1 1, 3) := by decide +kernel
theorem dX2_begin_23 : decode cX2_begin 23 = .ok (.goto (-16), 3) := by decide +kernel
theorem dX2_begin_26 : decode cX2_begin 26 = .ok (.return_, 1) := by decide +kernel
theorem dX2_matters_0 : decode cX2_matters 0 = .ok (.aload_n 0, 1) := by decide +kernel
theorem dX2_matters_1 : decode cX2_matters 1 = .ok (.getfield 34, 3) := by decide +kernel
theorem dX2_matters_4 : decode cX2_matters 4 = .ok (.invokevirtual 38, 3) := by decide +kernel
theorem dX2_matters_7 : decode cX2_matters 7 = .ok (.ifCond .le 5, 3) := by decide +kernel
theorem dX2_matters_10 : decode cX2_matters 10 = .ok (.iconst 0, 1) := by decide +kernel
theorem dX2_matters_11 : decode cX2_matters 11 = .ok (.ireturn, 1) := by decide +kernel
theorem dX2_matters_12 : decode cX2_matters 12 = .ok (.iload_n 1, 1) := by decide +kernel
theorem dX2_matters_13 : decode cX2_matters 13 = .ok (.ifCond .le 47, 3) := by decide +kernel
theorem dX2_matters_16 : decode cX2_matters 16 = .ok (.aload_n 0, 1) := by decide +kernel
theorem dX2_matters_17 : decode cX2_matters 17 = .ok (.getfield 34, 3) := by decide +kernel
theorem dX2_matters_20 : decode cX2_matters 20 = .ok (.getfield 44, 3) := by decide +kernel
theorem dX2_matters_23 : decode cX2_matters 23 = .ok (.iload_n 1, 1) := by decide +kernel
theorem dX2_matters_24 : decode cX2_matters 24 = .ok (.iconst 1, 1) := by decide +kernel
theorem dX2_matters_25 : decode cX2_matters 25 = .ok (.isub, 1) := by decide +kernel
theorem dX2_matters_26 : decode cX2_matters 26 = .ok (.iaload, 1) := by decide +kernel
theorem dX2_matters_27 : decode cX2_matters 27 = .ok (.aload_n 0, 1) := by decide +kernel
theorem dX2_matters_28 : decode cX2_matters 28 = .ok (.getfield 21, 3) := by decide +kernel
theorem dX2_matters_31 : decode cX2_matters 31 = .ok (.iload_n 1, 1) := by decide +kernel
theorem dX2_matters_32 : decode cX2_matters 32 = .ok (.iconst 1, 1) := by decide +kernel
theorem dX2_matters_33 : decode cX2_matters 33 = .ok (.isub, 1) := by decide +kernel
theorem dX2_matters_34 : decode cX2_matters 34 = .ok (.iaload, 1) := by decide +kernel
theorem dX2_matters_35 : decode cX2_matters 35 = .ok (.if_icmp .ne 7, 3) := by decide +kernel
theorem dX2_matters_38 : decode cX2_matters 38 = .ok (.iconst 0, 1) := by decide +kernel
theorem dX2_matters_39 : decode cX2_matters 39 = .ok (.goto 4, 3) := by decide +kernel
theorem dX2_matters_42 : decode cX2_matters 42 = .ok (.iconst 1, 1) := by decide +kernel
theorem dX2_matters_43 : decode cX2_matters 43 = .ok (.istore_n 2, 1) := by decide +kernel
theorem dX2_matters_44 : decode cX2_matters 44 = .ok (.aload_n 0, 1) := by decide +kernel
theorem dX2_matters_45 : decode cX2_matters 45 = .ok (.getfield 24, 3) := by decide +kernel
theorem dX2_matters_48 : decode cX2_matters 48 = .ok (.iload_n 1, 1) := by decide +kernel
theorem dX2_matters_49 : decode cX2_matters 49 = .ok (.aload_n 0, 1) := by decide +kernel
theorem dX2_matters_50 : decode cX2_matters 50 = .ok (.getfield 24, 3) := by decide +kernel
theorem dX2_matters_53 : decode cX2_matters 53 = .ok (.iload_n 1, 1) := by decide +kernel
theorem dX2_matters_54 : decode cX2_matters 54 = .ok (.iconst 1, 1) := by decide +kernel
theorem dX2_matters_55 : decode cX2_matters 55 = .ok (.isub, 1) := by decide +kernel
theorem dX2_matters_56 : decode cX2_matters 56 = .ok (.iaload, 1) := by decide +kernel
theorem dX2_matters_57 : decode cX2_matters 57 = .ok (.iload_n 2, 1) := by decide +kernel
theorem dX2_matters_58 : decode cX2_matters 58 = .ok (.iadd, 1) := by decide +kernel
theorem dX2_matters_59 : decode cX2_matters 59 = .ok (.iastore, 1) := by decide +kernel
theorem dX2_matters_60 : decode cX2_matters 60 = .ok (.aload_n 0, 1) := by decide +kernel
theorem dX2_matters_61 : decode cX2_matters 61 = .ok (.getfield 21, 3) := by decide +kernel
theorem dX2_matters_64 : decode cX2_matters 64 = .ok (.iload_n 1, 1) := by decide +kernel
theorem dX2_matters_65 : decode cX2_matters 65 = .ok (.aload_n 0, 1) := by decide +kernel
theorem dX2_matters_66 : decode cX2_matters 66 = .ok (.getfield 34, 3) := by decide +kernel
theorem dX2_matters_69 : decode cX2_matters 69 = .ok (.invokevirtual 47, 3) := by decide +kernel
theorem dX2_matters_72 : decode cX2_matters 72 = .ok (.iastore, 1) := by decide +kernel
theorem dX2_matters_73 : decode cX2_matters 73 = .ok (.iconst 1, 1) := by decide +kernel
theorem dX2_matters_74 : decode cX2_matters 74 = .ok (.ireturn, 1) := by decide +kernel
theorem dX2_note_0 : decode cX2_note 0 = .ok (.aload_n 0, 1) := by decide +kernel
theorem dX2_note_1 : decode cX2_note 1 = .ok (.getfield 27, 3) := by decide +kernel
theorem dX2_note_4 : decode cX2_note 4 = .ok (.ifCond .ne 11, 3) := by decide +kernel
theorem dX2_note_7 : decode cX2_note 7 = .ok (.aload_n 0, 1) := by decide +kernel
theorem dX2_note_8 : decode cX2_note 8 = .ok (.aload_n 0, 1) := by decide +kernel
theorem dX2_note_9 : decode cX2_note 9 = .ok (.getfield 9, 3) := by decide +kernel
theorem dX2_note_12 : decode cX2_note 12 = .ok (.invokevirtual 50, 3) := by decide +kernel
theorem dX2_note_15 : decode cX2_note 15 = .ok (.aload_n 0, 1) := by decide +kernel
theorem dX2_note_16 : decode cX2_note 16 = .ok (.getfield 27, 3) := by decide +kernel
theorem dX2_note_19 : decode cX2_note 19 = .ok (.ifCond .eq 19, 3) := by decide +kernel
theorem dX2_note_22 : decode cX2_note 22 = .ok (.aload_n 0, 1) := by decide +kernel
theorem dX2_note_23 : decode cX2_note 23 = .ok (.getfield 24, 3) := by decide +kernel
theorem dX2_note_26 : decode cX2_note 26 = .ok (.aload_n 0, 1) := by decide +kernel
theorem dX2_note_27 : decode cX2_note 27 = .ok (.getfield 54, 3) := by decide +kernel
theorem dX2_note_30 : decode cX2_note 30 = .ok (.iaload, 1) := by decide +kernel
theorem dX2_note_31 : decode cX2_note 31 = .ok (.aload_n 0, 1) := by decide +kernel
theorem dX2_note_32 : decode cX2_note 32 = .ok (.getfield 31, 3) := by decide +kernel
theorem dX2_note_35 : decode cX2_note 35 = .ok (.if_icmp .ge 24, 3) := by decide +kernel
theorem dX2_note_38 : decode cX2_note 38 = .ok (.aload_n 0, 1) := by decide +kernel
theorem dX2_note_39 : decode cX2_note 39 = .ok (.aload_n 0, 1) := by decide +kernel
theorem dX2_note_40 : decode cX2_note 40 = .ok (.getfield 24, 3) := by decide +kernel
theorem dX2_note_43 : decode cX2_note 43 = .ok (.aload_n 0, 1) := by decide +kernel
theorem dX2_note_44 : decode cX2_note 44 = .ok (.getfield 54, 3) := by decide +kernel
theorem dX2_note_47 : decode cX2_note 47 = .ok (.iaload, 1) := by decide +kernel
theorem dX2_note_48 : decode cX2_note 48 = .ok (.putfield 31, 3) := by decide +kernel
theorem dX2_note_51 : decode cX2_note 51 = .ok (.aload_n 0, 1) := by decide +kernel
theorem dX2_note_52 : decode cX2_note 52 = .ok (.aload_n 0, 1) := by decide +kernel
theorem dX2_note_53 : decode cX2_note 53 = .ok (.getfield 15, 3) := by decide +kernel
theorem dX2_note_56 : decode cX2_note 56 = .ok (.invokevirtual 50, 3) := by decide +kernel
theorem dX2_note_59 : decode cX2_note 59 = .ok (.aload_n 0, 1) := by decide +kernel
theorem dX2_note_60 : decode cX2_note 60 = .ok (.dup, 1) := by decide +kernel
theorem dX2_note_61 : decode cX2_note 61 = .ok (.getfield 27, 3) := by decide +kernel
theorem dX2_note_64 : decode cX2_note 64 = .ok (.iconst 1, 1) := by decide +kernel
theorem dX2_note_65 : decode cX2_note 65 = .ok (.iadd, 1) := by decide +kernel
theorem dX2_note_66 : decode cX2_note 66 = .ok (.putfield 27, 3) := by decide +kernel
theorem dX2_note_69 : decode cX2_note 69 = .ok (.iconst 0, 1) := by decide +kernel
theorem dX2_note_70 : decode cX2_note 70 = .ok (.istore_n 1, 1) := by decide +kernel
theorem dX2_note_71 : decode cX2_note 71 = .ok (.iload_n 1, 1) := by decide +kernel
theorem dX2_note_72 : decode cX2_note 72 = .ok (.aload_n 0, 1) := by decide +kernel
theorem dX2_note_73 : decode cX2_note 73 = .ok (.getfield 54, 3) := by decide +kernel
theorem dX2_note_76 : decode cX2_note 76 = .ok (.if_icmp .ge 29, 3) := by decide +kernel
theorem dX2_note_79 : decode cX2_note 79 = .ok (.aload_n 0, 1) := by decide +kernel
theorem dX2_note_80 : decode cX2_note 80 = .ok (.getfield 18, 3) := by decide +kernel
theorem dX2_note_83 : decode cX2_note 83 = .ok (.iload_n 1, 1) := by decide +kernel
theorem dX2_note_84 : decode cX2_note 84 = .ok (.dup2, 1) := by decide +kernel
theorem dX2_note_85 : decode cX2_note 85 = .ok (.iaload, 1) := by decide +kernel
theorem dX2_note_86 : decode cX2_note 86 = .ok (.iconst 1, 1) := by decide +kernel
theorem dX2_note_87 : decode cX2_note 87 = .ok (.aload_n 0, 1) := by decide +kernel
theorem dX2_note_88 : decode cX2_note 88 = .ok (.getfield 34, 3) := by decide +kernel
theorem dX2_note_91 : decode cX2_note 91 = .ok (.getfield 44, 3) := by decide +kernel
theorem dX2_note_94 : decode cX2_note 94 = .ok (.iload_n 1, 1) := by decide +kernel
theorem dX2_note_95 : decode cX2_note 95 = .ok (.iaload, 1) := by decide +kernel
theorem dX2_note_96 : decode cX2_note 96 = .ok (.ishl, 1) := by decide +kernel
theorem dX2_note_97 : decode cX2_note 97 = .ok (.ior, 1) := by decide +kernel
theorem dX2_note_98 : decode cX2_note 98 = .ok (.iastore, 1) := by decide +kernel
theorem dX2_note_99 : decode cX2_note 99 = .ok (.iinc 1 1, 3) := by decide +kernel
theorem dX2_note_102 : decode cX2_note 102 = .ok (.goto (-31), 3) := by decide +kernel
theorem dX2_note_105 : decode cX2_note 105 = .ok (.return_, 1) := by decide +kernel
theorem dX3_init_0 : decode cX3_init 0 = .ok (.aload_n 0, 1) := by decide +kernel
theorem dX3_init_1 : decode cX3_init 1 = .ok (.aload_n 1, 1) := by decide +kernel
theorem dX3_init_2 : decode cX3_init 2 = .ok (.aload_n 2, 1) := by decide +kernel
theorem dX3_init_3 : decode cX3_init 3 = .ok (.invokespecial 3, 3) := by decide +kernel
theorem dX3_init_6 : decode cX3_init 6 = .ok (.aload_n 0, 1) := by decide +kernel
theorem dX3_init_7 : decode cX3_init 7 = .ok (.iconst 0, 1) := by decide +kernel
theorem dX3_init_8 : decode cX3_init 8 = .ok (.putfield 9, 3) := by decide +kernel
theorem dX3_init_11 : decode cX3_init 11 = .ok (.aload_n 0, 1) := by decide +kernel
theorem dX3_init_12 : decode cX3_init 12 = .ok (.bipush 10, 2) := by decide +kernel
theorem dX3_init_14 : decode cX3_init 14 = .ok (.newarray .int, 2) := by decide +kernel
theorem dX3_init_16 : decode cX3_init 16 = .ok (.putfield 15, 3) := by decide +kernel
theorem dX3_init_19 : decode cX3_init 19 = .ok (.return_, 1) := by decide +kernel
theorem dX3_begin_0 : decode cX3_begin 0 = .ok (.aload_n 0, 1) := by decide +kernel
theorem dX3_begin_1 : decode cX3_begin 1 = .ok (.iconst 0, 1) := by decide +kernel
theorem dX3_begin_2 : decode cX3_begin 2 = .ok (.putfield 9, 3) := by decide +kernel
theorem dX3_begin_5 : decode cX3_begin 5 = .ok (.iconst 0, 1) := by decide +kernel
theorem dX3_begin_6 : decode cX3_begin 6 = .ok (.istore_n 1, 1) := by decide +kernel
theorem dX3_begin_7 : decode cX3_begin 7 = .ok (.iload_n 1, 1) := by decide +kernel
theorem dX3_begin_8 : decode cX3_begin 8 = .ok (.bipush 9, 2) := by decide +kernel
theorem dX3_begin_10 : decode cX3_begin 10 = .ok (.if_icmp .gt 27, 3) := by decide +kernel
theorem dX3_begin_13 : decode cX3_begin 13 = .ok (.aload_n 0, 1) := by decide +kernel
theorem dX3_begin_14 : decode cX3_begin 14 = .ok (.getfield 15, 3) := by decide +kernel
theorem dX3_begin_17 : decode cX3_begin 17 = .ok (.iload_n 1, 1) := by decide +kernel
theorem dX3_begin_18 : decode cX3_begin 18 = .ok (.aload_n 0, 1) := by decide +kernel
theorem dX3_begin_19 : decode cX3_begin 19 = .ok (.getfield 19, 3) := by decide +kernel
theorem dX3_begin_22 : decode cX3_begin 22 = .ok (.iload_n 1, 1) := by decide +kernel
theorem dX3_begin_23 : decode cX3_begin 23 = .ok (.aload_n 0, 1) := by decide +kernel
theorem dX3_begin_24 : decode cX3_begin 24 = .ok (.getfield 23, 3) := by decide +kernel
theorem dX3_begin_27 : decode cX3_begin 27 = .ok (.invokevirtual 26, 3) := by decide +kernel
theorem dX3_begin_30 : decode cX3_begin 30 = .ok (.iastore, 1) := by decide +kernel
theorem dX3_begin_31 : decode cX3_begin 31 = .ok (.iinc 1 1, 3) := by decide +kernel
theorem dX3_begin_34 : decode cX3_begin 34 = .ok (.goto (-27), 3) := by decide +kernel
theorem dX3_begin_37 : decode cX3_begin 37 = .ok (.return_, 1) := by decide +kernel
theorem dX3_matters_0 : decode cX3_matters 0 = .ok (.aload_n 0, 1) := by decide +kernel
theorem dX3_matters_1 : decode cX3_matters 1 = .ok (.getfield 32, 3) := by decide +kernel
theorem dX3_matters_4 : decode cX3_matters 4 = .ok (.invokevirtual 36, 3) := by decide +kernel
theorem dX3_matters_7 : decode cX3_matters 7 = .ok (.aload_n 0, 1) := by decide +kernel
theorem dX3_matters_8 : decode cX3_matters 8 = .ok (.getfield 15, 3) := by decide +kernel
theorem dX3_matters_11 : decode cX3_matters 11 = .ok (.iload_n 1, 1) := by decide +kernel
theorem dX3_matters_12 : decode cX3_matters 12 = .ok (.iaload, 1) := by decide +kernel
theorem dX3_matters_13 : decode cX3_matters 13 = .ok (.iadd, 1) := by decide +kernel
theorem dX3_matters_14 : decode cX3_matters 14 = .ok (.aload_n 0, 1) := by decide +kernel
theorem dX3_matters_15 : decode cX3_matters 15 = .ok (.getfield 9, 3) := by decide +kernel
theorem dX3_matters_18 : decode cX3_matters 18 = .ok (.if_icmp .le 7, 3) := by decide +kernel
theorem dX3_matters_21 : decode cX3_matters 21 = .ok (.iconst 1, 1) := by decide +kernel
theorem dX3_matters_22 : decode cX3_matters 22 = .ok (.goto 4, 3) := by decide +kernel
theorem dX3_matters_25 : decode cX3_matters 25 = .ok (.iconst 0, 1) := by decide +kernel
theorem dX3_matters_26 : decode cX3_matters 26 = .ok (.ireturn, 1) := by decide +kernel
theorem dX3_note_0 : decode cX3_note 0 = .ok (.aload_n 0, 1) := by decide +kernel
theorem dX3_note_1 : decode cX3_note 1 = .ok (.aload_n 0, 1) := by decide +kernel
theorem dX3_note_2 : decode cX3_note 2 = .ok (.getfield 32, 3) := by decide +kernel
theorem dX3_note_5 : decode cX3_note 5 = .ok (.invokevirtual 36, 3) := by decide +kernel
theorem dX3_note_8 : decode cX3_note 8 = .ok (.putfield 9, 3) := by decide +kernel
theorem dX3_note_11 : decode cX3_note 11 = .ok (.return_, 1) := by decide +kernel
theorem dX4_init_0 : decode cX4_init 0 = .ok (.aload_n 0, 1) := by decide +kernel
theorem dX4_init_1 : decode cX4_init 1 = .ok (.invokespecial 3, 3) := by decide +kernel
theorem dX4_init_4 : decode cX4_init 4 = .ok (.aload_n 0, 1) := by decide +kernel
theorem dX4_init_5 : decode cX4_init 5 = .ok (.bipush 9, 2) := by decide +kernel
theorem dX4_init_7 : decode cX4_init 7 = .ok (.newarray .int, 2) := by decide +kernel
theorem dX4_init_9 : decode cX4_init 9 = .ok (.putfield 9, 3) := by decide +kernel
theorem dX4_init_12 : decode cX4_init 12 = .ok (.aload_n 0, 1) := by decide +kernel
theorem dX4_init_13 : decode cX4_init 13 = .ok (.iconst 0, 1) := by decide +kernel
theorem dX4_init_14 : decode cX4_init 14 = .ok (.putfield 15, 3) := by decide +kernel
theorem dX4_init_17 : decode cX4_init 17 = .ok (.return_, 1) := by decide +kernel
theorem dX4_add_0 : decode cX4_add 0 = .ok (.aload_n 0, 1) := by decide +kernel
theorem dX4_add_1 : decode cX4_add 1 = .ok (.getfield 15, 3) := by decide +kernel
theorem dX4_add_4 : decode cX4_add 4 = .ok (.bipush 9, 2) := by decide +kernel
theorem dX4_add_6 : decode cX4_add 6 = .ok (.if_icmp .ge 23, 3) := by decide +kernel
theorem dX4_add_9 : decode cX4_add 9 = .ok (.aload_n 0, 1) := by decide +kernel
theorem dX4_add_10 : decode cX4_add 10 = .ok (.getfield 9, 3) := by decide +kernel
theorem dX4_add_13 : decode cX4_add 13 = .ok (.aload_n 0, 1) := by decide +kernel
theorem dX4_add_14 : decode cX4_add 14 = .ok (.getfield 15, 3) := by decide +kernel
theorem dX4_add_17 : decode cX4_add 17 = .ok (.iload_n 1, 1) := by decide +kernel
theorem dX4_add_18 : decode cX4_add 18 = .ok (.iastore, 1) := by decide +kernel
theorem dX4_add_19 : decode cX4_add 19 = .ok (.aload_n 0, 1) := by decide +kernel
theorem dX4_add_20 : decode cX4_add 20 = .ok (.dup, 1) := by decide +kernel
theorem dX4_add_21 : decode cX4_add 21 = .ok (.getfield 15, 3) := by decide +kernel
theorem dX4_add_24 : decode cX4_add 24 = .ok (.iconst 1, 1) := by decide +kernel
theorem dX4_add_25 : decode cX4_add 25 = .ok (.iadd, 1) := by decide +kernel
theorem dX4_add_26 : decode cX4_add 26 = .ok (.putfield 15, 3) := by decide +kernel
theorem dX4_add_29 : decode cX4_add 29 = .ok (.return_, 1) := by decide +kernel
theorem dX4_signAt_0 : decode cX4_signAt 0 = .ok (.iload_n 1, 1) := by decide +kernel
theorem dX4_signAt_1 : decode cX4_signAt 1 = .ok (.ifCond .lt 20, 3) := by decide +kernel
theorem dX4_signAt_4 : decode cX4_signAt 4 = .ok (.iload_n 1, 1) := by decide +kernel
theorem dX4_signAt_5 : decode cX4_signAt 5 = .ok (.aload_n 0, 1) := by decide +kernel
theorem dX4_signAt_6 : decode cX4_signAt 6 = .ok (.getfield 15, 3) := by decide +kernel
theorem dX4_signAt_9 : decode cX4_signAt 9 = .ok (.if_icmp .ge 12, 3) := by decide +kernel
theorem dX4_signAt_12 : decode cX4_signAt 12 = .ok (.aload_n 0, 1) := by decide +kernel
theorem dX4_signAt_13 : decode cX4_signAt 13 = .ok (.getfield 9, 3) := by decide +kernel
theorem dX4_signAt_16 : decode cX4_signAt 16 = .ok (.iload_n 1, 1) := by decide +kernel
theorem dX4_signAt_17 : decode cX4_signAt 17 = .ok (.iaload, 1) := by decide +kernel
theorem dX4_signAt_18 : decode cX4_signAt 18 = .ok (.goto 4, 3) := by decide +kernel
theorem dX4_signAt_21 : decode cX4_signAt 21 = .ok (.iconst (-1), 1) := by decide +kernel
theorem dX4_signAt_22 : decode cX4_signAt 22 = .ok (.ireturn, 1) := by decide +kernel
theorem dX4_hasAny_0 : decode cX4_hasAny 0 = .ok (.iconst 0, 1) := by decide +kernel
theorem dX4_hasAny_1 : decode cX4_hasAny 1 = .ok (.istore_n 1, 1) := by decide +kernel
theorem dX4_hasAny_2 : decode cX4_hasAny 2 = .ok (.iload_n 1, 1) := by decide +kernel
theorem dX4_hasAny_3 : decode cX4_hasAny 3 = .ok (.aload_n 0, 1) := by decide +kernel
theorem dX4_hasAny_4 : decode cX4_hasAny 4 = .ok (.getfield 15, 3) := by decide +kernel
theorem dX4_hasAny_7 : decode cX4_hasAny 7 = .ok (.if_icmp .ge 21, 3) := by decide +kernel
theorem dX4_hasAny_10 : decode cX4_hasAny 10 = .ok (.aload_n 0, 1) := by decide +kernel
theorem dX4_hasAny_11 : decode cX4_hasAny 11 = .ok (.getfield 9, 3) := by decide +kernel
theorem dX4_hasAny_14 : decode cX4_hasAny 14 = .ok (.iload_n 1, 1) := by decide +kernel
theorem dX4_hasAny_15 : decode cX4_hasAny 15 = .ok (.iaload, 1) := by decide +kernel
theorem dX4_hasAny_16 : decode cX4_hasAny 16 = .ok (.iconst (-1), 1) := by decide +kernel
theorem dX4_hasAny_17 : decode cX4_hasAny 17 = .ok (.if_icmp .ne 5, 3) := by decide +kernel
theorem dX4_hasAny_20 : decode cX4_hasAny 20 = .ok (.iconst 1, 1) := by decide +kernel
theorem dX4_hasAny_21 : decode cX4_hasAny 21 = .ok (.ireturn, 1) := by decide +kernel
theorem dX4_hasAny_22 : decode cX4_hasAny 22 = .ok (.iinc 1 1, 3) := by decide +kernel
theorem dX4_hasAny_25 : decode cX4_hasAny 25 = .ok (.goto (-23), 3) := by decide +kernel
theorem dX4_hasAny_28 : decode cX4_hasAny 28 = .ok (.iconst 0, 1) := by decide +kernel
theorem dX4_hasAny_29 : decode cX4_hasAny 29 = .ok (.ireturn, 1) := by decide +kernel
theorem dX4_allows_0 : decode cX4_allows 0 = .ok (.aload_n 0, 1) := by decide +kernel
theorem dX4_allows_1 : decode cX4_allows 1 = .ok (.iload_n 1, 1) := by decide +kernel
theorem dX4_allows_2 : decode cX4_allows 2 = .ok (.invokevirtual 19, 3) := by decide +kernel
theorem dX4_allows_5 : decode cX4_allows 5 = .ok (.istore_n 3, 1) := by decide +kernel
theorem dX4_allows_6 : decode cX4_allows 6 = .ok (.iload_n 3, 1) := by decide +kernel
theorem dX4_allows_7 : decode cX4_allows 7 = .ok (.iconst (-1), 1) := by decide +kernel
theorem dX4_allows_8 : decode cX4_allows 8 = .ok (.if_icmp .eq 8, 3) := by decide +kernel
theorem dX4_allows_11 : decode cX4_allows 11 = .ok (.iload_n 3, 1) := by decide +kernel
theorem dX4_allows_12 : decode cX4_allows 12 = .ok (.iload_n 2, 1) := by decide +kernel
theorem dX4_allows_13 : decode cX4_allows 13 = .ok (.if_icmp .ne 7, 3) := by decide +kernel
theorem dX4_allows_16 : decode cX4_allows 16 = .ok (.iconst 1, 1) := by decide +kernel
theorem dX4_allows_17 : decode cX4_allows 17 = .ok (.goto 4, 3) := by decide +kernel
theorem dX4_allows_20 : decode cX4_allows 20 = .ok (.iconst 0, 1) := by decide +kernel
theorem dX4_allows_21 : decode cX4_allows 21 = .ok (.ireturn, 1) := by decide +kernel
theorem dX5_init_0 : decode cX5_init 0 = .ok (.aload_n 0, 1) := by decide +kernel
theorem dX5_init_1 : decode cX5_init 1 = .ok (.invokespecial 3, 3) := by decide +kernel
theorem dX5_init_4 : decode cX5_init 4 = .ok (.aload_n 0, 1) := by decide +kernel
theorem dX5_init_5 : decode cX5_init 5 = .ok (.iconst 4, 1) := by decide +kernel
theorem dX5_init_6 : decode cX5_init 6 = .ok (.newarray .int, 2) := by decide +kernel
theorem dX5_init_8 : decode cX5_init 8 = .ok (.putfield 9, 3) := by decide +kernel
theorem dX5_init_11 : decode cX5_init 11 = .ok (.aload_n 0, 1) := by decide +kernel
theorem dX5_init_12 : decode cX5_init 12 = .ok (.iconst 4, 1) := by decide +kernel
theorem dX5_init_13 : decode cX5_init 13 = .ok (.newarray .int, 2) := by decide +kernel
theorem dX5_init_15 : decode cX5_init 15 = .ok (.putfield 15, 3) := by decide +kernel
theorem dX5_init_18 : decode cX5_init 18 = .ok (.aload_n 0, 1) := by decide +kernel
theorem dX5_init_19 : decode cX5_init 19 = .ok (.iconst 4, 1) := by decide +kernel
theorem dX5_init_20 : decode cX5_init 20 = .ok (.newarray .int, 2) := by decide +kernel
theorem dX5_init_22 : decode cX5_init 22 = .ok (.putfield 18, 3) := by decide +kernel
theorem dX5_init_25 : decode cX5_init 25 = .ok (.aload_n 0, 1) := by decide +kernel
theorem dX5_init_26 : decode cX5_init 26 = .ok (.iconst 5, 1) := by decide +kernel
theorem dX5_init_27 : decode cX5_init 27 = .ok (.newarray .int, 2) := by decide +kernel
theorem dX5_init_29 : decode cX5_init 29 = .ok (.putfield 21, 3) := by decide +kernel
theorem dX5_init_32 : decode cX5_init 32 = .ok (.aload_n 0, 1) := by decide +kernel
theorem dX5_init_33 : decode cX5_init 33 = .ok (.iconst 5, 1) := by decide +kernel
theorem dX5_init_34 : decode cX5_init 34 = .ok (.newarray .int, 2) := by decide +kernel
theorem dX5_init_36 : decode cX5_init 36 = .ok (.putfield 24, 3) := by decide +kernel
theorem dX5_init_39 : decode cX5_init 39 = .ok (.iconst 0, 1) := by decide +kernel
theorem dX5_init_40 : decode cX5_init 40 = .ok (.istore_n 1, 1) := by decide +kernel
theorem dX5_init_41 : decode cX5_init 41 = .ok (.iload_n 1, 1) := by decide +kernel
theorem dX5_init_42 : decode cX5_init 42 = .ok (.iconst 4, 1) := by decide +kernel
theorem dX5_init_43 : decode cX5_init 43 = .ok (.if_icmp .ge 16, 3) := by decide +kernel
theorem dX5_init_46 : decode cX5_init 46 = .ok (.aload_n 0, 1) := by decide +kernel
theorem dX5_init_47 : decode cX5_init 47 = .ok (.iload_n 1, 1) := by decide +kernel
theorem dX5_init_48 : decode cX5_init 48 = .ok (.iconst 1, 1) := by decide +kernel
theorem dX5_init_49 : decode cX5_init 49 = .ok (.iconst 2, 1) := by decide +kernel
theorem dX5_init_50 : decode cX5_init 50 = .ok (.invokevirtual 27, 3) := by decide +kernel
theorem dX5_init_53 : decode cX5_init 53 = .ok (.iinc 1 1, 3) := by decide +kernel
theorem dX5_init_56 : decode cX5_init 56 = .ok (.goto (-15), 3) := by decide +kernel
theorem dX5_init_59 : decode cX5_init 59 = .ok (.return_, 1) := by decide +kernel
theorem dX5_setOption_0 : decode cX5_setOption 0 = .ok (.aload_n 0, 1) := by decide +kernel
theorem dX5_setOption_1 : decode cX5_setOption 1 = .ok (.getfield 9, 3) := by decide +kernel
theorem dX5_setOption_4 : decode cX5_setOption 4 = .ok (.iload_n 1, 1) := by decide +kernel
theorem dX5_setOption_5 : decode cX5_setOption 5 = .ok (.iload_n 2, 1) := by decide +kernel
theorem dX5_setOption_6 : decode cX5_setOption 6 = .ok (.iastore, 1) := by decide +kernel
theorem dX5_setOption_7 : decode cX5_setOption 7 = .ok (.aload_n 0, 1) := by decide +kernel
theorem dX5_setOption_8 : decode cX5_setOption 8 = .ok (.getfield 15, 3) := by decide +kernel
theorem dX5_setOption_11 : decode cX5_setOption 11 = .ok (.iload_n 1, 1) := by decide +kernel
theorem dX5_setOption_12 : decode cX5_setOption 12 = .ok (.iload_n 3, 1) := by decide +kernel
theorem dX5_setOption_13 : decode cX5_setOption 13 = .ok (.iastore, 1) := by decide +kernel
theorem dX5_setOption_14 : decode cX5_setOption 14 = .ok (.aload_n 0, 1) := by decide +kernel
theorem dX5_setOption_15 : decode cX5_setOption 15 = .ok (.getfield 18, 3) := by decide +kernel
theorem dX5_setOption_18 : decode cX5_setOption 18 = .ok (.iload_n 1, 1) := by decide +kernel
theorem dX5_setOption_19 : decode cX5_setOption 19 = .ok (.ldc 31, 2) := by decide +kernel
theorem dX5_setOption_21 : decode cX5_setOption 21 = .ok (.iconst 4, 1) := by decide +kernel
theorem dX5_setOption_22 : decode cX5_setOption 22 = .ok (.iconst 5, 1) := by decide +kernel
theorem dX5_setOption_23 : decode cX5_setOption 23 = .ok (.iload_n 3, 1) := by decide +kernel
theorem dX5_setOption_24 : decode cX5_setOption 24 = .ok (.isub, 1) := by decide +kernel
theorem dX5_setOption_25 : decode cX5_setOption 25 = .ok (.imul, 1) := by decide +kernel
theorem dX5_setOption_26 : decode cX5_setOption 26 = .ok (.ishr, 1) := by decide +kernel
theorem dX5_setOption_27 : decode cX5_setOption 27 = .ok (.iload_n 1, 1) := by decide +kernel
theorem dX5_setOption_28 : decode cX5_setOption 28 = .ok (.ishl, 1) := by decide +kernel
theorem dX5_setOption_29 : decode cX5_setOption 29 = .ok (.iastore, 1) := by decide +kernel
theorem dX5_setOption_30 : decode cX5_setOption 30 = .ok (.return_, 1) := by decide +kernel
theorem dX5_copyFrom_0 : decode cX5_copyFrom 0 = .ok (.aload_n 1, 1) := by decide +kernel
theorem dX5_copyFrom_1 : decode cX5_copyFrom 1 = .ok (.getfield 9, 3) := by decide +kernel
theorem dX5_copyFrom_4 : decode cX5_copyFrom 4 = .ok (.iconst 0, 1) := by decide +kernel
theorem dX5_copyFrom_5 : decode cX5_copyFrom 5 = .ok (.aload_n 0, 1) := by decide +kernel
theorem dX5_copyFrom_6 : decode cX5_copyFrom 6 = .ok (.getfield 9, 3) := by decide +kernel
theorem dX5_copyFrom_9 : decode cX5_copyFrom 9 = .ok (.iconst 0, 1) := by decide +kernel
theorem dX5_copyFrom_10 : decode cX5_copyFrom 10 = .ok (.iconst 4, 1) := by decide +kernel
theorem dX5_copyFrom_11 : decode cX5_copyFrom 11 = .ok (.invokestatic 32, 3) := by decide +kernel
theorem dX5_copyFrom_14 : decode cX5_copyFrom 14 = .ok (.aload_n 1, 1) := by decide +kernel
theorem dX5_copyFrom_15 : decode cX5_copyFrom 15 = .ok (.getfield 15, 3) := by decide +kernel
theorem dX5_copyFrom_18 : decode cX5_copyFrom 18 = .ok (.iconst 0, 1) := by decide +kernel
theorem dX5_copyFrom_19 : decode cX5_copyFrom 19 = .ok (.aload_n 0, 1) := by decide +kernel
theorem dX5_copyFrom_20 : decode cX5_copyFrom 20 = .ok (.getfield 15, 3) := by decide +kernel
theorem dX5_copyFrom_23 : decode cX5_copyFrom 23 = .ok (.iconst 0, 1) := by decide +kernel
theorem dX5_copyFrom_24 : decode cX5_copyFrom 24 = .ok (.iconst 4, 1) := by decide +kernel
theorem dX5_copyFrom_25 : decode cX5_copyFrom 25 = .ok (.invokestatic 32, 3) := by decide +kernel
theorem dX5_copyFrom_28 : decode cX5_copyFrom 28 = .ok (.aload_n 1, 1) := by decide +kernel
theorem dX5_copyFrom_29 : decode cX5_copyFrom 29 = .ok (.getfield 18, 3) := by decide +kernel
theorem dX5_copyFrom_32 : decode cX5_copyFrom 32 = .ok (.iconst 0, 1) := by decide +kernel
theorem dX5_copyFrom_33 : decode cX5_copyFrom 33 = .ok (.aload_n 0, 1) := by decide +kernel
theorem dX5_copyFrom_34 : decode cX5_copyFrom 34 = .ok (.getfield 18, 3) := by decide +kernel
theorem dX5_copyFrom_37 : decode cX5_copyFrom 37 = .ok (.iconst 0, 1) := by decide +kernel
theorem dX5_copyFrom_38 : decode cX5_copyFrom 38 = .ok (.iconst 4, 1) := by decide +kernel
theorem dX5_copyFrom_39 : decode cX5_copyFrom 39 = .ok (.invokestatic 32, 3) := by decide +kernel
theorem dX5_copyFrom_42 : decode cX5_copyFrom 42 = .ok (.aload_n 1, 1) := by decide +kernel
theorem dX5_copyFrom_43 : decode cX5_copyFrom 43 = .ok (.getfield 21, 3) := by decide +kernel
theorem dX5_copyFrom_46 : decode cX5_copyFrom 46 = .ok (.iconst 0, 1) := by decide +kernel
theorem dX5_copyFrom_47 : decode cX5_copyFrom 47 = .ok (.aload_n 0, 1) := by decide +kernel
theorem dX5_copyFrom_48 : decode cX5_copyFrom 48 = .ok (.getfield 21, 3) := by decide +kernel
theorem dX5_copyFrom_51 : decode cX5_copyFrom 51 = .ok (.iconst 0, 1) := by decide +kernel
theorem dX5_copyFrom_52 : decode cX5_copyFrom 52 = .ok (.iconst 5, 1) := by decide +kernel
theorem dX5_copyFrom_53 : decode cX5_copyFrom 53 = .ok (.invokestatic 32, 3) := by decide +kernel
theorem dX5_copyFrom_56 : decode cX5_copyFrom 56 = .ok (.aload_n 1, 1) := by decide +kernel
theorem dX5_copyFrom_57 : decode cX5_copyFrom 57 = .ok (.getfield 24, 3) := by decide +kernel
theorem dX5_copyFrom_60 : decode cX5_copyFrom 60 = .ok (.iconst 0, 1) := by decide +kernel
theorem dX5_copyFrom_61 : decode cX5_copyFrom 61 = .ok (.aload_n 0, 1) := by decide +kernel
theorem dX5_copyFrom_62 : decode cX5_copyFrom 62 = .ok (.getfield 24, 3) := by decide +kernel
theorem dX5_copyFrom_65 : decode cX5_copyFrom 65 = .ok (.iconst 0, 1) := by decide +kernel
theorem dX5_copyFrom_66 : decode cX5_copyFrom 66 = .ok (.iconst 5, 1) := by decide +kernel
theorem dX5_copyFrom_67 : decode cX5_copyFrom 67 = .ok (.invokestatic 32, 3) := by decide +kernel
theorem dX5_copyFrom_70 : decode cX5_copyFrom 70 = .ok (.return_, 1) := by decide +kernel
theorem dX5_cars_0 : decode cX5_cars 0 = .ok (.iconst 0, 1) := by decide +kernel
theorem dX5_cars_1 : decode cX5_cars 1 = .ok (.istore_n 1, 1) := by decide +kernel
theorem dX5_cars_2 : decode cX5_cars 2 = .ok (.iconst 0, 1) := by decide +kernel
theorem dX5_cars_3 : decode cX5_cars 3 = .ok (.istore_n 2, 1) := by decide +kernel
theorem dX5_cars_4 : decode cX5_cars 4 = .ok (.iload_n 2, 1) := by decide +kernel
theorem dX5_cars_5 : decode cX5_cars 5 = .ok (.iconst 5, 1) := by decide +kernel
theorem dX5_cars_6 : decode cX5_cars 6 = .ok (.if_icmp .ge 18, 3) := by decide +kernel
theorem dX5_cars_9 : decode cX5_cars 9 = .ok (.iload_n 1, 1) := by decide +kernel
theorem dX5_cars_10 : decode cX5_cars 10 = .ok (.aload_n 0, 1) := by decide +kernel
theorem dX5_cars_11 : decode cX5_cars 11 = .ok (.getfield 24, 3) := by decide +kernel
theorem dX5_cars_14 : decode cX5_cars 14 = .ok (.iload_n 2, 1) := by decide +kernel
theorem dX5_cars_15 : decode cX5_cars 15 = .ok (.iaload, 1) := by decide +kernel
theorem dX5_cars_16 : decode cX5_cars 16 = .ok (.iadd, 1) := by decide +kernel
theorem dX5_cars_17 : decode cX5_cars 17 = .ok (.istore_n 1, 1) := by decide +kernel
theorem dX5_cars_18 : decode cX5_cars 18 = .ok (.iinc 2 1, 3) := by decide +kernel
theorem dX5_cars_21 : decode cX5_cars 21 = .ok (.goto (-17), 3) := by decide +kernel
theorem dX5_cars_24 : decode cX5_cars 24 = .ok (.iload_n 1, 1) := by decide +kernel
theorem dX5_cars_25 : decode cX5_cars 25 = .ok (.ireturn, 1) := by decide +kernel
theorem dX5_classesWithDemand_0 : decode cX5_classesWithDemand 0 = .ok (.iconst 0, 1) := by decide +kernel
theorem dX5_classesWithDemand_1 : decode cX5_classesWithDemand 1 = .ok (.istore_n 1, 1) := by decide +kernel
theorem dX5_classesWithDemand_2 : decode cX5_classesWithDemand 2 = .ok (.iconst 0, 1) := by decide +kernel
theorem dX5_classesWithDemand_3 : decode cX5_classesWithDemand 3 = .ok (.istore_n 2, 1) := by decide +kernel
theorem dX5_classesWithDemand_4 : decode cX5_classesWithDemand 4 = .ok (.iload_n 2, 1) := by decide +kernel
theorem dX5_classesWithDemand_5 : decode cX5_classesWithDemand 5 = .ok (.iconst 5, 1) := by decide +kernel
theorem dX5_classesWithDemand_6 : decode cX5_classesWithDemand 6 = .ok (.if_icmp .ge 21, 3) := by decide +kernel
theorem dX5_classesWithDemand_9 : decode cX5_classesWithDemand 9 = .ok (.aload_n 0, 1) := by decide +kernel
theorem dX5_classesWithDemand_10 : decode cX5_classesWithDemand 10 = .ok (.getfield 24, 3) := by decide +kernel
theorem dX5_classesWithDemand_13 : decode cX5_classesWithDemand 13 = .ok (.iload_n 2, 1) := by decide +kernel
theorem dX5_classesWithDemand_14 : decode cX5_classesWithDemand 14 = .ok (.iaload, 1) := by decide +kernel
theorem dX5_classesWithDemand_15 : decode cX5_classesWithDemand 15 = .ok (.ifCond .le 6, 3) := by decide +kernel
theorem dX5_classesWithDemand_18 : decode cX5_classesWithDemand 18 = .ok (.iinc 1 1, 3) := by decide +kernel
theorem dX5_classesWithDemand_21 : decode cX5_classesWithDemand 21 = .ok (.iinc 2 1, 3) := by decide +kernel
theorem dX5_classesWithDemand_24 : decode cX5_classesWithDemand 24 = .ok (.goto (-20), 3) := by decide +kernel
theorem dX5_classesWithDemand_27 : decode cX5_classesWithDemand 27 = .ok (.iload_n 1, 1) := by decide +kernel
theorem dX5_classesWithDemand_28 : decode cX5_classesWithDemand 28 = .ok (.ireturn, 1) := by decide +kernel
theorem dX5_wanted_0 : decode cX5_wanted 0 = .ok (.iconst 0, 1) := by decide +kernel
theorem dX5_wanted_1 : decode cX5_wanted 1 = .ok (.istore_n 2, 1) := by decide +kernel
theorem dX5_wanted_2 : decode cX5_wanted 2 = .ok (.iconst 0, 1) := by decide +kernel
theorem dX5_wanted_3 : decode cX5_wanted 3 = .ok (.istore_n 3, 1) := by decide +kernel
theorem dX5_wanted_4 : decode cX5_wanted 4 = .ok (.iload_n 3, 1) := by decide +kernel
theorem dX5_wanted_5 : decode cX5_wanted 5 = .ok (.iconst 5, 1) := by decide +kernel
theorem dX5_wanted_6 : decode cX5_wanted 6 = .ok (.if_icmp .ge 31, 3) := by decide +kernel
theorem dX5_wanted_9 : decode cX5_wanted 9 = .ok (.aload_n 0, 1) := by decide +kernel
theorem dX5_wanted_10 : decode cX5_wanted 10 = .ok (.getfield 21, 3) := by decide +kernel
theorem dX5_wanted_13 : decode cX5_wanted 13 = .ok (.iload_n 3, 1) := by decide +kernel
theorem dX5_wanted_14 : decode cX5_wanted 14 = .ok (.iaload, 1) := by decide +kernel
theorem dX5_wanted_15 : decode cX5_wanted 15 = .ok (.iload_n 1, 1) := by decide +kernel
theorem dX5_wanted_16 : decode cX5_wanted 16 = .ok (.ishr, 1) := by decide +kernel
theorem dX5_wanted_17 : decode cX5_wanted 17 = .ok (.iconst 1, 1) := by decide +kernel
theorem dX5_wanted_18 : decode cX5_wanted 18 = .ok (.iand, 1) := by decide +kernel
theorem dX5_wanted_19 : decode cX5_wanted 19 = .ok (.ifCond .eq 12, 3) := by decide +kernel
theorem dX5_wanted_22 : decode cX5_wanted 22 = .ok (.iload_n 2, 1) := by decide +kernel
theorem dX5_wanted_23 : decode cX5_wanted 23 = .ok (.aload_n 0, 1) := by decide +kernel
theorem dX5_wanted_24 : decode cX5_wanted 24 = .ok (.getfield 24, 3) := by decide +kernel
theorem dX5_wanted_27 : decode cX5_wanted 27 = .ok (.iload_n 3, 1) := by decide +kernel
theorem dX5_wanted_28 : decode cX5_wanted 28 = .ok (.iaload, 1) := by decide +kernel
theorem dX5_wanted_29 : decode cX5_wanted 29 = .ok (.iadd, 1) := by decide +kernel
theorem dX5_wanted_30 : decode cX5_wanted 30 = .ok (.istore_n 2, 1) := by decide +kernel
theorem dX5_wanted_31 : decode cX5_wanted 31 = .ok (.iinc 3 1, 3) := by decide +kernel
theorem dX5_wanted_34 : decode cX5_wanted 34 = .ok (.goto (-30), 3) := by decide +kernel
theorem dX5_wanted_37 : decode cX5_wanted 37 = .ok (.iload_n 2, 1) := by decide +kernel
theorem dX5_wanted_38 : decode cX5_wanted 38 = .ok (.ireturn, 1) := by decide +kernel
theorem dX5_room_0 : decode cX5_room 0 = .ok (.aload_n 0, 1) := by decide +kernel
theorem dX5_room_1 : decode cX5_room 1 = .ok (.getfield 15, 3) := by decide +kernel
theorem dX5_room_4 : decode cX5_room 4 = .ok (.iload_n 1, 1) := by decide +kernel
theorem dX5_room_5 : decode cX5_room 5 = .ok (.iaload, 1) := by decide +kernel
theorem dX5_room_6 : decode cX5_room 6 = .ok (.istore_n 2, 1) := by decide +kernel
theorem dX5_room_7 : decode cX5_room 7 = .ok (.iload_n 2, 1) := by decide +kernel
theorem dX5_room_8 : decode cX5_room 8 = .ok (.iconst 1, 1) := by decide +kernel
theorem dX5_room_9 : decode cX5_room 9 = .ok (.if_icmp .ge 5, 3) := by decide +kernel
theorem dX5_room_12 : decode cX5_room 12 = .ok (.iconst 0, 1) := by decide +kernel
theorem dX5_room_13 : decode cX5_room 13 = .ok (.ireturn, 1) := by decide +kernel
theorem dX5_room_14 : decode cX5_room 14 = .ok (.aload_n 0, 1) := by decide +kernel
theorem dX5_room_15 : decode cX5_room 15 = .ok (.invokevirtual 38, 3) := by decide +kernel
theorem dX5_room_18 : decode cX5_room 18 = .ok (.istore_n 3, 1) := by decide +kernel
theorem dX5_room_19 : decode cX5_room 19 = .ok (.aload_n 0, 1) := by decide +kernel
theorem dX5_room_20 : decode cX5_room 20 = .ok (.getfield 9, 3) := by decide +kernel
theorem dX5_room_23 : decode cX5_room 23 = .ok (.iload_n 1, 1) := by decide +kernel
theorem dX5_room_24 : decode cX5_room 24 = .ok (.iaload, 1) := by decide +kernel
theorem dX5_room_25 : decode cX5_room 25 = .ok (.iload_n 3, 1) := by decide +kernel
theorem dX5_room_26 : decode cX5_room 26 = .ok (.iload_n 2, 1) := by decide +kernel
theorem dX5_room_27 : decode cX5_room 27 = .ok (.idiv, 1) := by decide +kernel
theorem dX5_room_28 : decode cX5_room 28 = .ok (.imul, 1) := by decide +kernel
theorem dX5_room_29 : decode cX5_room 29 = .ok (.aload_n 0, 1) := by decide +kernel
theorem dX5_room_30 : decode cX5_room 30 = .ok (.getfield 9, 3) := by decide +kernel
theorem dX5_room_33 : decode cX5_room 33 = .ok (.iload_n 1, 1) := by decide +kernel
theorem dX5_room_34 : decode cX5_room 34 = .ok (.iaload, 1) := by decide +kernel
theorem dX5_room_35 : decode cX5_room 35 = .ok (.iload_n 3, 1) := by decide +kernel
theorem dX5_room_36 : decode cX5_room 36 = .ok (.iload_n 2, 1) := by decide +kernel
theorem dX5_room_37 : decode cX5_room 37 = .ok (.irem, 1) := by decide +kernel
theorem dX5_room_38 : decode cX5_room 38 = .ok (.invokestatic 42, 3) := by decide +kernel
theorem dX5_room_41 : decode cX5_room 41 = .ok (.iadd, 1) := by decide +kernel
theorem dX5_room_42 : decode cX5_room 42 = .ok (.ireturn, 1) := by decide +kernel
theorem dX5_orderCount_0 : decode cX5_orderCount 0 = .ok (.iconst 1, 1) := by decide +kernel
theorem dX5_orderCount_1 : decode cX5_orderCount 1 = .ok (.istore_n 1, 1) := by decide +kernel
theorem dX5_orderCount_2 : decode cX5_orderCount 2 = .ok (.iconst 0, 1) := by decide +kernel
theorem dX5_orderCount_3 : decode cX5_orderCount 3 = .ok (.istore_n 2, 1) := by decide +kernel
theorem dX5_orderCount_4 : decode cX5_orderCount 4 = .ok (.iconst 0, 1) := by decide +kernel
theorem dX5_orderCount_5 : decode cX5_orderCount 5 = .ok (.istore_n 3, 1) := by decide +kernel
theorem dX5_orderCount_6 : decode cX5_orderCount 6 = .ok (.iload_n 3, 1) := by decide +kernel
theorem dX5_orderCount_7 : decode cX5_orderCount 7 = .ok (.iconst 5, 1) := by decide +kernel
theorem dX5_orderCount_8 : decode cX5_orderCount 8 = .ok (.if_icmp .ge 39, 3) := by decide +kernel
theorem dX5_orderCount_11 : decode cX5_orderCount 11 = .ok (.iconst 1, 1) := by decide +kernel
theorem dX5_orderCount_12 : decode cX5_orderCount 12 = .ok (.istore 4, 2) := by decide +kernel
theorem dX5_orderCount_14 : decode cX5_orderCount 14 = .ok (.iload 4, 2) := by decide +kernel
theorem dX5_orderCount_16 : decode cX5_orderCount 16 = .ok (.aload_n 0, 1) := by decide +kernel
theorem dX5_orderCount_17 : decode cX5_orderCount 17 = .ok (.getfield 24, 3) := by decide +kernel
theorem dX5_orderCount_20 : decode cX5_orderCount 20 = .ok (.iload_n 3, 1) := by decide +kernel
theorem dX5_orderCount_21 : decode cX5_orderCount 21 = .ok (.iaload, 1) := by decide +kernel
theorem dX5_orderCount_22 : decode cX5_orderCount 22 = .ok (.if_icmp .gt 19, 3) := by decide +kernel
theorem dX5_orderCount_25 : decode cX5_orderCount 25 = .ok (.iinc 2 1, 3) := by decide +kernel
theorem dX5_orderCount_28 : decode cX5_orderCount 28 = .ok (.iload_n 1, 1) := by decide +kernel
theorem dX5_orderCount_29 : decode cX5_orderCount 29 = .ok (.iload_n 2, 1) := by decide +kernel
theorem dX5_orderCount_30 : decode cX5_orderCount 30 = .ok (.imul, 1) := by decide +kernel
theorem dX5_orderCount_31 : decode cX5_orderCount 31 = .ok (.iload 4, 2) := by decide +kernel
theorem dX5_orderCount_33 : decode cX5_orderCount 33 = .ok (.idiv, 1) := by decide +kernel
theorem dX5_orderCount_34 : decode cX5_orderCount 34 = .ok (.istore_n 1, 1) := by decide +kernel
theorem dX5_orderCount_35 : decode cX5_orderCount 35 = .ok (.iinc 4 1, 3) := by decide +kernel
theorem dX5_orderCount_38 : decode cX5_orderCount 38 = .ok (.goto (-24), 3) := by decide +kernel
theorem dX5_orderCount_41 : decode cX5_orderCount 41 = .ok (.iinc 3 1, 3) := by decide +kernel
theorem dX5_orderCount_44 : decode cX5_orderCount 44 = .ok (.goto (-38), 3) := by decide +kernel
theorem dX5_orderCount_47 : decode cX5_orderCount 47 = .ok (.iload_n 1, 1) := by decide +kernel
theorem dX5_orderCount_48 : decode cX5_orderCount 48 = .ok (.ireturn, 1) := by decide +kernel
theorem dX5_breaksBehind_0 : decode cX5_breaksBehind 0 = .ok (.iconst 0, 1) := by decide +kernel
theorem dX5_breaksBehind_1 : decode cX5_breaksBehind 1 = .ok (.istore_n 3, 1) := by decide +kernel
theorem dX5_breaksBehind_2 : decode cX5_breaksBehind 2 = .ok (.iconst 0, 1) := by decide +kernel
theorem dX5_breaksBehind_3 : decode cX5_breaksBehind 3 = .ok (.istore 4, 2) := by decide +kernel
theorem dX5_breaksBehind_5 : decode cX5_breaksBehind 5 = .ok (.iload 4, 2) := by decide +kernel
theorem dX5_breaksBehind_7 : decode cX5_breaksBehind 7 = .ok (.iconst 4, 1) := by decide +kernel
theorem dX5_breaksBehind_8 : decode cX5_breaksBehind 8 = .ok (.if_icmp .ge 47, 3) := by decide +kernel
theorem dX5_breaksBehind_11 : decode cX5_breaksBehind 11 = .ok (.aload_n 0, 1) := by decide +kernel
theorem dX5_breaksBehind_12 : decode cX5_breaksBehind 12 = .ok (.iload 4, 2) := by decide +kernel
theorem dX5_breaksBehind_14 : decode cX5_breaksBehind 14 = .ok (.invokevirtual 48, 3) := by decide +kernel
theorem dX5_breaksBehind_17 : decode cX5_breaksBehind 17 = .ok (.aload_n 0, 1) := by decide +kernel
theorem dX5_breaksBehind_18 : decode cX5_breaksBehind 18 = .ok (.getfield 9, 3) := by decide +kernel
theorem dX5_breaksBehind_21 : decode cX5_breaksBehind 21 = .ok (.iload 4, 2) := by decide +kernel
theorem dX5_breaksBehind_23 : decode cX5_breaksBehind 23 = .ok (.iaload, 1) := by decide +kernel
theorem dX5_breaksBehind_24 : decode cX5_breaksBehind 24 = .ok (.if_icmp .le 25, 3) := by decide +kernel
theorem dX5_breaksBehind_27 : decode cX5_breaksBehind 27 = .ok (.iload_n 3, 1) := by decide +kernel
theorem dX5_breaksBehind_28 : decode cX5_breaksBehind 28 = .ok (.iconst 0, 1) := by decide +kernel
theorem dX5_breaksBehind_29 : decode cX5_breaksBehind 29 = .ok (.iload_n 2, 1) := by decide +kernel
theorem dX5_breaksBehind_30 : decode cX5_breaksBehind 30 = .ok (.iload_n 1, 1) := by decide +kernel
theorem dX5_breaksBehind_31 : decode cX5_breaksBehind 31 = .ok (.aload_n 0, 1) := by decide +kernel
theorem dX5_breaksBehind_32 : decode cX5_breaksBehind 32 = .ok (.getfield 15, 3) := by decide +kernel
theorem dX5_breaksBehind_35 : decode cX5_breaksBehind 35 = .ok (.iload 4, 2) := by decide +kernel
theorem dX5_breaksBehind_37 : decode cX5_breaksBehind 37 = .ok (.iaload, 1) := by decide +kernel
theorem dX5_breaksBehind_38 : decode cX5_breaksBehind 38 = .ok (.iconst 1, 1) := by decide +kernel
theorem dX5_breaksBehind_39 : decode cX5_breaksBehind 39 = .ok (.isub, 1) := by decide +kernel
theorem dX5_breaksBehind_40 : decode cX5_breaksBehind 40 = .ok (.invokestatic 52, 3) := by decide +kernel
theorem dX5_breaksBehind_43 : decode cX5_breaksBehind 43 = .ok (.isub, 1) := by decide +kernel
theorem dX5_breaksBehind_44 : decode cX5_breaksBehind 44 = .ok (.invokestatic 52, 3) := by decide +kernel
theorem dX5_breaksBehind_47 : decode cX5_breaksBehind 47 = .ok (.iadd, 1) := by decide +kernel
theorem dX5_breaksBehind_48 : decode cX5_breaksBehind 48 = .ok (.istore_n 3, 1) := by decide +kernel
theorem dX5_breaksBehind_49 : decode cX5_breaksBehind 49 = .ok (.iinc 4 1, 3) := by decide +kernel
theorem dX5_breaksBehind_52 : decode cX5_breaksBehind 52 = .ok (.goto (-47), 3) := by decide +kernel
theorem dX5_breaksBehind_55 : decode cX5_breaksBehind 55 = .ok (.iload_n 3, 1) := by decide +kernel
theorem dX5_breaksBehind_56 : decode cX5_breaksBehind 56 = .ok (.ireturn, 1) := by decide +kernel
theorem dX5_breaksAtEnd_0 : decode cX5_breaksAtEnd 0 = .ok (.iconst 0, 1) := by decide +kernel
theorem dX5_breaksAtEnd_1 : decode cX5_breaksAtEnd 1 = .ok (.istore_n 3, 1) := by decide +kernel
theorem dX5_breaksAtEnd_2 : decode cX5_breaksAtEnd 2 = .ok (.iconst 0, 1) := by decide +kernel
theorem dX5_breaksAtEnd_3 : decode cX5_breaksAtEnd 3 = .ok (.istore 4, 2) := by decide +kernel
theorem dX5_breaksAtEnd_5 : decode cX5_breaksAtEnd 5 = .ok (.iload 4, 2) := by decide +kernel
theorem dX5_breaksAtEnd_7 : decode cX5_breaksAtEnd 7 = .ok (.iconst 4, 1) := by decide +kernel
theorem dX5_breaksAtEnd_8 : decode cX5_breaksAtEnd 8 = .ok (.if_icmp .ge 45, 3) := by decide +kernel
theorem dX5_breaksAtEnd_11 : decode cX5_breaksAtEnd 11 = .ok (.iload_n 2, 1) := by decide +kernel
theorem dX5_breaksAtEnd_12 : decode cX5_breaksAtEnd 12 = .ok (.aload_n 0, 1) := by decide +kernel
theorem dX5_breaksAtEnd_13 : decode cX5_breaksAtEnd 13 = .ok (.getfield 15, 3) := by decide +kernel
theorem dX5_breaksAtEnd_16 : decode cX5_breaksAtEnd 16 = .ok (.iload 4, 2) := by decide +kernel
theorem dX5_breaksAtEnd_18 : decode cX5_breaksAtEnd 18 = .ok (.iaload, 1) := by decide +kernel
theorem dX5_breaksAtEnd_19 : decode cX5_breaksAtEnd 19 = .ok (.if_icmp .lt 28, 3) := by decide +kernel
theorem dX5_breaksAtEnd_22 : decode cX5_breaksAtEnd 22 = .ok (.iload_n 1, 1) := by decide +kernel
theorem dX5_breaksAtEnd_23 : decode cX5_breaksAtEnd 23 = .ok (.aload_n 0, 1) := by decide +kernel
theorem dX5_breaksAtEnd_24 : decode cX5_breaksAtEnd 24 = .ok (.getfield 18, 3) := by decide +kernel
theorem dX5_breaksAtEnd_27 : decode cX5_breaksAtEnd 27 = .ok (.iload 4, 2) := by decide +kernel
theorem dX5_breaksAtEnd_29 : decode cX5_breaksAtEnd 29 = .ok (.iaload, 1) := by decide +kernel
theorem dX5_breaksAtEnd_30 : decode cX5_breaksAtEnd 30 = .ok (.iand, 1) := by decide +kernel
theorem dX5_breaksAtEnd_31 : decode cX5_breaksAtEnd 31 = .ok (.invokestatic 55, 3) := by decide +kernel
theorem dX5_breaksAtEnd_34 : decode cX5_breaksAtEnd 34 = .ok (.aload_n 0, 1) := by decide +kernel
theorem dX5_breaksAtEnd_35 : decode cX5_breaksAtEnd 35 = .ok (.getfield 9, 3) := by decide +kernel
theorem dX5_breaksAtEnd_38 : decode cX5_breaksAtEnd 38 = .ok (.iload 4, 2) := by decide +kernel
theorem dX5_breaksAtEnd_40 : decode cX5_breaksAtEnd 40 = .ok (.iaload, 1) := by decide +kernel
theorem dX5_breaksAtEnd_41 : decode cX5_breaksAtEnd 41 = .ok (.if_icmp .le 6, 3) := by decide +kernel
theorem dX5_breaksAtEnd_44 : decode cX5_breaksAtEnd 44 = .ok (.iinc 3 1, 3) := by decide +kernel
theorem dX5_breaksAtEnd_47 : decode cX5_breaksAtEnd 47 = .ok (.iinc 4 1, 3) := by decide +kernel
theorem dX5_breaksAtEnd_50 : decode cX5_breaksAtEnd 50 = .ok (.goto (-45), 3) := by decide +kernel
theorem dX5_breaksAtEnd_53 : decode cX5_breaksAtEnd 53 = .ok (.iload_n 3, 1) := by decide +kernel
theorem dX5_breaksAtEnd_54 : decode cX5_breaksAtEnd 54 = .ok (.ireturn, 1) := by decide +kernel
theorem dX7_init_0 : decode cX7_init 0 = .ok (.aload_n 0, 1) := by decide +kernel
theorem dX7_init_1 : decode cX7_init 1 = .ok (.invokespecial 1, 3) := by decide +kernel
theorem dX7_init_4 : decode cX7_init 4 = .ok (.aload_n 0, 1) := by decide +kernel
theorem dX7_init_5 : decode cX7_init 5 = .ok (.iconst 0, 1) := by decide +kernel
theorem dX7_init_6 : decode cX7_init 6 = .ok (.putfield 7, 3) := by decide +kernel
theorem dX7_init_9 : decode cX7_init 9 = .ok (.aload_n 0, 1) := by decide +kernel
theorem dX7_init_10 : decode cX7_init 10 = .ok (.aload_n 1, 1) := by decide +kernel
theorem dX7_init_11 : decode cX7_init 11 = .ok (.putfield 13, 3) := by decide +kernel
theorem dX7_init_14 : decode cX7_init 14 = .ok (.aload_n 0, 1) := by decide +kernel
theorem dX7_init_15 : decode cX7_init 15 = .ok (.aload_n 2, 1) := by decide +kernel
theorem dX7_init_16 : decode cX7_init 16 = .ok (.putfield 17, 3) := by decide +kernel
theorem dX7_init_19 : decode cX7_init 19 = .ok (.return_, 1) := by decide +kernel
theorem dX7_putRight_0 : decode cX7_putRight 0 = .ok (.aload_n 0, 1) := by decide +kernel
theorem dX7_putRight_1 : decode cX7_putRight 1 = .ok (.getfield 17, 3) := by decide +kernel
theorem dX7_putRight_4 : decode cX7_putRight 4 = .ok (.invokevirtual 21, 3) := by decide +kernel
theorem dX7_putRight_7 : decode cX7_putRight 7 = .ok (.iconst 0, 1) := by decide +kernel
theorem dX7_putRight_8 : decode cX7_putRight 8 = .ok (.istore_n 2, 1) := by decide +kernel
theorem dX7_putRight_9 : decode cX7_putRight 9 = .ok (.iload_n 2, 1) := by decide +kernel
theorem dX7_putRight_10 : decode cX7_putRight 10 = .ok (.aload_n 0, 1) := by decide +kernel
theorem dX7_putRight_11 : decode cX7_putRight 11 = .ok (.getfield 13, 3) := by decide +kernel
theorem dX7_putRight_14 : decode cX7_putRight 14 = .ok (.getfield 26, 3) := by decide +kernel
theorem dX7_putRight_17 : decode cX7_putRight 17 = .ok (.if_icmp .ge 24, 3) := by decide +kernel
theorem dX7_putRight_20 : decode cX7_putRight 20 = .ok (.aload_n 0, 1) := by decide +kernel
theorem dX7_putRight_21 : decode cX7_putRight 21 = .ok (.getfield 17, 3) := by decide +kernel
theorem dX7_putRight_24 : decode cX7_putRight 24 = .ok (.aload_n 0, 1) := by decide +kernel
theorem dX7_putRight_25 : decode cX7_putRight 25 = .ok (.getfield 13, 3) := by decide +kernel
theorem dX7_putRight_28 : decode cX7_putRight 28 = .ok (.iload_n 2, 1) := by decide +kernel
theorem dX7_putRight_29 : decode cX7_putRight 29 = .ok (.invokevirtual 31, 3) := by decide +kernel
theorem dX7_putRight_32 : decode cX7_putRight 32 = .ok (.invokevirtual 35, 3) := by decide +kernel
theorem dX7_putRight_35 : decode cX7_putRight 35 = .ok (.iinc 2 1, 3) := by decide +kernel
theorem dX7_putRight_38 : decode cX7_putRight 38 = .ok (.goto (-29), 3) := by decide +kernel
theorem dX7_putRight_41 : decode cX7_putRight 41 = .ok (.aload_n 0, 1) := by decide +kernel
theorem dX7_putRight_42 : decode cX7_putRight 42 = .ok (.aload_n 0, 1) := by decide +kernel
theorem dX7_putRight_43 : decode cX7_putRight 43 = .ok (.getfield 17, 3) := by decide +kernel
theorem dX7_putRight_46 : decode cX7_putRight 46 = .ok (.invokevirtual 39, 3) := by decide +kernel
theorem dX7_putRight_49 : decode cX7_putRight 49 = .ok (.putfield 7, 3) := by decide +kernel
theorem dX7_putRight_52 : decode cX7_putRight 52 = .ok (.aload_n 0, 1) := by decide +kernel
theorem dX7_putRight_53 : decode cX7_putRight 53 = .ok (.getfield 17, 3) := by decide +kernel
theorem dX7_putRight_56 : decode cX7_putRight 56 = .ok (.invokevirtual 21, 3) := by decide +kernel
theorem dX7_putRight_59 : decode cX7_putRight 59 = .ok (.aload_n 0, 1) := by decide +kernel
theorem dX7_putRight_60 : decode cX7_putRight 60 = .ok (.iconst 0, 1) := by decide +kernel
theorem dX7_putRight_61 : decode cX7_putRight 61 = .ok (.iconst 0, 1) := by decide +kernel
theorem dX7_putRight_62 : decode cX7_putRight 62 = .ok (.iload_n 1, 1) := by decide +kernel
theorem dX7_putRight_63 : decode cX7_putRight 63 = .ok (.invokevirtual 43, 3) := by decide +kernel
theorem dX7_putRight_66 : decode cX7_putRight 66 = .ok (.aload_n 0, 1) := by decide +kernel
theorem dX7_putRight_67 : decode cX7_putRight 67 = .ok (.getfield 7, 3) := by decide +kernel
theorem dX7_putRight_70 : decode cX7_putRight 70 = .ok (.ireturn, 1) := by decide +kernel
theorem dX7_walk_0 : decode cX7_walk 0 = .ok (.aload_n 0, 1) := by decide +kernel
theorem dX7_walk_1 : decode cX7_walk 1 = .ok (.getfield 17, 3) := by decide +kernel
theorem dX7_walk_4 : decode cX7_walk 4 = .ok (.invokevirtual 39, 3) := by decide +kernel
theorem dX7_walk_7 : decode cX7_walk 7 = .ok (.aload_n 0, 1) := by decide +kernel
theorem dX7_walk_8 : decode cX7_walk 8 = .ok (.getfield 7, 3) := by decide +kernel
theorem dX7_walk_11 : decode cX7_walk 11 = .ok (.if_icmp .lt 4, 3) := by decide +kernel
theorem dX7_walk_14 : decode cX7_walk 14 = .ok (.return_, 1) := by decide +kernel
theorem dX7_walk_15 : decode cX7_walk 15 = .ok (.iload_n 1, 1) := by decide +kernel
theorem dX7_walk_16 : decode cX7_walk 16 = .ok (.aload_n 0, 1) := by decide +kernel
theorem dX7_walk_17 : decode cX7_walk 17 = .ok (.getfield 13, 3) := by decide +kernel
theorem dX7_walk_20 : decode cX7_walk 20 = .ok (.getfield 26, 3) := by decide +kernel
theorem dX7_walk_23 : decode cX7_walk 23 = .ok (.if_icmp .lt 15, 3) := by decide +kernel
theorem dX7_walk_26 : decode cX7_walk 26 = .ok (.aload_n 0, 1) := by decide +kernel
theorem dX7_walk_27 : decode cX7_walk 27 = .ok (.aload_n 0, 1) := by decide +kernel
theorem dX7_walk_28 : decode cX7_walk 28 = .ok (.getfield 17, 3) := by decide +kernel
theorem dX7_walk_31 : decode cX7_walk 31 = .ok (.invokevirtual 39, 3) := by decide +kernel
theorem dX7_walk_34 : decode cX7_walk 34 = .ok (.putfield 7, 3) := by decide +kernel
theorem dX7_walk_37 : decode cX7_walk 37 = .ok (.return_, 1) := by decide +kernel
theorem dX7_walk_38 : decode cX7_walk 38 = .ok (.iconst 0, 1) := by decide +kernel
theorem dX7_walk_39 : decode cX7_walk 39 = .ok (.istore 4, 2) := by decide +kernel
theorem dX7_walk_41 : decode cX7_walk 41 = .ok (.iconst 0, 1) := by decide +kernel
theorem dX7_walk_42 : decode cX7_walk 42 = .ok (.istore 5, 2) := by decide +kernel
theorem dX7_walk_44 : decode cX7_walk 44 = .ok (.iload 5, 2) := by decide +kernel
theorem dX7_walk_46 : decode cX7_walk 46 = .ok (.aload_n 0, 1) := by decide +kernel
theorem dX7_walk_47 : decode cX7_walk 47 = .ok (.getfield 13, 3) := by decide +kernel
theorem dX7_walk_50 : decode cX7_walk 50 = .ok (.getfield 26, 3) := by decide +kernel
theorem dX7_walk_53 : decode cX7_walk 53 = .ok (.if_icmp .ge 64, 3) := by decide +kernel
theorem dX7_walk_56 : decode cX7_walk 56 = .ok (.iload 4, 2) := by decide +kernel
theorem dX7_walk_58 : decode cX7_walk 58 = .ok (.iload_n 3, 1) := by decide +kernel
theorem dX7_walk_59 : decode cX7_walk 59 = .ok (.if_icmp .gt 58, 3) := by decide +kernel
theorem dX7_walk_62 : decode cX7_walk 62 = .ok (.iload_n 2, 1) := by decide +kernel
theorem dX7_walk_63 : decode cX7_walk 63 = .ok (.iload 5, 2) := by decide +kernel
theorem dX7_walk_65 : decode cX7_walk 65 = .ok (.ishr, 1) := by decide +kernel
theorem dX7_walk_66 : decode cX7_walk 66 = .ok (.iconst 1, 1) := by decide +kernel
theorem dX7_walk_67 : decode cX7_walk 67 = .ok (.iand, 1) := by decide +kernel
theorem dX7_walk_68 : decode cX7_walk 68 = .ok (.ifCond .ne 43, 3) := by decide +kernel
theorem dX7_walk_71 : decode cX7_walk 71 = .ok (.aload_n 0, 1) := by decide +kernel
theorem dX7_walk_72 : decode cX7_walk 72 = .ok (.getfield 17, 3) := by decide +kernel
theorem dX7_walk_75 : decode cX7_walk 75 = .ok (.aload_n 0, 1) := by decide +kernel
theorem dX7_walk_76 : decode cX7_walk 76 = .ok (.getfield 13, 3) := by decide +kernel
theorem dX7_walk_79 : decode cX7_walk 79 = .ok (.iload 5, 2) := by decide +kernel
theorem dX7_walk_81 : decode cX7_walk 81 = .ok (.invokevirtual 31, 3) := by decide +kernel
theorem dX7_walk_84 : decode cX7_walk 84 = .ok (.invokevirtual 35, 3) := by decide +kernel
theorem dX7_walk_87 : decode cX7_walk 87 = .ok (.aload_n 0, 1) := by decide +kernel
theorem dX7_walk_88 : decode cX7_walk 88 = .ok (.iload_n 1, 1) := by decide +kernel
theorem dX7_walk_89 : decode cX7_walk 89 = .ok (.iconst 1, 1) := by decide +kernel
theorem dX7_walk_90 : decode cX7_walk 90 = .ok (.iadd, 1) := by decide +kernel
theorem dX7_walk_91 : decode cX7_walk 91 = .ok (.iload_n 2, 1) := by decide +kernel
theorem dX7_walk_92 : decode cX7_walk 92 = .ok (.iconst 1, 1) := by decide +kernel
theorem dX7_walk_93 : decode cX7_walk 93 = .ok (.iload 5, 2) := by decide +kernel
theorem dX7_walk_95 : decode cX7_walk 95 = .ok (.ishl, 1) := by decide +kernel
theorem dX7_walk_96 : decode cX7_walk 96 = .ok (.ior, 1) := by decide +kernel
theorem dX7_walk_97 : decode cX7_walk 97 = .ok (.iload_n 3, 1) := by decide +kernel
theorem dX7_walk_98 : decode cX7_walk 98 = .ok (.invokevirtual 43, 3) := by decide +kernel
theorem dX7_walk_101 : decode cX7_walk 101 = .ok (.aload_n 0, 1) := by decide +kernel
theorem dX7_walk_102 : decode cX7_walk 102 = .ok (.getfield 17, 3) := by decide +kernel
theorem dX7_walk_105 : decode cX7_walk 105 = .ok (.invokevirtual 47, 3) := by decide +kernel
theorem dX7_walk_108 : decode cX7_walk 108 = .ok (.iinc 4 1, 3) := by decide +kernel
theorem dX7_walk_111 : decode cX7_walk 111 = .ok (.iinc 5 1, 3) := by decide +kernel
theorem dX7_walk_114 : decode cX7_walk 114 = .ok (.goto (-70), 3) := by decide +kernel
theorem dX7_walk_117 : decode cX7_walk 117 = .ok (.return_, 1) := by decide +kernel
theorem dJ6_bitCount_0f7a4_0 : decode cJ6_bitCount_0f7a4 0 = .ok (.iload_n 0, 1) := by decide +kernel
theorem dJ6_bitCount_0f7a4_1 : decode cJ6_bitCount_0f7a4 1 = .ok (.iload_n 0, 1) := by decide +kernel
theorem dJ6_bitCount_0f7a4_2 : decode cJ6_bitCount_0f7a4 2 = .ok (.iconst 1, 1) := by decide +kernel
theorem dJ6_bitCount_0f7a4_3 : decode cJ6_bitCount_0f7a4 3 = .ok (.iushr, 1) := by decide +kernel
theorem dJ6_bitCount_0f7a4_4 : decode cJ6_bitCount_0f7a4 4 = .ok (.ldc_w 265, 3) := by decide +kernel
theorem dJ6_bitCount_0f7a4_7 : decode cJ6_bitCount_0f7a4 7 = .ok (.iand, 1) := by decide +kernel
theorem dJ6_bitCount_0f7a4_8 : decode cJ6_bitCount_0f7a4 8 = .ok (.isub, 1) := by decide +kernel
theorem dJ6_bitCount_0f7a4_9 : decode cJ6_bitCount_0f7a4 9 = .ok (.istore_n 0, 1) := by decide +kernel
theorem dJ6_bitCount_0f7a4_10 : decode cJ6_bitCount_0f7a4 10 = .ok (.iload_n 0, 1) := by decide +kernel
theorem dJ6_bitCount_0f7a4_11 : decode cJ6_bitCount_0f7a4 11 = .ok (.ldc_w 266, 3) := by decide +kernel
theorem dJ6_bitCount_0f7a4_14 : decode cJ6_bitCount_0f7a4 14 = .ok (.iand, 1) := by decide +kernel
theorem dJ6_bitCount_0f7a4_15 : decode cJ6_bitCount_0f7a4 15 = .ok (.iload_n 0, 1) := by decide +kernel
theorem dJ6_bitCount_0f7a4_16 : decode cJ6_bitCount_0f7a4 16 = .ok (.iconst 2, 1) := by decide +kernel
theorem dJ6_bitCount_0f7a4_17 : decode cJ6_bitCount_0f7a4 17 = .ok (.iushr, 1) := by decide +kernel
theorem dJ6_bitCount_0f7a4_18 : decode cJ6_bitCount_0f7a4 18 = .ok (.ldc_w 266, 3) := by decide +kernel
theorem dJ6_bitCount_0f7a4_21 : decode cJ6_bitCount_0f7a4 21 = .ok (.iand, 1) := by decide +kernel
theorem dJ6_bitCount_0f7a4_22 : decode cJ6_bitCount_0f7a4 22 = .ok (.iadd, 1) := by decide +kernel
theorem dJ6_bitCount_0f7a4_23 : decode cJ6_bitCount_0f7a4 23 = .ok (.istore_n 0, 1) := by decide +kernel
theorem dJ6_bitCount_0f7a4_24 : decode cJ6_bitCount_0f7a4 24 = .ok (.iload_n 0, 1) := by decide +kernel
theorem dJ6_bitCount_0f7a4_25 : decode cJ6_bitCount_0f7a4 25 = .ok (.iload_n 0, 1) := by decide +kernel
theorem dJ6_bitCount_0f7a4_26 : decode cJ6_bitCount_0f7a4 26 = .ok (.iconst 4, 1) := by decide +kernel
theorem dJ6_bitCount_0f7a4_27 : decode cJ6_bitCount_0f7a4 27 = .ok (.iushr, 1) := by decide +kernel
theorem dJ6_bitCount_0f7a4_28 : decode cJ6_bitCount_0f7a4 28 = .ok (.iadd, 1) := by decide +kernel
theorem dJ6_bitCount_0f7a4_29 : decode cJ6_bitCount_0f7a4 29 = .ok (.ldc_w 267, 3) := by decide +kernel
theorem dJ6_bitCount_0f7a4_32 : decode cJ6_bitCount_0f7a4 32 = .ok (.iand, 1) := by decide +kernel
theorem dJ6_bitCount_0f7a4_33 : decode cJ6_bitCount_0f7a4 33 = .ok (.istore_n 0, 1) := by decide +kernel
theorem dJ6_bitCount_0f7a4_34 : decode cJ6_bitCount_0f7a4 34 = .ok (.iload_n 0, 1) := by decide +kernel
theorem dJ6_bitCount_0f7a4_35 : decode cJ6_bitCount_0f7a4 35 = .ok (.iload_n 0, 1) := by decide +kernel
theorem dJ6_bitCount_0f7a4_36 : decode cJ6_bitCount_0f7a4 36 = .ok (.bipush 8, 2) := by decide +kernel
theorem dJ6_bitCount_0f7a4_38 : decode cJ6_bitCount_0f7a4 38 = .ok (.iushr, 1) := by decide +kernel
theorem dJ6_bitCount_0f7a4_39 : decode cJ6_bitCount_0f7a4 39 = .ok (.iadd, 1) := by decide +kernel
theorem dJ6_bitCount_0f7a4_40 : decode cJ6_bitCount_0f7a4 40 = .ok (.istore_n 0, 1) := by decide +kernel
theorem dJ6_bitCount_0f7a4_41 : decode cJ6_bitCount_0f7a4 41 = .ok (.iload_n 0, 1) := by decide +kernel
theorem dJ6_bitCount_0f7a4_42 : decode cJ6_bitCount_0f7a4 42 = .ok (.iload_n 0, 1) := by decide +kernel
theorem dJ6_bitCount_0f7a4_43 : decode cJ6_bitCount_0f7a4 43 = .ok (.bipush 16, 2) := by decide +kernel
theorem dJ6_bitCount_0f7a4_45 : decode cJ6_bitCount_0f7a4 45 = .ok (.iushr, 1) := by decide +kernel
theorem dJ6_bitCount_0f7a4_46 : decode cJ6_bitCount_0f7a4 46 = .ok (.iadd, 1) := by decide +kernel
theorem dJ6_bitCount_0f7a4_47 : decode cJ6_bitCount_0f7a4 47 = .ok (.istore_n 0, 1) := by decide +kernel
theorem dJ6_bitCount_0f7a4_48 : decode cJ6_bitCount_0f7a4 48 = .ok (.iload_n 0, 1) := by decide +kernel
theorem dJ6_bitCount_0f7a4_49 : decode cJ6_bitCount_0f7a4 49 = .ok (.bipush 63, 2) := by decide +kernel
theorem dJ6_bitCount_0f7a4_51 : decode cJ6_bitCount_0f7a4 51 = .ok (.iand, 1) := by decide +kernel
theorem dJ6_bitCount_0f7a4_52 : decode cJ6_bitCount_0f7a4 52 = .ok (.ireturn, 1) := by decide +kernel
theorem dJ9_max_7cf53_0 : decode cJ9_max_7cf53 0 = .ok (.iload_n 0, 1) := by decide +kernel
theorem dJ9_max_7cf53_1 : decode cJ9_max_7cf53 1 = .ok (.iload_n 1, 1) := by decide +kernel
theorem dJ9_max_7cf53_2 : decode cJ9_max_7cf53 2 = .ok (.if_icmp .lt 7, 3) := by decide +kernel
theorem dJ9_max_7cf53_5 : decode cJ9_max_7cf53 5 = .ok (.iload_n 0, 1) := by decide +kernel
theorem dJ9_max_7cf53_6 : decode cJ9_max_7cf53 6 = .ok (.goto 4, 3) := by decide +kernel
theorem dJ9_max_7cf53_9 : decode cJ9_max_7cf53 9 = .ok (.iload_n 1, 1) := by decide +kernel
theorem dJ9_max_7cf53_10 : decode cJ9_max_7cf53 10 = .ok (.ireturn, 1) := by decide +kernel
theorem dJ9_min_7cf53_0 : decode cJ9_min_7cf53 0 = .ok (.iload_n 0, 1) := by decide +kernel
theorem dJ9_min_7cf53_1 : decode cJ9_min_7cf53 1 = .ok (.iload_n 1, 1) := by decide +kernel
theorem dJ9_min_7cf53_2 : decode cJ9_min_7cf53 2 = .ok (.if_icmp .gt 7, 3) := by decide +kernel
theorem dJ9_min_7cf53_5 : decode cJ9_min_7cf53 5 = .ok (.iload_n 0, 1) := by decide +kernel
theorem dJ9_min_7cf53_6 : decode cJ9_min_7cf53 6 = .ok (.goto 4, 3) := by decide +kernel
theorem dJ9_min_7cf53_9 : decode cJ9_min_7cf53 9 = .ok (.iload_n 1, 1) := by decide +kernel
theorem dJ9_min_7cf53_10 : decode cJ9_min_7cf53 10 = .ok (.ireturn, 1) := by decide +kernel
