theorem dX9_rule_5 : decode cX9_rule 5 = .ok (.bipush (-2), 2) := by decide +kernel
theorem dX9_rule_7 : decode cX9_rule 7 = .ok (.ireturn, 1) := by decide +kernel
theorem dX9_rule_8 : decode cX9_rule 8 = .ok (.aload_n 0, 1) := by decide +kernel
theorem dX9_rule_9 : decode cX9_rule 9 = .ok (.getfield 28, 3) := by decide +kernel
theorem dX9_rule_12 : decode cX9_rule 12 = .ok (.aload_n 0, 1) := by decide +kernel
theorem dX9_rule_13 : decode cX9_rule 13 = .ok (.getfield 10, 3) := by decide +kernel
theorem dX9_rule_16 : decode cX9_rule 16 = .ok (.invokevirtual 107, 3) := by decide +kernel
theorem dX9_rule_19 : decode cX9_rule 19 = .ok (.invokevirtual 147, 3) := by decide +kernel
theorem dX9_rule_22 : decode cX9_rule 22 = .ok (.iload_n 1, 1) := by decide +kernel
theorem dX9_rule_23 : decode cX9_rule 23 = .ok (.iconst (-1), 1) := by decide +kernel
theorem dX9_rule_24 : decode cX9_rule 24 = .ok (.if_icmp .ne 13, 3) := by decide +kernel
theorem dX9_rule_27 : decode cX9_rule 27 = .ok (.aload_n 0, 1) := by decide +kernel
theorem dX9_rule_28 : decode cX9_rule 28 = .ok (.getfield 28, 3) := by decide +kernel
theorem dX9_rule_31 : decode cX9_rule 31 = .ok (.invokevirtual 151, 3) := by decide +kernel
theorem dX9_rule_34 : decode cX9_rule 34 = .ok (.goto 15, 3) := by decide +kernel
theorem dX9_rule_37 : decode cX9_rule 37 = .ok (.aload_n 0, 1) := by decide +kernel
theorem dX9_rule_38 : decode cX9_rule 38 = .ok (.aload_n 0, 1) := by decide +kernel
theorem dX9_rule_39 : decode cX9_rule 39 = .ok (.getfield 28, 3) := by decide +kernel
theorem dX9_rule_42 : decode cX9_rule 42 = .ok (.getfield 154, 3) := by decide +kernel
theorem dX9_rule_45 : decode cX9_rule 45 = .ok (.iload_n 1, 1) := by decide +kernel
theorem dX9_rule_46 : decode cX9_rule 46 = .ok (.invokevirtual 130, 3) := by decide +kernel
theorem dX9_rule_49 : decode cX9_rule 49 = .ok (.ireturn, 1) := by decide +kernel
theorem dX9_near_0 : decode cX9_near 0 = .ok (.iload_n 1, 1) := by decide +kernel
theorem dX9_near_1 : decode cX9_near 1 = .ok (.iconst (-1), 1) := by decide +kernel
theorem dX9_near_2 : decode cX9_near 2 = .ok (.if_icmp .ge 6, 3) := by decide +kernel
theorem dX9_near_5 : decode cX9_near 5 = .ok (.bipush (-2), 2) := by decide +kernel
theorem dX9_near_7 : decode cX9_near 7 = .ok (.ireturn, 1) := by decide +kernel
theorem dX9_near_8 : decode cX9_near 8 = .ok (.aload_n 0, 1) := by decide +kernel
theorem dX9_near_9 : decode cX9_near 9 = .ok (.getfield 37, 3) := by decide +kernel
theorem dX9_near_12 : decode cX9_near 12 = .ok (.invokevirtual 121, 3) := by decide +kernel
theorem dX9_near_15 : decode cX9_near 15 = .ok (.aload_n 0, 1) := by decide +kernel
theorem dX9_near_16 : decode cX9_near 16 = .ok (.getfield 37, 3) := by decide +kernel
theorem dX9_near_19 : decode cX9_near 19 = .ok (.getfield 124, 3) := by decide +kernel
theorem dX9_near_22 : decode cX9_near 22 = .ok (.ifCond .ne 6, 3) := by decide +kernel
theorem dX9_near_25 : decode cX9_near 25 = .ok (.bipush (-6), 2) := by decide +kernel
theorem dX9_near_27 : decode cX9_near 27 = .ok (.ireturn, 1) := by decide +kernel
theorem dX9_near_28 : decode cX9_near 28 = .ok (.iload_n 1, 1) := by decide +kernel
theorem dX9_near_29 : decode cX9_near 29 = .ok (.iconst (-1), 1) := by decide +kernel
theorem dX9_near_30 : decode cX9_near 30 = .ok (.if_icmp .ne 13, 3) := by decide +kernel
theorem dX9_near_33 : decode cX9_near 33 = .ok (.aload_n 0, 1) := by decide +kernel
theorem dX9_near_34 : decode cX9_near 34 = .ok (.getfield 37, 3) := by decide +kernel
theorem dX9_near_37 : decode cX9_near 37 = .ok (.getfield 157, 3) := by decide +kernel
theorem dX9_near_40 : decode cX9_near 40 = .ok (.goto 15, 3) := by decide +kernel
theorem dX9_near_43 : decode cX9_near 43 = .ok (.aload_n 0, 1) := by decide +kernel
theorem dX9_near_44 : decode cX9_near 44 = .ok (.aload_n 0, 1) := by decide +kernel
theorem dX9_near_45 : decode cX9_near 45 = .ok (.getfield 37, 3) := by decide +kernel
theorem dX9_near_48 : decode cX9_near 48 = .ok (.getfield 160, 3) := by decide +kernel
theorem dX9_near_51 : decode cX9_near 51 = .ok (.iload_n 1, 1) := by decide +kernel
theorem dX9_near_52 : decode cX9_near 52 = .ok (.invokevirtual 130, 3) := by decide +kernel
theorem dX9_near_55 : decode cX9_near 55 = .ok (.ireturn, 1) := by decide +kernel
theorem dX9_say_0 : decode cX9_say 0 = .ok (.iload_n 1, 1) := by decide +kernel
theorem dX9_say_1 : decode cX9_say 1 = .ok (.bipush 48, 2) := by decide +kernel
theorem dX9_say_3 : decode cX9_say 3 = .ok (.if_icmp .lt 9, 3) := by decide +kernel
theorem dX9_say_6 : decode cX9_say 6 = .ok (.iload_n 1, 1) := by decide +kernel
theorem dX9_say_7 : decode cX9_say 7 = .ok (.bipush 53, 2) := by decide +kernel
theorem dX9_say_9 : decode cX9_say 9 = .ok (.if_icmp .lt 12, 3) := by decide +kernel
theorem dX9_say_12 : decode cX9_say 12 = .ok (.iload_n 1, 1) := by decide +kernel
theorem dX9_say_13 : decode cX9_say 13 = .ok (.bipush 63, 2) := by decide +kernel
theorem dX9_say_15 : decode cX9_say 15 = .ok (.if_icmp .eq 6, 3) := by decide +kernel
theorem dX9_say_18 : decode cX9_say 18 = .ok (.bipush (-2), 2) := by decide +kernel
theorem dX9_say_20 : decode cX9_say 20 = .ok (.ireturn, 1) := by decide +kernel
theorem dX9_say_21 : decode cX9_say 21 = .ok (.aload_n 0, 1) := by decide +kernel
theorem dX9_say_22 : decode cX9_say 22 = .ok (.getfield 19, 3) := by decide +kernel
theorem dX9_say_25 : decode cX9_say 25 = .ok (.getfield 163, 3) := by decide +kernel
theorem dX9_say_28 : decode cX9_say 28 = .ok (.bipush 9, 2) := by decide +kernel
theorem dX9_say_30 : decode cX9_say 30 = .ok (.if_icmp .lt 6, 3) := by decide +kernel
theorem dX9_say_33 : decode cX9_say 33 = .ok (.bipush (-4), 2) := by decide +kernel
theorem dX9_say_35 : decode cX9_say 35 = .ok (.ireturn, 1) := by decide +kernel
theorem dX9_say_36 : decode cX9_say 36 = .ok (.aload_n 0, 1) := by decide +kernel
theorem dX9_say_37 : decode cX9_say 37 = .ok (.getfield 19, 3) := by decide +kernel
theorem dX9_say_40 : decode cX9_say 40 = .ok (.iload_n 1, 1) := by decide +kernel
theorem dX9_say_41 : decode cX9_say 41 = .ok (.bipush 63, 2) := by decide +kernel
theorem dX9_say_43 : decode cX9_say 43 = .ok (.if_icmp .ne 7, 3) := by decide +kernel
theorem dX9_say_46 : decode cX9_say 46 = .ok (.iconst (-1), 1) := by decide +kernel
theorem dX9_say_47 : decode cX9_say 47 = .ok (.goto 7, 3) := by decide +kernel
theorem dX9_say_50 : decode cX9_say 50 = .ok (.iload_n 1, 1) := by decide +kernel
theorem dX9_say_51 : decode cX9_say 51 = .ok (.bipush 48, 2) := by decide +kernel
theorem dX9_say_53 : decode cX9_say 53 = .ok (.isub, 1) := by decide +kernel
theorem dX9_say_54 : decode cX9_say 54 = .ok (.invokevirtual 166, 3) := by decide +kernel
theorem dX9_say_57 : decode cX9_say 57 = .ok (.aload_n 0, 1) := by decide +kernel
theorem dX9_say_58 : decode cX9_say 58 = .ok (.getfield 60, 3) := by decide +kernel
theorem dX9_say_61 : decode cX9_say 61 = .ok (.invokevirtual 169, 3) := by decide +kernel
theorem dX9_say_64 : decode cX9_say 64 = .ok (.aload_n 0, 1) := by decide +kernel
theorem dX9_say_65 : decode cX9_say 65 = .ok (.getfield 19, 3) := by decide +kernel
theorem dX9_say_68 : decode cX9_say 68 = .ok (.getfield 163, 3) := by decide +kernel
theorem dX9_say_71 : decode cX9_say 71 = .ok (.ireturn, 1) := by decide +kernel
theorem dX9_wipe_0 : decode cX9_wipe 0 = .ok (.aload_n 0, 1) := by decide +kernel
theorem dX9_wipe_1 : decode cX9_wipe 1 = .ok (.getfield 19, 3) := by decide +kernel
theorem dX9_wipe_4 : decode cX9_wipe 4 = .ok (.getfield 163, 3) := by decide +kernel
theorem dX9_wipe_7 : decode cX9_wipe 7 = .ok (.istore_n 1, 1) := by decide +kernel
theorem dX9_wipe_8 : decode cX9_wipe 8 = .ok (.aload_n 0, 1) := by decide +kernel
theorem dX9_wipe_9 : decode cX9_wipe 9 = .ok (.getfield 19, 3) := by decide +kernel
theorem dX9_wipe_12 : decode cX9_wipe 12 = .ok (.iconst 0, 1) := by decide +kernel
theorem dX9_wipe_13 : decode cX9_wipe 13 = .ok (.putfield 163, 3) := by decide +kernel
theorem dX9_wipe_16 : decode cX9_wipe 16 = .ok (.aload_n 0, 1) := by decide +kernel
theorem dX9_wipe_17 : decode cX9_wipe 17 = .ok (.getfield 60, 3) := by decide +kernel
theorem dX9_wipe_20 : decode cX9_wipe 20 = .ok (.invokevirtual 169, 3) := by decide +kernel
theorem dX9_wipe_23 : decode cX9_wipe 23 = .ok (.iload_n 1, 1) := by decide +kernel
theorem dX9_wipe_24 : decode cX9_wipe 24 = .ok (.ireturn, 1) := by decide +kernel
theorem dX9_row_0 : decode cX9_row 0 = .ok (.iload_n 1, 1) := by decide +kernel
theorem dX9_row_1 : decode cX9_row 1 = .ok (.ifCond .lt 8, 3) := by decide +kernel
theorem dX9_row_4 : decode cX9_row 4 = .ok (.iload_n 1, 1) := by decide +kernel
theorem dX9_row_5 : decode cX9_row 5 = .ok (.iconst 2, 1) := by decide +kernel
theorem dX9_row_6 : decode cX9_row 6 = .ok (.if_icmp .le 6, 3) := by decide +kernel
theorem dX9_row_9 : decode cX9_row 9 = .ok (.bipush (-2), 2) := by decide +kernel
theorem dX9_row_11 : decode cX9_row 11 = .ok (.ireturn, 1) := by decide +kernel
theorem dX9_row_12 : decode cX9_row 12 = .ok (.aload_n 0, 1) := by decide +kernel
theorem dX9_row_13 : decode cX9_row 13 = .ok (.getfield 19, 3) := by decide +kernel
theorem dX9_row_16 : decode cX9_row 16 = .ok (.invokevirtual 172, 3) := by decide +kernel
theorem dX9_row_19 : decode cX9_row 19 = .ok (.ifCond .eq 6, 3) := by decide +kernel
theorem dX9_row_22 : decode cX9_row 22 = .ok (.bipush (-7), 2) := by decide +kernel
theorem dX9_row_24 : decode cX9_row 24 = .ok (.ireturn, 1) := by decide +kernel
theorem dX9_row_25 : decode cX9_row 25 = .ok (.aload_n 0, 1) := by decide +kernel
theorem dX9_row_26 : decode cX9_row 26 = .ok (.invokevirtual 176, 3) := by decide +kernel
theorem dX9_row_29 : decode cX9_row 29 = .ok (.istore_n 2, 1) := by decide +kernel
theorem dX9_row_30 : decode cX9_row 30 = .ok (.iload_n 1, 1) := by decide +kernel
theorem dX9_row_31 : decode cX9_row 31 = .ok (.lookupswitch 41 #[(0, 25), (1, 33)], 25) := by decide +kernel
theorem dX9_row_56 : decode cX9_row 56 = .ok (.aload_n 0, 1) := by decide +kernel
theorem dX9_row_57 : decode cX9_row 57 = .ok (.getfield 28, 3) := by decide +kernel
theorem dX9_row_60 : decode cX9_row 60 = .ok (.invokevirtual 151, 3) := by decide +kernel
theorem dX9_row_63 : decode cX9_row 63 = .ok (.ireturn, 1) := by decide +kernel
theorem dX9_row_64 : decode cX9_row 64 = .ok (.aload_n 0, 1) := by decide +kernel
theorem dX9_row_65 : decode cX9_row 65 = .ok (.getfield 28, 3) := by decide +kernel
theorem dX9_row_68 : decode cX9_row 68 = .ok (.invokevirtual 179, 3) := by decide +kernel
theorem dX9_row_71 : decode cX9_row 71 = .ok (.ireturn, 1) := by decide +kernel
theorem dX9_row_72 : decode cX9_row 72 = .ok (.aload_n 0, 1) := by decide +kernel
theorem dX9_row_73 : decode cX9_row 73 = .ok (.getfield 28, 3) := by decide +kernel
theorem dX9_row_76 : decode cX9_row 76 = .ok (.invokevirtual 182, 3) := by decide +kernel
theorem dX9_row_79 : decode cX9_row 79 = .ok (.ifCond .eq 7, 3) := by decide +kernel
theorem dX9_row_82 : decode cX9_row 82 = .ok (.iload_n 2, 1) := by decide +kernel
theorem dX9_row_83 : decode cX9_row 83 = .ok (.goto 5, 3) := by decide +kernel
theorem dX9_row_86 : decode cX9_row 86 = .ok (.bipush (-6), 2) := by decide +kernel
theorem dX9_row_88 : decode cX9_row 88 = .ok (.ireturn, 1) := by decide +kernel
theorem dX9_filled_0 : decode cX9_filled 0 = .ok (.iload_n 1, 1) := by decide +kernel
theorem dX9_filled_1 : decode cX9_filled 1 = .ok (.iconst (-1), 1) := by decide +kernel
theorem dX9_filled_2 : decode cX9_filled 2 = .ok (.if_icmp .ge 6, 3) := by decide +kernel
theorem dX9_filled_5 : decode cX9_filled 5 = .ok (.bipush (-2), 2) := by decide +kernel
theorem dX9_filled_7 : decode cX9_filled 7 = .ok (.ireturn, 1) := by decide +kernel
theorem dX9_filled_8 : decode cX9_filled 8 = .ok (.aload_n 0, 1) := by decide +kernel
theorem dX9_filled_9 : decode cX9_filled 9 = .ok (.getfield 60, 3) := by decide +kernel
theorem dX9_filled_12 : decode cX9_filled 12 = .ok (.invokevirtual 185, 3) := by decide +kernel
theorem dX9_filled_15 : decode cX9_filled 15 = .ok (.iload_n 1, 1) := by decide +kernel
theorem dX9_filled_16 : decode cX9_filled 16 = .ok (.iconst (-1), 1) := by decide +kernel
theorem dX9_filled_17 : decode cX9_filled 17 = .ok (.if_icmp .ne 11, 3) := by decide +kernel
theorem dX9_filled_20 : decode cX9_filled 20 = .ok (.aload_n 0, 1) := by decide +kernel
theorem dX9_filled_21 : decode cX9_filled 21 = .ok (.getfield 60, 3) := by decide +kernel
theorem dX9_filled_24 : decode cX9_filled 24 = .ok (.getfield 186, 3) := by decide +kernel
theorem dX9_filled_27 : decode cX9_filled 27 = .ok (.ireturn, 1) := by decide +kernel
theorem dX9_filled_28 : decode cX9_filled 28 = .ok (.aload_n 0, 1) := by decide +kernel
theorem dX9_filled_29 : decode cX9_filled 29 = .ok (.getfield 60, 3) := by decide +kernel
theorem dX9_filled_32 : decode cX9_filled 32 = .ok (.getfield 186, 3) := by decide +kernel
theorem dX9_filled_35 : decode cX9_filled 35 = .ok (.ifCond .ne 8, 3) := by decide +kernel
theorem dX9_filled_38 : decode cX9_filled 38 = .ok (.bipush (-6), 2) := by decide +kernel
theorem dX9_filled_40 : decode cX9_filled 40 = .ok (.goto 15, 3) := by decide +kernel
theorem dX9_filled_43 : decode cX9_filled 43 = .ok (.aload_n 0, 1) := by decide +kernel
theorem dX9_filled_44 : decode cX9_filled 44 = .ok (.aload_n 0, 1) := by decide +kernel
theorem dX9_filled_45 : decode cX9_filled 45 = .ok (.getfield 60, 3) := by decide +kernel
theorem dX9_filled_48 : decode cX9_filled 48 = .ok (.getfield 187, 3) := by decide +kernel
theorem dX9_filled_51 : decode cX9_filled 51 = .ok (.iload_n 1, 1) := by decide +kernel
theorem dX9_filled_52 : decode cX9_filled 52 = .ok (.invokevirtual 130, 3) := by decide +kernel
theorem dX9_filled_55 : decode cX9_filled 55 = .ok (.ireturn, 1) := by decide +kernel
theorem dX9_lane_0 : decode cX9_lane 0 = .ok (.iload_n 1, 1) := by decide +kernel
theorem dX9_lane_1 : decode cX9_lane 1 = .ok (.ifCond .lt 8, 3) := by decide +kernel
theorem dX9_lane_4 : decode cX9_lane 4 = .ok (.iload_n 1, 1) := by decide +kernel
theorem dX9_lane_5 : decode cX9_lane 5 = .ok (.iconst 2, 1) := by decide +kernel
theorem dX9_lane_6 : decode cX9_lane 6 = .ok (.if_icmp .le 6, 3) := by decide +kernel
theorem dX9_lane_9 : decode cX9_lane 9 = .ok (.bipush (-2), 2) := by decide +kernel
theorem dX9_lane_11 : decode cX9_lane 11 = .ok (.ireturn, 1) := by decide +kernel
theorem dX9_lane_12 : decode cX9_lane 12 = .ok (.aload_n 0, 1) := by decide +kernel
theorem dX9_lane_13 : decode cX9_lane 13 = .ok (.getfield 19, 3) := by decide +kernel
theorem dX9_lane_16 : decode cX9_lane 16 = .ok (.invokevirtual 172, 3) := by decide +kernel
theorem dX9_lane_19 : decode cX9_lane 19 = .ok (.ifCond .eq 6, 3) := by decide +kernel
theorem dX9_lane_22 : decode cX9_lane 22 = .ok (.bipush (-7), 2) := by decide +kernel
theorem dX9_lane_24 : decode cX9_lane 24 = .ok (.ireturn, 1) := by decide +kernel
theorem dX9_lane_25 : decode cX9_lane 25 = .ok (.aload_n 0, 1) := by decide +kernel
theorem dX9_lane_26 : decode cX9_lane 26 = .ok (.getfield 69, 3) := by decide +kernel
theorem dX9_lane_29 : decode cX9_lane 29 = .ok (.iload_n 1, 1) := by decide +kernel
theorem dX9_lane_30 : decode cX9_lane 30 = .ok (.invokevirtual 188, 3) := by decide +kernel
theorem dX9_lane_33 : decode cX9_lane 33 = .ok (.ireturn, 1) := by decide +kernel
theorem dX9_image_0 : decode cX9_image 0 = .ok (.iload_n 1, 1) := by decide +kernel
theorem dX9_image_1 : decode cX9_image 1 = .ok (.invokestatic 191, 3) := by decide +kernel
theorem dX9_image_4 : decode cX9_image 4 = .ok (.ifCond .ne 6, 3) := by decide +kernel
theorem dX9_image_7 : decode cX9_image 7 = .ok (.bipush (-2), 2) := by decide +kernel
theorem dX9_image_9 : decode cX9_image 9 = .ok (.ireturn, 1) := by decide +kernel
theorem dX9_image_10 : decode cX9_image 10 = .ok (.aload_n 0, 1) := by decide +kernel
theorem dX9_image_11 : decode cX9_image 11 = .ok (.iload_n 1, 1) := by decide +kernel
theorem dX9_image_12 : decode cX9_image 12 = .ok (.invokevirtual 194, 3) := by decide +kernel
theorem dX9_image_15 : decode cX9_image 15 = .ok (.aload_n 0, 1) := by decide +kernel
theorem dX9_image_16 : decode cX9_image 16 = .ok (.getfield 10, 3) := by decide +kernel
theorem dX9_image_19 : decode cX9_image 19 = .ok (.invokevirtual 198, 3) := by decide +kernel
theorem dX9_image_22 : decode cX9_image 22 = .ok (.aload_n 0, 1) := by decide +kernel
theorem dX9_image_23 : decode cX9_image 23 = .ok (.dup, 1) := by decide +kernel
theorem dX9_image_24 : decode cX9_image 24 = .ok (.getfield 79, 3) := by decide +kernel
theorem dX9_image_27 : decode cX9_image 27 = .ok (.iconst 1, 1) := by decide +kernel
theorem dX9_image_28 : decode cX9_image 28 = .ok (.iload_n 1, 1) := by decide +kernel
theorem dX9_image_29 : decode cX9_image 29 = .ok (.ishl, 1) := by decide +kernel
theorem dX9_image_30 : decode cX9_image 30 = .ok (.ior, 1) := by decide +kernel
theorem dX9_image_31 : decode cX9_image 31 = .ok (.putfield 79, 3) := by decide +kernel
theorem dX9_image_34 : decode cX9_image 34 = .ok (.iconst 1, 1) := by decide +kernel
theorem dX9_image_35 : decode cX9_image 35 = .ok (.ireturn, 1) := by decide +kernel
theorem dX9_restore_0 : decode cX9_restore 0 = .ok (.iload_n 1, 1) := by decide +kernel
theorem dX9_restore_1 : decode cX9_restore 1 = .ok (.invokestatic 191, 3) := by decide +kernel
theorem dX9_restore_4 : decode cX9_restore 4 = .ok (.ifCond .ne 6, 3) := by decide +kernel
theorem dX9_restore_7 : decode cX9_restore 7 = .ok (.bipush (-2), 2) := by decide +kernel
theorem dX9_restore_9 : decode cX9_restore 9 = .ok (.ireturn, 1) := by decide +kernel
theorem dX9_restore_10 : decode cX9_restore 10 = .ok (.aload_n 0, 1) := by decide +kernel
theorem dX9_restore_11 : decode cX9_restore 11 = .ok (.getfield 79, 3) := by decide +kernel
theorem dX9_restore_14 : decode cX9_restore 14 = .ok (.iload_n 1, 1) := by decide +kernel
theorem dX9_restore_15 : decode cX9_restore 15 = .ok (.ishr, 1) := by decide +kernel
theorem dX9_restore_16 : decode cX9_restore 16 = .ok (.iconst 1, 1) := by decide +kernel
theorem dX9_restore_17 : decode cX9_restore 17 = .ok (.iand, 1) := by decide +kernel
theorem dX9_restore_18 : decode cX9_restore 18 = .ok (.ifCond .ne 6, 3) := by decide +kernel
theorem dX9_restore_21 : decode cX9_restore 21 = .ok (.bipush (-3), 2) := by decide +kernel
theorem dX9_restore_23 : decode cX9_restore 23 = .ok (.ireturn, 1) := by decide +kernel
theorem dX9_restore_24 : decode cX9_restore 24 = .ok (.aload_n 0, 1) := by decide +kernel
theorem dX9_restore_25 : decode cX9_restore 25 = .ok (.getfield 10, 3) := by decide +kernel
theorem dX9_restore_28 : decode cX9_restore 28 = .ok (.aload_n 0, 1) := by decide +kernel
theorem dX9_restore_29 : decode cX9_restore 29 = .ok (.iload_n 1, 1) := by decide +kernel
theorem dX9_restore_30 : decode cX9_restore 30 = .ok (.invokevirtual 194, 3) := by decide +kernel
theorem dX9_restore_33 : decode cX9_restore 33 = .ok (.invokevirtual 198, 3) := by decide +kernel
theorem dX9_restore_36 : decode cX9_restore 36 = .ok (.aload_n 0, 1) := by decide +kernel
theorem dX9_restore_37 : decode cX9_restore 37 = .ok (.invokevirtual 98, 3) := by decide +kernel
theorem dX9_restore_40 : decode cX9_restore 40 = .ok (.iconst 1, 1) := by decide +kernel
theorem dX9_restore_41 : decode cX9_restore 41 = .ok (.ireturn, 1) := by decide +kernel
theorem dX9_count_0 : decode cX9_count 0 = .ok (.iload_n 1, 1) := by decide +kernel
theorem dX9_count_1 : decode cX9_count 1 = .ok (.tableswitch 77 0 4 #[35, 43, 51, 59, 72], 35) := by decide +kernel
theorem dX9_count_36 : decode cX9_count 36 = .ok (.aload_n 0, 1) := by decide +kernel
theorem dX9_count_37 : decode cX9_count 37 = .ok (.getfield 10, 3) := by decide +kernel
theorem dX9_count_40 : decode cX9_count 40 = .ok (.invokevirtual 107, 3) := by decide +kernel
theorem dX9_count_43 : decode cX9_count 43 = .ok (.ireturn, 1) := by decide +kernel
theorem dX9_count_44 : decode cX9_count 44 = .ok (.aload_n 0, 1) := by decide +kernel
theorem dX9_count_45 : decode cX9_count 45 = .ok (.getfield 10, 3) := by decide +kernel
theorem dX9_count_48 : decode cX9_count 48 = .ok (.invokevirtual 201, 3) := by decide +kernel
theorem dX9_count_51 : decode cX9_count 51 = .ok (.ireturn, 1) := by decide +kernel
theorem dX9_count_52 : decode cX9_count 52 = .ok (.aload_n 0, 1) := by decide +kernel
theorem dX9_count_53 : decode cX9_count 53 = .ok (.getfield 19, 3) := by decide +kernel
theorem dX9_count_56 : decode cX9_count 56 = .ok (.getfield 163, 3) := by decide +kernel
theorem dX9_count_59 : decode cX9_count 59 = .ok (.ireturn, 1) := by decide +kernel
theorem dX9_count_60 : decode cX9_count 60 = .ok (.aload_n 0, 1) := by decide +kernel
theorem dX9_count_61 : decode cX9_count 61 = .ok (.invokevirtual 204, 3) := by decide +kernel
theorem dX9_count_64 : decode cX9_count 64 = .ok (.ifCond .eq 7, 3) := by decide +kernel
theorem dX9_count_67 : decode cX9_count 67 = .ok (.iconst 1, 1) := by decide +kernel
theorem dX9_count_68 : decode cX9_count 68 = .ok (.goto 4, 3) := by decide +kernel
theorem dX9_count_71 : decode cX9_count 71 = .ok (.iconst 0, 1) := by decide +kernel
theorem dX9_count_72 : decode cX9_count 72 = .ok (.ireturn, 1) := by decide +kernel
theorem dX9_count_73 : decode cX9_count 73 = .ok (.aload_n 0, 1) := by decide +kernel
theorem dX9_count_74 : decode cX9_count 74 = .ok (.getfield 79, 3) := by decide +kernel
theorem dX9_count_77 : decode cX9_count 77 = .ok (.ireturn, 1) := by decide +kernel
theorem dX9_count_78 : decode cX9_count 78 = .ok (.bipush (-2), 2) := by decide +kernel
theorem dX9_count_80 : decode cX9_count 80 = .ok (.ireturn, 1) := by decide +kernel
theorem dX9_isOption_0 : decode cX9_isOption 0 = .ok (.iload_n 0, 1) := by decide +kernel
theorem dX9_isOption_1 : decode cX9_isOption 1 = .ok (.ifCond .lt 12, 3) := by decide +kernel
theorem dX9_isOption_4 : decode cX9_isOption 4 = .ok (.iload_n 0, 1) := by decide +kernel
theorem dX9_isOption_5 : decode cX9_isOption 5 = .ok (.iconst 4, 1) := by decide +kernel
theorem dX9_isOption_6 : decode cX9_isOption 6 = .ok (.if_icmp .ge 7, 3) := by decide +kernel
theorem dX9_isOption_9 : decode cX9_isOption 9 = .ok (.iconst 1, 1) := by decide +kernel
theorem dX9_isOption_10 : decode cX9_isOption 10 = .ok (.goto 4, 3) := by decide +kernel
theorem dX9_isOption_13 : decode cX9_isOption 13 = .ok (.iconst 0, 1) := by decide +kernel
theorem dX9_isOption_14 : decode cX9_isOption 14 = .ok (.ireturn, 1) := by decide +kernel
theorem dX9_isClass_0 : decode cX9_isClass 0 = .ok (.iload_n 0, 1) := by decide +kernel
theorem dX9_isClass_1 : decode cX9_isClass 1 = .ok (.ifCond .lt 12, 3) := by decide +kernel
theorem dX9_isClass_4 : decode cX9_isClass 4 = .ok (.iload_n 0, 1) := by decide +kernel
theorem dX9_isClass_5 : decode cX9_isClass 5 = .ok (.iconst 5, 1) := by decide +kernel
theorem dX9_isClass_6 : decode cX9_isClass 6 = .ok (.if_icmp .ge 7, 3) := by decide +kernel
theorem dX9_isClass_9 : decode cX9_isClass 9 = .ok (.iconst 1, 1) := by decide +kernel
theorem dX9_isClass_10 : decode cX9_isClass 10 = .ok (.goto 4, 3) := by decide +kernel
theorem dX9_isClass_13 : decode cX9_isClass 13 = .ok (.iconst 0, 1) := by decide +kernel
theorem dX9_isClass_14 : decode cX9_isClass 14 = .ok (.ireturn, 1) := by decide +kernel
theorem dX9_isImage_0 : decode cX9_isImage 0 = .ok (.iload_n 0, 1) := by decide +kernel
theorem dX9_isImage_1 : decode cX9_isImage 1 = .ok (.ifCond .lt 12, 3) := by decide +kernel
theorem dX9_isImage_4 : decode cX9_isImage 4 = .ok (.iload_n 0, 1) := by decide +kernel
theorem dX9_isImage_5 : decode cX9_isImage 5 = .ok (.iconst 2, 1) := by decide +kernel
theorem dX9_isImage_6 : decode cX9_isImage 6 = .ok (.if_icmp .ge 7, 3) := by decide +kernel
theorem dX9_isImage_9 : decode cX9_isImage 9 = .ok (.iconst 1, 1) := by decide +kernel
theorem dX9_isImage_10 : decode cX9_isImage 10 = .ok (.goto 4, 3) := by decide +kernel
theorem dX9_isImage_13 : decode cX9_isImage 13 = .ok (.iconst 0, 1) := by decide +kernel
theorem dX9_isImage_14 : decode cX9_isImage 14 = .ok (.ireturn, 1) := by decide +kernel
theorem dX9_imageOf_0 : decode cX9_imageOf 0 = .ok (.iload_n 1, 1) := by decide +kernel
theorem dX9_imageOf_1 : decode cX9_imageOf 1 = .ok (.ifCond .ne 10, 3) := by decide +kernel
theorem dX9_imageOf_4 : decode cX9_imageOf 4 = .ok (.aload_n 0, 1) := by decide +kernel
theorem dX9_imageOf_5 : decode cX9_imageOf 5 = .ok (.getfield 73, 3) := by decide +kernel
theorem dX9_imageOf_8 : decode cX9_imageOf 8 = .ok (.goto 7, 3) := by decide +kernel
theorem dX9_imageOf_11 : decode cX9_imageOf 11 = .ok (.aload_n 0, 1) := by decide +kernel
theorem dX9_imageOf_12 : decode cX9_imageOf 12 = .ok (.getfield 76, 3) := by decide +kernel
theorem dX9_imageOf_15 : decode cX9_imageOf 15 = .ok (.areturn, 1) := by decide +kernel
theorem dX9_forgetOrders_0 : decode cX9_forgetOrders 0 = .ok (.aload_n 0, 1) := by decide +kernel
theorem dX9_forgetOrders_1 : decode cX9_forgetOrders 1 = .ok (.getfield 37, 3) := by decide +kernel
theorem dX9_forgetOrders_4 : decode cX9_forgetOrders 4 = .ok (.invokevirtual 207, 3) := by decide +kernel
theorem dX9_forgetOrders_7 : decode cX9_forgetOrders 7 = .ok (.aload_n 0, 1) := by decide +kernel
theorem dX9_forgetOrders_8 : decode cX9_forgetOrders 8 = .ok (.getfield 44, 3) := by decide +kernel
theorem dX9_forgetOrders_11 : decode cX9_forgetOrders 11 = .ok (.invokevirtual 208, 3) := by decide +kernel
theorem dX9_forgetOrders_14 : decode cX9_forgetOrders 14 = .ok (.aload_n 0, 1) := by decide +kernel
theorem dX9_forgetOrders_15 : decode cX9_forgetOrders 15 = .ok (.getfield 51, 3) := by decide +kernel
theorem dX9_forgetOrders_18 : decode cX9_forgetOrders 18 = .ok (.invokevirtual 209, 3) := by decide +kernel
theorem dX9_forgetOrders_21 : decode cX9_forgetOrders 21 = .ok (.aload_n 0, 1) := by decide +kernel
theorem dX9_forgetOrders_22 : decode cX9_forgetOrders 22 = .ok (.getfield 60, 3) := by decide +kernel
theorem dX9_forgetOrders_25 : decode cX9_forgetOrders 25 = .ok (.invokevirtual 169, 3) := by decide +kernel
theorem dX9_forgetOrders_28 : decode cX9_forgetOrders 28 = .ok (.return_, 1) := by decide +kernel
theorem dX9_classAt_0 : decode cX9_classAt 0 = .ok (.iload_n 2, 1) := by decide +kernel
theorem dX9_classAt_1 : decode cX9_classAt 1 = .ok (.ifCond .lt 26, 3) := by decide +kernel
theorem dX9_classAt_4 : decode cX9_classAt 4 = .ok (.iload_n 2, 1) := by decide +kernel
theorem dX9_classAt_5 : decode cX9_classAt 5 = .ok (.aload_n 0, 1) := by decide +kernel
theorem dX9_classAt_6 : decode cX9_classAt 6 = .ok (.getfield 10, 3) := by decide +kernel
theorem dX9_classAt_9 : decode cX9_classAt 9 = .ok (.invokevirtual 107, 3) := by decide +kernel
theorem dX9_classAt_12 : decode cX9_classAt 12 = .ok (.if_icmp .ge 15, 3) := by decide +kernel
theorem dX9_classAt_15 : decode cX9_classAt 15 = .ok (.iload_n 2, 1) := by decide +kernel
theorem dX9_classAt_16 : decode cX9_classAt 16 = .ok (.aload_n 1, 1) := by decide +kernel
theorem dX9_classAt_17 : decode cX9_classAt 17 = .ok (.arraylength, 1) := by decide +kernel
theorem dX9_classAt_18 : decode cX9_classAt 18 = .ok (.if_icmp .ge 9, 3) := by decide +kernel
theorem dX9_classAt_21 : decode cX9_classAt 21 = .ok (.aload_n 1, 1) := by decide +kernel
theorem dX9_classAt_22 : decode cX9_classAt 22 = .ok (.iload_n 2, 1) := by decide +kernel
theorem dX9_classAt_23 : decode cX9_classAt 23 = .ok (.iaload, 1) := by decide +kernel
theorem dX9_classAt_24 : decode cX9_classAt 24 = .ok (.goto 5, 3) := by decide +kernel
theorem dX9_classAt_27 : decode cX9_classAt 27 = .ok (.bipush (-6), 2) := by decide +kernel
theorem dX9_classAt_29 : decode cX9_classAt 29 = .ok (.ireturn, 1) := by decide +kernel
theorem dX9_walkPad_0 : decode cX9_walkPad 0 = .ok (.iconst 0, 1) := by decide +kernel
theorem dX9_walkPad_1 : decode cX9_walkPad 1 = .ok (.istore_n 1, 1) := by decide +kernel
theorem dX9_walkPad_2 : decode cX9_walkPad 2 = .ok (.aload_n 0, 1) := by decide +kernel
theorem dX9_walkPad_3 : decode cX9_walkPad 3 = .ok (.getfield 28, 3) := by decide +kernel
theorem dX9_walkPad_6 : decode cX9_walkPad 6 = .ok (.invokevirtual 210, 3) := by decide +kernel
theorem dX9_walkPad_9 : decode cX9_walkPad 9 = .ok (.iconst 0, 1) := by decide +kernel
theorem dX9_walkPad_10 : decode cX9_walkPad 10 = .ok (.istore_n 2, 1) := by decide +kernel
theorem dX9_walkPad_11 : decode cX9_walkPad 11 = .ok (.iload_n 2, 1) := by decide +kernel
theorem dX9_walkPad_12 : decode cX9_walkPad 12 = .ok (.aload_n 0, 1) := by decide +kernel
theorem dX9_walkPad_13 : decode cX9_walkPad 13 = .ok (.getfield 19, 3) := by decide +kernel
theorem dX9_walkPad_16 : decode cX9_walkPad 16 = .ok (.getfield 163, 3) := by decide +kernel
theorem dX9_walkPad_19 : decode cX9_walkPad 19 = .ok (.if_icmp .ge 40, 3) := by decide +kernel
theorem dX9_walkPad_22 : decode cX9_walkPad 22 = .ok (.aload_n 0, 1) := by decide +kernel
theorem dX9_walkPad_23 : decode cX9_walkPad 23 = .ok (.getfield 19, 3) := by decide +kernel
theorem dX9_walkPad_26 : decode cX9_walkPad 26 = .ok (.iload_n 2, 1) := by decide +kernel
theorem dX9_walkPad_27 : decode cX9_walkPad 27 = .ok (.invokevirtual 213, 3) := by decide +kernel
theorem dX9_walkPad_30 : decode cX9_walkPad 30 = .ok (.istore_n 3, 1) := by decide +kernel
theorem dX9_walkPad_31 : decode cX9_walkPad 31 = .ok (.aload_n 0, 1) := by decide +kernel
theorem dX9_walkPad_32 : decode cX9_walkPad 32 = .ok (.getfield 28, 3) := by decide +kernel
theorem dX9_walkPad_35 : decode cX9_walkPad 35 = .ok (.invokevirtual 216, 3) := by decide +kernel
theorem dX9_walkPad_38 : decode cX9_walkPad 38 = .ok (.iload_n 3, 1) := by decide +kernel
theorem dX9_walkPad_39 : decode cX9_walkPad 39 = .ok (.if_icmp .eq 6, 3) := by decide +kernel
theorem dX9_walkPad_42 : decode cX9_walkPad 42 = .ok (.iinc 1 1, 3) := by decide +kernel
theorem dX9_walkPad_45 : decode cX9_walkPad 45 = .ok (.aload_n 0, 1) := by decide +kernel
theorem dX9_walkPad_46 : decode cX9_walkPad 46 = .ok (.getfield 28, 3) := by decide +kernel
theorem dX9_walkPad_49 : decode cX9_walkPad 49 = .ok (.iload_n 3, 1) := by decide +kernel
theorem dX9_walkPad_50 : decode cX9_walkPad 50 = .ok (.invokevirtual 219, 3) := by decide +kernel
theorem dX9_walkPad_53 : decode cX9_walkPad 53 = .ok (.iinc 2 1, 3) := by decide +kernel
theorem dX9_walkPad_56 : decode cX9_walkPad 56 = .ok (.goto (-45), 3) := by decide +kernel
theorem dX9_walkPad_59 : decode cX9_walkPad 59 = .ok (.iload_n 1, 1) := by decide +kernel
theorem dX9_walkPad_60 : decode cX9_walkPad 60 = .ok (.ireturn, 1) := by decide +kernel
theorem dX9_padIsOrder_0 : decode cX9_padIsOrder 0 = .ok (.aload_n 0, 1) := by decide +kernel
theorem dX9_padIsOrder_1 : decode cX9_padIsOrder 1 = .ok (.getfield 19, 3) := by decide +kernel
theorem dX9_padIsOrder_4 : decode cX9_padIsOrder 4 = .ok (.invokevirtual 172, 3) := by decide +kernel
theorem dX9_padIsOrder_7 : decode cX9_padIsOrder 7 = .ok (.ifCond .eq 5, 3) := by decide +kernel
theorem dX9_padIsOrder_10 : decode cX9_padIsOrder 10 = .ok (.iconst 0, 1) := by decide +kernel
theorem dX9_padIsOrder_11 : decode cX9_padIsOrder 11 = .ok (.ireturn, 1) := by decide +kernel
theorem dX9_padIsOrder_12 : decode cX9_padIsOrder 12 = .ok (.aload_n 0, 1) := by decide +kernel
theorem dX9_padIsOrder_13 : decode cX9_padIsOrder 13 = .ok (.invokevirtual 176, 3) := by decide +kernel
theorem dX9_padIsOrder_16 : decode cX9_padIsOrder 16 = .ok (.pop, 1) := by decide +kernel
theorem dX9_padIsOrder_17 : decode cX9_padIsOrder 17 = .ok (.aload_n 0, 1) := by decide +kernel
theorem dX9_padIsOrder_18 : decode cX9_padIsOrder 18 = .ok (.getfield 28, 3) := by decide +kernel
theorem dX9_padIsOrder_21 : decode cX9_padIsOrder 21 = .ok (.invokevirtual 182, 3) := by decide +kernel
theorem dX9_padIsOrder_24 : decode cX9_padIsOrder 24 = .ok (.ireturn, 1) := by decide +kernel
