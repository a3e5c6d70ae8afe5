theorem dX5_init_0 : decode cX5_init 0 = .ok (.aload_n 0, 1) := by decide +kernel
theorem dX5_init_1 : decode cX5_init 1 = .ok (.invokespecial 1, 3) := by decide +kernel
theorem dX5_init_4 : decode cX5_init 4 = .ok (.aload_n 0, 1) := by decide +kernel
theorem dX5_init_5 : decode cX5_init 5 = .ok (.new 7, 3) := by decide +kernel
theorem dX5_init_8 : decode cX5_init 8 = .ok (.dup, 1) := by decide +kernel
theorem dX5_init_9 : decode cX5_init 9 = .ok (.invokespecial 9, 3) := by decide +kernel
theorem dX5_init_12 : decode cX5_init 12 = .ok (.putfield 10, 3) := by decide +kernel
theorem dX5_init_15 : decode cX5_init 15 = .ok (.aload_n 0, 1) := by decide +kernel
theorem dX5_init_16 : decode cX5_init 16 = .ok (.new 16, 3) := by decide +kernel
theorem dX5_init_19 : decode cX5_init 19 = .ok (.dup, 1) := by decide +kernel
theorem dX5_init_20 : decode cX5_init 20 = .ok (.invokespecial 18, 3) := by decide +kernel
theorem dX5_init_23 : decode cX5_init 23 = .ok (.putfield 19, 3) := by decide +kernel
theorem dX5_init_26 : decode cX5_init 26 = .ok (.aload_n 0, 1) := by decide +kernel
theorem dX5_init_27 : decode cX5_init 27 = .ok (.new 23, 3) := by decide +kernel
theorem dX5_init_30 : decode cX5_init 30 = .ok (.dup, 1) := by decide +kernel
theorem dX5_init_31 : decode cX5_init 31 = .ok (.invokespecial 25, 3) := by decide +kernel
theorem dX5_init_34 : decode cX5_init 34 = .ok (.putfield 26, 3) := by decide +kernel
theorem dX5_init_37 : decode cX5_init 37 = .ok (.aload_n 0, 1) := by decide +kernel
theorem dX5_init_38 : decode cX5_init 38 = .ok (.bipush 10, 2) := by decide +kernel
theorem dX5_init_40 : decode cX5_init 40 = .ok (.anewarray 30, 3) := by decide +kernel
theorem dX5_init_43 : decode cX5_init 43 = .ok (.putfield 32, 3) := by decide +kernel
theorem dX5_init_46 : decode cX5_init 46 = .ok (.aload_n 0, 1) := by decide +kernel
theorem dX5_init_47 : decode cX5_init 47 = .ok (.iconst 0, 1) := by decide +kernel
theorem dX5_init_48 : decode cX5_init 48 = .ok (.putfield 36, 3) := by decide +kernel
theorem dX5_init_51 : decode cX5_init 51 = .ok (.aload_n 0, 1) := by decide +kernel
theorem dX5_init_52 : decode cX5_init 52 = .ok (.iconst 0, 1) := by decide +kernel
theorem dX5_init_53 : decode cX5_init 53 = .ok (.putfield 40, 3) := by decide +kernel
theorem dX5_init_56 : decode cX5_init 56 = .ok (.return_, 1) := by decide +kernel
theorem dX5_rule_0 : decode cX5_rule 0 = .ok (.iload_n 1, 1) := by decide +kernel
theorem dX5_rule_1 : decode cX5_rule 1 = .ok (.iconst 0, 1) := by decide +kernel
theorem dX5_rule_2 : decode cX5_rule 2 = .ok (.sipush 10000, 3) := by decide +kernel
theorem dX5_rule_5 : decode cX5_rule 5 = .ok (.invokestatic 43, 3) := by decide +kernel
theorem dX5_rule_8 : decode cX5_rule 8 = .ok (.ifCond .eq 13, 3) := by decide +kernel
theorem dX5_rule_11 : decode cX5_rule 11 = .ok (.iload_n 2, 1) := by decide +kernel
theorem dX5_rule_12 : decode cX5_rule 12 = .ok (.iconst 0, 1) := by decide +kernel
theorem dX5_rule_13 : decode cX5_rule 13 = .ok (.ldc 47, 2) := by decide +kernel
theorem dX5_rule_15 : decode cX5_rule 15 = .ok (.invokestatic 43, 3) := by decide +kernel
theorem dX5_rule_18 : decode cX5_rule 18 = .ok (.ifCond .ne 5, 3) := by decide +kernel
theorem dX5_rule_21 : decode cX5_rule 21 = .ok (.iconst (-1), 1) := by decide +kernel
theorem dX5_rule_22 : decode cX5_rule 22 = .ok (.ireturn, 1) := by decide +kernel
theorem dX5_rule_23 : decode cX5_rule 23 = .ok (.aload_n 0, 1) := by decide +kernel
theorem dX5_rule_24 : decode cX5_rule 24 = .ok (.getfield 10, 3) := by decide +kernel
theorem dX5_rule_27 : decode cX5_rule 27 = .ok (.iload_n 1, 1) := by decide +kernel
theorem dX5_rule_28 : decode cX5_rule 28 = .ok (.iload_n 2, 1) := by decide +kernel
theorem dX5_rule_29 : decode cX5_rule 29 = .ok (.invokevirtual 48, 3) := by decide +kernel
theorem dX5_rule_32 : decode cX5_rule 32 = .ok (.ireturn, 1) := by decide +kernel
theorem dX5_used_0 : decode cX5_used 0 = .ok (.aload_n 0, 1) := by decide +kernel
theorem dX5_used_1 : decode cX5_used 1 = .ok (.getfield 10, 3) := by decide +kernel
theorem dX5_used_4 : decode cX5_used 4 = .ok (.iload_n 1, 1) := by decide +kernel
theorem dX5_used_5 : decode cX5_used 5 = .ok (.invokevirtual 52, 3) := by decide +kernel
theorem dX5_used_8 : decode cX5_used 8 = .ok (.ifCond .eq 24, 3) := by decide +kernel
theorem dX5_used_11 : decode cX5_used 11 = .ok (.iload_n 2, 1) := by decide +kernel
theorem dX5_used_12 : decode cX5_used 12 = .ok (.iconst 0, 1) := by decide +kernel
theorem dX5_used_13 : decode cX5_used 13 = .ok (.sipush 255, 3) := by decide +kernel
theorem dX5_used_16 : decode cX5_used 16 = .ok (.invokestatic 43, 3) := by decide +kernel
theorem dX5_used_19 : decode cX5_used 19 = .ok (.ifCond .eq 13, 3) := by decide +kernel
theorem dX5_used_22 : decode cX5_used 22 = .ok (.iload_n 3, 1) := by decide +kernel
theorem dX5_used_23 : decode cX5_used 23 = .ok (.iconst 1, 1) := by decide +kernel
theorem dX5_used_24 : decode cX5_used 24 = .ok (.bipush 9, 2) := by decide +kernel
theorem dX5_used_26 : decode cX5_used 26 = .ok (.invokestatic 43, 3) := by decide +kernel
theorem dX5_used_29 : decode cX5_used 29 = .ok (.ifCond .ne 5, 3) := by decide +kernel
theorem dX5_used_32 : decode cX5_used 32 = .ok (.iconst (-1), 1) := by decide +kernel
theorem dX5_used_33 : decode cX5_used 33 = .ok (.ireturn, 1) := by decide +kernel
theorem dX5_used_34 : decode cX5_used 34 = .ok (.aload_n 0, 1) := by decide +kernel
theorem dX5_used_35 : decode cX5_used 35 = .ok (.getfield 19, 3) := by decide +kernel
theorem dX5_used_38 : decode cX5_used 38 = .ok (.invokevirtual 56, 3) := by decide +kernel
theorem dX5_used_41 : decode cX5_used 41 = .ok (.ifCond .eq 5, 3) := by decide +kernel
theorem dX5_used_44 : decode cX5_used 44 = .ok (.iconst (-1), 1) := by decide +kernel
theorem dX5_used_45 : decode cX5_used 45 = .ok (.ireturn, 1) := by decide +kernel
theorem dX5_used_46 : decode cX5_used 46 = .ok (.aload_n 0, 1) := by decide +kernel
theorem dX5_used_47 : decode cX5_used 47 = .ok (.getfield 10, 3) := by decide +kernel
theorem dX5_used_50 : decode cX5_used 50 = .ok (.iload_n 1, 1) := by decide +kernel
theorem dX5_used_51 : decode cX5_used 51 = .ok (.iload_n 3, 1) := by decide +kernel
theorem dX5_used_52 : decode cX5_used 52 = .ok (.invokevirtual 60, 3) := by decide +kernel
theorem dX5_used_55 : decode cX5_used 55 = .ok (.istore 4, 2) := by decide +kernel
theorem dX5_used_57 : decode cX5_used 57 = .ok (.aload_n 0, 1) := by decide +kernel
theorem dX5_used_58 : decode cX5_used 58 = .ok (.getfield 10, 3) := by decide +kernel
theorem dX5_used_61 : decode cX5_used 61 = .ok (.iload_n 1, 1) := by decide +kernel
theorem dX5_used_62 : decode cX5_used 62 = .ok (.iload 4, 2) := by decide +kernel
theorem dX5_used_64 : decode cX5_used 64 = .ok (.invokevirtual 63, 3) := by decide +kernel
theorem dX5_used_67 : decode cX5_used 67 = .ok (.aload_n 0, 1) := by decide +kernel
theorem dX5_used_68 : decode cX5_used 68 = .ok (.getfield 19, 3) := by decide +kernel
theorem dX5_used_71 : decode cX5_used 71 = .ok (.iload_n 1, 1) := by decide +kernel
theorem dX5_used_72 : decode cX5_used 72 = .ok (.iload_n 2, 1) := by decide +kernel
theorem dX5_used_73 : decode cX5_used 73 = .ok (.iload_n 3, 1) := by decide +kernel
theorem dX5_used_74 : decode cX5_used 74 = .ok (.iload 4, 2) := by decide +kernel
theorem dX5_used_76 : decode cX5_used 76 = .ok (.invokevirtual 67, 3) := by decide +kernel
theorem dX5_used_79 : decode cX5_used 79 = .ok (.ireturn, 1) := by decide +kernel
theorem dX5_guess_0 : decode cX5_guess 0 = .ok (.iload_n 1, 1) := by decide +kernel
theorem dX5_guess_1 : decode cX5_guess 1 = .ok (.iconst 1, 1) := by decide +kernel
theorem dX5_guess_2 : decode cX5_guess 2 = .ok (.bipush 20, 2) := by decide +kernel
theorem dX5_guess_4 : decode cX5_guess 4 = .ok (.invokestatic 43, 3) := by decide +kernel
theorem dX5_guess_7 : decode cX5_guess 7 = .ok (.ifCond .ne 5, 3) := by decide +kernel
theorem dX5_guess_10 : decode cX5_guess 10 = .ok (.iconst (-1), 1) := by decide +kernel
theorem dX5_guess_11 : decode cX5_guess 11 = .ok (.ireturn, 1) := by decide +kernel
theorem dX5_guess_12 : decode cX5_guess 12 = .ok (.aload_n 0, 1) := by decide +kernel
theorem dX5_guess_13 : decode cX5_guess 13 = .ok (.getfield 19, 3) := by decide +kernel
theorem dX5_guess_16 : decode cX5_guess 16 = .ok (.iload_n 1, 1) := by decide +kernel
theorem dX5_guess_17 : decode cX5_guess 17 = .ok (.invokevirtual 70, 3) := by decide +kernel
theorem dX5_guess_20 : decode cX5_guess 20 = .ok (.ireturn, 1) := by decide +kernel
theorem dX5_drop_0 : decode cX5_drop 0 = .ok (.aload_n 0, 1) := by decide +kernel
theorem dX5_drop_1 : decode cX5_drop 1 = .ok (.getfield 19, 3) := by decide +kernel
theorem dX5_drop_4 : decode cX5_drop 4 = .ok (.invokevirtual 74, 3) := by decide +kernel
theorem dX5_drop_7 : decode cX5_drop 7 = .ok (.iconst 1, 1) := by decide +kernel
theorem dX5_drop_8 : decode cX5_drop 8 = .ok (.isub, 1) := by decide +kernel
theorem dX5_drop_9 : decode cX5_drop 9 = .ok (.istore_n 1, 1) := by decide +kernel
theorem dX5_drop_10 : decode cX5_drop 10 = .ok (.aload_n 0, 1) := by decide +kernel
theorem dX5_drop_11 : decode cX5_drop 11 = .ok (.getfield 19, 3) := by decide +kernel
theorem dX5_drop_14 : decode cX5_drop 14 = .ok (.iload_n 1, 1) := by decide +kernel
theorem dX5_drop_15 : decode cX5_drop 15 = .ok (.invokevirtual 78, 3) := by decide +kernel
theorem dX5_drop_18 : decode cX5_drop 18 = .ok (.ifCond .ne 5, 3) := by decide +kernel
theorem dX5_drop_21 : decode cX5_drop 21 = .ok (.iconst 0, 1) := by decide +kernel
theorem dX5_drop_22 : decode cX5_drop 22 = .ok (.ireturn, 1) := by decide +kernel
theorem dX5_drop_23 : decode cX5_drop 23 = .ok (.aload_n 0, 1) := by decide +kernel
theorem dX5_drop_24 : decode cX5_drop 24 = .ok (.getfield 10, 3) := by decide +kernel
theorem dX5_drop_27 : decode cX5_drop 27 = .ok (.aload_n 0, 1) := by decide +kernel
theorem dX5_drop_28 : decode cX5_drop 28 = .ok (.getfield 19, 3) := by decide +kernel
theorem dX5_drop_31 : decode cX5_drop 31 = .ok (.iload_n 1, 1) := by decide +kernel
theorem dX5_drop_32 : decode cX5_drop 32 = .ok (.invokevirtual 79, 3) := by decide +kernel
theorem dX5_drop_35 : decode cX5_drop 35 = .ok (.aload_n 0, 1) := by decide +kernel
theorem dX5_drop_36 : decode cX5_drop 36 = .ok (.getfield 19, 3) := by decide +kernel
theorem dX5_drop_39 : decode cX5_drop 39 = .ok (.iload_n 1, 1) := by decide +kernel
theorem dX5_drop_40 : decode cX5_drop 40 = .ok (.invokevirtual 82, 3) := by decide +kernel
theorem dX5_drop_43 : decode cX5_drop 43 = .ok (.invokevirtual 85, 3) := by decide +kernel
theorem dX5_drop_46 : decode cX5_drop 46 = .ok (.aload_n 0, 1) := by decide +kernel
theorem dX5_drop_47 : decode cX5_drop 47 = .ok (.getfield 19, 3) := by decide +kernel
theorem dX5_drop_50 : decode cX5_drop 50 = .ok (.invokevirtual 88, 3) := by decide +kernel
theorem dX5_drop_53 : decode cX5_drop 53 = .ok (.aload_n 0, 1) := by decide +kernel
theorem dX5_drop_54 : decode cX5_drop 54 = .ok (.aload_n 0, 1) := by decide +kernel
theorem dX5_drop_55 : decode cX5_drop 55 = .ok (.getfield 40, 3) := by decide +kernel
theorem dX5_drop_58 : decode cX5_drop 58 = .ok (.iload_n 1, 1) := by decide +kernel
theorem dX5_drop_59 : decode cX5_drop 59 = .ok (.invokestatic 91, 3) := by decide +kernel
theorem dX5_drop_62 : decode cX5_drop 62 = .ok (.putfield 40, 3) := by decide +kernel
theorem dX5_drop_65 : decode cX5_drop 65 = .ok (.iconst 1, 1) := by decide +kernel
theorem dX5_drop_66 : decode cX5_drop 66 = .ok (.ireturn, 1) := by decide +kernel
theorem dX5_cost_0 : decode cX5_cost 0 = .ok (.aload_n 0, 1) := by decide +kernel
theorem dX5_cost_1 : decode cX5_cost 1 = .ok (.getfield 19, 3) := by decide +kernel
theorem dX5_cost_4 : decode cX5_cost 4 = .ok (.iload_n 1, 1) := by decide +kernel
theorem dX5_cost_5 : decode cX5_cost 5 = .ok (.invokevirtual 78, 3) := by decide +kernel
theorem dX5_cost_8 : decode cX5_cost 8 = .ok (.ifCond .eq 15, 3) := by decide +kernel
theorem dX5_cost_11 : decode cX5_cost 11 = .ok (.aload_n 0, 1) := by decide +kernel
theorem dX5_cost_12 : decode cX5_cost 12 = .ok (.getfield 19, 3) := by decide +kernel
theorem dX5_cost_15 : decode cX5_cost 15 = .ok (.iload_n 1, 1) := by decide +kernel
theorem dX5_cost_16 : decode cX5_cost 16 = .ok (.invokevirtual 82, 3) := by decide +kernel
theorem dX5_cost_19 : decode cX5_cost 19 = .ok (.i2l, 1) := by decide +kernel
theorem dX5_cost_20 : decode cX5_cost 20 = .ok (.goto 6, 3) := by decide +kernel
theorem dX5_cost_23 : decode cX5_cost 23 = .ok (.ldc2_w 96, 3) := by decide +kernel
theorem dX5_cost_26 : decode cX5_cost 26 = .ok (.lreturn, 1) := by decide +kernel
theorem dX5_sum_0 : decode cX5_sum 0 = .ok (.iload_n 1, 1) := by decide +kernel
theorem dX5_sum_1 : decode cX5_sum 1 = .ok (.ifCond .ge 9, 3) := by decide +kernel
theorem dX5_sum_4 : decode cX5_sum 4 = .ok (.ldc2_w 96, 3) := by decide +kernel
theorem dX5_sum_7 : decode cX5_sum 7 = .ok (.goto 11, 3) := by decide +kernel
theorem dX5_sum_10 : decode cX5_sum 10 = .ok (.aload_n 0, 1) := by decide +kernel
theorem dX5_sum_11 : decode cX5_sum 11 = .ok (.getfield 19, 3) := by decide +kernel
theorem dX5_sum_14 : decode cX5_sum 14 = .ok (.iload_n 1, 1) := by decide +kernel
theorem dX5_sum_15 : decode cX5_sum 15 = .ok (.invokevirtual 98, 3) := by decide +kernel
theorem dX5_sum_18 : decode cX5_sum 18 = .ok (.lreturn, 1) := by decide +kernel
theorem dX5_cls_0 : decode cX5_cls 0 = .ok (.lload_n 1, 1) := by decide +kernel
theorem dX5_cls_1 : decode cX5_cls 1 = .ok (.lconst 0, 1) := by decide +kernel
theorem dX5_cls_2 : decode cX5_cls 2 = .ok (.lcmp, 1) := by decide +kernel
theorem dX5_cls_3 : decode cX5_cls 3 = .ok (.ifCond .lt 17, 3) := by decide +kernel
theorem dX5_cls_6 : decode cX5_cls 6 = .ok (.lload_n 3, 1) := by decide +kernel
theorem dX5_cls_7 : decode cX5_cls 7 = .ok (.lload_n 1, 1) := by decide +kernel
theorem dX5_cls_8 : decode cX5_cls 8 = .ok (.lcmp, 1) := by decide +kernel
theorem dX5_cls_9 : decode cX5_cls 9 = .ok (.ifCond .lt 11, 3) := by decide +kernel
theorem dX5_cls_12 : decode cX5_cls 12 = .ok (.lload_n 3, 1) := by decide +kernel
theorem dX5_cls_13 : decode cX5_cls 13 = .ok (.ldc2_w 102, 3) := by decide +kernel
theorem dX5_cls_16 : decode cX5_cls 16 = .ok (.lcmp, 1) := by decide +kernel
theorem dX5_cls_17 : decode cX5_cls 17 = .ok (.ifCond .le 5, 3) := by decide +kernel
theorem dX5_cls_20 : decode cX5_cls 20 = .ok (.iconst (-1), 1) := by decide +kernel
theorem dX5_cls_21 : decode cX5_cls 21 = .ok (.ireturn, 1) := by decide +kernel
theorem dX5_cls_22 : decode cX5_cls 22 = .ok (.aload_n 0, 1) := by decide +kernel
theorem dX5_cls_23 : decode cX5_cls 23 = .ok (.getfield 26, 3) := by decide +kernel
theorem dX5_cls_26 : decode cX5_cls 26 = .ok (.lload_n 1, 1) := by decide +kernel
theorem dX5_cls_27 : decode cX5_cls 27 = .ok (.lload_n 3, 1) := by decide +kernel
theorem dX5_cls_28 : decode cX5_cls 28 = .ok (.invokevirtual 104, 3) := by decide +kernel
theorem dX5_cls_31 : decode cX5_cls 31 = .ok (.ireturn, 1) := by decide +kernel
theorem dX5_grade_0 : decode cX5_grade 0 = .ok (.aload_n 0, 1) := by decide +kernel
theorem dX5_grade_1 : decode cX5_grade 1 = .ok (.getfield 26, 3) := by decide +kernel
theorem dX5_grade_4 : decode cX5_grade 4 = .ok (.aload_n 0, 1) := by decide +kernel
theorem dX5_grade_5 : decode cX5_grade 5 = .ok (.getfield 19, 3) := by decide +kernel
theorem dX5_grade_8 : decode cX5_grade 8 = .ok (.invokevirtual 107, 3) := by decide +kernel
theorem dX5_grade_11 : decode cX5_grade 11 = .ok (.invokevirtual 111, 3) := by decide +kernel
theorem dX5_grade_14 : decode cX5_grade 14 = .ok (.ireturn, 1) := by decide +kernel
theorem dX5_rank_0 : decode cX5_rank 0 = .ok (.aload_n 0, 1) := by decide +kernel
theorem dX5_rank_1 : decode cX5_rank 1 = .ok (.getfield 19, 3) := by decide +kernel
theorem dX5_rank_4 : decode cX5_rank 4 = .ok (.invokevirtual 107, 3) := by decide +kernel
theorem dX5_rank_7 : decode cX5_rank 7 = .ok (.lstore_n 1, 1) := by decide +kernel
theorem dX5_rank_8 : decode cX5_rank 8 = .ok (.aload_n 0, 1) := by decide +kernel
theorem dX5_rank_9 : decode cX5_rank 9 = .ok (.getfield 26, 3) := by decide +kernel
theorem dX5_rank_12 : decode cX5_rank 12 = .ok (.lload_n 1, 1) := by decide +kernel
theorem dX5_rank_13 : decode cX5_rank 13 = .ok (.invokevirtual 111, 3) := by decide +kernel
theorem dX5_rank_16 : decode cX5_rank 16 = .ok (.iconst (-1), 1) := by decide +kernel
theorem dX5_rank_17 : decode cX5_rank 17 = .ok (.if_icmp .ne 7, 3) := by decide +kernel
theorem dX5_rank_20 : decode cX5_rank 20 = .ok (.iconst (-1), 1) := by decide +kernel
theorem dX5_rank_21 : decode cX5_rank 21 = .ok (.goto 11, 3) := by decide +kernel
theorem dX5_rank_24 : decode cX5_rank 24 = .ok (.aload_n 0, 1) := by decide +kernel
theorem dX5_rank_25 : decode cX5_rank 25 = .ok (.getfield 26, 3) := by decide +kernel
theorem dX5_rank_28 : decode cX5_rank 28 = .ok (.lload_n 1, 1) := by decide +kernel
theorem dX5_rank_29 : decode cX5_rank 29 = .ok (.invokevirtual 115, 3) := by decide +kernel
theorem dX5_rank_32 : decode cX5_rank 32 = .ok (.ireturn, 1) := by decide +kernel
theorem dX5_gap_0 : decode cX5_gap 0 = .ok (.lload_n 1, 1) := by decide +kernel
theorem dX5_gap_1 : decode cX5_gap 1 = .ok (.lconst 0, 1) := by decide +kernel
theorem dX5_gap_2 : decode cX5_gap 2 = .ok (.lcmp, 1) := by decide +kernel
theorem dX5_gap_3 : decode cX5_gap 3 = .ok (.ifCond .ge 9, 3) := by decide +kernel
theorem dX5_gap_6 : decode cX5_gap 6 = .ok (.ldc2_w 96, 3) := by decide +kernel
theorem dX5_gap_9 : decode cX5_gap 9 = .ok (.goto 11, 3) := by decide +kernel
theorem dX5_gap_12 : decode cX5_gap 12 = .ok (.aload_n 0, 1) := by decide +kernel
theorem dX5_gap_13 : decode cX5_gap 13 = .ok (.getfield 26, 3) := by decide +kernel
theorem dX5_gap_16 : decode cX5_gap 16 = .ok (.lload_n 1, 1) := by decide +kernel
theorem dX5_gap_17 : decode cX5_gap 17 = .ok (.invokevirtual 118, 3) := by decide +kernel
theorem dX5_gap_20 : decode cX5_gap 20 = .ok (.lreturn, 1) := by decide +kernel
theorem dX5_stuck_0 : decode cX5_stuck 0 = .ok (.iload_n 1, 1) := by decide +kernel
theorem dX5_stuck_1 : decode cX5_stuck 1 = .ok (.ifCond .ge 7, 3) := by decide +kernel
theorem dX5_stuck_4 : decode cX5_stuck 4 = .ok (.iconst (-1), 1) := by decide +kernel
theorem dX5_stuck_5 : decode cX5_stuck 5 = .ok (.goto 11, 3) := by decide +kernel
theorem dX5_stuck_8 : decode cX5_stuck 8 = .ok (.aload_n 0, 1) := by decide +kernel
theorem dX5_stuck_9 : decode cX5_stuck 9 = .ok (.getfield 19, 3) := by decide +kernel
theorem dX5_stuck_12 : decode cX5_stuck 12 = .ok (.iload_n 1, 1) := by decide +kernel
theorem dX5_stuck_13 : decode cX5_stuck 13 = .ok (.invokevirtual 122, 3) := by decide +kernel
theorem dX5_stuck_16 : decode cX5_stuck 16 = .ok (.ireturn, 1) := by decide +kernel
theorem dX5_run_0 : decode cX5_run 0 = .ok (.aload_n 0, 1) := by decide +kernel
theorem dX5_run_1 : decode cX5_run 1 = .ok (.getfield 19, 3) := by decide +kernel
theorem dX5_run_4 : decode cX5_run 4 = .ok (.invokevirtual 125, 3) := by decide +kernel
theorem dX5_run_7 : decode cX5_run 7 = .ok (.ireturn, 1) := by decide +kernel
theorem dX5_hardest_0 : decode cX5_hardest 0 = .ok (.aload_n 0, 1) := by decide +kernel
theorem dX5_hardest_1 : decode cX5_hardest 1 = .ok (.getfield 10, 3) := by decide +kernel
theorem dX5_hardest_4 : decode cX5_hardest 4 = .ok (.invokevirtual 128, 3) := by decide +kernel
theorem dX5_hardest_7 : decode cX5_hardest 7 = .ok (.ireturn, 1) := by decide +kernel
theorem dX5_go_0 : decode cX5_go 0 = .ok (.iload_n 1, 1) := by decide +kernel
theorem dX5_go_1 : decode cX5_go 1 = .ok (.iconst 0, 1) := by decide +kernel
theorem dX5_go_2 : decode cX5_go 2 = .ok (.aload_n 0, 1) := by decide +kernel
theorem dX5_go_3 : decode cX5_go 3 = .ok (.getfield 19, 3) := by decide +kernel
theorem dX5_go_6 : decode cX5_go 6 = .ok (.invokevirtual 74, 3) := by decide +kernel
theorem dX5_go_9 : decode cX5_go 9 = .ok (.invokestatic 43, 3) := by decide +kernel
theorem dX5_go_12 : decode cX5_go 12 = .ok (.ifCond .ne 5, 3) := by decide +kernel
theorem dX5_go_15 : decode cX5_go 15 = .ok (.iconst 0, 1) := by decide +kernel
theorem dX5_go_16 : decode cX5_go 16 = .ok (.ireturn, 1) := by decide +kernel
theorem dX5_go_17 : decode cX5_go 17 = .ok (.aload_n 0, 1) := by decide +kernel
theorem dX5_go_18 : decode cX5_go 18 = .ok (.iload_n 1, 1) := by decide +kernel
theorem dX5_go_19 : decode cX5_go 19 = .ok (.putfield 40, 3) := by decide +kernel
theorem dX5_go_22 : decode cX5_go 22 = .ok (.iconst 1, 1) := by decide +kernel
theorem dX5_go_23 : decode cX5_go 23 = .ok (.ireturn, 1) := by decide +kernel
theorem dX5_hint_0 : decode cX5_hint 0 = .ok (.iload_n 1, 1) := by decide +kernel
theorem dX5_hint_1 : decode cX5_hint 1 = .ok (.iconst 1, 1) := by decide +kernel
theorem dX5_hint_2 : decode cX5_hint 2 = .ok (.iconst 4, 1) := by decide +kernel
theorem dX5_hint_3 : decode cX5_hint 3 = .ok (.invokestatic 43, 3) := by decide +kernel
theorem dX5_hint_6 : decode cX5_hint 6 = .ok (.ifCond .eq 17, 3) := by decide +kernel
theorem dX5_hint_9 : decode cX5_hint 9 = .ok (.aload_n 0, 1) := by decide +kernel
theorem dX5_hint_10 : decode cX5_hint 10 = .ok (.getfield 19, 3) := by decide +kernel
theorem dX5_hint_13 : decode cX5_hint 13 = .ok (.aload_n 0, 1) := by decide +kernel
theorem dX5_hint_14 : decode cX5_hint 14 = .ok (.getfield 40, 3) := by decide +kernel
theorem dX5_hint_17 : decode cX5_hint 17 = .ok (.invokevirtual 78, 3) := by decide +kernel
theorem dX5_hint_20 : decode cX5_hint 20 = .ok (.ifCond .ne 5, 3) := by decide +kernel
theorem dX5_hint_23 : decode cX5_hint 23 = .ok (.iconst (-1), 1) := by decide +kernel
theorem dX5_hint_24 : decode cX5_hint 24 = .ok (.ireturn, 1) := by decide +kernel
theorem dX5_hint_25 : decode cX5_hint 25 = .ok (.aload_n 0, 1) := by decide +kernel
theorem dX5_hint_26 : decode cX5_hint 26 = .ok (.getfield 19, 3) := by decide +kernel
theorem dX5_hint_29 : decode cX5_hint 29 = .ok (.aload_n 0, 1) := by decide +kernel
theorem dX5_hint_30 : decode cX5_hint 30 = .ok (.getfield 40, 3) := by decide +kernel
theorem dX5_hint_33 : decode cX5_hint 33 = .ok (.invokevirtual 131, 3) := by decide +kernel
theorem dX5_hint_36 : decode cX5_hint 36 = .ok (.ifCond .eq 11, 3) := by decide +kernel
theorem dX5_hint_39 : decode cX5_hint 39 = .ok (.aload_n 0, 1) := by decide +kernel
theorem dX5_hint_40 : decode cX5_hint 40 = .ok (.iload_n 1, 1) := by decide +kernel
theorem dX5_hint_41 : decode cX5_hint 41 = .ok (.invokevirtual 134, 3) := by decide +kernel
theorem dX5_hint_44 : decode cX5_hint 44 = .ok (.goto 8, 3) := by decide +kernel
theorem dX5_hint_47 : decode cX5_hint 47 = .ok (.aload_n 0, 1) := by decide +kernel
theorem dX5_hint_48 : decode cX5_hint 48 = .ok (.iload_n 1, 1) := by decide +kernel
theorem dX5_hint_49 : decode cX5_hint 49 = .ok (.invokevirtual 137, 3) := by decide +kernel
theorem dX5_hint_52 : decode cX5_hint 52 = .ok (.istore_n 2, 1) := by decide +kernel
theorem dX5_hint_53 : decode cX5_hint 53 = .ok (.iload_n 1, 1) := by decide +kernel
theorem dX5_hint_54 : decode cX5_hint 54 = .ok (.iconst 4, 1) := by decide +kernel
theorem dX5_hint_55 : decode cX5_hint 55 = .ok (.if_icmp .ne 13, 3) := by decide +kernel
theorem dX5_hint_58 : decode cX5_hint 58 = .ok (.aload_n 0, 1) := by decide +kernel
theorem dX5_hint_59 : decode cX5_hint 59 = .ok (.dup, 1) := by decide +kernel
theorem dX5_hint_60 : decode cX5_hint 60 = .ok (.getfield 40, 3) := by decide +kernel
theorem dX5_hint_63 : decode cX5_hint 63 = .ok (.iconst 1, 1) := by decide +kernel
theorem dX5_hint_64 : decode cX5_hint 64 = .ok (.iadd, 1) := by decide +kernel
theorem dX5_hint_65 : decode cX5_hint 65 = .ok (.putfield 40, 3) := by decide +kernel
theorem dX5_hint_68 : decode cX5_hint 68 = .ok (.iload_n 2, 1) := by decide +kernel
theorem dX5_hint_69 : decode cX5_hint 69 = .ok (.ireturn, 1) := by decide +kernel
theorem dX5_keep_0 : decode cX5_keep 0 = .ok (.aload_n 0, 1) := by decide +kernel
theorem dX5_keep_1 : decode cX5_keep 1 = .ok (.getfield 36, 3) := by decide +kernel
theorem dX5_keep_4 : decode cX5_keep 4 = .ok (.bipush 10, 2) := by decide +kernel
theorem dX5_keep_6 : decode cX5_keep 6 = .ok (.if_icmp .lt 5, 3) := by decide +kernel
theorem dX5_keep_9 : decode cX5_keep 9 = .ok (.iconst (-1), 1) := by decide +kernel
theorem dX5_keep_10 : decode cX5_keep 10 = .ok (.ireturn, 1) := by decide +kernel
theorem dX5_keep_11 : decode cX5_keep 11 = .ok (.aload_n 0, 1) := by decide +kernel
theorem dX5_keep_12 : decode cX5_keep 12 = .ok (.getfield 32, 3) := by decide +kernel
theorem dX5_keep_15 : decode cX5_keep 15 = .ok (.aload_n 0, 1) := by decide +kernel
theorem dX5_keep_16 : decode cX5_keep 16 = .ok (.getfield 36, 3) := by decide +kernel
theorem dX5_keep_19 : decode cX5_keep 19 = .ok (.aload_n 0, 1) := by decide +kernel
theorem dX5_keep_20 : decode cX5_keep 20 = .ok (.getfield 19, 3) := by decide +kernel
theorem dX5_keep_23 : decode cX5_keep 23 = .ok (.invokevirtual 140, 3) := by decide +kernel
theorem dX5_keep_26 : decode cX5_keep 26 = .ok (.aastore, 1) := by decide +kernel
theorem dX5_keep_27 : decode cX5_keep 27 = .ok (.aload_n 0, 1) := by decide +kernel
theorem dX5_keep_28 : decode cX5_keep 28 = .ok (.dup, 1) := by decide +kernel
theorem dX5_keep_29 : decode cX5_keep 29 = .ok (.getfield 36, 3) := by decide +kernel
theorem dX5_keep_32 : decode cX5_keep 32 = .ok (.iconst 1, 1) := by decide +kernel
theorem dX5_keep_33 : decode cX5_keep 33 = .ok (.iadd, 1) := by decide +kernel
theorem dX5_keep_34 : decode cX5_keep 34 = .ok (.putfield 36, 3) := by decide +kernel
theorem dX5_keep_37 : decode cX5_keep 37 = .ok (.aload_n 0, 1) := by decide +kernel
theorem dX5_keep_38 : decode cX5_keep 38 = .ok (.getfield 36, 3) := by decide +kernel
theorem dX5_keep_41 : decode cX5_keep 41 = .ok (.iconst 1, 1) := by decide +kernel
theorem dX5_keep_42 : decode cX5_keep 42 = .ok (.isub, 1) := by decide +kernel
theorem dX5_keep_43 : decode cX5_keep 43 = .ok (.ireturn, 1) := by decide +kernel
theorem dX5_compare_0 : decode cX5_compare 0 = .ok (.aload_n 0, 1) := by decide +kernel
theorem dX5_compare_1 : decode cX5_compare 1 = .ok (.iload_n 1, 1) := by decide +kernel
theorem dX5_compare_2 : decode cX5_compare 2 = .ok (.invokevirtual 144, 3) := by decide +kernel
theorem dX5_compare_5 : decode cX5_compare 5 = .ok (.astore_n 2, 1) := by decide +kernel
theorem dX5_compare_6 : decode cX5_compare 6 = .ok (.aload_n 2, 1) := by decide +kernel
theorem dX5_compare_7 : decode cX5_compare 7 = .ok (.ifnonnull 8, 3) := by decide +kernel
theorem dX5_compare_10 : decode cX5_compare 10 = .ok (.bipush (-2), 2) := by decide +kernel
theorem dX5_compare_12 : decode cX5_compare 12 = .ok (.goto 11, 3) := by decide +kernel
theorem dX5_compare_15 : decode cX5_compare 15 = .ok (.aload_n 0, 1) := by decide +kernel
theorem dX5_compare_16 : decode cX5_compare 16 = .ok (.getfield 19, 3) := by decide +kernel
theorem dX5_compare_19 : decode cX5_compare 19 = .ok (.aload_n 2, 1) := by decide +kernel
theorem dX5_compare_20 : decode cX5_compare 20 = .ok (.invokevirtual 148, 3) := by decide +kernel
theorem dX5_compare_23 : decode cX5_compare 23 = .ok (.ireturn, 1) := by decide +kernel
theorem dX5_same_0 : decode cX5_same 0 = .ok (.aload_n 0, 1) := by decide +kernel
theorem dX5_same_1 : decode cX5_same 1 = .ok (.iload_n 1, 1) := by decide +kernel
theorem dX5_same_2 : decode cX5_same 2 = .ok (.invokevirtual 144, 3) := by decide +kernel
theorem dX5_same_5 : decode cX5_same 5 = .ok (.astore_n 2, 1) := by decide +kernel
theorem dX5_same_6 : decode cX5_same 6 = .ok (.aload_n 2, 1) := by decide +kernel
theorem dX5_same_7 : decode cX5_same 7 = .ok (.ifnull 18, 3) := by decide +kernel
theorem dX5_same_10 : decode cX5_same 10 = .ok (.aload_n 0, 1) := by decide +kernel
theorem dX5_same_11 : decode cX5_same 11 = .ok (.getfield 19, 3) := by decide +kernel
theorem dX5_same_14 : decode cX5_same 14 = .ok (.aload_n 2, 1) := by decide +kernel
theorem dX5_same_15 : decode cX5_same 15 = .ok (.invokevirtual 152, 3) := by decide +kernel
theorem dX5_same_18 : decode cX5_same 18 = .ok (.ifCond .eq 7, 3) := by decide +kernel
theorem dX5_same_21 : decode cX5_same 21 = .ok (.iconst 1, 1) := by decide +kernel
theorem dX5_same_22 : decode cX5_same 22 = .ok (.goto 4, 3) := by decide +kernel
theorem dX5_same_25 : decode cX5_same 25 = .ok (.iconst 0, 1) := by decide +kernel
theorem dX5_same_26 : decode cX5_same 26 = .ok (.ireturn, 1) := by decide +kernel
theorem dX5_hintOfGuess_0 : decode cX5_hintOfGuess 0 = .ok (.iload_n 1, 1) := by decide +kernel
theorem dX5_hintOfGuess_1 : decode cX5_hintOfGuess 1 = .ok (.iconst 4, 1) := by decide +kernel
theorem dX5_hintOfGuess_2 : decode cX5_hintOfGuess 2 = .ok (.if_icmp .ne 17, 3) := by decide +kernel
theorem dX5_hintOfGuess_5 : decode cX5_hintOfGuess 5 = .ok (.aload_n 0, 1) := by decide +kernel
theorem dX5_hintOfGuess_6 : decode cX5_hintOfGuess 6 = .ok (.getfield 19, 3) := by decide +kernel
theorem dX5_hintOfGuess_9 : decode cX5_hintOfGuess 9 = .ok (.aload_n 0, 1) := by decide +kernel
theorem dX5_hintOfGuess_10 : decode cX5_hintOfGuess 10 = .ok (.getfield 40, 3) := by decide +kernel
theorem dX5_hintOfGuess_13 : decode cX5_hintOfGuess 13 = .ok (.invokevirtual 156, 3) := by decide +kernel
theorem dX5_hintOfGuess_16 : decode cX5_hintOfGuess 16 = .ok (.goto 5, 3) := by decide +kernel
theorem dX5_hintOfGuess_19 : decode cX5_hintOfGuess 19 = .ok (.bipush (-2), 2) := by decide +kernel
theorem dX5_hintOfGuess_21 : decode cX5_hintOfGuess 21 = .ok (.ireturn, 1) := by decide +kernel
theorem dX5_hintOfRuleStep_0 : decode cX5_hintOfRuleStep 0 = .ok (.iload_n 1, 1) := by decide +kernel
theorem dX5_hintOfRuleStep_1 : decode cX5_hintOfRuleStep 1 = .ok (.tableswitch 66 1 3 #[27, 42, 54], 27) := by decide +kernel
theorem dX5_hintOfRuleStep_28 : decode cX5_hintOfRuleStep 28 = .ok (.aload_n 0, 1) := by decide +kernel
theorem dX5_hintOfRuleStep_29 : decode cX5_hintOfRuleStep 29 = .ok (.getfield 19, 3) := by decide +kernel
theorem dX5_hintOfRuleStep_32 : decode cX5_hintOfRuleStep 32 = .ok (.aload_n 0, 1) := by decide +kernel
theorem dX5_hintOfRuleStep_33 : decode cX5_hintOfRuleStep 33 = .ok (.getfield 40, 3) := by decide +kernel
theorem dX5_hintOfRuleStep_36 : decode cX5_hintOfRuleStep 36 = .ok (.invokevirtual 159, 3) := by decide +kernel
theorem dX5_hintOfRuleStep_39 : decode cX5_hintOfRuleStep 39 = .ok (.bipush 16, 2) := by decide +kernel
theorem dX5_hintOfRuleStep_41 : decode cX5_hintOfRuleStep 41 = .ok (.idiv, 1) := by decide +kernel
theorem dX5_hintOfRuleStep_42 : decode cX5_hintOfRuleStep 42 = .ok (.ireturn, 1) := by decide +kernel
theorem dX5_hintOfRuleStep_43 : decode cX5_hintOfRuleStep 43 = .ok (.aload_n 0, 1) := by decide +kernel
theorem dX5_hintOfRuleStep_44 : decode cX5_hintOfRuleStep 44 = .ok (.getfield 19, 3) := by decide +kernel
theorem dX5_hintOfRuleStep_47 : decode cX5_hintOfRuleStep 47 = .ok (.aload_n 0, 1) := by decide +kernel
theorem dX5_hintOfRuleStep_48 : decode cX5_hintOfRuleStep 48 = .ok (.getfield 40, 3) := by decide +kernel
theorem dX5_hintOfRuleStep_51 : decode cX5_hintOfRuleStep 51 = .ok (.invokevirtual 159, 3) := by decide +kernel
theorem dX5_hintOfRuleStep_54 : decode cX5_hintOfRuleStep 54 = .ok (.ireturn, 1) := by decide +kernel
theorem dX5_hintOfRuleStep_55 : decode cX5_hintOfRuleStep 55 = .ok (.aload_n 0, 1) := by decide +kernel
theorem dX5_hintOfRuleStep_56 : decode cX5_hintOfRuleStep 56 = .ok (.getfield 19, 3) := by decide +kernel
theorem dX5_hintOfRuleStep_59 : decode cX5_hintOfRuleStep 59 = .ok (.aload_n 0, 1) := by decide +kernel
theorem dX5_hintOfRuleStep_60 : decode cX5_hintOfRuleStep 60 = .ok (.getfield 40, 3) := by decide +kernel
theorem dX5_hintOfRuleStep_63 : decode cX5_hintOfRuleStep 63 = .ok (.invokevirtual 79, 3) := by decide +kernel
theorem dX5_hintOfRuleStep_66 : decode cX5_hintOfRuleStep 66 = .ok (.ireturn, 1) := by decide +kernel
theorem dX5_hintOfRuleStep_67 : decode cX5_hintOfRuleStep 67 = .ok (.aload_n 0, 1) := by decide +kernel
theorem dX5_hintOfRuleStep_68 : decode cX5_hintOfRuleStep 68 = .ok (.getfield 19, 3) := by decide +kernel
theorem dX5_hintOfRuleStep_71 : decode cX5_hintOfRuleStep 71 = .ok (.aload_n 0, 1) := by decide +kernel
theorem dX5_hintOfRuleStep_72 : decode cX5_hintOfRuleStep 72 = .ok (.getfield 40, 3) := by decide +kernel
theorem dX5_hintOfRuleStep_75 : decode cX5_hintOfRuleStep 75 = .ok (.invokevirtual 156, 3) := by decide +kernel
theorem dX5_hintOfRuleStep_78 : decode cX5_hintOfRuleStep 78 = .ok (.ireturn, 1) := by decide +kernel
theorem dX5_keptAt_0 : decode cX5_keptAt 0 = .ok (.iload_n 1, 1) := by decide +kernel
theorem dX5_keptAt_1 : decode cX5_keptAt 1 = .ok (.ifCond .lt 20, 3) := by decide +kernel
theorem dX5_keptAt_4 : decode cX5_keptAt 4 = .ok (.iload_n 1, 1) := by decide +kernel
theorem dX5_keptAt_5 : decode cX5_keptAt 5 = .ok (.aload_n 0, 1) := by decide +kernel
theorem dX5_keptAt_6 : decode cX5_keptAt 6 = .ok (.getfield 36, 3) := by decide +kernel
theorem dX5_keptAt_9 : decode cX5_keptAt 9 = .ok (.if_icmp .ge 12, 3) := by decide +kernel
theorem dX5_keptAt_12 : decode cX5_keptAt 12 = .ok (.aload_n 0, 1) := by decide +kernel
theorem dX5_keptAt_13 : decode cX5_keptAt 13 = .ok (.getfield 32, 3) := by decide +kernel
theorem dX5_keptAt_16 : decode cX5_keptAt 16 = .ok (.iload_n 1, 1) := by decide +kernel
theorem dX5_keptAt_17 : decode cX5_keptAt 17 = .ok (.aaload, 1) := by decide +kernel
theorem dX5_keptAt_18 : decode cX5_keptAt 18 = .ok (.goto 4, 3) := by decide +kernel
theorem dX5_keptAt_21 : decode cX5_keptAt 21 = .ok (.aconst_null, 1) := by decide +kernel
theorem dX5_keptAt_22 : decode cX5_keptAt 22 = .ok (.areturn, 1) := by decide +kernel
theorem dX5_isWithin_0 : decode cX5_isWithin 0 = .ok (.iload_n 0, 1) := by decide +kernel
theorem dX5_isWithin_1 : decode cX5_isWithin 1 = .ok (.iload_n 1, 1) := by decide +kernel
theorem dX5_isWithin_2 : decode cX5_isWithin 2 = .ok (.if_icmp .lt 12, 3) := by decide +kernel
theorem dX5_isWithin_5 : decode cX5_isWithin 5 = .ok (.iload_n 0, 1) := by decide +kernel
theorem dX5_isWithin_6 : decode cX5_isWithin 6 = .ok (.iload_n 2, 1) := by decide +kernel
theorem dX5_isWithin_7 : decode cX5_isWithin 7 = .ok (.if_icmp .gt 7, 3) := by decide +kernel
theorem dX5_isWithin_10 : decode cX5_isWithin 10 = .ok (.iconst 1, 1) := by decide +kernel
theorem dX5_isWithin_11 : decode cX5_isWithin 11 = .ok (.goto 4, 3) := by decide +kernel
theorem dX5_isWithin_14 : decode cX5_isWithin 14 = .ok (.iconst 0, 1) := by decide +kernel
theorem dX5_isWithin_15 : decode cX5_isWithin 15 = .ok (.ireturn, 1) := by decide +kernel
theorem dX5_order_0 : decode cX5_order 0 = .ok (.lload_n 0, 1) := by decide +kernel
theorem dX5_order_1 : decode cX5_order 1 = .ok (.lload_n 2, 1) := by decide +kernel
theorem dX5_order_2 : decode cX5_order 2 = .ok (.lcmp, 1) := by decide +kernel
theorem dX5_order_3 : decode cX5_order 3 = .ok (.ifCond .ge 7, 3) := by decide +kernel
theorem dX5_order_6 : decode cX5_order 6 = .ok (.iconst (-1), 1) := by decide +kernel
theorem dX5_order_7 : decode cX5_order 7 = .ok (.goto 14, 3) := by decide +kernel
theorem dX5_order_10 : decode cX5_order 10 = .ok (.lload_n 0, 1) := by decide +kernel
theorem dX5_order_11 : decode cX5_order 11 = .ok (.lload_n 2, 1) := by decide +kernel
theorem dX5_order_12 : decode cX5_order 12 = .ok (.lcmp, 1) := by decide +kernel
theorem dX5_order_13 : decode cX5_order 13 = .ok (.ifCond .le 7, 3) := by decide +kernel
theorem dX5_order_16 : decode cX5_order 16 = .ok (.iconst 1, 1) := by decide +kernel
theorem dX5_order_17 : decode cX5_order 17 = .ok (.goto 4, 3) := by decide +kernel
theorem dX5_order_20 : decode cX5_order 20 = .ok (.iconst 0, 1) := by decide +kernel
theorem dX5_order_21 : decode cX5_order 21 = .ok (.ireturn, 1) := by decide +kernel
