theorem dX6_init_0 : decode cX6_init 0 = .ok (.aload_n 0, 1) := by decide +kernel
theorem dX6_init_1 : decode cX6_init 1 = .ok (.invokespecial 1, 3) := by decide +kernel
theorem dX6_init_4 : decode cX6_init 4 = .ok (.aload_n 0, 1) := by decide +kernel
theorem dX6_init_5 : decode cX6_init 5 = .ok (.bipush 40, 2) := by decide +kernel
theorem dX6_init_7 : decode cX6_init 7 = .ok (.newarray .int, 2) := by decide +kernel
theorem dX6_init_9 : decode cX6_init 9 = .ok (.putfield 7, 3) := by decide +kernel
theorem dX6_init_12 : decode cX6_init 12 = .ok (.aload_n 0, 1) := by decide +kernel
theorem dX6_init_13 : decode cX6_init 13 = .ok (.bipush 40, 2) := by decide +kernel
theorem dX6_init_15 : decode cX6_init 15 = .ok (.newarray .int, 2) := by decide +kernel
theorem dX6_init_17 : decode cX6_init 17 = .ok (.putfield 13, 3) := by decide +kernel
theorem dX6_init_20 : decode cX6_init 20 = .ok (.aload_n 0, 1) := by decide +kernel
theorem dX6_init_21 : decode cX6_init 21 = .ok (.bipush 11, 2) := by decide +kernel
theorem dX6_init_23 : decode cX6_init 23 = .ok (.newarray .int, 2) := by decide +kernel
theorem dX6_init_25 : decode cX6_init 25 = .ok (.putfield 16, 3) := by decide +kernel
theorem dX6_init_28 : decode cX6_init 28 = .ok (.aload_n 0, 1) := by decide +kernel
theorem dX6_init_29 : decode cX6_init 29 = .ok (.sipush 2200, 3) := by decide +kernel
theorem dX6_init_32 : decode cX6_init 32 = .ok (.newarray .int, 2) := by decide +kernel
theorem dX6_init_34 : decode cX6_init 34 = .ok (.putfield 19, 3) := by decide +kernel
theorem dX6_init_37 : decode cX6_init 37 = .ok (.aload_n 0, 1) := by decide +kernel
theorem dX6_init_38 : decode cX6_init 38 = .ok (.sipush 2200, 3) := by decide +kernel
theorem dX6_init_41 : decode cX6_init 41 = .ok (.newarray .int, 2) := by decide +kernel
theorem dX6_init_43 : decode cX6_init 43 = .ok (.putfield 22, 3) := by decide +kernel
theorem dX6_init_46 : decode cX6_init 46 = .ok (.aload_n 0, 1) := by decide +kernel
theorem dX6_init_47 : decode cX6_init 47 = .ok (.sipush 2200, 3) := by decide +kernel
theorem dX6_init_50 : decode cX6_init 50 = .ok (.newarray .int, 2) := by decide +kernel
theorem dX6_init_52 : decode cX6_init 52 = .ok (.putfield 25, 3) := by decide +kernel
theorem dX6_init_55 : decode cX6_init 55 = .ok (.aload_n 0, 1) := by decide +kernel
theorem dX6_init_56 : decode cX6_init 56 = .ok (.bipush 20, 2) := by decide +kernel
theorem dX6_init_58 : decode cX6_init 58 = .ok (.newarray .long, 2) := by decide +kernel
theorem dX6_init_60 : decode cX6_init 60 = .ok (.putfield 28, 3) := by decide +kernel
theorem dX6_init_63 : decode cX6_init 63 = .ok (.aload_n 0, 1) := by decide +kernel
theorem dX6_init_64 : decode cX6_init 64 = .ok (.bipush 20, 2) := by decide +kernel
theorem dX6_init_66 : decode cX6_init 66 = .ok (.newarray .long, 2) := by decide +kernel
theorem dX6_init_68 : decode cX6_init 68 = .ok (.putfield 32, 3) := by decide +kernel
theorem dX6_init_71 : decode cX6_init 71 = .ok (.aload_n 0, 1) := by decide +kernel
theorem dX6_init_72 : decode cX6_init 72 = .ok (.sipush 256, 3) := by decide +kernel
theorem dX6_init_75 : decode cX6_init 75 = .ok (.newarray .boolean, 2) := by decide +kernel
theorem dX6_init_77 : decode cX6_init 77 = .ok (.putfield 35, 3) := by decide +kernel
theorem dX6_init_80 : decode cX6_init 80 = .ok (.aload_n 0, 1) := by decide +kernel
theorem dX6_init_81 : decode cX6_init 81 = .ok (.sipush 200, 3) := by decide +kernel
theorem dX6_init_84 : decode cX6_init 84 = .ok (.newarray .long, 2) := by decide +kernel
theorem dX6_init_86 : decode cX6_init 86 = .ok (.putfield 39, 3) := by decide +kernel
theorem dX6_init_89 : decode cX6_init 89 = .ok (.aload_n 0, 1) := by decide +kernel
theorem dX6_init_90 : decode cX6_init 90 = .ok (.sipush 200, 3) := by decide +kernel
theorem dX6_init_93 : decode cX6_init 93 = .ok (.newarray .long, 2) := by decide +kernel
theorem dX6_init_95 : decode cX6_init 95 = .ok (.putfield 42, 3) := by decide +kernel
theorem dX6_init_98 : decode cX6_init 98 = .ok (.return_, 1) := by decide +kernel
theorem dX6_count_0 : decode cX6_count 0 = .ok (.aload_n 0, 1) := by decide +kernel
theorem dX6_count_1 : decode cX6_count 1 = .ok (.getfield 16, 3) := by decide +kernel
theorem dX6_count_4 : decode cX6_count 4 = .ok (.bipush 10, 2) := by decide +kernel
theorem dX6_count_6 : decode cX6_count 6 = .ok (.iaload, 1) := by decide +kernel
theorem dX6_count_7 : decode cX6_count 7 = .ok (.ireturn, 1) := by decide +kernel
theorem dX6_rule_0 : decode cX6_rule 0 = .ok (.aload_n 0, 1) := by decide +kernel
theorem dX6_rule_1 : decode cX6_rule 1 = .ok (.iconst 0, 1) := by decide +kernel
theorem dX6_rule_2 : decode cX6_rule 2 = .ok (.putfield 45, 3) := by decide +kernel
theorem dX6_rule_5 : decode cX6_rule 5 = .ok (.iload_n 1, 1) := by decide +kernel
theorem dX6_rule_6 : decode cX6_rule 6 = .ok (.ifCond .lt 29, 3) := by decide +kernel
theorem dX6_rule_9 : decode cX6_rule 9 = .ok (.iload_n 1, 1) := by decide +kernel
theorem dX6_rule_10 : decode cX6_rule 10 = .ok (.sipush 10000, 3) := by decide +kernel
theorem dX6_rule_13 : decode cX6_rule 13 = .ok (.if_icmp .gt 22, 3) := by decide +kernel
theorem dX6_rule_16 : decode cX6_rule 16 = .ok (.iload_n 2, 1) := by decide +kernel
theorem dX6_rule_17 : decode cX6_rule 17 = .ok (.ifCond .lt 18, 3) := by decide +kernel
theorem dX6_rule_20 : decode cX6_rule 20 = .ok (.iload_n 2, 1) := by decide +kernel
theorem dX6_rule_21 : decode cX6_rule 21 = .ok (.ldc 49, 2) := by decide +kernel
theorem dX6_rule_23 : decode cX6_rule 23 = .ok (.if_icmp .gt 12, 3) := by decide +kernel
theorem dX6_rule_26 : decode cX6_rule 26 = .ok (.aload_n 0, 1) := by decide +kernel
theorem dX6_rule_27 : decode cX6_rule 27 = .ok (.getfield 50, 3) := by decide +kernel
theorem dX6_rule_30 : decode cX6_rule 30 = .ok (.bipush 40, 2) := by decide +kernel
theorem dX6_rule_32 : decode cX6_rule 32 = .ok (.if_icmp .ne 5, 3) := by decide +kernel
theorem dX6_rule_35 : decode cX6_rule 35 = .ok (.iconst (-1), 1) := by decide +kernel
theorem dX6_rule_36 : decode cX6_rule 36 = .ok (.ireturn, 1) := by decide +kernel
theorem dX6_rule_37 : decode cX6_rule 37 = .ok (.aload_n 0, 1) := by decide +kernel
theorem dX6_rule_38 : decode cX6_rule 38 = .ok (.getfield 7, 3) := by decide +kernel
theorem dX6_rule_41 : decode cX6_rule 41 = .ok (.aload_n 0, 1) := by decide +kernel
theorem dX6_rule_42 : decode cX6_rule 42 = .ok (.getfield 50, 3) := by decide +kernel
theorem dX6_rule_45 : decode cX6_rule 45 = .ok (.iload_n 1, 1) := by decide +kernel
theorem dX6_rule_46 : decode cX6_rule 46 = .ok (.iastore, 1) := by decide +kernel
theorem dX6_rule_47 : decode cX6_rule 47 = .ok (.aload_n 0, 1) := by decide +kernel
theorem dX6_rule_48 : decode cX6_rule 48 = .ok (.getfield 13, 3) := by decide +kernel
theorem dX6_rule_51 : decode cX6_rule 51 = .ok (.aload_n 0, 1) := by decide +kernel
theorem dX6_rule_52 : decode cX6_rule 52 = .ok (.getfield 50, 3) := by decide +kernel
theorem dX6_rule_55 : decode cX6_rule 55 = .ok (.iload_n 2, 1) := by decide +kernel
theorem dX6_rule_56 : decode cX6_rule 56 = .ok (.iastore, 1) := by decide +kernel
theorem dX6_rule_57 : decode cX6_rule 57 = .ok (.aload_n 0, 1) := by decide +kernel
theorem dX6_rule_58 : decode cX6_rule 58 = .ok (.dup, 1) := by decide +kernel
theorem dX6_rule_59 : decode cX6_rule 59 = .ok (.getfield 50, 3) := by decide +kernel
theorem dX6_rule_62 : decode cX6_rule 62 = .ok (.iconst 1, 1) := by decide +kernel
theorem dX6_rule_63 : decode cX6_rule 63 = .ok (.iadd, 1) := by decide +kernel
theorem dX6_rule_64 : decode cX6_rule 64 = .ok (.putfield 50, 3) := by decide +kernel
theorem dX6_rule_67 : decode cX6_rule 67 = .ok (.aload_n 0, 1) := by decide +kernel
theorem dX6_rule_68 : decode cX6_rule 68 = .ok (.getfield 50, 3) := by decide +kernel
theorem dX6_rule_71 : decode cX6_rule 71 = .ok (.iconst 1, 1) := by decide +kernel
theorem dX6_rule_72 : decode cX6_rule 72 = .ok (.isub, 1) := by decide +kernel
theorem dX6_rule_73 : decode cX6_rule 73 = .ok (.ireturn, 1) := by decide +kernel
theorem dX6_add_0 : decode cX6_add 0 = .ok (.sipush 2000, 3) := by decide +kernel
theorem dX6_add_3 : decode cX6_add 3 = .ok (.aload_n 0, 1) := by decide +kernel
theorem dX6_add_4 : decode cX6_add 4 = .ok (.invokevirtual 53, 3) := by decide +kernel
theorem dX6_add_7 : decode cX6_add 7 = .ok (.iadd, 1) := by decide +kernel
theorem dX6_add_8 : decode cX6_add 8 = .ok (.istore 4, 2) := by decide +kernel
theorem dX6_add_10 : decode cX6_add 10 = .ok (.aload_n 0, 1) := by decide +kernel
theorem dX6_add_11 : decode cX6_add 11 = .ok (.getfield 19, 3) := by decide +kernel
theorem dX6_add_14 : decode cX6_add 14 = .ok (.iload 4, 2) := by decide +kernel
theorem dX6_add_16 : decode cX6_add 16 = .ok (.iload_n 1, 1) := by decide +kernel
theorem dX6_add_17 : decode cX6_add 17 = .ok (.iastore, 1) := by decide +kernel
theorem dX6_add_18 : decode cX6_add 18 = .ok (.aload_n 0, 1) := by decide +kernel
theorem dX6_add_19 : decode cX6_add 19 = .ok (.getfield 22, 3) := by decide +kernel
theorem dX6_add_22 : decode cX6_add 22 = .ok (.iload 4, 2) := by decide +kernel
theorem dX6_add_24 : decode cX6_add 24 = .ok (.iload_n 2, 1) := by decide +kernel
theorem dX6_add_25 : decode cX6_add 25 = .ok (.iastore, 1) := by decide +kernel
theorem dX6_add_26 : decode cX6_add 26 = .ok (.aload_n 0, 1) := by decide +kernel
theorem dX6_add_27 : decode cX6_add 27 = .ok (.getfield 25, 3) := by decide +kernel
theorem dX6_add_30 : decode cX6_add 30 = .ok (.iload 4, 2) := by decide +kernel
theorem dX6_add_32 : decode cX6_add 32 = .ok (.iload_n 3, 1) := by decide +kernel
theorem dX6_add_33 : decode cX6_add 33 = .ok (.iastore, 1) := by decide +kernel
theorem dX6_add_34 : decode cX6_add 34 = .ok (.aload_n 0, 1) := by decide +kernel
theorem dX6_add_35 : decode cX6_add 35 = .ok (.getfield 16, 3) := by decide +kernel
theorem dX6_add_38 : decode cX6_add 38 = .ok (.bipush 10, 2) := by decide +kernel
theorem dX6_add_40 : decode cX6_add 40 = .ok (.dup2, 1) := by decide +kernel
theorem dX6_add_41 : decode cX6_add 41 = .ok (.iaload, 1) := by decide +kernel
theorem dX6_add_42 : decode cX6_add 42 = .ok (.iconst 1, 1) := by decide +kernel
theorem dX6_add_43 : decode cX6_add 43 = .ok (.iadd, 1) := by decide +kernel
theorem dX6_add_44 : decode cX6_add 44 = .ok (.iastore, 1) := by decide +kernel
theorem dX6_add_45 : decode cX6_add 45 = .ok (.aload_n 0, 1) := by decide +kernel
theorem dX6_add_46 : decode cX6_add 46 = .ok (.invokevirtual 53, 3) := by decide +kernel
theorem dX6_add_49 : decode cX6_add 49 = .ok (.iconst 1, 1) := by decide +kernel
theorem dX6_add_50 : decode cX6_add 50 = .ok (.isub, 1) := by decide +kernel
theorem dX6_add_51 : decode cX6_add 51 = .ok (.ireturn, 1) := by decide +kernel
theorem dX6_used_0 : decode cX6_used 0 = .ok (.aload_n 0, 1) := by decide +kernel
theorem dX6_used_1 : decode cX6_used 1 = .ok (.iconst 0, 1) := by decide +kernel
theorem dX6_used_2 : decode cX6_used 2 = .ok (.putfield 45, 3) := by decide +kernel
theorem dX6_used_5 : decode cX6_used 5 = .ok (.iload_n 1, 1) := by decide +kernel
theorem dX6_used_6 : decode cX6_used 6 = .ok (.ifCond .lt 43, 3) := by decide +kernel
theorem dX6_used_9 : decode cX6_used 9 = .ok (.iload_n 1, 1) := by decide +kernel
theorem dX6_used_10 : decode cX6_used 10 = .ok (.aload_n 0, 1) := by decide +kernel
theorem dX6_used_11 : decode cX6_used 11 = .ok (.getfield 50, 3) := by decide +kernel
theorem dX6_used_14 : decode cX6_used 14 = .ok (.if_icmp .ge 35, 3) := by decide +kernel
theorem dX6_used_17 : decode cX6_used 17 = .ok (.iload_n 2, 1) := by decide +kernel
theorem dX6_used_18 : decode cX6_used 18 = .ok (.ifCond .lt 31, 3) := by decide +kernel
theorem dX6_used_21 : decode cX6_used 21 = .ok (.iload_n 2, 1) := by decide +kernel
theorem dX6_used_22 : decode cX6_used 22 = .ok (.sipush 255, 3) := by decide +kernel
theorem dX6_used_25 : decode cX6_used 25 = .ok (.if_icmp .gt 24, 3) := by decide +kernel
theorem dX6_used_28 : decode cX6_used 28 = .ok (.iload_n 3, 1) := by decide +kernel
theorem dX6_used_29 : decode cX6_used 29 = .ok (.iconst 1, 1) := by decide +kernel
theorem dX6_used_30 : decode cX6_used 30 = .ok (.if_icmp .lt 19, 3) := by decide +kernel
theorem dX6_used_33 : decode cX6_used 33 = .ok (.iload_n 3, 1) := by decide +kernel
theorem dX6_used_34 : decode cX6_used 34 = .ok (.bipush 9, 2) := by decide +kernel
theorem dX6_used_36 : decode cX6_used 36 = .ok (.if_icmp .gt 13, 3) := by decide +kernel
theorem dX6_used_39 : decode cX6_used 39 = .ok (.aload_n 0, 1) := by decide +kernel
theorem dX6_used_40 : decode cX6_used 40 = .ok (.invokevirtual 53, 3) := by decide +kernel
theorem dX6_used_43 : decode cX6_used 43 = .ok (.sipush 200, 3) := by decide +kernel
theorem dX6_used_46 : decode cX6_used 46 = .ok (.if_icmp .ne 5, 3) := by decide +kernel
theorem dX6_used_49 : decode cX6_used 49 = .ok (.iconst (-1), 1) := by decide +kernel
theorem dX6_used_50 : decode cX6_used 50 = .ok (.ireturn, 1) := by decide +kernel
theorem dX6_used_51 : decode cX6_used 51 = .ok (.aload_n 0, 1) := by decide +kernel
theorem dX6_used_52 : decode cX6_used 52 = .ok (.iload_n 1, 1) := by decide +kernel
theorem dX6_used_53 : decode cX6_used 53 = .ok (.iload_n 2, 1) := by decide +kernel
theorem dX6_used_54 : decode cX6_used 54 = .ok (.iload_n 3, 1) := by decide +kernel
theorem dX6_used_55 : decode cX6_used 55 = .ok (.invokevirtual 57, 3) := by decide +kernel
theorem dX6_used_58 : decode cX6_used 58 = .ok (.ireturn, 1) := by decide +kernel
theorem dX6_guess_0 : decode cX6_guess 0 = .ok (.aload_n 0, 1) := by decide +kernel
theorem dX6_guess_1 : decode cX6_guess 1 = .ok (.iconst 0, 1) := by decide +kernel
theorem dX6_guess_2 : decode cX6_guess 2 = .ok (.putfield 45, 3) := by decide +kernel
theorem dX6_guess_5 : decode cX6_guess 5 = .ok (.iload_n 1, 1) := by decide +kernel
theorem dX6_guess_6 : decode cX6_guess 6 = .ok (.iconst 1, 1) := by decide +kernel
theorem dX6_guess_7 : decode cX6_guess 7 = .ok (.if_icmp .lt 19, 3) := by decide +kernel
theorem dX6_guess_10 : decode cX6_guess 10 = .ok (.iload_n 1, 1) := by decide +kernel
theorem dX6_guess_11 : decode cX6_guess 11 = .ok (.bipush 20, 2) := by decide +kernel
theorem dX6_guess_13 : decode cX6_guess 13 = .ok (.if_icmp .gt 13, 3) := by decide +kernel
theorem dX6_guess_16 : decode cX6_guess 16 = .ok (.aload_n 0, 1) := by decide +kernel
theorem dX6_guess_17 : decode cX6_guess 17 = .ok (.invokevirtual 53, 3) := by decide +kernel
theorem dX6_guess_20 : decode cX6_guess 20 = .ok (.sipush 200, 3) := by decide +kernel
theorem dX6_guess_23 : decode cX6_guess 23 = .ok (.if_icmp .ne 5, 3) := by decide +kernel
theorem dX6_guess_26 : decode cX6_guess 26 = .ok (.iconst (-1), 1) := by decide +kernel
theorem dX6_guess_27 : decode cX6_guess 27 = .ok (.ireturn, 1) := by decide +kernel
theorem dX6_guess_28 : decode cX6_guess 28 = .ok (.aload_n 0, 1) := by decide +kernel
theorem dX6_guess_29 : decode cX6_guess 29 = .ok (.iconst (-1), 1) := by decide +kernel
theorem dX6_guess_30 : decode cX6_guess 30 = .ok (.iload_n 1, 1) := by decide +kernel
theorem dX6_guess_31 : decode cX6_guess 31 = .ok (.iconst 0, 1) := by decide +kernel
theorem dX6_guess_32 : decode cX6_guess 32 = .ok (.invokevirtual 57, 3) := by decide +kernel
theorem dX6_guess_35 : decode cX6_guess 35 = .ok (.ireturn, 1) := by decide +kernel
theorem dX6_drop_0 : decode cX6_drop 0 = .ok (.aload_n 0, 1) := by decide +kernel
theorem dX6_drop_1 : decode cX6_drop 1 = .ok (.iconst 0, 1) := by decide +kernel
theorem dX6_drop_2 : decode cX6_drop 2 = .ok (.putfield 45, 3) := by decide +kernel
theorem dX6_drop_5 : decode cX6_drop 5 = .ok (.aload_n 0, 1) := by decide +kernel
theorem dX6_drop_6 : decode cX6_drop 6 = .ok (.invokevirtual 53, 3) := by decide +kernel
theorem dX6_drop_9 : decode cX6_drop 9 = .ok (.ifCond .ne 5, 3) := by decide +kernel
theorem dX6_drop_12 : decode cX6_drop 12 = .ok (.iconst 0, 1) := by decide +kernel
theorem dX6_drop_13 : decode cX6_drop 13 = .ok (.ireturn, 1) := by decide +kernel
theorem dX6_drop_14 : decode cX6_drop 14 = .ok (.aload_n 0, 1) := by decide +kernel
theorem dX6_drop_15 : decode cX6_drop 15 = .ok (.getfield 61, 3) := by decide +kernel
theorem dX6_drop_18 : decode cX6_drop 18 = .ok (.aload_n 0, 1) := by decide +kernel
theorem dX6_drop_19 : decode cX6_drop 19 = .ok (.invokevirtual 53, 3) := by decide +kernel
theorem dX6_drop_22 : decode cX6_drop 22 = .ok (.if_icmp .ne 13, 3) := by decide +kernel
theorem dX6_drop_25 : decode cX6_drop 25 = .ok (.aload_n 0, 1) := by decide +kernel
theorem dX6_drop_26 : decode cX6_drop 26 = .ok (.dup, 1) := by decide +kernel
theorem dX6_drop_27 : decode cX6_drop 27 = .ok (.getfield 61, 3) := by decide +kernel
theorem dX6_drop_30 : decode cX6_drop 30 = .ok (.iconst 1, 1) := by decide +kernel
theorem dX6_drop_31 : decode cX6_drop 31 = .ok (.isub, 1) := by decide +kernel
theorem dX6_drop_32 : decode cX6_drop 32 = .ok (.putfield 61, 3) := by decide +kernel
theorem dX6_drop_35 : decode cX6_drop 35 = .ok (.aload_n 0, 1) := by decide +kernel
theorem dX6_drop_36 : decode cX6_drop 36 = .ok (.getfield 16, 3) := by decide +kernel
theorem dX6_drop_39 : decode cX6_drop 39 = .ok (.bipush 10, 2) := by decide +kernel
theorem dX6_drop_41 : decode cX6_drop 41 = .ok (.dup2, 1) := by decide +kernel
theorem dX6_drop_42 : decode cX6_drop 42 = .ok (.iaload, 1) := by decide +kernel
theorem dX6_drop_43 : decode cX6_drop 43 = .ok (.iconst 1, 1) := by decide +kernel
theorem dX6_drop_44 : decode cX6_drop 44 = .ok (.isub, 1) := by decide +kernel
theorem dX6_drop_45 : decode cX6_drop 45 = .ok (.iastore, 1) := by decide +kernel
theorem dX6_drop_46 : decode cX6_drop 46 = .ok (.iconst 1, 1) := by decide +kernel
theorem dX6_drop_47 : decode cX6_drop 47 = .ok (.ireturn, 1) := by decide +kernel
theorem dX6_costOf_0 : decode cX6_costOf 0 = .ok (.sipush 200, 3) := by decide +kernel
theorem dX6_costOf_3 : decode cX6_costOf 3 = .ok (.iload_n 1, 1) := by decide +kernel
theorem dX6_costOf_4 : decode cX6_costOf 4 = .ok (.imul, 1) := by decide +kernel
theorem dX6_costOf_5 : decode cX6_costOf 5 = .ok (.iload_n 2, 1) := by decide +kernel
theorem dX6_costOf_6 : decode cX6_costOf 6 = .ok (.iadd, 1) := by decide +kernel
theorem dX6_costOf_7 : decode cX6_costOf 7 = .ok (.istore_n 3, 1) := by decide +kernel
theorem dX6_costOf_8 : decode cX6_costOf 8 = .ok (.aload_n 0, 1) := by decide +kernel
theorem dX6_costOf_9 : decode cX6_costOf 9 = .ok (.getfield 19, 3) := by decide +kernel
theorem dX6_costOf_12 : decode cX6_costOf 12 = .ok (.iload_n 3, 1) := by decide +kernel
theorem dX6_costOf_13 : decode cX6_costOf 13 = .ok (.iaload, 1) := by decide +kernel
theorem dX6_costOf_14 : decode cX6_costOf 14 = .ok (.iconst (-1), 1) := by decide +kernel
theorem dX6_costOf_15 : decode cX6_costOf 15 = .ok (.if_icmp .ne 38, 3) := by decide +kernel
theorem dX6_costOf_18 : decode cX6_costOf 18 = .ok (.ldc2_w 64, 3) := by decide +kernel
theorem dX6_costOf_21 : decode cX6_costOf 21 = .ok (.aload_n 0, 1) := by decide +kernel
theorem dX6_costOf_22 : decode cX6_costOf 22 = .ok (.getfield 22, 3) := by decide +kernel
theorem dX6_costOf_25 : decode cX6_costOf 25 = .ok (.iload_n 3, 1) := by decide +kernel
theorem dX6_costOf_26 : decode cX6_costOf 26 = .ok (.iaload, 1) := by decide +kernel
theorem dX6_costOf_27 : decode cX6_costOf 27 = .ok (.i2l, 1) := by decide +kernel
theorem dX6_costOf_28 : decode cX6_costOf 28 = .ok (.lmul, 1) := by decide +kernel
theorem dX6_costOf_29 : decode cX6_costOf 29 = .ok (.iload_n 2, 1) := by decide +kernel
theorem dX6_costOf_30 : decode cX6_costOf 30 = .ok (.ifCond .le 19, 3) := by decide +kernel
theorem dX6_costOf_33 : decode cX6_costOf 33 = .ok (.aload_n 0, 1) := by decide +kernel
theorem dX6_costOf_34 : decode cX6_costOf 34 = .ok (.getfield 19, 3) := by decide +kernel
theorem dX6_costOf_37 : decode cX6_costOf 37 = .ok (.iload_n 3, 1) := by decide +kernel
theorem dX6_costOf_38 : decode cX6_costOf 38 = .ok (.iconst 1, 1) := by decide +kernel
theorem dX6_costOf_39 : decode cX6_costOf 39 = .ok (.isub, 1) := by decide +kernel
theorem dX6_costOf_40 : decode cX6_costOf 40 = .ok (.iaload, 1) := by decide +kernel
theorem dX6_costOf_41 : decode cX6_costOf 41 = .ok (.iconst (-1), 1) := by decide +kernel
theorem dX6_costOf_42 : decode cX6_costOf 42 = .ok (.if_icmp .ne 7, 3) := by decide +kernel
theorem dX6_costOf_45 : decode cX6_costOf 45 = .ok (.iconst 2, 1) := by decide +kernel
theorem dX6_costOf_46 : decode cX6_costOf 46 = .ok (.goto 4, 3) := by decide +kernel
theorem dX6_costOf_49 : decode cX6_costOf 49 = .ok (.iconst 1, 1) := by decide +kernel
theorem dX6_costOf_50 : decode cX6_costOf 50 = .ok (.i2l, 1) := by decide +kernel
theorem dX6_costOf_51 : decode cX6_costOf 51 = .ok (.lmul, 1) := by decide +kernel
theorem dX6_costOf_52 : decode cX6_costOf 52 = .ok (.lreturn, 1) := by decide +kernel
theorem dX6_costOf_53 : decode cX6_costOf 53 = .ok (.iconst 1, 1) := by decide +kernel
theorem dX6_costOf_54 : decode cX6_costOf 54 = .ok (.istore 4, 2) := by decide +kernel
theorem dX6_costOf_56 : decode cX6_costOf 56 = .ok (.iconst 0, 1) := by decide +kernel
theorem dX6_costOf_57 : decode cX6_costOf 57 = .ok (.istore 5, 2) := by decide +kernel
theorem dX6_costOf_59 : decode cX6_costOf 59 = .ok (.iload 5, 2) := by decide +kernel
theorem dX6_costOf_61 : decode cX6_costOf 61 = .ok (.iload_n 2, 1) := by decide +kernel
theorem dX6_costOf_62 : decode cX6_costOf 62 = .ok (.if_icmp .ge 43, 3) := by decide +kernel
theorem dX6_costOf_65 : decode cX6_costOf 65 = .ok (.iload 4, 2) := by decide +kernel
theorem dX6_costOf_67 : decode cX6_costOf 67 = .ok (.ifCond .eq 29, 3) := by decide +kernel
theorem dX6_costOf_70 : decode cX6_costOf 70 = .ok (.aload_n 0, 1) := by decide +kernel
theorem dX6_costOf_71 : decode cX6_costOf 71 = .ok (.getfield 19, 3) := by decide +kernel
theorem dX6_costOf_74 : decode cX6_costOf 74 = .ok (.sipush 200, 3) := by decide +kernel
theorem dX6_costOf_77 : decode cX6_costOf 77 = .ok (.iload_n 1, 1) := by decide +kernel
theorem dX6_costOf_78 : decode cX6_costOf 78 = .ok (.imul, 1) := by decide +kernel
theorem dX6_costOf_79 : decode cX6_costOf 79 = .ok (.iload 5, 2) := by decide +kernel
theorem dX6_costOf_81 : decode cX6_costOf 81 = .ok (.iadd, 1) := by decide +kernel
theorem dX6_costOf_82 : decode cX6_costOf 82 = .ok (.iaload, 1) := by decide +kernel
theorem dX6_costOf_83 : decode cX6_costOf 83 = .ok (.aload_n 0, 1) := by decide +kernel
theorem dX6_costOf_84 : decode cX6_costOf 84 = .ok (.getfield 19, 3) := by decide +kernel
theorem dX6_costOf_87 : decode cX6_costOf 87 = .ok (.iload_n 3, 1) := by decide +kernel
theorem dX6_costOf_88 : decode cX6_costOf 88 = .ok (.iaload, 1) := by decide +kernel
theorem dX6_costOf_89 : decode cX6_costOf 89 = .ok (.if_icmp .eq 7, 3) := by decide +kernel
theorem dX6_costOf_92 : decode cX6_costOf 92 = .ok (.iconst 1, 1) := by decide +kernel
theorem dX6_costOf_93 : decode cX6_costOf 93 = .ok (.goto 4, 3) := by decide +kernel
theorem dX6_costOf_96 : decode cX6_costOf 96 = .ok (.iconst 0, 1) := by decide +kernel
theorem dX6_costOf_97 : decode cX6_costOf 97 = .ok (.istore 4, 2) := by decide +kernel
theorem dX6_costOf_99 : decode cX6_costOf 99 = .ok (.iinc 5 1, 3) := by decide +kernel
theorem dX6_costOf_102 : decode cX6_costOf 102 = .ok (.goto (-43), 3) := by decide +kernel
theorem dX6_costOf_105 : decode cX6_costOf 105 = .ok (.aload_n 0, 1) := by decide +kernel
theorem dX6_costOf_106 : decode cX6_costOf 106 = .ok (.getfield 7, 3) := by decide +kernel
theorem dX6_costOf_109 : decode cX6_costOf 109 = .ok (.aload_n 0, 1) := by decide +kernel
theorem dX6_costOf_110 : decode cX6_costOf 110 = .ok (.getfield 19, 3) := by decide +kernel
theorem dX6_costOf_113 : decode cX6_costOf 113 = .ok (.iload_n 3, 1) := by decide +kernel
theorem dX6_costOf_114 : decode cX6_costOf 114 = .ok (.iaload, 1) := by decide +kernel
theorem dX6_costOf_115 : decode cX6_costOf 115 = .ok (.iaload, 1) := by decide +kernel
theorem dX6_costOf_116 : decode cX6_costOf 116 = .ok (.i2l, 1) := by decide +kernel
theorem dX6_costOf_117 : decode cX6_costOf 117 = .ok (.bipush 12, 2) := by decide +kernel
theorem dX6_costOf_119 : decode cX6_costOf 119 = .ok (.aload_n 0, 1) := by decide +kernel
theorem dX6_costOf_120 : decode cX6_costOf 120 = .ok (.getfield 25, 3) := by decide +kernel
theorem dX6_costOf_123 : decode cX6_costOf 123 = .ok (.iload_n 3, 1) := by decide +kernel
theorem dX6_costOf_124 : decode cX6_costOf 124 = .ok (.iaload, 1) := by decide +kernel
theorem dX6_costOf_125 : decode cX6_costOf 125 = .ok (.isub, 1) := by decide +kernel
theorem dX6_costOf_126 : decode cX6_costOf 126 = .ok (.i2l, 1) := by decide +kernel
theorem dX6_costOf_127 : decode cX6_costOf 127 = .ok (.lmul, 1) := by decide +kernel
theorem dX6_costOf_128 : decode cX6_costOf 128 = .ok (.ldc2_w 66, 3) := by decide +kernel
theorem dX6_costOf_131 : decode cX6_costOf 131 = .ok (.ldiv, 1) := by decide +kernel
theorem dX6_costOf_132 : decode cX6_costOf 132 = .ok (.lstore 5, 2) := by decide +kernel
theorem dX6_costOf_134 : decode cX6_costOf 134 = .ok (.iload 4, 2) := by decide +kernel
theorem dX6_costOf_136 : decode cX6_costOf 136 = .ok (.ifCond .eq 21, 3) := by decide +kernel
theorem dX6_costOf_139 : decode cX6_costOf 139 = .ok (.lload 5, 2) := by decide +kernel
theorem dX6_costOf_141 : decode cX6_costOf 141 = .ok (.aload_n 0, 1) := by decide +kernel
theorem dX6_costOf_142 : decode cX6_costOf 142 = .ok (.getfield 13, 3) := by decide +kernel
theorem dX6_costOf_145 : decode cX6_costOf 145 = .ok (.aload_n 0, 1) := by decide +kernel
theorem dX6_costOf_146 : decode cX6_costOf 146 = .ok (.getfield 19, 3) := by decide +kernel
theorem dX6_costOf_149 : decode cX6_costOf 149 = .ok (.iload_n 3, 1) := by decide +kernel
theorem dX6_costOf_150 : decode cX6_costOf 150 = .ok (.iaload, 1) := by decide +kernel
theorem dX6_costOf_151 : decode cX6_costOf 151 = .ok (.iaload, 1) := by decide +kernel
theorem dX6_costOf_152 : decode cX6_costOf 152 = .ok (.i2l, 1) := by decide +kernel
theorem dX6_costOf_153 : decode cX6_costOf 153 = .ok (.ladd, 1) := by decide +kernel
theorem dX6_costOf_154 : decode cX6_costOf 154 = .ok (.goto 5, 3) := by decide +kernel
theorem dX6_costOf_157 : decode cX6_costOf 157 = .ok (.lload 5, 2) := by decide +kernel
theorem dX6_costOf_159 : decode cX6_costOf 159 = .ok (.lreturn, 1) := by decide +kernel
theorem dX6_sumOf_0 : decode cX6_sumOf 0 = .ok (.lconst 0, 1) := by decide +kernel
theorem dX6_sumOf_1 : decode cX6_sumOf 1 = .ok (.lstore_n 3, 1) := by decide +kernel
theorem dX6_sumOf_2 : decode cX6_sumOf 2 = .ok (.iconst 0, 1) := by decide +kernel
theorem dX6_sumOf_3 : decode cX6_sumOf 3 = .ok (.istore 5, 2) := by decide +kernel
theorem dX6_sumOf_5 : decode cX6_sumOf 5 = .ok (.iload 5, 2) := by decide +kernel
theorem dX6_sumOf_7 : decode cX6_sumOf 7 = .ok (.iload_n 2, 1) := by decide +kernel
theorem dX6_sumOf_8 : decode cX6_sumOf 8 = .ok (.if_icmp .ge 30, 3) := by decide +kernel
theorem dX6_sumOf_11 : decode cX6_sumOf 11 = .ok (.iload 5, 2) := by decide +kernel
theorem dX6_sumOf_13 : decode cX6_sumOf 13 = .ok (.aload_n 0, 1) := by decide +kernel
theorem dX6_sumOf_14 : decode cX6_sumOf 14 = .ok (.getfield 16, 3) := by decide +kernel
theorem dX6_sumOf_17 : decode cX6_sumOf 17 = .ok (.iload_n 1, 1) := by decide +kernel
theorem dX6_sumOf_18 : decode cX6_sumOf 18 = .ok (.iaload, 1) := by decide +kernel
theorem dX6_sumOf_19 : decode cX6_sumOf 19 = .ok (.if_icmp .ge 19, 3) := by decide +kernel
theorem dX6_sumOf_22 : decode cX6_sumOf 22 = .ok (.lload_n 3, 1) := by decide +kernel
theorem dX6_sumOf_23 : decode cX6_sumOf 23 = .ok (.aload_n 0, 1) := by decide +kernel
theorem dX6_sumOf_24 : decode cX6_sumOf 24 = .ok (.iload_n 1, 1) := by decide +kernel
theorem dX6_sumOf_25 : decode cX6_sumOf 25 = .ok (.iload 5, 2) := by decide +kernel
theorem dX6_sumOf_27 : decode cX6_sumOf 27 = .ok (.invokevirtual 68, 3) := by decide +kernel
theorem dX6_sumOf_30 : decode cX6_sumOf 30 = .ok (.ladd, 1) := by decide +kernel
theorem dX6_sumOf_31 : decode cX6_sumOf 31 = .ok (.lstore_n 3, 1) := by decide +kernel
theorem dX6_sumOf_32 : decode cX6_sumOf 32 = .ok (.iinc 5 1, 3) := by decide +kernel
theorem dX6_sumOf_35 : decode cX6_sumOf 35 = .ok (.goto (-30), 3) := by decide +kernel
theorem dX6_sumOf_38 : decode cX6_sumOf 38 = .ok (.lload_n 3, 1) := by decide +kernel
theorem dX6_sumOf_39 : decode cX6_sumOf 39 = .ok (.lreturn, 1) := by decide +kernel
theorem dX6_all_0 : decode cX6_all 0 = .ok (.aload_n 0, 1) := by decide +kernel
theorem dX6_all_1 : decode cX6_all 1 = .ok (.bipush 10, 2) := by decide +kernel
theorem dX6_all_3 : decode cX6_all 3 = .ok (.sipush 200, 3) := by decide +kernel
theorem dX6_all_6 : decode cX6_all 6 = .ok (.invokevirtual 72, 3) := by decide +kernel
theorem dX6_all_9 : decode cX6_all 9 = .ok (.lreturn, 1) := by decide +kernel
theorem dX6_cost_0 : decode cX6_cost 0 = .ok (.aload_n 0, 1) := by decide +kernel
theorem dX6_cost_1 : decode cX6_cost 1 = .ok (.iconst 0, 1) := by decide +kernel
theorem dX6_cost_2 : decode cX6_cost 2 = .ok (.putfield 45, 3) := by decide +kernel
theorem dX6_cost_5 : decode cX6_cost 5 = .ok (.iload_n 1, 1) := by decide +kernel
theorem dX6_cost_6 : decode cX6_cost 6 = .ok (.ifCond .lt 11, 3) := by decide +kernel
theorem dX6_cost_9 : decode cX6_cost 9 = .ok (.iload_n 1, 1) := by decide +kernel
theorem dX6_cost_10 : decode cX6_cost 10 = .ok (.aload_n 0, 1) := by decide +kernel
theorem dX6_cost_11 : decode cX6_cost 11 = .ok (.invokevirtual 53, 3) := by decide +kernel
theorem dX6_cost_14 : decode cX6_cost 14 = .ok (.if_icmp .lt 9, 3) := by decide +kernel
theorem dX6_cost_17 : decode cX6_cost 17 = .ok (.ldc2_w 75, 3) := by decide +kernel
theorem dX6_cost_20 : decode cX6_cost 20 = .ok (.goto 10, 3) := by decide +kernel
theorem dX6_cost_23 : decode cX6_cost 23 = .ok (.aload_n 0, 1) := by decide +kernel
theorem dX6_cost_24 : decode cX6_cost 24 = .ok (.bipush 10, 2) := by decide +kernel
theorem dX6_cost_26 : decode cX6_cost 26 = .ok (.iload_n 1, 1) := by decide +kernel
theorem dX6_cost_27 : decode cX6_cost 27 = .ok (.invokevirtual 68, 3) := by decide +kernel
theorem dX6_cost_30 : decode cX6_cost 30 = .ok (.lreturn, 1) := by decide +kernel
theorem dX6_sum_0 : decode cX6_sum 0 = .ok (.aload_n 0, 1) := by decide +kernel
theorem dX6_sum_1 : decode cX6_sum 1 = .ok (.iconst 0, 1) := by decide +kernel
theorem dX6_sum_2 : decode cX6_sum 2 = .ok (.putfield 45, 3) := by decide +kernel
theorem dX6_sum_5 : decode cX6_sum 5 = .ok (.iload_n 1, 1) := by decide +kernel
theorem dX6_sum_6 : decode cX6_sum 6 = .ok (.ifCond .ge 9, 3) := by decide +kernel
theorem dX6_sum_9 : decode cX6_sum 9 = .ok (.ldc2_w 75, 3) := by decide +kernel
theorem dX6_sum_12 : decode cX6_sum 12 = .ok (.goto 10, 3) := by decide +kernel
theorem dX6_sum_15 : decode cX6_sum 15 = .ok (.aload_n 0, 1) := by decide +kernel
theorem dX6_sum_16 : decode cX6_sum 16 = .ok (.bipush 10, 2) := by decide +kernel
theorem dX6_sum_18 : decode cX6_sum 18 = .ok (.iload_n 1, 1) := by decide +kernel
theorem dX6_sum_19 : decode cX6_sum 19 = .ok (.invokevirtual 72, 3) := by decide +kernel
theorem dX6_sum_22 : decode cX6_sum 22 = .ok (.lreturn, 1) := by decide +kernel
theorem dX6_cls_0 : decode cX6_cls 0 = .ok (.aload_n 0, 1) := by decide +kernel
theorem dX6_cls_1 : decode cX6_cls 1 = .ok (.iconst 0, 1) := by decide +kernel
theorem dX6_cls_2 : decode cX6_cls 2 = .ok (.putfield 45, 3) := by decide +kernel
theorem dX6_cls_5 : decode cX6_cls 5 = .ok (.lload_n 1, 1) := by decide +kernel
theorem dX6_cls_6 : decode cX6_cls 6 = .ok (.lconst 0, 1) := by decide +kernel
theorem dX6_cls_7 : decode cX6_cls 7 = .ok (.lcmp, 1) := by decide +kernel
theorem dX6_cls_8 : decode cX6_cls 8 = .ok (.ifCond .lt 26, 3) := by decide +kernel
theorem dX6_cls_11 : decode cX6_cls 11 = .ok (.lload_n 3, 1) := by decide +kernel
theorem dX6_cls_12 : decode cX6_cls 12 = .ok (.lload_n 1, 1) := by decide +kernel
theorem dX6_cls_13 : decode cX6_cls 13 = .ok (.lcmp, 1) := by decide +kernel
theorem dX6_cls_14 : decode cX6_cls 14 = .ok (.ifCond .lt 20, 3) := by decide +kernel
theorem dX6_cls_17 : decode cX6_cls 17 = .ok (.lload_n 3, 1) := by decide +kernel
theorem dX6_cls_18 : decode cX6_cls 18 = .ok (.ldc2_w 77, 3) := by decide +kernel
theorem dX6_cls_21 : decode cX6_cls 21 = .ok (.lcmp, 1) := by decide +kernel
theorem dX6_cls_22 : decode cX6_cls 22 = .ok (.ifCond .gt 12, 3) := by decide +kernel
theorem dX6_cls_25 : decode cX6_cls 25 = .ok (.aload_n 0, 1) := by decide +kernel
theorem dX6_cls_26 : decode cX6_cls 26 = .ok (.getfield 79, 3) := by decide +kernel
theorem dX6_cls_29 : decode cX6_cls 29 = .ok (.bipush 20, 2) := by decide +kernel
theorem dX6_cls_31 : decode cX6_cls 31 = .ok (.if_icmp .ne 5, 3) := by decide +kernel
theorem dX6_cls_34 : decode cX6_cls 34 = .ok (.iconst (-1), 1) := by decide +kernel
theorem dX6_cls_35 : decode cX6_cls 35 = .ok (.ireturn, 1) := by decide +kernel
theorem dX6_cls_36 : decode cX6_cls 36 = .ok (.iconst 0, 1) := by decide +kernel
theorem dX6_cls_37 : decode cX6_cls 37 = .ok (.istore 5, 2) := by decide +kernel
theorem dX6_cls_39 : decode cX6_cls 39 = .ok (.iload 5, 2) := by decide +kernel
theorem dX6_cls_41 : decode cX6_cls 41 = .ok (.aload_n 0, 1) := by decide +kernel
theorem dX6_cls_42 : decode cX6_cls 42 = .ok (.getfield 79, 3) := by decide +kernel
theorem dX6_cls_45 : decode cX6_cls 45 = .ok (.if_icmp .ge 35, 3) := by decide +kernel
theorem dX6_cls_48 : decode cX6_cls 48 = .ok (.lload_n 1, 1) := by decide +kernel
theorem dX6_cls_49 : decode cX6_cls 49 = .ok (.aload_n 0, 1) := by decide +kernel
theorem dX6_cls_50 : decode cX6_cls 50 = .ok (.getfield 32, 3) := by decide +kernel
theorem dX6_cls_53 : decode cX6_cls 53 = .ok (.iload 5, 2) := by decide +kernel
theorem dX6_cls_55 : decode cX6_cls 55 = .ok (.laload, 1) := by decide +kernel
theorem dX6_cls_56 : decode cX6_cls 56 = .ok (.lcmp, 1) := by decide +kernel
theorem dX6_cls_57 : decode cX6_cls 57 = .ok (.ifCond .gt 17, 3) := by decide +kernel
theorem dX6_cls_60 : decode cX6_cls 60 = .ok (.lload_n 3, 1) := by decide +kernel
theorem dX6_cls_61 : decode cX6_cls 61 = .ok (.aload_n 0, 1) := by decide +kernel
theorem dX6_cls_62 : decode cX6_cls 62 = .ok (.getfield 28, 3) := by decide +kernel
theorem dX6_cls_65 : decode cX6_cls 65 = .ok (.iload 5, 2) := by decide +kernel
theorem dX6_cls_67 : decode cX6_cls 67 = .ok (.laload, 1) := by decide +kernel
theorem dX6_cls_68 : decode cX6_cls 68 = .ok (.lcmp, 1) := by decide +kernel
theorem dX6_cls_69 : decode cX6_cls 69 = .ok (.ifCond .lt 5, 3) := by decide +kernel
theorem dX6_cls_72 : decode cX6_cls 72 = .ok (.iconst (-1), 1) := by decide +kernel
theorem dX6_cls_73 : decode cX6_cls 73 = .ok (.ireturn, 1) := by decide +kernel
theorem dX6_cls_74 : decode cX6_cls 74 = .ok (.iinc 5 1, 3) := by decide +kernel
theorem dX6_cls_77 : decode cX6_cls 77 = .ok (.goto (-38), 3) := by decide +kernel
theorem dX6_cls_80 : decode cX6_cls 80 = .ok (.aload_n 0, 1) := by decide +kernel
theorem dX6_cls_81 : decode cX6_cls 81 = .ok (.getfield 28, 3) := by decide +kernel
theorem dX6_cls_84 : decode cX6_cls 84 = .ok (.aload_n 0, 1) := by decide +kernel
theorem dX6_cls_85 : decode cX6_cls 85 = .ok (.getfield 79, 3) := by decide +kernel
theorem dX6_cls_88 : decode cX6_cls 88 = .ok (.lload_n 1, 1) := by decide +kernel
theorem dX6_cls_89 : decode cX6_cls 89 = .ok (.lastore, 1) := by decide +kernel
theorem dX6_cls_90 : decode cX6_cls 90 = .ok (.aload_n 0, 1) := by decide +kernel
theorem dX6_cls_91 : decode cX6_cls 91 = .ok (.getfield 32, 3) := by decide +kernel
theorem dX6_cls_94 : decode cX6_cls 94 = .ok (.aload_n 0, 1) := by decide +kernel
theorem dX6_cls_95 : decode cX6_cls 95 = .ok (.getfield 79, 3) := by decide +kernel
theorem dX6_cls_98 : decode cX6_cls 98 = .ok (.lload_n 3, 1) := by decide +kernel
theorem dX6_cls_99 : decode cX6_cls 99 = .ok (.lastore, 1) := by decide +kernel
theorem dX6_cls_100 : decode cX6_cls 100 = .ok (.aload_n 0, 1) := by decide +kernel
theorem dX6_cls_101 : decode cX6_cls 101 = .ok (.dup, 1) := by decide +kernel
theorem dX6_cls_102 : decode cX6_cls 102 = .ok (.getfield 79, 3) := by decide +kernel
theorem dX6_cls_105 : decode cX6_cls 105 = .ok (.iconst 1, 1) := by decide +kernel
theorem dX6_cls_106 : decode cX6_cls 106 = .ok (.iadd, 1) := by decide +kernel
theorem dX6_cls_107 : decode cX6_cls 107 = .ok (.putfield 79, 3) := by decide +kernel
theorem dX6_cls_110 : decode cX6_cls 110 = .ok (.aload_n 0, 1) := by decide +kernel
theorem dX6_cls_111 : decode cX6_cls 111 = .ok (.getfield 79, 3) := by decide +kernel
theorem dX6_cls_114 : decode cX6_cls 114 = .ok (.iconst 1, 1) := by decide +kernel
theorem dX6_cls_115 : decode cX6_cls 115 = .ok (.isub, 1) := by decide +kernel
theorem dX6_cls_116 : decode cX6_cls 116 = .ok (.ireturn, 1) := by decide +kernel
theorem dX6_classOf_0 : decode cX6_classOf 0 = .ok (.iconst 0, 1) := by decide +kernel
theorem dX6_classOf_1 : decode cX6_classOf 1 = .ok (.istore_n 3, 1) := by decide +kernel
theorem dX6_classOf_2 : decode cX6_classOf 2 = .ok (.iload_n 3, 1) := by decide +kernel
theorem dX6_classOf_3 : decode cX6_classOf 3 = .ok (.aload_n 0, 1) := by decide +kernel
theorem dX6_classOf_4 : decode cX6_classOf 4 = .ok (.getfield 79, 3) := by decide +kernel
theorem dX6_classOf_7 : decode cX6_classOf 7 = .ok (.if_icmp .ge 33, 3) := by decide +kernel
theorem dX6_classOf_10 : decode cX6_classOf 10 = .ok (.lload_n 1, 1) := by decide +kernel
theorem dX6_classOf_11 : decode cX6_classOf 11 = .ok (.aload_n 0, 1) := by decide +kernel
theorem dX6_classOf_12 : decode cX6_classOf 12 = .ok (.getfield 28, 3) := by decide +kernel
theorem dX6_classOf_15 : decode cX6_classOf 15 = .ok (.iload_n 3, 1) := by decide +kernel
theorem dX6_classOf_16 : decode cX6_classOf 16 = .ok (.laload, 1) := by decide +kernel
theorem dX6_classOf_17 : decode cX6_classOf 17 = .ok (.lcmp, 1) := by decide +kernel
theorem dX6_classOf_18 : decode cX6_classOf 18 = .ok (.ifCond .lt 16, 3) := by decide +kernel
theorem dX6_classOf_21 : decode cX6_classOf 21 = .ok (.lload_n 1, 1) := by decide +kernel
theorem dX6_classOf_22 : decode cX6_classOf 22 = .ok (.aload_n 0, 1) := by decide +kernel
theorem dX6_classOf_23 : decode cX6_classOf 23 = .ok (.getfield 32, 3) := by decide +kernel
theorem dX6_classOf_26 : decode cX6_classOf 26 = .ok (.iload_n 3, 1) := by decide +kernel
theorem dX6_classOf_27 : decode cX6_classOf 27 = .ok (.laload, 1) := by decide +kernel
theorem dX6_classOf_28 : decode cX6_classOf 28 = .ok (.lcmp, 1) := by decide +kernel
theorem dX6_classOf_29 : decode cX6_classOf 29 = .ok (.ifCond .gt 5, 3) := by decide +kernel
theorem dX6_classOf_32 : decode cX6_classOf 32 = .ok (.iload_n 3, 1) := by decide +kernel
theorem dX6_classOf_33 : decode cX6_classOf 33 = .ok (.ireturn, 1) := by decide +kernel
theorem dX6_classOf_34 : decode cX6_classOf 34 = .ok (.iinc 3 1, 3) := by decide +kernel
theorem dX6_classOf_37 : decode cX6_classOf 37 = .ok (.goto (-35), 3) := by decide +kernel
theorem dX6_classOf_40 : decode cX6_classOf 40 = .ok (.iconst (-1), 1) := by decide +kernel
theorem dX6_classOf_41 : decode cX6_classOf 41 = .ok (.ireturn, 1) := by decide +kernel
theorem dX6_grade_0 : decode cX6_grade 0 = .ok (.aload_n 0, 1) := by decide +kernel
theorem dX6_grade_1 : decode cX6_grade 1 = .ok (.iconst 0, 1) := by decide +kernel
theorem dX6_grade_2 : decode cX6_grade 2 = .ok (.putfield 45, 3) := by decide +kernel
theorem dX6_grade_5 : decode cX6_grade 5 = .ok (.aload_n 0, 1) := by decide +kernel
theorem dX6_grade_6 : decode cX6_grade 6 = .ok (.aload_n 0, 1) := by decide +kernel
theorem dX6_grade_7 : decode cX6_grade 7 = .ok (.invokevirtual 82, 3) := by decide +kernel
theorem dX6_grade_10 : decode cX6_grade 10 = .ok (.invokevirtual 86, 3) := by decide +kernel
theorem dX6_grade_13 : decode cX6_grade 13 = .ok (.ireturn, 1) := by decide +kernel
theorem dX6_rank_0 : decode cX6_rank 0 = .ok (.aload_n 0, 1) := by decide +kernel
theorem dX6_rank_1 : decode cX6_rank 1 = .ok (.iconst 0, 1) := by decide +kernel
theorem dX6_rank_2 : decode cX6_rank 2 = .ok (.putfield 45, 3) := by decide +kernel
theorem dX6_rank_5 : decode cX6_rank 5 = .ok (.aload_n 0, 1) := by decide +kernel
theorem dX6_rank_6 : decode cX6_rank 6 = .ok (.invokevirtual 82, 3) := by decide +kernel
theorem dX6_rank_9 : decode cX6_rank 9 = .ok (.lstore_n 1, 1) := by decide +kernel
theorem dX6_rank_10 : decode cX6_rank 10 = .ok (.aload_n 0, 1) := by decide +kernel
theorem dX6_rank_11 : decode cX6_rank 11 = .ok (.lload_n 1, 1) := by decide +kernel
theorem dX6_rank_12 : decode cX6_rank 12 = .ok (.invokevirtual 86, 3) := by decide +kernel
theorem dX6_rank_15 : decode cX6_rank 15 = .ok (.ifCond .ge 5, 3) := by decide +kernel
theorem dX6_rank_18 : decode cX6_rank 18 = .ok (.iconst (-1), 1) := by decide +kernel
theorem dX6_rank_19 : decode cX6_rank 19 = .ok (.ireturn, 1) := by decide +kernel
theorem dX6_rank_20 : decode cX6_rank 20 = .ok (.iconst 0, 1) := by decide +kernel
theorem dX6_rank_21 : decode cX6_rank 21 = .ok (.istore_n 3, 1) := by decide +kernel
theorem dX6_rank_22 : decode cX6_rank 22 = .ok (.iconst 0, 1) := by decide +kernel
theorem dX6_rank_23 : decode cX6_rank 23 = .ok (.istore 4, 2) := by decide +kernel
theorem dX6_rank_25 : decode cX6_rank 25 = .ok (.iload 4, 2) := by decide +kernel
theorem dX6_rank_27 : decode cX6_rank 27 = .ok (.aload_n 0, 1) := by decide +kernel
theorem dX6_rank_28 : decode cX6_rank 28 = .ok (.getfield 79, 3) := by decide +kernel
theorem dX6_rank_31 : decode cX6_rank 31 = .ok (.if_icmp .ge 29, 3) := by decide +kernel
theorem dX6_rank_34 : decode cX6_rank 34 = .ok (.iload_n 3, 1) := by decide +kernel
theorem dX6_rank_35 : decode cX6_rank 35 = .ok (.aload_n 0, 1) := by decide +kernel
theorem dX6_rank_36 : decode cX6_rank 36 = .ok (.getfield 32, 3) := by decide +kernel
theorem dX6_rank_39 : decode cX6_rank 39 = .ok (.iload 4, 2) := by decide +kernel
theorem dX6_rank_41 : decode cX6_rank 41 = .ok (.laload, 1) := by decide +kernel
theorem dX6_rank_42 : decode cX6_rank 42 = .ok (.lload_n 1, 1) := by decide +kernel
theorem dX6_rank_43 : decode cX6_rank 43 = .ok (.lcmp, 1) := by decide +kernel
theorem dX6_rank_44 : decode cX6_rank 44 = .ok (.ifCond .ge 7, 3) := by decide +kernel
theorem dX6_rank_47 : decode cX6_rank 47 = .ok (.iconst 1, 1) := by decide +kernel
theorem dX6_rank_48 : decode cX6_rank 48 = .ok (.goto 4, 3) := by decide +kernel
theorem dX6_rank_51 : decode cX6_rank 51 = .ok (.iconst 0, 1) := by decide +kernel
theorem dX6_rank_52 : decode cX6_rank 52 = .ok (.iadd, 1) := by decide +kernel
theorem dX6_rank_53 : decode cX6_rank 53 = .ok (.istore_n 3, 1) := by decide +kernel
theorem dX6_rank_54 : decode cX6_rank 54 = .ok (.iinc 4 1, 3) := by decide +kernel
theorem dX6_rank_57 : decode cX6_rank 57 = .ok (.goto (-32), 3) := by decide +kernel
theorem dX6_rank_60 : decode cX6_rank 60 = .ok (.iload_n 3, 1) := by decide +kernel
theorem dX6_rank_61 : decode cX6_rank 61 = .ok (.ireturn, 1) := by decide +kernel
theorem dX6_gap_0 : decode cX6_gap 0 = .ok (.aload_n 0, 1) := by decide +kernel
theorem dX6_gap_1 : decode cX6_gap 1 = .ok (.iconst 0, 1) := by decide +kernel
theorem dX6_gap_2 : decode cX6_gap 2 = .ok (.putfield 45, 3) := by decide +kernel
theorem dX6_gap_5 : decode cX6_gap 5 = .ok (.lload_n 1, 1) := by decide +kernel
theorem dX6_gap_6 : decode cX6_gap 6 = .ok (.lconst 0, 1) := by decide +kernel
theorem dX6_gap_7 : decode cX6_gap 7 = .ok (.lcmp, 1) := by decide +kernel
theorem dX6_gap_8 : decode cX6_gap 8 = .ok (.ifCond .ge 7, 3) := by decide +kernel
theorem dX6_gap_11 : decode cX6_gap 11 = .ok (.ldc2_w 75, 3) := by decide +kernel
theorem dX6_gap_14 : decode cX6_gap 14 = .ok (.lreturn, 1) := by decide +kernel
theorem dX6_gap_15 : decode cX6_gap 15 = .ok (.lload_n 1, 1) := by decide +kernel
theorem dX6_gap_16 : decode cX6_gap 16 = .ok (.lstore_n 3, 1) := by decide +kernel
theorem dX6_gap_17 : decode cX6_gap 17 = .ok (.aload_n 0, 1) := by decide +kernel
theorem dX6_gap_18 : decode cX6_gap 18 = .ok (.lload_n 3, 1) := by decide +kernel
theorem dX6_gap_19 : decode cX6_gap 19 = .ok (.invokevirtual 86, 3) := by decide +kernel
theorem dX6_gap_22 : decode cX6_gap 22 = .ok (.ifCond .lt 19, 3) := by decide +kernel
theorem dX6_gap_25 : decode cX6_gap 25 = .ok (.aload_n 0, 1) := by decide +kernel
theorem dX6_gap_26 : decode cX6_gap 26 = .ok (.getfield 32, 3) := by decide +kernel
theorem dX6_gap_29 : decode cX6_gap 29 = .ok (.aload_n 0, 1) := by decide +kernel
theorem dX6_gap_30 : decode cX6_gap 30 = .ok (.lload_n 3, 1) := by decide +kernel
theorem dX6_gap_31 : decode cX6_gap 31 = .ok (.invokevirtual 86, 3) := by decide +kernel
theorem dX6_gap_34 : decode cX6_gap 34 = .ok (.laload, 1) := by decide +kernel
theorem dX6_gap_35 : decode cX6_gap 35 = .ok (.lconst 1, 1) := by decide +kernel
theorem dX6_gap_36 : decode cX6_gap 36 = .ok (.ladd, 1) := by decide +kernel
theorem dX6_gap_37 : decode cX6_gap 37 = .ok (.lstore_n 3, 1) := by decide +kernel
theorem dX6_gap_38 : decode cX6_gap 38 = .ok (.goto (-21), 3) := by decide +kernel
theorem dX6_gap_41 : decode cX6_gap 41 = .ok (.lload_n 3, 1) := by decide +kernel
theorem dX6_gap_42 : decode cX6_gap 42 = .ok (.lreturn, 1) := by decide +kernel
theorem dX6_stuck_0 : decode cX6_stuck 0 = .ok (.aload_n 0, 1) := by decide +kernel
theorem dX6_stuck_1 : decode cX6_stuck 1 = .ok (.iconst 0, 1) := by decide +kernel
theorem dX6_stuck_2 : decode cX6_stuck 2 = .ok (.putfield 45, 3) := by decide +kernel
theorem dX6_stuck_5 : decode cX6_stuck 5 = .ok (.iconst 0, 1) := by decide +kernel
theorem dX6_stuck_6 : decode cX6_stuck 6 = .ok (.istore_n 2, 1) := by decide +kernel
theorem dX6_stuck_7 : decode cX6_stuck 7 = .ok (.iload_n 2, 1) := by decide +kernel
theorem dX6_stuck_8 : decode cX6_stuck 8 = .ok (.sipush 256, 3) := by decide +kernel
theorem dX6_stuck_11 : decode cX6_stuck 11 = .ok (.if_icmp .ge 16, 3) := by decide +kernel
theorem dX6_stuck_14 : decode cX6_stuck 14 = .ok (.aload_n 0, 1) := by decide +kernel
theorem dX6_stuck_15 : decode cX6_stuck 15 = .ok (.getfield 35, 3) := by decide +kernel
theorem dX6_stuck_18 : decode cX6_stuck 18 = .ok (.iload_n 2, 1) := by decide +kernel
theorem dX6_stuck_19 : decode cX6_stuck 19 = .ok (.iconst 0, 1) := by decide +kernel
theorem dX6_stuck_20 : decode cX6_stuck 20 = .ok (.bastore, 1) := by decide +kernel
theorem dX6_stuck_21 : decode cX6_stuck 21 = .ok (.iinc 2 1, 3) := by decide +kernel
theorem dX6_stuck_24 : decode cX6_stuck 24 = .ok (.goto (-17), 3) := by decide +kernel
theorem dX6_stuck_27 : decode cX6_stuck 27 = .ok (.iconst 0, 1) := by decide +kernel
theorem dX6_stuck_28 : decode cX6_stuck 28 = .ok (.istore_n 2, 1) := by decide +kernel
theorem dX6_stuck_29 : decode cX6_stuck 29 = .ok (.iconst 0, 1) := by decide +kernel
theorem dX6_stuck_30 : decode cX6_stuck 30 = .ok (.istore_n 3, 1) := by decide +kernel
theorem dX6_stuck_31 : decode cX6_stuck 31 = .ok (.iload_n 3, 1) := by decide +kernel
theorem dX6_stuck_32 : decode cX6_stuck 32 = .ok (.aload_n 0, 1) := by decide +kernel
theorem dX6_stuck_33 : decode cX6_stuck 33 = .ok (.invokevirtual 53, 3) := by decide +kernel
theorem dX6_stuck_36 : decode cX6_stuck 36 = .ok (.if_icmp .ge 85, 3) := by decide +kernel
theorem dX6_stuck_39 : decode cX6_stuck 39 = .ok (.sipush 2000, 3) := by decide +kernel
theorem dX6_stuck_42 : decode cX6_stuck 42 = .ok (.iload_n 3, 1) := by decide +kernel
theorem dX6_stuck_43 : decode cX6_stuck 43 = .ok (.iadd, 1) := by decide +kernel
theorem dX6_stuck_44 : decode cX6_stuck 44 = .ok (.istore 4, 2) := by decide +kernel
theorem dX6_stuck_46 : decode cX6_stuck 46 = .ok (.aload_n 0, 1) := by decide +kernel
theorem dX6_stuck_47 : decode cX6_stuck 47 = .ok (.getfield 19, 3) := by decide +kernel
theorem dX6_stuck_50 : decode cX6_stuck 50 = .ok (.iload 4, 2) := by decide +kernel
theorem dX6_stuck_52 : decode cX6_stuck 52 = .ok (.iaload, 1) := by decide +kernel
theorem dX6_stuck_53 : decode cX6_stuck 53 = .ok (.iconst (-1), 1) := by decide +kernel
theorem dX6_stuck_54 : decode cX6_stuck 54 = .ok (.if_icmp .eq 61, 3) := by decide +kernel
theorem dX6_stuck_57 : decode cX6_stuck 57 = .ok (.aload_n 0, 1) := by decide +kernel
theorem dX6_stuck_58 : decode cX6_stuck 58 = .ok (.getfield 25, 3) := by decide +kernel
theorem dX6_stuck_61 : decode cX6_stuck 61 = .ok (.iload 4, 2) := by decide +kernel
theorem dX6_stuck_63 : decode cX6_stuck 63 = .ok (.iaload, 1) := by decide +kernel
theorem dX6_stuck_64 : decode cX6_stuck 64 = .ok (.iconst 1, 1) := by decide +kernel
theorem dX6_stuck_65 : decode cX6_stuck 65 = .ok (.if_icmp .ne 50, 3) := by decide +kernel
theorem dX6_stuck_68 : decode cX6_stuck 68 = .ok (.aload_n 0, 1) := by decide +kernel
theorem dX6_stuck_69 : decode cX6_stuck 69 = .ok (.getfield 35, 3) := by decide +kernel
theorem dX6_stuck_72 : decode cX6_stuck 72 = .ok (.aload_n 0, 1) := by decide +kernel
theorem dX6_stuck_73 : decode cX6_stuck 73 = .ok (.getfield 22, 3) := by decide +kernel
theorem dX6_stuck_76 : decode cX6_stuck 76 = .ok (.iload 4, 2) := by decide +kernel
theorem dX6_stuck_78 : decode cX6_stuck 78 = .ok (.iaload, 1) := by decide +kernel
theorem dX6_stuck_79 : decode cX6_stuck 79 = .ok (.baload, 1) := by decide +kernel
theorem dX6_stuck_80 : decode cX6_stuck 80 = .ok (.ifCond .eq 6, 3) := by decide +kernel
theorem dX6_stuck_83 : decode cX6_stuck 83 = .ok (.goto 32, 3) := by decide +kernel
theorem dX6_stuck_86 : decode cX6_stuck 86 = .ok (.aload_n 0, 1) := by decide +kernel
theorem dX6_stuck_87 : decode cX6_stuck 87 = .ok (.getfield 35, 3) := by decide +kernel
theorem dX6_stuck_90 : decode cX6_stuck 90 = .ok (.aload_n 0, 1) := by decide +kernel
theorem dX6_stuck_91 : decode cX6_stuck 91 = .ok (.getfield 22, 3) := by decide +kernel
theorem dX6_stuck_94 : decode cX6_stuck 94 = .ok (.iload 4, 2) := by decide +kernel
theorem dX6_stuck_96 : decode cX6_stuck 96 = .ok (.iaload, 1) := by decide +kernel
theorem dX6_stuck_97 : decode cX6_stuck 97 = .ok (.iconst 1, 1) := by decide +kernel
theorem dX6_stuck_98 : decode cX6_stuck 98 = .ok (.bastore, 1) := by decide +kernel
theorem dX6_stuck_99 : decode cX6_stuck 99 = .ok (.iload_n 2, 1) := by decide +kernel
theorem dX6_stuck_100 : decode cX6_stuck 100 = .ok (.iload_n 1, 1) := by decide +kernel
theorem dX6_stuck_101 : decode cX6_stuck 101 = .ok (.if_icmp .ne 11, 3) := by decide +kernel
theorem dX6_stuck_104 : decode cX6_stuck 104 = .ok (.aload_n 0, 1) := by decide +kernel
theorem dX6_stuck_105 : decode cX6_stuck 105 = .ok (.getfield 22, 3) := by decide +kernel
theorem dX6_stuck_108 : decode cX6_stuck 108 = .ok (.iload 4, 2) := by decide +kernel
theorem dX6_stuck_110 : decode cX6_stuck 110 = .ok (.iaload, 1) := by decide +kernel
theorem dX6_stuck_111 : decode cX6_stuck 111 = .ok (.ireturn, 1) := by decide +kernel
theorem dX6_stuck_112 : decode cX6_stuck 112 = .ok (.iinc 2 1, 3) := by decide +kernel
theorem dX6_stuck_115 : decode cX6_stuck 115 = .ok (.iinc 3 1, 3) := by decide +kernel
theorem dX6_stuck_118 : decode cX6_stuck 118 = .ok (.goto (-87), 3) := by decide +kernel
theorem dX6_stuck_121 : decode cX6_stuck 121 = .ok (.iconst (-1), 1) := by decide +kernel
theorem dX6_stuck_122 : decode cX6_stuck 122 = .ok (.ireturn, 1) := by decide +kernel
theorem dX6_run_0 : decode cX6_run 0 = .ok (.aload_n 0, 1) := by decide +kernel
theorem dX6_run_1 : decode cX6_run 1 = .ok (.iconst 0, 1) := by decide +kernel
theorem dX6_run_2 : decode cX6_run 2 = .ok (.putfield 45, 3) := by decide +kernel
theorem dX6_run_5 : decode cX6_run 5 = .ok (.iconst 0, 1) := by decide +kernel
theorem dX6_run_6 : decode cX6_run 6 = .ok (.istore_n 1, 1) := by decide +kernel
theorem dX6_run_7 : decode cX6_run 7 = .ok (.iconst 0, 1) := by decide +kernel
theorem dX6_run_8 : decode cX6_run 8 = .ok (.istore_n 2, 1) := by decide +kernel
theorem dX6_run_9 : decode cX6_run 9 = .ok (.iconst 0, 1) := by decide +kernel
theorem dX6_run_10 : decode cX6_run 10 = .ok (.istore_n 3, 1) := by decide +kernel
theorem dX6_run_11 : decode cX6_run 11 = .ok (.iload_n 3, 1) := by decide +kernel
theorem dX6_run_12 : decode cX6_run 12 = .ok (.aload_n 0, 1) := by decide +kernel
theorem dX6_run_13 : decode cX6_run 13 = .ok (.invokevirtual 53, 3) := by decide +kernel
theorem dX6_run_16 : decode cX6_run 16 = .ok (.if_icmp .ge 52, 3) := by decide +kernel
theorem dX6_run_19 : decode cX6_run 19 = .ok (.iload_n 3, 1) := by decide +kernel
theorem dX6_run_20 : decode cX6_run 20 = .ok (.ifCond .le 29, 3) := by decide +kernel
theorem dX6_run_23 : decode cX6_run 23 = .ok (.aload_n 0, 1) := by decide +kernel
theorem dX6_run_24 : decode cX6_run 24 = .ok (.bipush 10, 2) := by decide +kernel
theorem dX6_run_26 : decode cX6_run 26 = .ok (.iload_n 3, 1) := by decide +kernel
theorem dX6_run_27 : decode cX6_run 27 = .ok (.invokevirtual 68, 3) := by decide +kernel
theorem dX6_run_30 : decode cX6_run 30 = .ok (.aload_n 0, 1) := by decide +kernel
theorem dX6_run_31 : decode cX6_run 31 = .ok (.bipush 10, 2) := by decide +kernel
theorem dX6_run_33 : decode cX6_run 33 = .ok (.iload_n 3, 1) := by decide +kernel
theorem dX6_run_34 : decode cX6_run 34 = .ok (.iconst 1, 1) := by decide +kernel
theorem dX6_run_35 : decode cX6_run 35 = .ok (.isub, 1) := by decide +kernel
theorem dX6_run_36 : decode cX6_run 36 = .ok (.invokevirtual 68, 3) := by decide +kernel
theorem dX6_run_39 : decode cX6_run 39 = .ok (.lcmp, 1) := by decide +kernel
theorem dX6_run_40 : decode cX6_run 40 = .ok (.ifCond .lt 9, 3) := by decide +kernel
theorem dX6_run_43 : decode cX6_run 43 = .ok (.iload_n 2, 1) := by decide +kernel
theorem dX6_run_44 : decode cX6_run 44 = .ok (.iconst 1, 1) := by decide +kernel
theorem dX6_run_45 : decode cX6_run 45 = .ok (.iadd, 1) := by decide +kernel
theorem dX6_run_46 : decode cX6_run 46 = .ok (.goto 4, 3) := by decide +kernel
theorem dX6_run_49 : decode cX6_run 49 = .ok (.iconst 1, 1) := by decide +kernel
theorem dX6_run_50 : decode cX6_run 50 = .ok (.istore_n 2, 1) := by decide +kernel
theorem dX6_run_51 : decode cX6_run 51 = .ok (.iload_n 2, 1) := by decide +kernel
theorem dX6_run_52 : decode cX6_run 52 = .ok (.iload_n 1, 1) := by decide +kernel
theorem dX6_run_53 : decode cX6_run 53 = .ok (.if_icmp .le 7, 3) := by decide +kernel
theorem dX6_run_56 : decode cX6_run 56 = .ok (.iload_n 2, 1) := by decide +kernel
theorem dX6_run_57 : decode cX6_run 57 = .ok (.goto 4, 3) := by decide +kernel
theorem dX6_run_60 : decode cX6_run 60 = .ok (.iload_n 1, 1) := by decide +kernel
theorem dX6_run_61 : decode cX6_run 61 = .ok (.istore_n 1, 1) := by decide +kernel
theorem dX6_run_62 : decode cX6_run 62 = .ok (.iinc 3 1, 3) := by decide +kernel
theorem dX6_run_65 : decode cX6_run 65 = .ok (.goto (-54), 3) := by decide +kernel
theorem dX6_run_68 : decode cX6_run 68 = .ok (.iload_n 1, 1) := by decide +kernel
theorem dX6_run_69 : decode cX6_run 69 = .ok (.ireturn, 1) := by decide +kernel
theorem dX6_hardest_0 : decode cX6_hardest 0 = .ok (.aload_n 0, 1) := by decide +kernel
theorem dX6_hardest_1 : decode cX6_hardest 1 = .ok (.iconst 0, 1) := by decide +kernel
theorem dX6_hardest_2 : decode cX6_hardest 2 = .ok (.putfield 45, 3) := by decide +kernel
theorem dX6_hardest_5 : decode cX6_hardest 5 = .ok (.iconst (-1), 1) := by decide +kernel
theorem dX6_hardest_6 : decode cX6_hardest 6 = .ok (.istore_n 1, 1) := by decide +kernel
theorem dX6_hardest_7 : decode cX6_hardest 7 = .ok (.ldc2_w 75, 3) := by decide +kernel
theorem dX6_hardest_10 : decode cX6_hardest 10 = .ok (.lstore_n 2, 1) := by decide +kernel
theorem dX6_hardest_11 : decode cX6_hardest 11 = .ok (.iconst 0, 1) := by decide +kernel
theorem dX6_hardest_12 : decode cX6_hardest 12 = .ok (.istore 4, 2) := by decide +kernel
theorem dX6_hardest_14 : decode cX6_hardest 14 = .ok (.iload 4, 2) := by decide +kernel
theorem dX6_hardest_16 : decode cX6_hardest 16 = .ok (.aload_n 0, 1) := by decide +kernel
theorem dX6_hardest_17 : decode cX6_hardest 17 = .ok (.getfield 50, 3) := by decide +kernel
theorem dX6_hardest_20 : decode cX6_hardest 20 = .ok (.if_icmp .ge 91, 3) := by decide +kernel
theorem dX6_hardest_23 : decode cX6_hardest 23 = .ok (.ldc2_w 75, 3) := by decide +kernel
theorem dX6_hardest_26 : decode cX6_hardest 26 = .ok (.lstore 5, 2) := by decide +kernel
theorem dX6_hardest_28 : decode cX6_hardest 28 = .ok (.iconst 0, 1) := by decide +kernel
theorem dX6_hardest_29 : decode cX6_hardest 29 = .ok (.istore 7, 2) := by decide +kernel
theorem dX6_hardest_31 : decode cX6_hardest 31 = .ok (.iload 7, 2) := by decide +kernel
theorem dX6_hardest_33 : decode cX6_hardest 33 = .ok (.aload_n 0, 1) := by decide +kernel
theorem dX6_hardest_34 : decode cX6_hardest 34 = .ok (.invokevirtual 53, 3) := by decide +kernel
theorem dX6_hardest_37 : decode cX6_hardest 37 = .ok (.if_icmp .ge 52, 3) := by decide +kernel
theorem dX6_hardest_40 : decode cX6_hardest 40 = .ok (.aload_n 0, 1) := by decide +kernel
theorem dX6_hardest_41 : decode cX6_hardest 41 = .ok (.getfield 19, 3) := by decide +kernel
theorem dX6_hardest_44 : decode cX6_hardest 44 = .ok (.sipush 2000, 3) := by decide +kernel
theorem dX6_hardest_47 : decode cX6_hardest 47 = .ok (.iload 7, 2) := by decide +kernel
theorem dX6_hardest_49 : decode cX6_hardest 49 = .ok (.iadd, 1) := by decide +kernel
theorem dX6_hardest_50 : decode cX6_hardest 50 = .ok (.iaload, 1) := by decide +kernel
theorem dX6_hardest_51 : decode cX6_hardest 51 = .ok (.iload 4, 2) := by decide +kernel
theorem dX6_hardest_53 : decode cX6_hardest 53 = .ok (.if_icmp .eq 6, 3) := by decide +kernel
theorem dX6_hardest_56 : decode cX6_hardest 56 = .ok (.goto 27, 3) := by decide +kernel
theorem dX6_hardest_59 : decode cX6_hardest 59 = .ok (.lload 5, 2) := by decide +kernel
theorem dX6_hardest_61 : decode cX6_hardest 61 = .ok (.lconst 0, 1) := by decide +kernel
theorem dX6_hardest_62 : decode cX6_hardest 62 = .ok (.lcmp, 1) := by decide +kernel
theorem dX6_hardest_63 : decode cX6_hardest 63 = .ok (.ifCond .ge 7, 3) := by decide +kernel
theorem dX6_hardest_66 : decode cX6_hardest 66 = .ok (.lconst 0, 1) := by decide +kernel
theorem dX6_hardest_67 : decode cX6_hardest 67 = .ok (.goto 5, 3) := by decide +kernel
theorem dX6_hardest_70 : decode cX6_hardest 70 = .ok (.lload 5, 2) := by decide +kernel
theorem dX6_hardest_72 : decode cX6_hardest 72 = .ok (.aload_n 0, 1) := by decide +kernel
theorem dX6_hardest_73 : decode cX6_hardest 73 = .ok (.bipush 10, 2) := by decide +kernel
theorem dX6_hardest_75 : decode cX6_hardest 75 = .ok (.iload 7, 2) := by decide +kernel
theorem dX6_hardest_77 : decode cX6_hardest 77 = .ok (.invokevirtual 68, 3) := by decide +kernel
theorem dX6_hardest_80 : decode cX6_hardest 80 = .ok (.ladd, 1) := by decide +kernel
theorem dX6_hardest_81 : decode cX6_hardest 81 = .ok (.lstore 5, 2) := by decide +kernel
theorem dX6_hardest_83 : decode cX6_hardest 83 = .ok (.iinc 7 1, 3) := by decide +kernel
theorem dX6_hardest_86 : decode cX6_hardest 86 = .ok (.goto (-55), 3) := by decide +kernel
theorem dX6_hardest_89 : decode cX6_hardest 89 = .ok (.lload 5, 2) := by decide +kernel
theorem dX6_hardest_91 : decode cX6_hardest 91 = .ok (.lload_n 2, 1) := by decide +kernel
theorem dX6_hardest_92 : decode cX6_hardest 92 = .ok (.lcmp, 1) := by decide +kernel
theorem dX6_hardest_93 : decode cX6_hardest 93 = .ok (.ifCond .gt 6, 3) := by decide +kernel
theorem dX6_hardest_96 : decode cX6_hardest 96 = .ok (.goto 9, 3) := by decide +kernel
theorem dX6_hardest_99 : decode cX6_hardest 99 = .ok (.lload 5, 2) := by decide +kernel
theorem dX6_hardest_101 : decode cX6_hardest 101 = .ok (.lstore_n 2, 1) := by decide +kernel
theorem dX6_hardest_102 : decode cX6_hardest 102 = .ok (.iload 4, 2) := by decide +kernel
theorem dX6_hardest_104 : decode cX6_hardest 104 = .ok (.istore_n 1, 1) := by decide +kernel
theorem dX6_hardest_105 : decode cX6_hardest 105 = .ok (.iinc 4 1, 3) := by decide +kernel
theorem dX6_hardest_108 : decode cX6_hardest 108 = .ok (.goto (-94), 3) := by decide +kernel
theorem dX6_hardest_111 : decode cX6_hardest 111 = .ok (.iload_n 1, 1) := by decide +kernel
theorem dX6_hardest_112 : decode cX6_hardest 112 = .ok (.ireturn, 1) := by decide +kernel
theorem dX6_go_0 : decode cX6_go 0 = .ok (.aload_n 0, 1) := by decide +kernel
theorem dX6_go_1 : decode cX6_go 1 = .ok (.iconst 0, 1) := by decide +kernel
theorem dX6_go_2 : decode cX6_go 2 = .ok (.putfield 45, 3) := by decide +kernel
theorem dX6_go_5 : decode cX6_go 5 = .ok (.iload_n 1, 1) := by decide +kernel
theorem dX6_go_6 : decode cX6_go 6 = .ok (.ifCond .lt 11, 3) := by decide +kernel
theorem dX6_go_9 : decode cX6_go 9 = .ok (.iload_n 1, 1) := by decide +kernel
theorem dX6_go_10 : decode cX6_go 10 = .ok (.aload_n 0, 1) := by decide +kernel
theorem dX6_go_11 : decode cX6_go 11 = .ok (.invokevirtual 53, 3) := by decide +kernel
theorem dX6_go_14 : decode cX6_go 14 = .ok (.if_icmp .le 5, 3) := by decide +kernel
theorem dX6_go_17 : decode cX6_go 17 = .ok (.iconst 0, 1) := by decide +kernel
theorem dX6_go_18 : decode cX6_go 18 = .ok (.ireturn, 1) := by decide +kernel
theorem dX6_go_19 : decode cX6_go 19 = .ok (.aload_n 0, 1) := by decide +kernel
theorem dX6_go_20 : decode cX6_go 20 = .ok (.iload_n 1, 1) := by decide +kernel
theorem dX6_go_21 : decode cX6_go 21 = .ok (.putfield 61, 3) := by decide +kernel
theorem dX6_go_24 : decode cX6_go 24 = .ok (.iconst 1, 1) := by decide +kernel
theorem dX6_go_25 : decode cX6_go 25 = .ok (.ireturn, 1) := by decide +kernel
theorem dX6_hint_0 : decode cX6_hint 0 = .ok (.aload_n 0, 1) := by decide +kernel
theorem dX6_hint_1 : decode cX6_hint 1 = .ok (.iconst 0, 1) := by decide +kernel
theorem dX6_hint_2 : decode cX6_hint 2 = .ok (.putfield 45, 3) := by decide +kernel
theorem dX6_hint_5 : decode cX6_hint 5 = .ok (.iload_n 1, 1) := by decide +kernel
theorem dX6_hint_6 : decode cX6_hint 6 = .ok (.iconst 1, 1) := by decide +kernel
theorem dX6_hint_7 : decode cX6_hint 7 = .ok (.if_icmp .lt 19, 3) := by decide +kernel
theorem dX6_hint_10 : decode cX6_hint 10 = .ok (.iload_n 1, 1) := by decide +kernel
theorem dX6_hint_11 : decode cX6_hint 11 = .ok (.iconst 4, 1) := by decide +kernel
theorem dX6_hint_12 : decode cX6_hint 12 = .ok (.if_icmp .gt 14, 3) := by decide +kernel
theorem dX6_hint_15 : decode cX6_hint 15 = .ok (.aload_n 0, 1) := by decide +kernel
theorem dX6_hint_16 : decode cX6_hint 16 = .ok (.getfield 61, 3) := by decide +kernel
theorem dX6_hint_19 : decode cX6_hint 19 = .ok (.aload_n 0, 1) := by decide +kernel
theorem dX6_hint_20 : decode cX6_hint 20 = .ok (.invokevirtual 53, 3) := by decide +kernel
theorem dX6_hint_23 : decode cX6_hint 23 = .ok (.if_icmp .lt 5, 3) := by decide +kernel
theorem dX6_hint_26 : decode cX6_hint 26 = .ok (.iconst (-1), 1) := by decide +kernel
theorem dX6_hint_27 : decode cX6_hint 27 = .ok (.ireturn, 1) := by decide +kernel
theorem dX6_hint_28 : decode cX6_hint 28 = .ok (.sipush 2000, 3) := by decide +kernel
theorem dX6_hint_31 : decode cX6_hint 31 = .ok (.aload_n 0, 1) := by decide +kernel
theorem dX6_hint_32 : decode cX6_hint 32 = .ok (.getfield 61, 3) := by decide +kernel
theorem dX6_hint_35 : decode cX6_hint 35 = .ok (.iadd, 1) := by decide +kernel
theorem dX6_hint_36 : decode cX6_hint 36 = .ok (.istore_n 2, 1) := by decide +kernel
theorem dX6_hint_37 : decode cX6_hint 37 = .ok (.iload_n 1, 1) := by decide +kernel
theorem dX6_hint_38 : decode cX6_hint 38 = .ok (.iconst 4, 1) := by decide +kernel
theorem dX6_hint_39 : decode cX6_hint 39 = .ok (.if_icmp .ne 13, 3) := by decide +kernel
theorem dX6_hint_42 : decode cX6_hint 42 = .ok (.aload_n 0, 1) := by decide +kernel
theorem dX6_hint_43 : decode cX6_hint 43 = .ok (.dup, 1) := by decide +kernel
theorem dX6_hint_44 : decode cX6_hint 44 = .ok (.getfield 61, 3) := by decide +kernel
theorem dX6_hint_47 : decode cX6_hint 47 = .ok (.iconst 1, 1) := by decide +kernel
theorem dX6_hint_48 : decode cX6_hint 48 = .ok (.iadd, 1) := by decide +kernel
theorem dX6_hint_49 : decode cX6_hint 49 = .ok (.putfield 61, 3) := by decide +kernel
theorem dX6_hint_52 : decode cX6_hint 52 = .ok (.aload_n 0, 1) := by decide +kernel
theorem dX6_hint_53 : decode cX6_hint 53 = .ok (.getfield 19, 3) := by decide +kernel
theorem dX6_hint_56 : decode cX6_hint 56 = .ok (.iload_n 2, 1) := by decide +kernel
theorem dX6_hint_57 : decode cX6_hint 57 = .ok (.iaload, 1) := by decide +kernel
theorem dX6_hint_58 : decode cX6_hint 58 = .ok (.iconst (-1), 1) := by decide +kernel
theorem dX6_hint_59 : decode cX6_hint 59 = .ok (.if_icmp .ne 20, 3) := by decide +kernel
theorem dX6_hint_62 : decode cX6_hint 62 = .ok (.iload_n 1, 1) := by decide +kernel
theorem dX6_hint_63 : decode cX6_hint 63 = .ok (.iconst 4, 1) := by decide +kernel
theorem dX6_hint_64 : decode cX6_hint 64 = .ok (.if_icmp .ne 12, 3) := by decide +kernel
theorem dX6_hint_67 : decode cX6_hint 67 = .ok (.aload_n 0, 1) := by decide +kernel
theorem dX6_hint_68 : decode cX6_hint 68 = .ok (.getfield 22, 3) := by decide +kernel
theorem dX6_hint_71 : decode cX6_hint 71 = .ok (.iload_n 2, 1) := by decide +kernel
theorem dX6_hint_72 : decode cX6_hint 72 = .ok (.iaload, 1) := by decide +kernel
theorem dX6_hint_73 : decode cX6_hint 73 = .ok (.goto 5, 3) := by decide +kernel
theorem dX6_hint_76 : decode cX6_hint 76 = .ok (.bipush (-2), 2) := by decide +kernel
theorem dX6_hint_78 : decode cX6_hint 78 = .ok (.ireturn, 1) := by decide +kernel
theorem dX6_hint_79 : decode cX6_hint 79 = .ok (.iload_n 1, 1) := by decide +kernel
theorem dX6_hint_80 : decode cX6_hint 80 = .ok (.tableswitch 52 1 3 #[28, 38, 45], 28) := by decide +kernel
theorem dX6_hint_108 : decode cX6_hint 108 = .ok (.aload_n 0, 1) := by decide +kernel
theorem dX6_hint_109 : decode cX6_hint 109 = .ok (.getfield 22, 3) := by decide +kernel
theorem dX6_hint_112 : decode cX6_hint 112 = .ok (.iload_n 2, 1) := by decide +kernel
theorem dX6_hint_113 : decode cX6_hint 113 = .ok (.iaload, 1) := by decide +kernel
theorem dX6_hint_114 : decode cX6_hint 114 = .ok (.bipush 16, 2) := by decide +kernel
theorem dX6_hint_116 : decode cX6_hint 116 = .ok (.idiv, 1) := by decide +kernel
theorem dX6_hint_117 : decode cX6_hint 117 = .ok (.ireturn, 1) := by decide +kernel
theorem dX6_hint_118 : decode cX6_hint 118 = .ok (.aload_n 0, 1) := by decide +kernel
theorem dX6_hint_119 : decode cX6_hint 119 = .ok (.getfield 22, 3) := by decide +kernel
theorem dX6_hint_122 : decode cX6_hint 122 = .ok (.iload_n 2, 1) := by decide +kernel
theorem dX6_hint_123 : decode cX6_hint 123 = .ok (.iaload, 1) := by decide +kernel
theorem dX6_hint_124 : decode cX6_hint 124 = .ok (.ireturn, 1) := by decide +kernel
theorem dX6_hint_125 : decode cX6_hint 125 = .ok (.aload_n 0, 1) := by decide +kernel
theorem dX6_hint_126 : decode cX6_hint 126 = .ok (.getfield 19, 3) := by decide +kernel
theorem dX6_hint_129 : decode cX6_hint 129 = .ok (.iload_n 2, 1) := by decide +kernel
theorem dX6_hint_130 : decode cX6_hint 130 = .ok (.iaload, 1) := by decide +kernel
theorem dX6_hint_131 : decode cX6_hint 131 = .ok (.ireturn, 1) := by decide +kernel
theorem dX6_hint_132 : decode cX6_hint 132 = .ok (.aload_n 0, 1) := by decide +kernel
theorem dX6_hint_133 : decode cX6_hint 133 = .ok (.getfield 25, 3) := by decide +kernel
theorem dX6_hint_136 : decode cX6_hint 136 = .ok (.iload_n 2, 1) := by decide +kernel
theorem dX6_hint_137 : decode cX6_hint 137 = .ok (.iaload, 1) := by decide +kernel
theorem dX6_hint_138 : decode cX6_hint 138 = .ok (.ireturn, 1) := by decide +kernel
theorem dX6_keep_0 : decode cX6_keep 0 = .ok (.aload_n 0, 1) := by decide +kernel
theorem dX6_keep_1 : decode cX6_keep 1 = .ok (.iconst 0, 1) := by decide +kernel
theorem dX6_keep_2 : decode cX6_keep 2 = .ok (.putfield 45, 3) := by decide +kernel
theorem dX6_keep_5 : decode cX6_keep 5 = .ok (.aload_n 0, 1) := by decide +kernel
theorem dX6_keep_6 : decode cX6_keep 6 = .ok (.getfield 90, 3) := by decide +kernel
theorem dX6_keep_9 : decode cX6_keep 9 = .ok (.bipush 10, 2) := by decide +kernel
theorem dX6_keep_11 : decode cX6_keep 11 = .ok (.if_icmp .ne 5, 3) := by decide +kernel
theorem dX6_keep_14 : decode cX6_keep 14 = .ok (.iconst (-1), 1) := by decide +kernel
theorem dX6_keep_15 : decode cX6_keep 15 = .ok (.ireturn, 1) := by decide +kernel
theorem dX6_keep_16 : decode cX6_keep 16 = .ok (.iconst 0, 1) := by decide +kernel
theorem dX6_keep_17 : decode cX6_keep 17 = .ok (.istore_n 1, 1) := by decide +kernel
theorem dX6_keep_18 : decode cX6_keep 18 = .ok (.iload_n 1, 1) := by decide +kernel
theorem dX6_keep_19 : decode cX6_keep 19 = .ok (.sipush 200, 3) := by decide +kernel
theorem dX6_keep_22 : decode cX6_keep 22 = .ok (.if_icmp .ge 84, 3) := by decide +kernel
theorem dX6_keep_25 : decode cX6_keep 25 = .ok (.aload_n 0, 1) := by decide +kernel
theorem dX6_keep_26 : decode cX6_keep 26 = .ok (.getfield 19, 3) := by decide +kernel
theorem dX6_keep_29 : decode cX6_keep 29 = .ok (.sipush 200, 3) := by decide +kernel
theorem dX6_keep_32 : decode cX6_keep 32 = .ok (.aload_n 0, 1) := by decide +kernel
theorem dX6_keep_33 : decode cX6_keep 33 = .ok (.getfield 90, 3) := by decide +kernel
theorem dX6_keep_36 : decode cX6_keep 36 = .ok (.imul, 1) := by decide +kernel
theorem dX6_keep_37 : decode cX6_keep 37 = .ok (.iload_n 1, 1) := by decide +kernel
theorem dX6_keep_38 : decode cX6_keep 38 = .ok (.iadd, 1) := by decide +kernel
theorem dX6_keep_39 : decode cX6_keep 39 = .ok (.aload_n 0, 1) := by decide +kernel
theorem dX6_keep_40 : decode cX6_keep 40 = .ok (.getfield 19, 3) := by decide +kernel
theorem dX6_keep_43 : decode cX6_keep 43 = .ok (.sipush 2000, 3) := by decide +kernel
theorem dX6_keep_46 : decode cX6_keep 46 = .ok (.iload_n 1, 1) := by decide +kernel
theorem dX6_keep_47 : decode cX6_keep 47 = .ok (.iadd, 1) := by decide +kernel
theorem dX6_keep_48 : decode cX6_keep 48 = .ok (.iaload, 1) := by decide +kernel
theorem dX6_keep_49 : decode cX6_keep 49 = .ok (.iastore, 1) := by decide +kernel
theorem dX6_keep_50 : decode cX6_keep 50 = .ok (.aload_n 0, 1) := by decide +kernel
theorem dX6_keep_51 : decode cX6_keep 51 = .ok (.getfield 22, 3) := by decide +kernel
theorem dX6_keep_54 : decode cX6_keep 54 = .ok (.sipush 200, 3) := by decide +kernel
theorem dX6_keep_57 : decode cX6_keep 57 = .ok (.aload_n 0, 1) := by decide +kernel
theorem dX6_keep_58 : decode cX6_keep 58 = .ok (.getfield 90, 3) := by decide +kernel
theorem dX6_keep_61 : decode cX6_keep 61 = .ok (.imul, 1) := by decide +kernel
theorem dX6_keep_62 : decode cX6_keep 62 = .ok (.iload_n 1, 1) := by decide +kernel
theorem dX6_keep_63 : decode cX6_keep 63 = .ok (.iadd, 1) := by decide +kernel
theorem dX6_keep_64 : decode cX6_keep 64 = .ok (.aload_n 0, 1) := by decide +kernel
theorem dX6_keep_65 : decode cX6_keep 65 = .ok (.getfield 22, 3) := by decide +kernel
theorem dX6_keep_68 : decode cX6_keep 68 = .ok (.sipush 2000, 3) := by decide +kernel
theorem dX6_keep_71 : decode cX6_keep 71 = .ok (.iload_n 1, 1) := by decide +kernel
theorem dX6_keep_72 : decode cX6_keep 72 = .ok (.iadd, 1) := by decide +kernel
theorem dX6_keep_73 : decode cX6_keep 73 = .ok (.iaload, 1) := by decide +kernel
theorem dX6_keep_74 : decode cX6_keep 74 = .ok (.iastore, 1) := by decide +kernel
theorem dX6_keep_75 : decode cX6_keep 75 = .ok (.aload_n 0, 1) := by decide +kernel
theorem dX6_keep_76 : decode cX6_keep 76 = .ok (.getfield 25, 3) := by decide +kernel
theorem dX6_keep_79 : decode cX6_keep 79 = .ok (.sipush 200, 3) := by decide +kernel
theorem dX6_keep_82 : decode cX6_keep 82 = .ok (.aload_n 0, 1) := by decide +kernel
theorem dX6_keep_83 : decode cX6_keep 83 = .ok (.getfield 90, 3) := by decide +kernel
theorem dX6_keep_86 : decode cX6_keep 86 = .ok (.imul, 1) := by decide +kernel
theorem dX6_keep_87 : decode cX6_keep 87 = .ok (.iload_n 1, 1) := by decide +kernel
theorem dX6_keep_88 : decode cX6_keep 88 = .ok (.iadd, 1) := by decide +kernel
theorem dX6_keep_89 : decode cX6_keep 89 = .ok (.aload_n 0, 1) := by decide +kernel
theorem dX6_keep_90 : decode cX6_keep 90 = .ok (.getfield 25, 3) := by decide +kernel
theorem dX6_keep_93 : decode cX6_keep 93 = .ok (.sipush 2000, 3) := by decide +kernel
theorem dX6_keep_96 : decode cX6_keep 96 = .ok (.iload_n 1, 1) := by decide +kernel
theorem dX6_keep_97 : decode cX6_keep 97 = .ok (.iadd, 1) := by decide +kernel
theorem dX6_keep_98 : decode cX6_keep 98 = .ok (.iaload, 1) := by decide +kernel
theorem dX6_keep_99 : decode cX6_keep 99 = .ok (.iastore, 1) := by decide +kernel
theorem dX6_keep_100 : decode cX6_keep 100 = .ok (.iinc 1 1, 3) := by decide +kernel
theorem dX6_keep_103 : decode cX6_keep 103 = .ok (.goto (-85), 3) := by decide +kernel
theorem dX6_keep_106 : decode cX6_keep 106 = .ok (.aload_n 0, 1) := by decide +kernel
theorem dX6_keep_107 : decode cX6_keep 107 = .ok (.getfield 16, 3) := by decide +kernel
theorem dX6_keep_110 : decode cX6_keep 110 = .ok (.aload_n 0, 1) := by decide +kernel
theorem dX6_keep_111 : decode cX6_keep 111 = .ok (.getfield 90, 3) := by decide +kernel
theorem dX6_keep_114 : decode cX6_keep 114 = .ok (.aload_n 0, 1) := by decide +kernel
theorem dX6_keep_115 : decode cX6_keep 115 = .ok (.invokevirtual 53, 3) := by decide +kernel
theorem dX6_keep_118 : decode cX6_keep 118 = .ok (.iastore, 1) := by decide +kernel
theorem dX6_keep_119 : decode cX6_keep 119 = .ok (.aload_n 0, 1) := by decide +kernel
theorem dX6_keep_120 : decode cX6_keep 120 = .ok (.dup, 1) := by decide +kernel
theorem dX6_keep_121 : decode cX6_keep 121 = .ok (.getfield 90, 3) := by decide +kernel
theorem dX6_keep_124 : decode cX6_keep 124 = .ok (.iconst 1, 1) := by decide +kernel
theorem dX6_keep_125 : decode cX6_keep 125 = .ok (.iadd, 1) := by decide +kernel
theorem dX6_keep_126 : decode cX6_keep 126 = .ok (.putfield 90, 3) := by decide +kernel
theorem dX6_keep_129 : decode cX6_keep 129 = .ok (.aload_n 0, 1) := by decide +kernel
theorem dX6_keep_130 : decode cX6_keep 130 = .ok (.getfield 90, 3) := by decide +kernel
theorem dX6_keep_133 : decode cX6_keep 133 = .ok (.iconst 1, 1) := by decide +kernel
theorem dX6_keep_134 : decode cX6_keep 134 = .ok (.isub, 1) := by decide +kernel
theorem dX6_keep_135 : decode cX6_keep 135 = .ok (.ireturn, 1) := by decide +kernel
theorem dX6_way_0 : decode cX6_way 0 = .ok (.lload_n 0, 1) := by decide +kernel
theorem dX6_way_1 : decode cX6_way 1 = .ok (.lload_n 2, 1) := by decide +kernel
theorem dX6_way_2 : decode cX6_way 2 = .ok (.lcmp, 1) := by decide +kernel
theorem dX6_way_3 : decode cX6_way 3 = .ok (.ifCond .ge 7, 3) := by decide +kernel
theorem dX6_way_6 : decode cX6_way 6 = .ok (.iconst (-1), 1) := by decide +kernel
theorem dX6_way_7 : decode cX6_way 7 = .ok (.goto 14, 3) := by decide +kernel
theorem dX6_way_10 : decode cX6_way 10 = .ok (.lload_n 0, 1) := by decide +kernel
theorem dX6_way_11 : decode cX6_way 11 = .ok (.lload_n 2, 1) := by decide +kernel
theorem dX6_way_12 : decode cX6_way 12 = .ok (.lcmp, 1) := by decide +kernel
theorem dX6_way_13 : decode cX6_way 13 = .ok (.ifCond .le 7, 3) := by decide +kernel
theorem dX6_way_16 : decode cX6_way 16 = .ok (.iconst 1, 1) := by decide +kernel
theorem dX6_way_17 : decode cX6_way 17 = .ok (.goto 4, 3) := by decide +kernel
theorem dX6_way_20 : decode cX6_way 20 = .ok (.iconst 0, 1) := by decide +kernel
theorem dX6_way_21 : decode cX6_way 21 = .ok (.ireturn, 1) := by decide +kernel
theorem dX6_compare_0 : decode cX6_compare 0 = .ok (.aload_n 0, 1) := by decide +kernel
theorem dX6_compare_1 : decode cX6_compare 1 = .ok (.iconst 0, 1) := by decide +kernel
theorem dX6_compare_2 : decode cX6_compare 2 = .ok (.putfield 45, 3) := by decide +kernel
theorem dX6_compare_5 : decode cX6_compare 5 = .ok (.iload_n 1, 1) := by decide +kernel
theorem dX6_compare_6 : decode cX6_compare 6 = .ok (.ifCond .lt 11, 3) := by decide +kernel
theorem dX6_compare_9 : decode cX6_compare 9 = .ok (.iload_n 1, 1) := by decide +kernel
theorem dX6_compare_10 : decode cX6_compare 10 = .ok (.aload_n 0, 1) := by decide +kernel
theorem dX6_compare_11 : decode cX6_compare 11 = .ok (.getfield 90, 3) := by decide +kernel
theorem dX6_compare_14 : decode cX6_compare 14 = .ok (.if_icmp .lt 6, 3) := by decide +kernel
theorem dX6_compare_17 : decode cX6_compare 17 = .ok (.bipush (-2), 2) := by decide +kernel
theorem dX6_compare_19 : decode cX6_compare 19 = .ok (.ireturn, 1) := by decide +kernel
theorem dX6_compare_20 : decode cX6_compare 20 = .ok (.aload_n 0, 1) := by decide +kernel
theorem dX6_compare_21 : decode cX6_compare 21 = .ok (.invokevirtual 82, 3) := by decide +kernel
theorem dX6_compare_24 : decode cX6_compare 24 = .ok (.lstore_n 2, 1) := by decide +kernel
theorem dX6_compare_25 : decode cX6_compare 25 = .ok (.aload_n 0, 1) := by decide +kernel
theorem dX6_compare_26 : decode cX6_compare 26 = .ok (.iload_n 1, 1) := by decide +kernel
theorem dX6_compare_27 : decode cX6_compare 27 = .ok (.sipush 200, 3) := by decide +kernel
theorem dX6_compare_30 : decode cX6_compare 30 = .ok (.invokevirtual 72, 3) := by decide +kernel
theorem dX6_compare_33 : decode cX6_compare 33 = .ok (.lstore 4, 2) := by decide +kernel
theorem dX6_compare_35 : decode cX6_compare 35 = .ok (.lload_n 2, 1) := by decide +kernel
theorem dX6_compare_36 : decode cX6_compare 36 = .ok (.lload 4, 2) := by decide +kernel
theorem dX6_compare_38 : decode cX6_compare 38 = .ok (.lcmp, 1) := by decide +kernel
theorem dX6_compare_39 : decode cX6_compare 39 = .ok (.ifCond .eq 10, 3) := by decide +kernel
theorem dX6_compare_42 : decode cX6_compare 42 = .ok (.lload_n 2, 1) := by decide +kernel
theorem dX6_compare_43 : decode cX6_compare 43 = .ok (.lload 4, 2) := by decide +kernel
theorem dX6_compare_45 : decode cX6_compare 45 = .ok (.invokestatic 93, 3) := by decide +kernel
theorem dX6_compare_48 : decode cX6_compare 48 = .ok (.ireturn, 1) := by decide +kernel
theorem dX6_compare_49 : decode cX6_compare 49 = .ok (.aload_n 0, 1) := by decide +kernel
theorem dX6_compare_50 : decode cX6_compare 50 = .ok (.invokevirtual 53, 3) := by decide +kernel
theorem dX6_compare_53 : decode cX6_compare 53 = .ok (.aload_n 0, 1) := by decide +kernel
theorem dX6_compare_54 : decode cX6_compare 54 = .ok (.getfield 16, 3) := by decide +kernel
theorem dX6_compare_57 : decode cX6_compare 57 = .ok (.iload_n 1, 1) := by decide +kernel
theorem dX6_compare_58 : decode cX6_compare 58 = .ok (.iaload, 1) := by decide +kernel
theorem dX6_compare_59 : decode cX6_compare 59 = .ok (.if_icmp .eq 19, 3) := by decide +kernel
theorem dX6_compare_62 : decode cX6_compare 62 = .ok (.aload_n 0, 1) := by decide +kernel
theorem dX6_compare_63 : decode cX6_compare 63 = .ok (.invokevirtual 53, 3) := by decide +kernel
theorem dX6_compare_66 : decode cX6_compare 66 = .ok (.i2l, 1) := by decide +kernel
theorem dX6_compare_67 : decode cX6_compare 67 = .ok (.aload_n 0, 1) := by decide +kernel
theorem dX6_compare_68 : decode cX6_compare 68 = .ok (.getfield 16, 3) := by decide +kernel
theorem dX6_compare_71 : decode cX6_compare 71 = .ok (.iload_n 1, 1) := by decide +kernel
theorem dX6_compare_72 : decode cX6_compare 72 = .ok (.iaload, 1) := by decide +kernel
theorem dX6_compare_73 : decode cX6_compare 73 = .ok (.i2l, 1) := by decide +kernel
theorem dX6_compare_74 : decode cX6_compare 74 = .ok (.invokestatic 93, 3) := by decide +kernel
theorem dX6_compare_77 : decode cX6_compare 77 = .ok (.ireturn, 1) := by decide +kernel
theorem dX6_compare_78 : decode cX6_compare 78 = .ok (.iconst 0, 1) := by decide +kernel
theorem dX6_compare_79 : decode cX6_compare 79 = .ok (.istore 6, 2) := by decide +kernel
theorem dX6_compare_81 : decode cX6_compare 81 = .ok (.iload 6, 2) := by decide +kernel
theorem dX6_compare_83 : decode cX6_compare 83 = .ok (.aload_n 0, 1) := by decide +kernel
theorem dX6_compare_84 : decode cX6_compare 84 = .ok (.invokevirtual 53, 3) := by decide +kernel
theorem dX6_compare_87 : decode cX6_compare 87 = .ok (.if_icmp .ge 38, 3) := by decide +kernel
theorem dX6_compare_90 : decode cX6_compare 90 = .ok (.aload_n 0, 1) := by decide +kernel
theorem dX6_compare_91 : decode cX6_compare 91 = .ok (.getfield 39, 3) := by decide +kernel
theorem dX6_compare_94 : decode cX6_compare 94 = .ok (.iload 6, 2) := by decide +kernel
theorem dX6_compare_96 : decode cX6_compare 96 = .ok (.aload_n 0, 1) := by decide +kernel
theorem dX6_compare_97 : decode cX6_compare 97 = .ok (.bipush 10, 2) := by decide +kernel
theorem dX6_compare_99 : decode cX6_compare 99 = .ok (.iload 6, 2) := by decide +kernel
theorem dX6_compare_101 : decode cX6_compare 101 = .ok (.invokevirtual 68, 3) := by decide +kernel
theorem dX6_compare_104 : decode cX6_compare 104 = .ok (.lastore, 1) := by decide +kernel
theorem dX6_compare_105 : decode cX6_compare 105 = .ok (.aload_n 0, 1) := by decide +kernel
theorem dX6_compare_106 : decode cX6_compare 106 = .ok (.getfield 42, 3) := by decide +kernel
theorem dX6_compare_109 : decode cX6_compare 109 = .ok (.iload 6, 2) := by decide +kernel
theorem dX6_compare_111 : decode cX6_compare 111 = .ok (.aload_n 0, 1) := by decide +kernel
theorem dX6_compare_112 : decode cX6_compare 112 = .ok (.iload_n 1, 1) := by decide +kernel
theorem dX6_compare_113 : decode cX6_compare 113 = .ok (.iload 6, 2) := by decide +kernel
theorem dX6_compare_115 : decode cX6_compare 115 = .ok (.invokevirtual 68, 3) := by decide +kernel
theorem dX6_compare_118 : decode cX6_compare 118 = .ok (.lastore, 1) := by decide +kernel
theorem dX6_compare_119 : decode cX6_compare 119 = .ok (.iinc 6 1, 3) := by decide +kernel
theorem dX6_compare_122 : decode cX6_compare 122 = .ok (.goto (-41), 3) := by decide +kernel
theorem dX6_compare_125 : decode cX6_compare 125 = .ok (.iconst 0, 1) := by decide +kernel
theorem dX6_compare_126 : decode cX6_compare 126 = .ok (.istore 6, 2) := by decide +kernel
theorem dX6_compare_128 : decode cX6_compare 128 = .ok (.iload 6, 2) := by decide +kernel
theorem dX6_compare_130 : decode cX6_compare 130 = .ok (.aload_n 0, 1) := by decide +kernel
theorem dX6_compare_131 : decode cX6_compare 131 = .ok (.invokevirtual 53, 3) := by decide +kernel
theorem dX6_compare_134 : decode cX6_compare 134 = .ok (.if_icmp .ge 143, 3) := by decide +kernel
theorem dX6_compare_137 : decode cX6_compare 137 = .ok (.iconst 0, 1) := by decide +kernel
theorem dX6_compare_138 : decode cX6_compare 138 = .ok (.istore 7, 2) := by decide +kernel
theorem dX6_compare_140 : decode cX6_compare 140 = .ok (.iconst 0, 1) := by decide +kernel
theorem dX6_compare_141 : decode cX6_compare 141 = .ok (.istore 8, 2) := by decide +kernel
theorem dX6_compare_143 : decode cX6_compare 143 = .ok (.iconst 1, 1) := by decide +kernel
theorem dX6_compare_144 : decode cX6_compare 144 = .ok (.istore 9, 2) := by decide +kernel
theorem dX6_compare_146 : decode cX6_compare 146 = .ok (.iload 9, 2) := by decide +kernel
theorem dX6_compare_148 : decode cX6_compare 148 = .ok (.aload_n 0, 1) := by decide +kernel
theorem dX6_compare_149 : decode cX6_compare 149 = .ok (.invokevirtual 53, 3) := by decide +kernel
theorem dX6_compare_152 : decode cX6_compare 152 = .ok (.if_icmp .ge 63, 3) := by decide +kernel
theorem dX6_compare_155 : decode cX6_compare 155 = .ok (.aload_n 0, 1) := by decide +kernel
theorem dX6_compare_156 : decode cX6_compare 156 = .ok (.getfield 39, 3) := by decide +kernel
theorem dX6_compare_159 : decode cX6_compare 159 = .ok (.iload 9, 2) := by decide +kernel
theorem dX6_compare_161 : decode cX6_compare 161 = .ok (.laload, 1) := by decide +kernel
theorem dX6_compare_162 : decode cX6_compare 162 = .ok (.aload_n 0, 1) := by decide +kernel
theorem dX6_compare_163 : decode cX6_compare 163 = .ok (.getfield 39, 3) := by decide +kernel
theorem dX6_compare_166 : decode cX6_compare 166 = .ok (.iload 7, 2) := by decide +kernel
theorem dX6_compare_168 : decode cX6_compare 168 = .ok (.laload, 1) := by decide +kernel
theorem dX6_compare_169 : decode cX6_compare 169 = .ok (.lcmp, 1) := by decide +kernel
theorem dX6_compare_170 : decode cX6_compare 170 = .ok (.ifCond .le 8, 3) := by decide +kernel
theorem dX6_compare_173 : decode cX6_compare 173 = .ok (.iload 9, 2) := by decide +kernel
theorem dX6_compare_175 : decode cX6_compare 175 = .ok (.goto 5, 3) := by decide +kernel
theorem dX6_compare_178 : decode cX6_compare 178 = .ok (.iload 7, 2) := by decide +kernel
theorem dX6_compare_180 : decode cX6_compare 180 = .ok (.istore 7, 2) := by decide +kernel
theorem dX6_compare_182 : decode cX6_compare 182 = .ok (.aload_n 0, 1) := by decide +kernel
theorem dX6_compare_183 : decode cX6_compare 183 = .ok (.getfield 42, 3) := by decide +kernel
theorem dX6_compare_186 : decode cX6_compare 186 = .ok (.iload 9, 2) := by decide +kernel
theorem dX6_compare_188 : decode cX6_compare 188 = .ok (.laload, 1) := by decide +kernel
theorem dX6_compare_189 : decode cX6_compare 189 = .ok (.aload_n 0, 1) := by decide +kernel
theorem dX6_compare_190 : decode cX6_compare 190 = .ok (.getfield 42, 3) := by decide +kernel
theorem dX6_compare_193 : decode cX6_compare 193 = .ok (.iload 8, 2) := by decide +kernel
theorem dX6_compare_195 : decode cX6_compare 195 = .ok (.laload, 1) := by decide +kernel
theorem dX6_compare_196 : decode cX6_compare 196 = .ok (.lcmp, 1) := by decide +kernel
theorem dX6_compare_197 : decode cX6_compare 197 = .ok (.ifCond .le 8, 3) := by decide +kernel
theorem dX6_compare_200 : decode cX6_compare 200 = .ok (.iload 9, 2) := by decide +kernel
theorem dX6_compare_202 : decode cX6_compare 202 = .ok (.goto 5, 3) := by decide +kernel
theorem dX6_compare_205 : decode cX6_compare 205 = .ok (.iload 8, 2) := by decide +kernel
theorem dX6_compare_207 : decode cX6_compare 207 = .ok (.istore 8, 2) := by decide +kernel
theorem dX6_compare_209 : decode cX6_compare 209 = .ok (.iinc 9 1, 3) := by decide +kernel
theorem dX6_compare_212 : decode cX6_compare 212 = .ok (.goto (-66), 3) := by decide +kernel
theorem dX6_compare_215 : decode cX6_compare 215 = .ok (.aload_n 0, 1) := by decide +kernel
theorem dX6_compare_216 : decode cX6_compare 216 = .ok (.getfield 39, 3) := by decide +kernel
theorem dX6_compare_219 : decode cX6_compare 219 = .ok (.iload 7, 2) := by decide +kernel
theorem dX6_compare_221 : decode cX6_compare 221 = .ok (.laload, 1) := by decide +kernel
theorem dX6_compare_222 : decode cX6_compare 222 = .ok (.aload_n 0, 1) := by decide +kernel
theorem dX6_compare_223 : decode cX6_compare 223 = .ok (.getfield 42, 3) := by decide +kernel
theorem dX6_compare_226 : decode cX6_compare 226 = .ok (.iload 8, 2) := by decide +kernel
theorem dX6_compare_228 : decode cX6_compare 228 = .ok (.laload, 1) := by decide +kernel
theorem dX6_compare_229 : decode cX6_compare 229 = .ok (.lcmp, 1) := by decide +kernel
theorem dX6_compare_230 : decode cX6_compare 230 = .ok (.ifCond .eq 21, 3) := by decide +kernel
theorem dX6_compare_233 : decode cX6_compare 233 = .ok (.aload_n 0, 1) := by decide +kernel
theorem dX6_compare_234 : decode cX6_compare 234 = .ok (.getfield 39, 3) := by decide +kernel
theorem dX6_compare_237 : decode cX6_compare 237 = .ok (.iload 7, 2) := by decide +kernel
theorem dX6_compare_239 : decode cX6_compare 239 = .ok (.laload, 1) := by decide +kernel
theorem dX6_compare_240 : decode cX6_compare 240 = .ok (.aload_n 0, 1) := by decide +kernel
theorem dX6_compare_241 : decode cX6_compare 241 = .ok (.getfield 42, 3) := by decide +kernel
theorem dX6_compare_244 : decode cX6_compare 244 = .ok (.iload 8, 2) := by decide +kernel
theorem dX6_compare_246 : decode cX6_compare 246 = .ok (.laload, 1) := by decide +kernel
theorem dX6_compare_247 : decode cX6_compare 247 = .ok (.invokestatic 93, 3) := by decide +kernel
theorem dX6_compare_250 : decode cX6_compare 250 = .ok (.ireturn, 1) := by decide +kernel
theorem dX6_compare_251 : decode cX6_compare 251 = .ok (.aload_n 0, 1) := by decide +kernel
theorem dX6_compare_252 : decode cX6_compare 252 = .ok (.getfield 39, 3) := by decide +kernel
theorem dX6_compare_255 : decode cX6_compare 255 = .ok (.iload 7, 2) := by decide +kernel
theorem dX6_compare_257 : decode cX6_compare 257 = .ok (.ldc2_w 75, 3) := by decide +kernel
theorem dX6_compare_260 : decode cX6_compare 260 = .ok (.lastore, 1) := by decide +kernel
theorem dX6_compare_261 : decode cX6_compare 261 = .ok (.aload_n 0, 1) := by decide +kernel
theorem dX6_compare_262 : decode cX6_compare 262 = .ok (.getfield 42, 3) := by decide +kernel
theorem dX6_compare_265 : decode cX6_compare 265 = .ok (.iload 8, 2) := by decide +kernel
theorem dX6_compare_267 : decode cX6_compare 267 = .ok (.ldc2_w 75, 3) := by decide +kernel
theorem dX6_compare_270 : decode cX6_compare 270 = .ok (.lastore, 1) := by decide +kernel
theorem dX6_compare_271 : decode cX6_compare 271 = .ok (.iinc 6 1, 3) := by decide +kernel
theorem dX6_compare_274 : decode cX6_compare 274 = .ok (.goto (-146), 3) := by decide +kernel
theorem dX6_compare_277 : decode cX6_compare 277 = .ok (.iconst 0, 1) := by decide +kernel
theorem dX6_compare_278 : decode cX6_compare 278 = .ok (.ireturn, 1) := by decide +kernel
theorem dX6_like_0 : decode cX6_like 0 = .ok (.iconst 0, 1) := by decide +kernel
theorem dX6_like_1 : decode cX6_like 1 = .ok (.istore_n 3, 1) := by decide +kernel
theorem dX6_like_2 : decode cX6_like 2 = .ok (.sipush 2000, 3) := by decide +kernel
theorem dX6_like_5 : decode cX6_like 5 = .ok (.iload_n 2, 1) := by decide +kernel
theorem dX6_like_6 : decode cX6_like 6 = .ok (.iadd, 1) := by decide +kernel
theorem dX6_like_7 : decode cX6_like 7 = .ok (.istore 4, 2) := by decide +kernel
theorem dX6_like_9 : decode cX6_like 9 = .ok (.sipush 200, 3) := by decide +kernel
theorem dX6_like_12 : decode cX6_like 12 = .ok (.iload_n 1, 1) := by decide +kernel
theorem dX6_like_13 : decode cX6_like 13 = .ok (.imul, 1) := by decide +kernel
theorem dX6_like_14 : decode cX6_like 14 = .ok (.istore 5, 2) := by decide +kernel
theorem dX6_like_16 : decode cX6_like 16 = .ok (.iload 5, 2) := by decide +kernel
theorem dX6_like_18 : decode cX6_like 18 = .ok (.sipush 200, 3) := by decide +kernel
theorem dX6_like_21 : decode cX6_like 21 = .ok (.iload_n 1, 1) := by decide +kernel
theorem dX6_like_22 : decode cX6_like 22 = .ok (.imul, 1) := by decide +kernel
theorem dX6_like_23 : decode cX6_like 23 = .ok (.aload_n 0, 1) := by decide +kernel
theorem dX6_like_24 : decode cX6_like 24 = .ok (.getfield 16, 3) := by decide +kernel
theorem dX6_like_27 : decode cX6_like 27 = .ok (.iload_n 1, 1) := by decide +kernel
theorem dX6_like_28 : decode cX6_like 28 = .ok (.iaload, 1) := by decide +kernel
theorem dX6_like_29 : decode cX6_like 29 = .ok (.iadd, 1) := by decide +kernel
theorem dX6_like_30 : decode cX6_like 30 = .ok (.if_icmp .ge 68, 3) := by decide +kernel
theorem dX6_like_33 : decode cX6_like 33 = .ok (.iload_n 3, 1) := by decide +kernel
theorem dX6_like_34 : decode cX6_like 34 = .ok (.aload_n 0, 1) := by decide +kernel
theorem dX6_like_35 : decode cX6_like 35 = .ok (.getfield 19, 3) := by decide +kernel
theorem dX6_like_38 : decode cX6_like 38 = .ok (.iload 5, 2) := by decide +kernel
theorem dX6_like_40 : decode cX6_like 40 = .ok (.iaload, 1) := by decide +kernel
theorem dX6_like_41 : decode cX6_like 41 = .ok (.aload_n 0, 1) := by decide +kernel
theorem dX6_like_42 : decode cX6_like 42 = .ok (.getfield 19, 3) := by decide +kernel
theorem dX6_like_45 : decode cX6_like 45 = .ok (.iload 4, 2) := by decide +kernel
theorem dX6_like_47 : decode cX6_like 47 = .ok (.iaload, 1) := by decide +kernel
theorem dX6_like_48 : decode cX6_like 48 = .ok (.if_icmp .ne 41, 3) := by decide +kernel
theorem dX6_like_51 : decode cX6_like 51 = .ok (.aload_n 0, 1) := by decide +kernel
theorem dX6_like_52 : decode cX6_like 52 = .ok (.getfield 22, 3) := by decide +kernel
theorem dX6_like_55 : decode cX6_like 55 = .ok (.iload 5, 2) := by decide +kernel
theorem dX6_like_57 : decode cX6_like 57 = .ok (.iaload, 1) := by decide +kernel
theorem dX6_like_58 : decode cX6_like 58 = .ok (.aload_n 0, 1) := by decide +kernel
theorem dX6_like_59 : decode cX6_like 59 = .ok (.getfield 22, 3) := by decide +kernel
theorem dX6_like_62 : decode cX6_like 62 = .ok (.iload 4, 2) := by decide +kernel
theorem dX6_like_64 : decode cX6_like 64 = .ok (.iaload, 1) := by decide +kernel
theorem dX6_like_65 : decode cX6_like 65 = .ok (.if_icmp .ne 24, 3) := by decide +kernel
theorem dX6_like_68 : decode cX6_like 68 = .ok (.aload_n 0, 1) := by decide +kernel
theorem dX6_like_69 : decode cX6_like 69 = .ok (.getfield 25, 3) := by decide +kernel
theorem dX6_like_72 : decode cX6_like 72 = .ok (.iload 5, 2) := by decide +kernel
theorem dX6_like_74 : decode cX6_like 74 = .ok (.iaload, 1) := by decide +kernel
theorem dX6_like_75 : decode cX6_like 75 = .ok (.aload_n 0, 1) := by decide +kernel
theorem dX6_like_76 : decode cX6_like 76 = .ok (.getfield 25, 3) := by decide +kernel
theorem dX6_like_79 : decode cX6_like 79 = .ok (.iload 4, 2) := by decide +kernel
theorem dX6_like_81 : decode cX6_like 81 = .ok (.iaload, 1) := by decide +kernel
theorem dX6_like_82 : decode cX6_like 82 = .ok (.if_icmp .ne 7, 3) := by decide +kernel
theorem dX6_like_85 : decode cX6_like 85 = .ok (.iconst 1, 1) := by decide +kernel
theorem dX6_like_86 : decode cX6_like 86 = .ok (.goto 4, 3) := by decide +kernel
theorem dX6_like_89 : decode cX6_like 89 = .ok (.iconst 0, 1) := by decide +kernel
theorem dX6_like_90 : decode cX6_like 90 = .ok (.iadd, 1) := by decide +kernel
theorem dX6_like_91 : decode cX6_like 91 = .ok (.istore_n 3, 1) := by decide +kernel
theorem dX6_like_92 : decode cX6_like 92 = .ok (.iinc 5 1, 3) := by decide +kernel
theorem dX6_like_95 : decode cX6_like 95 = .ok (.goto (-79), 3) := by decide +kernel
theorem dX6_like_98 : decode cX6_like 98 = .ok (.iload_n 3, 1) := by decide +kernel
theorem dX6_like_99 : decode cX6_like 99 = .ok (.ireturn, 1) := by decide +kernel
theorem dX6_same_0 : decode cX6_same 0 = .ok (.aload_n 0, 1) := by decide +kernel
theorem dX6_same_1 : decode cX6_same 1 = .ok (.iconst 0, 1) := by decide +kernel
theorem dX6_same_2 : decode cX6_same 2 = .ok (.putfield 45, 3) := by decide +kernel
theorem dX6_same_5 : decode cX6_same 5 = .ok (.iload_n 1, 1) := by decide +kernel
theorem dX6_same_6 : decode cX6_same 6 = .ok (.ifCond .lt 24, 3) := by decide +kernel
theorem dX6_same_9 : decode cX6_same 9 = .ok (.iload_n 1, 1) := by decide +kernel
theorem dX6_same_10 : decode cX6_same 10 = .ok (.aload_n 0, 1) := by decide +kernel
theorem dX6_same_11 : decode cX6_same 11 = .ok (.getfield 90, 3) := by decide +kernel
theorem dX6_same_14 : decode cX6_same 14 = .ok (.if_icmp .ge 16, 3) := by decide +kernel
theorem dX6_same_17 : decode cX6_same 17 = .ok (.aload_n 0, 1) := by decide +kernel
theorem dX6_same_18 : decode cX6_same 18 = .ok (.getfield 16, 3) := by decide +kernel
theorem dX6_same_21 : decode cX6_same 21 = .ok (.iload_n 1, 1) := by decide +kernel
theorem dX6_same_22 : decode cX6_same 22 = .ok (.iaload, 1) := by decide +kernel
theorem dX6_same_23 : decode cX6_same 23 = .ok (.aload_n 0, 1) := by decide +kernel
theorem dX6_same_24 : decode cX6_same 24 = .ok (.invokevirtual 53, 3) := by decide +kernel
theorem dX6_same_27 : decode cX6_same 27 = .ok (.if_icmp .eq 5, 3) := by decide +kernel
theorem dX6_same_30 : decode cX6_same 30 = .ok (.iconst 0, 1) := by decide +kernel
theorem dX6_same_31 : decode cX6_same 31 = .ok (.ireturn, 1) := by decide +kernel
theorem dX6_same_32 : decode cX6_same 32 = .ok (.iconst 0, 1) := by decide +kernel
theorem dX6_same_33 : decode cX6_same 33 = .ok (.istore_n 2, 1) := by decide +kernel
theorem dX6_same_34 : decode cX6_same 34 = .ok (.iload_n 2, 1) := by decide +kernel
theorem dX6_same_35 : decode cX6_same 35 = .ok (.aload_n 0, 1) := by decide +kernel
theorem dX6_same_36 : decode cX6_same 36 = .ok (.invokevirtual 53, 3) := by decide +kernel
theorem dX6_same_39 : decode cX6_same 39 = .ok (.if_icmp .ge 27, 3) := by decide +kernel
theorem dX6_same_42 : decode cX6_same 42 = .ok (.aload_n 0, 1) := by decide +kernel
theorem dX6_same_43 : decode cX6_same 43 = .ok (.iload_n 1, 1) := by decide +kernel
theorem dX6_same_44 : decode cX6_same 44 = .ok (.iload_n 2, 1) := by decide +kernel
theorem dX6_same_45 : decode cX6_same 45 = .ok (.invokevirtual 97, 3) := by decide +kernel
theorem dX6_same_48 : decode cX6_same 48 = .ok (.aload_n 0, 1) := by decide +kernel
theorem dX6_same_49 : decode cX6_same 49 = .ok (.bipush 10, 2) := by decide +kernel
theorem dX6_same_51 : decode cX6_same 51 = .ok (.iload_n 2, 1) := by decide +kernel
theorem dX6_same_52 : decode cX6_same 52 = .ok (.invokevirtual 97, 3) := by decide +kernel
theorem dX6_same_55 : decode cX6_same 55 = .ok (.if_icmp .eq 5, 3) := by decide +kernel
theorem dX6_same_58 : decode cX6_same 58 = .ok (.iconst 0, 1) := by decide +kernel
theorem dX6_same_59 : decode cX6_same 59 = .ok (.ireturn, 1) := by decide +kernel
theorem dX6_same_60 : decode cX6_same 60 = .ok (.iinc 2 1, 3) := by decide +kernel
theorem dX6_same_63 : decode cX6_same 63 = .ok (.goto (-29), 3) := by decide +kernel
theorem dX6_same_66 : decode cX6_same 66 = .ok (.iconst 1, 1) := by decide +kernel
theorem dX6_same_67 : decode cX6_same 67 = .ok (.ireturn, 1) := by decide +kernel
