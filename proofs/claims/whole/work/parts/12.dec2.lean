theorem dX2_init_0 : decode cX2_init 0 = .ok (.aload_n 0, 1) := by decide +kernel
theorem dX2_init_1 : decode cX2_init 1 = .ok (.invokespecial 3, 3) := by decide +kernel
theorem dX2_init_4 : decode cX2_init 4 = .ok (.aload_n 0, 1) := by decide +kernel
theorem dX2_init_5 : decode cX2_init 5 = .ok (.bipush 40, 2) := by decide +kernel
theorem dX2_init_7 : decode cX2_init 7 = .ok (.newarray .int, 2) := by decide +kernel
theorem dX2_init_9 : decode cX2_init 9 = .ok (.putfield 9, 3) := by decide +kernel
theorem dX2_init_12 : decode cX2_init 12 = .ok (.aload_n 0, 1) := by decide +kernel
theorem dX2_init_13 : decode cX2_init 13 = .ok (.bipush 40, 2) := by decide +kernel
theorem dX2_init_15 : decode cX2_init 15 = .ok (.newarray .int, 2) := by decide +kernel
theorem dX2_init_17 : decode cX2_init 17 = .ok (.putfield 15, 3) := by decide +kernel
theorem dX2_init_20 : decode cX2_init 20 = .ok (.aload_n 0, 1) := by decide +kernel
theorem dX2_init_21 : decode cX2_init 21 = .ok (.bipush 40, 2) := by decide +kernel
theorem dX2_init_23 : decode cX2_init 23 = .ok (.newarray .int, 2) := by decide +kernel
theorem dX2_init_25 : decode cX2_init 25 = .ok (.putfield 18, 3) := by decide +kernel
theorem dX2_init_28 : decode cX2_init 28 = .ok (.aload_n 0, 1) := by decide +kernel
theorem dX2_init_29 : decode cX2_init 29 = .ok (.bipush 40, 2) := by decide +kernel
theorem dX2_init_31 : decode cX2_init 31 = .ok (.newarray .long, 2) := by decide +kernel
theorem dX2_init_33 : decode cX2_init 33 = .ok (.putfield 21, 3) := by decide +kernel
theorem dX2_init_36 : decode cX2_init 36 = .ok (.aload_n 0, 1) := by decide +kernel
theorem dX2_init_37 : decode cX2_init 37 = .ok (.iconst 0, 1) := by decide +kernel
theorem dX2_init_38 : decode cX2_init 38 = .ok (.putfield 25, 3) := by decide +kernel
theorem dX2_init_41 : decode cX2_init 41 = .ok (.return_, 1) := by decide +kernel
theorem dX2_has_0 : decode cX2_has 0 = .ok (.iload_n 1, 1) := by decide +kernel
theorem dX2_has_1 : decode cX2_has 1 = .ok (.ifCond .lt 15, 3) := by decide +kernel
theorem dX2_has_4 : decode cX2_has 4 = .ok (.iload_n 1, 1) := by decide +kernel
theorem dX2_has_5 : decode cX2_has 5 = .ok (.aload_n 0, 1) := by decide +kernel
theorem dX2_has_6 : decode cX2_has 6 = .ok (.getfield 25, 3) := by decide +kernel
theorem dX2_has_9 : decode cX2_has 9 = .ok (.if_icmp .ge 7, 3) := by decide +kernel
theorem dX2_has_12 : decode cX2_has 12 = .ok (.iconst 1, 1) := by decide +kernel
theorem dX2_has_13 : decode cX2_has 13 = .ok (.goto 4, 3) := by decide +kernel
theorem dX2_has_16 : decode cX2_has 16 = .ok (.iconst 0, 1) := by decide +kernel
theorem dX2_has_17 : decode cX2_has 17 = .ok (.ireturn, 1) := by decide +kernel
theorem dX2_add_0 : decode cX2_add 0 = .ok (.aload_n 0, 1) := by decide +kernel
theorem dX2_add_1 : decode cX2_add 1 = .ok (.getfield 25, 3) := by decide +kernel
theorem dX2_add_4 : decode cX2_add 4 = .ok (.bipush 40, 2) := by decide +kernel
theorem dX2_add_6 : decode cX2_add 6 = .ok (.if_icmp .lt 5, 3) := by decide +kernel
theorem dX2_add_9 : decode cX2_add 9 = .ok (.iconst (-1), 1) := by decide +kernel
theorem dX2_add_10 : decode cX2_add 10 = .ok (.ireturn, 1) := by decide +kernel
theorem dX2_add_11 : decode cX2_add 11 = .ok (.aload_n 0, 1) := by decide +kernel
theorem dX2_add_12 : decode cX2_add 12 = .ok (.getfield 9, 3) := by decide +kernel
theorem dX2_add_15 : decode cX2_add 15 = .ok (.aload_n 0, 1) := by decide +kernel
theorem dX2_add_16 : decode cX2_add 16 = .ok (.getfield 25, 3) := by decide +kernel
theorem dX2_add_19 : decode cX2_add 19 = .ok (.iload_n 1, 1) := by decide +kernel
theorem dX2_add_20 : decode cX2_add 20 = .ok (.iastore, 1) := by decide +kernel
theorem dX2_add_21 : decode cX2_add 21 = .ok (.aload_n 0, 1) := by decide +kernel
theorem dX2_add_22 : decode cX2_add 22 = .ok (.getfield 15, 3) := by decide +kernel
theorem dX2_add_25 : decode cX2_add 25 = .ok (.aload_n 0, 1) := by decide +kernel
theorem dX2_add_26 : decode cX2_add 26 = .ok (.getfield 25, 3) := by decide +kernel
theorem dX2_add_29 : decode cX2_add 29 = .ok (.iload_n 2, 1) := by decide +kernel
theorem dX2_add_30 : decode cX2_add 30 = .ok (.iastore, 1) := by decide +kernel
theorem dX2_add_31 : decode cX2_add 31 = .ok (.aload_n 0, 1) := by decide +kernel
theorem dX2_add_32 : decode cX2_add 32 = .ok (.dup, 1) := by decide +kernel
theorem dX2_add_33 : decode cX2_add 33 = .ok (.getfield 25, 3) := by decide +kernel
theorem dX2_add_36 : decode cX2_add 36 = .ok (.iconst 1, 1) := by decide +kernel
theorem dX2_add_37 : decode cX2_add 37 = .ok (.iadd, 1) := by decide +kernel
theorem dX2_add_38 : decode cX2_add 38 = .ok (.putfield 25, 3) := by decide +kernel
theorem dX2_add_41 : decode cX2_add 41 = .ok (.aload_n 0, 1) := by decide +kernel
theorem dX2_add_42 : decode cX2_add 42 = .ok (.getfield 25, 3) := by decide +kernel
theorem dX2_add_45 : decode cX2_add 45 = .ok (.iconst 1, 1) := by decide +kernel
theorem dX2_add_46 : decode cX2_add 46 = .ok (.isub, 1) := by decide +kernel
theorem dX2_add_47 : decode cX2_add 47 = .ok (.ireturn, 1) := by decide +kernel
theorem dX2_priceOfNext_0 : decode cX2_priceOfNext 0 = .ok (.aload_n 0, 1) := by decide +kernel
theorem dX2_priceOfNext_1 : decode cX2_priceOfNext 1 = .ok (.iload_n 1, 1) := by decide +kernel
theorem dX2_priceOfNext_2 : decode cX2_priceOfNext 2 = .ok (.invokevirtual 29, 3) := by decide +kernel
theorem dX2_priceOfNext_5 : decode cX2_priceOfNext 5 = .ok (.ifCond .ne 5, 3) := by decide +kernel
theorem dX2_priceOfNext_8 : decode cX2_priceOfNext 8 = .ok (.iconst 0, 1) := by decide +kernel
theorem dX2_priceOfNext_9 : decode cX2_priceOfNext 9 = .ok (.ireturn, 1) := by decide +kernel
theorem dX2_priceOfNext_10 : decode cX2_priceOfNext 10 = .ok (.aload_n 0, 1) := by decide +kernel
theorem dX2_priceOfNext_11 : decode cX2_priceOfNext 11 = .ok (.getfield 9, 3) := by decide +kernel
theorem dX2_priceOfNext_14 : decode cX2_priceOfNext 14 = .ok (.iload_n 1, 1) := by decide +kernel
theorem dX2_priceOfNext_15 : decode cX2_priceOfNext 15 = .ok (.iaload, 1) := by decide +kernel
theorem dX2_priceOfNext_16 : decode cX2_priceOfNext 16 = .ok (.bipush 12, 2) := by decide +kernel
theorem dX2_priceOfNext_18 : decode cX2_priceOfNext 18 = .ok (.iload_n 2, 1) := by decide +kernel
theorem dX2_priceOfNext_19 : decode cX2_priceOfNext 19 = .ok (.isub, 1) := by decide +kernel
theorem dX2_priceOfNext_20 : decode cX2_priceOfNext 20 = .ok (.imul, 1) := by decide +kernel
theorem dX2_priceOfNext_21 : decode cX2_priceOfNext 21 = .ok (.iconst 4, 1) := by decide +kernel
theorem dX2_priceOfNext_22 : decode cX2_priceOfNext 22 = .ok (.idiv, 1) := by decide +kernel
theorem dX2_priceOfNext_23 : decode cX2_priceOfNext 23 = .ok (.istore_n 3, 1) := by decide +kernel
theorem dX2_priceOfNext_24 : decode cX2_priceOfNext 24 = .ok (.aload_n 0, 1) := by decide +kernel
theorem dX2_priceOfNext_25 : decode cX2_priceOfNext 25 = .ok (.getfield 18, 3) := by decide +kernel
theorem dX2_priceOfNext_28 : decode cX2_priceOfNext 28 = .ok (.iload_n 1, 1) := by decide +kernel
theorem dX2_priceOfNext_29 : decode cX2_priceOfNext 29 = .ok (.iaload, 1) := by decide +kernel
theorem dX2_priceOfNext_30 : decode cX2_priceOfNext 30 = .ok (.ifCond .ne 14, 3) := by decide +kernel
theorem dX2_priceOfNext_33 : decode cX2_priceOfNext 33 = .ok (.iload_n 3, 1) := by decide +kernel
theorem dX2_priceOfNext_34 : decode cX2_priceOfNext 34 = .ok (.aload_n 0, 1) := by decide +kernel
theorem dX2_priceOfNext_35 : decode cX2_priceOfNext 35 = .ok (.getfield 15, 3) := by decide +kernel
theorem dX2_priceOfNext_38 : decode cX2_priceOfNext 38 = .ok (.iload_n 1, 1) := by decide +kernel
theorem dX2_priceOfNext_39 : decode cX2_priceOfNext 39 = .ok (.iaload, 1) := by decide +kernel
theorem dX2_priceOfNext_40 : decode cX2_priceOfNext 40 = .ok (.iadd, 1) := by decide +kernel
theorem dX2_priceOfNext_41 : decode cX2_priceOfNext 41 = .ok (.goto 4, 3) := by decide +kernel
theorem dX2_priceOfNext_44 : decode cX2_priceOfNext 44 = .ok (.iload_n 3, 1) := by decide +kernel
theorem dX2_priceOfNext_45 : decode cX2_priceOfNext 45 = .ok (.ireturn, 1) := by decide +kernel
theorem dX2_noteStep_0 : decode cX2_noteStep 0 = .ok (.aload_n 0, 1) := by decide +kernel
theorem dX2_noteStep_1 : decode cX2_noteStep 1 = .ok (.iload_n 1, 1) := by decide +kernel
theorem dX2_noteStep_2 : decode cX2_noteStep 2 = .ok (.invokevirtual 29, 3) := by decide +kernel
theorem dX2_noteStep_5 : decode cX2_noteStep 5 = .ok (.ifCond .eq 24, 3) := by decide +kernel
theorem dX2_noteStep_8 : decode cX2_noteStep 8 = .ok (.aload_n 0, 1) := by decide +kernel
theorem dX2_noteStep_9 : decode cX2_noteStep 9 = .ok (.getfield 18, 3) := by decide +kernel
theorem dX2_noteStep_12 : decode cX2_noteStep 12 = .ok (.iload_n 1, 1) := by decide +kernel
theorem dX2_noteStep_13 : decode cX2_noteStep 13 = .ok (.dup2, 1) := by decide +kernel
theorem dX2_noteStep_14 : decode cX2_noteStep 14 = .ok (.iaload, 1) := by decide +kernel
theorem dX2_noteStep_15 : decode cX2_noteStep 15 = .ok (.iconst 1, 1) := by decide +kernel
theorem dX2_noteStep_16 : decode cX2_noteStep 16 = .ok (.iadd, 1) := by decide +kernel
theorem dX2_noteStep_17 : decode cX2_noteStep 17 = .ok (.iastore, 1) := by decide +kernel
theorem dX2_noteStep_18 : decode cX2_noteStep 18 = .ok (.aload_n 0, 1) := by decide +kernel
theorem dX2_noteStep_19 : decode cX2_noteStep 19 = .ok (.getfield 21, 3) := by decide +kernel
theorem dX2_noteStep_22 : decode cX2_noteStep 22 = .ok (.iload_n 1, 1) := by decide +kernel
theorem dX2_noteStep_23 : decode cX2_noteStep 23 = .ok (.dup2, 1) := by decide +kernel
theorem dX2_noteStep_24 : decode cX2_noteStep 24 = .ok (.laload, 1) := by decide +kernel
theorem dX2_noteStep_25 : decode cX2_noteStep 25 = .ok (.iload_n 2, 1) := by decide +kernel
theorem dX2_noteStep_26 : decode cX2_noteStep 26 = .ok (.i2l, 1) := by decide +kernel
theorem dX2_noteStep_27 : decode cX2_noteStep 27 = .ok (.ladd, 1) := by decide +kernel
theorem dX2_noteStep_28 : decode cX2_noteStep 28 = .ok (.lastore, 1) := by decide +kernel
theorem dX2_noteStep_29 : decode cX2_noteStep 29 = .ok (.return_, 1) := by decide +kernel
theorem dX2_forgetStep_0 : decode cX2_forgetStep 0 = .ok (.aload_n 0, 1) := by decide +kernel
theorem dX2_forgetStep_1 : decode cX2_forgetStep 1 = .ok (.iload_n 1, 1) := by decide +kernel
theorem dX2_forgetStep_2 : decode cX2_forgetStep 2 = .ok (.invokevirtual 29, 3) := by decide +kernel
theorem dX2_forgetStep_5 : decode cX2_forgetStep 5 = .ok (.ifCond .eq 24, 3) := by decide +kernel
theorem dX2_forgetStep_8 : decode cX2_forgetStep 8 = .ok (.aload_n 0, 1) := by decide +kernel
theorem dX2_forgetStep_9 : decode cX2_forgetStep 9 = .ok (.getfield 18, 3) := by decide +kernel
theorem dX2_forgetStep_12 : decode cX2_forgetStep 12 = .ok (.iload_n 1, 1) := by decide +kernel
theorem dX2_forgetStep_13 : decode cX2_forgetStep 13 = .ok (.dup2, 1) := by decide +kernel
theorem dX2_forgetStep_14 : decode cX2_forgetStep 14 = .ok (.iaload, 1) := by decide +kernel
theorem dX2_forgetStep_15 : decode cX2_forgetStep 15 = .ok (.iconst 1, 1) := by decide +kernel
theorem dX2_forgetStep_16 : decode cX2_forgetStep 16 = .ok (.isub, 1) := by decide +kernel
theorem dX2_forgetStep_17 : decode cX2_forgetStep 17 = .ok (.iastore, 1) := by decide +kernel
theorem dX2_forgetStep_18 : decode cX2_forgetStep 18 = .ok (.aload_n 0, 1) := by decide +kernel
theorem dX2_forgetStep_19 : decode cX2_forgetStep 19 = .ok (.getfield 21, 3) := by decide +kernel
theorem dX2_forgetStep_22 : decode cX2_forgetStep 22 = .ok (.iload_n 1, 1) := by decide +kernel
theorem dX2_forgetStep_23 : decode cX2_forgetStep 23 = .ok (.dup2, 1) := by decide +kernel
theorem dX2_forgetStep_24 : decode cX2_forgetStep 24 = .ok (.laload, 1) := by decide +kernel
theorem dX2_forgetStep_25 : decode cX2_forgetStep 25 = .ok (.iload_n 2, 1) := by decide +kernel
theorem dX2_forgetStep_26 : decode cX2_forgetStep 26 = .ok (.i2l, 1) := by decide +kernel
theorem dX2_forgetStep_27 : decode cX2_forgetStep 27 = .ok (.lsub, 1) := by decide +kernel
theorem dX2_forgetStep_28 : decode cX2_forgetStep 28 = .ok (.lastore, 1) := by decide +kernel
theorem dX2_forgetStep_29 : decode cX2_forgetStep 29 = .ok (.return_, 1) := by decide +kernel
theorem dX2_dearest_0 : decode cX2_dearest 0 = .ok (.iconst (-1), 1) := by decide +kernel
theorem dX2_dearest_1 : decode cX2_dearest 1 = .ok (.istore_n 1, 1) := by decide +kernel
theorem dX2_dearest_2 : decode cX2_dearest 2 = .ok (.ldc2_w 33, 3) := by decide +kernel
theorem dX2_dearest_5 : decode cX2_dearest 5 = .ok (.lstore_n 2, 1) := by decide +kernel
theorem dX2_dearest_6 : decode cX2_dearest 6 = .ok (.iconst 0, 1) := by decide +kernel
theorem dX2_dearest_7 : decode cX2_dearest 7 = .ok (.istore 4, 2) := by decide +kernel
theorem dX2_dearest_9 : decode cX2_dearest 9 = .ok (.iload 4, 2) := by decide +kernel
theorem dX2_dearest_11 : decode cX2_dearest 11 = .ok (.aload_n 0, 1) := by decide +kernel
theorem dX2_dearest_12 : decode cX2_dearest 12 = .ok (.getfield 25, 3) := by decide +kernel
theorem dX2_dearest_15 : decode cX2_dearest 15 = .ok (.if_icmp .ge 42, 3) := by decide +kernel
theorem dX2_dearest_18 : decode cX2_dearest 18 = .ok (.aload_n 0, 1) := by decide +kernel
theorem dX2_dearest_19 : decode cX2_dearest 19 = .ok (.getfield 18, 3) := by decide +kernel
theorem dX2_dearest_22 : decode cX2_dearest 22 = .ok (.iload 4, 2) := by decide +kernel
theorem dX2_dearest_24 : decode cX2_dearest 24 = .ok (.iaload, 1) := by decide +kernel
theorem dX2_dearest_25 : decode cX2_dearest 25 = .ok (.ifCond .le 26, 3) := by decide +kernel
theorem dX2_dearest_28 : decode cX2_dearest 28 = .ok (.aload_n 0, 1) := by decide +kernel
theorem dX2_dearest_29 : decode cX2_dearest 29 = .ok (.getfield 21, 3) := by decide +kernel
theorem dX2_dearest_32 : decode cX2_dearest 32 = .ok (.iload 4, 2) := by decide +kernel
theorem dX2_dearest_34 : decode cX2_dearest 34 = .ok (.laload, 1) := by decide +kernel
theorem dX2_dearest_35 : decode cX2_dearest 35 = .ok (.lload_n 2, 1) := by decide +kernel
theorem dX2_dearest_36 : decode cX2_dearest 36 = .ok (.lcmp, 1) := by decide +kernel
theorem dX2_dearest_37 : decode cX2_dearest 37 = .ok (.ifCond .le 14, 3) := by decide +kernel
theorem dX2_dearest_40 : decode cX2_dearest 40 = .ok (.iload 4, 2) := by decide +kernel
theorem dX2_dearest_42 : decode cX2_dearest 42 = .ok (.istore_n 1, 1) := by decide +kernel
theorem dX2_dearest_43 : decode cX2_dearest 43 = .ok (.aload_n 0, 1) := by decide +kernel
theorem dX2_dearest_44 : decode cX2_dearest 44 = .ok (.getfield 21, 3) := by decide +kernel
theorem dX2_dearest_47 : decode cX2_dearest 47 = .ok (.iload 4, 2) := by decide +kernel
theorem dX2_dearest_49 : decode cX2_dearest 49 = .ok (.laload, 1) := by decide +kernel
theorem dX2_dearest_50 : decode cX2_dearest 50 = .ok (.lstore_n 2, 1) := by decide +kernel
theorem dX2_dearest_51 : decode cX2_dearest 51 = .ok (.iinc 4 1, 3) := by decide +kernel
theorem dX2_dearest_54 : decode cX2_dearest 54 = .ok (.goto (-45), 3) := by decide +kernel
theorem dX2_dearest_57 : decode cX2_dearest 57 = .ok (.iload_n 1, 1) := by decide +kernel
theorem dX2_dearest_58 : decode cX2_dearest 58 = .ok (.ireturn, 1) := by decide +kernel
