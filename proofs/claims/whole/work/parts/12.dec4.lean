theorem dX4_init_0 : decode cX4_init 0 = .ok (.aload_n 0, 1) := by decide +kernel
theorem dX4_init_1 : decode cX4_init 1 = .ok (.invokespecial 3, 3) := by decide +kernel
theorem dX4_init_4 : decode cX4_init 4 = .ok (.aload_n 0, 1) := by decide +kernel
theorem dX4_init_5 : decode cX4_init 5 = .ok (.sipush 200, 3) := by decide +kernel
theorem dX4_init_8 : decode cX4_init 8 = .ok (.newarray .int, 2) := by decide +kernel
theorem dX4_init_10 : decode cX4_init 10 = .ok (.putfield 9, 3) := by decide +kernel
theorem dX4_init_13 : decode cX4_init 13 = .ok (.aload_n 0, 1) := by decide +kernel
theorem dX4_init_14 : decode cX4_init 14 = .ok (.sipush 200, 3) := by decide +kernel
theorem dX4_init_17 : decode cX4_init 17 = .ok (.newarray .int, 2) := by decide +kernel
theorem dX4_init_19 : decode cX4_init 19 = .ok (.putfield 15, 3) := by decide +kernel
theorem dX4_init_22 : decode cX4_init 22 = .ok (.aload_n 0, 1) := by decide +kernel
theorem dX4_init_23 : decode cX4_init 23 = .ok (.sipush 200, 3) := by decide +kernel
theorem dX4_init_26 : decode cX4_init 26 = .ok (.newarray .int, 2) := by decide +kernel
theorem dX4_init_28 : decode cX4_init 28 = .ok (.putfield 18, 3) := by decide +kernel
theorem dX4_init_31 : decode cX4_init 31 = .ok (.aload_n 0, 1) := by decide +kernel
theorem dX4_init_32 : decode cX4_init 32 = .ok (.sipush 200, 3) := by decide +kernel
theorem dX4_init_35 : decode cX4_init 35 = .ok (.newarray .int, 2) := by decide +kernel
theorem dX4_init_37 : decode cX4_init 37 = .ok (.putfield 21, 3) := by decide +kernel
theorem dX4_init_40 : decode cX4_init 40 = .ok (.aload_n 0, 1) := by decide +kernel
theorem dX4_init_41 : decode cX4_init 41 = .ok (.sipush 200, 3) := by decide +kernel
theorem dX4_init_44 : decode cX4_init 44 = .ok (.newarray .boolean, 2) := by decide +kernel
theorem dX4_init_46 : decode cX4_init 46 = .ok (.putfield 24, 3) := by decide +kernel
theorem dX4_init_49 : decode cX4_init 49 = .ok (.aload_n 0, 1) := by decide +kernel
theorem dX4_init_50 : decode cX4_init 50 = .ok (.sipush 201, 3) := by decide +kernel
theorem dX4_init_53 : decode cX4_init 53 = .ok (.newarray .long, 2) := by decide +kernel
theorem dX4_init_55 : decode cX4_init 55 = .ok (.putfield 28, 3) := by decide +kernel
theorem dX4_init_58 : decode cX4_init 58 = .ok (.aload_n 0, 1) := by decide +kernel
theorem dX4_init_59 : decode cX4_init 59 = .ok (.new 32, 3) := by decide +kernel
theorem dX4_init_62 : decode cX4_init 62 = .ok (.dup, 1) := by decide +kernel
theorem dX4_init_63 : decode cX4_init 63 = .ok (.sipush 200, 3) := by decide +kernel
theorem dX4_init_66 : decode cX4_init 66 = .ok (.newarray .int, 2) := by decide +kernel
theorem dX4_init_68 : decode cX4_init 68 = .ok (.iconst 0, 1) := by decide +kernel
theorem dX4_init_69 : decode cX4_init 69 = .ok (.invokespecial 34, 3) := by decide +kernel
theorem dX4_init_72 : decode cX4_init 72 = .ok (.putfield 37, 3) := by decide +kernel
theorem dX4_init_75 : decode cX4_init 75 = .ok (.aload_n 0, 1) := by decide +kernel
theorem dX4_init_76 : decode cX4_init 76 = .ok (.new 32, 3) := by decide +kernel
theorem dX4_init_79 : decode cX4_init 79 = .ok (.dup, 1) := by decide +kernel
theorem dX4_init_80 : decode cX4_init 80 = .ok (.sipush 200, 3) := by decide +kernel
theorem dX4_init_83 : decode cX4_init 83 = .ok (.newarray .int, 2) := by decide +kernel
theorem dX4_init_85 : decode cX4_init 85 = .ok (.iconst 0, 1) := by decide +kernel
theorem dX4_init_86 : decode cX4_init 86 = .ok (.invokespecial 34, 3) := by decide +kernel
theorem dX4_init_89 : decode cX4_init 89 = .ok (.putfield 41, 3) := by decide +kernel
theorem dX4_init_92 : decode cX4_init 92 = .ok (.aload_n 0, 1) := by decide +kernel
theorem dX4_init_93 : decode cX4_init 93 = .ok (.iconst 0, 1) := by decide +kernel
theorem dX4_init_94 : decode cX4_init 94 = .ok (.putfield 44, 3) := by decide +kernel
theorem dX4_init_97 : decode cX4_init 97 = .ok (.return_, 1) := by decide +kernel
theorem dX4_count_0 : decode cX4_count 0 = .ok (.aload_n 0, 1) := by decide +kernel
theorem dX4_count_1 : decode cX4_count 1 = .ok (.getfield 44, 3) := by decide +kernel
theorem dX4_count_4 : decode cX4_count 4 = .ok (.ireturn, 1) := by decide +kernel
theorem dX4_isFull_0 : decode cX4_isFull 0 = .ok (.aload_n 0, 1) := by decide +kernel
theorem dX4_isFull_1 : decode cX4_isFull 1 = .ok (.getfield 44, 3) := by decide +kernel
theorem dX4_isFull_4 : decode cX4_isFull 4 = .ok (.sipush 200, 3) := by decide +kernel
theorem dX4_isFull_7 : decode cX4_isFull 7 = .ok (.if_icmp .lt 7, 3) := by decide +kernel
theorem dX4_isFull_10 : decode cX4_isFull 10 = .ok (.iconst 1, 1) := by decide +kernel
theorem dX4_isFull_11 : decode cX4_isFull 11 = .ok (.goto 4, 3) := by decide +kernel
theorem dX4_isFull_14 : decode cX4_isFull 14 = .ok (.iconst 0, 1) := by decide +kernel
theorem dX4_isFull_15 : decode cX4_isFull 15 = .ok (.ireturn, 1) := by decide +kernel
theorem dX4_has_0 : decode cX4_has 0 = .ok (.iload_n 1, 1) := by decide +kernel
theorem dX4_has_1 : decode cX4_has 1 = .ok (.ifCond .lt 15, 3) := by decide +kernel
theorem dX4_has_4 : decode cX4_has 4 = .ok (.iload_n 1, 1) := by decide +kernel
theorem dX4_has_5 : decode cX4_has 5 = .ok (.aload_n 0, 1) := by decide +kernel
theorem dX4_has_6 : decode cX4_has 6 = .ok (.getfield 44, 3) := by decide +kernel
theorem dX4_has_9 : decode cX4_has 9 = .ok (.if_icmp .ge 7, 3) := by decide +kernel
theorem dX4_has_12 : decode cX4_has 12 = .ok (.iconst 1, 1) := by decide +kernel
theorem dX4_has_13 : decode cX4_has 13 = .ok (.goto 4, 3) := by decide +kernel
theorem dX4_has_16 : decode cX4_has 16 = .ok (.iconst 0, 1) := by decide +kernel
theorem dX4_has_17 : decode cX4_has 17 = .ok (.ireturn, 1) := by decide +kernel
theorem dX4_isGuess_0 : decode cX4_isGuess 0 = .ok (.aload_n 0, 1) := by decide +kernel
theorem dX4_isGuess_1 : decode cX4_isGuess 1 = .ok (.iload_n 1, 1) := by decide +kernel
theorem dX4_isGuess_2 : decode cX4_isGuess 2 = .ok (.invokevirtual 48, 3) := by decide +kernel
theorem dX4_isGuess_5 : decode cX4_isGuess 5 = .ok (.ifCond .eq 17, 3) := by decide +kernel
theorem dX4_isGuess_8 : decode cX4_isGuess 8 = .ok (.aload_n 0, 1) := by decide +kernel
theorem dX4_isGuess_9 : decode cX4_isGuess 9 = .ok (.getfield 9, 3) := by decide +kernel
theorem dX4_isGuess_12 : decode cX4_isGuess 12 = .ok (.iload_n 1, 1) := by decide +kernel
theorem dX4_isGuess_13 : decode cX4_isGuess 13 = .ok (.iaload, 1) := by decide +kernel
theorem dX4_isGuess_14 : decode cX4_isGuess 14 = .ok (.iconst (-1), 1) := by decide +kernel
theorem dX4_isGuess_15 : decode cX4_isGuess 15 = .ok (.if_icmp .ne 7, 3) := by decide +kernel
theorem dX4_isGuess_18 : decode cX4_isGuess 18 = .ok (.iconst 1, 1) := by decide +kernel
theorem dX4_isGuess_19 : decode cX4_isGuess 19 = .ok (.goto 4, 3) := by decide +kernel
theorem dX4_isGuess_22 : decode cX4_isGuess 22 = .ok (.iconst 0, 1) := by decide +kernel
theorem dX4_isGuess_23 : decode cX4_isGuess 23 = .ok (.ireturn, 1) := by decide +kernel
theorem dX4_ruleAt_0 : decode cX4_ruleAt 0 = .ok (.aload_n 0, 1) := by decide +kernel
theorem dX4_ruleAt_1 : decode cX4_ruleAt 1 = .ok (.iload_n 1, 1) := by decide +kernel
theorem dX4_ruleAt_2 : decode cX4_ruleAt 2 = .ok (.invokevirtual 48, 3) := by decide +kernel
theorem dX4_ruleAt_5 : decode cX4_ruleAt 5 = .ok (.ifCond .eq 12, 3) := by decide +kernel
theorem dX4_ruleAt_8 : decode cX4_ruleAt 8 = .ok (.aload_n 0, 1) := by decide +kernel
theorem dX4_ruleAt_9 : decode cX4_ruleAt 9 = .ok (.getfield 9, 3) := by decide +kernel
theorem dX4_ruleAt_12 : decode cX4_ruleAt 12 = .ok (.iload_n 1, 1) := by decide +kernel
theorem dX4_ruleAt_13 : decode cX4_ruleAt 13 = .ok (.iaload, 1) := by decide +kernel
theorem dX4_ruleAt_14 : decode cX4_ruleAt 14 = .ok (.goto 4, 3) := by decide +kernel
theorem dX4_ruleAt_17 : decode cX4_ruleAt 17 = .ok (.iconst (-1), 1) := by decide +kernel
theorem dX4_ruleAt_18 : decode cX4_ruleAt 18 = .ok (.ireturn, 1) := by decide +kernel
theorem dX4_placeAt_0 : decode cX4_placeAt 0 = .ok (.aload_n 0, 1) := by decide +kernel
theorem dX4_placeAt_1 : decode cX4_placeAt 1 = .ok (.iload_n 1, 1) := by decide +kernel
theorem dX4_placeAt_2 : decode cX4_placeAt 2 = .ok (.invokevirtual 48, 3) := by decide +kernel
theorem dX4_placeAt_5 : decode cX4_placeAt 5 = .ok (.ifCond .eq 12, 3) := by decide +kernel
theorem dX4_placeAt_8 : decode cX4_placeAt 8 = .ok (.aload_n 0, 1) := by decide +kernel
theorem dX4_placeAt_9 : decode cX4_placeAt 9 = .ok (.getfield 15, 3) := by decide +kernel
theorem dX4_placeAt_12 : decode cX4_placeAt 12 = .ok (.iload_n 1, 1) := by decide +kernel
theorem dX4_placeAt_13 : decode cX4_placeAt 13 = .ok (.iaload, 1) := by decide +kernel
theorem dX4_placeAt_14 : decode cX4_placeAt 14 = .ok (.goto 4, 3) := by decide +kernel
theorem dX4_placeAt_17 : decode cX4_placeAt 17 = .ok (.iconst (-1), 1) := by decide +kernel
theorem dX4_placeAt_18 : decode cX4_placeAt 18 = .ok (.ireturn, 1) := by decide +kernel
theorem dX4_widthAt_0 : decode cX4_widthAt 0 = .ok (.aload_n 0, 1) := by decide +kernel
theorem dX4_widthAt_1 : decode cX4_widthAt 1 = .ok (.iload_n 1, 1) := by decide +kernel
theorem dX4_widthAt_2 : decode cX4_widthAt 2 = .ok (.invokevirtual 48, 3) := by decide +kernel
theorem dX4_widthAt_5 : decode cX4_widthAt 5 = .ok (.ifCond .eq 12, 3) := by decide +kernel
theorem dX4_widthAt_8 : decode cX4_widthAt 8 = .ok (.aload_n 0, 1) := by decide +kernel
theorem dX4_widthAt_9 : decode cX4_widthAt 9 = .ok (.getfield 18, 3) := by decide +kernel
theorem dX4_widthAt_12 : decode cX4_widthAt 12 = .ok (.iload_n 1, 1) := by decide +kernel
theorem dX4_widthAt_13 : decode cX4_widthAt 13 = .ok (.iaload, 1) := by decide +kernel
theorem dX4_widthAt_14 : decode cX4_widthAt 14 = .ok (.goto 4, 3) := by decide +kernel
theorem dX4_widthAt_17 : decode cX4_widthAt 17 = .ok (.iconst (-1), 1) := by decide +kernel
theorem dX4_widthAt_18 : decode cX4_widthAt 18 = .ok (.ireturn, 1) := by decide +kernel
theorem dX4_priceAt_0 : decode cX4_priceAt 0 = .ok (.aload_n 0, 1) := by decide +kernel
theorem dX4_priceAt_1 : decode cX4_priceAt 1 = .ok (.iload_n 1, 1) := by decide +kernel
theorem dX4_priceAt_2 : decode cX4_priceAt 2 = .ok (.invokevirtual 48, 3) := by decide +kernel
theorem dX4_priceAt_5 : decode cX4_priceAt 5 = .ok (.ifCond .eq 12, 3) := by decide +kernel
theorem dX4_priceAt_8 : decode cX4_priceAt 8 = .ok (.aload_n 0, 1) := by decide +kernel
theorem dX4_priceAt_9 : decode cX4_priceAt 9 = .ok (.getfield 21, 3) := by decide +kernel
theorem dX4_priceAt_12 : decode cX4_priceAt 12 = .ok (.iload_n 1, 1) := by decide +kernel
theorem dX4_priceAt_13 : decode cX4_priceAt 13 = .ok (.iaload, 1) := by decide +kernel
theorem dX4_priceAt_14 : decode cX4_priceAt 14 = .ok (.goto 4, 3) := by decide +kernel
theorem dX4_priceAt_17 : decode cX4_priceAt 17 = .ok (.iconst (-1), 1) := by decide +kernel
theorem dX4_priceAt_18 : decode cX4_priceAt 18 = .ok (.ireturn, 1) := by decide +kernel
theorem dX4_addGuess_0 : decode cX4_addGuess 0 = .ok (.sipush 1000, 3) := by decide +kernel
theorem dX4_addGuess_3 : decode cX4_addGuess 3 = .ok (.iload_n 1, 1) := by decide +kernel
theorem dX4_addGuess_4 : decode cX4_addGuess 4 = .ok (.imul, 1) := by decide +kernel
theorem dX4_addGuess_5 : decode cX4_addGuess 5 = .ok (.istore_n 2, 1) := by decide +kernel
theorem dX4_addGuess_6 : decode cX4_addGuess 6 = .ok (.aload_n 0, 1) := by decide +kernel
theorem dX4_addGuess_7 : decode cX4_addGuess 7 = .ok (.iconst (-1), 1) := by decide +kernel
theorem dX4_addGuess_8 : decode cX4_addGuess 8 = .ok (.iconst 0, 1) := by decide +kernel
theorem dX4_addGuess_9 : decode cX4_addGuess 9 = .ok (.iload_n 1, 1) := by decide +kernel
theorem dX4_addGuess_10 : decode cX4_addGuess 10 = .ok (.aload_n 0, 1) := by decide +kernel
theorem dX4_addGuess_11 : decode cX4_addGuess 11 = .ok (.aload_n 0, 1) := by decide +kernel
theorem dX4_addGuess_12 : decode cX4_addGuess 12 = .ok (.getfield 44, 3) := by decide +kernel
theorem dX4_addGuess_15 : decode cX4_addGuess 15 = .ok (.iconst 1, 1) := by decide +kernel
theorem dX4_addGuess_16 : decode cX4_addGuess 16 = .ok (.isub, 1) := by decide +kernel
theorem dX4_addGuess_17 : decode cX4_addGuess 17 = .ok (.invokevirtual 52, 3) := by decide +kernel
theorem dX4_addGuess_20 : decode cX4_addGuess 20 = .ok (.ifCond .eq 9, 3) := by decide +kernel
theorem dX4_addGuess_23 : decode cX4_addGuess 23 = .ok (.iconst 2, 1) := by decide +kernel
theorem dX4_addGuess_24 : decode cX4_addGuess 24 = .ok (.iload_n 2, 1) := by decide +kernel
theorem dX4_addGuess_25 : decode cX4_addGuess 25 = .ok (.imul, 1) := by decide +kernel
theorem dX4_addGuess_26 : decode cX4_addGuess 26 = .ok (.goto 4, 3) := by decide +kernel
theorem dX4_addGuess_29 : decode cX4_addGuess 29 = .ok (.iload_n 2, 1) := by decide +kernel
theorem dX4_addGuess_30 : decode cX4_addGuess 30 = .ok (.invokevirtual 55, 3) := by decide +kernel
theorem dX4_addGuess_33 : decode cX4_addGuess 33 = .ok (.ireturn, 1) := by decide +kernel
theorem dX4_add_0 : decode cX4_add 0 = .ok (.aload_n 0, 1) := by decide +kernel
theorem dX4_add_1 : decode cX4_add 1 = .ok (.invokevirtual 59, 3) := by decide +kernel
theorem dX4_add_4 : decode cX4_add 4 = .ok (.ifCond .eq 5, 3) := by decide +kernel
theorem dX4_add_7 : decode cX4_add 7 = .ok (.iconst (-1), 1) := by decide +kernel
theorem dX4_add_8 : decode cX4_add 8 = .ok (.ireturn, 1) := by decide +kernel
theorem dX4_add_9 : decode cX4_add 9 = .ok (.aload_n 0, 1) := by decide +kernel
theorem dX4_add_10 : decode cX4_add 10 = .ok (.getfield 9, 3) := by decide +kernel
theorem dX4_add_13 : decode cX4_add 13 = .ok (.aload_n 0, 1) := by decide +kernel
theorem dX4_add_14 : decode cX4_add 14 = .ok (.getfield 44, 3) := by decide +kernel
theorem dX4_add_17 : decode cX4_add 17 = .ok (.iload_n 1, 1) := by decide +kernel
theorem dX4_add_18 : decode cX4_add 18 = .ok (.iastore, 1) := by decide +kernel
theorem dX4_add_19 : decode cX4_add 19 = .ok (.aload_n 0, 1) := by decide +kernel
theorem dX4_add_20 : decode cX4_add 20 = .ok (.getfield 15, 3) := by decide +kernel
theorem dX4_add_23 : decode cX4_add 23 = .ok (.aload_n 0, 1) := by decide +kernel
theorem dX4_add_24 : decode cX4_add 24 = .ok (.getfield 44, 3) := by decide +kernel
theorem dX4_add_27 : decode cX4_add 27 = .ok (.iload_n 2, 1) := by decide +kernel
theorem dX4_add_28 : decode cX4_add 28 = .ok (.iastore, 1) := by decide +kernel
theorem dX4_add_29 : decode cX4_add 29 = .ok (.aload_n 0, 1) := by decide +kernel
theorem dX4_add_30 : decode cX4_add 30 = .ok (.getfield 18, 3) := by decide +kernel
theorem dX4_add_33 : decode cX4_add 33 = .ok (.aload_n 0, 1) := by decide +kernel
theorem dX4_add_34 : decode cX4_add 34 = .ok (.getfield 44, 3) := by decide +kernel
theorem dX4_add_37 : decode cX4_add 37 = .ok (.iload_n 3, 1) := by decide +kernel
theorem dX4_add_38 : decode cX4_add 38 = .ok (.iastore, 1) := by decide +kernel
theorem dX4_add_39 : decode cX4_add 39 = .ok (.aload_n 0, 1) := by decide +kernel
theorem dX4_add_40 : decode cX4_add 40 = .ok (.getfield 21, 3) := by decide +kernel
theorem dX4_add_43 : decode cX4_add 43 = .ok (.aload_n 0, 1) := by decide +kernel
theorem dX4_add_44 : decode cX4_add 44 = .ok (.getfield 44, 3) := by decide +kernel
theorem dX4_add_47 : decode cX4_add 47 = .ok (.iload 4, 2) := by decide +kernel
theorem dX4_add_49 : decode cX4_add 49 = .ok (.iastore, 1) := by decide +kernel
theorem dX4_add_50 : decode cX4_add 50 = .ok (.aload_n 0, 1) := by decide +kernel
theorem dX4_add_51 : decode cX4_add 51 = .ok (.getfield 24, 3) := by decide +kernel
theorem dX4_add_54 : decode cX4_add 54 = .ok (.aload_n 0, 1) := by decide +kernel
theorem dX4_add_55 : decode cX4_add 55 = .ok (.getfield 44, 3) := by decide +kernel
theorem dX4_add_58 : decode cX4_add 58 = .ok (.iload_n 1, 1) := by decide +kernel
theorem dX4_add_59 : decode cX4_add 59 = .ok (.iconst (-1), 1) := by decide +kernel
theorem dX4_add_60 : decode cX4_add 60 = .ok (.if_icmp .eq 20, 3) := by decide +kernel
theorem dX4_add_63 : decode cX4_add 63 = .ok (.iload_n 3, 1) := by decide +kernel
theorem dX4_add_64 : decode cX4_add 64 = .ok (.iconst 1, 1) := by decide +kernel
theorem dX4_add_65 : decode cX4_add 65 = .ok (.if_icmp .ne 15, 3) := by decide +kernel
theorem dX4_add_68 : decode cX4_add 68 = .ok (.aload_n 0, 1) := by decide +kernel
theorem dX4_add_69 : decode cX4_add 69 = .ok (.iload_n 2, 1) := by decide +kernel
theorem dX4_add_70 : decode cX4_add 70 = .ok (.invokevirtual 63, 3) := by decide +kernel
theorem dX4_add_73 : decode cX4_add 73 = .ok (.ifCond .ne 7, 3) := by decide +kernel
theorem dX4_add_76 : decode cX4_add 76 = .ok (.iconst 1, 1) := by decide +kernel
theorem dX4_add_77 : decode cX4_add 77 = .ok (.goto 4, 3) := by decide +kernel
theorem dX4_add_80 : decode cX4_add 80 = .ok (.iconst 0, 1) := by decide +kernel
theorem dX4_add_81 : decode cX4_add 81 = .ok (.bastore, 1) := by decide +kernel
theorem dX4_add_82 : decode cX4_add 82 = .ok (.aload_n 0, 1) := by decide +kernel
theorem dX4_add_83 : decode cX4_add 83 = .ok (.getfield 28, 3) := by decide +kernel
theorem dX4_add_86 : decode cX4_add 86 = .ok (.aload_n 0, 1) := by decide +kernel
theorem dX4_add_87 : decode cX4_add 87 = .ok (.getfield 44, 3) := by decide +kernel
theorem dX4_add_90 : decode cX4_add 90 = .ok (.iconst 1, 1) := by decide +kernel
theorem dX4_add_91 : decode cX4_add 91 = .ok (.iadd, 1) := by decide +kernel
theorem dX4_add_92 : decode cX4_add 92 = .ok (.aload_n 0, 1) := by decide +kernel
theorem dX4_add_93 : decode cX4_add 93 = .ok (.getfield 28, 3) := by decide +kernel
theorem dX4_add_96 : decode cX4_add 96 = .ok (.aload_n 0, 1) := by decide +kernel
theorem dX4_add_97 : decode cX4_add 97 = .ok (.getfield 44, 3) := by decide +kernel
theorem dX4_add_100 : decode cX4_add 100 = .ok (.laload, 1) := by decide +kernel
theorem dX4_add_101 : decode cX4_add 101 = .ok (.iload 4, 2) := by decide +kernel
theorem dX4_add_103 : decode cX4_add 103 = .ok (.i2l, 1) := by decide +kernel
theorem dX4_add_104 : decode cX4_add 104 = .ok (.ladd, 1) := by decide +kernel
theorem dX4_add_105 : decode cX4_add 105 = .ok (.lastore, 1) := by decide +kernel
theorem dX4_add_106 : decode cX4_add 106 = .ok (.aload_n 0, 1) := by decide +kernel
theorem dX4_add_107 : decode cX4_add 107 = .ok (.getfield 37, 3) := by decide +kernel
theorem dX4_add_110 : decode cX4_add 110 = .ok (.iload 4, 2) := by decide +kernel
theorem dX4_add_112 : decode cX4_add 112 = .ok (.invokevirtual 66, 3) := by decide +kernel
theorem dX4_add_115 : decode cX4_add 115 = .ok (.aload_n 0, 1) := by decide +kernel
theorem dX4_add_116 : decode cX4_add 116 = .ok (.getfield 41, 3) := by decide +kernel
theorem dX4_add_119 : decode cX4_add 119 = .ok (.iload_n 1, 1) := by decide +kernel
theorem dX4_add_120 : decode cX4_add 120 = .ok (.iload_n 2, 1) := by decide +kernel
theorem dX4_add_121 : decode cX4_add 121 = .ok (.iload_n 3, 1) := by decide +kernel
theorem dX4_add_122 : decode cX4_add 122 = .ok (.invokestatic 70, 3) := by decide +kernel
theorem dX4_add_125 : decode cX4_add 125 = .ok (.invokevirtual 66, 3) := by decide +kernel
theorem dX4_add_128 : decode cX4_add 128 = .ok (.aload_n 0, 1) := by decide +kernel
theorem dX4_add_129 : decode cX4_add 129 = .ok (.dup, 1) := by decide +kernel
theorem dX4_add_130 : decode cX4_add 130 = .ok (.getfield 44, 3) := by decide +kernel
theorem dX4_add_133 : decode cX4_add 133 = .ok (.iconst 1, 1) := by decide +kernel
theorem dX4_add_134 : decode cX4_add 134 = .ok (.iadd, 1) := by decide +kernel
theorem dX4_add_135 : decode cX4_add 135 = .ok (.putfield 44, 3) := by decide +kernel
theorem dX4_add_138 : decode cX4_add 138 = .ok (.aload_n 0, 1) := by decide +kernel
theorem dX4_add_139 : decode cX4_add 139 = .ok (.getfield 44, 3) := by decide +kernel
theorem dX4_add_142 : decode cX4_add 142 = .ok (.iconst 1, 1) := by decide +kernel
theorem dX4_add_143 : decode cX4_add 143 = .ok (.isub, 1) := by decide +kernel
theorem dX4_add_144 : decode cX4_add 144 = .ok (.ireturn, 1) := by decide +kernel
theorem dX4_removeLast_0 : decode cX4_removeLast 0 = .ok (.aload_n 0, 1) := by decide +kernel
theorem dX4_removeLast_1 : decode cX4_removeLast 1 = .ok (.getfield 44, 3) := by decide +kernel
theorem dX4_removeLast_4 : decode cX4_removeLast 4 = .ok (.ifCond .le 66, 3) := by decide +kernel
theorem dX4_removeLast_7 : decode cX4_removeLast 7 = .ok (.aload_n 0, 1) := by decide +kernel
theorem dX4_removeLast_8 : decode cX4_removeLast 8 = .ok (.dup, 1) := by decide +kernel
theorem dX4_removeLast_9 : decode cX4_removeLast 9 = .ok (.getfield 44, 3) := by decide +kernel
theorem dX4_removeLast_12 : decode cX4_removeLast 12 = .ok (.iconst 1, 1) := by decide +kernel
theorem dX4_removeLast_13 : decode cX4_removeLast 13 = .ok (.isub, 1) := by decide +kernel
theorem dX4_removeLast_14 : decode cX4_removeLast 14 = .ok (.putfield 44, 3) := by decide +kernel
theorem dX4_removeLast_17 : decode cX4_removeLast 17 = .ok (.aload_n 0, 1) := by decide +kernel
theorem dX4_removeLast_18 : decode cX4_removeLast 18 = .ok (.getfield 37, 3) := by decide +kernel
theorem dX4_removeLast_21 : decode cX4_removeLast 21 = .ok (.aload_n 0, 1) := by decide +kernel
theorem dX4_removeLast_22 : decode cX4_removeLast 22 = .ok (.getfield 21, 3) := by decide +kernel
theorem dX4_removeLast_25 : decode cX4_removeLast 25 = .ok (.aload_n 0, 1) := by decide +kernel
theorem dX4_removeLast_26 : decode cX4_removeLast 26 = .ok (.getfield 44, 3) := by decide +kernel
theorem dX4_removeLast_29 : decode cX4_removeLast 29 = .ok (.iaload, 1) := by decide +kernel
theorem dX4_removeLast_30 : decode cX4_removeLast 30 = .ok (.invokevirtual 74, 3) := by decide +kernel
theorem dX4_removeLast_33 : decode cX4_removeLast 33 = .ok (.aload_n 0, 1) := by decide +kernel
theorem dX4_removeLast_34 : decode cX4_removeLast 34 = .ok (.getfield 41, 3) := by decide +kernel
theorem dX4_removeLast_37 : decode cX4_removeLast 37 = .ok (.aload_n 0, 1) := by decide +kernel
theorem dX4_removeLast_38 : decode cX4_removeLast 38 = .ok (.getfield 9, 3) := by decide +kernel
theorem dX4_removeLast_41 : decode cX4_removeLast 41 = .ok (.aload_n 0, 1) := by decide +kernel
theorem dX4_removeLast_42 : decode cX4_removeLast 42 = .ok (.getfield 44, 3) := by decide +kernel
theorem dX4_removeLast_45 : decode cX4_removeLast 45 = .ok (.iaload, 1) := by decide +kernel
theorem dX4_removeLast_46 : decode cX4_removeLast 46 = .ok (.aload_n 0, 1) := by decide +kernel
theorem dX4_removeLast_47 : decode cX4_removeLast 47 = .ok (.getfield 15, 3) := by decide +kernel
theorem dX4_removeLast_50 : decode cX4_removeLast 50 = .ok (.aload_n 0, 1) := by decide +kernel
theorem dX4_removeLast_51 : decode cX4_removeLast 51 = .ok (.getfield 44, 3) := by decide +kernel
theorem dX4_removeLast_54 : decode cX4_removeLast 54 = .ok (.iaload, 1) := by decide +kernel
theorem dX4_removeLast_55 : decode cX4_removeLast 55 = .ok (.aload_n 0, 1) := by decide +kernel
theorem dX4_removeLast_56 : decode cX4_removeLast 56 = .ok (.getfield 18, 3) := by decide +kernel
theorem dX4_removeLast_59 : decode cX4_removeLast 59 = .ok (.aload_n 0, 1) := by decide +kernel
theorem dX4_removeLast_60 : decode cX4_removeLast 60 = .ok (.getfield 44, 3) := by decide +kernel
theorem dX4_removeLast_63 : decode cX4_removeLast 63 = .ok (.iaload, 1) := by decide +kernel
theorem dX4_removeLast_64 : decode cX4_removeLast 64 = .ok (.invokestatic 70, 3) := by decide +kernel
theorem dX4_removeLast_67 : decode cX4_removeLast 67 = .ok (.invokevirtual 74, 3) := by decide +kernel
theorem dX4_removeLast_70 : decode cX4_removeLast 70 = .ok (.return_, 1) := by decide +kernel
theorem dX4_total_0 : decode cX4_total 0 = .ok (.aload_n 0, 1) := by decide +kernel
theorem dX4_total_1 : decode cX4_total 1 = .ok (.getfield 28, 3) := by decide +kernel
theorem dX4_total_4 : decode cX4_total 4 = .ok (.aload_n 0, 1) := by decide +kernel
theorem dX4_total_5 : decode cX4_total 5 = .ok (.getfield 44, 3) := by decide +kernel
theorem dX4_total_8 : decode cX4_total 8 = .ok (.laload, 1) := by decide +kernel
theorem dX4_total_9 : decode cX4_total 9 = .ok (.lreturn, 1) := by decide +kernel
theorem dX4_totalOfFirst_0 : decode cX4_totalOfFirst 0 = .ok (.iload_n 1, 1) := by decide +kernel
theorem dX4_totalOfFirst_1 : decode cX4_totalOfFirst 1 = .ok (.ifCond .lt 20, 3) := by decide +kernel
theorem dX4_totalOfFirst_4 : decode cX4_totalOfFirst 4 = .ok (.iload_n 1, 1) := by decide +kernel
theorem dX4_totalOfFirst_5 : decode cX4_totalOfFirst 5 = .ok (.aload_n 0, 1) := by decide +kernel
theorem dX4_totalOfFirst_6 : decode cX4_totalOfFirst 6 = .ok (.getfield 44, 3) := by decide +kernel
theorem dX4_totalOfFirst_9 : decode cX4_totalOfFirst 9 = .ok (.if_icmp .ge 12, 3) := by decide +kernel
theorem dX4_totalOfFirst_12 : decode cX4_totalOfFirst 12 = .ok (.aload_n 0, 1) := by decide +kernel
theorem dX4_totalOfFirst_13 : decode cX4_totalOfFirst 13 = .ok (.getfield 28, 3) := by decide +kernel
theorem dX4_totalOfFirst_16 : decode cX4_totalOfFirst 16 = .ok (.iload_n 1, 1) := by decide +kernel
theorem dX4_totalOfFirst_17 : decode cX4_totalOfFirst 17 = .ok (.laload, 1) := by decide +kernel
theorem dX4_totalOfFirst_18 : decode cX4_totalOfFirst 18 = .ok (.goto 7, 3) := by decide +kernel
theorem dX4_totalOfFirst_21 : decode cX4_totalOfFirst 21 = .ok (.aload_n 0, 1) := by decide +kernel
theorem dX4_totalOfFirst_22 : decode cX4_totalOfFirst 22 = .ok (.invokevirtual 77, 3) := by decide +kernel
theorem dX4_totalOfFirst_25 : decode cX4_totalOfFirst 25 = .ok (.lreturn, 1) := by decide +kernel
theorem dX4_narrowPlace_0 : decode cX4_narrowPlace 0 = .ok (.iconst 0, 1) := by decide +kernel
theorem dX4_narrowPlace_1 : decode cX4_narrowPlace 1 = .ok (.istore_n 2, 1) := by decide +kernel
theorem dX4_narrowPlace_2 : decode cX4_narrowPlace 2 = .ok (.iconst 0, 1) := by decide +kernel
theorem dX4_narrowPlace_3 : decode cX4_narrowPlace 3 = .ok (.istore_n 3, 1) := by decide +kernel
theorem dX4_narrowPlace_4 : decode cX4_narrowPlace 4 = .ok (.iload_n 3, 1) := by decide +kernel
theorem dX4_narrowPlace_5 : decode cX4_narrowPlace 5 = .ok (.aload_n 0, 1) := by decide +kernel
theorem dX4_narrowPlace_6 : decode cX4_narrowPlace 6 = .ok (.getfield 44, 3) := by decide +kernel
theorem dX4_narrowPlace_9 : decode cX4_narrowPlace 9 = .ok (.if_icmp .ge 33, 3) := by decide +kernel
theorem dX4_narrowPlace_12 : decode cX4_narrowPlace 12 = .ok (.aload_n 0, 1) := by decide +kernel
theorem dX4_narrowPlace_13 : decode cX4_narrowPlace 13 = .ok (.getfield 24, 3) := by decide +kernel
theorem dX4_narrowPlace_16 : decode cX4_narrowPlace 16 = .ok (.iload_n 3, 1) := by decide +kernel
theorem dX4_narrowPlace_17 : decode cX4_narrowPlace 17 = .ok (.baload, 1) := by decide +kernel
theorem dX4_narrowPlace_18 : decode cX4_narrowPlace 18 = .ok (.ifCond .eq 18, 3) := by decide +kernel
theorem dX4_narrowPlace_21 : decode cX4_narrowPlace 21 = .ok (.iload_n 2, 1) := by decide +kernel
theorem dX4_narrowPlace_22 : decode cX4_narrowPlace 22 = .ok (.iload_n 1, 1) := by decide +kernel
theorem dX4_narrowPlace_23 : decode cX4_narrowPlace 23 = .ok (.if_icmp .ne 10, 3) := by decide +kernel
theorem dX4_narrowPlace_26 : decode cX4_narrowPlace 26 = .ok (.aload_n 0, 1) := by decide +kernel
theorem dX4_narrowPlace_27 : decode cX4_narrowPlace 27 = .ok (.getfield 15, 3) := by decide +kernel
theorem dX4_narrowPlace_30 : decode cX4_narrowPlace 30 = .ok (.iload_n 3, 1) := by decide +kernel
theorem dX4_narrowPlace_31 : decode cX4_narrowPlace 31 = .ok (.iaload, 1) := by decide +kernel
theorem dX4_narrowPlace_32 : decode cX4_narrowPlace 32 = .ok (.ireturn, 1) := by decide +kernel
theorem dX4_narrowPlace_33 : decode cX4_narrowPlace 33 = .ok (.iinc 2 1, 3) := by decide +kernel
theorem dX4_narrowPlace_36 : decode cX4_narrowPlace 36 = .ok (.iinc 3 1, 3) := by decide +kernel
theorem dX4_narrowPlace_39 : decode cX4_narrowPlace 39 = .ok (.goto (-35), 3) := by decide +kernel
theorem dX4_narrowPlace_42 : decode cX4_narrowPlace 42 = .ok (.iconst (-1), 1) := by decide +kernel
theorem dX4_narrowPlace_43 : decode cX4_narrowPlace 43 = .ok (.ireturn, 1) := by decide +kernel
theorem dX4_longestClimb_0 : decode cX4_longestClimb 0 = .ok (.iconst 0, 1) := by decide +kernel
theorem dX4_longestClimb_1 : decode cX4_longestClimb 1 = .ok (.istore_n 1, 1) := by decide +kernel
theorem dX4_longestClimb_2 : decode cX4_longestClimb 2 = .ok (.iconst 0, 1) := by decide +kernel
theorem dX4_longestClimb_3 : decode cX4_longestClimb 3 = .ok (.istore_n 2, 1) := by decide +kernel
theorem dX4_longestClimb_4 : decode cX4_longestClimb 4 = .ok (.iconst 0, 1) := by decide +kernel
theorem dX4_longestClimb_5 : decode cX4_longestClimb 5 = .ok (.istore_n 3, 1) := by decide +kernel
theorem dX4_longestClimb_6 : decode cX4_longestClimb 6 = .ok (.iload_n 3, 1) := by decide +kernel
theorem dX4_longestClimb_7 : decode cX4_longestClimb 7 = .ok (.aload_n 0, 1) := by decide +kernel
theorem dX4_longestClimb_8 : decode cX4_longestClimb 8 = .ok (.getfield 44, 3) := by decide +kernel
theorem dX4_longestClimb_11 : decode cX4_longestClimb 11 = .ok (.if_icmp .ge 44, 3) := by decide +kernel
theorem dX4_longestClimb_14 : decode cX4_longestClimb 14 = .ok (.iload_n 3, 1) := by decide +kernel
theorem dX4_longestClimb_15 : decode cX4_longestClimb 15 = .ok (.ifCond .le 26, 3) := by decide +kernel
theorem dX4_longestClimb_18 : decode cX4_longestClimb 18 = .ok (.aload_n 0, 1) := by decide +kernel
theorem dX4_longestClimb_19 : decode cX4_longestClimb 19 = .ok (.getfield 21, 3) := by decide +kernel
theorem dX4_longestClimb_22 : decode cX4_longestClimb 22 = .ok (.iload_n 3, 1) := by decide +kernel
theorem dX4_longestClimb_23 : decode cX4_longestClimb 23 = .ok (.iaload, 1) := by decide +kernel
theorem dX4_longestClimb_24 : decode cX4_longestClimb 24 = .ok (.aload_n 0, 1) := by decide +kernel
theorem dX4_longestClimb_25 : decode cX4_longestClimb 25 = .ok (.getfield 21, 3) := by decide +kernel
theorem dX4_longestClimb_28 : decode cX4_longestClimb 28 = .ok (.iload_n 3, 1) := by decide +kernel
theorem dX4_longestClimb_29 : decode cX4_longestClimb 29 = .ok (.iconst 1, 1) := by decide +kernel
theorem dX4_longestClimb_30 : decode cX4_longestClimb 30 = .ok (.isub, 1) := by decide +kernel
theorem dX4_longestClimb_31 : decode cX4_longestClimb 31 = .ok (.iaload, 1) := by decide +kernel
theorem dX4_longestClimb_32 : decode cX4_longestClimb 32 = .ok (.if_icmp .lt 9, 3) := by decide +kernel
theorem dX4_longestClimb_35 : decode cX4_longestClimb 35 = .ok (.iload_n 2, 1) := by decide +kernel
theorem dX4_longestClimb_36 : decode cX4_longestClimb 36 = .ok (.iconst 1, 1) := by decide +kernel
theorem dX4_longestClimb_37 : decode cX4_longestClimb 37 = .ok (.iadd, 1) := by decide +kernel
theorem dX4_longestClimb_38 : decode cX4_longestClimb 38 = .ok (.goto 4, 3) := by decide +kernel
theorem dX4_longestClimb_41 : decode cX4_longestClimb 41 = .ok (.iconst 1, 1) := by decide +kernel
theorem dX4_longestClimb_42 : decode cX4_longestClimb 42 = .ok (.istore_n 2, 1) := by decide +kernel
theorem dX4_longestClimb_43 : decode cX4_longestClimb 43 = .ok (.iload_n 1, 1) := by decide +kernel
theorem dX4_longestClimb_44 : decode cX4_longestClimb 44 = .ok (.iload_n 2, 1) := by decide +kernel
theorem dX4_longestClimb_45 : decode cX4_longestClimb 45 = .ok (.invokestatic 81, 3) := by decide +kernel
theorem dX4_longestClimb_48 : decode cX4_longestClimb 48 = .ok (.istore_n 1, 1) := by decide +kernel
theorem dX4_longestClimb_49 : decode cX4_longestClimb 49 = .ok (.iinc 3 1, 3) := by decide +kernel
theorem dX4_longestClimb_52 : decode cX4_longestClimb 52 = .ok (.goto (-46), 3) := by decide +kernel
theorem dX4_longestClimb_55 : decode cX4_longestClimb 55 = .ok (.iload_n 1, 1) := by decide +kernel
theorem dX4_longestClimb_56 : decode cX4_longestClimb 56 = .ok (.ireturn, 1) := by decide +kernel
theorem dX4_toRow_0 : decode cX4_toRow 0 = .ok (.new 87, 3) := by decide +kernel
theorem dX4_toRow_3 : decode cX4_toRow 3 = .ok (.dup, 1) := by decide +kernel
theorem dX4_toRow_4 : decode cX4_toRow 4 = .ok (.aload_n 0, 1) := by decide +kernel
theorem dX4_toRow_5 : decode cX4_toRow 5 = .ok (.invokevirtual 77, 3) := by decide +kernel
theorem dX4_toRow_8 : decode cX4_toRow 8 = .ok (.aload_n 0, 1) := by decide +kernel
theorem dX4_toRow_9 : decode cX4_toRow 9 = .ok (.getfield 37, 3) := by decide +kernel
theorem dX4_toRow_12 : decode cX4_toRow 12 = .ok (.invokevirtual 89, 3) := by decide +kernel
theorem dX4_toRow_15 : decode cX4_toRow 15 = .ok (.aload_n 0, 1) := by decide +kernel
theorem dX4_toRow_16 : decode cX4_toRow 16 = .ok (.getfield 41, 3) := by decide +kernel
theorem dX4_toRow_19 : decode cX4_toRow 19 = .ok (.invokevirtual 89, 3) := by decide +kernel
theorem dX4_toRow_22 : decode cX4_toRow 22 = .ok (.invokespecial 93, 3) := by decide +kernel
theorem dX4_toRow_25 : decode cX4_toRow 25 = .ok (.areturn, 1) := by decide +kernel
theorem dX4_orderAgainst_0 : decode cX4_orderAgainst 0 = .ok (.aload_n 0, 1) := by decide +kernel
theorem dX4_orderAgainst_1 : decode cX4_orderAgainst 1 = .ok (.invokevirtual 77, 3) := by decide +kernel
theorem dX4_orderAgainst_4 : decode cX4_orderAgainst 4 = .ok (.aload_n 1, 1) := by decide +kernel
theorem dX4_orderAgainst_5 : decode cX4_orderAgainst 5 = .ok (.getfield 96, 3) := by decide +kernel
theorem dX4_orderAgainst_8 : decode cX4_orderAgainst 8 = .ok (.invokestatic 99, 3) := by decide +kernel
theorem dX4_orderAgainst_11 : decode cX4_orderAgainst 11 = .ok (.istore_n 2, 1) := by decide +kernel
theorem dX4_orderAgainst_12 : decode cX4_orderAgainst 12 = .ok (.iload_n 2, 1) := by decide +kernel
theorem dX4_orderAgainst_13 : decode cX4_orderAgainst 13 = .ok (.ifCond .eq 5, 3) := by decide +kernel
theorem dX4_orderAgainst_16 : decode cX4_orderAgainst 16 = .ok (.iload_n 2, 1) := by decide +kernel
theorem dX4_orderAgainst_17 : decode cX4_orderAgainst 17 = .ok (.ireturn, 1) := by decide +kernel
theorem dX4_orderAgainst_18 : decode cX4_orderAgainst 18 = .ok (.aload_n 0, 1) := by decide +kernel
theorem dX4_orderAgainst_19 : decode cX4_orderAgainst 19 = .ok (.getfield 44, 3) := by decide +kernel
theorem dX4_orderAgainst_22 : decode cX4_orderAgainst 22 = .ok (.i2l, 1) := by decide +kernel
theorem dX4_orderAgainst_23 : decode cX4_orderAgainst 23 = .ok (.aload_n 1, 1) := by decide +kernel
theorem dX4_orderAgainst_24 : decode cX4_orderAgainst 24 = .ok (.getfield 103, 3) := by decide +kernel
theorem dX4_orderAgainst_27 : decode cX4_orderAgainst 27 = .ok (.invokevirtual 104, 3) := by decide +kernel
theorem dX4_orderAgainst_30 : decode cX4_orderAgainst 30 = .ok (.i2l, 1) := by decide +kernel
theorem dX4_orderAgainst_31 : decode cX4_orderAgainst 31 = .ok (.invokestatic 99, 3) := by decide +kernel
theorem dX4_orderAgainst_34 : decode cX4_orderAgainst 34 = .ok (.istore_n 3, 1) := by decide +kernel
theorem dX4_orderAgainst_35 : decode cX4_orderAgainst 35 = .ok (.iload_n 3, 1) := by decide +kernel
theorem dX4_orderAgainst_36 : decode cX4_orderAgainst 36 = .ok (.ifCond .eq 7, 3) := by decide +kernel
theorem dX4_orderAgainst_39 : decode cX4_orderAgainst 39 = .ok (.iload_n 3, 1) := by decide +kernel
theorem dX4_orderAgainst_40 : decode cX4_orderAgainst 40 = .ok (.goto 14, 3) := by decide +kernel
theorem dX4_orderAgainst_43 : decode cX4_orderAgainst 43 = .ok (.aload_n 0, 1) := by decide +kernel
theorem dX4_orderAgainst_44 : decode cX4_orderAgainst 44 = .ok (.getfield 37, 3) := by decide +kernel
theorem dX4_orderAgainst_47 : decode cX4_orderAgainst 47 = .ok (.aload_n 1, 1) := by decide +kernel
theorem dX4_orderAgainst_48 : decode cX4_orderAgainst 48 = .ok (.getfield 103, 3) := by decide +kernel
theorem dX4_orderAgainst_51 : decode cX4_orderAgainst 51 = .ok (.invokevirtual 108, 3) := by decide +kernel
theorem dX4_orderAgainst_54 : decode cX4_orderAgainst 54 = .ok (.ireturn, 1) := by decide +kernel
theorem dX4_hasStepsOf_0 : decode cX4_hasStepsOf 0 = .ok (.aload_n 0, 1) := by decide +kernel
theorem dX4_hasStepsOf_1 : decode cX4_hasStepsOf 1 = .ok (.getfield 41, 3) := by decide +kernel
theorem dX4_hasStepsOf_4 : decode cX4_hasStepsOf 4 = .ok (.invokevirtual 104, 3) := by decide +kernel
theorem dX4_hasStepsOf_7 : decode cX4_hasStepsOf 7 = .ok (.aload_n 1, 1) := by decide +kernel
theorem dX4_hasStepsOf_8 : decode cX4_hasStepsOf 8 = .ok (.getfield 112, 3) := by decide +kernel
theorem dX4_hasStepsOf_11 : decode cX4_hasStepsOf 11 = .ok (.invokevirtual 104, 3) := by decide +kernel
theorem dX4_hasStepsOf_14 : decode cX4_hasStepsOf 14 = .ok (.if_icmp .ne 21, 3) := by decide +kernel
theorem dX4_hasStepsOf_17 : decode cX4_hasStepsOf 17 = .ok (.aload_n 0, 1) := by decide +kernel
theorem dX4_hasStepsOf_18 : decode cX4_hasStepsOf 18 = .ok (.getfield 41, 3) := by decide +kernel
theorem dX4_hasStepsOf_21 : decode cX4_hasStepsOf 21 = .ok (.aload_n 1, 1) := by decide +kernel
theorem dX4_hasStepsOf_22 : decode cX4_hasStepsOf 22 = .ok (.getfield 112, 3) := by decide +kernel
theorem dX4_hasStepsOf_25 : decode cX4_hasStepsOf 25 = .ok (.invokevirtual 108, 3) := by decide +kernel
theorem dX4_hasStepsOf_28 : decode cX4_hasStepsOf 28 = .ok (.ifCond .ne 7, 3) := by decide +kernel
theorem dX4_hasStepsOf_31 : decode cX4_hasStepsOf 31 = .ok (.iconst 1, 1) := by decide +kernel
theorem dX4_hasStepsOf_32 : decode cX4_hasStepsOf 32 = .ok (.goto 4, 3) := by decide +kernel
theorem dX4_hasStepsOf_35 : decode cX4_hasStepsOf 35 = .ok (.iconst 0, 1) := by decide +kernel
theorem dX4_hasStepsOf_36 : decode cX4_hasStepsOf 36 = .ok (.ireturn, 1) := by decide +kernel
theorem dX4_wasNarrowAt_0 : decode cX4_wasNarrowAt 0 = .ok (.iconst 0, 1) := by decide +kernel
theorem dX4_wasNarrowAt_1 : decode cX4_wasNarrowAt 1 = .ok (.istore_n 2, 1) := by decide +kernel
theorem dX4_wasNarrowAt_2 : decode cX4_wasNarrowAt 2 = .ok (.iload_n 2, 1) := by decide +kernel
theorem dX4_wasNarrowAt_3 : decode cX4_wasNarrowAt 3 = .ok (.aload_n 0, 1) := by decide +kernel
theorem dX4_wasNarrowAt_4 : decode cX4_wasNarrowAt 4 = .ok (.getfield 44, 3) := by decide +kernel
theorem dX4_wasNarrowAt_7 : decode cX4_wasNarrowAt 7 = .ok (.if_icmp .ge 30, 3) := by decide +kernel
theorem dX4_wasNarrowAt_10 : decode cX4_wasNarrowAt 10 = .ok (.aload_n 0, 1) := by decide +kernel
theorem dX4_wasNarrowAt_11 : decode cX4_wasNarrowAt 11 = .ok (.getfield 24, 3) := by decide +kernel
theorem dX4_wasNarrowAt_14 : decode cX4_wasNarrowAt 14 = .ok (.iload_n 2, 1) := by decide +kernel
theorem dX4_wasNarrowAt_15 : decode cX4_wasNarrowAt 15 = .ok (.baload, 1) := by decide +kernel
theorem dX4_wasNarrowAt_16 : decode cX4_wasNarrowAt 16 = .ok (.ifCond .eq 15, 3) := by decide +kernel
theorem dX4_wasNarrowAt_19 : decode cX4_wasNarrowAt 19 = .ok (.aload_n 0, 1) := by decide +kernel
theorem dX4_wasNarrowAt_20 : decode cX4_wasNarrowAt 20 = .ok (.getfield 15, 3) := by decide +kernel
theorem dX4_wasNarrowAt_23 : decode cX4_wasNarrowAt 23 = .ok (.iload_n 2, 1) := by decide +kernel
theorem dX4_wasNarrowAt_24 : decode cX4_wasNarrowAt 24 = .ok (.iaload, 1) := by decide +kernel
theorem dX4_wasNarrowAt_25 : decode cX4_wasNarrowAt 25 = .ok (.iload_n 1, 1) := by decide +kernel
theorem dX4_wasNarrowAt_26 : decode cX4_wasNarrowAt 26 = .ok (.if_icmp .ne 5, 3) := by decide +kernel
theorem dX4_wasNarrowAt_29 : decode cX4_wasNarrowAt 29 = .ok (.iconst 1, 1) := by decide +kernel
theorem dX4_wasNarrowAt_30 : decode cX4_wasNarrowAt 30 = .ok (.ireturn, 1) := by decide +kernel
theorem dX4_wasNarrowAt_31 : decode cX4_wasNarrowAt 31 = .ok (.iinc 2 1, 3) := by decide +kernel
theorem dX4_wasNarrowAt_34 : decode cX4_wasNarrowAt 34 = .ok (.goto (-32), 3) := by decide +kernel
theorem dX4_wasNarrowAt_37 : decode cX4_wasNarrowAt 37 = .ok (.iconst 0, 1) := by decide +kernel
theorem dX4_wasNarrowAt_38 : decode cX4_wasNarrowAt 38 = .ok (.ireturn, 1) := by decide +kernel
theorem dX4_codeOf_0 : decode cX4_codeOf 0 = .ok (.iload_n 0, 1) := by decide +kernel
theorem dX4_codeOf_1 : decode cX4_codeOf 1 = .ok (.sipush 256, 3) := by decide +kernel
theorem dX4_codeOf_4 : decode cX4_codeOf 4 = .ok (.imul, 1) := by decide +kernel
theorem dX4_codeOf_5 : decode cX4_codeOf 5 = .ok (.iload_n 1, 1) := by decide +kernel
theorem dX4_codeOf_6 : decode cX4_codeOf 6 = .ok (.iadd, 1) := by decide +kernel
theorem dX4_codeOf_7 : decode cX4_codeOf 7 = .ok (.bipush 32, 2) := by decide +kernel
theorem dX4_codeOf_9 : decode cX4_codeOf 9 = .ok (.imul, 1) := by decide +kernel
theorem dX4_codeOf_10 : decode cX4_codeOf 10 = .ok (.iload_n 2, 1) := by decide +kernel
theorem dX4_codeOf_11 : decode cX4_codeOf 11 = .ok (.iadd, 1) := by decide +kernel
theorem dX4_codeOf_12 : decode cX4_codeOf 12 = .ok (.ireturn, 1) := by decide +kernel
