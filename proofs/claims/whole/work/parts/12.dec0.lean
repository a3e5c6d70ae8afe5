theorem dX0_init_0 : decode cX0_init 0 = .ok (.aload_n 0, 1) := by decide +kernel
theorem dX0_init_1 : decode cX0_init 1 = .ok (.invokespecial 3, 3) := by decide +kernel
theorem dX0_init_4 : decode cX0_init 4 = .ok (.aload_n 0, 1) := by decide +kernel
theorem dX0_init_5 : decode cX0_init 5 = .ok (.bipush 20, 2) := by decide +kernel
theorem dX0_init_7 : decode cX0_init 7 = .ok (.newarray .long, 2) := by decide +kernel
theorem dX0_init_9 : decode cX0_init 9 = .ok (.putfield 9, 3) := by decide +kernel
theorem dX0_init_12 : decode cX0_init 12 = .ok (.aload_n 0, 1) := by decide +kernel
theorem dX0_init_13 : decode cX0_init 13 = .ok (.bipush 20, 2) := by decide +kernel
theorem dX0_init_15 : decode cX0_init 15 = .ok (.newarray .long, 2) := by decide +kernel
theorem dX0_init_17 : decode cX0_init 17 = .ok (.putfield 15, 3) := by decide +kernel
theorem dX0_init_20 : decode cX0_init 20 = .ok (.aload_n 0, 1) := by decide +kernel
theorem dX0_init_21 : decode cX0_init 21 = .ok (.iconst 0, 1) := by decide +kernel
theorem dX0_init_22 : decode cX0_init 22 = .ok (.putfield 18, 3) := by decide +kernel
theorem dX0_init_25 : decode cX0_init 25 = .ok (.return_, 1) := by decide +kernel
theorem dX0_add_0 : decode cX0_add 0 = .ok (.aload_n 0, 1) := by decide +kernel
theorem dX0_add_1 : decode cX0_add 1 = .ok (.getfield 18, 3) := by decide +kernel
theorem dX0_add_4 : decode cX0_add 4 = .ok (.bipush 20, 2) := by decide +kernel
theorem dX0_add_6 : decode cX0_add 6 = .ok (.if_icmp .ge 12, 3) := by decide +kernel
theorem dX0_add_9 : decode cX0_add 9 = .ok (.aload_n 0, 1) := by decide +kernel
theorem dX0_add_10 : decode cX0_add 10 = .ok (.lload_n 1, 1) := by decide +kernel
theorem dX0_add_11 : decode cX0_add 11 = .ok (.lload_n 3, 1) := by decide +kernel
theorem dX0_add_12 : decode cX0_add 12 = .ok (.invokevirtual 22, 3) := by decide +kernel
theorem dX0_add_15 : decode cX0_add 15 = .ok (.ifCond .eq 5, 3) := by decide +kernel
theorem dX0_add_18 : decode cX0_add 18 = .ok (.iconst (-1), 1) := by decide +kernel
theorem dX0_add_19 : decode cX0_add 19 = .ok (.ireturn, 1) := by decide +kernel
theorem dX0_add_20 : decode cX0_add 20 = .ok (.aload_n 0, 1) := by decide +kernel
theorem dX0_add_21 : decode cX0_add 21 = .ok (.getfield 9, 3) := by decide +kernel
theorem dX0_add_24 : decode cX0_add 24 = .ok (.aload_n 0, 1) := by decide +kernel
theorem dX0_add_25 : decode cX0_add 25 = .ok (.getfield 18, 3) := by decide +kernel
theorem dX0_add_28 : decode cX0_add 28 = .ok (.lload_n 1, 1) := by decide +kernel
theorem dX0_add_29 : decode cX0_add 29 = .ok (.lastore, 1) := by decide +kernel
theorem dX0_add_30 : decode cX0_add 30 = .ok (.aload_n 0, 1) := by decide +kernel
theorem dX0_add_31 : decode cX0_add 31 = .ok (.getfield 15, 3) := by decide +kernel
theorem dX0_add_34 : decode cX0_add 34 = .ok (.aload_n 0, 1) := by decide +kernel
theorem dX0_add_35 : decode cX0_add 35 = .ok (.getfield 18, 3) := by decide +kernel
theorem dX0_add_38 : decode cX0_add 38 = .ok (.lload_n 3, 1) := by decide +kernel
theorem dX0_add_39 : decode cX0_add 39 = .ok (.lastore, 1) := by decide +kernel
theorem dX0_add_40 : decode cX0_add 40 = .ok (.aload_n 0, 1) := by decide +kernel
theorem dX0_add_41 : decode cX0_add 41 = .ok (.dup, 1) := by decide +kernel
theorem dX0_add_42 : decode cX0_add 42 = .ok (.getfield 18, 3) := by decide +kernel
theorem dX0_add_45 : decode cX0_add 45 = .ok (.iconst 1, 1) := by decide +kernel
theorem dX0_add_46 : decode cX0_add 46 = .ok (.iadd, 1) := by decide +kernel
theorem dX0_add_47 : decode cX0_add 47 = .ok (.putfield 18, 3) := by decide +kernel
theorem dX0_add_50 : decode cX0_add 50 = .ok (.aload_n 0, 1) := by decide +kernel
theorem dX0_add_51 : decode cX0_add 51 = .ok (.getfield 18, 3) := by decide +kernel
theorem dX0_add_54 : decode cX0_add 54 = .ok (.iconst 1, 1) := by decide +kernel
theorem dX0_add_55 : decode cX0_add 55 = .ok (.isub, 1) := by decide +kernel
theorem dX0_add_56 : decode cX0_add 56 = .ok (.ireturn, 1) := by decide +kernel
theorem dX0_classOf_0 : decode cX0_classOf 0 = .ok (.iconst 0, 1) := by decide +kernel
theorem dX0_classOf_1 : decode cX0_classOf 1 = .ok (.istore_n 3, 1) := by decide +kernel
theorem dX0_classOf_2 : decode cX0_classOf 2 = .ok (.iload_n 3, 1) := by decide +kernel
theorem dX0_classOf_3 : decode cX0_classOf 3 = .ok (.aload_n 0, 1) := by decide +kernel
theorem dX0_classOf_4 : decode cX0_classOf 4 = .ok (.getfield 18, 3) := by decide +kernel
theorem dX0_classOf_7 : decode cX0_classOf 7 = .ok (.if_icmp .ge 33, 3) := by decide +kernel
theorem dX0_classOf_10 : decode cX0_classOf 10 = .ok (.aload_n 0, 1) := by decide +kernel
theorem dX0_classOf_11 : decode cX0_classOf 11 = .ok (.getfield 9, 3) := by decide +kernel
theorem dX0_classOf_14 : decode cX0_classOf 14 = .ok (.iload_n 3, 1) := by decide +kernel
theorem dX0_classOf_15 : decode cX0_classOf 15 = .ok (.laload, 1) := by decide +kernel
theorem dX0_classOf_16 : decode cX0_classOf 16 = .ok (.lload_n 1, 1) := by decide +kernel
theorem dX0_classOf_17 : decode cX0_classOf 17 = .ok (.lcmp, 1) := by decide +kernel
theorem dX0_classOf_18 : decode cX0_classOf 18 = .ok (.ifCond .gt 16, 3) := by decide +kernel
theorem dX0_classOf_21 : decode cX0_classOf 21 = .ok (.lload_n 1, 1) := by decide +kernel
theorem dX0_classOf_22 : decode cX0_classOf 22 = .ok (.aload_n 0, 1) := by decide +kernel
theorem dX0_classOf_23 : decode cX0_classOf 23 = .ok (.getfield 15, 3) := by decide +kernel
theorem dX0_classOf_26 : decode cX0_classOf 26 = .ok (.iload_n 3, 1) := by decide +kernel
theorem dX0_classOf_27 : decode cX0_classOf 27 = .ok (.laload, 1) := by decide +kernel
theorem dX0_classOf_28 : decode cX0_classOf 28 = .ok (.lcmp, 1) := by decide +kernel
theorem dX0_classOf_29 : decode cX0_classOf 29 = .ok (.ifCond .gt 5, 3) := by decide +kernel
theorem dX0_classOf_32 : decode cX0_classOf 32 = .ok (.iload_n 3, 1) := by decide +kernel
theorem dX0_classOf_33 : decode cX0_classOf 33 = .ok (.ireturn, 1) := by decide +kernel
theorem dX0_classOf_34 : decode cX0_classOf 34 = .ok (.iinc 3 1, 3) := by decide +kernel
theorem dX0_classOf_37 : decode cX0_classOf 37 = .ok (.goto (-35), 3) := by decide +kernel
theorem dX0_classOf_40 : decode cX0_classOf 40 = .ok (.iconst (-1), 1) := by decide +kernel
theorem dX0_classOf_41 : decode cX0_classOf 41 = .ok (.ireturn, 1) := by decide +kernel
theorem dX0_countBelow_0 : decode cX0_countBelow 0 = .ok (.iconst 0, 1) := by decide +kernel
theorem dX0_countBelow_1 : decode cX0_countBelow 1 = .ok (.istore_n 3, 1) := by decide +kernel
theorem dX0_countBelow_2 : decode cX0_countBelow 2 = .ok (.iconst 0, 1) := by decide +kernel
theorem dX0_countBelow_3 : decode cX0_countBelow 3 = .ok (.istore 4, 2) := by decide +kernel
theorem dX0_countBelow_5 : decode cX0_countBelow 5 = .ok (.iload 4, 2) := by decide +kernel
theorem dX0_countBelow_7 : decode cX0_countBelow 7 = .ok (.aload_n 0, 1) := by decide +kernel
theorem dX0_countBelow_8 : decode cX0_countBelow 8 = .ok (.getfield 18, 3) := by decide +kernel
theorem dX0_countBelow_11 : decode cX0_countBelow 11 = .ok (.if_icmp .ge 24, 3) := by decide +kernel
theorem dX0_countBelow_14 : decode cX0_countBelow 14 = .ok (.aload_n 0, 1) := by decide +kernel
theorem dX0_countBelow_15 : decode cX0_countBelow 15 = .ok (.getfield 15, 3) := by decide +kernel
theorem dX0_countBelow_18 : decode cX0_countBelow 18 = .ok (.iload 4, 2) := by decide +kernel
theorem dX0_countBelow_20 : decode cX0_countBelow 20 = .ok (.laload, 1) := by decide +kernel
theorem dX0_countBelow_21 : decode cX0_countBelow 21 = .ok (.lload_n 1, 1) := by decide +kernel
theorem dX0_countBelow_22 : decode cX0_countBelow 22 = .ok (.lcmp, 1) := by decide +kernel
theorem dX0_countBelow_23 : decode cX0_countBelow 23 = .ok (.ifCond .ge 6, 3) := by decide +kernel
theorem dX0_countBelow_26 : decode cX0_countBelow 26 = .ok (.iinc 3 1, 3) := by decide +kernel
theorem dX0_countBelow_29 : decode cX0_countBelow 29 = .ok (.iinc 4 1, 3) := by decide +kernel
theorem dX0_countBelow_32 : decode cX0_countBelow 32 = .ok (.goto (-27), 3) := by decide +kernel
theorem dX0_countBelow_35 : decode cX0_countBelow 35 = .ok (.iload_n 3, 1) := by decide +kernel
theorem dX0_countBelow_36 : decode cX0_countBelow 36 = .ok (.ireturn, 1) := by decide +kernel
theorem dX0_firstFree_0 : decode cX0_firstFree 0 = .ok (.lload_n 1, 1) := by decide +kernel
theorem dX0_firstFree_1 : decode cX0_firstFree 1 = .ok (.lstore_n 3, 1) := by decide +kernel
theorem dX0_firstFree_2 : decode cX0_firstFree 2 = .ok (.iconst 0, 1) := by decide +kernel
theorem dX0_firstFree_3 : decode cX0_firstFree 3 = .ok (.istore 5, 2) := by decide +kernel
theorem dX0_firstFree_5 : decode cX0_firstFree 5 = .ok (.iload 5, 2) := by decide +kernel
theorem dX0_firstFree_7 : decode cX0_firstFree 7 = .ok (.aload_n 0, 1) := by decide +kernel
theorem dX0_firstFree_8 : decode cX0_firstFree 8 = .ok (.getfield 18, 3) := by decide +kernel
theorem dX0_firstFree_11 : decode cX0_firstFree 11 = .ok (.if_icmp .ge 33, 3) := by decide +kernel
theorem dX0_firstFree_14 : decode cX0_firstFree 14 = .ok (.aload_n 0, 1) := by decide +kernel
theorem dX0_firstFree_15 : decode cX0_firstFree 15 = .ok (.lload_n 3, 1) := by decide +kernel
theorem dX0_firstFree_16 : decode cX0_firstFree 16 = .ok (.invokevirtual 26, 3) := by decide +kernel
theorem dX0_firstFree_19 : decode cX0_firstFree 19 = .ok (.istore 6, 2) := by decide +kernel
theorem dX0_firstFree_21 : decode cX0_firstFree 21 = .ok (.iload 6, 2) := by decide +kernel
theorem dX0_firstFree_23 : decode cX0_firstFree 23 = .ok (.ifCond .ge 5, 3) := by decide +kernel
theorem dX0_firstFree_26 : decode cX0_firstFree 26 = .ok (.lload_n 3, 1) := by decide +kernel
theorem dX0_firstFree_27 : decode cX0_firstFree 27 = .ok (.lreturn, 1) := by decide +kernel
theorem dX0_firstFree_28 : decode cX0_firstFree 28 = .ok (.aload_n 0, 1) := by decide +kernel
theorem dX0_firstFree_29 : decode cX0_firstFree 29 = .ok (.getfield 15, 3) := by decide +kernel
theorem dX0_firstFree_32 : decode cX0_firstFree 32 = .ok (.iload 6, 2) := by decide +kernel
theorem dX0_firstFree_34 : decode cX0_firstFree 34 = .ok (.laload, 1) := by decide +kernel
theorem dX0_firstFree_35 : decode cX0_firstFree 35 = .ok (.lconst 1, 1) := by decide +kernel
theorem dX0_firstFree_36 : decode cX0_firstFree 36 = .ok (.ladd, 1) := by decide +kernel
theorem dX0_firstFree_37 : decode cX0_firstFree 37 = .ok (.lstore_n 3, 1) := by decide +kernel
theorem dX0_firstFree_38 : decode cX0_firstFree 38 = .ok (.iinc 5 1, 3) := by decide +kernel
theorem dX0_firstFree_41 : decode cX0_firstFree 41 = .ok (.goto (-36), 3) := by decide +kernel
theorem dX0_firstFree_44 : decode cX0_firstFree 44 = .ok (.lload_n 3, 1) := by decide +kernel
theorem dX0_firstFree_45 : decode cX0_firstFree 45 = .ok (.lreturn, 1) := by decide +kernel
theorem dX0_hasOneOf_0 : decode cX0_hasOneOf 0 = .ok (.iconst 0, 1) := by decide +kernel
theorem dX0_hasOneOf_1 : decode cX0_hasOneOf 1 = .ok (.istore 5, 2) := by decide +kernel
theorem dX0_hasOneOf_3 : decode cX0_hasOneOf 3 = .ok (.iload 5, 2) := by decide +kernel
theorem dX0_hasOneOf_5 : decode cX0_hasOneOf 5 = .ok (.aload_n 0, 1) := by decide +kernel
theorem dX0_hasOneOf_6 : decode cX0_hasOneOf 6 = .ok (.getfield 18, 3) := by decide +kernel
theorem dX0_hasOneOf_9 : decode cX0_hasOneOf 9 = .ok (.if_icmp .ge 35, 3) := by decide +kernel
theorem dX0_hasOneOf_12 : decode cX0_hasOneOf 12 = .ok (.aload_n 0, 1) := by decide +kernel
theorem dX0_hasOneOf_13 : decode cX0_hasOneOf 13 = .ok (.getfield 9, 3) := by decide +kernel
theorem dX0_hasOneOf_16 : decode cX0_hasOneOf 16 = .ok (.iload 5, 2) := by decide +kernel
theorem dX0_hasOneOf_18 : decode cX0_hasOneOf 18 = .ok (.laload, 1) := by decide +kernel
theorem dX0_hasOneOf_19 : decode cX0_hasOneOf 19 = .ok (.lload_n 3, 1) := by decide +kernel
theorem dX0_hasOneOf_20 : decode cX0_hasOneOf 20 = .ok (.lcmp, 1) := by decide +kernel
theorem dX0_hasOneOf_21 : decode cX0_hasOneOf 21 = .ok (.ifCond .gt 17, 3) := by decide +kernel
theorem dX0_hasOneOf_24 : decode cX0_hasOneOf 24 = .ok (.lload_n 1, 1) := by decide +kernel
theorem dX0_hasOneOf_25 : decode cX0_hasOneOf 25 = .ok (.aload_n 0, 1) := by decide +kernel
theorem dX0_hasOneOf_26 : decode cX0_hasOneOf 26 = .ok (.getfield 15, 3) := by decide +kernel
theorem dX0_hasOneOf_29 : decode cX0_hasOneOf 29 = .ok (.iload 5, 2) := by decide +kernel
theorem dX0_hasOneOf_31 : decode cX0_hasOneOf 31 = .ok (.laload, 1) := by decide +kernel
theorem dX0_hasOneOf_32 : decode cX0_hasOneOf 32 = .ok (.lcmp, 1) := by decide +kernel
theorem dX0_hasOneOf_33 : decode cX0_hasOneOf 33 = .ok (.ifCond .gt 5, 3) := by decide +kernel
theorem dX0_hasOneOf_36 : decode cX0_hasOneOf 36 = .ok (.iconst 1, 1) := by decide +kernel
theorem dX0_hasOneOf_37 : decode cX0_hasOneOf 37 = .ok (.ireturn, 1) := by decide +kernel
theorem dX0_hasOneOf_38 : decode cX0_hasOneOf 38 = .ok (.iinc 5 1, 3) := by decide +kernel
theorem dX0_hasOneOf_41 : decode cX0_hasOneOf 41 = .ok (.goto (-38), 3) := by decide +kernel
theorem dX0_hasOneOf_44 : decode cX0_hasOneOf 44 = .ok (.iconst 0, 1) := by decide +kernel
theorem dX0_hasOneOf_45 : decode cX0_hasOneOf 45 = .ok (.ireturn, 1) := by decide +kernel
