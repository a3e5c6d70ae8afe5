theorem dX3_init_0 : decode cX3_init 0 = .ok (.aload_n 0, 1) := by decide +kernel
theorem dX3_init_1 : decode cX3_init 1 = .ok (.invokespecial 1, 3) := by decide +kernel
theorem dX3_init_4 : decode cX3_init 4 = .ok (.aload_n 0, 1) := by decide +kernel
theorem dX3_init_5 : decode cX3_init 5 = .ok (.aload_n 1, 1) := by decide +kernel
theorem dX3_init_6 : decode cX3_init 6 = .ok (.putfield 7, 3) := by decide +kernel
theorem dX3_init_9 : decode cX3_init 9 = .ok (.aload_n 0, 1) := by decide +kernel
theorem dX3_init_10 : decode cX3_init 10 = .ok (.iload_n 2, 1) := by decide +kernel
theorem dX3_init_11 : decode cX3_init 11 = .ok (.putfield 13, 3) := by decide +kernel
theorem dX3_init_14 : decode cX3_init 14 = .ok (.return_, 1) := by decide +kernel
theorem dX3_size_0 : decode cX3_size 0 = .ok (.aload_n 0, 1) := by decide +kernel
theorem dX3_size_1 : decode cX3_size 1 = .ok (.getfield 13, 3) := by decide +kernel
theorem dX3_size_4 : decode cX3_size 4 = .ok (.ireturn, 1) := by decide +kernel
theorem dX3_copy_0 : decode cX3_copy 0 = .ok (.new 8, 3) := by decide +kernel
theorem dX3_copy_3 : decode cX3_copy 3 = .ok (.dup, 1) := by decide +kernel
theorem dX3_copy_4 : decode cX3_copy 4 = .ok (.aload_n 0, 1) := by decide +kernel
theorem dX3_copy_5 : decode cX3_copy 5 = .ok (.getfield 7, 3) := by decide +kernel
theorem dX3_copy_8 : decode cX3_copy 8 = .ok (.aload_n 0, 1) := by decide +kernel
theorem dX3_copy_9 : decode cX3_copy 9 = .ok (.getfield 13, 3) := by decide +kernel
theorem dX3_copy_12 : decode cX3_copy 12 = .ok (.invokestatic 17, 3) := by decide +kernel
theorem dX3_copy_15 : decode cX3_copy 15 = .ok (.aload_n 0, 1) := by decide +kernel
theorem dX3_copy_16 : decode cX3_copy 16 = .ok (.getfield 13, 3) := by decide +kernel
theorem dX3_copy_19 : decode cX3_copy 19 = .ok (.invokespecial 23, 3) := by decide +kernel
theorem dX3_copy_22 : decode cX3_copy 22 = .ok (.areturn, 1) := by decide +kernel
theorem dX3_put_0 : decode cX3_put 0 = .ok (.aload_n 0, 1) := by decide +kernel
theorem dX3_put_1 : decode cX3_put 1 = .ok (.getfield 13, 3) := by decide +kernel
theorem dX3_put_4 : decode cX3_put 4 = .ok (.aload_n 0, 1) := by decide +kernel
theorem dX3_put_5 : decode cX3_put 5 = .ok (.getfield 7, 3) := by decide +kernel
theorem dX3_put_8 : decode cX3_put 8 = .ok (.arraylength, 1) := by decide +kernel
theorem dX3_put_9 : decode cX3_put 9 = .ok (.if_icmp .lt 4, 3) := by decide +kernel
theorem dX3_put_12 : decode cX3_put 12 = .ok (.return_, 1) := by decide +kernel
theorem dX3_put_13 : decode cX3_put 13 = .ok (.aload_n 0, 1) := by decide +kernel
theorem dX3_put_14 : decode cX3_put 14 = .ok (.getfield 13, 3) := by decide +kernel
theorem dX3_put_17 : decode cX3_put 17 = .ok (.istore_n 2, 1) := by decide +kernel
theorem dX3_put_18 : decode cX3_put 18 = .ok (.iload_n 2, 1) := by decide +kernel
theorem dX3_put_19 : decode cX3_put 19 = .ok (.ifCond .le 35, 3) := by decide +kernel
theorem dX3_put_22 : decode cX3_put 22 = .ok (.aload_n 0, 1) := by decide +kernel
theorem dX3_put_23 : decode cX3_put 23 = .ok (.getfield 7, 3) := by decide +kernel
theorem dX3_put_26 : decode cX3_put 26 = .ok (.iload_n 2, 1) := by decide +kernel
theorem dX3_put_27 : decode cX3_put 27 = .ok (.iconst 1, 1) := by decide +kernel
theorem dX3_put_28 : decode cX3_put 28 = .ok (.isub, 1) := by decide +kernel
theorem dX3_put_29 : decode cX3_put 29 = .ok (.iaload, 1) := by decide +kernel
theorem dX3_put_30 : decode cX3_put 30 = .ok (.iload_n 1, 1) := by decide +kernel
theorem dX3_put_31 : decode cX3_put 31 = .ok (.if_icmp .le 23, 3) := by decide +kernel
theorem dX3_put_34 : decode cX3_put 34 = .ok (.aload_n 0, 1) := by decide +kernel
theorem dX3_put_35 : decode cX3_put 35 = .ok (.getfield 7, 3) := by decide +kernel
theorem dX3_put_38 : decode cX3_put 38 = .ok (.iload_n 2, 1) := by decide +kernel
theorem dX3_put_39 : decode cX3_put 39 = .ok (.aload_n 0, 1) := by decide +kernel
theorem dX3_put_40 : decode cX3_put 40 = .ok (.getfield 7, 3) := by decide +kernel
theorem dX3_put_43 : decode cX3_put 43 = .ok (.iload_n 2, 1) := by decide +kernel
theorem dX3_put_44 : decode cX3_put 44 = .ok (.iconst 1, 1) := by decide +kernel
theorem dX3_put_45 : decode cX3_put 45 = .ok (.isub, 1) := by decide +kernel
theorem dX3_put_46 : decode cX3_put 46 = .ok (.iaload, 1) := by decide +kernel
theorem dX3_put_47 : decode cX3_put 47 = .ok (.iastore, 1) := by decide +kernel
theorem dX3_put_48 : decode cX3_put 48 = .ok (.iinc 2 (-1), 3) := by decide +kernel
theorem dX3_put_51 : decode cX3_put 51 = .ok (.goto (-33), 3) := by decide +kernel
theorem dX3_put_54 : decode cX3_put 54 = .ok (.aload_n 0, 1) := by decide +kernel
theorem dX3_put_55 : decode cX3_put 55 = .ok (.getfield 7, 3) := by decide +kernel
theorem dX3_put_58 : decode cX3_put 58 = .ok (.iload_n 2, 1) := by decide +kernel
theorem dX3_put_59 : decode cX3_put 59 = .ok (.iload_n 1, 1) := by decide +kernel
theorem dX3_put_60 : decode cX3_put 60 = .ok (.iastore, 1) := by decide +kernel
theorem dX3_put_61 : decode cX3_put 61 = .ok (.aload_n 0, 1) := by decide +kernel
theorem dX3_put_62 : decode cX3_put 62 = .ok (.dup, 1) := by decide +kernel
theorem dX3_put_63 : decode cX3_put 63 = .ok (.getfield 13, 3) := by decide +kernel
theorem dX3_put_66 : decode cX3_put 66 = .ok (.iconst 1, 1) := by decide +kernel
theorem dX3_put_67 : decode cX3_put 67 = .ok (.iadd, 1) := by decide +kernel
theorem dX3_put_68 : decode cX3_put 68 = .ok (.putfield 13, 3) := by decide +kernel
theorem dX3_put_71 : decode cX3_put 71 = .ok (.return_, 1) := by decide +kernel
theorem dX3_take_0 : decode cX3_take 0 = .ok (.iconst 0, 1) := by decide +kernel
theorem dX3_take_1 : decode cX3_take 1 = .ok (.istore_n 2, 1) := by decide +kernel
theorem dX3_take_2 : decode cX3_take 2 = .ok (.iload_n 2, 1) := by decide +kernel
theorem dX3_take_3 : decode cX3_take 3 = .ok (.aload_n 0, 1) := by decide +kernel
theorem dX3_take_4 : decode cX3_take 4 = .ok (.getfield 13, 3) := by decide +kernel
theorem dX3_take_7 : decode cX3_take 7 = .ok (.if_icmp .ge 19, 3) := by decide +kernel
theorem dX3_take_10 : decode cX3_take 10 = .ok (.aload_n 0, 1) := by decide +kernel
theorem dX3_take_11 : decode cX3_take 11 = .ok (.getfield 7, 3) := by decide +kernel
theorem dX3_take_14 : decode cX3_take 14 = .ok (.iload_n 2, 1) := by decide +kernel
theorem dX3_take_15 : decode cX3_take 15 = .ok (.iaload, 1) := by decide +kernel
theorem dX3_take_16 : decode cX3_take 16 = .ok (.iload_n 1, 1) := by decide +kernel
theorem dX3_take_17 : decode cX3_take 17 = .ok (.if_icmp .eq 9, 3) := by decide +kernel
theorem dX3_take_20 : decode cX3_take 20 = .ok (.iinc 2 1, 3) := by decide +kernel
theorem dX3_take_23 : decode cX3_take 23 = .ok (.goto (-21), 3) := by decide +kernel
theorem dX3_take_26 : decode cX3_take 26 = .ok (.iload_n 2, 1) := by decide +kernel
theorem dX3_take_27 : decode cX3_take 27 = .ok (.aload_n 0, 1) := by decide +kernel
theorem dX3_take_28 : decode cX3_take 28 = .ok (.getfield 13, 3) := by decide +kernel
theorem dX3_take_31 : decode cX3_take 31 = .ok (.if_icmp .lt 4, 3) := by decide +kernel
theorem dX3_take_34 : decode cX3_take 34 = .ok (.return_, 1) := by decide +kernel
theorem dX3_take_35 : decode cX3_take 35 = .ok (.iload_n 2, 1) := by decide +kernel
theorem dX3_take_36 : decode cX3_take 36 = .ok (.iconst 1, 1) := by decide +kernel
theorem dX3_take_37 : decode cX3_take 37 = .ok (.iadd, 1) := by decide +kernel
theorem dX3_take_38 : decode cX3_take 38 = .ok (.istore_n 3, 1) := by decide +kernel
theorem dX3_take_39 : decode cX3_take 39 = .ok (.iload_n 3, 1) := by decide +kernel
theorem dX3_take_40 : decode cX3_take 40 = .ok (.aload_n 0, 1) := by decide +kernel
theorem dX3_take_41 : decode cX3_take 41 = .ok (.getfield 13, 3) := by decide +kernel
theorem dX3_take_44 : decode cX3_take 44 = .ok (.if_icmp .ge 23, 3) := by decide +kernel
theorem dX3_take_47 : decode cX3_take 47 = .ok (.aload_n 0, 1) := by decide +kernel
theorem dX3_take_48 : decode cX3_take 48 = .ok (.getfield 7, 3) := by decide +kernel
theorem dX3_take_51 : decode cX3_take 51 = .ok (.iload_n 3, 1) := by decide +kernel
theorem dX3_take_52 : decode cX3_take 52 = .ok (.iconst 1, 1) := by decide +kernel
theorem dX3_take_53 : decode cX3_take 53 = .ok (.isub, 1) := by decide +kernel
theorem dX3_take_54 : decode cX3_take 54 = .ok (.aload_n 0, 1) := by decide +kernel
theorem dX3_take_55 : decode cX3_take 55 = .ok (.getfield 7, 3) := by decide +kernel
theorem dX3_take_58 : decode cX3_take 58 = .ok (.iload_n 3, 1) := by decide +kernel
theorem dX3_take_59 : decode cX3_take 59 = .ok (.iaload, 1) := by decide +kernel
theorem dX3_take_60 : decode cX3_take 60 = .ok (.iastore, 1) := by decide +kernel
theorem dX3_take_61 : decode cX3_take 61 = .ok (.iinc 3 1, 3) := by decide +kernel
theorem dX3_take_64 : decode cX3_take 64 = .ok (.goto (-25), 3) := by decide +kernel
theorem dX3_take_67 : decode cX3_take 67 = .ok (.aload_n 0, 1) := by decide +kernel
theorem dX3_take_68 : decode cX3_take 68 = .ok (.dup, 1) := by decide +kernel
theorem dX3_take_69 : decode cX3_take 69 = .ok (.getfield 13, 3) := by decide +kernel
theorem dX3_take_72 : decode cX3_take 72 = .ok (.iconst 1, 1) := by decide +kernel
theorem dX3_take_73 : decode cX3_take 73 = .ok (.isub, 1) := by decide +kernel
theorem dX3_take_74 : decode cX3_take 74 = .ok (.putfield 13, 3) := by decide +kernel
theorem dX3_take_77 : decode cX3_take 77 = .ok (.return_, 1) := by decide +kernel
theorem dX3_orderFromGreatest_0 : decode cX3_orderFromGreatest 0 = .ok (.aload_n 0, 1) := by decide +kernel
theorem dX3_orderFromGreatest_1 : decode cX3_orderFromGreatest 1 = .ok (.getfield 13, 3) := by decide +kernel
theorem dX3_orderFromGreatest_4 : decode cX3_orderFromGreatest 4 = .ok (.aload_n 1, 1) := by decide +kernel
theorem dX3_orderFromGreatest_5 : decode cX3_orderFromGreatest 5 = .ok (.getfield 13, 3) := by decide +kernel
theorem dX3_orderFromGreatest_8 : decode cX3_orderFromGreatest 8 = .ok (.invokestatic 26, 3) := by decide +kernel
theorem dX3_orderFromGreatest_11 : decode cX3_orderFromGreatest 11 = .ok (.istore_n 2, 1) := by decide +kernel
theorem dX3_orderFromGreatest_12 : decode cX3_orderFromGreatest 12 = .ok (.iconst 1, 1) := by decide +kernel
theorem dX3_orderFromGreatest_13 : decode cX3_orderFromGreatest 13 = .ok (.istore_n 3, 1) := by decide +kernel
theorem dX3_orderFromGreatest_14 : decode cX3_orderFromGreatest 14 = .ok (.iload_n 3, 1) := by decide +kernel
theorem dX3_orderFromGreatest_15 : decode cX3_orderFromGreatest 15 = .ok (.iload_n 2, 1) := by decide +kernel
theorem dX3_orderFromGreatest_16 : decode cX3_orderFromGreatest 16 = .ok (.if_icmp .gt 46, 3) := by decide +kernel
theorem dX3_orderFromGreatest_19 : decode cX3_orderFromGreatest 19 = .ok (.aload_n 0, 1) := by decide +kernel
theorem dX3_orderFromGreatest_20 : decode cX3_orderFromGreatest 20 = .ok (.getfield 7, 3) := by decide +kernel
theorem dX3_orderFromGreatest_23 : decode cX3_orderFromGreatest 23 = .ok (.aload_n 0, 1) := by decide +kernel
theorem dX3_orderFromGreatest_24 : decode cX3_orderFromGreatest 24 = .ok (.getfield 13, 3) := by decide +kernel
theorem dX3_orderFromGreatest_27 : decode cX3_orderFromGreatest 27 = .ok (.iload_n 3, 1) := by decide +kernel
theorem dX3_orderFromGreatest_28 : decode cX3_orderFromGreatest 28 = .ok (.isub, 1) := by decide +kernel
theorem dX3_orderFromGreatest_29 : decode cX3_orderFromGreatest 29 = .ok (.iaload, 1) := by decide +kernel
theorem dX3_orderFromGreatest_30 : decode cX3_orderFromGreatest 30 = .ok (.i2l, 1) := by decide +kernel
theorem dX3_orderFromGreatest_31 : decode cX3_orderFromGreatest 31 = .ok (.aload_n 1, 1) := by decide +kernel
theorem dX3_orderFromGreatest_32 : decode cX3_orderFromGreatest 32 = .ok (.getfield 7, 3) := by decide +kernel
theorem dX3_orderFromGreatest_35 : decode cX3_orderFromGreatest 35 = .ok (.aload_n 1, 1) := by decide +kernel
theorem dX3_orderFromGreatest_36 : decode cX3_orderFromGreatest 36 = .ok (.getfield 13, 3) := by decide +kernel
theorem dX3_orderFromGreatest_39 : decode cX3_orderFromGreatest 39 = .ok (.iload_n 3, 1) := by decide +kernel
theorem dX3_orderFromGreatest_40 : decode cX3_orderFromGreatest 40 = .ok (.isub, 1) := by decide +kernel
theorem dX3_orderFromGreatest_41 : decode cX3_orderFromGreatest 41 = .ok (.iaload, 1) := by decide +kernel
theorem dX3_orderFromGreatest_42 : decode cX3_orderFromGreatest 42 = .ok (.i2l, 1) := by decide +kernel
theorem dX3_orderFromGreatest_43 : decode cX3_orderFromGreatest 43 = .ok (.invokestatic 32, 3) := by decide +kernel
theorem dX3_orderFromGreatest_46 : decode cX3_orderFromGreatest 46 = .ok (.istore 4, 2) := by decide +kernel
theorem dX3_orderFromGreatest_48 : decode cX3_orderFromGreatest 48 = .ok (.iload 4, 2) := by decide +kernel
theorem dX3_orderFromGreatest_50 : decode cX3_orderFromGreatest 50 = .ok (.ifCond .eq 6, 3) := by decide +kernel
theorem dX3_orderFromGreatest_53 : decode cX3_orderFromGreatest 53 = .ok (.iload 4, 2) := by decide +kernel
theorem dX3_orderFromGreatest_55 : decode cX3_orderFromGreatest 55 = .ok (.ireturn, 1) := by decide +kernel
theorem dX3_orderFromGreatest_56 : decode cX3_orderFromGreatest 56 = .ok (.iinc 3 1, 3) := by decide +kernel
theorem dX3_orderFromGreatest_59 : decode cX3_orderFromGreatest 59 = .ok (.goto (-45), 3) := by decide +kernel
theorem dX3_orderFromGreatest_62 : decode cX3_orderFromGreatest 62 = .ok (.iconst 0, 1) := by decide +kernel
theorem dX3_orderFromGreatest_63 : decode cX3_orderFromGreatest 63 = .ok (.ireturn, 1) := by decide +kernel
