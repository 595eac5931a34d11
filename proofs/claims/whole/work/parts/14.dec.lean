theorem dX6_put_0 : decode cX6_put 0 = .ok (.aload_n 0, 1) := by decide +kernel
theorem dX6_put_1 : decode cX6_put 1 = .ok (.getfield 60, 3) := by decide +kernel
theorem dX6_put_4 : decode cX6_put 4 = .ok (.ifCond .ne 14, 3) := by decide +kernel
theorem dX6_put_7 : decode cX6_put 7 = .ok (.aload_n 0, 1) := by decide +kernel
theorem dX6_put_8 : decode cX6_put 8 = .ok (.getfield 13, 3) := by decide +kernel
theorem dX6_put_11 : decode cX6_put 11 = .ok (.iload_n 1, 1) := by decide +kernel
theorem dX6_put_12 : decode cX6_put 12 = .ok (.iaload, 1) := by decide +kernel
theorem dX6_put_13 : decode cX6_put 13 = .ok (.bipush 8, 2) := by decide +kernel
theorem dX6_put_15 : decode cX6_put 15 = .ok (.if_icmp .ne 6, 3) := by decide +kernel
theorem dX6_put_18 : decode cX6_put 18 = .ok (.bipush (-3), 2) := by decide +kernel
theorem dX6_put_20 : decode cX6_put 20 = .ok (.ireturn, 1) := by decide +kernel
theorem dX6_put_21 : decode cX6_put 21 = .ok (.bipush 8, 2) := by decide +kernel
theorem dX6_put_23 : decode cX6_put 23 = .ok (.iload_n 1, 1) := by decide +kernel
theorem dX6_put_24 : decode cX6_put 24 = .ok (.imul, 1) := by decide +kernel
theorem dX6_put_25 : decode cX6_put 25 = .ok (.aload_n 0, 1) := by decide +kernel
theorem dX6_put_26 : decode cX6_put 26 = .ok (.getfield 13, 3) := by decide +kernel
theorem dX6_put_29 : decode cX6_put 29 = .ok (.iload_n 1, 1) := by decide +kernel
theorem dX6_put_30 : decode cX6_put 30 = .ok (.iaload, 1) := by decide +kernel
theorem dX6_put_31 : decode cX6_put 31 = .ok (.iadd, 1) := by decide +kernel
theorem dX6_put_32 : decode cX6_put 32 = .ok (.istore 4, 2) := by decide +kernel
theorem dX6_put_34 : decode cX6_put 34 = .ok (.aload_n 0, 1) := by decide +kernel
theorem dX6_put_35 : decode cX6_put 35 = .ok (.getfield 13, 3) := by decide +kernel
theorem dX6_put_38 : decode cX6_put 38 = .ok (.iload_n 1, 1) := by decide +kernel
theorem dX6_put_39 : decode cX6_put 39 = .ok (.dup2, 1) := by decide +kernel
theorem dX6_put_40 : decode cX6_put 40 = .ok (.iaload, 1) := by decide +kernel
theorem dX6_put_41 : decode cX6_put 41 = .ok (.iconst 1, 1) := by decide +kernel
theorem dX6_put_42 : decode cX6_put 42 = .ok (.iadd, 1) := by decide +kernel
theorem dX6_put_43 : decode cX6_put 43 = .ok (.iastore, 1) := by decide +kernel
theorem dX6_put_44 : decode cX6_put 44 = .ok (.aload_n 0, 1) := by decide +kernel
theorem dX6_put_45 : decode cX6_put 45 = .ok (.getfield 17, 3) := by decide +kernel
theorem dX6_put_48 : decode cX6_put 48 = .ok (.iload 4, 2) := by decide +kernel
theorem dX6_put_50 : decode cX6_put 50 = .ok (.iconst 2, 1) := by decide +kernel
theorem dX6_put_51 : decode cX6_put 51 = .ok (.iastore, 1) := by decide +kernel
theorem dX6_put_52 : decode cX6_put 52 = .ok (.aload_n 0, 1) := by decide +kernel
theorem dX6_put_53 : decode cX6_put 53 = .ok (.getfield 20, 3) := by decide +kernel
theorem dX6_put_56 : decode cX6_put 56 = .ok (.bipush 24, 2) := by decide +kernel
theorem dX6_put_58 : decode cX6_put 58 = .ok (.iload 4, 2) := by decide +kernel
theorem dX6_put_60 : decode cX6_put 60 = .ok (.imul, 1) := by decide +kernel
theorem dX6_put_61 : decode cX6_put 61 = .ok (.iload_n 2, 1) := by decide +kernel
theorem dX6_put_62 : decode cX6_put 62 = .ok (.iastore, 1) := by decide +kernel
theorem dX6_put_63 : decode cX6_put 63 = .ok (.aload_n 0, 1) := by decide +kernel
theorem dX6_put_64 : decode cX6_put 64 = .ok (.getfield 20, 3) := by decide +kernel
theorem dX6_put_67 : decode cX6_put 67 = .ok (.bipush 24, 2) := by decide +kernel
theorem dX6_put_69 : decode cX6_put 69 = .ok (.iload 4, 2) := by decide +kernel
theorem dX6_put_71 : decode cX6_put 71 = .ok (.imul, 1) := by decide +kernel
theorem dX6_put_72 : decode cX6_put 72 = .ok (.iconst 1, 1) := by decide +kernel
theorem dX6_put_73 : decode cX6_put 73 = .ok (.iadd, 1) := by decide +kernel
theorem dX6_put_74 : decode cX6_put 74 = .ok (.iload_n 3, 1) := by decide +kernel
theorem dX6_put_75 : decode cX6_put 75 = .ok (.iastore, 1) := by decide +kernel
theorem dX6_put_76 : decode cX6_put 76 = .ok (.iload 4, 2) := by decide +kernel
theorem dX6_put_78 : decode cX6_put 78 = .ok (.ireturn, 1) := by decide +kernel
theorem dX6_more_0 : decode cX6_more 0 = .ok (.iload_n 1, 1) := by decide +kernel
theorem dX6_more_1 : decode cX6_more 1 = .ok (.bipush (-3), 2) := by decide +kernel
theorem dX6_more_3 : decode cX6_more 3 = .ok (.if_icmp .eq 34, 3) := by decide +kernel
theorem dX6_more_6 : decode cX6_more 6 = .ok (.aload_n 0, 1) := by decide +kernel
theorem dX6_more_7 : decode cX6_more 7 = .ok (.getfield 20, 3) := by decide +kernel
theorem dX6_more_10 : decode cX6_more 10 = .ok (.bipush 24, 2) := by decide +kernel
theorem dX6_more_12 : decode cX6_more 12 = .ok (.iload_n 1, 1) := by decide +kernel
theorem dX6_more_13 : decode cX6_more 13 = .ok (.imul, 1) := by decide +kernel
theorem dX6_more_14 : decode cX6_more 14 = .ok (.aload_n 0, 1) := by decide +kernel
theorem dX6_more_15 : decode cX6_more 15 = .ok (.getfield 17, 3) := by decide +kernel
theorem dX6_more_18 : decode cX6_more 18 = .ok (.iload_n 1, 1) := by decide +kernel
theorem dX6_more_19 : decode cX6_more 19 = .ok (.iaload, 1) := by decide +kernel
theorem dX6_more_20 : decode cX6_more 20 = .ok (.iadd, 1) := by decide +kernel
theorem dX6_more_21 : decode cX6_more 21 = .ok (.iload_n 2, 1) := by decide +kernel
theorem dX6_more_22 : decode cX6_more 22 = .ok (.sipush 255, 3) := by decide +kernel
theorem dX6_more_25 : decode cX6_more 25 = .ok (.iand, 1) := by decide +kernel
theorem dX6_more_26 : decode cX6_more 26 = .ok (.iastore, 1) := by decide +kernel
theorem dX6_more_27 : decode cX6_more 27 = .ok (.aload_n 0, 1) := by decide +kernel
theorem dX6_more_28 : decode cX6_more 28 = .ok (.getfield 17, 3) := by decide +kernel
theorem dX6_more_31 : decode cX6_more 31 = .ok (.iload_n 1, 1) := by decide +kernel
theorem dX6_more_32 : decode cX6_more 32 = .ok (.dup2, 1) := by decide +kernel
theorem dX6_more_33 : decode cX6_more 33 = .ok (.iaload, 1) := by decide +kernel
theorem dX6_more_34 : decode cX6_more 34 = .ok (.iconst 1, 1) := by decide +kernel
theorem dX6_more_35 : decode cX6_more 35 = .ok (.iadd, 1) := by decide +kernel
theorem dX6_more_36 : decode cX6_more 36 = .ok (.iastore, 1) := by decide +kernel
theorem dX6_more_37 : decode cX6_more 37 = .ok (.return_, 1) := by decide +kernel
theorem dX6_tell_0 : decode cX6_tell 0 = .ok (.aload_n 0, 1) := by decide +kernel
theorem dX6_tell_1 : decode cX6_tell 1 = .ok (.iload_n 1, 1) := by decide +kernel
theorem dX6_tell_2 : decode cX6_tell 2 = .ok (.iload_n 2, 1) := by decide +kernel
theorem dX6_tell_3 : decode cX6_tell 3 = .ok (.iload_n 3, 1) := by decide +kernel
theorem dX6_tell_4 : decode cX6_tell 4 = .ok (.invokevirtual 64, 3) := by decide +kernel
theorem dX6_tell_7 : decode cX6_tell 7 = .ok (.istore 7, 2) := by decide +kernel
theorem dX6_tell_9 : decode cX6_tell 9 = .ok (.aload_n 0, 1) := by decide +kernel
theorem dX6_tell_10 : decode cX6_tell 10 = .ok (.iload 7, 2) := by decide +kernel
theorem dX6_tell_12 : decode cX6_tell 12 = .ok (.iload 4, 2) := by decide +kernel
theorem dX6_tell_14 : decode cX6_tell 14 = .ok (.invokevirtual 68, 3) := by decide +kernel
theorem dX6_tell_17 : decode cX6_tell 17 = .ok (.aload_n 0, 1) := by decide +kernel
theorem dX6_tell_18 : decode cX6_tell 18 = .ok (.iload 7, 2) := by decide +kernel
theorem dX6_tell_20 : decode cX6_tell 20 = .ok (.iload 5, 2) := by decide +kernel
theorem dX6_tell_22 : decode cX6_tell 22 = .ok (.invokevirtual 68, 3) := by decide +kernel
theorem dX6_tell_25 : decode cX6_tell 25 = .ok (.iload 5, 2) := by decide +kernel
theorem dX6_tell_27 : decode cX6_tell 27 = .ok (.iconst 1, 1) := by decide +kernel
theorem dX6_tell_28 : decode cX6_tell 28 = .ok (.isub, 1) := by decide +kernel
theorem dX6_tell_29 : decode cX6_tell 29 = .ok (.istore 8, 2) := by decide +kernel
theorem dX6_tell_31 : decode cX6_tell 31 = .ok (.iload 8, 2) := by decide +kernel
theorem dX6_tell_33 : decode cX6_tell 33 = .ok (.ifCond .lt 23, 3) := by decide +kernel
theorem dX6_tell_36 : decode cX6_tell 36 = .ok (.aload_n 0, 1) := by decide +kernel
theorem dX6_tell_37 : decode cX6_tell 37 = .ok (.iload 7, 2) := by decide +kernel
theorem dX6_tell_39 : decode cX6_tell 39 = .ok (.iload 6, 2) := by decide +kernel
theorem dX6_tell_41 : decode cX6_tell 41 = .ok (.bipush 8, 2) := by decide +kernel
theorem dX6_tell_43 : decode cX6_tell 43 = .ok (.iload 8, 2) := by decide +kernel
theorem dX6_tell_45 : decode cX6_tell 45 = .ok (.imul, 1) := by decide +kernel
theorem dX6_tell_46 : decode cX6_tell 46 = .ok (.ishr, 1) := by decide +kernel
theorem dX6_tell_47 : decode cX6_tell 47 = .ok (.invokevirtual 68, 3) := by decide +kernel
theorem dX6_tell_50 : decode cX6_tell 50 = .ok (.iinc 8 (-1), 3) := by decide +kernel
theorem dX6_tell_53 : decode cX6_tell 53 = .ok (.goto (-22), 3) := by decide +kernel
theorem dX6_tell_56 : decode cX6_tell 56 = .ok (.return_, 1) := by decide +kernel
theorem dX6_isGood_0 : decode cX6_isGood 0 = .ok (.iconst 2, 1) := by decide +kernel
theorem dX6_isGood_1 : decode cX6_isGood 1 = .ok (.istore_n 1, 1) := by decide +kernel
theorem dX6_isGood_2 : decode cX6_isGood 2 = .ok (.iload_n 1, 1) := by decide +kernel
theorem dX6_isGood_3 : decode cX6_isGood 3 = .ok (.iconst 1, 1) := by decide +kernel
theorem dX6_isGood_4 : decode cX6_isGood 4 = .ok (.iadd, 1) := by decide +kernel
theorem dX6_isGood_5 : decode cX6_isGood 5 = .ok (.aload_n 0, 1) := by decide +kernel
theorem dX6_isGood_6 : decode cX6_isGood 6 = .ok (.getfield 72, 3) := by decide +kernel
theorem dX6_isGood_9 : decode cX6_isGood 9 = .ok (.if_icmp .ge 19, 3) := by decide +kernel
theorem dX6_isGood_12 : decode cX6_isGood 12 = .ok (.iload_n 1, 1) := by decide +kernel
theorem dX6_isGood_13 : decode cX6_isGood 13 = .ok (.iconst 2, 1) := by decide +kernel
theorem dX6_isGood_14 : decode cX6_isGood 14 = .ok (.iadd, 1) := by decide +kernel
theorem dX6_isGood_15 : decode cX6_isGood 15 = .ok (.aload_n 0, 1) := by decide +kernel
theorem dX6_isGood_16 : decode cX6_isGood 16 = .ok (.getfield 48, 3) := by decide +kernel
theorem dX6_isGood_19 : decode cX6_isGood 19 = .ok (.iload_n 1, 1) := by decide +kernel
theorem dX6_isGood_20 : decode cX6_isGood 20 = .ok (.iconst 1, 1) := by decide +kernel
theorem dX6_isGood_21 : decode cX6_isGood 21 = .ok (.iadd, 1) := by decide +kernel
theorem dX6_isGood_22 : decode cX6_isGood 22 = .ok (.iaload, 1) := by decide +kernel
theorem dX6_isGood_23 : decode cX6_isGood 23 = .ok (.iadd, 1) := by decide +kernel
theorem dX6_isGood_24 : decode cX6_isGood 24 = .ok (.istore_n 1, 1) := by decide +kernel
theorem dX6_isGood_25 : decode cX6_isGood 25 = .ok (.goto (-23), 3) := by decide +kernel
theorem dX6_isGood_28 : decode cX6_isGood 28 = .ok (.iload_n 1, 1) := by decide +kernel
theorem dX6_isGood_29 : decode cX6_isGood 29 = .ok (.aload_n 0, 1) := by decide +kernel
theorem dX6_isGood_30 : decode cX6_isGood 30 = .ok (.getfield 72, 3) := by decide +kernel
theorem dX6_isGood_33 : decode cX6_isGood 33 = .ok (.if_icmp .ne 7, 3) := by decide +kernel
theorem dX6_isGood_36 : decode cX6_isGood 36 = .ok (.iconst 1, 1) := by decide +kernel
theorem dX6_isGood_37 : decode cX6_isGood 37 = .ok (.goto 4, 3) := by decide +kernel
theorem dX6_isGood_40 : decode cX6_isGood 40 = .ok (.iconst 0, 1) := by decide +kernel
theorem dX6_isGood_41 : decode cX6_isGood 41 = .ok (.ireturn, 1) := by decide +kernel
theorem dX6_find_0 : decode cX6_find 0 = .ok (.iconst 2, 1) := by decide +kernel
theorem dX6_find_1 : decode cX6_find 1 = .ok (.istore_n 2, 1) := by decide +kernel
theorem dX6_find_2 : decode cX6_find 2 = .ok (.iload_n 2, 1) := by decide +kernel
theorem dX6_find_3 : decode cX6_find 3 = .ok (.aload_n 0, 1) := by decide +kernel
theorem dX6_find_4 : decode cX6_find 4 = .ok (.getfield 72, 3) := by decide +kernel
theorem dX6_find_7 : decode cX6_find 7 = .ok (.if_icmp .ge 29, 3) := by decide +kernel
theorem dX6_find_10 : decode cX6_find 10 = .ok (.aload_n 0, 1) := by decide +kernel
theorem dX6_find_11 : decode cX6_find 11 = .ok (.getfield 48, 3) := by decide +kernel
theorem dX6_find_14 : decode cX6_find 14 = .ok (.iload_n 2, 1) := by decide +kernel
theorem dX6_find_15 : decode cX6_find 15 = .ok (.iaload, 1) := by decide +kernel
theorem dX6_find_16 : decode cX6_find 16 = .ok (.iload_n 1, 1) := by decide +kernel
theorem dX6_find_17 : decode cX6_find 17 = .ok (.if_icmp .eq 19, 3) := by decide +kernel
theorem dX6_find_20 : decode cX6_find 20 = .ok (.iload_n 2, 1) := by decide +kernel
theorem dX6_find_21 : decode cX6_find 21 = .ok (.iconst 2, 1) := by decide +kernel
theorem dX6_find_22 : decode cX6_find 22 = .ok (.iadd, 1) := by decide +kernel
theorem dX6_find_23 : decode cX6_find 23 = .ok (.aload_n 0, 1) := by decide +kernel
theorem dX6_find_24 : decode cX6_find 24 = .ok (.getfield 48, 3) := by decide +kernel
theorem dX6_find_27 : decode cX6_find 27 = .ok (.iload_n 2, 1) := by decide +kernel
theorem dX6_find_28 : decode cX6_find 28 = .ok (.iconst 1, 1) := by decide +kernel
theorem dX6_find_29 : decode cX6_find 29 = .ok (.iadd, 1) := by decide +kernel
theorem dX6_find_30 : decode cX6_find 30 = .ok (.iaload, 1) := by decide +kernel
theorem dX6_find_31 : decode cX6_find 31 = .ok (.iadd, 1) := by decide +kernel
theorem dX6_find_32 : decode cX6_find 32 = .ok (.istore_n 2, 1) := by decide +kernel
theorem dX6_find_33 : decode cX6_find 33 = .ok (.goto (-31), 3) := by decide +kernel
theorem dX6_find_36 : decode cX6_find 36 = .ok (.iload_n 2, 1) := by decide +kernel
theorem dX6_find_37 : decode cX6_find 37 = .ok (.aload_n 0, 1) := by decide +kernel
theorem dX6_find_38 : decode cX6_find 38 = .ok (.getfield 72, 3) := by decide +kernel
theorem dX6_find_41 : decode cX6_find 41 = .ok (.if_icmp .ge 9, 3) := by decide +kernel
theorem dX6_find_44 : decode cX6_find 44 = .ok (.iload_n 2, 1) := by decide +kernel
theorem dX6_find_45 : decode cX6_find 45 = .ok (.iconst 2, 1) := by decide +kernel
theorem dX6_find_46 : decode cX6_find 46 = .ok (.iadd, 1) := by decide +kernel
theorem dX6_find_47 : decode cX6_find 47 = .ok (.goto 5, 3) := by decide +kernel
theorem dX6_find_50 : decode cX6_find 50 = .ok (.bipush (-3), 2) := by decide +kernel
theorem dX6_find_52 : decode cX6_find 52 = .ok (.ireturn, 1) := by decide +kernel
theorem dX6_has_0 : decode cX6_has 0 = .ok (.aload_n 0, 1) := by decide +kernel
theorem dX6_has_1 : decode cX6_has 1 = .ok (.iload_n 1, 1) := by decide +kernel
theorem dX6_has_2 : decode cX6_has 2 = .ok (.invokevirtual 75, 3) := by decide +kernel
theorem dX6_has_5 : decode cX6_has 5 = .ok (.istore_n 3, 1) := by decide +kernel
theorem dX6_has_6 : decode cX6_has 6 = .ok (.iload_n 3, 1) := by decide +kernel
theorem dX6_has_7 : decode cX6_has 7 = .ok (.bipush (-3), 2) := by decide +kernel
theorem dX6_has_9 : decode cX6_has 9 = .ok (.if_icmp .eq 19, 3) := by decide +kernel
theorem dX6_has_12 : decode cX6_has 12 = .ok (.aload_n 0, 1) := by decide +kernel
theorem dX6_has_13 : decode cX6_has 13 = .ok (.getfield 48, 3) := by decide +kernel
theorem dX6_has_16 : decode cX6_has 16 = .ok (.iload_n 3, 1) := by decide +kernel
theorem dX6_has_17 : decode cX6_has 17 = .ok (.iconst 1, 1) := by decide +kernel
theorem dX6_has_18 : decode cX6_has 18 = .ok (.isub, 1) := by decide +kernel
theorem dX6_has_19 : decode cX6_has 19 = .ok (.iaload, 1) := by decide +kernel
theorem dX6_has_20 : decode cX6_has 20 = .ok (.iload_n 2, 1) := by decide +kernel
theorem dX6_has_21 : decode cX6_has 21 = .ok (.if_icmp .ne 7, 3) := by decide +kernel
theorem dX6_has_24 : decode cX6_has 24 = .ok (.iconst 1, 1) := by decide +kernel
theorem dX6_has_25 : decode cX6_has 25 = .ok (.goto 4, 3) := by decide +kernel
theorem dX6_has_28 : decode cX6_has 28 = .ok (.iconst 0, 1) := by decide +kernel
theorem dX6_has_29 : decode cX6_has 29 = .ok (.ireturn, 1) := by decide +kernel
theorem dX6_number_0 : decode cX6_number 0 = .ok (.aload_n 0, 1) := by decide +kernel
theorem dX6_number_1 : decode cX6_number 1 = .ok (.iload_n 1, 1) := by decide +kernel
theorem dX6_number_2 : decode cX6_number 2 = .ok (.invokevirtual 75, 3) := by decide +kernel
theorem dX6_number_5 : decode cX6_number 5 = .ok (.istore_n 2, 1) := by decide +kernel
theorem dX6_number_6 : decode cX6_number 6 = .ok (.iconst 0, 1) := by decide +kernel
theorem dX6_number_7 : decode cX6_number 7 = .ok (.istore_n 3, 1) := by decide +kernel
theorem dX6_number_8 : decode cX6_number 8 = .ok (.iconst 0, 1) := by decide +kernel
theorem dX6_number_9 : decode cX6_number 9 = .ok (.istore 4, 2) := by decide +kernel
theorem dX6_number_11 : decode cX6_number 11 = .ok (.iload 4, 2) := by decide +kernel
theorem dX6_number_13 : decode cX6_number 13 = .ok (.aload_n 0, 1) := by decide +kernel
theorem dX6_number_14 : decode cX6_number 14 = .ok (.getfield 48, 3) := by decide +kernel
theorem dX6_number_17 : decode cX6_number 17 = .ok (.iload_n 2, 1) := by decide +kernel
theorem dX6_number_18 : decode cX6_number 18 = .ok (.iconst 1, 1) := by decide +kernel
theorem dX6_number_19 : decode cX6_number 19 = .ok (.isub, 1) := by decide +kernel
theorem dX6_number_20 : decode cX6_number 20 = .ok (.iaload, 1) := by decide +kernel
theorem dX6_number_21 : decode cX6_number 21 = .ok (.if_icmp .ge 24, 3) := by decide +kernel
theorem dX6_number_24 : decode cX6_number 24 = .ok (.iload_n 3, 1) := by decide +kernel
theorem dX6_number_25 : decode cX6_number 25 = .ok (.bipush 8, 2) := by decide +kernel
theorem dX6_number_27 : decode cX6_number 27 = .ok (.ishl, 1) := by decide +kernel
theorem dX6_number_28 : decode cX6_number 28 = .ok (.aload_n 0, 1) := by decide +kernel
theorem dX6_number_29 : decode cX6_number 29 = .ok (.getfield 48, 3) := by decide +kernel
theorem dX6_number_32 : decode cX6_number 32 = .ok (.iload_n 2, 1) := by decide +kernel
theorem dX6_number_33 : decode cX6_number 33 = .ok (.iload 4, 2) := by decide +kernel
theorem dX6_number_35 : decode cX6_number 35 = .ok (.iadd, 1) := by decide +kernel
theorem dX6_number_36 : decode cX6_number 36 = .ok (.iaload, 1) := by decide +kernel
theorem dX6_number_37 : decode cX6_number 37 = .ok (.ior, 1) := by decide +kernel
theorem dX6_number_38 : decode cX6_number 38 = .ok (.istore_n 3, 1) := by decide +kernel
theorem dX6_number_39 : decode cX6_number 39 = .ok (.iinc 4 1, 3) := by decide +kernel
theorem dX6_number_42 : decode cX6_number 42 = .ok (.goto (-31), 3) := by decide +kernel
theorem dX6_number_45 : decode cX6_number 45 = .ok (.iload_n 3, 1) := by decide +kernel
theorem dX6_number_46 : decode cX6_number 46 = .ok (.ireturn, 1) := by decide +kernel
theorem dX6_turned_0 : decode cX6_turned 0 = .ok (.iload_n 0, 1) := by decide +kernel
theorem dX6_turned_1 : decode cX6_turned 1 = .ok (.iload_n 1, 1) := by decide +kernel
theorem dX6_turned_2 : decode cX6_turned 2 = .ok (.ixor, 1) := by decide +kernel
theorem dX6_turned_3 : decode cX6_turned 3 = .ok (.ldc 79, 2) := by decide +kernel
theorem dX6_turned_5 : decode cX6_turned 5 = .ok (.imul, 1) := by decide +kernel
theorem dX6_turned_6 : decode cX6_turned 6 = .ok (.istore_n 2, 1) := by decide +kernel
theorem dX6_turned_7 : decode cX6_turned 7 = .ok (.iload_n 2, 1) := by decide +kernel
theorem dX6_turned_8 : decode cX6_turned 8 = .ok (.iconst 5, 1) := by decide +kernel
theorem dX6_turned_9 : decode cX6_turned 9 = .ok (.ishl, 1) := by decide +kernel
theorem dX6_turned_10 : decode cX6_turned 10 = .ok (.iload_n 2, 1) := by decide +kernel
theorem dX6_turned_11 : decode cX6_turned 11 = .ok (.bipush 27, 2) := by decide +kernel
theorem dX6_turned_13 : decode cX6_turned 13 = .ok (.iushr, 1) := by decide +kernel
theorem dX6_turned_14 : decode cX6_turned 14 = .ok (.ior, 1) := by decide +kernel
theorem dX6_turned_15 : decode cX6_turned 15 = .ok (.ireturn, 1) := by decide +kernel
theorem dX6_become_0 : decode cX6_become 0 = .ok (.aload_n 0, 1) := by decide +kernel
theorem dX6_become_1 : decode cX6_become 1 = .ok (.getfield 23, 3) := by decide +kernel
theorem dX6_become_4 : decode cX6_become 4 = .ok (.iload_n 1, 1) := by decide +kernel
theorem dX6_become_5 : decode cX6_become 5 = .ok (.iload_n 2, 1) := by decide +kernel
theorem dX6_become_6 : decode cX6_become 6 = .ok (.iastore, 1) := by decide +kernel
theorem dX6_become_7 : decode cX6_become 7 = .ok (.aload_n 0, 1) := by decide +kernel
theorem dX6_become_8 : decode cX6_become 8 = .ok (.getfield 26, 3) := by decide +kernel
theorem dX6_become_11 : decode cX6_become 11 = .ok (.iload_n 1, 1) := by decide +kernel
theorem dX6_become_12 : decode cX6_become 12 = .ok (.iload_n 3, 1) := by decide +kernel
theorem dX6_become_13 : decode cX6_become 13 = .ok (.iastore, 1) := by decide +kernel
theorem dX6_become_14 : decode cX6_become 14 = .ok (.aload_n 0, 1) := by decide +kernel
theorem dX6_become_15 : decode cX6_become 15 = .ok (.getfield 29, 3) := by decide +kernel
theorem dX6_become_18 : decode cX6_become 18 = .ok (.iload_n 1, 1) := by decide +kernel
theorem dX6_become_19 : decode cX6_become 19 = .ok (.iload 4, 2) := by decide +kernel
theorem dX6_become_21 : decode cX6_become 21 = .ok (.iastore, 1) := by decide +kernel
theorem dX6_become_22 : decode cX6_become 22 = .ok (.aload_n 0, 1) := by decide +kernel
theorem dX6_become_23 : decode cX6_become 23 = .ok (.getfield 32, 3) := by decide +kernel
theorem dX6_become_26 : decode cX6_become 26 = .ok (.iload_n 1, 1) := by decide +kernel
theorem dX6_become_27 : decode cX6_become 27 = .ok (.iconst 0, 1) := by decide +kernel
theorem dX6_become_28 : decode cX6_become 28 = .ok (.bastore, 1) := by decide +kernel
theorem dX6_become_29 : decode cX6_become 29 = .ok (.return_, 1) := by decide +kernel
theorem dX6_way_0 : decode cX6_way 0 = .ok (.iload_n 1, 1) := by decide +kernel
theorem dX6_way_1 : decode cX6_way 1 = .ok (.ifCond .ne 7, 3) := by decide +kernel
theorem dX6_way_4 : decode cX6_way 4 = .ok (.iconst 0, 1) := by decide +kernel
theorem dX6_way_5 : decode cX6_way 5 = .ok (.goto 4, 3) := by decide +kernel
theorem dX6_way_8 : decode cX6_way 8 = .ok (.iconst 1, 1) := by decide +kernel
theorem dX6_way_9 : decode cX6_way 9 = .ok (.ireturn, 1) := by decide +kernel
theorem dX6_rest_0 : decode cX6_rest 0 = .ok (.iload_n 1, 1) := by decide +kernel
theorem dX6_rest_1 : decode cX6_rest 1 = .ok (.ifCond .ne 7, 3) := by decide +kernel
theorem dX6_rest_4 : decode cX6_rest 4 = .ok (.iconst 3, 1) := by decide +kernel
theorem dX6_rest_5 : decode cX6_rest 5 = .ok (.goto 4, 3) := by decide +kernel
theorem dX6_rest_8 : decode cX6_rest 8 = .ok (.iconst 0, 1) := by decide +kernel
theorem dX6_rest_9 : decode cX6_rest 9 = .ok (.ireturn, 1) := by decide +kernel
theorem dX6_release_0 : decode cX6_release 0 = .ok (.aload_n 0, 1) := by decide +kernel
theorem dX6_release_1 : decode cX6_release 1 = .ok (.aload_n 0, 1) := by decide +kernel
theorem dX6_release_2 : decode cX6_release 2 = .ok (.iload_n 1, 1) := by decide +kernel
theorem dX6_release_3 : decode cX6_release 3 = .ok (.invokevirtual 80, 3) := by decide +kernel
theorem dX6_release_6 : decode cX6_release 6 = .ok (.iconst 3, 1) := by decide +kernel
theorem dX6_release_7 : decode cX6_release 7 = .ok (.bipush 45, 2) := by decide +kernel
theorem dX6_release_9 : decode cX6_release 9 = .ok (.invokevirtual 64, 3) := by decide +kernel
theorem dX6_release_12 : decode cX6_release 12 = .ok (.pop, 1) := by decide +kernel
theorem dX6_release_13 : decode cX6_release 13 = .ok (.aload_n 0, 1) := by decide +kernel
theorem dX6_release_14 : decode cX6_release 14 = .ok (.iload_n 1, 1) := by decide +kernel
theorem dX6_release_15 : decode cX6_release 15 = .ok (.aload_n 0, 1) := by decide +kernel
theorem dX6_release_16 : decode cX6_release 16 = .ok (.getfield 23, 3) := by decide +kernel
theorem dX6_release_19 : decode cX6_release 19 = .ok (.iload_n 1, 1) := by decide +kernel
theorem dX6_release_20 : decode cX6_release 20 = .ok (.iaload, 1) := by decide +kernel
theorem dX6_release_21 : decode cX6_release 21 = .ok (.bipush 6, 2) := by decide +kernel
theorem dX6_release_23 : decode cX6_release 23 = .ok (.bipush 30, 2) := by decide +kernel
theorem dX6_release_25 : decode cX6_release 25 = .ok (.invokevirtual 83, 3) := by decide +kernel
theorem dX6_release_28 : decode cX6_release 28 = .ok (.return_, 1) := by decide +kernel
theorem dX6_isCall_0 : decode cX6_isCall 0 = .ok (.aload_n 0, 1) := by decide +kernel
theorem dX6_isCall_1 : decode cX6_isCall 1 = .ok (.getfield 26, 3) := by decide +kernel
theorem dX6_isCall_4 : decode cX6_isCall 4 = .ok (.iload_n 1, 1) := by decide +kernel
theorem dX6_isCall_5 : decode cX6_isCall 5 = .ok (.iaload, 1) := by decide +kernel
theorem dX6_isCall_6 : decode cX6_isCall 6 = .ok (.iload_n 2, 1) := by decide +kernel
theorem dX6_isCall_7 : decode cX6_isCall 7 = .ok (.if_icmp .lt 17, 3) := by decide +kernel
theorem dX6_isCall_10 : decode cX6_isCall 10 = .ok (.aload_n 0, 1) := by decide +kernel
theorem dX6_isCall_11 : decode cX6_isCall 11 = .ok (.getfield 26, 3) := by decide +kernel
theorem dX6_isCall_14 : decode cX6_isCall 14 = .ok (.iload_n 1, 1) := by decide +kernel
theorem dX6_isCall_15 : decode cX6_isCall 15 = .ok (.iaload, 1) := by decide +kernel
theorem dX6_isCall_16 : decode cX6_isCall 16 = .ok (.iload_n 3, 1) := by decide +kernel
theorem dX6_isCall_17 : decode cX6_isCall 17 = .ok (.if_icmp .gt 7, 3) := by decide +kernel
theorem dX6_isCall_20 : decode cX6_isCall 20 = .ok (.iconst 1, 1) := by decide +kernel
theorem dX6_isCall_21 : decode cX6_isCall 21 = .ok (.goto 4, 3) := by decide +kernel
theorem dX6_isCall_24 : decode cX6_isCall 24 = .ok (.iconst 0, 1) := by decide +kernel
theorem dX6_isCall_25 : decode cX6_isCall 25 = .ok (.ireturn, 1) := by decide +kernel
theorem dX6_closes_0 : decode cX6_closes 0 = .ok (.bipush (-3), 2) := by decide +kernel
theorem dX6_closes_2 : decode cX6_closes 2 = .ok (.istore_n 3, 1) := by decide +kernel
theorem dX6_closes_3 : decode cX6_closes 3 = .ok (.iload_n 2, 1) := by decide +kernel
theorem dX6_closes_4 : decode cX6_closes 4 = .ok (.bipush 37, 2) := by decide +kernel
theorem dX6_closes_6 : decode cX6_closes 6 = .ok (.if_icmp .ne 42, 3) := by decide +kernel
theorem dX6_closes_9 : decode cX6_closes 9 = .ok (.aload_n 0, 1) := by decide +kernel
theorem dX6_closes_10 : decode cX6_closes 10 = .ok (.bipush 8, 2) := by decide +kernel
theorem dX6_closes_12 : decode cX6_closes 12 = .ok (.iconst 1, 1) := by decide +kernel
theorem dX6_closes_13 : decode cX6_closes 13 = .ok (.invokevirtual 87, 3) := by decide +kernel
theorem dX6_closes_16 : decode cX6_closes 16 = .ok (.ifCond .eq 32, 3) := by decide +kernel
theorem dX6_closes_19 : decode cX6_closes 19 = .ok (.aload_n 0, 1) := by decide +kernel
theorem dX6_closes_20 : decode cX6_closes 20 = .ok (.iload_n 1, 1) := by decide +kernel
theorem dX6_closes_21 : decode cX6_closes 21 = .ok (.iconst 1, 1) := by decide +kernel
theorem dX6_closes_22 : decode cX6_closes 22 = .ok (.iconst 5, 1) := by decide +kernel
theorem dX6_closes_23 : decode cX6_closes 23 = .ok (.invokevirtual 91, 3) := by decide +kernel
theorem dX6_closes_26 : decode cX6_closes 26 = .ok (.ifCond .eq 22, 3) := by decide +kernel
theorem dX6_closes_29 : decode cX6_closes 29 = .ok (.aload_n 0, 1) := by decide +kernel
theorem dX6_closes_30 : decode cX6_closes 30 = .ok (.getfield 36, 3) := by decide +kernel
theorem dX6_closes_33 : decode cX6_closes 33 = .ok (.iload_n 1, 1) := by decide +kernel
theorem dX6_closes_34 : decode cX6_closes 34 = .ok (.aload_n 0, 1) := by decide +kernel
theorem dX6_closes_35 : decode cX6_closes 35 = .ok (.bipush 8, 2) := by decide +kernel
theorem dX6_closes_37 : decode cX6_closes 37 = .ok (.invokevirtual 95, 3) := by decide +kernel
theorem dX6_closes_40 : decode cX6_closes 40 = .ok (.iastore, 1) := by decide +kernel
theorem dX6_closes_41 : decode cX6_closes 41 = .ok (.aload_n 0, 1) := by decide +kernel
theorem dX6_closes_42 : decode cX6_closes 42 = .ok (.iload_n 1, 1) := by decide +kernel
theorem dX6_closes_43 : decode cX6_closes 43 = .ok (.invokevirtual 98, 3) := by decide +kernel
theorem dX6_closes_46 : decode cX6_closes 46 = .ok (.iconst 1, 1) := by decide +kernel
theorem dX6_closes_47 : decode cX6_closes 47 = .ok (.ireturn, 1) := by decide +kernel
theorem dX6_closes_48 : decode cX6_closes 48 = .ok (.iload_n 2, 1) := by decide +kernel
theorem dX6_closes_49 : decode cX6_closes 49 = .ok (.bipush 45, 2) := by decide +kernel
theorem dX6_closes_51 : decode cX6_closes 51 = .ok (.if_icmp .ne 44, 3) := by decide +kernel
theorem dX6_closes_54 : decode cX6_closes 54 = .ok (.iload_n 1, 1) := by decide +kernel
theorem dX6_closes_55 : decode cX6_closes 55 = .ok (.iconst 1, 1) := by decide +kernel
theorem dX6_closes_56 : decode cX6_closes 56 = .ok (.if_icmp .eq 12, 3) := by decide +kernel
theorem dX6_closes_59 : decode cX6_closes 59 = .ok (.aload_n 0, 1) := by decide +kernel
theorem dX6_closes_60 : decode cX6_closes 60 = .ok (.getfield 26, 3) := by decide +kernel
theorem dX6_closes_63 : decode cX6_closes 63 = .ok (.iload_n 1, 1) := by decide +kernel
theorem dX6_closes_64 : decode cX6_closes 64 = .ok (.iaload, 1) := by decide +kernel
theorem dX6_closes_65 : decode cX6_closes 65 = .ok (.ifCond .le 30, 3) := by decide +kernel
theorem dX6_closes_68 : decode cX6_closes 68 = .ok (.aload_n 0, 1) := by decide +kernel
theorem dX6_closes_69 : decode cX6_closes 69 = .ok (.aload_n 0, 1) := by decide +kernel
theorem dX6_closes_70 : decode cX6_closes 70 = .ok (.iload_n 1, 1) := by decide +kernel
theorem dX6_closes_71 : decode cX6_closes 71 = .ok (.invokevirtual 80, 3) := by decide +kernel
theorem dX6_closes_74 : decode cX6_closes 74 = .ok (.iconst 3, 1) := by decide +kernel
theorem dX6_closes_75 : decode cX6_closes 75 = .ok (.bipush 42, 2) := by decide +kernel
theorem dX6_closes_77 : decode cX6_closes 77 = .ok (.invokevirtual 64, 3) := by decide +kernel
theorem dX6_closes_80 : decode cX6_closes 80 = .ok (.istore_n 3, 1) := by decide +kernel
theorem dX6_closes_81 : decode cX6_closes 81 = .ok (.aload_n 0, 1) := by decide +kernel
theorem dX6_closes_82 : decode cX6_closes 82 = .ok (.iload_n 1, 1) := by decide +kernel
theorem dX6_closes_83 : decode cX6_closes 83 = .ok (.aload_n 0, 1) := by decide +kernel
theorem dX6_closes_84 : decode cX6_closes 84 = .ok (.iload_n 1, 1) := by decide +kernel
theorem dX6_closes_85 : decode cX6_closes 85 = .ok (.invokevirtual 102, 3) := by decide +kernel
theorem dX6_closes_88 : decode cX6_closes 88 = .ok (.iconst 0, 1) := by decide +kernel
theorem dX6_closes_89 : decode cX6_closes 89 = .ok (.iconst 0, 1) := by decide +kernel
theorem dX6_closes_90 : decode cX6_closes 90 = .ok (.invokevirtual 83, 3) := by decide +kernel
theorem dX6_closes_93 : decode cX6_closes 93 = .ok (.iconst 1, 1) := by decide +kernel
theorem dX6_closes_94 : decode cX6_closes 94 = .ok (.ireturn, 1) := by decide +kernel
theorem dX6_closes_95 : decode cX6_closes 95 = .ok (.iload_n 2, 1) := by decide +kernel
theorem dX6_closes_96 : decode cX6_closes 96 = .ok (.bipush 42, 2) := by decide +kernel
theorem dX6_closes_98 : decode cX6_closes 98 = .ok (.if_icmp .ne 31, 3) := by decide +kernel
theorem dX6_closes_101 : decode cX6_closes 101 = .ok (.iload_n 1, 1) := by decide +kernel
theorem dX6_closes_102 : decode cX6_closes 102 = .ok (.iconst 1, 1) := by decide +kernel
theorem dX6_closes_103 : decode cX6_closes 103 = .ok (.if_icmp .eq 12, 3) := by decide +kernel
theorem dX6_closes_106 : decode cX6_closes 106 = .ok (.aload_n 0, 1) := by decide +kernel
theorem dX6_closes_107 : decode cX6_closes 107 = .ok (.getfield 26, 3) := by decide +kernel
theorem dX6_closes_110 : decode cX6_closes 110 = .ok (.iload_n 1, 1) := by decide +kernel
theorem dX6_closes_111 : decode cX6_closes 111 = .ok (.iaload, 1) := by decide +kernel
theorem dX6_closes_112 : decode cX6_closes 112 = .ok (.ifCond .le 17, 3) := by decide +kernel
theorem dX6_closes_115 : decode cX6_closes 115 = .ok (.aload_n 0, 1) := by decide +kernel
theorem dX6_closes_116 : decode cX6_closes 116 = .ok (.iload_n 1, 1) := by decide +kernel
theorem dX6_closes_117 : decode cX6_closes 117 = .ok (.aload_n 0, 1) := by decide +kernel
theorem dX6_closes_118 : decode cX6_closes 118 = .ok (.iload_n 1, 1) := by decide +kernel
theorem dX6_closes_119 : decode cX6_closes 119 = .ok (.invokevirtual 102, 3) := by decide +kernel
theorem dX6_closes_122 : decode cX6_closes 122 = .ok (.iconst 0, 1) := by decide +kernel
theorem dX6_closes_123 : decode cX6_closes 123 = .ok (.iconst 0, 1) := by decide +kernel
theorem dX6_closes_124 : decode cX6_closes 124 = .ok (.invokevirtual 83, 3) := by decide +kernel
theorem dX6_closes_127 : decode cX6_closes 127 = .ok (.iconst 1, 1) := by decide +kernel
theorem dX6_closes_128 : decode cX6_closes 128 = .ok (.ireturn, 1) := by decide +kernel
theorem dX6_closes_129 : decode cX6_closes 129 = .ok (.iconst 0, 1) := by decide +kernel
theorem dX6_closes_130 : decode cX6_closes 130 = .ok (.ireturn, 1) := by decide +kernel
theorem dX6_end_0 : decode cX6_end 0 = .ok (.aload_n 0, 1) := by decide +kernel
theorem dX6_end_1 : decode cX6_end 1 = .ok (.aload_n 0, 1) := by decide +kernel
theorem dX6_end_2 : decode cX6_end 2 = .ok (.iload_n 1, 1) := by decide +kernel
theorem dX6_end_3 : decode cX6_end 3 = .ok (.invokevirtual 80, 3) := by decide +kernel
theorem dX6_end_6 : decode cX6_end 6 = .ok (.iconst 3, 1) := by decide +kernel
theorem dX6_end_7 : decode cX6_end 7 = .ok (.bipush 37, 2) := by decide +kernel
theorem dX6_end_9 : decode cX6_end 9 = .ok (.bipush 8, 2) := by decide +kernel
theorem dX6_end_11 : decode cX6_end 11 = .ok (.iconst 1, 1) := by decide +kernel
theorem dX6_end_12 : decode cX6_end 12 = .ok (.iload_n 2, 1) := by decide +kernel
theorem dX6_end_13 : decode cX6_end 13 = .ok (.invokevirtual 112, 3) := by decide +kernel
theorem dX6_end_16 : decode cX6_end 16 = .ok (.aload_n 0, 1) := by decide +kernel
theorem dX6_end_17 : decode cX6_end 17 = .ok (.iload_n 1, 1) := by decide +kernel
theorem dX6_end_18 : decode cX6_end 18 = .ok (.aload_n 0, 1) := by decide +kernel
theorem dX6_end_19 : decode cX6_end 19 = .ok (.getfield 23, 3) := by decide +kernel
theorem dX6_end_22 : decode cX6_end 22 = .ok (.iload_n 1, 1) := by decide +kernel
theorem dX6_end_23 : decode cX6_end 23 = .ok (.iaload, 1) := by decide +kernel
theorem dX6_end_24 : decode cX6_end 24 = .ok (.iconst 5, 1) := by decide +kernel
theorem dX6_end_25 : decode cX6_end 25 = .ok (.bipush 30, 2) := by decide +kernel
theorem dX6_end_27 : decode cX6_end 27 = .ok (.invokevirtual 83, 3) := by decide +kernel
theorem dX6_end_30 : decode cX6_end 30 = .ok (.return_, 1) := by decide +kernel
theorem dX6_isWay_0 : decode cX6_isWay 0 = .ok (.iload_n 0, 1) := by decide +kernel
theorem dX6_isWay_1 : decode cX6_isWay 1 = .ok (.ifCond .eq 8, 3) := by decide +kernel
theorem dX6_isWay_4 : decode cX6_isWay 4 = .ok (.iload_n 0, 1) := by decide +kernel
theorem dX6_isWay_5 : decode cX6_isWay 5 = .ok (.iconst 1, 1) := by decide +kernel
theorem dX6_isWay_6 : decode cX6_isWay 6 = .ok (.if_icmp .ne 7, 3) := by decide +kernel
theorem dX6_isWay_9 : decode cX6_isWay 9 = .ok (.iconst 1, 1) := by decide +kernel
theorem dX6_isWay_10 : decode cX6_isWay 10 = .ok (.goto 4, 3) := by decide +kernel
theorem dX6_isWay_13 : decode cX6_isWay 13 = .ok (.iconst 0, 1) := by decide +kernel
theorem dX6_isWay_14 : decode cX6_isWay 14 = .ok (.ireturn, 1) := by decide +kernel
