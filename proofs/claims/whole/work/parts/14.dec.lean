theorem dX6_put_0 : decode cX6_put 0 = .ok (.aload_n 0, 1) := by decide +kernel
theorem dX6_put_1 : decode cX6_put 1 = .ok (.getfield 60, 3) := by decide +kernel
theorem dX6_put_4 : decode cX6_put 4 = .ok (.ifCond .ne 14, 3) := by decide +kernel
theorem dX6_put_7 : decode cX6_put 7 = .ok (.aload_n 0, 1) := by decide +kernel
theorem dX6_put_8 : decode cX6_put 8 = .ok (.getfield 13, 3) := by decide +kernel
theorem dX6_put_11 : decode cX6_put 11 = .ok (.iload_n 1, 1) := by decide +kernel
theorem dX6_put_12 : decode cX6_put 12 = .ok (.iaload, 1) := by decide +kernel
theorem dX6_put_13 : decode cX6_put 13 = .ok (.bipush 8, 2) := by decide +kernel
theorem dX6_put_15 : decode cX6_put 15 = .ok (.if_icmp .ne 6, 3) := by decide +kernel
theorem dX6_put_18 : decode cX6_put 18 = .ok (.bipush (-3), 2) := by decide +kernel
theorem dX6_put_20 : decode cX6_put 20 = .ok (.ireturn, 1) := by decide +kernel
theorem dX6_put_21 : decode cX6_put 21 = .ok (.bipush 8, 2) := by decide +kernel
theorem dX6_put_23 : decode cX6_put 23 = .ok (.iload_n 1, 1) := by decide +kernel
theorem dX6_put_24 : decode cX6_put 24 = .ok (.imul, 1) := by decide +kernel
theorem dX6_put_25 : decode cX6_put 25 = .ok (.aload_n 0, 1) := by decide +kernel
theorem dX6_put_26 : decode cX6_put 26 = .ok (.getfield 13, 3) := by decide +kernel
theorem dX6_put_29 : decode cX6_put 29 = .ok (.iload_n 1, 1) := by decide +kernel
theorem dX6_put_30 : decode cX6_put 30 = .ok (.iaload, 1) := by decide +kernel
theorem dX6_put_31 : decode cX6_put 31 = .ok (.iadd, 1) := by decide +kernel
theorem dX6_put_32 : decode cX6_put 32 = .ok (.istore 4, 2) := by decide +kernel
theorem dX6_put_34 : decode cX6_put 34 = .ok (.aload_n 0, 1) := by decide +kernel
theorem dX6_put_35 : decode cX6_put 35 = .ok (.getfield 13, 3) := by decide +kernel
theorem dX6_put_38 : decode cX6_put 38 = .ok (.iload_n 1, 1) := by decide +kernel
theorem dX6_put_39 : decode cX6_put 39 = .ok (.dup2, 1) := by decide +kernel
theorem dX6_put_40 : decode cX6_put 40 = .ok (.iaload, 1) := by decide +kernel
theorem dX6_put_41 : decode cX6_put 41 = .ok (.iconst 1, 1) := by decide +kernel
theorem dX6_put_42 : decode cX6_put 42 = .ok (.iadd, 1) := by decide +kernel
theorem dX6_put_43 : decode cX6_put 43 = .ok (.iastore, 1) := by decide +kernel
theorem dX6_put_44 : decode cX6_put 44 = .ok (.aload_n 0, 1) := by decide +kernel
theorem dX6_put_45 : decode cX6_put 45 = .ok (.getfield 17, 3) := by decide +kernel
theorem dX6_put_48 : decode cX6_put 48 = .ok (.iload 4, 2) := by decide +kernel
theorem dX6_put_50 : decode cX6_put 50 = .ok (.iconst 2, 1) := by decide +kernel
theorem dX6_put_51 : decode cX6_put 51 = .ok (.iastore, 1) := by decide +kernel
theorem dX6_put_52 : decode cX6_put 52 = .ok (.aload_n 0, 1) := by decide +kernel
theorem dX6_put_53 : decode cX6_put 53 = .ok (.getfield 20, 3) := by decide +kernel
theorem dX6_put_56 : decode cX6_put 56 = .ok (.bipush 24, 2) := by decide +kernel
theorem dX6_put_58 : decode cX6_put 58 = .ok (.iload 4, 2) := by decide +kernel
theorem dX6_put_60 : decode cX6_put 60 = .ok (.imul, 1) := by decide +kernel
theorem dX6_put_61 : decode cX6_put 61 = .ok (.iload_n 2, 1) := by decide +kernel
theorem dX6_put_62 : decode cX6_put 62 = .ok (.iastore, 1) := by decide +kernel
theorem dX6_put_63 : decode cX6_put 63 = .ok (.aload_n 0, 1) := by decide +kernel
theorem dX6_put_64 : decode cX6_put 64 = .ok (.getfield 20, 3) := by decide +kernel
theorem dX6_put_67 : decode cX6_put 67 = .ok (.bipush 24, 2) := by decide +kernel
theorem dX6_put_69 : decode cX6_put 69 = .ok (.iload 4, 2) := by decide +kernel
theorem dX6_put_71 : decode cX6_put 71 = .ok (.imul, 1) := by decide +kernel
theorem dX6_put_72 : decode cX6_put 72 = .ok (.iconst 1, 1) := by decide +kernel
theorem dX6_put_73 : decode cX6_put 73 = .ok (.iadd, 1) := by decide +kernel
theorem dX6_put_74 : decode cX6_put 74 = .ok (.iload_n 3, 1) := by decide +kernel
theorem dX6_put_75 : decode cX6_put 75 = .ok (.iastore, 1) := by decide +kernel
theorem dX6_put_76 : decode cX6_put 76 = .ok (.iload 4, 2) := by decide +kernel
theorem dX6_put_78 : decode cX6_put 78 = .ok (.ireturn, 1) := by decide +kernel
theorem dX6_more_0 : decode cX6_more 0 = .ok (.iload_n 1, 1) := by decide +kernel
theorem dX6_more_1 : decode cX6_more 1 = .ok (.bipush (-3), 2) := by decide +kernel
theorem dX6_more_3 : decode cX6_more 3 = .ok (.if_icmp .eq 34, 3) := by decide +kernel
theorem dX6_more_6 : decode cX6_more 6 = .ok (.aload_n 0, 1) := by decide +kernel
theorem dX6_more_7 : decode cX6_more 7 = .ok (.getfield 20, 3) := by decide +kernel
theorem dX6_more_10 : decode cX6_more 10 = .ok (.bipush 24, 2) := by decide +kernel
theorem dX6_more_12 : decode cX6_more 12 = .ok (.iload_n 1, 1) := by decide +kernel
theorem dX6_more_13 : decode cX6_more 13 = .ok (.imul, 1) := by decide +kernel
theorem dX6_more_14 : decode cX6_more 14 = .ok (.aload_n 0, 1) := by decide +kernel
theorem dX6_more_15 : decode cX6_more 15 = .ok (.getfield 17, 3) := by decide +kernel
theorem dX6_more_18 : decode cX6_more 18 = .ok (.iload_n 1, 1) := by decide +kernel
theorem dX6_more_19 : decode cX6_more 19 = .ok (.iaload, 1) := by decide +kernel
theorem dX6_more_20 : decode cX6_more 20 = .ok (.iadd, 1) := by decide +kernel
theorem dX6_more_21 : decode cX6_more 21 = .ok (.iload_n 2, 1) := by decide +kernel
theorem dX6_more_22 : decode cX6_more 22 = .ok (.sipush 255, 3) := by decide +kernel
theorem dX6_more_25 : decode cX6_more 25 = .ok (.iand, 1) := by decide +kernel
theorem dX6_more_26 : decode cX6_more 26 = .ok (.iastore, 1) := by decide +kernel
theorem dX6_more_27 : decode cX6_more 27 = .ok (.aload_n 0, 1) := by decide +kernel
theorem dX6_more_28 : decode cX6_more 28 = .ok (.getfield 17, 3) := by decide +kernel
theorem dX6_more_31 : decode cX6_more 31 = .ok (.iload_n 1, 1) := by decide +kernel
theorem dX6_more_32 : decode cX6_more 32 = .ok (.dup2, 1) := by decide +kernel
theorem dX6_more_33 : decode cX6_more 33 = .ok (.iaload, 1) := by decide +kernel
theorem dX6_more_34 : decode cX6_more 34 = .ok (.iconst 1, 1) := by decide +kernel
theorem dX6_more_35 : decode cX6_more 35 = .ok (.iadd, 1) := by decide +kernel
theorem dX6_more_36 : decode cX6_more 36 = .ok (.iastore, 1) := by decide +kernel
theorem dX6_more_37 : decode cX6_more 37 = .ok (.return_, 1) := by decide +kernel
theorem dX6_tell_0 : decode cX6_tell 0 = .ok (.aload_n 0, 1) := by decide +kernel
theorem dX6_tell_1 : decode cX6_tell 1 = .ok (.iload_n 1, 1) := by decide +kernel
theorem dX6_tell_2 : decode cX6_tell 2 = .ok (.iload_n 2, 1) := by decide +kernel
theorem dX6_tell_3 : decode cX6_tell 3 = .ok (.iload_n 3, 1) := by decide +kernel
theorem dX6_tell_4 : decode cX6_tell 4 = .ok (.invokevirtual 64, 3) := by decide +kernel
theorem dX6_tell_7 : decode cX6_tell 7 = .ok (.istore 7, 2) := by decide +kernel
theorem dX6_tell_9 : decode cX6_tell 9 = .ok (.aload_n 0, 1) := by decide +kernel
theorem dX6_tell_10 : decode cX6_tell 10 = .ok (.iload 7, 2) := by decide +kernel
theorem dX6_tell_12 : decode cX6_tell 12 = .ok (.iload 4, 2) := by decide +kernel
theorem dX6_tell_14 : decode cX6_tell 14 = .ok (.invokevirtual 68, 3) := by decide +kernel
theorem dX6_tell_17 : decode cX6_tell 17 = .ok (.aload_n 0, 1) := by decide +kernel
theorem dX6_tell_18 : decode cX6_tell 18 = .ok (.iload 7, 2) := by decide +kernel
theorem dX6_tell_20 : decode cX6_tell 20 = .ok (.iload 5, 2) := by decide +kernel
theorem dX6_tell_22 : decode cX6_tell 22 = .ok (.invokevirtual 68, 3) := by decide +kernel
theorem dX6_tell_25 : decode cX6_tell 25 = .ok (.iload 5, 2) := by decide +kernel
theorem dX6_tell_27 : decode cX6_tell 27 = .ok (.iconst 1, 1) := by decide +kernel
theorem dX6_tell_28 : decode cX6_tell 28 = .ok (.isub, 1) := by decide +kernel
theorem dX6_tell_29 : decode cX6_tell 29 = .ok (.istore 8, 2) := by decide +kernel
theorem dX6_tell_31 : decode cX6_tell 31 = .ok (.iload 8, 2) := by decide +kernel
theorem dX6_tell_33 : decode cX6_tell 33 = .ok (.ifCond .lt 23, 3) := by decide +kernel
theorem dX6_tell_36 : decode cX6_tell 36 = .ok (.aload_n 0, 1) := by decide +kernel
theorem dX6_tell_37 : decode cX6_tell 37 = .ok (.iload 7, 2) := by decide +kernel
theorem dX6_tell_39 : decode cX6_tell 39 = .ok (.iload 6, 2) := by decide +kernel
theorem dX6_tell_41 : decode cX6_tell 41 = .ok (.bipush 8, 2) := by decide +kernel
theorem dX6_tell_43 : decode cX6_tell 43 = .ok (.iload 8, 2) := by decide +kernel
theorem dX6_tell_45 : decode cX6_tell 45 = .ok (.imul, 1) := by decide +kernel
theorem dX6_tell_46 : decode cX6_tell 46 = .ok (.ishr, 1) := by decide +kernel
theorem dX6_tell_47 : decode cX6_tell 47 = .ok (.invokevirtual 68, 3) := by decide +kernel
theorem dX6_tell_50 : decode cX6_tell 50 = .ok (.iinc 8 (-1), 3) := by decide +kernel
theorem dX6_tell_53 : decode cX6_tell 53 = .ok (.goto (-22), 3) := by decide +kernel
theorem dX6_tell_56 : decode cX6_tell 56 = .ok (.return_, 1) := by decide +kernel
theorem dX6_turned_0 : decode cX6_turned 0 = .ok (.iload_n 0, 1) := by decide +kernel
theorem dX6_turned_1 : decode cX6_turned 1 = .ok (.iload_n 1, 1) := by decide +kernel
theorem dX6_turned_2 : decode cX6_turned 2 = .ok (.ixor, 1) := by decide +kernel
theorem dX6_turned_3 : decode cX6_turned 3 = .ok (.ldc 79, 2) := by decide +kernel
theorem dX6_turned_5 : decode cX6_turned 5 = .ok (.imul, 1) := by decide +kernel
theorem dX6_turned_6 : decode cX6_turned 6 = .ok (.istore_n 2, 1) := by decide +kernel
theorem dX6_turned_7 : decode cX6_turned 7 = .ok (.iload_n 2, 1) := by decide +kernel
theorem dX6_turned_8 : decode cX6_turned 8 = .ok (.iconst 5, 1) := by decide +kernel
theorem dX6_turned_9 : decode cX6_turned 9 = .ok (.ishl, 1) := by decide +kernel
theorem dX6_turned_10 : decode cX6_turned 10 = .ok (.iload_n 2, 1) := by decide +kernel
theorem dX6_turned_11 : decode cX6_turned 11 = .ok (.bipush 27, 2) := by decide +kernel
theorem dX6_turned_13 : decode cX6_turned 13 = .ok (.iushr, 1) := by decide +kernel
theorem dX6_turned_14 : decode cX6_turned 14 = .ok (.ior, 1) := by decide +kernel
theorem dX6_turned_15 : decode cX6_turned 15 = .ok (.ireturn, 1) := by decide +kernel
theorem dX6_become_0 : decode cX6_become 0 = .ok (.aload_n 0, 1) := by decide +kernel
theorem dX6_become_1 : decode cX6_become 1 = .ok (.getfield 23, 3) := by decide +kernel
theorem dX6_become_4 : decode cX6_become 4 = .ok (.iload_n 1, 1) := by decide +kernel
theorem dX6_become_5 : decode cX6_become 5 = .ok (.iload_n 2, 1) := by decide +kernel
theorem dX6_become_6 : decode cX6_become 6 = .ok (.iastore, 1) := by decide +kernel
theorem dX6_become_7 : decode cX6_become 7 = .ok (.aload_n 0, 1) := by decide +kernel
theorem dX6_become_8 : decode cX6_become 8 = .ok (.getfield 26, 3) := by decide +kernel
theorem dX6_become_11 : decode cX6_become 11 = .ok (.iload_n 1, 1) := by decide +kernel
theorem dX6_become_12 : decode cX6_become 12 = .ok (.iload_n 3, 1) := by decide +kernel
theorem dX6_become_13 : decode cX6_become 13 = .ok (.iastore, 1) := by decide +kernel
theorem dX6_become_14 : decode cX6_become 14 = .ok (.aload_n 0, 1) := by decide +kernel
theorem dX6_become_15 : decode cX6_become 15 = .ok (.getfield 29, 3) := by decide +kernel
theorem dX6_become_18 : decode cX6_become 18 = .ok (.iload_n 1, 1) := by decide +kernel
theorem dX6_become_19 : decode cX6_become 19 = .ok (.iload 4, 2) := by decide +kernel
theorem dX6_become_21 : decode cX6_become 21 = .ok (.iastore, 1) := by decide +kernel
theorem dX6_become_22 : decode cX6_become 22 = .ok (.aload_n 0, 1) := by decide +kernel
theorem dX6_become_23 : decode cX6_become 23 = .ok (.getfield 32, 3) := by decide +kernel
theorem dX6_become_26 : decode cX6_become 26 = .ok (.iload_n 1, 1) := by decide +kernel
theorem dX6_become_27 : decode cX6_become 27 = .ok (.iconst 0, 1) := by decide +kernel
theorem dX6_become_28 : decode cX6_become 28 = .ok (.bastore, 1) := by decide +kernel
theorem dX6_become_29 : decode cX6_become 29 = .ok (.return_, 1) := by decide +kernel
theorem dX6_way_0 : decode cX6_way 0 = .ok (.iload_n 1, 1) := by decide +kernel
theorem dX6_way_1 : decode cX6_way 1 = .ok (.ifCond .ne 7, 3) := by decide +kernel
theorem dX6_way_4 : decode cX6_way 4 = .ok (.iconst 0, 1) := by decide +kernel
theorem dX6_way_5 : decode cX6_way 5 = .ok (.goto 4, 3) := by decide +kernel
theorem dX6_way_8 : decode cX6_way 8 = .ok (.iconst 1, 1) := by decide +kernel
theorem dX6_way_9 : decode cX6_way 9 = .ok (.ireturn, 1) := by decide +kernel
theorem dX6_rest_0 : decode cX6_rest 0 = .ok (.iload_n 1, 1) := by decide +kernel
theorem dX6_rest_1 : decode cX6_rest 1 = .ok (.ifCond .ne 7, 3) := by decide +kernel
theorem dX6_rest_4 : decode cX6_rest 4 = .ok (.iconst 3, 1) := by decide +kernel
theorem dX6_rest_5 : decode cX6_rest 5 = .ok (.goto 4, 3) := by decide +kernel
theorem dX6_rest_8 : decode cX6_rest 8 = .ok (.iconst 0, 1) := by decide +kernel
theorem dX6_rest_9 : decode cX6_rest 9 = .ok (.ireturn, 1) := by decide +kernel
theorem dX6_isCall_0 : decode cX6_isCall 0 = .ok (.aload_n 0, 1) := by decide +kernel
theorem dX6_isCall_1 : decode cX6_isCall 1 = .ok (.getfield 26, 3) := by decide +kernel
theorem dX6_isCall_4 : decode cX6_isCall 4 = .ok (.iload_n 1, 1) := by decide +kernel
theorem dX6_isCall_5 : decode cX6_isCall 5 = .ok (.iaload, 1) := by decide +kernel
theorem dX6_isCall_6 : decode cX6_isCall 6 = .ok (.iload_n 2, 1) := by decide +kernel
theorem dX6_isCall_7 : decode cX6_isCall 7 = .ok (.if_icmp .lt 17, 3) := by decide +kernel
theorem dX6_isCall_10 : decode cX6_isCall 10 = .ok (.aload_n 0, 1) := by decide +kernel
theorem dX6_isCall_11 : decode cX6_isCall 11 = .ok (.getfield 26, 3) := by decide +kernel
theorem dX6_isCall_14 : decode cX6_isCall 14 = .ok (.iload_n 1, 1) := by decide +kernel
theorem dX6_isCall_15 : decode cX6_isCall 15 = .ok (.iaload, 1) := by decide +kernel
theorem dX6_isCall_16 : decode cX6_isCall 16 = .ok (.iload_n 3, 1) := by decide +kernel
theorem dX6_isCall_17 : decode cX6_isCall 17 = .ok (.if_icmp .gt 7, 3) := by decide +kernel
theorem dX6_isCall_20 : decode cX6_isCall 20 = .ok (.iconst 1, 1) := by decide +kernel
theorem dX6_isCall_21 : decode cX6_isCall 21 = .ok (.goto 4, 3) := by decide +kernel
theorem dX6_isCall_24 : decode cX6_isCall 24 = .ok (.iconst 0, 1) := by decide +kernel
theorem dX6_isCall_25 : decode cX6_isCall 25 = .ok (.ireturn, 1) := by decide +kernel
theorem dX6_isWay_0 : decode cX6_isWay 0 = .ok (.iload_n 0, 1) := by decide +kernel
theorem dX6_isWay_1 : decode cX6_isWay 1 = .ok (.ifCond .eq 8, 3) := by decide +kernel
theorem dX6_isWay_4 : decode cX6_isWay 4 = .ok (.iload_n 0, 1) := by decide +kernel
theorem dX6_isWay_5 : decode cX6_isWay 5 = .ok (.iconst 1, 1) := by decide +kernel
theorem dX6_isWay_6 : decode cX6_isWay 6 = .ok (.if_icmp .ne 7, 3) := by decide +kernel
theorem dX6_isWay_9 : decode cX6_isWay 9 = .ok (.iconst 1, 1) := by decide +kernel
theorem dX6_isWay_10 : decode cX6_isWay 10 = .ok (.goto 4, 3) := by decide +kernel
theorem dX6_isWay_13 : decode cX6_isWay 13 = .ok (.iconst 0, 1) := by decide +kernel
theorem dX6_isWay_14 : decode cX6_isWay 14 = .ok (.ireturn, 1) := by decide +kernel
