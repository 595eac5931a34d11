theorem dX6_init_0 : decode cX6_init 0 = .ok (.aload_n 0, 1) := by decide +kernel
theorem dX6_init_1 : decode cX6_init 1 = .ok (.invokespecial 1, 3) := by decide +kernel
theorem dX6_init_4 : decode cX6_init 4 = .ok (.aload_n 0, 1) := by decide +kernel
theorem dX6_init_5 : decode cX6_init 5 = .ok (.iconst 3, 1) := by decide +kernel
theorem dX6_init_6 : decode cX6_init 6 = .ok (.putfield 7, 3) := by decide +kernel
theorem dX6_init_9 : decode cX6_init 9 = .ok (.aload_n 0, 1) := by decide +kernel
theorem dX6_init_10 : decode cX6_init 10 = .ok (.iconst 2, 1) := by decide +kernel
theorem dX6_init_11 : decode cX6_init 11 = .ok (.newarray .int, 2) := by decide +kernel
theorem dX6_init_13 : decode cX6_init 13 = .ok (.putfield 13, 3) := by decide +kernel
theorem dX6_init_16 : decode cX6_init 16 = .ok (.aload_n 0, 1) := by decide +kernel
theorem dX6_init_17 : decode cX6_init 17 = .ok (.bipush 16, 2) := by decide +kernel
theorem dX6_init_19 : decode cX6_init 19 = .ok (.newarray .int, 2) := by decide +kernel
theorem dX6_init_21 : decode cX6_init 21 = .ok (.putfield 17, 3) := by decide +kernel
theorem dX6_init_24 : decode cX6_init 24 = .ok (.aload_n 0, 1) := by decide +kernel
theorem dX6_init_25 : decode cX6_init 25 = .ok (.sipush 384, 3) := by decide +kernel
theorem dX6_init_28 : decode cX6_init 28 = .ok (.newarray .int, 2) := by decide +kernel
theorem dX6_init_30 : decode cX6_init 30 = .ok (.putfield 20, 3) := by decide +kernel
theorem dX6_init_33 : decode cX6_init 33 = .ok (.aload_n 0, 1) := by decide +kernel
theorem dX6_init_34 : decode cX6_init 34 = .ok (.iconst 2, 1) := by decide +kernel
theorem dX6_init_35 : decode cX6_init 35 = .ok (.newarray .int, 2) := by decide +kernel
theorem dX6_init_37 : decode cX6_init 37 = .ok (.putfield 23, 3) := by decide +kernel
theorem dX6_init_40 : decode cX6_init 40 = .ok (.aload_n 0, 1) := by decide +kernel
theorem dX6_init_41 : decode cX6_init 41 = .ok (.iconst 2, 1) := by decide +kernel
theorem dX6_init_42 : decode cX6_init 42 = .ok (.newarray .int, 2) := by decide +kernel
theorem dX6_init_44 : decode cX6_init 44 = .ok (.putfield 26, 3) := by decide +kernel
theorem dX6_init_47 : decode cX6_init 47 = .ok (.aload_n 0, 1) := by decide +kernel
theorem dX6_init_48 : decode cX6_init 48 = .ok (.iconst 2, 1) := by decide +kernel
theorem dX6_init_49 : decode cX6_init 49 = .ok (.newarray .int, 2) := by decide +kernel
theorem dX6_init_51 : decode cX6_init 51 = .ok (.putfield 29, 3) := by decide +kernel
theorem dX6_init_54 : decode cX6_init 54 = .ok (.aload_n 0, 1) := by decide +kernel
theorem dX6_init_55 : decode cX6_init 55 = .ok (.iconst 2, 1) := by decide +kernel
theorem dX6_init_56 : decode cX6_init 56 = .ok (.newarray .boolean, 2) := by decide +kernel
theorem dX6_init_58 : decode cX6_init 58 = .ok (.putfield 32, 3) := by decide +kernel
theorem dX6_init_61 : decode cX6_init 61 = .ok (.aload_n 0, 1) := by decide +kernel
theorem dX6_init_62 : decode cX6_init 62 = .ok (.iconst 2, 1) := by decide +kernel
theorem dX6_init_63 : decode cX6_init 63 = .ok (.newarray .int, 2) := by decide +kernel
theorem dX6_init_65 : decode cX6_init 65 = .ok (.putfield 36, 3) := by decide +kernel
theorem dX6_init_68 : decode cX6_init 68 = .ok (.aload_n 0, 1) := by decide +kernel
theorem dX6_init_69 : decode cX6_init 69 = .ok (.iconst (-1), 1) := by decide +kernel
theorem dX6_init_70 : decode cX6_init 70 = .ok (.putfield 39, 3) := by decide +kernel
theorem dX6_init_73 : decode cX6_init 73 = .ok (.aload_n 0, 1) := by decide +kernel
theorem dX6_init_74 : decode cX6_init 74 = .ok (.bipush 8, 2) := by decide +kernel
theorem dX6_init_76 : decode cX6_init 76 = .ok (.newarray .int, 2) := by decide +kernel
theorem dX6_init_78 : decode cX6_init 78 = .ok (.putfield 42, 3) := by decide +kernel
theorem dX6_init_81 : decode cX6_init 81 = .ok (.aload_n 0, 1) := by decide +kernel
theorem dX6_init_82 : decode cX6_init 82 = .ok (.bipush 8, 2) := by decide +kernel
theorem dX6_init_84 : decode cX6_init 84 = .ok (.newarray .int, 2) := by decide +kernel
theorem dX6_init_86 : decode cX6_init 86 = .ok (.putfield 45, 3) := by decide +kernel
theorem dX6_init_89 : decode cX6_init 89 = .ok (.aload_n 0, 1) := by decide +kernel
theorem dX6_init_90 : decode cX6_init 90 = .ok (.bipush 24, 2) := by decide +kernel
theorem dX6_init_92 : decode cX6_init 92 = .ok (.newarray .int, 2) := by decide +kernel
theorem dX6_init_94 : decode cX6_init 94 = .ok (.putfield 48, 3) := by decide +kernel
theorem dX6_init_97 : decode cX6_init 97 = .ok (.aload_n 0, 1) := by decide +kernel
theorem dX6_init_98 : decode cX6_init 98 = .ok (.iload_n 1, 1) := by decide +kernel
theorem dX6_init_99 : decode cX6_init 99 = .ok (.putfield 51, 3) := by decide +kernel
theorem dX6_init_102 : decode cX6_init 102 = .ok (.aload_n 0, 1) := by decide +kernel
theorem dX6_init_103 : decode cX6_init 103 = .ok (.iload_n 2, 1) := by decide +kernel
theorem dX6_init_104 : decode cX6_init 104 = .ok (.putfield 54, 3) := by decide +kernel
theorem dX6_init_107 : decode cX6_init 107 = .ok (.aload_n 0, 1) := by decide +kernel
theorem dX6_init_108 : decode cX6_init 108 = .ok (.iload_n 3, 1) := by decide +kernel
theorem dX6_init_109 : decode cX6_init 109 = .ok (.putfield 57, 3) := by decide +kernel
theorem dX6_init_112 : decode cX6_init 112 = .ok (.aload_n 0, 1) := by decide +kernel
theorem dX6_init_113 : decode cX6_init 113 = .ok (.getfield 36, 3) := by decide +kernel
theorem dX6_init_116 : decode cX6_init 116 = .ok (.iconst 0, 1) := by decide +kernel
theorem dX6_init_117 : decode cX6_init 117 = .ok (.iconst (-1), 1) := by decide +kernel
theorem dX6_init_118 : decode cX6_init 118 = .ok (.iastore, 1) := by decide +kernel
theorem dX6_init_119 : decode cX6_init 119 = .ok (.aload_n 0, 1) := by decide +kernel
theorem dX6_init_120 : decode cX6_init 120 = .ok (.getfield 36, 3) := by decide +kernel
theorem dX6_init_123 : decode cX6_init 123 = .ok (.iconst 1, 1) := by decide +kernel
theorem dX6_init_124 : decode cX6_init 124 = .ok (.iconst (-1), 1) := by decide +kernel
theorem dX6_init_125 : decode cX6_init 125 = .ok (.iastore, 1) := by decide +kernel
theorem dX6_init_126 : decode cX6_init 126 = .ok (.return_, 1) := by decide +kernel
theorem dX6_put_0 : decode cX6_put 0 = .ok (.aload_n 0, 1) := by decide +kernel
theorem dX6_put_1 : decode cX6_put 1 = .ok (.getfield 60, 3) := by decide +kernel
theorem dX6_put_4 : decode cX6_put 4 = .ok (.ifCond .ne 14, 3) := by decide +kernel
theorem dX6_put_7 : decode cX6_put 7 = .ok (.aload_n 0, 1) := by decide +kernel
theorem dX6_put_8 : decode cX6_put 8 = .ok (.getfield 13, 3) := by decide +kernel
theorem dX6_put_11 : decode cX6_put 11 = .ok (.iload_n 1, 1) := by decide +kernel
theorem dX6_put_12 : decode cX6_put 12 = .ok (.iaload, 1) := by decide +kernel
theorem dX6_put_13 : decode cX6_put 13 = .ok (.bipush 8, 2) := by decide +kernel
theorem dX6_put_15 : decode cX6_put 15 = .ok (.if_icmp .ne 6, 3) := by decide +kernel
theorem dX6_put_18 : decode cX6_put 18 = .ok (.bipush (-3), 2) := by decide +kernel
theorem dX6_put_20 : decode cX6_put 20 = .ok (.ireturn, 1) := by decide +kernel
theorem dX6_put_21 : decode cX6_put 21 = .ok (.bipush 8, 2) := by decide +kernel
theorem dX6_put_23 : decode cX6_put 23 = .ok (.iload_n 1, 1) := by decide +kernel
theorem dX6_put_24 : decode cX6_put 24 = .ok (.imul, 1) := by decide +kernel
theorem dX6_put_25 : decode cX6_put 25 = .ok (.aload_n 0, 1) := by decide +kernel
theorem dX6_put_26 : decode cX6_put 26 = .ok (.getfield 13, 3) := by decide +kernel
theorem dX6_put_29 : decode cX6_put 29 = .ok (.iload_n 1, 1) := by decide +kernel
theorem dX6_put_30 : decode cX6_put 30 = .ok (.iaload, 1) := by decide +kernel
theorem dX6_put_31 : decode cX6_put 31 = .ok (.iadd, 1) := by decide +kernel
theorem dX6_put_32 : decode cX6_put 32 = .ok (.istore 4, 2) := by decide +kernel
theorem dX6_put_34 : decode cX6_put 34 = .ok (.aload_n 0, 1) := by decide +kernel
theorem dX6_put_35 : decode cX6_put 35 = .ok (.getfield 13, 3) := by decide +kernel
theorem dX6_put_38 : decode cX6_put 38 = .ok (.iload_n 1, 1) := by decide +kernel
theorem dX6_put_39 : decode cX6_put 39 = .ok (.dup2, 1) := by decide +kernel
theorem dX6_put_40 : decode cX6_put 40 = .ok (.iaload, 1) := by decide +kernel
theorem dX6_put_41 : decode cX6_put 41 = .ok (.iconst 1, 1) := by decide +kernel
theorem dX6_put_42 : decode cX6_put 42 = .ok (.iadd, 1) := by decide +kernel
theorem dX6_put_43 : decode cX6_put 43 = .ok (.iastore, 1) := by decide +kernel
theorem dX6_put_44 : decode cX6_put 44 = .ok (.aload_n 0, 1) := by decide +kernel
theorem dX6_put_45 : decode cX6_put 45 = .ok (.getfield 17, 3) := by decide +kernel
theorem dX6_put_48 : decode cX6_put 48 = .ok (.iload 4, 2) := by decide +kernel
theorem dX6_put_50 : decode cX6_put 50 = .ok (.iconst 2, 1) := by decide +kernel
theorem dX6_put_51 : decode cX6_put 51 = .ok (.iastore, 1) := by decide +kernel
theorem dX6_put_52 : decode cX6_put 52 = .ok (.aload_n 0, 1) := by decide +kernel
theorem dX6_put_53 : decode cX6_put 53 = .ok (.getfield 20, 3) := by decide +kernel
theorem dX6_put_56 : decode cX6_put 56 = .ok (.bipush 24, 2) := by decide +kernel
theorem dX6_put_58 : decode cX6_put 58 = .ok (.iload 4, 2) := by decide +kernel
theorem dX6_put_60 : decode cX6_put 60 = .ok (.imul, 1) := by decide +kernel
theorem dX6_put_61 : decode cX6_put 61 = .ok (.iload_n 2, 1) := by decide +kernel
theorem dX6_put_62 : decode cX6_put 62 = .ok (.iastore, 1) := by decide +kernel
theorem dX6_put_63 : decode cX6_put 63 = .ok (.aload_n 0, 1) := by decide +kernel
theorem dX6_put_64 : decode cX6_put 64 = .ok (.getfield 20, 3) := by decide +kernel
theorem dX6_put_67 : decode cX6_put 67 = .ok (.bipush 24, 2) := by decide +kernel
theorem dX6_put_69 : decode cX6_put 69 = .ok (.iload 4, 2) := by decide +kernel
theorem dX6_put_71 : decode cX6_put 71 = .ok (.imul, 1) := by decide +kernel
theorem dX6_put_72 : decode cX6_put 72 = .ok (.iconst 1, 1) := by decide +kernel
theorem dX6_put_73 : decode cX6_put 73 = .ok (.iadd, 1) := by decide +kernel
theorem dX6_put_74 : decode cX6_put 74 = .ok (.iload_n 3, 1) := by decide +kernel
theorem dX6_put_75 : decode cX6_put 75 = .ok (.iastore, 1) := by decide +kernel
theorem dX6_put_76 : decode cX6_put 76 = .ok (.iload 4, 2) := by decide +kernel
theorem dX6_put_78 : decode cX6_put 78 = .ok (.ireturn, 1) := by decide +kernel
theorem dX6_more_0 : decode cX6_more 0 = .ok (.iload_n 1, 1) := by decide +kernel
theorem dX6_more_1 : decode cX6_more 1 = .ok (.bipush (-3), 2) := by decide +kernel
theorem dX6_more_3 : decode cX6_more 3 = .ok (.if_icmp .eq 34, 3) := by decide +kernel
theorem dX6_more_6 : decode cX6_more 6 = .ok (.aload_n 0, 1) := by decide +kernel
theorem dX6_more_7 : decode cX6_more 7 = .ok (.getfield 20, 3) := by decide +kernel
theorem dX6_more_10 : decode cX6_more 10 = .ok (.bipush 24, 2) := by decide +kernel
theorem dX6_more_12 : decode cX6_more 12 = .ok (.iload_n 1, 1) := by decide +kernel
theorem dX6_more_13 : decode cX6_more 13 = .ok (.imul, 1) := by decide +kernel
theorem dX6_more_14 : decode cX6_more 14 = .ok (.aload_n 0, 1) := by decide +kernel
theorem dX6_more_15 : decode cX6_more 15 = .ok (.getfield 17, 3) := by decide +kernel
theorem dX6_more_18 : decode cX6_more 18 = .ok (.iload_n 1, 1) := by decide +kernel
theorem dX6_more_19 : decode cX6_more 19 = .ok (.iaload, 1) := by decide +kernel
theorem dX6_more_20 : decode cX6_more 20 = .ok (.iadd, 1) := by decide +kernel
theorem dX6_more_21 : decode cX6_more 21 = .ok (.iload_n 2, 1) := by decide +kernel
theorem dX6_more_22 : decode cX6_more 22 = .ok (.sipush 255, 3) := by decide +kernel
theorem dX6_more_25 : decode cX6_more 25 = .ok (.iand, 1) := by decide +kernel
theorem dX6_more_26 : decode cX6_more 26 = .ok (.iastore, 1) := by decide +kernel
theorem dX6_more_27 : decode cX6_more 27 = .ok (.aload_n 0, 1) := by decide +kernel
theorem dX6_more_28 : decode cX6_more 28 = .ok (.getfield 17, 3) := by decide +kernel
theorem dX6_more_31 : decode cX6_more 31 = .ok (.iload_n 1, 1) := by decide +kernel
theorem dX6_more_32 : decode cX6_more 32 = .ok (.dup2, 1) := by decide +kernel
theorem dX6_more_33 : decode cX6_more 33 = .ok (.iaload, 1) := by decide +kernel
theorem dX6_more_34 : decode cX6_more 34 = .ok (.iconst 1, 1) := by decide +kernel
theorem dX6_more_35 : decode cX6_more 35 = .ok (.iadd, 1) := by decide +kernel
theorem dX6_more_36 : decode cX6_more 36 = .ok (.iastore, 1) := by decide +kernel
theorem dX6_more_37 : decode cX6_more 37 = .ok (.return_, 1) := by decide +kernel
theorem dX6_tell_0 : decode cX6_tell 0 = .ok (.aload_n 0, 1) := by decide +kernel
theorem dX6_tell_1 : decode cX6_tell 1 = .ok (.iload_n 1, 1) := by decide +kernel
theorem dX6_tell_2 : decode cX6_tell 2 = .ok (.iload_n 2, 1) := by decide +kernel
theorem dX6_tell_3 : decode cX6_tell 3 = .ok (.iload_n 3, 1) := by decide +kernel
theorem dX6_tell_4 : decode cX6_tell 4 = .ok (.invokevirtual 64, 3) := by decide +kernel
theorem dX6_tell_7 : decode cX6_tell 7 = .ok (.istore 7, 2) := by decide +kernel
theorem dX6_tell_9 : decode cX6_tell 9 = .ok (.aload_n 0, 1) := by decide +kernel
theorem dX6_tell_10 : decode cX6_tell 10 = .ok (.iload 7, 2) := by decide +kernel
theorem dX6_tell_12 : decode cX6_tell 12 = .ok (.iload 4, 2) := by decide +kernel
theorem dX6_tell_14 : decode cX6_tell 14 = .ok (.invokevirtual 68, 3) := by decide +kernel
theorem dX6_tell_17 : decode cX6_tell 17 = .ok (.aload_n 0, 1) := by decide +kernel
theorem dX6_tell_18 : decode cX6_tell 18 = .ok (.iload 7, 2) := by decide +kernel
theorem dX6_tell_20 : decode cX6_tell 20 = .ok (.iload 5, 2) := by decide +kernel
theorem dX6_tell_22 : decode cX6_tell 22 = .ok (.invokevirtual 68, 3) := by decide +kernel
theorem dX6_tell_25 : decode cX6_tell 25 = .ok (.iload 5, 2) := by decide +kernel
theorem dX6_tell_27 : decode cX6_tell 27 = .ok (.iconst 1, 1) := by decide +kernel
theorem dX6_tell_28 : decode cX6_tell 28 = .ok (.isub, 1) := by decide +kernel
theorem dX6_tell_29 : decode cX6_tell 29 = .ok (.istore 8, 2) := by decide +kernel
theorem dX6_tell_31 : decode cX6_tell 31 = .ok (.iload 8, 2) := by decide +kernel
theorem dX6_tell_33 : decode cX6_tell 33 = .ok (.ifCond .lt 23, 3) := by decide +kernel
theorem dX6_tell_36 : decode cX6_tell 36 = .ok (.aload_n 0, 1) := by decide +kernel
theorem dX6_tell_37 : decode cX6_tell 37 = .ok (.iload 7, 2) := by decide +kernel
theorem dX6_tell_39 : decode cX6_tell 39 = .ok (.iload 6, 2) := by decide +kernel
theorem dX6_tell_41 : decode cX6_tell 41 = .ok (.bipush 8, 2) := by decide +kernel
theorem dX6_tell_43 : decode cX6_tell 43 = .ok (.iload 8, 2) := by decide +kernel
theorem dX6_tell_45 : decode cX6_tell 45 = .ok (.imul, 1) := by decide +kernel
theorem dX6_tell_46 : decode cX6_tell 46 = .ok (.ishr, 1) := by decide +kernel
theorem dX6_tell_47 : decode cX6_tell 47 = .ok (.invokevirtual 68, 3) := by decide +kernel
theorem dX6_tell_50 : decode cX6_tell 50 = .ok (.iinc 8 (-1), 3) := by decide +kernel
theorem dX6_tell_53 : decode cX6_tell 53 = .ok (.goto (-22), 3) := by decide +kernel
theorem dX6_tell_56 : decode cX6_tell 56 = .ok (.return_, 1) := by decide +kernel
theorem dX6_take_0 : decode cX6_take 0 = .ok (.bipush 8, 2) := by decide +kernel
theorem dX6_take_2 : decode cX6_take 2 = .ok (.iload_n 1, 1) := by decide +kernel
theorem dX6_take_3 : decode cX6_take 3 = .ok (.imul, 1) := by decide +kernel
theorem dX6_take_4 : decode cX6_take 4 = .ok (.istore_n 2, 1) := by decide +kernel
theorem dX6_take_5 : decode cX6_take 5 = .ok (.aload_n 0, 1) := by decide +kernel
theorem dX6_take_6 : decode cX6_take 6 = .ok (.aload_n 0, 1) := by decide +kernel
theorem dX6_take_7 : decode cX6_take 7 = .ok (.getfield 17, 3) := by decide +kernel
theorem dX6_take_10 : decode cX6_take 10 = .ok (.iload_n 2, 1) := by decide +kernel
theorem dX6_take_11 : decode cX6_take 11 = .ok (.iaload, 1) := by decide +kernel
theorem dX6_take_12 : decode cX6_take 12 = .ok (.putfield 72, 3) := by decide +kernel
theorem dX6_take_15 : decode cX6_take 15 = .ok (.iconst 0, 1) := by decide +kernel
theorem dX6_take_16 : decode cX6_take 16 = .ok (.istore_n 3, 1) := by decide +kernel
theorem dX6_take_17 : decode cX6_take 17 = .ok (.iload_n 3, 1) := by decide +kernel
theorem dX6_take_18 : decode cX6_take 18 = .ok (.aload_n 0, 1) := by decide +kernel
theorem dX6_take_19 : decode cX6_take 19 = .ok (.getfield 72, 3) := by decide +kernel
theorem dX6_take_22 : decode cX6_take 22 = .ok (.if_icmp .ge 26, 3) := by decide +kernel
theorem dX6_take_25 : decode cX6_take 25 = .ok (.aload_n 0, 1) := by decide +kernel
theorem dX6_take_26 : decode cX6_take 26 = .ok (.getfield 48, 3) := by decide +kernel
theorem dX6_take_29 : decode cX6_take 29 = .ok (.iload_n 3, 1) := by decide +kernel
theorem dX6_take_30 : decode cX6_take 30 = .ok (.aload_n 0, 1) := by decide +kernel
theorem dX6_take_31 : decode cX6_take 31 = .ok (.getfield 20, 3) := by decide +kernel
theorem dX6_take_34 : decode cX6_take 34 = .ok (.bipush 24, 2) := by decide +kernel
theorem dX6_take_36 : decode cX6_take 36 = .ok (.iload_n 2, 1) := by decide +kernel
theorem dX6_take_37 : decode cX6_take 37 = .ok (.imul, 1) := by decide +kernel
theorem dX6_take_38 : decode cX6_take 38 = .ok (.iload_n 3, 1) := by decide +kernel
theorem dX6_take_39 : decode cX6_take 39 = .ok (.iadd, 1) := by decide +kernel
theorem dX6_take_40 : decode cX6_take 40 = .ok (.iaload, 1) := by decide +kernel
theorem dX6_take_41 : decode cX6_take 41 = .ok (.iastore, 1) := by decide +kernel
theorem dX6_take_42 : decode cX6_take 42 = .ok (.iinc 3 1, 3) := by decide +kernel
theorem dX6_take_45 : decode cX6_take 45 = .ok (.goto (-28), 3) := by decide +kernel
theorem dX6_take_48 : decode cX6_take 48 = .ok (.aload_n 0, 1) := by decide +kernel
theorem dX6_take_49 : decode cX6_take 49 = .ok (.getfield 13, 3) := by decide +kernel
theorem dX6_take_52 : decode cX6_take 52 = .ok (.iload_n 1, 1) := by decide +kernel
theorem dX6_take_53 : decode cX6_take 53 = .ok (.dup2, 1) := by decide +kernel
theorem dX6_take_54 : decode cX6_take 54 = .ok (.iaload, 1) := by decide +kernel
theorem dX6_take_55 : decode cX6_take 55 = .ok (.iconst 1, 1) := by decide +kernel
theorem dX6_take_56 : decode cX6_take 56 = .ok (.isub, 1) := by decide +kernel
theorem dX6_take_57 : decode cX6_take 57 = .ok (.iastore, 1) := by decide +kernel
theorem dX6_take_58 : decode cX6_take 58 = .ok (.iconst 0, 1) := by decide +kernel
theorem dX6_take_59 : decode cX6_take 59 = .ok (.istore_n 3, 1) := by decide +kernel
theorem dX6_take_60 : decode cX6_take 60 = .ok (.iload_n 3, 1) := by decide +kernel
theorem dX6_take_61 : decode cX6_take 61 = .ok (.aload_n 0, 1) := by decide +kernel
theorem dX6_take_62 : decode cX6_take 62 = .ok (.getfield 13, 3) := by decide +kernel
theorem dX6_take_65 : decode cX6_take 65 = .ok (.iload_n 1, 1) := by decide +kernel
theorem dX6_take_66 : decode cX6_take 66 = .ok (.iaload, 1) := by decide +kernel
theorem dX6_take_67 : decode cX6_take 67 = .ok (.if_icmp .ge 73, 3) := by decide +kernel
theorem dX6_take_70 : decode cX6_take 70 = .ok (.aload_n 0, 1) := by decide +kernel
theorem dX6_take_71 : decode cX6_take 71 = .ok (.getfield 17, 3) := by decide +kernel
theorem dX6_take_74 : decode cX6_take 74 = .ok (.iload_n 2, 1) := by decide +kernel
theorem dX6_take_75 : decode cX6_take 75 = .ok (.iload_n 3, 1) := by decide +kernel
theorem dX6_take_76 : decode cX6_take 76 = .ok (.iadd, 1) := by decide +kernel
theorem dX6_take_77 : decode cX6_take 77 = .ok (.aload_n 0, 1) := by decide +kernel
theorem dX6_take_78 : decode cX6_take 78 = .ok (.getfield 17, 3) := by decide +kernel
theorem dX6_take_81 : decode cX6_take 81 = .ok (.iload_n 2, 1) := by decide +kernel
theorem dX6_take_82 : decode cX6_take 82 = .ok (.iload_n 3, 1) := by decide +kernel
theorem dX6_take_83 : decode cX6_take 83 = .ok (.iadd, 1) := by decide +kernel
theorem dX6_take_84 : decode cX6_take 84 = .ok (.iconst 1, 1) := by decide +kernel
theorem dX6_take_85 : decode cX6_take 85 = .ok (.iadd, 1) := by decide +kernel
theorem dX6_take_86 : decode cX6_take 86 = .ok (.iaload, 1) := by decide +kernel
theorem dX6_take_87 : decode cX6_take 87 = .ok (.iastore, 1) := by decide +kernel
theorem dX6_take_88 : decode cX6_take 88 = .ok (.iconst 0, 1) := by decide +kernel
theorem dX6_take_89 : decode cX6_take 89 = .ok (.istore 4, 2) := by decide +kernel
theorem dX6_take_91 : decode cX6_take 91 = .ok (.iload 4, 2) := by decide +kernel
theorem dX6_take_93 : decode cX6_take 93 = .ok (.bipush 24, 2) := by decide +kernel
theorem dX6_take_95 : decode cX6_take 95 = .ok (.if_icmp .ge 39, 3) := by decide +kernel
theorem dX6_take_98 : decode cX6_take 98 = .ok (.aload_n 0, 1) := by decide +kernel
theorem dX6_take_99 : decode cX6_take 99 = .ok (.getfield 20, 3) := by decide +kernel
theorem dX6_take_102 : decode cX6_take 102 = .ok (.bipush 24, 2) := by decide +kernel
theorem dX6_take_104 : decode cX6_take 104 = .ok (.iload_n 2, 1) := by decide +kernel
theorem dX6_take_105 : decode cX6_take 105 = .ok (.iload_n 3, 1) := by decide +kernel
theorem dX6_take_106 : decode cX6_take 106 = .ok (.iadd, 1) := by decide +kernel
theorem dX6_take_107 : decode cX6_take 107 = .ok (.imul, 1) := by decide +kernel
theorem dX6_take_108 : decode cX6_take 108 = .ok (.iload 4, 2) := by decide +kernel
theorem dX6_take_110 : decode cX6_take 110 = .ok (.iadd, 1) := by decide +kernel
theorem dX6_take_111 : decode cX6_take 111 = .ok (.aload_n 0, 1) := by decide +kernel
theorem dX6_take_112 : decode cX6_take 112 = .ok (.getfield 20, 3) := by decide +kernel
theorem dX6_take_115 : decode cX6_take 115 = .ok (.bipush 24, 2) := by decide +kernel
theorem dX6_take_117 : decode cX6_take 117 = .ok (.iload_n 2, 1) := by decide +kernel
theorem dX6_take_118 : decode cX6_take 118 = .ok (.iload_n 3, 1) := by decide +kernel
theorem dX6_take_119 : decode cX6_take 119 = .ok (.iadd, 1) := by decide +kernel
theorem dX6_take_120 : decode cX6_take 120 = .ok (.iconst 1, 1) := by decide +kernel
theorem dX6_take_121 : decode cX6_take 121 = .ok (.iadd, 1) := by decide +kernel
theorem dX6_take_122 : decode cX6_take 122 = .ok (.imul, 1) := by decide +kernel
theorem dX6_take_123 : decode cX6_take 123 = .ok (.iload 4, 2) := by decide +kernel
theorem dX6_take_125 : decode cX6_take 125 = .ok (.iadd, 1) := by decide +kernel
theorem dX6_take_126 : decode cX6_take 126 = .ok (.iaload, 1) := by decide +kernel
theorem dX6_take_127 : decode cX6_take 127 = .ok (.iastore, 1) := by decide +kernel
theorem dX6_take_128 : decode cX6_take 128 = .ok (.iinc 4 1, 3) := by decide +kernel
theorem dX6_take_131 : decode cX6_take 131 = .ok (.goto (-40), 3) := by decide +kernel
theorem dX6_take_134 : decode cX6_take 134 = .ok (.iinc 3 1, 3) := by decide +kernel
theorem dX6_take_137 : decode cX6_take 137 = .ok (.goto (-77), 3) := by decide +kernel
theorem dX6_take_140 : decode cX6_take 140 = .ok (.return_, 1) := by decide +kernel
theorem dX6_isGood_0 : decode cX6_isGood 0 = .ok (.iconst 2, 1) := by decide +kernel
theorem dX6_isGood_1 : decode cX6_isGood 1 = .ok (.istore_n 1, 1) := by decide +kernel
theorem dX6_isGood_2 : decode cX6_isGood 2 = .ok (.iload_n 1, 1) := by decide +kernel
theorem dX6_isGood_3 : decode cX6_isGood 3 = .ok (.iconst 1, 1) := by decide +kernel
theorem dX6_isGood_4 : decode cX6_isGood 4 = .ok (.iadd, 1) := by decide +kernel
theorem dX6_isGood_5 : decode cX6_isGood 5 = .ok (.aload_n 0, 1) := by decide +kernel
theorem dX6_isGood_6 : decode cX6_isGood 6 = .ok (.getfield 72, 3) := by decide +kernel
theorem dX6_isGood_9 : decode cX6_isGood 9 = .ok (.if_icmp .ge 19, 3) := by decide +kernel
theorem dX6_isGood_12 : decode cX6_isGood 12 = .ok (.iload_n 1, 1) := by decide +kernel
theorem dX6_isGood_13 : decode cX6_isGood 13 = .ok (.iconst 2, 1) := by decide +kernel
theorem dX6_isGood_14 : decode cX6_isGood 14 = .ok (.iadd, 1) := by decide +kernel
theorem dX6_isGood_15 : decode cX6_isGood 15 = .ok (.aload_n 0, 1) := by decide +kernel
theorem dX6_isGood_16 : decode cX6_isGood 16 = .ok (.getfield 48, 3) := by decide +kernel
theorem dX6_isGood_19 : decode cX6_isGood 19 = .ok (.iload_n 1, 1) := by decide +kernel
theorem dX6_isGood_20 : decode cX6_isGood 20 = .ok (.iconst 1, 1) := by decide +kernel
theorem dX6_isGood_21 : decode cX6_isGood 21 = .ok (.iadd, 1) := by decide +kernel
theorem dX6_isGood_22 : decode cX6_isGood 22 = .ok (.iaload, 1) := by decide +kernel
theorem dX6_isGood_23 : decode cX6_isGood 23 = .ok (.iadd, 1) := by decide +kernel
theorem dX6_isGood_24 : decode cX6_isGood 24 = .ok (.istore_n 1, 1) := by decide +kernel
theorem dX6_isGood_25 : decode cX6_isGood 25 = .ok (.goto (-23), 3) := by decide +kernel
theorem dX6_isGood_28 : decode cX6_isGood 28 = .ok (.iload_n 1, 1) := by decide +kernel
theorem dX6_isGood_29 : decode cX6_isGood 29 = .ok (.aload_n 0, 1) := by decide +kernel
theorem dX6_isGood_30 : decode cX6_isGood 30 = .ok (.getfield 72, 3) := by decide +kernel
theorem dX6_isGood_33 : decode cX6_isGood 33 = .ok (.if_icmp .ne 7, 3) := by decide +kernel
theorem dX6_isGood_36 : decode cX6_isGood 36 = .ok (.iconst 1, 1) := by decide +kernel
theorem dX6_isGood_37 : decode cX6_isGood 37 = .ok (.goto 4, 3) := by decide +kernel
theorem dX6_isGood_40 : decode cX6_isGood 40 = .ok (.iconst 0, 1) := by decide +kernel
theorem dX6_isGood_41 : decode cX6_isGood 41 = .ok (.ireturn, 1) := by decide +kernel
theorem dX6_find_0 : decode cX6_find 0 = .ok (.iconst 2, 1) := by decide +kernel
theorem dX6_find_1 : decode cX6_find 1 = .ok (.istore_n 2, 1) := by decide +kernel
theorem dX6_find_2 : decode cX6_find 2 = .ok (.iload_n 2, 1) := by decide +kernel
theorem dX6_find_3 : decode cX6_find 3 = .ok (.aload_n 0, 1) := by decide +kernel
theorem dX6_find_4 : decode cX6_find 4 = .ok (.getfield 72, 3) := by decide +kernel
theorem dX6_find_7 : decode cX6_find 7 = .ok (.if_icmp .ge 29, 3) := by decide +kernel
theorem dX6_find_10 : decode cX6_find 10 = .ok (.aload_n 0, 1) := by decide +kernel
theorem dX6_find_11 : decode cX6_find 11 = .ok (.getfield 48, 3) := by decide +kernel
theorem dX6_find_14 : decode cX6_find 14 = .ok (.iload_n 2, 1) := by decide +kernel
theorem dX6_find_15 : decode cX6_find 15 = .ok (.iaload, 1) := by decide +kernel
theorem dX6_find_16 : decode cX6_find 16 = .ok (.iload_n 1, 1) := by decide +kernel
theorem dX6_find_17 : decode cX6_find 17 = .ok (.if_icmp .eq 19, 3) := by decide +kernel
theorem dX6_find_20 : decode cX6_find 20 = .ok (.iload_n 2, 1) := by decide +kernel
theorem dX6_find_21 : decode cX6_find 21 = .ok (.iconst 2, 1) := by decide +kernel
theorem dX6_find_22 : decode cX6_find 22 = .ok (.iadd, 1) := by decide +kernel
theorem dX6_find_23 : decode cX6_find 23 = .ok (.aload_n 0, 1) := by decide +kernel
theorem dX6_find_24 : decode cX6_find 24 = .ok (.getfield 48, 3) := by decide +kernel
theorem dX6_find_27 : decode cX6_find 27 = .ok (.iload_n 2, 1) := by decide +kernel
theorem dX6_find_28 : decode cX6_find 28 = .ok (.iconst 1, 1) := by decide +kernel
theorem dX6_find_29 : decode cX6_find 29 = .ok (.iadd, 1) := by decide +kernel
theorem dX6_find_30 : decode cX6_find 30 = .ok (.iaload, 1) := by decide +kernel
theorem dX6_find_31 : decode cX6_find 31 = .ok (.iadd, 1) := by decide +kernel
theorem dX6_find_32 : decode cX6_find 32 = .ok (.istore_n 2, 1) := by decide +kernel
theorem dX6_find_33 : decode cX6_find 33 = .ok (.goto (-31), 3) := by decide +kernel
theorem dX6_find_36 : decode cX6_find 36 = .ok (.iload_n 2, 1) := by decide +kernel
theorem dX6_find_37 : decode cX6_find 37 = .ok (.aload_n 0, 1) := by decide +kernel
theorem dX6_find_38 : decode cX6_find 38 = .ok (.getfield 72, 3) := by decide +kernel
theorem dX6_find_41 : decode cX6_find 41 = .ok (.if_icmp .ge 9, 3) := by decide +kernel
theorem dX6_find_44 : decode cX6_find 44 = .ok (.iload_n 2, 1) := by decide +kernel
theorem dX6_find_45 : decode cX6_find 45 = .ok (.iconst 2, 1) := by decide +kernel
theorem dX6_find_46 : decode cX6_find 46 = .ok (.iadd, 1) := by decide +kernel
theorem dX6_find_47 : decode cX6_find 47 = .ok (.goto 5, 3) := by decide +kernel
theorem dX6_find_50 : decode cX6_find 50 = .ok (.bipush (-3), 2) := by decide +kernel
theorem dX6_find_52 : decode cX6_find 52 = .ok (.ireturn, 1) := by decide +kernel
theorem dX6_has_0 : decode cX6_has 0 = .ok (.aload_n 0, 1) := by decide +kernel
theorem dX6_has_1 : decode cX6_has 1 = .ok (.iload_n 1, 1) := by decide +kernel
theorem dX6_has_2 : decode cX6_has 2 = .ok (.invokevirtual 75, 3) := by decide +kernel
theorem dX6_has_5 : decode cX6_has 5 = .ok (.istore_n 3, 1) := by decide +kernel
theorem dX6_has_6 : decode cX6_has 6 = .ok (.iload_n 3, 1) := by decide +kernel
theorem dX6_has_7 : decode cX6_has 7 = .ok (.bipush (-3), 2) := by decide +kernel
theorem dX6_has_9 : decode cX6_has 9 = .ok (.if_icmp .eq 19, 3) := by decide +kernel
theorem dX6_has_12 : decode cX6_has 12 = .ok (.aload_n 0, 1) := by decide +kernel
theorem dX6_has_13 : decode cX6_has 13 = .ok (.getfield 48, 3) := by decide +kernel
theorem dX6_has_16 : decode cX6_has 16 = .ok (.iload_n 3, 1) := by decide +kernel
theorem dX6_has_17 : decode cX6_has 17 = .ok (.iconst 1, 1) := by decide +kernel
theorem dX6_has_18 : decode cX6_has 18 = .ok (.isub, 1) := by decide +kernel
theorem dX6_has_19 : decode cX6_has 19 = .ok (.iaload, 1) := by decide +kernel
theorem dX6_has_20 : decode cX6_has 20 = .ok (.iload_n 2, 1) := by decide +kernel
theorem dX6_has_21 : decode cX6_has 21 = .ok (.if_icmp .ne 7, 3) := by decide +kernel
theorem dX6_has_24 : decode cX6_has 24 = .ok (.iconst 1, 1) := by decide +kernel
theorem dX6_has_25 : decode cX6_has 25 = .ok (.goto 4, 3) := by decide +kernel
theorem dX6_has_28 : decode cX6_has 28 = .ok (.iconst 0, 1) := by decide +kernel
theorem dX6_has_29 : decode cX6_has 29 = .ok (.ireturn, 1) := by decide +kernel
theorem dX6_number_0 : decode cX6_number 0 = .ok (.aload_n 0, 1) := by decide +kernel
theorem dX6_number_1 : decode cX6_number 1 = .ok (.iload_n 1, 1) := by decide +kernel
theorem dX6_number_2 : decode cX6_number 2 = .ok (.invokevirtual 75, 3) := by decide +kernel
theorem dX6_number_5 : decode cX6_number 5 = .ok (.istore_n 2, 1) := by decide +kernel
theorem dX6_number_6 : decode cX6_number 6 = .ok (.iconst 0, 1) := by decide +kernel
theorem dX6_number_7 : decode cX6_number 7 = .ok (.istore_n 3, 1) := by decide +kernel
theorem dX6_number_8 : decode cX6_number 8 = .ok (.iconst 0, 1) := by decide +kernel
theorem dX6_number_9 : decode cX6_number 9 = .ok (.istore 4, 2) := by decide +kernel
theorem dX6_number_11 : decode cX6_number 11 = .ok (.iload 4, 2) := by decide +kernel
theorem dX6_number_13 : decode cX6_number 13 = .ok (.aload_n 0, 1) := by decide +kernel
theorem dX6_number_14 : decode cX6_number 14 = .ok (.getfield 48, 3) := by decide +kernel
theorem dX6_number_17 : decode cX6_number 17 = .ok (.iload_n 2, 1) := by decide +kernel
theorem dX6_number_18 : decode cX6_number 18 = .ok (.iconst 1, 1) := by decide +kernel
theorem dX6_number_19 : decode cX6_number 19 = .ok (.isub, 1) := by decide +kernel
theorem dX6_number_20 : decode cX6_number 20 = .ok (.iaload, 1) := by decide +kernel
theorem dX6_number_21 : decode cX6_number 21 = .ok (.if_icmp .ge 24, 3) := by decide +kernel
theorem dX6_number_24 : decode cX6_number 24 = .ok (.iload_n 3, 1) := by decide +kernel
theorem dX6_number_25 : decode cX6_number 25 = .ok (.bipush 8, 2) := by decide +kernel
theorem dX6_number_27 : decode cX6_number 27 = .ok (.ishl, 1) := by decide +kernel
theorem dX6_number_28 : decode cX6_number 28 = .ok (.aload_n 0, 1) := by decide +kernel
theorem dX6_number_29 : decode cX6_number 29 = .ok (.getfield 48, 3) := by decide +kernel
theorem dX6_number_32 : decode cX6_number 32 = .ok (.iload_n 2, 1) := by decide +kernel
theorem dX6_number_33 : decode cX6_number 33 = .ok (.iload 4, 2) := by decide +kernel
theorem dX6_number_35 : decode cX6_number 35 = .ok (.iadd, 1) := by decide +kernel
theorem dX6_number_36 : decode cX6_number 36 = .ok (.iaload, 1) := by decide +kernel
theorem dX6_number_37 : decode cX6_number 37 = .ok (.ior, 1) := by decide +kernel
theorem dX6_number_38 : decode cX6_number 38 = .ok (.istore_n 3, 1) := by decide +kernel
theorem dX6_number_39 : decode cX6_number 39 = .ok (.iinc 4 1, 3) := by decide +kernel
theorem dX6_number_42 : decode cX6_number 42 = .ok (.goto (-31), 3) := by decide +kernel
theorem dX6_number_45 : decode cX6_number 45 = .ok (.iload_n 3, 1) := by decide +kernel
theorem dX6_number_46 : decode cX6_number 46 = .ok (.ireturn, 1) := by decide +kernel
theorem dX6_turned_0 : decode cX6_turned 0 = .ok (.iload_n 0, 1) := by decide +kernel
theorem dX6_turned_1 : decode cX6_turned 1 = .ok (.iload_n 1, 1) := by decide +kernel
theorem dX6_turned_2 : decode cX6_turned 2 = .ok (.ixor, 1) := by decide +kernel
theorem dX6_turned_3 : decode cX6_turned 3 = .ok (.ldc 79, 2) := by decide +kernel
theorem dX6_turned_5 : decode cX6_turned 5 = .ok (.imul, 1) := by decide +kernel
theorem dX6_turned_6 : decode cX6_turned 6 = .ok (.istore_n 2, 1) := by decide +kernel
theorem dX6_turned_7 : decode cX6_turned 7 = .ok (.iload_n 2, 1) := by decide +kernel
theorem dX6_turned_8 : decode cX6_turned 8 = .ok (.iconst 5, 1) := by decide +kernel
theorem dX6_turned_9 : decode cX6_turned 9 = .ok (.ishl, 1) := by decide +kernel
theorem dX6_turned_10 : decode cX6_turned 10 = .ok (.iload_n 2, 1) := by decide +kernel
theorem dX6_turned_11 : decode cX6_turned 11 = .ok (.bipush 27, 2) := by decide +kernel
theorem dX6_turned_13 : decode cX6_turned 13 = .ok (.iushr, 1) := by decide +kernel
theorem dX6_turned_14 : decode cX6_turned 14 = .ok (.ior, 1) := by decide +kernel
theorem dX6_turned_15 : decode cX6_turned 15 = .ok (.ireturn, 1) := by decide +kernel
theorem dX6_become_0 : decode cX6_become 0 = .ok (.aload_n 0, 1) := by decide +kernel
theorem dX6_become_1 : decode cX6_become 1 = .ok (.getfield 23, 3) := by decide +kernel
theorem dX6_become_4 : decode cX6_become 4 = .ok (.iload_n 1, 1) := by decide +kernel
theorem dX6_become_5 : decode cX6_become 5 = .ok (.iload_n 2, 1) := by decide +kernel
theorem dX6_become_6 : decode cX6_become 6 = .ok (.iastore, 1) := by decide +kernel
theorem dX6_become_7 : decode cX6_become 7 = .ok (.aload_n 0, 1) := by decide +kernel
theorem dX6_become_8 : decode cX6_become 8 = .ok (.getfield 26, 3) := by decide +kernel
theorem dX6_become_11 : decode cX6_become 11 = .ok (.iload_n 1, 1) := by decide +kernel
theorem dX6_become_12 : decode cX6_become 12 = .ok (.iload_n 3, 1) := by decide +kernel
theorem dX6_become_13 : decode cX6_become 13 = .ok (.iastore, 1) := by decide +kernel
theorem dX6_become_14 : decode cX6_become 14 = .ok (.aload_n 0, 1) := by decide +kernel
theorem dX6_become_15 : decode cX6_become 15 = .ok (.getfield 29, 3) := by decide +kernel
theorem dX6_become_18 : decode cX6_become 18 = .ok (.iload_n 1, 1) := by decide +kernel
theorem dX6_become_19 : decode cX6_become 19 = .ok (.iload 4, 2) := by decide +kernel
theorem dX6_become_21 : decode cX6_become 21 = .ok (.iastore, 1) := by decide +kernel
theorem dX6_become_22 : decode cX6_become 22 = .ok (.aload_n 0, 1) := by decide +kernel
theorem dX6_become_23 : decode cX6_become 23 = .ok (.getfield 32, 3) := by decide +kernel
theorem dX6_become_26 : decode cX6_become 26 = .ok (.iload_n 1, 1) := by decide +kernel
theorem dX6_become_27 : decode cX6_become 27 = .ok (.iconst 0, 1) := by decide +kernel
theorem dX6_become_28 : decode cX6_become 28 = .ok (.bastore, 1) := by decide +kernel
theorem dX6_become_29 : decode cX6_become 29 = .ok (.return_, 1) := by decide +kernel
theorem dX6_way_0 : decode cX6_way 0 = .ok (.iload_n 1, 1) := by decide +kernel
theorem dX6_way_1 : decode cX6_way 1 = .ok (.ifCond .ne 7, 3) := by decide +kernel
theorem dX6_way_4 : decode cX6_way 4 = .ok (.iconst 0, 1) := by decide +kernel
theorem dX6_way_5 : decode cX6_way 5 = .ok (.goto 4, 3) := by decide +kernel
theorem dX6_way_8 : decode cX6_way 8 = .ok (.iconst 1, 1) := by decide +kernel
theorem dX6_way_9 : decode cX6_way 9 = .ok (.ireturn, 1) := by decide +kernel
theorem dX6_rest_0 : decode cX6_rest 0 = .ok (.iload_n 1, 1) := by decide +kernel
theorem dX6_rest_1 : decode cX6_rest 1 = .ok (.ifCond .ne 7, 3) := by decide +kernel
theorem dX6_rest_4 : decode cX6_rest 4 = .ok (.iconst 3, 1) := by decide +kernel
theorem dX6_rest_5 : decode cX6_rest 5 = .ok (.goto 4, 3) := by decide +kernel
theorem dX6_rest_8 : decode cX6_rest 8 = .ok (.iconst 0, 1) := by decide +kernel
theorem dX6_rest_9 : decode cX6_rest 9 = .ok (.ireturn, 1) := by decide +kernel
theorem dX6_release_0 : decode cX6_release 0 = .ok (.aload_n 0, 1) := by decide +kernel
theorem dX6_release_1 : decode cX6_release 1 = .ok (.aload_n 0, 1) := by decide +kernel
theorem dX6_release_2 : decode cX6_release 2 = .ok (.iload_n 1, 1) := by decide +kernel
theorem dX6_release_3 : decode cX6_release 3 = .ok (.invokevirtual 80, 3) := by decide +kernel
theorem dX6_release_6 : decode cX6_release 6 = .ok (.iconst 3, 1) := by decide +kernel
theorem dX6_release_7 : decode cX6_release 7 = .ok (.bipush 45, 2) := by decide +kernel
theorem dX6_release_9 : decode cX6_release 9 = .ok (.invokevirtual 64, 3) := by decide +kernel
theorem dX6_release_12 : decode cX6_release 12 = .ok (.pop, 1) := by decide +kernel
theorem dX6_release_13 : decode cX6_release 13 = .ok (.aload_n 0, 1) := by decide +kernel
theorem dX6_release_14 : decode cX6_release 14 = .ok (.iload_n 1, 1) := by decide +kernel
theorem dX6_release_15 : decode cX6_release 15 = .ok (.aload_n 0, 1) := by decide +kernel
theorem dX6_release_16 : decode cX6_release 16 = .ok (.getfield 23, 3) := by decide +kernel
theorem dX6_release_19 : decode cX6_release 19 = .ok (.iload_n 1, 1) := by decide +kernel
theorem dX6_release_20 : decode cX6_release 20 = .ok (.iaload, 1) := by decide +kernel
theorem dX6_release_21 : decode cX6_release 21 = .ok (.bipush 6, 2) := by decide +kernel
theorem dX6_release_23 : decode cX6_release 23 = .ok (.bipush 30, 2) := by decide +kernel
theorem dX6_release_25 : decode cX6_release 25 = .ok (.invokevirtual 83, 3) := by decide +kernel
theorem dX6_release_28 : decode cX6_release 28 = .ok (.return_, 1) := by decide +kernel
theorem dX6_isCall_0 : decode cX6_isCall 0 = .ok (.aload_n 0, 1) := by decide +kernel
theorem dX6_isCall_1 : decode cX6_isCall 1 = .ok (.getfield 26, 3) := by decide +kernel
theorem dX6_isCall_4 : decode cX6_isCall 4 = .ok (.iload_n 1, 1) := by decide +kernel
theorem dX6_isCall_5 : decode cX6_isCall 5 = .ok (.iaload, 1) := by decide +kernel
theorem dX6_isCall_6 : decode cX6_isCall 6 = .ok (.iload_n 2, 1) := by decide +kernel
theorem dX6_isCall_7 : decode cX6_isCall 7 = .ok (.if_icmp .lt 17, 3) := by decide +kernel
theorem dX6_isCall_10 : decode cX6_isCall 10 = .ok (.aload_n 0, 1) := by decide +kernel
theorem dX6_isCall_11 : decode cX6_isCall 11 = .ok (.getfield 26, 3) := by decide +kernel
theorem dX6_isCall_14 : decode cX6_isCall 14 = .ok (.iload_n 1, 1) := by decide +kernel
theorem dX6_isCall_15 : decode cX6_isCall 15 = .ok (.iaload, 1) := by decide +kernel
theorem dX6_isCall_16 : decode cX6_isCall 16 = .ok (.iload_n 3, 1) := by decide +kernel
theorem dX6_isCall_17 : decode cX6_isCall 17 = .ok (.if_icmp .gt 7, 3) := by decide +kernel
theorem dX6_isCall_20 : decode cX6_isCall 20 = .ok (.iconst 1, 1) := by decide +kernel
theorem dX6_isCall_21 : decode cX6_isCall 21 = .ok (.goto 4, 3) := by decide +kernel
theorem dX6_isCall_24 : decode cX6_isCall 24 = .ok (.iconst 0, 1) := by decide +kernel
theorem dX6_isCall_25 : decode cX6_isCall 25 = .ok (.ireturn, 1) := by decide +kernel
theorem dX6_closes_0 : decode cX6_closes 0 = .ok (.bipush (-3), 2) := by decide +kernel
theorem dX6_closes_2 : decode cX6_closes 2 = .ok (.istore_n 3, 1) := by decide +kernel
theorem dX6_closes_3 : decode cX6_closes 3 = .ok (.iload_n 2, 1) := by decide +kernel
theorem dX6_closes_4 : decode cX6_closes 4 = .ok (.bipush 37, 2) := by decide +kernel
theorem dX6_closes_6 : decode cX6_closes 6 = .ok (.if_icmp .ne 42, 3) := by decide +kernel
theorem dX6_closes_9 : decode cX6_closes 9 = .ok (.aload_n 0, 1) := by decide +kernel
theorem dX6_closes_10 : decode cX6_closes 10 = .ok (.bipush 8, 2) := by decide +kernel
theorem dX6_closes_12 : decode cX6_closes 12 = .ok (.iconst 1, 1) := by decide +kernel
theorem dX6_closes_13 : decode cX6_closes 13 = .ok (.invokevirtual 87, 3) := by decide +kernel
theorem dX6_closes_16 : decode cX6_closes 16 = .ok (.ifCond .eq 32, 3) := by decide +kernel
theorem dX6_closes_19 : decode cX6_closes 19 = .ok (.aload_n 0, 1) := by decide +kernel
theorem dX6_closes_20 : decode cX6_closes 20 = .ok (.iload_n 1, 1) := by decide +kernel
theorem dX6_closes_21 : decode cX6_closes 21 = .ok (.iconst 1, 1) := by decide +kernel
theorem dX6_closes_22 : decode cX6_closes 22 = .ok (.iconst 5, 1) := by decide +kernel
theorem dX6_closes_23 : decode cX6_closes 23 = .ok (.invokevirtual 91, 3) := by decide +kernel
theorem dX6_closes_26 : decode cX6_closes 26 = .ok (.ifCond .eq 22, 3) := by decide +kernel
theorem dX6_closes_29 : decode cX6_closes 29 = .ok (.aload_n 0, 1) := by decide +kernel
theorem dX6_closes_30 : decode cX6_closes 30 = .ok (.getfield 36, 3) := by decide +kernel
theorem dX6_closes_33 : decode cX6_closes 33 = .ok (.iload_n 1, 1) := by decide +kernel
theorem dX6_closes_34 : decode cX6_closes 34 = .ok (.aload_n 0, 1) := by decide +kernel
theorem dX6_closes_35 : decode cX6_closes 35 = .ok (.bipush 8, 2) := by decide +kernel
theorem dX6_closes_37 : decode cX6_closes 37 = .ok (.invokevirtual 95, 3) := by decide +kernel
theorem dX6_closes_40 : decode cX6_closes 40 = .ok (.iastore, 1) := by decide +kernel
theorem dX6_closes_41 : decode cX6_closes 41 = .ok (.aload_n 0, 1) := by decide +kernel
theorem dX6_closes_42 : decode cX6_closes 42 = .ok (.iload_n 1, 1) := by decide +kernel
theorem dX6_closes_43 : decode cX6_closes 43 = .ok (.invokevirtual 98, 3) := by decide +kernel
theorem dX6_closes_46 : decode cX6_closes 46 = .ok (.iconst 1, 1) := by decide +kernel
theorem dX6_closes_47 : decode cX6_closes 47 = .ok (.ireturn, 1) := by decide +kernel
theorem dX6_closes_48 : decode cX6_closes 48 = .ok (.iload_n 2, 1) := by decide +kernel
theorem dX6_closes_49 : decode cX6_closes 49 = .ok (.bipush 45, 2) := by decide +kernel
theorem dX6_closes_51 : decode cX6_closes 51 = .ok (.if_icmp .ne 44, 3) := by decide +kernel
theorem dX6_closes_54 : decode cX6_closes 54 = .ok (.iload_n 1, 1) := by decide +kernel
theorem dX6_closes_55 : decode cX6_closes 55 = .ok (.iconst 1, 1) := by decide +kernel
theorem dX6_closes_56 : decode cX6_closes 56 = .ok (.if_icmp .eq 12, 3) := by decide +kernel
theorem dX6_closes_59 : decode cX6_closes 59 = .ok (.aload_n 0, 1) := by decide +kernel
theorem dX6_closes_60 : decode cX6_closes 60 = .ok (.getfield 26, 3) := by decide +kernel
theorem dX6_closes_63 : decode cX6_closes 63 = .ok (.iload_n 1, 1) := by decide +kernel
theorem dX6_closes_64 : decode cX6_closes 64 = .ok (.iaload, 1) := by decide +kernel
theorem dX6_closes_65 : decode cX6_closes 65 = .ok (.ifCond .le 30, 3) := by decide +kernel
theorem dX6_closes_68 : decode cX6_closes 68 = .ok (.aload_n 0, 1) := by decide +kernel
theorem dX6_closes_69 : decode cX6_closes 69 = .ok (.aload_n 0, 1) := by decide +kernel
theorem dX6_closes_70 : decode cX6_closes 70 = .ok (.iload_n 1, 1) := by decide +kernel
theorem dX6_closes_71 : decode cX6_closes 71 = .ok (.invokevirtual 80, 3) := by decide +kernel
theorem dX6_closes_74 : decode cX6_closes 74 = .ok (.iconst 3, 1) := by decide +kernel
theorem dX6_closes_75 : decode cX6_closes 75 = .ok (.bipush 42, 2) := by decide +kernel
theorem dX6_closes_77 : decode cX6_closes 77 = .ok (.invokevirtual 64, 3) := by decide +kernel
theorem dX6_closes_80 : decode cX6_closes 80 = .ok (.istore_n 3, 1) := by decide +kernel
theorem dX6_closes_81 : decode cX6_closes 81 = .ok (.aload_n 0, 1) := by decide +kernel
theorem dX6_closes_82 : decode cX6_closes 82 = .ok (.iload_n 1, 1) := by decide +kernel
theorem dX6_closes_83 : decode cX6_closes 83 = .ok (.aload_n 0, 1) := by decide +kernel
theorem dX6_closes_84 : decode cX6_closes 84 = .ok (.iload_n 1, 1) := by decide +kernel
theorem dX6_closes_85 : decode cX6_closes 85 = .ok (.invokevirtual 102, 3) := by decide +kernel
theorem dX6_closes_88 : decode cX6_closes 88 = .ok (.iconst 0, 1) := by decide +kernel
theorem dX6_closes_89 : decode cX6_closes 89 = .ok (.iconst 0, 1) := by decide +kernel
theorem dX6_closes_90 : decode cX6_closes 90 = .ok (.invokevirtual 83, 3) := by decide +kernel
theorem dX6_closes_93 : decode cX6_closes 93 = .ok (.iconst 1, 1) := by decide +kernel
theorem dX6_closes_94 : decode cX6_closes 94 = .ok (.ireturn, 1) := by decide +kernel
theorem dX6_closes_95 : decode cX6_closes 95 = .ok (.iload_n 2, 1) := by decide +kernel
theorem dX6_closes_96 : decode cX6_closes 96 = .ok (.bipush 42, 2) := by decide +kernel
theorem dX6_closes_98 : decode cX6_closes 98 = .ok (.if_icmp .ne 31, 3) := by decide +kernel
theorem dX6_closes_101 : decode cX6_closes 101 = .ok (.iload_n 1, 1) := by decide +kernel
theorem dX6_closes_102 : decode cX6_closes 102 = .ok (.iconst 1, 1) := by decide +kernel
theorem dX6_closes_103 : decode cX6_closes 103 = .ok (.if_icmp .eq 12, 3) := by decide +kernel
theorem dX6_closes_106 : decode cX6_closes 106 = .ok (.aload_n 0, 1) := by decide +kernel
theorem dX6_closes_107 : decode cX6_closes 107 = .ok (.getfield 26, 3) := by decide +kernel
theorem dX6_closes_110 : decode cX6_closes 110 = .ok (.iload_n 1, 1) := by decide +kernel
theorem dX6_closes_111 : decode cX6_closes 111 = .ok (.iaload, 1) := by decide +kernel
theorem dX6_closes_112 : decode cX6_closes 112 = .ok (.ifCond .le 17, 3) := by decide +kernel
theorem dX6_closes_115 : decode cX6_closes 115 = .ok (.aload_n 0, 1) := by decide +kernel
theorem dX6_closes_116 : decode cX6_closes 116 = .ok (.iload_n 1, 1) := by decide +kernel
theorem dX6_closes_117 : decode cX6_closes 117 = .ok (.aload_n 0, 1) := by decide +kernel
theorem dX6_closes_118 : decode cX6_closes 118 = .ok (.iload_n 1, 1) := by decide +kernel
theorem dX6_closes_119 : decode cX6_closes 119 = .ok (.invokevirtual 102, 3) := by decide +kernel
theorem dX6_closes_122 : decode cX6_closes 122 = .ok (.iconst 0, 1) := by decide +kernel
theorem dX6_closes_123 : decode cX6_closes 123 = .ok (.iconst 0, 1) := by decide +kernel
theorem dX6_closes_124 : decode cX6_closes 124 = .ok (.invokevirtual 83, 3) := by decide +kernel
theorem dX6_closes_127 : decode cX6_closes 127 = .ok (.iconst 1, 1) := by decide +kernel
theorem dX6_closes_128 : decode cX6_closes 128 = .ok (.ireturn, 1) := by decide +kernel
theorem dX6_closes_129 : decode cX6_closes 129 = .ok (.iconst 0, 1) := by decide +kernel
theorem dX6_closes_130 : decode cX6_closes 130 = .ok (.ireturn, 1) := by decide +kernel
theorem dX6_mobileMoves_0 : decode cX6_mobileMoves 0 = .ok (.aload_n 0, 1) := by decide +kernel
theorem dX6_mobileMoves_1 : decode cX6_mobileMoves 1 = .ok (.getfield 23, 3) := by decide +kernel
theorem dX6_mobileMoves_4 : decode cX6_mobileMoves 4 = .ok (.iconst 0, 1) := by decide +kernel
theorem dX6_mobileMoves_5 : decode cX6_mobileMoves 5 = .ok (.iaload, 1) := by decide +kernel
theorem dX6_mobileMoves_6 : decode cX6_mobileMoves 6 = .ok (.istore_n 2, 1) := by decide +kernel
theorem dX6_mobileMoves_7 : decode cX6_mobileMoves 7 = .ok (.iload_n 1, 1) := by decide +kernel
theorem dX6_mobileMoves_8 : decode cX6_mobileMoves 8 = .ok (.lookupswitch 271 #[(2, 60), (4, 102), (17, 194), (18, 146), (33, 210), (34, 232)], 60) := by decide +kernel
theorem dX6_mobileMoves_68 : decode cX6_mobileMoves 68 = .ok (.iload_n 2, 1) := by decide +kernel
theorem dX6_mobileMoves_69 : decode cX6_mobileMoves 69 = .ok (.iconst 2, 1) := by decide +kernel
theorem dX6_mobileMoves_70 : decode cX6_mobileMoves 70 = .ok (.if_icmp .ne 13, 3) := by decide +kernel
theorem dX6_mobileMoves_73 : decode cX6_mobileMoves 73 = .ok (.aload_n 0, 1) := by decide +kernel
theorem dX6_mobileMoves_74 : decode cX6_mobileMoves 74 = .ok (.bipush 19, 2) := by decide +kernel
theorem dX6_mobileMoves_76 : decode cX6_mobileMoves 76 = .ok (.iconst 2, 1) := by decide +kernel
theorem dX6_mobileMoves_77 : decode cX6_mobileMoves 77 = .ok (.invokevirtual 87, 3) := by decide +kernel
theorem dX6_mobileMoves_80 : decode cX6_mobileMoves 80 = .ok (.ifCond .ne 5, 3) := by decide +kernel
theorem dX6_mobileMoves_83 : decode cX6_mobileMoves 83 = .ok (.iconst 0, 1) := by decide +kernel
theorem dX6_mobileMoves_84 : decode cX6_mobileMoves 84 = .ok (.ireturn, 1) := by decide +kernel
theorem dX6_mobileMoves_85 : decode cX6_mobileMoves 85 = .ok (.aload_n 0, 1) := by decide +kernel
theorem dX6_mobileMoves_86 : decode cX6_mobileMoves 86 = .ok (.aload_n 0, 1) := by decide +kernel
theorem dX6_mobileMoves_87 : decode cX6_mobileMoves 87 = .ok (.bipush 19, 2) := by decide +kernel
theorem dX6_mobileMoves_89 : decode cX6_mobileMoves 89 = .ok (.invokevirtual 95, 3) := by decide +kernel
theorem dX6_mobileMoves_92 : decode cX6_mobileMoves 92 = .ok (.putfield 105, 3) := by decide +kernel
theorem dX6_mobileMoves_95 : decode cX6_mobileMoves 95 = .ok (.aload_n 0, 1) := by decide +kernel
theorem dX6_mobileMoves_96 : decode cX6_mobileMoves 96 = .ok (.iconst 0, 1) := by decide +kernel
theorem dX6_mobileMoves_97 : decode cX6_mobileMoves 97 = .ok (.iconst 3, 1) := by decide +kernel
theorem dX6_mobileMoves_98 : decode cX6_mobileMoves 98 = .ok (.aload_n 0, 1) := by decide +kernel
theorem dX6_mobileMoves_99 : decode cX6_mobileMoves 99 = .ok (.getfield 26, 3) := by decide +kernel
theorem dX6_mobileMoves_102 : decode cX6_mobileMoves 102 = .ok (.iconst 0, 1) := by decide +kernel
theorem dX6_mobileMoves_103 : decode cX6_mobileMoves 103 = .ok (.iaload, 1) := by decide +kernel
theorem dX6_mobileMoves_104 : decode cX6_mobileMoves 104 = .ok (.iconst 0, 1) := by decide +kernel
theorem dX6_mobileMoves_105 : decode cX6_mobileMoves 105 = .ok (.invokevirtual 83, 3) := by decide +kernel
theorem dX6_mobileMoves_108 : decode cX6_mobileMoves 108 = .ok (.iconst 1, 1) := by decide +kernel
theorem dX6_mobileMoves_109 : decode cX6_mobileMoves 109 = .ok (.ireturn, 1) := by decide +kernel
theorem dX6_mobileMoves_110 : decode cX6_mobileMoves 110 = .ok (.iload_n 2, 1) := by decide +kernel
theorem dX6_mobileMoves_111 : decode cX6_mobileMoves 111 = .ok (.iconst 2, 1) := by decide +kernel
theorem dX6_mobileMoves_112 : decode cX6_mobileMoves 112 = .ok (.if_icmp .ne 13, 3) := by decide +kernel
theorem dX6_mobileMoves_115 : decode cX6_mobileMoves 115 = .ok (.aload_n 0, 1) := by decide +kernel
theorem dX6_mobileMoves_116 : decode cX6_mobileMoves 116 = .ok (.bipush 8, 2) := by decide +kernel
theorem dX6_mobileMoves_118 : decode cX6_mobileMoves 118 = .ok (.iconst 1, 1) := by decide +kernel
theorem dX6_mobileMoves_119 : decode cX6_mobileMoves 119 = .ok (.invokevirtual 87, 3) := by decide +kernel
theorem dX6_mobileMoves_122 : decode cX6_mobileMoves 122 = .ok (.ifCond .ne 5, 3) := by decide +kernel
theorem dX6_mobileMoves_125 : decode cX6_mobileMoves 125 = .ok (.iconst 0, 1) := by decide +kernel
theorem dX6_mobileMoves_126 : decode cX6_mobileMoves 126 = .ok (.ireturn, 1) := by decide +kernel
theorem dX6_mobileMoves_127 : decode cX6_mobileMoves 127 = .ok (.aload_n 0, 1) := by decide +kernel
theorem dX6_mobileMoves_128 : decode cX6_mobileMoves 128 = .ok (.getfield 36, 3) := by decide +kernel
theorem dX6_mobileMoves_131 : decode cX6_mobileMoves 131 = .ok (.iconst 0, 1) := by decide +kernel
theorem dX6_mobileMoves_132 : decode cX6_mobileMoves 132 = .ok (.aload_n 0, 1) := by decide +kernel
theorem dX6_mobileMoves_133 : decode cX6_mobileMoves 133 = .ok (.bipush 8, 2) := by decide +kernel
theorem dX6_mobileMoves_135 : decode cX6_mobileMoves 135 = .ok (.invokevirtual 95, 3) := by decide +kernel
theorem dX6_mobileMoves_138 : decode cX6_mobileMoves 138 = .ok (.iastore, 1) := by decide +kernel
theorem dX6_mobileMoves_139 : decode cX6_mobileMoves 139 = .ok (.aload_n 0, 1) := by decide +kernel
theorem dX6_mobileMoves_140 : decode cX6_mobileMoves 140 = .ok (.iconst 0, 1) := by decide +kernel
theorem dX6_mobileMoves_141 : decode cX6_mobileMoves 141 = .ok (.iconst 1, 1) := by decide +kernel
theorem dX6_mobileMoves_142 : decode cX6_mobileMoves 142 = .ok (.aload_n 0, 1) := by decide +kernel
theorem dX6_mobileMoves_143 : decode cX6_mobileMoves 143 = .ok (.getfield 26, 3) := by decide +kernel
theorem dX6_mobileMoves_146 : decode cX6_mobileMoves 146 = .ok (.iconst 0, 1) := by decide +kernel
theorem dX6_mobileMoves_147 : decode cX6_mobileMoves 147 = .ok (.iaload, 1) := by decide +kernel
theorem dX6_mobileMoves_148 : decode cX6_mobileMoves 148 = .ok (.iconst 0, 1) := by decide +kernel
theorem dX6_mobileMoves_149 : decode cX6_mobileMoves 149 = .ok (.invokevirtual 83, 3) := by decide +kernel
theorem dX6_mobileMoves_152 : decode cX6_mobileMoves 152 = .ok (.iconst 1, 1) := by decide +kernel
theorem dX6_mobileMoves_153 : decode cX6_mobileMoves 153 = .ok (.ireturn, 1) := by decide +kernel
theorem dX6_mobileMoves_154 : decode cX6_mobileMoves 154 = .ok (.iload_n 2, 1) := by decide +kernel
theorem dX6_mobileMoves_155 : decode cX6_mobileMoves 155 = .ok (.iconst 2, 1) := by decide +kernel
theorem dX6_mobileMoves_156 : decode cX6_mobileMoves 156 = .ok (.if_icmp .eq 8, 3) := by decide +kernel
theorem dX6_mobileMoves_159 : decode cX6_mobileMoves 159 = .ok (.iload_n 2, 1) := by decide +kernel
theorem dX6_mobileMoves_160 : decode cX6_mobileMoves 160 = .ok (.iconst 4, 1) := by decide +kernel
theorem dX6_mobileMoves_161 : decode cX6_mobileMoves 161 = .ok (.if_icmp .ne 13, 3) := by decide +kernel
theorem dX6_mobileMoves_164 : decode cX6_mobileMoves 164 = .ok (.aload_n 0, 1) := by decide +kernel
theorem dX6_mobileMoves_165 : decode cX6_mobileMoves 165 = .ok (.bipush 33, 2) := by decide +kernel
theorem dX6_mobileMoves_167 : decode cX6_mobileMoves 167 = .ok (.iconst 4, 1) := by decide +kernel
theorem dX6_mobileMoves_168 : decode cX6_mobileMoves 168 = .ok (.invokevirtual 87, 3) := by decide +kernel
theorem dX6_mobileMoves_171 : decode cX6_mobileMoves 171 = .ok (.ifCond .ne 5, 3) := by decide +kernel
theorem dX6_mobileMoves_174 : decode cX6_mobileMoves 174 = .ok (.iconst 0, 1) := by decide +kernel
theorem dX6_mobileMoves_175 : decode cX6_mobileMoves 175 = .ok (.ireturn, 1) := by decide +kernel
theorem dX6_mobileMoves_176 : decode cX6_mobileMoves 176 = .ok (.aload_n 0, 1) := by decide +kernel
theorem dX6_mobileMoves_177 : decode cX6_mobileMoves 177 = .ok (.iconst 0, 1) := by decide +kernel
theorem dX6_mobileMoves_178 : decode cX6_mobileMoves 178 = .ok (.iconst 5, 1) := by decide +kernel
theorem dX6_mobileMoves_179 : decode cX6_mobileMoves 179 = .ok (.bipush 20, 2) := by decide +kernel
theorem dX6_mobileMoves_181 : decode cX6_mobileMoves 181 = .ok (.bipush 34, 2) := by decide +kernel
theorem dX6_mobileMoves_183 : decode cX6_mobileMoves 183 = .ok (.iconst 4, 1) := by decide +kernel
theorem dX6_mobileMoves_184 : decode cX6_mobileMoves 184 = .ok (.aload_n 0, 1) := by decide +kernel
theorem dX6_mobileMoves_185 : decode cX6_mobileMoves 185 = .ok (.bipush 33, 2) := by decide +kernel
theorem dX6_mobileMoves_187 : decode cX6_mobileMoves 187 = .ok (.invokevirtual 95, 3) := by decide +kernel
theorem dX6_mobileMoves_190 : decode cX6_mobileMoves 190 = .ok (.aload_n 0, 1) := by decide +kernel
theorem dX6_mobileMoves_191 : decode cX6_mobileMoves 191 = .ok (.getfield 51, 3) := by decide +kernel
theorem dX6_mobileMoves_194 : decode cX6_mobileMoves 194 = .ok (.invokestatic 108, 3) := by decide +kernel
theorem dX6_mobileMoves_197 : decode cX6_mobileMoves 197 = .ok (.invokevirtual 112, 3) := by decide +kernel
theorem dX6_mobileMoves_200 : decode cX6_mobileMoves 200 = .ok (.iconst 1, 1) := by decide +kernel
theorem dX6_mobileMoves_201 : decode cX6_mobileMoves 201 = .ok (.ireturn, 1) := by decide +kernel
theorem dX6_mobileMoves_202 : decode cX6_mobileMoves 202 = .ok (.iload_n 2, 1) := by decide +kernel
theorem dX6_mobileMoves_203 : decode cX6_mobileMoves 203 = .ok (.ifCond .ne 5, 3) := by decide +kernel
theorem dX6_mobileMoves_206 : decode cX6_mobileMoves 206 = .ok (.iconst 0, 1) := by decide +kernel
theorem dX6_mobileMoves_207 : decode cX6_mobileMoves 207 = .ok (.ireturn, 1) := by decide +kernel
theorem dX6_mobileMoves_208 : decode cX6_mobileMoves 208 = .ok (.aload_n 0, 1) := by decide +kernel
theorem dX6_mobileMoves_209 : decode cX6_mobileMoves 209 = .ok (.iconst 0, 1) := by decide +kernel
theorem dX6_mobileMoves_210 : decode cX6_mobileMoves 210 = .ok (.iconst 1, 1) := by decide +kernel
theorem dX6_mobileMoves_211 : decode cX6_mobileMoves 211 = .ok (.iconst 0, 1) := by decide +kernel
theorem dX6_mobileMoves_212 : decode cX6_mobileMoves 212 = .ok (.iconst 0, 1) := by decide +kernel
theorem dX6_mobileMoves_213 : decode cX6_mobileMoves 213 = .ok (.invokevirtual 83, 3) := by decide +kernel
theorem dX6_mobileMoves_216 : decode cX6_mobileMoves 216 = .ok (.iconst 1, 1) := by decide +kernel
theorem dX6_mobileMoves_217 : decode cX6_mobileMoves 217 = .ok (.ireturn, 1) := by decide +kernel
theorem dX6_mobileMoves_218 : decode cX6_mobileMoves 218 = .ok (.iload_n 2, 1) := by decide +kernel
theorem dX6_mobileMoves_219 : decode cX6_mobileMoves 219 = .ok (.iconst 4, 1) := by decide +kernel
theorem dX6_mobileMoves_220 : decode cX6_mobileMoves 220 = .ok (.if_icmp .eq 5, 3) := by decide +kernel
theorem dX6_mobileMoves_223 : decode cX6_mobileMoves 223 = .ok (.iconst 0, 1) := by decide +kernel
theorem dX6_mobileMoves_224 : decode cX6_mobileMoves 224 = .ok (.ireturn, 1) := by decide +kernel
theorem dX6_mobileMoves_225 : decode cX6_mobileMoves 225 = .ok (.aload_n 0, 1) := by decide +kernel
theorem dX6_mobileMoves_226 : decode cX6_mobileMoves 226 = .ok (.invokevirtual 116, 3) := by decide +kernel
theorem dX6_mobileMoves_229 : decode cX6_mobileMoves 229 = .ok (.aload_n 0, 1) := by decide +kernel
theorem dX6_mobileMoves_230 : decode cX6_mobileMoves 230 = .ok (.iconst 0, 1) := by decide +kernel
theorem dX6_mobileMoves_231 : decode cX6_mobileMoves 231 = .ok (.iconst 5, 1) := by decide +kernel
theorem dX6_mobileMoves_232 : decode cX6_mobileMoves 232 = .ok (.iconst 1, 1) := by decide +kernel
theorem dX6_mobileMoves_233 : decode cX6_mobileMoves 233 = .ok (.bipush 30, 2) := by decide +kernel
theorem dX6_mobileMoves_235 : decode cX6_mobileMoves 235 = .ok (.invokevirtual 83, 3) := by decide +kernel
theorem dX6_mobileMoves_238 : decode cX6_mobileMoves 238 = .ok (.iconst 1, 1) := by decide +kernel
theorem dX6_mobileMoves_239 : decode cX6_mobileMoves 239 = .ok (.ireturn, 1) := by decide +kernel
theorem dX6_mobileMoves_240 : decode cX6_mobileMoves 240 = .ok (.iload_n 2, 1) := by decide +kernel
theorem dX6_mobileMoves_241 : decode cX6_mobileMoves 241 = .ok (.iconst 4, 1) := by decide +kernel
theorem dX6_mobileMoves_242 : decode cX6_mobileMoves 242 = .ok (.if_icmp .ne 13, 3) := by decide +kernel
theorem dX6_mobileMoves_245 : decode cX6_mobileMoves 245 = .ok (.aload_n 0, 1) := by decide +kernel
theorem dX6_mobileMoves_246 : decode cX6_mobileMoves 246 = .ok (.bipush 8, 2) := by decide +kernel
theorem dX6_mobileMoves_248 : decode cX6_mobileMoves 248 = .ok (.iconst 1, 1) := by decide +kernel
theorem dX6_mobileMoves_249 : decode cX6_mobileMoves 249 = .ok (.invokevirtual 87, 3) := by decide +kernel
theorem dX6_mobileMoves_252 : decode cX6_mobileMoves 252 = .ok (.ifCond .ne 5, 3) := by decide +kernel
theorem dX6_mobileMoves_255 : decode cX6_mobileMoves 255 = .ok (.iconst 0, 1) := by decide +kernel
theorem dX6_mobileMoves_256 : decode cX6_mobileMoves 256 = .ok (.ireturn, 1) := by decide +kernel
theorem dX6_mobileMoves_257 : decode cX6_mobileMoves 257 = .ok (.aload_n 0, 1) := by decide +kernel
theorem dX6_mobileMoves_258 : decode cX6_mobileMoves 258 = .ok (.getfield 36, 3) := by decide +kernel
theorem dX6_mobileMoves_261 : decode cX6_mobileMoves 261 = .ok (.iconst 0, 1) := by decide +kernel
theorem dX6_mobileMoves_262 : decode cX6_mobileMoves 262 = .ok (.aload_n 0, 1) := by decide +kernel
theorem dX6_mobileMoves_263 : decode cX6_mobileMoves 263 = .ok (.bipush 8, 2) := by decide +kernel
theorem dX6_mobileMoves_265 : decode cX6_mobileMoves 265 = .ok (.invokevirtual 95, 3) := by decide +kernel
theorem dX6_mobileMoves_268 : decode cX6_mobileMoves 268 = .ok (.iastore, 1) := by decide +kernel
theorem dX6_mobileMoves_269 : decode cX6_mobileMoves 269 = .ok (.aload_n 0, 1) := by decide +kernel
theorem dX6_mobileMoves_270 : decode cX6_mobileMoves 270 = .ok (.iconst 0, 1) := by decide +kernel
theorem dX6_mobileMoves_271 : decode cX6_mobileMoves 271 = .ok (.iconst 3, 1) := by decide +kernel
theorem dX6_mobileMoves_272 : decode cX6_mobileMoves 272 = .ok (.iconst 0, 1) := by decide +kernel
theorem dX6_mobileMoves_273 : decode cX6_mobileMoves 273 = .ok (.iconst 0, 1) := by decide +kernel
theorem dX6_mobileMoves_274 : decode cX6_mobileMoves 274 = .ok (.invokevirtual 83, 3) := by decide +kernel
theorem dX6_mobileMoves_277 : decode cX6_mobileMoves 277 = .ok (.iconst 1, 1) := by decide +kernel
theorem dX6_mobileMoves_278 : decode cX6_mobileMoves 278 = .ok (.ireturn, 1) := by decide +kernel
theorem dX6_mobileMoves_279 : decode cX6_mobileMoves 279 = .ok (.iconst 0, 1) := by decide +kernel
theorem dX6_mobileMoves_280 : decode cX6_mobileMoves 280 = .ok (.ireturn, 1) := by decide +kernel
theorem dX6_setUp_0 : decode cX6_setUp 0 = .ok (.aload_n 0, 1) := by decide +kernel
theorem dX6_setUp_1 : decode cX6_setUp 1 = .ok (.iconst 0, 1) := by decide +kernel
theorem dX6_setUp_2 : decode cX6_setUp 2 = .ok (.iconst 3, 1) := by decide +kernel
theorem dX6_setUp_3 : decode cX6_setUp 3 = .ok (.iconst 5, 1) := by decide +kernel
theorem dX6_setUp_4 : decode cX6_setUp 4 = .ok (.invokevirtual 64, 3) := by decide +kernel
theorem dX6_setUp_7 : decode cX6_setUp 7 = .ok (.istore_n 1, 1) := by decide +kernel
theorem dX6_setUp_8 : decode cX6_setUp 8 = .ok (.aload_n 0, 1) := by decide +kernel
theorem dX6_setUp_9 : decode cX6_setUp 9 = .ok (.iload_n 1, 1) := by decide +kernel
theorem dX6_setUp_10 : decode cX6_setUp 10 = .ok (.bipush 94, 2) := by decide +kernel
theorem dX6_setUp_12 : decode cX6_setUp 12 = .ok (.invokevirtual 68, 3) := by decide +kernel
theorem dX6_setUp_15 : decode cX6_setUp 15 = .ok (.aload_n 0, 1) := by decide +kernel
theorem dX6_setUp_16 : decode cX6_setUp 16 = .ok (.iload_n 1, 1) := by decide +kernel
theorem dX6_setUp_17 : decode cX6_setUp 17 = .ok (.aload_n 0, 1) := by decide +kernel
theorem dX6_setUp_18 : decode cX6_setUp 18 = .ok (.getfield 119, 3) := by decide +kernel
theorem dX6_setUp_21 : decode cX6_setUp 21 = .ok (.invokevirtual 68, 3) := by decide +kernel
theorem dX6_setUp_24 : decode cX6_setUp 24 = .ok (.iconst 0, 1) := by decide +kernel
theorem dX6_setUp_25 : decode cX6_setUp 25 = .ok (.istore_n 2, 1) := by decide +kernel
theorem dX6_setUp_26 : decode cX6_setUp 26 = .ok (.iload_n 2, 1) := by decide +kernel
theorem dX6_setUp_27 : decode cX6_setUp 27 = .ok (.aload_n 0, 1) := by decide +kernel
theorem dX6_setUp_28 : decode cX6_setUp 28 = .ok (.getfield 119, 3) := by decide +kernel
theorem dX6_setUp_31 : decode cX6_setUp 31 = .ok (.if_icmp .ge 20, 3) := by decide +kernel
theorem dX6_setUp_34 : decode cX6_setUp 34 = .ok (.aload_n 0, 1) := by decide +kernel
theorem dX6_setUp_35 : decode cX6_setUp 35 = .ok (.iload_n 1, 1) := by decide +kernel
theorem dX6_setUp_36 : decode cX6_setUp 36 = .ok (.aload_n 0, 1) := by decide +kernel
theorem dX6_setUp_37 : decode cX6_setUp 37 = .ok (.getfield 42, 3) := by decide +kernel
theorem dX6_setUp_40 : decode cX6_setUp 40 = .ok (.iload_n 2, 1) := by decide +kernel
theorem dX6_setUp_41 : decode cX6_setUp 41 = .ok (.iaload, 1) := by decide +kernel
theorem dX6_setUp_42 : decode cX6_setUp 42 = .ok (.invokevirtual 68, 3) := by decide +kernel
theorem dX6_setUp_45 : decode cX6_setUp 45 = .ok (.iinc 2 1, 3) := by decide +kernel
theorem dX6_setUp_48 : decode cX6_setUp 48 = .ok (.goto (-22), 3) := by decide +kernel
theorem dX6_setUp_51 : decode cX6_setUp 51 = .ok (.return_, 1) := by decide +kernel
theorem dX6_mobileCalls_0 : decode cX6_mobileCalls 0 = .ok (.aload_n 0, 1) := by decide +kernel
theorem dX6_mobileCalls_1 : decode cX6_mobileCalls 1 = .ok (.getfield 23, 3) := by decide +kernel
theorem dX6_mobileCalls_4 : decode cX6_mobileCalls 4 = .ok (.iconst 0, 1) := by decide +kernel
theorem dX6_mobileCalls_5 : decode cX6_mobileCalls 5 = .ok (.iaload, 1) := by decide +kernel
theorem dX6_mobileCalls_6 : decode cX6_mobileCalls 6 = .ok (.iconst 5, 1) := by decide +kernel
theorem dX6_mobileCalls_7 : decode cX6_mobileCalls 7 = .ok (.if_icmp .eq 5, 3) := by decide +kernel
theorem dX6_mobileCalls_10 : decode cX6_mobileCalls 10 = .ok (.iconst 0, 1) := by decide +kernel
theorem dX6_mobileCalls_11 : decode cX6_mobileCalls 11 = .ok (.ireturn, 1) := by decide +kernel
theorem dX6_mobileCalls_12 : decode cX6_mobileCalls 12 = .ok (.iload_n 1, 1) := by decide +kernel
theorem dX6_mobileCalls_13 : decode cX6_mobileCalls 13 = .ok (.iconst 2, 1) := by decide +kernel
theorem dX6_mobileCalls_14 : decode cX6_mobileCalls 14 = .ok (.if_icmp .ne 23, 3) := by decide +kernel
theorem dX6_mobileCalls_17 : decode cX6_mobileCalls 17 = .ok (.aload_n 0, 1) := by decide +kernel
theorem dX6_mobileCalls_18 : decode cX6_mobileCalls 18 = .ok (.iconst 0, 1) := by decide +kernel
theorem dX6_mobileCalls_19 : decode cX6_mobileCalls 19 = .ok (.iconst 1, 1) := by decide +kernel
theorem dX6_mobileCalls_20 : decode cX6_mobileCalls 20 = .ok (.iconst 1, 1) := by decide +kernel
theorem dX6_mobileCalls_21 : decode cX6_mobileCalls 21 = .ok (.invokevirtual 91, 3) := by decide +kernel
theorem dX6_mobileCalls_24 : decode cX6_mobileCalls 24 = .ok (.ifCond .eq 13, 3) := by decide +kernel
theorem dX6_mobileCalls_27 : decode cX6_mobileCalls 27 = .ok (.aload_n 0, 1) := by decide +kernel
theorem dX6_mobileCalls_28 : decode cX6_mobileCalls 28 = .ok (.iconst 0, 1) := by decide +kernel
theorem dX6_mobileCalls_29 : decode cX6_mobileCalls 29 = .ok (.iconst 5, 1) := by decide +kernel
theorem dX6_mobileCalls_30 : decode cX6_mobileCalls 30 = .ok (.iconst 2, 1) := by decide +kernel
theorem dX6_mobileCalls_31 : decode cX6_mobileCalls 31 = .ok (.iconst 0, 1) := by decide +kernel
theorem dX6_mobileCalls_32 : decode cX6_mobileCalls 32 = .ok (.invokevirtual 83, 3) := by decide +kernel
theorem dX6_mobileCalls_35 : decode cX6_mobileCalls 35 = .ok (.iconst 1, 1) := by decide +kernel
theorem dX6_mobileCalls_36 : decode cX6_mobileCalls 36 = .ok (.ireturn, 1) := by decide +kernel
theorem dX6_mobileCalls_37 : decode cX6_mobileCalls 37 = .ok (.iload_n 1, 1) := by decide +kernel
theorem dX6_mobileCalls_38 : decode cX6_mobileCalls 38 = .ok (.iconst 1, 1) := by decide +kernel
theorem dX6_mobileCalls_39 : decode cX6_mobileCalls 39 = .ok (.if_icmp .ne 23, 3) := by decide +kernel
theorem dX6_mobileCalls_42 : decode cX6_mobileCalls 42 = .ok (.aload_n 0, 1) := by decide +kernel
theorem dX6_mobileCalls_43 : decode cX6_mobileCalls 43 = .ok (.iconst 0, 1) := by decide +kernel
theorem dX6_mobileCalls_44 : decode cX6_mobileCalls 44 = .ok (.iconst 1, 1) := by decide +kernel
theorem dX6_mobileCalls_45 : decode cX6_mobileCalls 45 = .ok (.iconst 2, 1) := by decide +kernel
theorem dX6_mobileCalls_46 : decode cX6_mobileCalls 46 = .ok (.invokevirtual 91, 3) := by decide +kernel
theorem dX6_mobileCalls_49 : decode cX6_mobileCalls 49 = .ok (.ifCond .eq 13, 3) := by decide +kernel
theorem dX6_mobileCalls_52 : decode cX6_mobileCalls 52 = .ok (.aload_n 0, 1) := by decide +kernel
theorem dX6_mobileCalls_53 : decode cX6_mobileCalls 53 = .ok (.iconst 0, 1) := by decide +kernel
theorem dX6_mobileCalls_54 : decode cX6_mobileCalls 54 = .ok (.iconst 5, 1) := by decide +kernel
theorem dX6_mobileCalls_55 : decode cX6_mobileCalls 55 = .ok (.iconst 3, 1) := by decide +kernel
theorem dX6_mobileCalls_56 : decode cX6_mobileCalls 56 = .ok (.iconst 0, 1) := by decide +kernel
theorem dX6_mobileCalls_57 : decode cX6_mobileCalls 57 = .ok (.invokevirtual 83, 3) := by decide +kernel
theorem dX6_mobileCalls_60 : decode cX6_mobileCalls 60 = .ok (.iconst 1, 1) := by decide +kernel
theorem dX6_mobileCalls_61 : decode cX6_mobileCalls 61 = .ok (.ireturn, 1) := by decide +kernel
theorem dX6_mobileCalls_62 : decode cX6_mobileCalls 62 = .ok (.iload_n 1, 1) := by decide +kernel
theorem dX6_mobileCalls_63 : decode cX6_mobileCalls 63 = .ok (.bipush 7, 2) := by decide +kernel
theorem dX6_mobileCalls_65 : decode cX6_mobileCalls 65 = .ok (.if_icmp .ne 32, 3) := by decide +kernel
theorem dX6_mobileCalls_68 : decode cX6_mobileCalls 68 = .ok (.aload_n 0, 1) := by decide +kernel
theorem dX6_mobileCalls_69 : decode cX6_mobileCalls 69 = .ok (.iconst 0, 1) := by decide +kernel
theorem dX6_mobileCalls_70 : decode cX6_mobileCalls 70 = .ok (.iconst 1, 1) := by decide +kernel
theorem dX6_mobileCalls_71 : decode cX6_mobileCalls 71 = .ok (.iconst 3, 1) := by decide +kernel
theorem dX6_mobileCalls_72 : decode cX6_mobileCalls 72 = .ok (.invokevirtual 91, 3) := by decide +kernel
theorem dX6_mobileCalls_75 : decode cX6_mobileCalls 75 = .ok (.ifCond .eq 22, 3) := by decide +kernel
theorem dX6_mobileCalls_78 : decode cX6_mobileCalls 78 = .ok (.aload_n 0, 1) := by decide +kernel
theorem dX6_mobileCalls_79 : decode cX6_mobileCalls 79 = .ok (.iconst 0, 1) := by decide +kernel
theorem dX6_mobileCalls_80 : decode cX6_mobileCalls 80 = .ok (.iconst 3, 1) := by decide +kernel
theorem dX6_mobileCalls_81 : decode cX6_mobileCalls 81 = .ok (.bipush 15, 2) := by decide +kernel
theorem dX6_mobileCalls_83 : decode cX6_mobileCalls 83 = .ok (.invokevirtual 64, 3) := by decide +kernel
theorem dX6_mobileCalls_86 : decode cX6_mobileCalls 86 = .ok (.istore_n 2, 1) := by decide +kernel
theorem dX6_mobileCalls_87 : decode cX6_mobileCalls 87 = .ok (.aload_n 0, 1) := by decide +kernel
theorem dX6_mobileCalls_88 : decode cX6_mobileCalls 88 = .ok (.iconst 0, 1) := by decide +kernel
theorem dX6_mobileCalls_89 : decode cX6_mobileCalls 89 = .ok (.iconst 5, 1) := by decide +kernel
theorem dX6_mobileCalls_90 : decode cX6_mobileCalls 90 = .ok (.iconst 4, 1) := by decide +kernel
theorem dX6_mobileCalls_91 : decode cX6_mobileCalls 91 = .ok (.iconst 0, 1) := by decide +kernel
theorem dX6_mobileCalls_92 : decode cX6_mobileCalls 92 = .ok (.invokevirtual 83, 3) := by decide +kernel
theorem dX6_mobileCalls_95 : decode cX6_mobileCalls 95 = .ok (.iconst 1, 1) := by decide +kernel
theorem dX6_mobileCalls_96 : decode cX6_mobileCalls 96 = .ok (.ireturn, 1) := by decide +kernel
theorem dX6_mobileCalls_97 : decode cX6_mobileCalls 97 = .ok (.aload_n 0, 1) := by decide +kernel
theorem dX6_mobileCalls_98 : decode cX6_mobileCalls 98 = .ok (.iconst 0, 1) := by decide +kernel
theorem dX6_mobileCalls_99 : decode cX6_mobileCalls 99 = .ok (.iload_n 1, 1) := by decide +kernel
theorem dX6_mobileCalls_100 : decode cX6_mobileCalls 100 = .ok (.invokevirtual 122, 3) := by decide +kernel
theorem dX6_mobileCalls_103 : decode cX6_mobileCalls 103 = .ok (.ireturn, 1) := by decide +kernel
theorem dX6_ask_0 : decode cX6_ask 0 = .ok (.aload_n 0, 1) := by decide +kernel
theorem dX6_ask_1 : decode cX6_ask 1 = .ok (.aload_n 0, 1) := by decide +kernel
theorem dX6_ask_2 : decode cX6_ask 2 = .ok (.getfield 57, 3) := by decide +kernel
theorem dX6_ask_5 : decode cX6_ask 5 = .ok (.ldc 125, 2) := by decide +kernel
theorem dX6_ask_7 : decode cX6_ask 7 = .ok (.imul, 1) := by decide +kernel
theorem dX6_ask_8 : decode cX6_ask 8 = .ok (.sipush 12345, 3) := by decide +kernel
theorem dX6_ask_11 : decode cX6_ask 11 = .ok (.iadd, 1) := by decide +kernel
theorem dX6_ask_12 : decode cX6_ask 12 = .ok (.putfield 57, 3) := by decide +kernel
theorem dX6_ask_15 : decode cX6_ask 15 = .ok (.aload_n 0, 1) := by decide +kernel
theorem dX6_ask_16 : decode cX6_ask 16 = .ok (.iconst 1, 1) := by decide +kernel
theorem dX6_ask_17 : decode cX6_ask 17 = .ok (.iconst 5, 1) := by decide +kernel
theorem dX6_ask_18 : decode cX6_ask 18 = .ok (.bipush 18, 2) := by decide +kernel
theorem dX6_ask_20 : decode cX6_ask 20 = .ok (.bipush 33, 2) := by decide +kernel
theorem dX6_ask_22 : decode cX6_ask 22 = .ok (.iconst 4, 1) := by decide +kernel
theorem dX6_ask_23 : decode cX6_ask 23 = .ok (.aload_n 0, 1) := by decide +kernel
theorem dX6_ask_24 : decode cX6_ask 24 = .ok (.getfield 57, 3) := by decide +kernel
theorem dX6_ask_27 : decode cX6_ask 27 = .ok (.invokevirtual 112, 3) := by decide +kernel
theorem dX6_ask_30 : decode cX6_ask 30 = .ok (.aload_n 0, 1) := by decide +kernel
theorem dX6_ask_31 : decode cX6_ask 31 = .ok (.iconst 1, 1) := by decide +kernel
theorem dX6_ask_32 : decode cX6_ask 32 = .ok (.iload_n 1, 1) := by decide +kernel
theorem dX6_ask_33 : decode cX6_ask 33 = .ok (.aload_n 0, 1) := by decide +kernel
theorem dX6_ask_34 : decode cX6_ask 34 = .ok (.getfield 26, 3) := by decide +kernel
theorem dX6_ask_37 : decode cX6_ask 37 = .ok (.iconst 1, 1) := by decide +kernel
theorem dX6_ask_38 : decode cX6_ask 38 = .ok (.iaload, 1) := by decide +kernel
theorem dX6_ask_39 : decode cX6_ask 39 = .ok (.bipush 12, 2) := by decide +kernel
theorem dX6_ask_41 : decode cX6_ask 41 = .ok (.invokevirtual 83, 3) := by decide +kernel
theorem dX6_ask_44 : decode cX6_ask 44 = .ok (.return_, 1) := by decide +kernel
theorem dX6_judge_0 : decode cX6_judge 0 = .ok (.bipush (-3), 2) := by decide +kernel
theorem dX6_judge_2 : decode cX6_judge 2 = .ok (.istore_n 1, 1) := by decide +kernel
theorem dX6_judge_3 : decode cX6_judge 3 = .ok (.aload_n 0, 1) := by decide +kernel
theorem dX6_judge_4 : decode cX6_judge 4 = .ok (.getfield 23, 3) := by decide +kernel
theorem dX6_judge_7 : decode cX6_judge 7 = .ok (.iconst 1, 1) := by decide +kernel
theorem dX6_judge_8 : decode cX6_judge 8 = .ok (.iaload, 1) := by decide +kernel
theorem dX6_judge_9 : decode cX6_judge 9 = .ok (.istore_n 2, 1) := by decide +kernel
theorem dX6_judge_10 : decode cX6_judge 10 = .ok (.aload_n 0, 1) := by decide +kernel
theorem dX6_judge_11 : decode cX6_judge 11 = .ok (.bipush 34, 2) := by decide +kernel
theorem dX6_judge_13 : decode cX6_judge 13 = .ok (.invokevirtual 95, 3) := by decide +kernel
theorem dX6_judge_16 : decode cX6_judge 16 = .ok (.aload_n 0, 1) := by decide +kernel
theorem dX6_judge_17 : decode cX6_judge 17 = .ok (.getfield 57, 3) := by decide +kernel
theorem dX6_judge_20 : decode cX6_judge 20 = .ok (.aload_n 0, 1) := by decide +kernel
theorem dX6_judge_21 : decode cX6_judge 21 = .ok (.getfield 54, 3) := by decide +kernel
theorem dX6_judge_24 : decode cX6_judge 24 = .ok (.invokestatic 108, 3) := by decide +kernel
theorem dX6_judge_27 : decode cX6_judge 27 = .ok (.if_icmp .eq 33, 3) := by decide +kernel
theorem dX6_judge_30 : decode cX6_judge 30 = .ok (.aload_n 0, 1) := by decide +kernel
theorem dX6_judge_31 : decode cX6_judge 31 = .ok (.iconst 1, 1) := by decide +kernel
theorem dX6_judge_32 : decode cX6_judge 32 = .ok (.iconst 5, 1) := by decide +kernel
theorem dX6_judge_33 : decode cX6_judge 33 = .ok (.bipush 17, 2) := by decide +kernel
theorem dX6_judge_35 : decode cX6_judge 35 = .ok (.invokevirtual 64, 3) := by decide +kernel
theorem dX6_judge_38 : decode cX6_judge 38 = .ok (.istore_n 1, 1) := by decide +kernel
theorem dX6_judge_39 : decode cX6_judge 39 = .ok (.aload_n 0, 1) := by decide +kernel
theorem dX6_judge_40 : decode cX6_judge 40 = .ok (.iconst (-1), 1) := by decide +kernel
theorem dX6_judge_41 : decode cX6_judge 41 = .ok (.putfield 39, 3) := by decide +kernel
theorem dX6_judge_44 : decode cX6_judge 44 = .ok (.aload_n 0, 1) := by decide +kernel
theorem dX6_judge_45 : decode cX6_judge 45 = .ok (.iconst 1, 1) := by decide +kernel
theorem dX6_judge_46 : decode cX6_judge 46 = .ok (.iconst 0, 1) := by decide +kernel
theorem dX6_judge_47 : decode cX6_judge 47 = .ok (.aload_n 0, 1) := by decide +kernel
theorem dX6_judge_48 : decode cX6_judge 48 = .ok (.getfield 26, 3) := by decide +kernel
theorem dX6_judge_51 : decode cX6_judge 51 = .ok (.iconst 1, 1) := by decide +kernel
theorem dX6_judge_52 : decode cX6_judge 52 = .ok (.iaload, 1) := by decide +kernel
theorem dX6_judge_53 : decode cX6_judge 53 = .ok (.iconst 0, 1) := by decide +kernel
theorem dX6_judge_54 : decode cX6_judge 54 = .ok (.invokevirtual 83, 3) := by decide +kernel
theorem dX6_judge_57 : decode cX6_judge 57 = .ok (.goto 132, 3) := by decide +kernel
theorem dX6_judge_60 : decode cX6_judge 60 = .ok (.iload_n 2, 1) := by decide +kernel
theorem dX6_judge_61 : decode cX6_judge 61 = .ok (.iconst 1, 1) := by decide +kernel
theorem dX6_judge_62 : decode cX6_judge 62 = .ok (.if_icmp .ne 66, 3) := by decide +kernel
theorem dX6_judge_65 : decode cX6_judge 65 = .ok (.aload_n 0, 1) := by decide +kernel
theorem dX6_judge_66 : decode cX6_judge 66 = .ok (.getfield 7, 3) := by decide +kernel
theorem dX6_judge_69 : decode cX6_judge 69 = .ok (.iconst 1, 1) := by decide +kernel
theorem dX6_judge_70 : decode cX6_judge 70 = .ok (.iand, 1) := by decide +kernel
theorem dX6_judge_71 : decode cX6_judge 71 = .ok (.iconst 1, 1) := by decide +kernel
theorem dX6_judge_72 : decode cX6_judge 72 = .ok (.if_icmp .ne 28, 3) := by decide +kernel
theorem dX6_judge_75 : decode cX6_judge 75 = .ok (.aload_n 0, 1) := by decide +kernel
theorem dX6_judge_76 : decode cX6_judge 76 = .ok (.aload_n 0, 1) := by decide +kernel
theorem dX6_judge_77 : decode cX6_judge 77 = .ok (.getfield 126, 3) := by decide +kernel
theorem dX6_judge_80 : decode cX6_judge 80 = .ok (.putfield 39, 3) := by decide +kernel
theorem dX6_judge_83 : decode cX6_judge 83 = .ok (.aload_n 0, 1) := by decide +kernel
theorem dX6_judge_84 : decode cX6_judge 84 = .ok (.iconst 1, 1) := by decide +kernel
theorem dX6_judge_85 : decode cX6_judge 85 = .ok (.iconst 5, 1) := by decide +kernel
theorem dX6_judge_86 : decode cX6_judge 86 = .ok (.iconst 2, 1) := by decide +kernel
theorem dX6_judge_87 : decode cX6_judge 87 = .ok (.bipush 19, 2) := by decide +kernel
theorem dX6_judge_89 : decode cX6_judge 89 = .ok (.iconst 2, 1) := by decide +kernel
theorem dX6_judge_90 : decode cX6_judge 90 = .ok (.aload_n 0, 1) := by decide +kernel
theorem dX6_judge_91 : decode cX6_judge 91 = .ok (.getfield 126, 3) := by decide +kernel
theorem dX6_judge_94 : decode cX6_judge 94 = .ok (.invokevirtual 112, 3) := by decide +kernel
theorem dX6_judge_97 : decode cX6_judge 97 = .ok (.goto 15, 3) := by decide +kernel
theorem dX6_judge_100 : decode cX6_judge 100 = .ok (.aload_n 0, 1) := by decide +kernel
theorem dX6_judge_101 : decode cX6_judge 101 = .ok (.iconst 1, 1) := by decide +kernel
theorem dX6_judge_102 : decode cX6_judge 102 = .ok (.iconst 5, 1) := by decide +kernel
theorem dX6_judge_103 : decode cX6_judge 103 = .ok (.iconst 4, 1) := by decide +kernel
theorem dX6_judge_104 : decode cX6_judge 104 = .ok (.bipush 8, 2) := by decide +kernel
theorem dX6_judge_106 : decode cX6_judge 106 = .ok (.iconst 1, 1) := by decide +kernel
theorem dX6_judge_107 : decode cX6_judge 107 = .ok (.bipush 11, 2) := by decide +kernel
theorem dX6_judge_109 : decode cX6_judge 109 = .ok (.invokevirtual 112, 3) := by decide +kernel
theorem dX6_judge_112 : decode cX6_judge 112 = .ok (.aload_n 0, 1) := by decide +kernel
theorem dX6_judge_113 : decode cX6_judge 113 = .ok (.iconst 1, 1) := by decide +kernel
theorem dX6_judge_114 : decode cX6_judge 114 = .ok (.iconst 0, 1) := by decide +kernel
theorem dX6_judge_115 : decode cX6_judge 115 = .ok (.aload_n 0, 1) := by decide +kernel
theorem dX6_judge_116 : decode cX6_judge 116 = .ok (.getfield 26, 3) := by decide +kernel
theorem dX6_judge_119 : decode cX6_judge 119 = .ok (.iconst 1, 1) := by decide +kernel
theorem dX6_judge_120 : decode cX6_judge 120 = .ok (.iaload, 1) := by decide +kernel
theorem dX6_judge_121 : decode cX6_judge 121 = .ok (.iconst 0, 1) := by decide +kernel
theorem dX6_judge_122 : decode cX6_judge 122 = .ok (.invokevirtual 83, 3) := by decide +kernel
theorem dX6_judge_125 : decode cX6_judge 125 = .ok (.goto 64, 3) := by decide +kernel
theorem dX6_judge_128 : decode cX6_judge 128 = .ok (.aload_n 0, 1) := by decide +kernel
theorem dX6_judge_129 : decode cX6_judge 129 = .ok (.getfield 7, 3) := by decide +kernel
theorem dX6_judge_132 : decode cX6_judge 132 = .ok (.iconst 2, 1) := by decide +kernel
theorem dX6_judge_133 : decode cX6_judge 133 = .ok (.iand, 1) := by decide +kernel
theorem dX6_judge_134 : decode cX6_judge 134 = .ok (.iconst 2, 1) := by decide +kernel
theorem dX6_judge_135 : decode cX6_judge 135 = .ok (.if_icmp .ne 28, 3) := by decide +kernel
theorem dX6_judge_138 : decode cX6_judge 138 = .ok (.aload_n 0, 1) := by decide +kernel
theorem dX6_judge_139 : decode cX6_judge 139 = .ok (.iconst 1, 1) := by decide +kernel
theorem dX6_judge_140 : decode cX6_judge 140 = .ok (.iconst 5, 1) := by decide +kernel
theorem dX6_judge_141 : decode cX6_judge 141 = .ok (.bipush 33, 2) := by decide +kernel
theorem dX6_judge_143 : decode cX6_judge 143 = .ok (.invokevirtual 64, 3) := by decide +kernel
theorem dX6_judge_146 : decode cX6_judge 146 = .ok (.istore_n 1, 1) := by decide +kernel
theorem dX6_judge_147 : decode cX6_judge 147 = .ok (.aload_n 0, 1) := by decide +kernel
theorem dX6_judge_148 : decode cX6_judge 148 = .ok (.iconst 1, 1) := by decide +kernel
theorem dX6_judge_149 : decode cX6_judge 149 = .ok (.iconst 3, 1) := by decide +kernel
theorem dX6_judge_150 : decode cX6_judge 150 = .ok (.aload_n 0, 1) := by decide +kernel
theorem dX6_judge_151 : decode cX6_judge 151 = .ok (.getfield 26, 3) := by decide +kernel
theorem dX6_judge_154 : decode cX6_judge 154 = .ok (.iconst 1, 1) := by decide +kernel
theorem dX6_judge_155 : decode cX6_judge 155 = .ok (.iaload, 1) := by decide +kernel
theorem dX6_judge_156 : decode cX6_judge 156 = .ok (.iconst 0, 1) := by decide +kernel
theorem dX6_judge_157 : decode cX6_judge 157 = .ok (.invokevirtual 83, 3) := by decide +kernel
theorem dX6_judge_160 : decode cX6_judge 160 = .ok (.goto 29, 3) := by decide +kernel
theorem dX6_judge_163 : decode cX6_judge 163 = .ok (.aload_n 0, 1) := by decide +kernel
theorem dX6_judge_164 : decode cX6_judge 164 = .ok (.iconst 1, 1) := by decide +kernel
theorem dX6_judge_165 : decode cX6_judge 165 = .ok (.iconst 5, 1) := by decide +kernel
theorem dX6_judge_166 : decode cX6_judge 166 = .ok (.bipush 34, 2) := by decide +kernel
theorem dX6_judge_168 : decode cX6_judge 168 = .ok (.bipush 8, 2) := by decide +kernel
theorem dX6_judge_170 : decode cX6_judge 170 = .ok (.iconst 1, 1) := by decide +kernel
theorem dX6_judge_171 : decode cX6_judge 171 = .ok (.bipush 32, 2) := by decide +kernel
theorem dX6_judge_173 : decode cX6_judge 173 = .ok (.invokevirtual 112, 3) := by decide +kernel
theorem dX6_judge_176 : decode cX6_judge 176 = .ok (.aload_n 0, 1) := by decide +kernel
theorem dX6_judge_177 : decode cX6_judge 177 = .ok (.iconst 1, 1) := by decide +kernel
theorem dX6_judge_178 : decode cX6_judge 178 = .ok (.iconst 0, 1) := by decide +kernel
theorem dX6_judge_179 : decode cX6_judge 179 = .ok (.aload_n 0, 1) := by decide +kernel
theorem dX6_judge_180 : decode cX6_judge 180 = .ok (.getfield 26, 3) := by decide +kernel
theorem dX6_judge_183 : decode cX6_judge 183 = .ok (.iconst 1, 1) := by decide +kernel
theorem dX6_judge_184 : decode cX6_judge 184 = .ok (.iaload, 1) := by decide +kernel
theorem dX6_judge_185 : decode cX6_judge 185 = .ok (.iconst 0, 1) := by decide +kernel
theorem dX6_judge_186 : decode cX6_judge 186 = .ok (.invokevirtual 83, 3) := by decide +kernel
theorem dX6_judge_189 : decode cX6_judge 189 = .ok (.return_, 1) := by decide +kernel
theorem dX6_networkMoves_0 : decode cX6_networkMoves 0 = .ok (.iload_n 1, 1) := by decide +kernel
theorem dX6_networkMoves_1 : decode cX6_networkMoves 1 = .ok (.lookupswitch 174 #[(1, 159), (8, 43), (20, 121), (36, 81)], 43) := by decide +kernel
theorem dX6_networkMoves_44 : decode cX6_networkMoves 44 = .ok (.aload_n 0, 1) := by decide +kernel
theorem dX6_networkMoves_45 : decode cX6_networkMoves 45 = .ok (.getfield 23, 3) := by decide +kernel
theorem dX6_networkMoves_48 : decode cX6_networkMoves 48 = .ok (.iconst 1, 1) := by decide +kernel
theorem dX6_networkMoves_49 : decode cX6_networkMoves 49 = .ok (.iaload, 1) := by decide +kernel
theorem dX6_networkMoves_50 : decode cX6_networkMoves 50 = .ok (.ifCond .ne 13, 3) := by decide +kernel
theorem dX6_networkMoves_53 : decode cX6_networkMoves 53 = .ok (.aload_n 0, 1) := by decide +kernel
theorem dX6_networkMoves_54 : decode cX6_networkMoves 54 = .ok (.bipush 19, 2) := by decide +kernel
theorem dX6_networkMoves_56 : decode cX6_networkMoves 56 = .ok (.iconst 2, 1) := by decide +kernel
theorem dX6_networkMoves_57 : decode cX6_networkMoves 57 = .ok (.invokevirtual 87, 3) := by decide +kernel
theorem dX6_networkMoves_60 : decode cX6_networkMoves 60 = .ok (.ifCond .ne 5, 3) := by decide +kernel
theorem dX6_networkMoves_63 : decode cX6_networkMoves 63 = .ok (.iconst 0, 1) := by decide +kernel
theorem dX6_networkMoves_64 : decode cX6_networkMoves 64 = .ok (.ireturn, 1) := by decide +kernel
theorem dX6_networkMoves_65 : decode cX6_networkMoves 65 = .ok (.aload_n 0, 1) := by decide +kernel
theorem dX6_networkMoves_66 : decode cX6_networkMoves 66 = .ok (.aload_n 0, 1) := by decide +kernel
theorem dX6_networkMoves_67 : decode cX6_networkMoves 67 = .ok (.bipush 19, 2) := by decide +kernel
theorem dX6_networkMoves_69 : decode cX6_networkMoves 69 = .ok (.invokevirtual 95, 3) := by decide +kernel
theorem dX6_networkMoves_72 : decode cX6_networkMoves 72 = .ok (.putfield 126, 3) := by decide +kernel
theorem dX6_networkMoves_75 : decode cX6_networkMoves 75 = .ok (.aload_n 0, 1) := by decide +kernel
theorem dX6_networkMoves_76 : decode cX6_networkMoves 76 = .ok (.iconst 1, 1) := by decide +kernel
theorem dX6_networkMoves_77 : decode cX6_networkMoves 77 = .ok (.invokevirtual 129, 3) := by decide +kernel
theorem dX6_networkMoves_80 : decode cX6_networkMoves 80 = .ok (.iconst 1, 1) := by decide +kernel
theorem dX6_networkMoves_81 : decode cX6_networkMoves 81 = .ok (.ireturn, 1) := by decide +kernel
theorem dX6_networkMoves_82 : decode cX6_networkMoves 82 = .ok (.aload_n 0, 1) := by decide +kernel
theorem dX6_networkMoves_83 : decode cX6_networkMoves 83 = .ok (.getfield 23, 3) := by decide +kernel
theorem dX6_networkMoves_86 : decode cX6_networkMoves 86 = .ok (.iconst 1, 1) := by decide +kernel
theorem dX6_networkMoves_87 : decode cX6_networkMoves 87 = .ok (.iaload, 1) := by decide +kernel
theorem dX6_networkMoves_88 : decode cX6_networkMoves 88 = .ok (.ifCond .eq 5, 3) := by decide +kernel
theorem dX6_networkMoves_91 : decode cX6_networkMoves 91 = .ok (.iconst 0, 1) := by decide +kernel
theorem dX6_networkMoves_92 : decode cX6_networkMoves 92 = .ok (.ireturn, 1) := by decide +kernel
theorem dX6_networkMoves_93 : decode cX6_networkMoves 93 = .ok (.aload_n 0, 1) := by decide +kernel
theorem dX6_networkMoves_94 : decode cX6_networkMoves 94 = .ok (.getfield 39, 3) := by decide +kernel
theorem dX6_networkMoves_97 : decode cX6_networkMoves 97 = .ok (.ifCond .ge 18, 3) := by decide +kernel
theorem dX6_networkMoves_100 : decode cX6_networkMoves 100 = .ok (.aload_n 0, 1) := by decide +kernel
theorem dX6_networkMoves_101 : decode cX6_networkMoves 101 = .ok (.iconst 1, 1) := by decide +kernel
theorem dX6_networkMoves_102 : decode cX6_networkMoves 102 = .ok (.iconst 5, 1) := by decide +kernel
theorem dX6_networkMoves_103 : decode cX6_networkMoves 103 = .ok (.bipush 34, 2) := by decide +kernel
theorem dX6_networkMoves_105 : decode cX6_networkMoves 105 = .ok (.bipush 8, 2) := by decide +kernel
theorem dX6_networkMoves_107 : decode cX6_networkMoves 107 = .ok (.iconst 1, 1) := by decide +kernel
theorem dX6_networkMoves_108 : decode cX6_networkMoves 108 = .ok (.iconst 4, 1) := by decide +kernel
theorem dX6_networkMoves_109 : decode cX6_networkMoves 109 = .ok (.invokevirtual 112, 3) := by decide +kernel
theorem dX6_networkMoves_112 : decode cX6_networkMoves 112 = .ok (.goto 8, 3) := by decide +kernel
theorem dX6_networkMoves_115 : decode cX6_networkMoves 115 = .ok (.aload_n 0, 1) := by decide +kernel
theorem dX6_networkMoves_116 : decode cX6_networkMoves 116 = .ok (.iconst 2, 1) := by decide +kernel
theorem dX6_networkMoves_117 : decode cX6_networkMoves 117 = .ok (.invokevirtual 129, 3) := by decide +kernel
theorem dX6_networkMoves_120 : decode cX6_networkMoves 120 = .ok (.iconst 1, 1) := by decide +kernel
theorem dX6_networkMoves_121 : decode cX6_networkMoves 121 = .ok (.ireturn, 1) := by decide +kernel
theorem dX6_networkMoves_122 : decode cX6_networkMoves 122 = .ok (.aload_n 0, 1) := by decide +kernel
theorem dX6_networkMoves_123 : decode cX6_networkMoves 123 = .ok (.getfield 23, 3) := by decide +kernel
theorem dX6_networkMoves_126 : decode cX6_networkMoves 126 = .ok (.iconst 1, 1) := by decide +kernel
theorem dX6_networkMoves_127 : decode cX6_networkMoves 127 = .ok (.iaload, 1) := by decide +kernel
theorem dX6_networkMoves_128 : decode cX6_networkMoves 128 = .ok (.iconst 1, 1) := by decide +kernel
theorem dX6_networkMoves_129 : decode cX6_networkMoves 129 = .ok (.if_icmp .eq 13, 3) := by decide +kernel
theorem dX6_networkMoves_132 : decode cX6_networkMoves 132 = .ok (.aload_n 0, 1) := by decide +kernel
theorem dX6_networkMoves_133 : decode cX6_networkMoves 133 = .ok (.getfield 23, 3) := by decide +kernel
theorem dX6_networkMoves_136 : decode cX6_networkMoves 136 = .ok (.iconst 1, 1) := by decide +kernel
theorem dX6_networkMoves_137 : decode cX6_networkMoves 137 = .ok (.iaload, 1) := by decide +kernel
theorem dX6_networkMoves_138 : decode cX6_networkMoves 138 = .ok (.iconst 2, 1) := by decide +kernel
theorem dX6_networkMoves_139 : decode cX6_networkMoves 139 = .ok (.if_icmp .ne 13, 3) := by decide +kernel
theorem dX6_networkMoves_142 : decode cX6_networkMoves 142 = .ok (.aload_n 0, 1) := by decide +kernel
theorem dX6_networkMoves_143 : decode cX6_networkMoves 143 = .ok (.bipush 34, 2) := by decide +kernel
theorem dX6_networkMoves_145 : decode cX6_networkMoves 145 = .ok (.iconst 4, 1) := by decide +kernel
theorem dX6_networkMoves_146 : decode cX6_networkMoves 146 = .ok (.invokevirtual 87, 3) := by decide +kernel
theorem dX6_networkMoves_149 : decode cX6_networkMoves 149 = .ok (.ifCond .ne 5, 3) := by decide +kernel
theorem dX6_networkMoves_152 : decode cX6_networkMoves 152 = .ok (.iconst 0, 1) := by decide +kernel
theorem dX6_networkMoves_153 : decode cX6_networkMoves 153 = .ok (.ireturn, 1) := by decide +kernel
theorem dX6_networkMoves_154 : decode cX6_networkMoves 154 = .ok (.aload_n 0, 1) := by decide +kernel
theorem dX6_networkMoves_155 : decode cX6_networkMoves 155 = .ok (.invokevirtual 132, 3) := by decide +kernel
theorem dX6_networkMoves_158 : decode cX6_networkMoves 158 = .ok (.iconst 1, 1) := by decide +kernel
theorem dX6_networkMoves_159 : decode cX6_networkMoves 159 = .ok (.ireturn, 1) := by decide +kernel
theorem dX6_networkMoves_160 : decode cX6_networkMoves 160 = .ok (.aload_n 0, 1) := by decide +kernel
theorem dX6_networkMoves_161 : decode cX6_networkMoves 161 = .ok (.iconst (-1), 1) := by decide +kernel
theorem dX6_networkMoves_162 : decode cX6_networkMoves 162 = .ok (.putfield 39, 3) := by decide +kernel
theorem dX6_networkMoves_165 : decode cX6_networkMoves 165 = .ok (.aload_n 0, 1) := by decide +kernel
theorem dX6_networkMoves_166 : decode cX6_networkMoves 166 = .ok (.iconst 1, 1) := by decide +kernel
theorem dX6_networkMoves_167 : decode cX6_networkMoves 167 = .ok (.iconst 0, 1) := by decide +kernel
theorem dX6_networkMoves_168 : decode cX6_networkMoves 168 = .ok (.iconst 0, 1) := by decide +kernel
theorem dX6_networkMoves_169 : decode cX6_networkMoves 169 = .ok (.iconst 0, 1) := by decide +kernel
theorem dX6_networkMoves_170 : decode cX6_networkMoves 170 = .ok (.invokevirtual 83, 3) := by decide +kernel
theorem dX6_networkMoves_173 : decode cX6_networkMoves 173 = .ok (.iconst 1, 1) := by decide +kernel
theorem dX6_networkMoves_174 : decode cX6_networkMoves 174 = .ok (.ireturn, 1) := by decide +kernel
theorem dX6_networkMoves_175 : decode cX6_networkMoves 175 = .ok (.iconst 0, 1) := by decide +kernel
theorem dX6_networkMoves_176 : decode cX6_networkMoves 176 = .ok (.ireturn, 1) := by decide +kernel
theorem dX6_networkCalls_0 : decode cX6_networkCalls 0 = .ok (.aload_n 0, 1) := by decide +kernel
theorem dX6_networkCalls_1 : decode cX6_networkCalls 1 = .ok (.getfield 23, 3) := by decide +kernel
theorem dX6_networkCalls_4 : decode cX6_networkCalls 4 = .ok (.iconst 1, 1) := by decide +kernel
theorem dX6_networkCalls_5 : decode cX6_networkCalls 5 = .ok (.iaload, 1) := by decide +kernel
theorem dX6_networkCalls_6 : decode cX6_networkCalls 6 = .ok (.iconst 3, 1) := by decide +kernel
theorem dX6_networkCalls_7 : decode cX6_networkCalls 7 = .ok (.if_icmp .eq 5, 3) := by decide +kernel
theorem dX6_networkCalls_10 : decode cX6_networkCalls 10 = .ok (.iconst 0, 1) := by decide +kernel
theorem dX6_networkCalls_11 : decode cX6_networkCalls 11 = .ok (.ireturn, 1) := by decide +kernel
theorem dX6_networkCalls_12 : decode cX6_networkCalls 12 = .ok (.aload_n 0, 1) := by decide +kernel
theorem dX6_networkCalls_13 : decode cX6_networkCalls 13 = .ok (.bipush 94, 2) := by decide +kernel
theorem dX6_networkCalls_15 : decode cX6_networkCalls 15 = .ok (.invokevirtual 75, 3) := by decide +kernel
theorem dX6_networkCalls_18 : decode cX6_networkCalls 18 = .ok (.istore_n 2, 1) := by decide +kernel
theorem dX6_networkCalls_19 : decode cX6_networkCalls 19 = .ok (.iload_n 1, 1) := by decide +kernel
theorem dX6_networkCalls_20 : decode cX6_networkCalls 20 = .ok (.iconst 5, 1) := by decide +kernel
theorem dX6_networkCalls_21 : decode cX6_networkCalls 21 = .ok (.if_icmp .ne 103, 3) := by decide +kernel
theorem dX6_networkCalls_24 : decode cX6_networkCalls 24 = .ok (.aload_n 0, 1) := by decide +kernel
theorem dX6_networkCalls_25 : decode cX6_networkCalls 25 = .ok (.getfield 26, 3) := by decide +kernel
theorem dX6_networkCalls_28 : decode cX6_networkCalls 28 = .ok (.iconst 1, 1) := by decide +kernel
theorem dX6_networkCalls_29 : decode cX6_networkCalls 29 = .ok (.iaload, 1) := by decide +kernel
theorem dX6_networkCalls_30 : decode cX6_networkCalls 30 = .ok (.ifCond .ne 94, 3) := by decide +kernel
theorem dX6_networkCalls_33 : decode cX6_networkCalls 33 = .ok (.iload_n 2, 1) := by decide +kernel
theorem dX6_networkCalls_34 : decode cX6_networkCalls 34 = .ok (.bipush (-3), 2) := by decide +kernel
theorem dX6_networkCalls_36 : decode cX6_networkCalls 36 = .ok (.if_icmp .eq 88, 3) := by decide +kernel
theorem dX6_networkCalls_39 : decode cX6_networkCalls 39 = .ok (.aload_n 0, 1) := by decide +kernel
theorem dX6_networkCalls_40 : decode cX6_networkCalls 40 = .ok (.getfield 48, 3) := by decide +kernel
theorem dX6_networkCalls_43 : decode cX6_networkCalls 43 = .ok (.iload_n 2, 1) := by decide +kernel
theorem dX6_networkCalls_44 : decode cX6_networkCalls 44 = .ok (.iconst 1, 1) := by decide +kernel
theorem dX6_networkCalls_45 : decode cX6_networkCalls 45 = .ok (.isub, 1) := by decide +kernel
theorem dX6_networkCalls_46 : decode cX6_networkCalls 46 = .ok (.iaload, 1) := by decide +kernel
theorem dX6_networkCalls_47 : decode cX6_networkCalls 47 = .ok (.iconst 1, 1) := by decide +kernel
theorem dX6_networkCalls_48 : decode cX6_networkCalls 48 = .ok (.if_icmp .lt 76, 3) := by decide +kernel
theorem dX6_networkCalls_51 : decode cX6_networkCalls 51 = .ok (.aload_n 0, 1) := by decide +kernel
theorem dX6_networkCalls_52 : decode cX6_networkCalls 52 = .ok (.getfield 48, 3) := by decide +kernel
theorem dX6_networkCalls_55 : decode cX6_networkCalls 55 = .ok (.iload_n 2, 1) := by decide +kernel
theorem dX6_networkCalls_56 : decode cX6_networkCalls 56 = .ok (.iconst 1, 1) := by decide +kernel
theorem dX6_networkCalls_57 : decode cX6_networkCalls 57 = .ok (.isub, 1) := by decide +kernel
theorem dX6_networkCalls_58 : decode cX6_networkCalls 58 = .ok (.iaload, 1) := by decide +kernel
theorem dX6_networkCalls_59 : decode cX6_networkCalls 59 = .ok (.bipush 8, 2) := by decide +kernel
theorem dX6_networkCalls_61 : decode cX6_networkCalls 61 = .ok (.if_icmp .gt 63, 3) := by decide +kernel
theorem dX6_networkCalls_64 : decode cX6_networkCalls 64 = .ok (.aload_n 0, 1) := by decide +kernel
theorem dX6_networkCalls_65 : decode cX6_networkCalls 65 = .ok (.aload_n 0, 1) := by decide +kernel
theorem dX6_networkCalls_66 : decode cX6_networkCalls 66 = .ok (.getfield 48, 3) := by decide +kernel
theorem dX6_networkCalls_69 : decode cX6_networkCalls 69 = .ok (.iload_n 2, 1) := by decide +kernel
theorem dX6_networkCalls_70 : decode cX6_networkCalls 70 = .ok (.iconst 1, 1) := by decide +kernel
theorem dX6_networkCalls_71 : decode cX6_networkCalls 71 = .ok (.isub, 1) := by decide +kernel
theorem dX6_networkCalls_72 : decode cX6_networkCalls 72 = .ok (.iaload, 1) := by decide +kernel
theorem dX6_networkCalls_73 : decode cX6_networkCalls 73 = .ok (.putfield 135, 3) := by decide +kernel
theorem dX6_networkCalls_76 : decode cX6_networkCalls 76 = .ok (.iconst 0, 1) := by decide +kernel
theorem dX6_networkCalls_77 : decode cX6_networkCalls 77 = .ok (.istore_n 3, 1) := by decide +kernel
theorem dX6_networkCalls_78 : decode cX6_networkCalls 78 = .ok (.iload_n 3, 1) := by decide +kernel
theorem dX6_networkCalls_79 : decode cX6_networkCalls 79 = .ok (.aload_n 0, 1) := by decide +kernel
theorem dX6_networkCalls_80 : decode cX6_networkCalls 80 = .ok (.getfield 135, 3) := by decide +kernel
theorem dX6_networkCalls_83 : decode cX6_networkCalls 83 = .ok (.if_icmp .ge 23, 3) := by decide +kernel
theorem dX6_networkCalls_86 : decode cX6_networkCalls 86 = .ok (.aload_n 0, 1) := by decide +kernel
theorem dX6_networkCalls_87 : decode cX6_networkCalls 87 = .ok (.getfield 45, 3) := by decide +kernel
theorem dX6_networkCalls_90 : decode cX6_networkCalls 90 = .ok (.iload_n 3, 1) := by decide +kernel
theorem dX6_networkCalls_91 : decode cX6_networkCalls 91 = .ok (.aload_n 0, 1) := by decide +kernel
theorem dX6_networkCalls_92 : decode cX6_networkCalls 92 = .ok (.getfield 48, 3) := by decide +kernel
theorem dX6_networkCalls_95 : decode cX6_networkCalls 95 = .ok (.iload_n 2, 1) := by decide +kernel
theorem dX6_networkCalls_96 : decode cX6_networkCalls 96 = .ok (.iload_n 3, 1) := by decide +kernel
theorem dX6_networkCalls_97 : decode cX6_networkCalls 97 = .ok (.iadd, 1) := by decide +kernel
theorem dX6_networkCalls_98 : decode cX6_networkCalls 98 = .ok (.iaload, 1) := by decide +kernel
theorem dX6_networkCalls_99 : decode cX6_networkCalls 99 = .ok (.iastore, 1) := by decide +kernel
theorem dX6_networkCalls_100 : decode cX6_networkCalls 100 = .ok (.iinc 3 1, 3) := by decide +kernel
theorem dX6_networkCalls_103 : decode cX6_networkCalls 103 = .ok (.goto (-25), 3) := by decide +kernel
theorem dX6_networkCalls_106 : decode cX6_networkCalls 106 = .ok (.aload_n 0, 1) := by decide +kernel
theorem dX6_networkCalls_107 : decode cX6_networkCalls 107 = .ok (.iconst 1, 1) := by decide +kernel
theorem dX6_networkCalls_108 : decode cX6_networkCalls 108 = .ok (.iconst 3, 1) := by decide +kernel
theorem dX6_networkCalls_109 : decode cX6_networkCalls 109 = .ok (.iconst 2, 1) := by decide +kernel
theorem dX6_networkCalls_110 : decode cX6_networkCalls 110 = .ok (.invokevirtual 64, 3) := by decide +kernel
theorem dX6_networkCalls_113 : decode cX6_networkCalls 113 = .ok (.istore_n 3, 1) := by decide +kernel
theorem dX6_networkCalls_114 : decode cX6_networkCalls 114 = .ok (.aload_n 0, 1) := by decide +kernel
theorem dX6_networkCalls_115 : decode cX6_networkCalls 115 = .ok (.iconst 1, 1) := by decide +kernel
theorem dX6_networkCalls_116 : decode cX6_networkCalls 116 = .ok (.iconst 3, 1) := by decide +kernel
theorem dX6_networkCalls_117 : decode cX6_networkCalls 117 = .ok (.iconst 1, 1) := by decide +kernel
theorem dX6_networkCalls_118 : decode cX6_networkCalls 118 = .ok (.iconst 0, 1) := by decide +kernel
theorem dX6_networkCalls_119 : decode cX6_networkCalls 119 = .ok (.invokevirtual 83, 3) := by decide +kernel
theorem dX6_networkCalls_122 : decode cX6_networkCalls 122 = .ok (.iconst 1, 1) := by decide +kernel
theorem dX6_networkCalls_123 : decode cX6_networkCalls 123 = .ok (.ireturn, 1) := by decide +kernel
theorem dX6_networkCalls_124 : decode cX6_networkCalls 124 = .ok (.iload_n 1, 1) := by decide +kernel
theorem dX6_networkCalls_125 : decode cX6_networkCalls 125 = .ok (.bipush 15, 2) := by decide +kernel
theorem dX6_networkCalls_127 : decode cX6_networkCalls 127 = .ok (.if_icmp .ne 23, 3) := by decide +kernel
theorem dX6_networkCalls_130 : decode cX6_networkCalls 130 = .ok (.aload_n 0, 1) := by decide +kernel
theorem dX6_networkCalls_131 : decode cX6_networkCalls 131 = .ok (.getfield 26, 3) := by decide +kernel
theorem dX6_networkCalls_134 : decode cX6_networkCalls 134 = .ok (.iconst 1, 1) := by decide +kernel
theorem dX6_networkCalls_135 : decode cX6_networkCalls 135 = .ok (.iaload, 1) := by decide +kernel
theorem dX6_networkCalls_136 : decode cX6_networkCalls 136 = .ok (.iconst 3, 1) := by decide +kernel
theorem dX6_networkCalls_137 : decode cX6_networkCalls 137 = .ok (.if_icmp .ne 13, 3) := by decide +kernel
theorem dX6_networkCalls_140 : decode cX6_networkCalls 140 = .ok (.aload_n 0, 1) := by decide +kernel
theorem dX6_networkCalls_141 : decode cX6_networkCalls 141 = .ok (.iconst 1, 1) := by decide +kernel
theorem dX6_networkCalls_142 : decode cX6_networkCalls 142 = .ok (.iconst 3, 1) := by decide +kernel
theorem dX6_networkCalls_143 : decode cX6_networkCalls 143 = .ok (.iconst 4, 1) := by decide +kernel
theorem dX6_networkCalls_144 : decode cX6_networkCalls 144 = .ok (.iconst 0, 1) := by decide +kernel
theorem dX6_networkCalls_145 : decode cX6_networkCalls 145 = .ok (.invokevirtual 83, 3) := by decide +kernel
theorem dX6_networkCalls_148 : decode cX6_networkCalls 148 = .ok (.iconst 1, 1) := by decide +kernel
theorem dX6_networkCalls_149 : decode cX6_networkCalls 149 = .ok (.ireturn, 1) := by decide +kernel
theorem dX6_networkCalls_150 : decode cX6_networkCalls 150 = .ok (.aload_n 0, 1) := by decide +kernel
theorem dX6_networkCalls_151 : decode cX6_networkCalls 151 = .ok (.iconst 1, 1) := by decide +kernel
theorem dX6_networkCalls_152 : decode cX6_networkCalls 152 = .ok (.iload_n 1, 1) := by decide +kernel
theorem dX6_networkCalls_153 : decode cX6_networkCalls 153 = .ok (.invokevirtual 122, 3) := by decide +kernel
theorem dX6_networkCalls_156 : decode cX6_networkCalls 156 = .ok (.ireturn, 1) := by decide +kernel
theorem dX6_out_0 : decode cX6_out 0 = .ok (.bipush (-3), 2) := by decide +kernel
theorem dX6_out_2 : decode cX6_out 2 = .ok (.istore_n 2, 1) := by decide +kernel
theorem dX6_out_3 : decode cX6_out 3 = .ok (.aload_n 0, 1) := by decide +kernel
theorem dX6_out_4 : decode cX6_out 4 = .ok (.getfield 26, 3) := by decide +kernel
theorem dX6_out_7 : decode cX6_out 7 = .ok (.iload_n 1, 1) := by decide +kernel
theorem dX6_out_8 : decode cX6_out 8 = .ok (.iaload, 1) := by decide +kernel
theorem dX6_out_9 : decode cX6_out 9 = .ok (.iconst 5, 1) := by decide +kernel
theorem dX6_out_10 : decode cX6_out 10 = .ok (.if_icmp .ne 11, 3) := by decide +kernel
theorem dX6_out_13 : decode cX6_out 13 = .ok (.aload_n 0, 1) := by decide +kernel
theorem dX6_out_14 : decode cX6_out 14 = .ok (.iload_n 1, 1) := by decide +kernel
theorem dX6_out_15 : decode cX6_out 15 = .ok (.invokevirtual 98, 3) := by decide +kernel
theorem dX6_out_18 : decode cX6_out 18 = .ok (.goto 229, 3) := by decide +kernel
theorem dX6_out_21 : decode cX6_out 21 = .ok (.aload_n 0, 1) := by decide +kernel
theorem dX6_out_22 : decode cX6_out 22 = .ok (.getfield 26, 3) := by decide +kernel
theorem dX6_out_25 : decode cX6_out 25 = .ok (.iload_n 1, 1) := by decide +kernel
theorem dX6_out_26 : decode cX6_out 26 = .ok (.iaload, 1) := by decide +kernel
theorem dX6_out_27 : decode cX6_out 27 = .ok (.bipush 6, 2) := by decide +kernel
theorem dX6_out_29 : decode cX6_out 29 = .ok (.if_icmp .ne 43, 3) := by decide +kernel
theorem dX6_out_32 : decode cX6_out 32 = .ok (.aload_n 0, 1) := by decide +kernel
theorem dX6_out_33 : decode cX6_out 33 = .ok (.getfield 32, 3) := by decide +kernel
theorem dX6_out_36 : decode cX6_out 36 = .ok (.iload_n 1, 1) := by decide +kernel
theorem dX6_out_37 : decode cX6_out 37 = .ok (.baload, 1) := by decide +kernel
theorem dX6_out_38 : decode cX6_out 38 = .ok (.ifCond .ne 34, 3) := by decide +kernel
theorem dX6_out_41 : decode cX6_out 41 = .ok (.aload_n 0, 1) := by decide +kernel
theorem dX6_out_42 : decode cX6_out 42 = .ok (.aload_n 0, 1) := by decide +kernel
theorem dX6_out_43 : decode cX6_out 43 = .ok (.iload_n 1, 1) := by decide +kernel
theorem dX6_out_44 : decode cX6_out 44 = .ok (.invokevirtual 80, 3) := by decide +kernel
theorem dX6_out_47 : decode cX6_out 47 = .ok (.iconst 3, 1) := by decide +kernel
theorem dX6_out_48 : decode cX6_out 48 = .ok (.bipush 45, 2) := by decide +kernel
theorem dX6_out_50 : decode cX6_out 50 = .ok (.invokevirtual 64, 3) := by decide +kernel
theorem dX6_out_53 : decode cX6_out 53 = .ok (.istore_n 2, 1) := by decide +kernel
theorem dX6_out_54 : decode cX6_out 54 = .ok (.aload_n 0, 1) := by decide +kernel
theorem dX6_out_55 : decode cX6_out 55 = .ok (.getfield 32, 3) := by decide +kernel
theorem dX6_out_58 : decode cX6_out 58 = .ok (.iload_n 1, 1) := by decide +kernel
theorem dX6_out_59 : decode cX6_out 59 = .ok (.iconst 1, 1) := by decide +kernel
theorem dX6_out_60 : decode cX6_out 60 = .ok (.bastore, 1) := by decide +kernel
theorem dX6_out_61 : decode cX6_out 61 = .ok (.aload_n 0, 1) := by decide +kernel
theorem dX6_out_62 : decode cX6_out 62 = .ok (.getfield 29, 3) := by decide +kernel
theorem dX6_out_65 : decode cX6_out 65 = .ok (.iload_n 1, 1) := by decide +kernel
theorem dX6_out_66 : decode cX6_out 66 = .ok (.bipush 30, 2) := by decide +kernel
theorem dX6_out_68 : decode cX6_out 68 = .ok (.iastore, 1) := by decide +kernel
theorem dX6_out_69 : decode cX6_out 69 = .ok (.goto 178, 3) := by decide +kernel
theorem dX6_out_72 : decode cX6_out 72 = .ok (.aload_n 0, 1) := by decide +kernel
theorem dX6_out_73 : decode cX6_out 73 = .ok (.getfield 26, 3) := by decide +kernel
theorem dX6_out_76 : decode cX6_out 76 = .ok (.iload_n 1, 1) := by decide +kernel
theorem dX6_out_77 : decode cX6_out 77 = .ok (.iaload, 1) := by decide +kernel
theorem dX6_out_78 : decode cX6_out 78 = .ok (.bipush 6, 2) := by decide +kernel
theorem dX6_out_80 : decode cX6_out 80 = .ok (.if_icmp .ne 18, 3) := by decide +kernel
theorem dX6_out_83 : decode cX6_out 83 = .ok (.aload_n 0, 1) := by decide +kernel
theorem dX6_out_84 : decode cX6_out 84 = .ok (.iload_n 1, 1) := by decide +kernel
theorem dX6_out_85 : decode cX6_out 85 = .ok (.aload_n 0, 1) := by decide +kernel
theorem dX6_out_86 : decode cX6_out 86 = .ok (.iload_n 1, 1) := by decide +kernel
theorem dX6_out_87 : decode cX6_out 87 = .ok (.invokevirtual 102, 3) := by decide +kernel
theorem dX6_out_90 : decode cX6_out 90 = .ok (.iconst 0, 1) := by decide +kernel
theorem dX6_out_91 : decode cX6_out 91 = .ok (.iconst 0, 1) := by decide +kernel
theorem dX6_out_92 : decode cX6_out 92 = .ok (.invokevirtual 83, 3) := by decide +kernel
theorem dX6_out_95 : decode cX6_out 95 = .ok (.goto 152, 3) := by decide +kernel
theorem dX6_out_98 : decode cX6_out 98 = .ok (.iload_n 1, 1) := by decide +kernel
theorem dX6_out_99 : decode cX6_out 99 = .ok (.ifCond .ne 33, 3) := by decide +kernel
theorem dX6_out_102 : decode cX6_out 102 = .ok (.aload_n 0, 1) := by decide +kernel
theorem dX6_out_103 : decode cX6_out 103 = .ok (.getfield 26, 3) := by decide +kernel
theorem dX6_out_106 : decode cX6_out 106 = .ok (.iconst 0, 1) := by decide +kernel
theorem dX6_out_107 : decode cX6_out 107 = .ok (.iaload, 1) := by decide +kernel
theorem dX6_out_108 : decode cX6_out 108 = .ok (.iconst 1, 1) := by decide +kernel
theorem dX6_out_109 : decode cX6_out 109 = .ok (.if_icmp .ne 23, 3) := by decide +kernel
theorem dX6_out_112 : decode cX6_out 112 = .ok (.aload_n 0, 1) := by decide +kernel
theorem dX6_out_113 : decode cX6_out 113 = .ok (.iconst 0, 1) := by decide +kernel
theorem dX6_out_114 : decode cX6_out 114 = .ok (.iconst 3, 1) := by decide +kernel
theorem dX6_out_115 : decode cX6_out 115 = .ok (.bipush 42, 2) := by decide +kernel
theorem dX6_out_117 : decode cX6_out 117 = .ok (.invokevirtual 64, 3) := by decide +kernel
theorem dX6_out_120 : decode cX6_out 120 = .ok (.istore_n 2, 1) := by decide +kernel
theorem dX6_out_121 : decode cX6_out 121 = .ok (.aload_n 0, 1) := by decide +kernel
theorem dX6_out_122 : decode cX6_out 122 = .ok (.iconst 0, 1) := by decide +kernel
theorem dX6_out_123 : decode cX6_out 123 = .ok (.iconst 3, 1) := by decide +kernel
theorem dX6_out_124 : decode cX6_out 124 = .ok (.iconst 0, 1) := by decide +kernel
theorem dX6_out_125 : decode cX6_out 125 = .ok (.iconst 0, 1) := by decide +kernel
theorem dX6_out_126 : decode cX6_out 126 = .ok (.invokevirtual 83, 3) := by decide +kernel
theorem dX6_out_129 : decode cX6_out 129 = .ok (.goto 118, 3) := by decide +kernel
theorem dX6_out_132 : decode cX6_out 132 = .ok (.iload_n 1, 1) := by decide +kernel
theorem dX6_out_133 : decode cX6_out 133 = .ok (.ifCond .ne 52, 3) := by decide +kernel
theorem dX6_out_136 : decode cX6_out 136 = .ok (.aload_n 0, 1) := by decide +kernel
theorem dX6_out_137 : decode cX6_out 137 = .ok (.iconst 0, 1) := by decide +kernel
theorem dX6_out_138 : decode cX6_out 138 = .ok (.aload_n 0, 1) := by decide +kernel
theorem dX6_out_139 : decode cX6_out 139 = .ok (.getfield 23, 3) := by decide +kernel
theorem dX6_out_142 : decode cX6_out 142 = .ok (.iconst 0, 1) := by decide +kernel
theorem dX6_out_143 : decode cX6_out 143 = .ok (.iaload, 1) := by decide +kernel
theorem dX6_out_144 : decode cX6_out 144 = .ok (.iconst 2, 1) := by decide +kernel
theorem dX6_out_145 : decode cX6_out 145 = .ok (.if_icmp .ne 7, 3) := by decide +kernel
theorem dX6_out_148 : decode cX6_out 148 = .ok (.iconst 1, 1) := by decide +kernel
theorem dX6_out_149 : decode cX6_out 149 = .ok (.goto 23, 3) := by decide +kernel
theorem dX6_out_152 : decode cX6_out 152 = .ok (.aload_n 0, 1) := by decide +kernel
theorem dX6_out_153 : decode cX6_out 153 = .ok (.getfield 23, 3) := by decide +kernel
theorem dX6_out_156 : decode cX6_out 156 = .ok (.iconst 0, 1) := by decide +kernel
theorem dX6_out_157 : decode cX6_out 157 = .ok (.iaload, 1) := by decide +kernel
theorem dX6_out_158 : decode cX6_out 158 = .ok (.iconst 4, 1) := by decide +kernel
theorem dX6_out_159 : decode cX6_out 159 = .ok (.if_icmp .ne 7, 3) := by decide +kernel
theorem dX6_out_162 : decode cX6_out 162 = .ok (.iconst 3, 1) := by decide +kernel
theorem dX6_out_163 : decode cX6_out 163 = .ok (.goto 9, 3) := by decide +kernel
theorem dX6_out_166 : decode cX6_out 166 = .ok (.aload_n 0, 1) := by decide +kernel
theorem dX6_out_167 : decode cX6_out 167 = .ok (.getfield 23, 3) := by decide +kernel
theorem dX6_out_170 : decode cX6_out 170 = .ok (.iconst 0, 1) := by decide +kernel
theorem dX6_out_171 : decode cX6_out 171 = .ok (.iaload, 1) := by decide +kernel
theorem dX6_out_172 : decode cX6_out 172 = .ok (.aload_n 0, 1) := by decide +kernel
theorem dX6_out_173 : decode cX6_out 173 = .ok (.getfield 26, 3) := by decide +kernel
theorem dX6_out_176 : decode cX6_out 176 = .ok (.iconst 0, 1) := by decide +kernel
theorem dX6_out_177 : decode cX6_out 177 = .ok (.iaload, 1) := by decide +kernel
theorem dX6_out_178 : decode cX6_out 178 = .ok (.iconst 0, 1) := by decide +kernel
theorem dX6_out_179 : decode cX6_out 179 = .ok (.invokevirtual 83, 3) := by decide +kernel
theorem dX6_out_182 : decode cX6_out 182 = .ok (.goto 65, 3) := by decide +kernel
theorem dX6_out_185 : decode cX6_out 185 = .ok (.aload_n 0, 1) := by decide +kernel
theorem dX6_out_186 : decode cX6_out 186 = .ok (.getfield 26, 3) := by decide +kernel
theorem dX6_out_189 : decode cX6_out 189 = .ok (.iconst 1, 1) := by decide +kernel
theorem dX6_out_190 : decode cX6_out 190 = .ok (.iaload, 1) := by decide +kernel
theorem dX6_out_191 : decode cX6_out 191 = .ok (.iconst 3, 1) := by decide +kernel
theorem dX6_out_192 : decode cX6_out 192 = .ok (.if_icmp .ne 28, 3) := by decide +kernel
theorem dX6_out_195 : decode cX6_out 195 = .ok (.aload_n 0, 1) := by decide +kernel
theorem dX6_out_196 : decode cX6_out 196 = .ok (.iconst 1, 1) := by decide +kernel
theorem dX6_out_197 : decode cX6_out 197 = .ok (.iconst 3, 1) := by decide +kernel
theorem dX6_out_198 : decode cX6_out 198 = .ok (.bipush 37, 2) := by decide +kernel
theorem dX6_out_200 : decode cX6_out 200 = .ok (.bipush 8, 2) := by decide +kernel
theorem dX6_out_202 : decode cX6_out 202 = .ok (.iconst 1, 1) := by decide +kernel
theorem dX6_out_203 : decode cX6_out 203 = .ok (.bipush 102, 2) := by decide +kernel
theorem dX6_out_205 : decode cX6_out 205 = .ok (.invokevirtual 112, 3) := by decide +kernel
theorem dX6_out_208 : decode cX6_out 208 = .ok (.aload_n 0, 1) := by decide +kernel
theorem dX6_out_209 : decode cX6_out 209 = .ok (.iconst 1, 1) := by decide +kernel
theorem dX6_out_210 : decode cX6_out 210 = .ok (.iconst 3, 1) := by decide +kernel
theorem dX6_out_211 : decode cX6_out 211 = .ok (.iconst 5, 1) := by decide +kernel
theorem dX6_out_212 : decode cX6_out 212 = .ok (.bipush 30, 2) := by decide +kernel
theorem dX6_out_214 : decode cX6_out 214 = .ok (.invokevirtual 83, 3) := by decide +kernel
theorem dX6_out_217 : decode cX6_out 217 = .ok (.goto 30, 3) := by decide +kernel
theorem dX6_out_220 : decode cX6_out 220 = .ok (.aload_n 0, 1) := by decide +kernel
theorem dX6_out_221 : decode cX6_out 221 = .ok (.iconst 1, 1) := by decide +kernel
theorem dX6_out_222 : decode cX6_out 222 = .ok (.aload_n 0, 1) := by decide +kernel
theorem dX6_out_223 : decode cX6_out 223 = .ok (.getfield 23, 3) := by decide +kernel
theorem dX6_out_226 : decode cX6_out 226 = .ok (.iconst 1, 1) := by decide +kernel
theorem dX6_out_227 : decode cX6_out 227 = .ok (.iaload, 1) := by decide +kernel
theorem dX6_out_228 : decode cX6_out 228 = .ok (.iconst 3, 1) := by decide +kernel
theorem dX6_out_229 : decode cX6_out 229 = .ok (.if_icmp .ne 7, 3) := by decide +kernel
theorem dX6_out_232 : decode cX6_out 232 = .ok (.iconst 3, 1) := by decide +kernel
theorem dX6_out_233 : decode cX6_out 233 = .ok (.goto 4, 3) := by decide +kernel
theorem dX6_out_236 : decode cX6_out 236 = .ok (.iconst 0, 1) := by decide +kernel
theorem dX6_out_237 : decode cX6_out 237 = .ok (.aload_n 0, 1) := by decide +kernel
theorem dX6_out_238 : decode cX6_out 238 = .ok (.getfield 26, 3) := by decide +kernel
theorem dX6_out_241 : decode cX6_out 241 = .ok (.iconst 1, 1) := by decide +kernel
theorem dX6_out_242 : decode cX6_out 242 = .ok (.iaload, 1) := by decide +kernel
theorem dX6_out_243 : decode cX6_out 243 = .ok (.iconst 0, 1) := by decide +kernel
theorem dX6_out_244 : decode cX6_out 244 = .ok (.invokevirtual 83, 3) := by decide +kernel
theorem dX6_out_247 : decode cX6_out 247 = .ok (.return_, 1) := by decide +kernel
theorem dX6_tick_0 : decode cX6_tick 0 = .ok (.iload_n 1, 1) := by decide +kernel
theorem dX6_tick_1 : decode cX6_tick 1 = .ok (.iconst 1, 1) := by decide +kernel
theorem dX6_tick_2 : decode cX6_tick 2 = .ok (.if_icmp .lt 9, 3) := by decide +kernel
theorem dX6_tick_5 : decode cX6_tick 5 = .ok (.iload_n 1, 1) := by decide +kernel
theorem dX6_tick_6 : decode cX6_tick 6 = .ok (.bipush 100, 2) := by decide +kernel
theorem dX6_tick_8 : decode cX6_tick 8 = .ok (.if_icmp .le 5, 3) := by decide +kernel
theorem dX6_tick_11 : decode cX6_tick 11 = .ok (.iconst (-1), 1) := by decide +kernel
theorem dX6_tick_12 : decode cX6_tick 12 = .ok (.ireturn, 1) := by decide +kernel
theorem dX6_tick_13 : decode cX6_tick 13 = .ok (.iconst 0, 1) := by decide +kernel
theorem dX6_tick_14 : decode cX6_tick 14 = .ok (.istore_n 2, 1) := by decide +kernel
theorem dX6_tick_15 : decode cX6_tick 15 = .ok (.iconst 0, 1) := by decide +kernel
theorem dX6_tick_16 : decode cX6_tick 16 = .ok (.istore_n 3, 1) := by decide +kernel
theorem dX6_tick_17 : decode cX6_tick 17 = .ok (.iload_n 3, 1) := by decide +kernel
theorem dX6_tick_18 : decode cX6_tick 18 = .ok (.iload_n 1, 1) := by decide +kernel
theorem dX6_tick_19 : decode cX6_tick 19 = .ok (.if_icmp .ge 64, 3) := by decide +kernel
theorem dX6_tick_22 : decode cX6_tick 22 = .ok (.iconst 0, 1) := by decide +kernel
theorem dX6_tick_23 : decode cX6_tick 23 = .ok (.istore 4, 2) := by decide +kernel
theorem dX6_tick_25 : decode cX6_tick 25 = .ok (.iload 4, 2) := by decide +kernel
theorem dX6_tick_27 : decode cX6_tick 27 = .ok (.iconst 2, 1) := by decide +kernel
theorem dX6_tick_28 : decode cX6_tick 28 = .ok (.if_icmp .ge 49, 3) := by decide +kernel
theorem dX6_tick_31 : decode cX6_tick 31 = .ok (.aload_n 0, 1) := by decide +kernel
theorem dX6_tick_32 : decode cX6_tick 32 = .ok (.getfield 29, 3) := by decide +kernel
theorem dX6_tick_35 : decode cX6_tick 35 = .ok (.iload 4, 2) := by decide +kernel
theorem dX6_tick_37 : decode cX6_tick 37 = .ok (.iaload, 1) := by decide +kernel
theorem dX6_tick_38 : decode cX6_tick 38 = .ok (.ifCond .le 33, 3) := by decide +kernel
theorem dX6_tick_41 : decode cX6_tick 41 = .ok (.aload_n 0, 1) := by decide +kernel
theorem dX6_tick_42 : decode cX6_tick 42 = .ok (.getfield 29, 3) := by decide +kernel
theorem dX6_tick_45 : decode cX6_tick 45 = .ok (.iload 4, 2) := by decide +kernel
theorem dX6_tick_47 : decode cX6_tick 47 = .ok (.dup2, 1) := by decide +kernel
theorem dX6_tick_48 : decode cX6_tick 48 = .ok (.iaload, 1) := by decide +kernel
theorem dX6_tick_49 : decode cX6_tick 49 = .ok (.iconst 1, 1) := by decide +kernel
theorem dX6_tick_50 : decode cX6_tick 50 = .ok (.isub, 1) := by decide +kernel
theorem dX6_tick_51 : decode cX6_tick 51 = .ok (.iastore, 1) := by decide +kernel
theorem dX6_tick_52 : decode cX6_tick 52 = .ok (.aload_n 0, 1) := by decide +kernel
theorem dX6_tick_53 : decode cX6_tick 53 = .ok (.getfield 29, 3) := by decide +kernel
theorem dX6_tick_56 : decode cX6_tick 56 = .ok (.iload 4, 2) := by decide +kernel
theorem dX6_tick_58 : decode cX6_tick 58 = .ok (.iaload, 1) := by decide +kernel
theorem dX6_tick_59 : decode cX6_tick 59 = .ok (.ifCond .ne 12, 3) := by decide +kernel
theorem dX6_tick_62 : decode cX6_tick 62 = .ok (.iinc 2 1, 3) := by decide +kernel
theorem dX6_tick_65 : decode cX6_tick 65 = .ok (.aload_n 0, 1) := by decide +kernel
theorem dX6_tick_66 : decode cX6_tick 66 = .ok (.iload 4, 2) := by decide +kernel
theorem dX6_tick_68 : decode cX6_tick 68 = .ok (.invokevirtual 138, 3) := by decide +kernel
theorem dX6_tick_71 : decode cX6_tick 71 = .ok (.iinc 4 1, 3) := by decide +kernel
theorem dX6_tick_74 : decode cX6_tick 74 = .ok (.goto (-49), 3) := by decide +kernel
theorem dX6_tick_77 : decode cX6_tick 77 = .ok (.iinc 3 1, 3) := by decide +kernel
theorem dX6_tick_80 : decode cX6_tick 80 = .ok (.goto (-63), 3) := by decide +kernel
theorem dX6_tick_83 : decode cX6_tick 83 = .ok (.iload_n 2, 1) := by decide +kernel
theorem dX6_tick_84 : decode cX6_tick 84 = .ok (.ireturn, 1) := by decide +kernel
theorem dX6_power_0 : decode cX6_power 0 = .ok (.iload_n 1, 1) := by decide +kernel
theorem dX6_power_1 : decode cX6_power 1 = .ok (.aload_n 0, 1) := by decide +kernel
theorem dX6_power_2 : decode cX6_power 2 = .ok (.getfield 23, 3) := by decide +kernel
theorem dX6_power_5 : decode cX6_power 5 = .ok (.iconst 0, 1) := by decide +kernel
theorem dX6_power_6 : decode cX6_power 6 = .ok (.iaload, 1) := by decide +kernel
theorem dX6_power_7 : decode cX6_power 7 = .ok (.ifCond .eq 7, 3) := by decide +kernel
theorem dX6_power_10 : decode cX6_power 10 = .ok (.iconst 1, 1) := by decide +kernel
theorem dX6_power_11 : decode cX6_power 11 = .ok (.goto 4, 3) := by decide +kernel
theorem dX6_power_14 : decode cX6_power 14 = .ok (.iconst 0, 1) := by decide +kernel
theorem dX6_power_15 : decode cX6_power 15 = .ok (.if_icmp .ne 6, 3) := by decide +kernel
theorem dX6_power_18 : decode cX6_power 18 = .ok (.bipush (-2), 2) := by decide +kernel
theorem dX6_power_20 : decode cX6_power 20 = .ok (.ireturn, 1) := by decide +kernel
theorem dX6_power_21 : decode cX6_power 21 = .ok (.iload_n 1, 1) := by decide +kernel
theorem dX6_power_22 : decode cX6_power 22 = .ok (.ifCond .eq 18, 3) := by decide +kernel
theorem dX6_power_25 : decode cX6_power 25 = .ok (.aload_n 0, 1) := by decide +kernel
theorem dX6_power_26 : decode cX6_power 26 = .ok (.iconst 0, 1) := by decide +kernel
theorem dX6_power_27 : decode cX6_power 27 = .ok (.putfield 105, 3) := by decide +kernel
theorem dX6_power_30 : decode cX6_power 30 = .ok (.aload_n 0, 1) := by decide +kernel
theorem dX6_power_31 : decode cX6_power 31 = .ok (.iconst 0, 1) := by decide +kernel
theorem dX6_power_32 : decode cX6_power 32 = .ok (.iconst 1, 1) := by decide +kernel
theorem dX6_power_33 : decode cX6_power 33 = .ok (.iconst 0, 1) := by decide +kernel
theorem dX6_power_34 : decode cX6_power 34 = .ok (.iconst 0, 1) := by decide +kernel
theorem dX6_power_35 : decode cX6_power 35 = .ok (.invokevirtual 83, 3) := by decide +kernel
theorem dX6_power_38 : decode cX6_power 38 = .ok (.iconst 1, 1) := by decide +kernel
theorem dX6_power_39 : decode cX6_power 39 = .ok (.ireturn, 1) := by decide +kernel
theorem dX6_power_40 : decode cX6_power 40 = .ok (.aload_n 0, 1) := by decide +kernel
theorem dX6_power_41 : decode cX6_power 41 = .ok (.iconst 0, 1) := by decide +kernel
theorem dX6_power_42 : decode cX6_power 42 = .ok (.iconst 5, 1) := by decide +kernel
theorem dX6_power_43 : decode cX6_power 43 = .ok (.iconst 1, 1) := by decide +kernel
theorem dX6_power_44 : decode cX6_power 44 = .ok (.invokevirtual 64, 3) := by decide +kernel
theorem dX6_power_47 : decode cX6_power 47 = .ok (.istore_n 2, 1) := by decide +kernel
theorem dX6_power_48 : decode cX6_power 48 = .ok (.aload_n 0, 1) := by decide +kernel
theorem dX6_power_49 : decode cX6_power 49 = .ok (.iconst 0, 1) := by decide +kernel
theorem dX6_power_50 : decode cX6_power 50 = .ok (.iconst 0, 1) := by decide +kernel
theorem dX6_power_51 : decode cX6_power 51 = .ok (.iconst 0, 1) := by decide +kernel
theorem dX6_power_52 : decode cX6_power 52 = .ok (.iconst 0, 1) := by decide +kernel
theorem dX6_power_53 : decode cX6_power 53 = .ok (.invokevirtual 83, 3) := by decide +kernel
theorem dX6_power_56 : decode cX6_power 56 = .ok (.iconst 1, 1) := by decide +kernel
theorem dX6_power_57 : decode cX6_power 57 = .ok (.ireturn, 1) := by decide +kernel
theorem dX6_update_0 : decode cX6_update 0 = .ok (.iload_n 1, 1) := by decide +kernel
theorem dX6_update_1 : decode cX6_update 1 = .ok (.ifCond .lt 9, 3) := by decide +kernel
theorem dX6_update_4 : decode cX6_update 4 = .ok (.iload_n 1, 1) := by decide +kernel
theorem dX6_update_5 : decode cX6_update 5 = .ok (.ldc 141, 2) := by decide +kernel
theorem dX6_update_7 : decode cX6_update 7 = .ok (.if_icmp .le 5, 3) := by decide +kernel
theorem dX6_update_10 : decode cX6_update 10 = .ok (.iconst (-1), 1) := by decide +kernel
theorem dX6_update_11 : decode cX6_update 11 = .ok (.ireturn, 1) := by decide +kernel
theorem dX6_update_12 : decode cX6_update 12 = .ok (.aload_n 0, 1) := by decide +kernel
theorem dX6_update_13 : decode cX6_update 13 = .ok (.getfield 23, 3) := by decide +kernel
theorem dX6_update_16 : decode cX6_update 16 = .ok (.iconst 0, 1) := by decide +kernel
theorem dX6_update_17 : decode cX6_update 17 = .ok (.iaload, 1) := by decide +kernel
theorem dX6_update_18 : decode cX6_update 18 = .ok (.iconst 1, 1) := by decide +kernel
theorem dX6_update_19 : decode cX6_update 19 = .ok (.if_icmp .eq 16, 3) := by decide +kernel
theorem dX6_update_22 : decode cX6_update 22 = .ok (.aload_n 0, 1) := by decide +kernel
theorem dX6_update_23 : decode cX6_update 23 = .ok (.getfield 23, 3) := by decide +kernel
theorem dX6_update_26 : decode cX6_update 26 = .ok (.iconst 0, 1) := by decide +kernel
theorem dX6_update_27 : decode cX6_update 27 = .ok (.iaload, 1) := by decide +kernel
theorem dX6_update_28 : decode cX6_update 28 = .ok (.iconst 3, 1) := by decide +kernel
theorem dX6_update_29 : decode cX6_update 29 = .ok (.if_icmp .eq 6, 3) := by decide +kernel
theorem dX6_update_32 : decode cX6_update 32 = .ok (.bipush (-2), 2) := by decide +kernel
theorem dX6_update_34 : decode cX6_update 34 = .ok (.ireturn, 1) := by decide +kernel
theorem dX6_update_35 : decode cX6_update 35 = .ok (.aload_n 0, 1) := by decide +kernel
theorem dX6_update_36 : decode cX6_update 36 = .ok (.iconst 0, 1) := by decide +kernel
theorem dX6_update_37 : decode cX6_update 37 = .ok (.iconst 5, 1) := by decide +kernel
theorem dX6_update_38 : decode cX6_update 38 = .ok (.bipush 8, 2) := by decide +kernel
theorem dX6_update_40 : decode cX6_update 40 = .ok (.bipush 19, 2) := by decide +kernel
theorem dX6_update_42 : decode cX6_update 42 = .ok (.iconst 2, 1) := by decide +kernel
theorem dX6_update_43 : decode cX6_update 43 = .ok (.iload_n 1, 1) := by decide +kernel
theorem dX6_update_44 : decode cX6_update 44 = .ok (.invokevirtual 112, 3) := by decide +kernel
theorem dX6_update_47 : decode cX6_update 47 = .ok (.aload_n 0, 1) := by decide +kernel
theorem dX6_update_48 : decode cX6_update 48 = .ok (.iconst 0, 1) := by decide +kernel
theorem dX6_update_49 : decode cX6_update 49 = .ok (.iconst 2, 1) := by decide +kernel
theorem dX6_update_50 : decode cX6_update 50 = .ok (.aload_n 0, 1) := by decide +kernel
theorem dX6_update_51 : decode cX6_update 51 = .ok (.getfield 26, 3) := by decide +kernel
theorem dX6_update_54 : decode cX6_update 54 = .ok (.iconst 0, 1) := by decide +kernel
theorem dX6_update_55 : decode cX6_update 55 = .ok (.iaload, 1) := by decide +kernel
theorem dX6_update_56 : decode cX6_update 56 = .ok (.bipush 20, 2) := by decide +kernel
theorem dX6_update_58 : decode cX6_update 58 = .ok (.invokevirtual 83, 3) := by decide +kernel
theorem dX6_update_61 : decode cX6_update 61 = .ok (.iconst 1, 1) := by decide +kernel
theorem dX6_update_62 : decode cX6_update 62 = .ok (.ireturn, 1) := by decide +kernel
theorem dX6_dial_0 : decode cX6_dial 0 = .ok (.iload_n 2, 1) := by decide +kernel
theorem dX6_dial_1 : decode cX6_dial 1 = .ok (.iconst 1, 1) := by decide +kernel
theorem dX6_dial_2 : decode cX6_dial 2 = .ok (.if_icmp .lt 13, 3) := by decide +kernel
theorem dX6_dial_5 : decode cX6_dial 5 = .ok (.iload_n 2, 1) := by decide +kernel
theorem dX6_dial_6 : decode cX6_dial 6 = .ok (.bipush 8, 2) := by decide +kernel
theorem dX6_dial_8 : decode cX6_dial 8 = .ok (.if_icmp .gt 7, 3) := by decide +kernel
theorem dX6_dial_11 : decode cX6_dial 11 = .ok (.iload_n 1, 1) := by decide +kernel
theorem dX6_dial_12 : decode cX6_dial 12 = .ok (.ifCond .ge 5, 3) := by decide +kernel
theorem dX6_dial_15 : decode cX6_dial 15 = .ok (.iconst (-1), 1) := by decide +kernel
theorem dX6_dial_16 : decode cX6_dial 16 = .ok (.ireturn, 1) := by decide +kernel
theorem dX6_dial_17 : decode cX6_dial 17 = .ok (.aload_n 0, 1) := by decide +kernel
theorem dX6_dial_18 : decode cX6_dial 18 = .ok (.getfield 23, 3) := by decide +kernel
theorem dX6_dial_21 : decode cX6_dial 21 = .ok (.iconst 0, 1) := by decide +kernel
theorem dX6_dial_22 : decode cX6_dial 22 = .ok (.iaload, 1) := by decide +kernel
theorem dX6_dial_23 : decode cX6_dial 23 = .ok (.iconst 3, 1) := by decide +kernel
theorem dX6_dial_24 : decode cX6_dial 24 = .ok (.if_icmp .eq 6, 3) := by decide +kernel
theorem dX6_dial_27 : decode cX6_dial 27 = .ok (.bipush (-2), 2) := by decide +kernel
theorem dX6_dial_29 : decode cX6_dial 29 = .ok (.ireturn, 1) := by decide +kernel
theorem dX6_dial_30 : decode cX6_dial 30 = .ok (.aload_n 0, 1) := by decide +kernel
theorem dX6_dial_31 : decode cX6_dial 31 = .ok (.iload_n 2, 1) := by decide +kernel
theorem dX6_dial_32 : decode cX6_dial 32 = .ok (.putfield 119, 3) := by decide +kernel
theorem dX6_dial_35 : decode cX6_dial 35 = .ok (.iload_n 1, 1) := by decide +kernel
theorem dX6_dial_36 : decode cX6_dial 36 = .ok (.istore_n 3, 1) := by decide +kernel
theorem dX6_dial_37 : decode cX6_dial 37 = .ok (.iload_n 2, 1) := by decide +kernel
theorem dX6_dial_38 : decode cX6_dial 38 = .ok (.iconst 1, 1) := by decide +kernel
theorem dX6_dial_39 : decode cX6_dial 39 = .ok (.isub, 1) := by decide +kernel
theorem dX6_dial_40 : decode cX6_dial 40 = .ok (.istore 4, 2) := by decide +kernel
theorem dX6_dial_42 : decode cX6_dial 42 = .ok (.iload 4, 2) := by decide +kernel
theorem dX6_dial_44 : decode cX6_dial 44 = .ok (.ifCond .lt 25, 3) := by decide +kernel
theorem dX6_dial_47 : decode cX6_dial 47 = .ok (.aload_n 0, 1) := by decide +kernel
theorem dX6_dial_48 : decode cX6_dial 48 = .ok (.getfield 42, 3) := by decide +kernel
theorem dX6_dial_51 : decode cX6_dial 51 = .ok (.iload 4, 2) := by decide +kernel
theorem dX6_dial_53 : decode cX6_dial 53 = .ok (.iload_n 3, 1) := by decide +kernel
theorem dX6_dial_54 : decode cX6_dial 54 = .ok (.bipush 10, 2) := by decide +kernel
theorem dX6_dial_56 : decode cX6_dial 56 = .ok (.irem, 1) := by decide +kernel
theorem dX6_dial_57 : decode cX6_dial 57 = .ok (.iastore, 1) := by decide +kernel
theorem dX6_dial_58 : decode cX6_dial 58 = .ok (.iload_n 3, 1) := by decide +kernel
theorem dX6_dial_59 : decode cX6_dial 59 = .ok (.bipush 10, 2) := by decide +kernel
theorem dX6_dial_61 : decode cX6_dial 61 = .ok (.idiv, 1) := by decide +kernel
theorem dX6_dial_62 : decode cX6_dial 62 = .ok (.istore_n 3, 1) := by decide +kernel
theorem dX6_dial_63 : decode cX6_dial 63 = .ok (.iinc 4 (-1), 3) := by decide +kernel
theorem dX6_dial_66 : decode cX6_dial 66 = .ok (.goto (-24), 3) := by decide +kernel
theorem dX6_dial_69 : decode cX6_dial 69 = .ok (.aload_n 0, 1) := by decide +kernel
theorem dX6_dial_70 : decode cX6_dial 70 = .ok (.iconst 0, 1) := by decide +kernel
theorem dX6_dial_71 : decode cX6_dial 71 = .ok (.iconst 5, 1) := by decide +kernel
theorem dX6_dial_72 : decode cX6_dial 72 = .ok (.bipush 36, 2) := by decide +kernel
theorem dX6_dial_74 : decode cX6_dial 74 = .ok (.invokevirtual 64, 3) := by decide +kernel
theorem dX6_dial_77 : decode cX6_dial 77 = .ok (.istore 4, 2) := by decide +kernel
theorem dX6_dial_79 : decode cX6_dial 79 = .ok (.aload_n 0, 1) := by decide +kernel
theorem dX6_dial_80 : decode cX6_dial 80 = .ok (.iconst 0, 1) := by decide +kernel
theorem dX6_dial_81 : decode cX6_dial 81 = .ok (.iconst 4, 1) := by decide +kernel
theorem dX6_dial_82 : decode cX6_dial 82 = .ok (.aload_n 0, 1) := by decide +kernel
theorem dX6_dial_83 : decode cX6_dial 83 = .ok (.getfield 26, 3) := by decide +kernel
theorem dX6_dial_86 : decode cX6_dial 86 = .ok (.iconst 0, 1) := by decide +kernel
theorem dX6_dial_87 : decode cX6_dial 87 = .ok (.iaload, 1) := by decide +kernel
theorem dX6_dial_88 : decode cX6_dial 88 = .ok (.bipush 15, 2) := by decide +kernel
theorem dX6_dial_90 : decode cX6_dial 90 = .ok (.invokevirtual 83, 3) := by decide +kernel
theorem dX6_dial_93 : decode cX6_dial 93 = .ok (.iconst 1, 1) := by decide +kernel
theorem dX6_dial_94 : decode cX6_dial 94 = .ok (.ireturn, 1) := by decide +kernel
theorem dX6_end_0 : decode cX6_end 0 = .ok (.aload_n 0, 1) := by decide +kernel
theorem dX6_end_1 : decode cX6_end 1 = .ok (.aload_n 0, 1) := by decide +kernel
theorem dX6_end_2 : decode cX6_end 2 = .ok (.iload_n 1, 1) := by decide +kernel
theorem dX6_end_3 : decode cX6_end 3 = .ok (.invokevirtual 80, 3) := by decide +kernel
theorem dX6_end_6 : decode cX6_end 6 = .ok (.iconst 3, 1) := by decide +kernel
theorem dX6_end_7 : decode cX6_end 7 = .ok (.bipush 37, 2) := by decide +kernel
theorem dX6_end_9 : decode cX6_end 9 = .ok (.bipush 8, 2) := by decide +kernel
theorem dX6_end_11 : decode cX6_end 11 = .ok (.iconst 1, 1) := by decide +kernel
theorem dX6_end_12 : decode cX6_end 12 = .ok (.iload_n 2, 1) := by decide +kernel
theorem dX6_end_13 : decode cX6_end 13 = .ok (.invokevirtual 112, 3) := by decide +kernel
theorem dX6_end_16 : decode cX6_end 16 = .ok (.aload_n 0, 1) := by decide +kernel
theorem dX6_end_17 : decode cX6_end 17 = .ok (.iload_n 1, 1) := by decide +kernel
theorem dX6_end_18 : decode cX6_end 18 = .ok (.aload_n 0, 1) := by decide +kernel
theorem dX6_end_19 : decode cX6_end 19 = .ok (.getfield 23, 3) := by decide +kernel
theorem dX6_end_22 : decode cX6_end 22 = .ok (.iload_n 1, 1) := by decide +kernel
theorem dX6_end_23 : decode cX6_end 23 = .ok (.iaload, 1) := by decide +kernel
theorem dX6_end_24 : decode cX6_end 24 = .ok (.iconst 5, 1) := by decide +kernel
theorem dX6_end_25 : decode cX6_end 25 = .ok (.bipush 30, 2) := by decide +kernel
theorem dX6_end_27 : decode cX6_end 27 = .ok (.invokevirtual 83, 3) := by decide +kernel
theorem dX6_end_30 : decode cX6_end 30 = .ok (.return_, 1) := by decide +kernel
theorem dX6_hang_0 : decode cX6_hang 0 = .ok (.aload_n 0, 1) := by decide +kernel
theorem dX6_hang_1 : decode cX6_hang 1 = .ok (.iconst 0, 1) := by decide +kernel
theorem dX6_hang_2 : decode cX6_hang 2 = .ok (.iconst 1, 1) := by decide +kernel
theorem dX6_hang_3 : decode cX6_hang 3 = .ok (.iconst 4, 1) := by decide +kernel
theorem dX6_hang_4 : decode cX6_hang 4 = .ok (.invokevirtual 91, 3) := by decide +kernel
theorem dX6_hang_7 : decode cX6_hang 7 = .ok (.ifCond .ne 6, 3) := by decide +kernel
theorem dX6_hang_10 : decode cX6_hang 10 = .ok (.bipush (-2), 2) := by decide +kernel
theorem dX6_hang_12 : decode cX6_hang 12 = .ok (.ireturn, 1) := by decide +kernel
theorem dX6_hang_13 : decode cX6_hang 13 = .ok (.aload_n 0, 1) := by decide +kernel
theorem dX6_hang_14 : decode cX6_hang 14 = .ok (.iconst 0, 1) := by decide +kernel
theorem dX6_hang_15 : decode cX6_hang 15 = .ok (.bipush 16, 2) := by decide +kernel
theorem dX6_hang_17 : decode cX6_hang 17 = .ok (.invokevirtual 142, 3) := by decide +kernel
theorem dX6_hang_20 : decode cX6_hang 20 = .ok (.iconst 1, 1) := by decide +kernel
theorem dX6_hang_21 : decode cX6_hang 21 = .ok (.ireturn, 1) := by decide +kernel
theorem dX6_alert_0 : decode cX6_alert 0 = .ok (.aload_n 0, 1) := by decide +kernel
theorem dX6_alert_1 : decode cX6_alert 1 = .ok (.getfield 26, 3) := by decide +kernel
theorem dX6_alert_4 : decode cX6_alert 4 = .ok (.iconst 1, 1) := by decide +kernel
theorem dX6_alert_5 : decode cX6_alert 5 = .ok (.iaload, 1) := by decide +kernel
theorem dX6_alert_6 : decode cX6_alert 6 = .ok (.iconst 1, 1) := by decide +kernel
theorem dX6_alert_7 : decode cX6_alert 7 = .ok (.if_icmp .eq 6, 3) := by decide +kernel
theorem dX6_alert_10 : decode cX6_alert 10 = .ok (.bipush (-2), 2) := by decide +kernel
theorem dX6_alert_12 : decode cX6_alert 12 = .ok (.ireturn, 1) := by decide +kernel
theorem dX6_alert_13 : decode cX6_alert 13 = .ok (.aload_n 0, 1) := by decide +kernel
theorem dX6_alert_14 : decode cX6_alert 14 = .ok (.iconst 1, 1) := by decide +kernel
theorem dX6_alert_15 : decode cX6_alert 15 = .ok (.iconst 3, 1) := by decide +kernel
theorem dX6_alert_16 : decode cX6_alert 16 = .ok (.iconst 1, 1) := by decide +kernel
theorem dX6_alert_17 : decode cX6_alert 17 = .ok (.invokevirtual 64, 3) := by decide +kernel
theorem dX6_alert_20 : decode cX6_alert 20 = .ok (.istore_n 1, 1) := by decide +kernel
theorem dX6_alert_21 : decode cX6_alert 21 = .ok (.aload_n 0, 1) := by decide +kernel
theorem dX6_alert_22 : decode cX6_alert 22 = .ok (.iconst 1, 1) := by decide +kernel
theorem dX6_alert_23 : decode cX6_alert 23 = .ok (.aload_n 0, 1) := by decide +kernel
theorem dX6_alert_24 : decode cX6_alert 24 = .ok (.getfield 23, 3) := by decide +kernel
theorem dX6_alert_27 : decode cX6_alert 27 = .ok (.iconst 1, 1) := by decide +kernel
theorem dX6_alert_28 : decode cX6_alert 28 = .ok (.iaload, 1) := by decide +kernel
theorem dX6_alert_29 : decode cX6_alert 29 = .ok (.iconst 2, 1) := by decide +kernel
theorem dX6_alert_30 : decode cX6_alert 30 = .ok (.iconst 0, 1) := by decide +kernel
theorem dX6_alert_31 : decode cX6_alert 31 = .ok (.invokevirtual 83, 3) := by decide +kernel
theorem dX6_alert_34 : decode cX6_alert 34 = .ok (.iconst 1, 1) := by decide +kernel
theorem dX6_alert_35 : decode cX6_alert 35 = .ok (.ireturn, 1) := by decide +kernel
theorem dX6_answer_0 : decode cX6_answer 0 = .ok (.aload_n 0, 1) := by decide +kernel
theorem dX6_answer_1 : decode cX6_answer 1 = .ok (.iconst 1, 1) := by decide +kernel
theorem dX6_answer_2 : decode cX6_answer 2 = .ok (.iconst 1, 1) := by decide +kernel
theorem dX6_answer_3 : decode cX6_answer 3 = .ok (.iconst 2, 1) := by decide +kernel
theorem dX6_answer_4 : decode cX6_answer 4 = .ok (.invokevirtual 91, 3) := by decide +kernel
theorem dX6_answer_7 : decode cX6_answer 7 = .ok (.ifCond .ne 6, 3) := by decide +kernel
theorem dX6_answer_10 : decode cX6_answer 10 = .ok (.bipush (-2), 2) := by decide +kernel
theorem dX6_answer_12 : decode cX6_answer 12 = .ok (.ireturn, 1) := by decide +kernel
theorem dX6_answer_13 : decode cX6_answer 13 = .ok (.aload_n 0, 1) := by decide +kernel
theorem dX6_answer_14 : decode cX6_answer 14 = .ok (.iconst 1, 1) := by decide +kernel
theorem dX6_answer_15 : decode cX6_answer 15 = .ok (.iconst 3, 1) := by decide +kernel
theorem dX6_answer_16 : decode cX6_answer 16 = .ok (.bipush 7, 2) := by decide +kernel
theorem dX6_answer_18 : decode cX6_answer 18 = .ok (.invokevirtual 64, 3) := by decide +kernel
theorem dX6_answer_21 : decode cX6_answer 21 = .ok (.istore_n 1, 1) := by decide +kernel
theorem dX6_answer_22 : decode cX6_answer 22 = .ok (.aload_n 0, 1) := by decide +kernel
theorem dX6_answer_23 : decode cX6_answer 23 = .ok (.iconst 1, 1) := by decide +kernel
theorem dX6_answer_24 : decode cX6_answer 24 = .ok (.aload_n 0, 1) := by decide +kernel
theorem dX6_answer_25 : decode cX6_answer 25 = .ok (.getfield 23, 3) := by decide +kernel
theorem dX6_answer_28 : decode cX6_answer 28 = .ok (.iconst 1, 1) := by decide +kernel
theorem dX6_answer_29 : decode cX6_answer 29 = .ok (.iaload, 1) := by decide +kernel
theorem dX6_answer_30 : decode cX6_answer 30 = .ok (.iconst 3, 1) := by decide +kernel
theorem dX6_answer_31 : decode cX6_answer 31 = .ok (.bipush 10, 2) := by decide +kernel
theorem dX6_answer_33 : decode cX6_answer 33 = .ok (.invokevirtual 83, 3) := by decide +kernel
theorem dX6_answer_36 : decode cX6_answer 36 = .ok (.iconst 1, 1) := by decide +kernel
theorem dX6_answer_37 : decode cX6_answer 37 = .ok (.ireturn, 1) := by decide +kernel
theorem dX6_clear_0 : decode cX6_clear 0 = .ok (.iload_n 1, 1) := by decide +kernel
theorem dX6_clear_1 : decode cX6_clear 1 = .ok (.ifCond .lt 10, 3) := by decide +kernel
theorem dX6_clear_4 : decode cX6_clear 4 = .ok (.iload_n 1, 1) := by decide +kernel
theorem dX6_clear_5 : decode cX6_clear 5 = .ok (.sipush 255, 3) := by decide +kernel
theorem dX6_clear_8 : decode cX6_clear 8 = .ok (.if_icmp .le 5, 3) := by decide +kernel
theorem dX6_clear_11 : decode cX6_clear 11 = .ok (.iconst (-1), 1) := by decide +kernel
theorem dX6_clear_12 : decode cX6_clear 12 = .ok (.ireturn, 1) := by decide +kernel
theorem dX6_clear_13 : decode cX6_clear 13 = .ok (.aload_n 0, 1) := by decide +kernel
theorem dX6_clear_14 : decode cX6_clear 14 = .ok (.iconst 1, 1) := by decide +kernel
theorem dX6_clear_15 : decode cX6_clear 15 = .ok (.iconst 1, 1) := by decide +kernel
theorem dX6_clear_16 : decode cX6_clear 16 = .ok (.iconst 4, 1) := by decide +kernel
theorem dX6_clear_17 : decode cX6_clear 17 = .ok (.invokevirtual 91, 3) := by decide +kernel
theorem dX6_clear_20 : decode cX6_clear 20 = .ok (.ifCond .ne 6, 3) := by decide +kernel
theorem dX6_clear_23 : decode cX6_clear 23 = .ok (.bipush (-2), 2) := by decide +kernel
theorem dX6_clear_25 : decode cX6_clear 25 = .ok (.ireturn, 1) := by decide +kernel
theorem dX6_clear_26 : decode cX6_clear 26 = .ok (.aload_n 0, 1) := by decide +kernel
theorem dX6_clear_27 : decode cX6_clear 27 = .ok (.iconst 1, 1) := by decide +kernel
theorem dX6_clear_28 : decode cX6_clear 28 = .ok (.iload_n 1, 1) := by decide +kernel
theorem dX6_clear_29 : decode cX6_clear 29 = .ok (.invokevirtual 142, 3) := by decide +kernel
theorem dX6_clear_32 : decode cX6_clear 32 = .ok (.iconst 1, 1) := by decide +kernel
theorem dX6_clear_33 : decode cX6_clear 33 = .ok (.ireturn, 1) := by decide +kernel
theorem dX6_accept_0 : decode cX6_accept 0 = .ok (.aload_n 0, 1) := by decide +kernel
theorem dX6_accept_1 : decode cX6_accept 1 = .ok (.iload_n 1, 1) := by decide +kernel
theorem dX6_accept_2 : decode cX6_accept 2 = .ok (.putfield 7, 3) := by decide +kernel
theorem dX6_accept_5 : decode cX6_accept 5 = .ok (.iconst 1, 1) := by decide +kernel
theorem dX6_accept_6 : decode cX6_accept 6 = .ok (.ireturn, 1) := by decide +kernel
theorem dX6_radio_0 : decode cX6_radio 0 = .ok (.iload_n 1, 1) := by decide +kernel
theorem dX6_radio_1 : decode cX6_radio 1 = .ok (.aload_n 0, 1) := by decide +kernel
theorem dX6_radio_2 : decode cX6_radio 2 = .ok (.getfield 60, 3) := by decide +kernel
theorem dX6_radio_5 : decode cX6_radio 5 = .ok (.ifCond .ne 7, 3) := by decide +kernel
theorem dX6_radio_8 : decode cX6_radio 8 = .ok (.iconst 1, 1) := by decide +kernel
theorem dX6_radio_9 : decode cX6_radio 9 = .ok (.goto 4, 3) := by decide +kernel
theorem dX6_radio_12 : decode cX6_radio 12 = .ok (.iconst 0, 1) := by decide +kernel
theorem dX6_radio_13 : decode cX6_radio 13 = .ok (.if_icmp .ne 6, 3) := by decide +kernel
theorem dX6_radio_16 : decode cX6_radio 16 = .ok (.bipush (-2), 2) := by decide +kernel
theorem dX6_radio_18 : decode cX6_radio 18 = .ok (.ireturn, 1) := by decide +kernel
theorem dX6_radio_19 : decode cX6_radio 19 = .ok (.aload_n 0, 1) := by decide +kernel
theorem dX6_radio_20 : decode cX6_radio 20 = .ok (.iload_n 1, 1) := by decide +kernel
theorem dX6_radio_21 : decode cX6_radio 21 = .ok (.ifCond .ne 7, 3) := by decide +kernel
theorem dX6_radio_24 : decode cX6_radio 24 = .ok (.iconst 1, 1) := by decide +kernel
theorem dX6_radio_25 : decode cX6_radio 25 = .ok (.goto 4, 3) := by decide +kernel
theorem dX6_radio_28 : decode cX6_radio 28 = .ok (.iconst 0, 1) := by decide +kernel
theorem dX6_radio_29 : decode cX6_radio 29 = .ok (.putfield 60, 3) := by decide +kernel
theorem dX6_radio_32 : decode cX6_radio 32 = .ok (.iload_n 1, 1) := by decide +kernel
theorem dX6_radio_33 : decode cX6_radio 33 = .ok (.ifCond .ne 63, 3) := by decide +kernel
theorem dX6_radio_36 : decode cX6_radio 36 = .ok (.aload_n 0, 1) := by decide +kernel
theorem dX6_radio_37 : decode cX6_radio 37 = .ok (.getfield 13, 3) := by decide +kernel
theorem dX6_radio_40 : decode cX6_radio 40 = .ok (.iconst 0, 1) := by decide +kernel
theorem dX6_radio_41 : decode cX6_radio 41 = .ok (.iconst 0, 1) := by decide +kernel
theorem dX6_radio_42 : decode cX6_radio 42 = .ok (.iastore, 1) := by decide +kernel
theorem dX6_radio_43 : decode cX6_radio 43 = .ok (.aload_n 0, 1) := by decide +kernel
theorem dX6_radio_44 : decode cX6_radio 44 = .ok (.getfield 13, 3) := by decide +kernel
theorem dX6_radio_47 : decode cX6_radio 47 = .ok (.iconst 1, 1) := by decide +kernel
theorem dX6_radio_48 : decode cX6_radio 48 = .ok (.iconst 0, 1) := by decide +kernel
theorem dX6_radio_49 : decode cX6_radio 49 = .ok (.iastore, 1) := by decide +kernel
theorem dX6_radio_50 : decode cX6_radio 50 = .ok (.aload_n 0, 1) := by decide +kernel
theorem dX6_radio_51 : decode cX6_radio 51 = .ok (.getfield 23, 3) := by decide +kernel
theorem dX6_radio_54 : decode cX6_radio 54 = .ok (.iconst 0, 1) := by decide +kernel
theorem dX6_radio_55 : decode cX6_radio 55 = .ok (.iaload, 1) := by decide +kernel
theorem dX6_radio_56 : decode cX6_radio 56 = .ok (.istore_n 2, 1) := by decide +kernel
theorem dX6_radio_57 : decode cX6_radio 57 = .ok (.aload_n 0, 1) := by decide +kernel
theorem dX6_radio_58 : decode cX6_radio 58 = .ok (.iconst 0, 1) := by decide +kernel
theorem dX6_radio_59 : decode cX6_radio 59 = .ok (.iload_n 2, 1) := by decide +kernel
theorem dX6_radio_60 : decode cX6_radio 60 = .ok (.iconst 2, 1) := by decide +kernel
theorem dX6_radio_61 : decode cX6_radio 61 = .ok (.if_icmp .ne 7, 3) := by decide +kernel
theorem dX6_radio_64 : decode cX6_radio 64 = .ok (.iconst 1, 1) := by decide +kernel
theorem dX6_radio_65 : decode cX6_radio 65 = .ok (.goto 18, 3) := by decide +kernel
theorem dX6_radio_68 : decode cX6_radio 68 = .ok (.iload_n 2, 1) := by decide +kernel
theorem dX6_radio_69 : decode cX6_radio 69 = .ok (.iconst 4, 1) := by decide +kernel
theorem dX6_radio_70 : decode cX6_radio 70 = .ok (.if_icmp .eq 8, 3) := by decide +kernel
theorem dX6_radio_73 : decode cX6_radio 73 = .ok (.iload_n 2, 1) := by decide +kernel
theorem dX6_radio_74 : decode cX6_radio 74 = .ok (.iconst 5, 1) := by decide +kernel
theorem dX6_radio_75 : decode cX6_radio 75 = .ok (.if_icmp .ne 7, 3) := by decide +kernel
theorem dX6_radio_78 : decode cX6_radio 78 = .ok (.iconst 3, 1) := by decide +kernel
theorem dX6_radio_79 : decode cX6_radio 79 = .ok (.goto 4, 3) := by decide +kernel
theorem dX6_radio_82 : decode cX6_radio 82 = .ok (.iload_n 2, 1) := by decide +kernel
theorem dX6_radio_83 : decode cX6_radio 83 = .ok (.iconst 0, 1) := by decide +kernel
theorem dX6_radio_84 : decode cX6_radio 84 = .ok (.iconst 0, 1) := by decide +kernel
theorem dX6_radio_85 : decode cX6_radio 85 = .ok (.invokevirtual 83, 3) := by decide +kernel
theorem dX6_radio_88 : decode cX6_radio 88 = .ok (.aload_n 0, 1) := by decide +kernel
theorem dX6_radio_89 : decode cX6_radio 89 = .ok (.iconst 1, 1) := by decide +kernel
theorem dX6_radio_90 : decode cX6_radio 90 = .ok (.iconst 0, 1) := by decide +kernel
theorem dX6_radio_91 : decode cX6_radio 91 = .ok (.iconst 0, 1) := by decide +kernel
theorem dX6_radio_92 : decode cX6_radio 92 = .ok (.iconst 0, 1) := by decide +kernel
theorem dX6_radio_93 : decode cX6_radio 93 = .ok (.invokevirtual 83, 3) := by decide +kernel
theorem dX6_radio_96 : decode cX6_radio 96 = .ok (.iconst 1, 1) := by decide +kernel
theorem dX6_radio_97 : decode cX6_radio 97 = .ok (.ireturn, 1) := by decide +kernel
theorem dX6_isWay_0 : decode cX6_isWay 0 = .ok (.iload_n 0, 1) := by decide +kernel
theorem dX6_isWay_1 : decode cX6_isWay 1 = .ok (.ifCond .eq 8, 3) := by decide +kernel
theorem dX6_isWay_4 : decode cX6_isWay 4 = .ok (.iload_n 0, 1) := by decide +kernel
theorem dX6_isWay_5 : decode cX6_isWay 5 = .ok (.iconst 1, 1) := by decide +kernel
theorem dX6_isWay_6 : decode cX6_isWay 6 = .ok (.if_icmp .ne 7, 3) := by decide +kernel
theorem dX6_isWay_9 : decode cX6_isWay 9 = .ok (.iconst 1, 1) := by decide +kernel
theorem dX6_isWay_10 : decode cX6_isWay 10 = .ok (.goto 4, 3) := by decide +kernel
theorem dX6_isWay_13 : decode cX6_isWay 13 = .ok (.iconst 0, 1) := by decide +kernel
theorem dX6_isWay_14 : decode cX6_isWay 14 = .ok (.ireturn, 1) := by decide +kernel
theorem dX6_carry_0 : decode cX6_carry 0 = .ok (.iload_n 1, 1) := by decide +kernel
theorem dX6_carry_1 : decode cX6_carry 1 = .ok (.invokestatic 145, 3) := by decide +kernel
theorem dX6_carry_4 : decode cX6_carry 4 = .ok (.ifCond .ne 5, 3) := by decide +kernel
theorem dX6_carry_7 : decode cX6_carry 7 = .ok (.iconst (-1), 1) := by decide +kernel
theorem dX6_carry_8 : decode cX6_carry 8 = .ok (.ireturn, 1) := by decide +kernel
theorem dX6_carry_9 : decode cX6_carry 9 = .ok (.aload_n 0, 1) := by decide +kernel
theorem dX6_carry_10 : decode cX6_carry 10 = .ok (.getfield 13, 3) := by decide +kernel
theorem dX6_carry_13 : decode cX6_carry 13 = .ok (.iload_n 1, 1) := by decide +kernel
theorem dX6_carry_14 : decode cX6_carry 14 = .ok (.iaload, 1) := by decide +kernel
theorem dX6_carry_15 : decode cX6_carry 15 = .ok (.ifCond .ne 6, 3) := by decide +kernel
theorem dX6_carry_18 : decode cX6_carry 18 = .ok (.bipush (-3), 2) := by decide +kernel
theorem dX6_carry_20 : decode cX6_carry 20 = .ok (.ireturn, 1) := by decide +kernel
theorem dX6_carry_21 : decode cX6_carry 21 = .ok (.aload_n 0, 1) := by decide +kernel
theorem dX6_carry_22 : decode cX6_carry 22 = .ok (.iload_n 1, 1) := by decide +kernel
theorem dX6_carry_23 : decode cX6_carry 23 = .ok (.invokevirtual 149, 3) := by decide +kernel
theorem dX6_carry_26 : decode cX6_carry 26 = .ok (.aload_n 0, 1) := by decide +kernel
theorem dX6_carry_27 : decode cX6_carry 27 = .ok (.getfield 48, 3) := by decide +kernel
theorem dX6_carry_30 : decode cX6_carry 30 = .ok (.iconst 1, 1) := by decide +kernel
theorem dX6_carry_31 : decode cX6_carry 31 = .ok (.iaload, 1) := by decide +kernel
theorem dX6_carry_32 : decode cX6_carry 32 = .ok (.istore_n 2, 1) := by decide +kernel
theorem dX6_carry_33 : decode cX6_carry 33 = .ok (.aload_n 0, 1) := by decide +kernel
theorem dX6_carry_34 : decode cX6_carry 34 = .ok (.invokevirtual 152, 3) := by decide +kernel
theorem dX6_carry_37 : decode cX6_carry 37 = .ok (.ifCond .eq 78, 3) := by decide +kernel
theorem dX6_carry_40 : decode cX6_carry 40 = .ok (.aload_n 0, 1) := by decide +kernel
theorem dX6_carry_41 : decode cX6_carry 41 = .ok (.getfield 48, 3) := by decide +kernel
theorem dX6_carry_44 : decode cX6_carry 44 = .ok (.iconst 0, 1) := by decide +kernel
theorem dX6_carry_45 : decode cX6_carry 45 = .ok (.iaload, 1) := by decide +kernel
theorem dX6_carry_46 : decode cX6_carry 46 = .ok (.iconst 5, 1) := by decide +kernel
theorem dX6_carry_47 : decode cX6_carry 47 = .ok (.if_icmp .ne 30, 3) := by decide +kernel
theorem dX6_carry_50 : decode cX6_carry 50 = .ok (.iload_n 1, 1) := by decide +kernel
theorem dX6_carry_51 : decode cX6_carry 51 = .ok (.iconst 1, 1) := by decide +kernel
theorem dX6_carry_52 : decode cX6_carry 52 = .ok (.if_icmp .ne 14, 3) := by decide +kernel
theorem dX6_carry_55 : decode cX6_carry 55 = .ok (.aload_n 0, 1) := by decide +kernel
theorem dX6_carry_56 : decode cX6_carry 56 = .ok (.iload_n 2, 1) := by decide +kernel
theorem dX6_carry_57 : decode cX6_carry 57 = .ok (.invokevirtual 156, 3) := by decide +kernel
theorem dX6_carry_60 : decode cX6_carry 60 = .ok (.ifCond .eq 55, 3) := by decide +kernel
theorem dX6_carry_63 : decode cX6_carry 63 = .ok (.goto 48, 3) := by decide +kernel
theorem dX6_carry_66 : decode cX6_carry 66 = .ok (.aload_n 0, 1) := by decide +kernel
theorem dX6_carry_67 : decode cX6_carry 67 = .ok (.iload_n 2, 1) := by decide +kernel
theorem dX6_carry_68 : decode cX6_carry 68 = .ok (.invokevirtual 159, 3) := by decide +kernel
theorem dX6_carry_71 : decode cX6_carry 71 = .ok (.ifCond .eq 44, 3) := by decide +kernel
theorem dX6_carry_74 : decode cX6_carry 74 = .ok (.goto 37, 3) := by decide +kernel
theorem dX6_carry_77 : decode cX6_carry 77 = .ok (.aload_n 0, 1) := by decide +kernel
theorem dX6_carry_78 : decode cX6_carry 78 = .ok (.getfield 48, 3) := by decide +kernel
theorem dX6_carry_81 : decode cX6_carry 81 = .ok (.iconst 0, 1) := by decide +kernel
theorem dX6_carry_82 : decode cX6_carry 82 = .ok (.iaload, 1) := by decide +kernel
theorem dX6_carry_83 : decode cX6_carry 83 = .ok (.iconst 3, 1) := by decide +kernel
theorem dX6_carry_84 : decode cX6_carry 84 = .ok (.if_icmp .ne 31, 3) := by decide +kernel
theorem dX6_carry_87 : decode cX6_carry 87 = .ok (.iload_n 1, 1) := by decide +kernel
theorem dX6_carry_88 : decode cX6_carry 88 = .ok (.iconst 1, 1) := by decide +kernel
theorem dX6_carry_89 : decode cX6_carry 89 = .ok (.if_icmp .ne 14, 3) := by decide +kernel
theorem dX6_carry_92 : decode cX6_carry 92 = .ok (.aload_n 0, 1) := by decide +kernel
theorem dX6_carry_93 : decode cX6_carry 93 = .ok (.iload_n 2, 1) := by decide +kernel
theorem dX6_carry_94 : decode cX6_carry 94 = .ok (.invokevirtual 162, 3) := by decide +kernel
theorem dX6_carry_97 : decode cX6_carry 97 = .ok (.ifCond .eq 18, 3) := by decide +kernel
theorem dX6_carry_100 : decode cX6_carry 100 = .ok (.goto 11, 3) := by decide +kernel
theorem dX6_carry_103 : decode cX6_carry 103 = .ok (.aload_n 0, 1) := by decide +kernel
theorem dX6_carry_104 : decode cX6_carry 104 = .ok (.iload_n 2, 1) := by decide +kernel
theorem dX6_carry_105 : decode cX6_carry 105 = .ok (.invokevirtual 165, 3) := by decide +kernel
theorem dX6_carry_108 : decode cX6_carry 108 = .ok (.ifCond .eq 7, 3) := by decide +kernel
theorem dX6_carry_111 : decode cX6_carry 111 = .ok (.iconst 1, 1) := by decide +kernel
theorem dX6_carry_112 : decode cX6_carry 112 = .ok (.goto 4, 3) := by decide +kernel
theorem dX6_carry_115 : decode cX6_carry 115 = .ok (.iconst 0, 1) := by decide +kernel
theorem dX6_carry_116 : decode cX6_carry 116 = .ok (.istore_n 3, 1) := by decide +kernel
theorem dX6_carry_117 : decode cX6_carry 117 = .ok (.aload_n 0, 1) := by decide +kernel
theorem dX6_carry_118 : decode cX6_carry 118 = .ok (.iload_n 3, 1) := by decide +kernel
theorem dX6_carry_119 : decode cX6_carry 119 = .ok (.ifCond .eq 10, 3) := by decide +kernel
theorem dX6_carry_122 : decode cX6_carry 122 = .ok (.aload_n 0, 1) := by decide +kernel
theorem dX6_carry_123 : decode cX6_carry 123 = .ok (.getfield 168, 3) := by decide +kernel
theorem dX6_carry_126 : decode cX6_carry 126 = .ok (.goto 9, 3) := by decide +kernel
theorem dX6_carry_129 : decode cX6_carry 129 = .ok (.aload_n 0, 1) := by decide +kernel
theorem dX6_carry_130 : decode cX6_carry 130 = .ok (.getfield 168, 3) := by decide +kernel
theorem dX6_carry_133 : decode cX6_carry 133 = .ok (.iconst 1, 1) := by decide +kernel
theorem dX6_carry_134 : decode cX6_carry 134 = .ok (.iadd, 1) := by decide +kernel
theorem dX6_carry_135 : decode cX6_carry 135 = .ok (.putfield 168, 3) := by decide +kernel
theorem dX6_carry_138 : decode cX6_carry 138 = .ok (.iload_n 3, 1) := by decide +kernel
theorem dX6_carry_139 : decode cX6_carry 139 = .ok (.ifCond .eq 7, 3) := by decide +kernel
theorem dX6_carry_142 : decode cX6_carry 142 = .ok (.iload_n 2, 1) := by decide +kernel
theorem dX6_carry_143 : decode cX6_carry 143 = .ok (.goto 8, 3) := by decide +kernel
theorem dX6_carry_146 : decode cX6_carry 146 = .ok (.iload_n 2, 1) := by decide +kernel
theorem dX6_carry_147 : decode cX6_carry 147 = .ok (.sipush 1000, 3) := by decide +kernel
theorem dX6_carry_150 : decode cX6_carry 150 = .ok (.iadd, 1) := by decide +kernel
theorem dX6_carry_151 : decode cX6_carry 151 = .ok (.ireturn, 1) := by decide +kernel
theorem dX6_lose_0 : decode cX6_lose 0 = .ok (.iload_n 1, 1) := by decide +kernel
theorem dX6_lose_1 : decode cX6_lose 1 = .ok (.invokestatic 145, 3) := by decide +kernel
theorem dX6_lose_4 : decode cX6_lose 4 = .ok (.ifCond .ne 5, 3) := by decide +kernel
theorem dX6_lose_7 : decode cX6_lose 7 = .ok (.iconst (-1), 1) := by decide +kernel
theorem dX6_lose_8 : decode cX6_lose 8 = .ok (.ireturn, 1) := by decide +kernel
theorem dX6_lose_9 : decode cX6_lose 9 = .ok (.aload_n 0, 1) := by decide +kernel
theorem dX6_lose_10 : decode cX6_lose 10 = .ok (.getfield 13, 3) := by decide +kernel
theorem dX6_lose_13 : decode cX6_lose 13 = .ok (.iload_n 1, 1) := by decide +kernel
theorem dX6_lose_14 : decode cX6_lose 14 = .ok (.iaload, 1) := by decide +kernel
theorem dX6_lose_15 : decode cX6_lose 15 = .ok (.ifCond .ne 6, 3) := by decide +kernel
theorem dX6_lose_18 : decode cX6_lose 18 = .ok (.bipush (-3), 2) := by decide +kernel
theorem dX6_lose_20 : decode cX6_lose 20 = .ok (.ireturn, 1) := by decide +kernel
theorem dX6_lose_21 : decode cX6_lose 21 = .ok (.aload_n 0, 1) := by decide +kernel
theorem dX6_lose_22 : decode cX6_lose 22 = .ok (.iload_n 1, 1) := by decide +kernel
theorem dX6_lose_23 : decode cX6_lose 23 = .ok (.invokevirtual 149, 3) := by decide +kernel
theorem dX6_lose_26 : decode cX6_lose 26 = .ok (.aload_n 0, 1) := by decide +kernel
theorem dX6_lose_27 : decode cX6_lose 27 = .ok (.getfield 48, 3) := by decide +kernel
theorem dX6_lose_30 : decode cX6_lose 30 = .ok (.iconst 1, 1) := by decide +kernel
theorem dX6_lose_31 : decode cX6_lose 31 = .ok (.iaload, 1) := by decide +kernel
theorem dX6_lose_32 : decode cX6_lose 32 = .ok (.ireturn, 1) := by decide +kernel
theorem dX6_spoil_0 : decode cX6_spoil 0 = .ok (.iload_n 1, 1) := by decide +kernel
theorem dX6_spoil_1 : decode cX6_spoil 1 = .ok (.invokestatic 145, 3) := by decide +kernel
theorem dX6_spoil_4 : decode cX6_spoil 4 = .ok (.ifCond .eq 14, 3) := by decide +kernel
theorem dX6_spoil_7 : decode cX6_spoil 7 = .ok (.iload_n 3, 1) := by decide +kernel
theorem dX6_spoil_8 : decode cX6_spoil 8 = .ok (.ifCond .lt 10, 3) := by decide +kernel
theorem dX6_spoil_11 : decode cX6_spoil 11 = .ok (.iload_n 3, 1) := by decide +kernel
theorem dX6_spoil_12 : decode cX6_spoil 12 = .ok (.sipush 255, 3) := by decide +kernel
theorem dX6_spoil_15 : decode cX6_spoil 15 = .ok (.if_icmp .le 5, 3) := by decide +kernel
theorem dX6_spoil_18 : decode cX6_spoil 18 = .ok (.iconst (-1), 1) := by decide +kernel
theorem dX6_spoil_19 : decode cX6_spoil 19 = .ok (.ireturn, 1) := by decide +kernel
theorem dX6_spoil_20 : decode cX6_spoil 20 = .ok (.aload_n 0, 1) := by decide +kernel
theorem dX6_spoil_21 : decode cX6_spoil 21 = .ok (.getfield 13, 3) := by decide +kernel
theorem dX6_spoil_24 : decode cX6_spoil 24 = .ok (.iload_n 1, 1) := by decide +kernel
theorem dX6_spoil_25 : decode cX6_spoil 25 = .ok (.iaload, 1) := by decide +kernel
theorem dX6_spoil_26 : decode cX6_spoil 26 = .ok (.ifCond .eq 20, 3) := by decide +kernel
theorem dX6_spoil_29 : decode cX6_spoil 29 = .ok (.iload_n 2, 1) := by decide +kernel
theorem dX6_spoil_30 : decode cX6_spoil 30 = .ok (.ifCond .lt 16, 3) := by decide +kernel
theorem dX6_spoil_33 : decode cX6_spoil 33 = .ok (.iload_n 2, 1) := by decide +kernel
theorem dX6_spoil_34 : decode cX6_spoil 34 = .ok (.aload_n 0, 1) := by decide +kernel
theorem dX6_spoil_35 : decode cX6_spoil 35 = .ok (.getfield 17, 3) := by decide +kernel
theorem dX6_spoil_38 : decode cX6_spoil 38 = .ok (.bipush 8, 2) := by decide +kernel
theorem dX6_spoil_40 : decode cX6_spoil 40 = .ok (.iload_n 1, 1) := by decide +kernel
theorem dX6_spoil_41 : decode cX6_spoil 41 = .ok (.imul, 1) := by decide +kernel
theorem dX6_spoil_42 : decode cX6_spoil 42 = .ok (.iaload, 1) := by decide +kernel
theorem dX6_spoil_43 : decode cX6_spoil 43 = .ok (.if_icmp .lt 6, 3) := by decide +kernel
theorem dX6_spoil_46 : decode cX6_spoil 46 = .ok (.bipush (-3), 2) := by decide +kernel
theorem dX6_spoil_48 : decode cX6_spoil 48 = .ok (.ireturn, 1) := by decide +kernel
theorem dX6_spoil_49 : decode cX6_spoil 49 = .ok (.sipush 192, 3) := by decide +kernel
theorem dX6_spoil_52 : decode cX6_spoil 52 = .ok (.iload_n 1, 1) := by decide +kernel
theorem dX6_spoil_53 : decode cX6_spoil 53 = .ok (.imul, 1) := by decide +kernel
theorem dX6_spoil_54 : decode cX6_spoil 54 = .ok (.iload_n 2, 1) := by decide +kernel
theorem dX6_spoil_55 : decode cX6_spoil 55 = .ok (.iadd, 1) := by decide +kernel
theorem dX6_spoil_56 : decode cX6_spoil 56 = .ok (.istore 4, 2) := by decide +kernel
theorem dX6_spoil_58 : decode cX6_spoil 58 = .ok (.aload_n 0, 1) := by decide +kernel
theorem dX6_spoil_59 : decode cX6_spoil 59 = .ok (.getfield 20, 3) := by decide +kernel
theorem dX6_spoil_62 : decode cX6_spoil 62 = .ok (.iload 4, 2) := by decide +kernel
theorem dX6_spoil_64 : decode cX6_spoil 64 = .ok (.aload_n 0, 1) := by decide +kernel
theorem dX6_spoil_65 : decode cX6_spoil 65 = .ok (.getfield 20, 3) := by decide +kernel
theorem dX6_spoil_68 : decode cX6_spoil 68 = .ok (.iload 4, 2) := by decide +kernel
theorem dX6_spoil_70 : decode cX6_spoil 70 = .ok (.iaload, 1) := by decide +kernel
theorem dX6_spoil_71 : decode cX6_spoil 71 = .ok (.iload_n 3, 1) := by decide +kernel
theorem dX6_spoil_72 : decode cX6_spoil 72 = .ok (.ixor, 1) := by decide +kernel
theorem dX6_spoil_73 : decode cX6_spoil 73 = .ok (.iastore, 1) := by decide +kernel
theorem dX6_spoil_74 : decode cX6_spoil 74 = .ok (.aload_n 0, 1) := by decide +kernel
theorem dX6_spoil_75 : decode cX6_spoil 75 = .ok (.getfield 20, 3) := by decide +kernel
theorem dX6_spoil_78 : decode cX6_spoil 78 = .ok (.iload 4, 2) := by decide +kernel
theorem dX6_spoil_80 : decode cX6_spoil 80 = .ok (.iaload, 1) := by decide +kernel
theorem dX6_spoil_81 : decode cX6_spoil 81 = .ok (.ireturn, 1) := by decide +kernel
theorem dX6_forge_0 : decode cX6_forge 0 = .ok (.iload_n 1, 1) := by decide +kernel
theorem dX6_forge_1 : decode cX6_forge 1 = .ok (.invokestatic 145, 3) := by decide +kernel
theorem dX6_forge_4 : decode cX6_forge 4 = .ok (.ifCond .eq 16, 3) := by decide +kernel
theorem dX6_forge_7 : decode cX6_forge 7 = .ok (.iload 4, 2) := by decide +kernel
theorem dX6_forge_9 : decode cX6_forge 9 = .ok (.iconst 2, 1) := by decide +kernel
theorem dX6_forge_10 : decode cX6_forge 10 = .ok (.if_icmp .lt 10, 3) := by decide +kernel
theorem dX6_forge_13 : decode cX6_forge 13 = .ok (.iload 4, 2) := by decide +kernel
theorem dX6_forge_15 : decode cX6_forge 15 = .ok (.bipush 8, 2) := by decide +kernel
theorem dX6_forge_17 : decode cX6_forge 17 = .ok (.if_icmp .le 5, 3) := by decide +kernel
theorem dX6_forge_20 : decode cX6_forge 20 = .ok (.iconst (-1), 1) := by decide +kernel
theorem dX6_forge_21 : decode cX6_forge 21 = .ok (.ireturn, 1) := by decide +kernel
theorem dX6_forge_22 : decode cX6_forge 22 = .ok (.aload_n 0, 1) := by decide +kernel
theorem dX6_forge_23 : decode cX6_forge 23 = .ok (.getfield 60, 3) := by decide +kernel
theorem dX6_forge_26 : decode cX6_forge 26 = .ok (.ifCond .ne 14, 3) := by decide +kernel
theorem dX6_forge_29 : decode cX6_forge 29 = .ok (.aload_n 0, 1) := by decide +kernel
theorem dX6_forge_30 : decode cX6_forge 30 = .ok (.getfield 13, 3) := by decide +kernel
theorem dX6_forge_33 : decode cX6_forge 33 = .ok (.iload_n 1, 1) := by decide +kernel
theorem dX6_forge_34 : decode cX6_forge 34 = .ok (.iaload, 1) := by decide +kernel
theorem dX6_forge_35 : decode cX6_forge 35 = .ok (.bipush 8, 2) := by decide +kernel
theorem dX6_forge_37 : decode cX6_forge 37 = .ok (.if_icmp .ne 6, 3) := by decide +kernel
theorem dX6_forge_40 : decode cX6_forge 40 = .ok (.bipush (-2), 2) := by decide +kernel
theorem dX6_forge_42 : decode cX6_forge 42 = .ok (.ireturn, 1) := by decide +kernel
theorem dX6_forge_43 : decode cX6_forge 43 = .ok (.aload_n 0, 1) := by decide +kernel
theorem dX6_forge_44 : decode cX6_forge 44 = .ok (.iload_n 1, 1) := by decide +kernel
theorem dX6_forge_45 : decode cX6_forge 45 = .ok (.lload_n 2, 1) := by decide +kernel
theorem dX6_forge_46 : decode cX6_forge 46 = .ok (.bipush 8, 2) := by decide +kernel
theorem dX6_forge_48 : decode cX6_forge 48 = .ok (.iload 4, 2) := by decide +kernel
theorem dX6_forge_50 : decode cX6_forge 50 = .ok (.iconst 1, 1) := by decide +kernel
theorem dX6_forge_51 : decode cX6_forge 51 = .ok (.isub, 1) := by decide +kernel
theorem dX6_forge_52 : decode cX6_forge 52 = .ok (.imul, 1) := by decide +kernel
theorem dX6_forge_53 : decode cX6_forge 53 = .ok (.lshr, 1) := by decide +kernel
theorem dX6_forge_54 : decode cX6_forge 54 = .ok (.ldc2_w 171, 3) := by decide +kernel
theorem dX6_forge_57 : decode cX6_forge 57 = .ok (.land, 1) := by decide +kernel
theorem dX6_forge_58 : decode cX6_forge 58 = .ok (.l2i, 1) := by decide +kernel
theorem dX6_forge_59 : decode cX6_forge 59 = .ok (.lload_n 2, 1) := by decide +kernel
theorem dX6_forge_60 : decode cX6_forge 60 = .ok (.bipush 8, 2) := by decide +kernel
theorem dX6_forge_62 : decode cX6_forge 62 = .ok (.iload 4, 2) := by decide +kernel
theorem dX6_forge_64 : decode cX6_forge 64 = .ok (.iconst 2, 1) := by decide +kernel
theorem dX6_forge_65 : decode cX6_forge 65 = .ok (.isub, 1) := by decide +kernel
theorem dX6_forge_66 : decode cX6_forge 66 = .ok (.imul, 1) := by decide +kernel
theorem dX6_forge_67 : decode cX6_forge 67 = .ok (.lshr, 1) := by decide +kernel
theorem dX6_forge_68 : decode cX6_forge 68 = .ok (.ldc2_w 171, 3) := by decide +kernel
theorem dX6_forge_71 : decode cX6_forge 71 = .ok (.land, 1) := by decide +kernel
theorem dX6_forge_72 : decode cX6_forge 72 = .ok (.l2i, 1) := by decide +kernel
theorem dX6_forge_73 : decode cX6_forge 73 = .ok (.invokevirtual 64, 3) := by decide +kernel
theorem dX6_forge_76 : decode cX6_forge 76 = .ok (.istore 5, 2) := by decide +kernel
theorem dX6_forge_78 : decode cX6_forge 78 = .ok (.iload 4, 2) := by decide +kernel
theorem dX6_forge_80 : decode cX6_forge 80 = .ok (.iconst 3, 1) := by decide +kernel
theorem dX6_forge_81 : decode cX6_forge 81 = .ok (.isub, 1) := by decide +kernel
theorem dX6_forge_82 : decode cX6_forge 82 = .ok (.istore 6, 2) := by decide +kernel
theorem dX6_forge_84 : decode cX6_forge 84 = .ok (.iload 6, 2) := by decide +kernel
theorem dX6_forge_86 : decode cX6_forge 86 = .ok (.ifCond .lt 27, 3) := by decide +kernel
theorem dX6_forge_89 : decode cX6_forge 89 = .ok (.aload_n 0, 1) := by decide +kernel
theorem dX6_forge_90 : decode cX6_forge 90 = .ok (.iload 5, 2) := by decide +kernel
theorem dX6_forge_92 : decode cX6_forge 92 = .ok (.lload_n 2, 1) := by decide +kernel
theorem dX6_forge_93 : decode cX6_forge 93 = .ok (.bipush 8, 2) := by decide +kernel
theorem dX6_forge_95 : decode cX6_forge 95 = .ok (.iload 6, 2) := by decide +kernel
theorem dX6_forge_97 : decode cX6_forge 97 = .ok (.imul, 1) := by decide +kernel
theorem dX6_forge_98 : decode cX6_forge 98 = .ok (.lshr, 1) := by decide +kernel
theorem dX6_forge_99 : decode cX6_forge 99 = .ok (.ldc2_w 171, 3) := by decide +kernel
theorem dX6_forge_102 : decode cX6_forge 102 = .ok (.land, 1) := by decide +kernel
theorem dX6_forge_103 : decode cX6_forge 103 = .ok (.l2i, 1) := by decide +kernel
theorem dX6_forge_104 : decode cX6_forge 104 = .ok (.invokevirtual 68, 3) := by decide +kernel
theorem dX6_forge_107 : decode cX6_forge 107 = .ok (.iinc 6 (-1), 3) := by decide +kernel
theorem dX6_forge_110 : decode cX6_forge 110 = .ok (.goto (-26), 3) := by decide +kernel
theorem dX6_forge_113 : decode cX6_forge 113 = .ok (.aload_n 0, 1) := by decide +kernel
theorem dX6_forge_114 : decode cX6_forge 114 = .ok (.getfield 13, 3) := by decide +kernel
theorem dX6_forge_117 : decode cX6_forge 117 = .ok (.iload_n 1, 1) := by decide +kernel
theorem dX6_forge_118 : decode cX6_forge 118 = .ok (.iaload, 1) := by decide +kernel
theorem dX6_forge_119 : decode cX6_forge 119 = .ok (.ireturn, 1) := by decide +kernel
theorem dX6_told_0 : decode cX6_told 0 = .ok (.iload_n 1, 1) := by decide +kernel
theorem dX6_told_1 : decode cX6_told 1 = .ok (.tableswitch 169 0 13 #[71, 78, 85, 92, 97, 104, 111, 118, 123, 130, 137, 142, 155, 162], 71) := by decide +kernel
theorem dX6_told_72 : decode cX6_told 72 = .ok (.aload_n 0, 1) := by decide +kernel
theorem dX6_told_73 : decode cX6_told 73 = .ok (.getfield 23, 3) := by decide +kernel
theorem dX6_told_76 : decode cX6_told 76 = .ok (.iconst 0, 1) := by decide +kernel
theorem dX6_told_77 : decode cX6_told 77 = .ok (.iaload, 1) := by decide +kernel
theorem dX6_told_78 : decode cX6_told 78 = .ok (.ireturn, 1) := by decide +kernel
theorem dX6_told_79 : decode cX6_told 79 = .ok (.aload_n 0, 1) := by decide +kernel
theorem dX6_told_80 : decode cX6_told 80 = .ok (.getfield 26, 3) := by decide +kernel
theorem dX6_told_83 : decode cX6_told 83 = .ok (.iconst 0, 1) := by decide +kernel
theorem dX6_told_84 : decode cX6_told 84 = .ok (.iaload, 1) := by decide +kernel
theorem dX6_told_85 : decode cX6_told 85 = .ok (.ireturn, 1) := by decide +kernel
theorem dX6_told_86 : decode cX6_told 86 = .ok (.aload_n 0, 1) := by decide +kernel
theorem dX6_told_87 : decode cX6_told 87 = .ok (.getfield 29, 3) := by decide +kernel
theorem dX6_told_90 : decode cX6_told 90 = .ok (.iconst 0, 1) := by decide +kernel
theorem dX6_told_91 : decode cX6_told 91 = .ok (.iaload, 1) := by decide +kernel
theorem dX6_told_92 : decode cX6_told 92 = .ok (.ireturn, 1) := by decide +kernel
theorem dX6_told_93 : decode cX6_told 93 = .ok (.aload_n 0, 1) := by decide +kernel
theorem dX6_told_94 : decode cX6_told 94 = .ok (.getfield 105, 3) := by decide +kernel
theorem dX6_told_97 : decode cX6_told 97 = .ok (.ireturn, 1) := by decide +kernel
theorem dX6_told_98 : decode cX6_told 98 = .ok (.aload_n 0, 1) := by decide +kernel
theorem dX6_told_99 : decode cX6_told 99 = .ok (.getfield 23, 3) := by decide +kernel
theorem dX6_told_102 : decode cX6_told 102 = .ok (.iconst 1, 1) := by decide +kernel
theorem dX6_told_103 : decode cX6_told 103 = .ok (.iaload, 1) := by decide +kernel
theorem dX6_told_104 : decode cX6_told 104 = .ok (.ireturn, 1) := by decide +kernel
theorem dX6_told_105 : decode cX6_told 105 = .ok (.aload_n 0, 1) := by decide +kernel
theorem dX6_told_106 : decode cX6_told 106 = .ok (.getfield 26, 3) := by decide +kernel
theorem dX6_told_109 : decode cX6_told 109 = .ok (.iconst 1, 1) := by decide +kernel
theorem dX6_told_110 : decode cX6_told 110 = .ok (.iaload, 1) := by decide +kernel
theorem dX6_told_111 : decode cX6_told 111 = .ok (.ireturn, 1) := by decide +kernel
theorem dX6_told_112 : decode cX6_told 112 = .ok (.aload_n 0, 1) := by decide +kernel
theorem dX6_told_113 : decode cX6_told 113 = .ok (.getfield 29, 3) := by decide +kernel
theorem dX6_told_116 : decode cX6_told 116 = .ok (.iconst 1, 1) := by decide +kernel
theorem dX6_told_117 : decode cX6_told 117 = .ok (.iaload, 1) := by decide +kernel
theorem dX6_told_118 : decode cX6_told 118 = .ok (.ireturn, 1) := by decide +kernel
theorem dX6_told_119 : decode cX6_told 119 = .ok (.aload_n 0, 1) := by decide +kernel
theorem dX6_told_120 : decode cX6_told 120 = .ok (.getfield 39, 3) := by decide +kernel
theorem dX6_told_123 : decode cX6_told 123 = .ok (.ireturn, 1) := by decide +kernel
theorem dX6_told_124 : decode cX6_told 124 = .ok (.aload_n 0, 1) := by decide +kernel
theorem dX6_told_125 : decode cX6_told 125 = .ok (.getfield 13, 3) := by decide +kernel
theorem dX6_told_128 : decode cX6_told 128 = .ok (.iconst 0, 1) := by decide +kernel
theorem dX6_told_129 : decode cX6_told 129 = .ok (.iaload, 1) := by decide +kernel
theorem dX6_told_130 : decode cX6_told 130 = .ok (.ireturn, 1) := by decide +kernel
theorem dX6_told_131 : decode cX6_told 131 = .ok (.aload_n 0, 1) := by decide +kernel
theorem dX6_told_132 : decode cX6_told 132 = .ok (.getfield 13, 3) := by decide +kernel
theorem dX6_told_135 : decode cX6_told 135 = .ok (.iconst 1, 1) := by decide +kernel
theorem dX6_told_136 : decode cX6_told 136 = .ok (.iaload, 1) := by decide +kernel
theorem dX6_told_137 : decode cX6_told 137 = .ok (.ireturn, 1) := by decide +kernel
theorem dX6_told_138 : decode cX6_told 138 = .ok (.aload_n 0, 1) := by decide +kernel
theorem dX6_told_139 : decode cX6_told 139 = .ok (.getfield 168, 3) := by decide +kernel
theorem dX6_told_142 : decode cX6_told 142 = .ok (.ireturn, 1) := by decide +kernel
theorem dX6_told_143 : decode cX6_told 143 = .ok (.aload_n 0, 1) := by decide +kernel
theorem dX6_told_144 : decode cX6_told 144 = .ok (.getfield 60, 3) := by decide +kernel
theorem dX6_told_147 : decode cX6_told 147 = .ok (.ifCond .eq 7, 3) := by decide +kernel
theorem dX6_told_150 : decode cX6_told 150 = .ok (.iconst 0, 1) := by decide +kernel
theorem dX6_told_151 : decode cX6_told 151 = .ok (.goto 4, 3) := by decide +kernel
theorem dX6_told_154 : decode cX6_told 154 = .ok (.iconst 1, 1) := by decide +kernel
theorem dX6_told_155 : decode cX6_told 155 = .ok (.ireturn, 1) := by decide +kernel
theorem dX6_told_156 : decode cX6_told 156 = .ok (.aload_n 0, 1) := by decide +kernel
theorem dX6_told_157 : decode cX6_told 157 = .ok (.getfield 36, 3) := by decide +kernel
theorem dX6_told_160 : decode cX6_told 160 = .ok (.iconst 0, 1) := by decide +kernel
theorem dX6_told_161 : decode cX6_told 161 = .ok (.iaload, 1) := by decide +kernel
theorem dX6_told_162 : decode cX6_told 162 = .ok (.ireturn, 1) := by decide +kernel
theorem dX6_told_163 : decode cX6_told 163 = .ok (.aload_n 0, 1) := by decide +kernel
theorem dX6_told_164 : decode cX6_told 164 = .ok (.getfield 36, 3) := by decide +kernel
theorem dX6_told_167 : decode cX6_told 167 = .ok (.iconst 1, 1) := by decide +kernel
theorem dX6_told_168 : decode cX6_told 168 = .ok (.iaload, 1) := by decide +kernel
theorem dX6_told_169 : decode cX6_told 169 = .ok (.ireturn, 1) := by decide +kernel
theorem dX6_told_170 : decode cX6_told 170 = .ok (.iconst (-1), 1) := by decide +kernel
theorem dX6_told_171 : decode cX6_told 171 = .ok (.ireturn, 1) := by decide +kernel
theorem dX6_byteOf_0 : decode cX6_byteOf 0 = .ok (.iload_n 1, 1) := by decide +kernel
theorem dX6_byteOf_1 : decode cX6_byteOf 1 = .ok (.invokestatic 145, 3) := by decide +kernel
theorem dX6_byteOf_4 : decode cX6_byteOf 4 = .ok (.ifCond .eq 17, 3) := by decide +kernel
theorem dX6_byteOf_7 : decode cX6_byteOf 7 = .ok (.iload_n 2, 1) := by decide +kernel
theorem dX6_byteOf_8 : decode cX6_byteOf 8 = .ok (.ifCond .lt 13, 3) := by decide +kernel
theorem dX6_byteOf_11 : decode cX6_byteOf 11 = .ok (.iload_n 2, 1) := by decide +kernel
theorem dX6_byteOf_12 : decode cX6_byteOf 12 = .ok (.aload_n 0, 1) := by decide +kernel
theorem dX6_byteOf_13 : decode cX6_byteOf 13 = .ok (.getfield 13, 3) := by decide +kernel
theorem dX6_byteOf_16 : decode cX6_byteOf 16 = .ok (.iload_n 1, 1) := by decide +kernel
theorem dX6_byteOf_17 : decode cX6_byteOf 17 = .ok (.iaload, 1) := by decide +kernel
theorem dX6_byteOf_18 : decode cX6_byteOf 18 = .ok (.if_icmp .lt 6, 3) := by decide +kernel
theorem dX6_byteOf_21 : decode cX6_byteOf 21 = .ok (.bipush (-3), 2) := by decide +kernel
theorem dX6_byteOf_23 : decode cX6_byteOf 23 = .ok (.ireturn, 1) := by decide +kernel
theorem dX6_byteOf_24 : decode cX6_byteOf 24 = .ok (.bipush 8, 2) := by decide +kernel
theorem dX6_byteOf_26 : decode cX6_byteOf 26 = .ok (.iload_n 1, 1) := by decide +kernel
theorem dX6_byteOf_27 : decode cX6_byteOf 27 = .ok (.imul, 1) := by decide +kernel
theorem dX6_byteOf_28 : decode cX6_byteOf 28 = .ok (.iload_n 2, 1) := by decide +kernel
theorem dX6_byteOf_29 : decode cX6_byteOf 29 = .ok (.iadd, 1) := by decide +kernel
theorem dX6_byteOf_30 : decode cX6_byteOf 30 = .ok (.istore 4, 2) := by decide +kernel
theorem dX6_byteOf_32 : decode cX6_byteOf 32 = .ok (.iload_n 3, 1) := by decide +kernel
theorem dX6_byteOf_33 : decode cX6_byteOf 33 = .ok (.ifCond .lt 29, 3) := by decide +kernel
theorem dX6_byteOf_36 : decode cX6_byteOf 36 = .ok (.iload_n 3, 1) := by decide +kernel
theorem dX6_byteOf_37 : decode cX6_byteOf 37 = .ok (.aload_n 0, 1) := by decide +kernel
theorem dX6_byteOf_38 : decode cX6_byteOf 38 = .ok (.getfield 17, 3) := by decide +kernel
theorem dX6_byteOf_41 : decode cX6_byteOf 41 = .ok (.iload 4, 2) := by decide +kernel
theorem dX6_byteOf_43 : decode cX6_byteOf 43 = .ok (.iaload, 1) := by decide +kernel
theorem dX6_byteOf_44 : decode cX6_byteOf 44 = .ok (.if_icmp .ge 18, 3) := by decide +kernel
theorem dX6_byteOf_47 : decode cX6_byteOf 47 = .ok (.aload_n 0, 1) := by decide +kernel
theorem dX6_byteOf_48 : decode cX6_byteOf 48 = .ok (.getfield 20, 3) := by decide +kernel
theorem dX6_byteOf_51 : decode cX6_byteOf 51 = .ok (.bipush 24, 2) := by decide +kernel
theorem dX6_byteOf_53 : decode cX6_byteOf 53 = .ok (.iload 4, 2) := by decide +kernel
theorem dX6_byteOf_55 : decode cX6_byteOf 55 = .ok (.imul, 1) := by decide +kernel
theorem dX6_byteOf_56 : decode cX6_byteOf 56 = .ok (.iload_n 3, 1) := by decide +kernel
theorem dX6_byteOf_57 : decode cX6_byteOf 57 = .ok (.iadd, 1) := by decide +kernel
theorem dX6_byteOf_58 : decode cX6_byteOf 58 = .ok (.iaload, 1) := by decide +kernel
theorem dX6_byteOf_59 : decode cX6_byteOf 59 = .ok (.goto 5, 3) := by decide +kernel
theorem dX6_byteOf_62 : decode cX6_byteOf 62 = .ok (.bipush (-3), 2) := by decide +kernel
theorem dX6_byteOf_64 : decode cX6_byteOf 64 = .ok (.ireturn, 1) := by decide +kernel
theorem dX6_digit_0 : decode cX6_digit 0 = .ok (.aload_n 0, 1) := by decide +kernel
theorem dX6_digit_1 : decode cX6_digit 1 = .ok (.getfield 26, 3) := by decide +kernel
theorem dX6_digit_4 : decode cX6_digit 4 = .ok (.iconst 1, 1) := by decide +kernel
theorem dX6_digit_5 : decode cX6_digit 5 = .ok (.iaload, 1) := by decide +kernel
theorem dX6_digit_6 : decode cX6_digit 6 = .ok (.ifCond .le 24, 3) := by decide +kernel
theorem dX6_digit_9 : decode cX6_digit 9 = .ok (.iload_n 1, 1) := by decide +kernel
theorem dX6_digit_10 : decode cX6_digit 10 = .ok (.ifCond .lt 20, 3) := by decide +kernel
theorem dX6_digit_13 : decode cX6_digit 13 = .ok (.iload_n 1, 1) := by decide +kernel
theorem dX6_digit_14 : decode cX6_digit 14 = .ok (.aload_n 0, 1) := by decide +kernel
theorem dX6_digit_15 : decode cX6_digit 15 = .ok (.getfield 135, 3) := by decide +kernel
theorem dX6_digit_18 : decode cX6_digit 18 = .ok (.if_icmp .ge 12, 3) := by decide +kernel
theorem dX6_digit_21 : decode cX6_digit 21 = .ok (.aload_n 0, 1) := by decide +kernel
theorem dX6_digit_22 : decode cX6_digit 22 = .ok (.getfield 45, 3) := by decide +kernel
theorem dX6_digit_25 : decode cX6_digit 25 = .ok (.iload_n 1, 1) := by decide +kernel
theorem dX6_digit_26 : decode cX6_digit 26 = .ok (.iaload, 1) := by decide +kernel
theorem dX6_digit_27 : decode cX6_digit 27 = .ok (.goto 5, 3) := by decide +kernel
theorem dX6_digit_30 : decode cX6_digit 30 = .ok (.bipush (-3), 2) := by decide +kernel
theorem dX6_digit_32 : decode cX6_digit 32 = .ok (.ireturn, 1) := by decide +kernel
