theorem dX0_init_0 : decode cX0_init 0 = .ok (.aload_n 0, 1) := by decide +kernel
theorem dX0_init_1 : decode cX0_init 1 = .ok (.invokespecial 3, 3) := by decide +kernel
theorem dX0_init_4 : decode cX0_init 4 = .ok (.aload_n 0, 1) := by decide +kernel
theorem dX0_init_5 : decode cX0_init 5 = .ok (.bipush 24, 2) := by decide +kernel
theorem dX0_init_7 : decode cX0_init 7 = .ok (.newarray .int, 2) := by decide +kernel
theorem dX0_init_9 : decode cX0_init 9 = .ok (.putfield 11, 3) := by decide +kernel
theorem dX0_init_12 : decode cX0_init 12 = .ok (.aload_n 0, 1) := by decide +kernel
theorem dX0_init_13 : decode cX0_init 13 = .ok (.iconst 0, 1) := by decide +kernel
theorem dX0_init_14 : decode cX0_init 14 = .ok (.putfield 15, 3) := by decide +kernel
theorem dX0_init_17 : decode cX0_init 17 = .ok (.return_, 1) := by decide +kernel
theorem dX0_begin_0 : decode cX0_begin 0 = .ok (.aload_n 0, 1) := by decide +kernel
theorem dX0_begin_1 : decode cX0_begin 1 = .ok (.getfield 11, 3) := by decide +kernel
theorem dX0_begin_4 : decode cX0_begin 4 = .ok (.iconst 0, 1) := by decide +kernel
theorem dX0_begin_5 : decode cX0_begin 5 = .ok (.iload_n 1, 1) := by decide +kernel
theorem dX0_begin_6 : decode cX0_begin 6 = .ok (.iastore, 1) := by decide +kernel
theorem dX0_begin_7 : decode cX0_begin 7 = .ok (.aload_n 0, 1) := by decide +kernel
theorem dX0_begin_8 : decode cX0_begin 8 = .ok (.getfield 11, 3) := by decide +kernel
theorem dX0_begin_11 : decode cX0_begin 11 = .ok (.iconst 1, 1) := by decide +kernel
theorem dX0_begin_12 : decode cX0_begin 12 = .ok (.iload_n 2, 1) := by decide +kernel
theorem dX0_begin_13 : decode cX0_begin 13 = .ok (.iastore, 1) := by decide +kernel
theorem dX0_begin_14 : decode cX0_begin 14 = .ok (.aload_n 0, 1) := by decide +kernel
theorem dX0_begin_15 : decode cX0_begin 15 = .ok (.iconst 2, 1) := by decide +kernel
theorem dX0_begin_16 : decode cX0_begin 16 = .ok (.putfield 15, 3) := by decide +kernel
theorem dX0_begin_19 : decode cX0_begin 19 = .ok (.return_, 1) := by decide +kernel
theorem dX0_add_0 : decode cX0_add 0 = .ok (.aload_n 0, 1) := by decide +kernel
theorem dX0_add_1 : decode cX0_add 1 = .ok (.getfield 15, 3) := by decide +kernel
theorem dX0_add_4 : decode cX0_add 4 = .ok (.bipush 24, 2) := by decide +kernel
theorem dX0_add_6 : decode cX0_add 6 = .ok (.if_icmp .ge 27, 3) := by decide +kernel
theorem dX0_add_9 : decode cX0_add 9 = .ok (.aload_n 0, 1) := by decide +kernel
theorem dX0_add_10 : decode cX0_add 10 = .ok (.getfield 11, 3) := by decide +kernel
theorem dX0_add_13 : decode cX0_add 13 = .ok (.aload_n 0, 1) := by decide +kernel
theorem dX0_add_14 : decode cX0_add 14 = .ok (.getfield 15, 3) := by decide +kernel
theorem dX0_add_17 : decode cX0_add 17 = .ok (.iload_n 1, 1) := by decide +kernel
theorem dX0_add_18 : decode cX0_add 18 = .ok (.sipush 255, 3) := by decide +kernel
theorem dX0_add_21 : decode cX0_add 21 = .ok (.iand, 1) := by decide +kernel
theorem dX0_add_22 : decode cX0_add 22 = .ok (.iastore, 1) := by decide +kernel
theorem dX0_add_23 : decode cX0_add 23 = .ok (.aload_n 0, 1) := by decide +kernel
theorem dX0_add_24 : decode cX0_add 24 = .ok (.dup, 1) := by decide +kernel
theorem dX0_add_25 : decode cX0_add 25 = .ok (.getfield 15, 3) := by decide +kernel
theorem dX0_add_28 : decode cX0_add 28 = .ok (.iconst 1, 1) := by decide +kernel
theorem dX0_add_29 : decode cX0_add 29 = .ok (.iadd, 1) := by decide +kernel
theorem dX0_add_30 : decode cX0_add 30 = .ok (.putfield 15, 3) := by decide +kernel
theorem dX0_add_33 : decode cX0_add 33 = .ok (.return_, 1) := by decide +kernel
theorem dX0_addNumber_0 : decode cX0_addNumber 0 = .ok (.aload_n 0, 1) := by decide +kernel
theorem dX0_addNumber_1 : decode cX0_addNumber 1 = .ok (.iload_n 1, 1) := by decide +kernel
theorem dX0_addNumber_2 : decode cX0_addNumber 2 = .ok (.invokevirtual 19, 3) := by decide +kernel
theorem dX0_addNumber_5 : decode cX0_addNumber 5 = .ok (.aload_n 0, 1) := by decide +kernel
theorem dX0_addNumber_6 : decode cX0_addNumber 6 = .ok (.iload_n 2, 1) := by decide +kernel
theorem dX0_addNumber_7 : decode cX0_addNumber 7 = .ok (.invokevirtual 19, 3) := by decide +kernel
theorem dX0_addNumber_10 : decode cX0_addNumber 10 = .ok (.iload_n 2, 1) := by decide +kernel
theorem dX0_addNumber_11 : decode cX0_addNumber 11 = .ok (.iconst 1, 1) := by decide +kernel
theorem dX0_addNumber_12 : decode cX0_addNumber 12 = .ok (.isub, 1) := by decide +kernel
theorem dX0_addNumber_13 : decode cX0_addNumber 13 = .ok (.istore 4, 2) := by decide +kernel
theorem dX0_addNumber_15 : decode cX0_addNumber 15 = .ok (.iload 4, 2) := by decide +kernel
theorem dX0_addNumber_17 : decode cX0_addNumber 17 = .ok (.ifCond .lt 20, 3) := by decide +kernel
theorem dX0_addNumber_20 : decode cX0_addNumber 20 = .ok (.aload_n 0, 1) := by decide +kernel
theorem dX0_addNumber_21 : decode cX0_addNumber 21 = .ok (.iload_n 3, 1) := by decide +kernel
theorem dX0_addNumber_22 : decode cX0_addNumber 22 = .ok (.bipush 8, 2) := by decide +kernel
theorem dX0_addNumber_24 : decode cX0_addNumber 24 = .ok (.iload 4, 2) := by decide +kernel
theorem dX0_addNumber_26 : decode cX0_addNumber 26 = .ok (.imul, 1) := by decide +kernel
theorem dX0_addNumber_27 : decode cX0_addNumber 27 = .ok (.iushr, 1) := by decide +kernel
theorem dX0_addNumber_28 : decode cX0_addNumber 28 = .ok (.invokevirtual 19, 3) := by decide +kernel
theorem dX0_addNumber_31 : decode cX0_addNumber 31 = .ok (.iinc 4 (-1), 3) := by decide +kernel
theorem dX0_addNumber_34 : decode cX0_addNumber 34 = .ok (.goto (-19), 3) := by decide +kernel
theorem dX0_addNumber_37 : decode cX0_addNumber 37 = .ok (.return_, 1) := by decide +kernel
theorem dX0_change_0 : decode cX0_change 0 = .ok (.aload_n 0, 1) := by decide +kernel
theorem dX0_change_1 : decode cX0_change 1 = .ok (.iload_n 1, 1) := by decide +kernel
theorem dX0_change_2 : decode cX0_change 2 = .ok (.invokevirtual 23, 3) := by decide +kernel
theorem dX0_change_5 : decode cX0_change 5 = .ok (.ifCond .eq 13, 3) := by decide +kernel
theorem dX0_change_8 : decode cX0_change 8 = .ok (.aload_n 0, 1) := by decide +kernel
theorem dX0_change_9 : decode cX0_change 9 = .ok (.getfield 11, 3) := by decide +kernel
theorem dX0_change_12 : decode cX0_change 12 = .ok (.iload_n 1, 1) := by decide +kernel
theorem dX0_change_13 : decode cX0_change 13 = .ok (.dup2, 1) := by decide +kernel
theorem dX0_change_14 : decode cX0_change 14 = .ok (.iaload, 1) := by decide +kernel
theorem dX0_change_15 : decode cX0_change 15 = .ok (.iload_n 2, 1) := by decide +kernel
theorem dX0_change_16 : decode cX0_change 16 = .ok (.ixor, 1) := by decide +kernel
theorem dX0_change_17 : decode cX0_change 17 = .ok (.iastore, 1) := by decide +kernel
theorem dX0_change_18 : decode cX0_change 18 = .ok (.return_, 1) := by decide +kernel
theorem dX0_byteAt_0 : decode cX0_byteAt 0 = .ok (.aload_n 0, 1) := by decide +kernel
theorem dX0_byteAt_1 : decode cX0_byteAt 1 = .ok (.iload_n 1, 1) := by decide +kernel
theorem dX0_byteAt_2 : decode cX0_byteAt 2 = .ok (.invokevirtual 23, 3) := by decide +kernel
theorem dX0_byteAt_5 : decode cX0_byteAt 5 = .ok (.ifCond .eq 12, 3) := by decide +kernel
theorem dX0_byteAt_8 : decode cX0_byteAt 8 = .ok (.aload_n 0, 1) := by decide +kernel
theorem dX0_byteAt_9 : decode cX0_byteAt 9 = .ok (.getfield 11, 3) := by decide +kernel
theorem dX0_byteAt_12 : decode cX0_byteAt 12 = .ok (.iload_n 1, 1) := by decide +kernel
theorem dX0_byteAt_13 : decode cX0_byteAt 13 = .ok (.iaload, 1) := by decide +kernel
theorem dX0_byteAt_14 : decode cX0_byteAt 14 = .ok (.goto 5, 3) := by decide +kernel
theorem dX0_byteAt_17 : decode cX0_byteAt 17 = .ok (.bipush (-3), 2) := by decide +kernel
theorem dX0_byteAt_19 : decode cX0_byteAt 19 = .ok (.ireturn, 1) := by decide +kernel
theorem dX0_protocol_0 : decode cX0_protocol 0 = .ok (.aload_n 0, 1) := by decide +kernel
theorem dX0_protocol_1 : decode cX0_protocol 1 = .ok (.getfield 11, 3) := by decide +kernel
theorem dX0_protocol_4 : decode cX0_protocol 4 = .ok (.iconst 0, 1) := by decide +kernel
theorem dX0_protocol_5 : decode cX0_protocol 5 = .ok (.iaload, 1) := by decide +kernel
theorem dX0_protocol_6 : decode cX0_protocol 6 = .ok (.ireturn, 1) := by decide +kernel
theorem dX0_type_0 : decode cX0_type 0 = .ok (.aload_n 0, 1) := by decide +kernel
theorem dX0_type_1 : decode cX0_type 1 = .ok (.getfield 11, 3) := by decide +kernel
theorem dX0_type_4 : decode cX0_type 4 = .ok (.iconst 1, 1) := by decide +kernel
theorem dX0_type_5 : decode cX0_type 5 = .ok (.iaload, 1) := by decide +kernel
theorem dX0_type_6 : decode cX0_type 6 = .ok (.ireturn, 1) := by decide +kernel
theorem dX0_isGood_0 : decode cX0_isGood 0 = .ok (.iconst 2, 1) := by decide +kernel
theorem dX0_isGood_1 : decode cX0_isGood 1 = .ok (.istore_n 1, 1) := by decide +kernel
theorem dX0_isGood_2 : decode cX0_isGood 2 = .ok (.iconst 0, 1) := by decide +kernel
theorem dX0_isGood_3 : decode cX0_isGood 3 = .ok (.istore_n 2, 1) := by decide +kernel
theorem dX0_isGood_4 : decode cX0_isGood 4 = .ok (.iload_n 2, 1) := by decide +kernel
theorem dX0_isGood_5 : decode cX0_isGood 5 = .ok (.bipush 24, 2) := by decide +kernel
theorem dX0_isGood_7 : decode cX0_isGood 7 = .ok (.if_icmp .ge 32, 3) := by decide +kernel
theorem dX0_isGood_10 : decode cX0_isGood 10 = .ok (.iload_n 1, 1) := by decide +kernel
theorem dX0_isGood_11 : decode cX0_isGood 11 = .ok (.iconst 1, 1) := by decide +kernel
theorem dX0_isGood_12 : decode cX0_isGood 12 = .ok (.iadd, 1) := by decide +kernel
theorem dX0_isGood_13 : decode cX0_isGood 13 = .ok (.aload_n 0, 1) := by decide +kernel
theorem dX0_isGood_14 : decode cX0_isGood 14 = .ok (.getfield 15, 3) := by decide +kernel
theorem dX0_isGood_17 : decode cX0_isGood 17 = .ok (.if_icmp .ge 22, 3) := by decide +kernel
theorem dX0_isGood_20 : decode cX0_isGood 20 = .ok (.iload_n 1, 1) := by decide +kernel
theorem dX0_isGood_21 : decode cX0_isGood 21 = .ok (.iconst 2, 1) := by decide +kernel
theorem dX0_isGood_22 : decode cX0_isGood 22 = .ok (.aload_n 0, 1) := by decide +kernel
theorem dX0_isGood_23 : decode cX0_isGood 23 = .ok (.getfield 11, 3) := by decide +kernel
theorem dX0_isGood_26 : decode cX0_isGood 26 = .ok (.iload_n 1, 1) := by decide +kernel
theorem dX0_isGood_27 : decode cX0_isGood 27 = .ok (.iconst 1, 1) := by decide +kernel
theorem dX0_isGood_28 : decode cX0_isGood 28 = .ok (.iadd, 1) := by decide +kernel
theorem dX0_isGood_29 : decode cX0_isGood 29 = .ok (.iaload, 1) := by decide +kernel
theorem dX0_isGood_30 : decode cX0_isGood 30 = .ok (.iadd, 1) := by decide +kernel
theorem dX0_isGood_31 : decode cX0_isGood 31 = .ok (.iadd, 1) := by decide +kernel
theorem dX0_isGood_32 : decode cX0_isGood 32 = .ok (.istore_n 1, 1) := by decide +kernel
theorem dX0_isGood_33 : decode cX0_isGood 33 = .ok (.iinc 2 1, 3) := by decide +kernel
theorem dX0_isGood_36 : decode cX0_isGood 36 = .ok (.goto (-32), 3) := by decide +kernel
theorem dX0_isGood_39 : decode cX0_isGood 39 = .ok (.iload_n 1, 1) := by decide +kernel
theorem dX0_isGood_40 : decode cX0_isGood 40 = .ok (.aload_n 0, 1) := by decide +kernel
theorem dX0_isGood_41 : decode cX0_isGood 41 = .ok (.getfield 15, 3) := by decide +kernel
theorem dX0_isGood_44 : decode cX0_isGood 44 = .ok (.if_icmp .ne 7, 3) := by decide +kernel
theorem dX0_isGood_47 : decode cX0_isGood 47 = .ok (.iconst 1, 1) := by decide +kernel
theorem dX0_isGood_48 : decode cX0_isGood 48 = .ok (.goto 4, 3) := by decide +kernel
theorem dX0_isGood_51 : decode cX0_isGood 51 = .ok (.iconst 0, 1) := by decide +kernel
theorem dX0_isGood_52 : decode cX0_isGood 52 = .ok (.ireturn, 1) := by decide +kernel
theorem dX0_has_0 : decode cX0_has 0 = .ok (.aload_n 0, 1) := by decide +kernel
theorem dX0_has_1 : decode cX0_has 1 = .ok (.iload_n 1, 1) := by decide +kernel
theorem dX0_has_2 : decode cX0_has 2 = .ok (.invokevirtual 27, 3) := by decide +kernel
theorem dX0_has_5 : decode cX0_has 5 = .ok (.iload_n 2, 1) := by decide +kernel
theorem dX0_has_6 : decode cX0_has 6 = .ok (.if_icmp .ne 7, 3) := by decide +kernel
theorem dX0_has_9 : decode cX0_has 9 = .ok (.iconst 1, 1) := by decide +kernel
theorem dX0_has_10 : decode cX0_has 10 = .ok (.goto 4, 3) := by decide +kernel
theorem dX0_has_13 : decode cX0_has 13 = .ok (.iconst 0, 1) := by decide +kernel
theorem dX0_has_14 : decode cX0_has 14 = .ok (.ireturn, 1) := by decide +kernel
theorem dX0_sizeOf_0 : decode cX0_sizeOf 0 = .ok (.aload_n 0, 1) := by decide +kernel
theorem dX0_sizeOf_1 : decode cX0_sizeOf 1 = .ok (.iload_n 1, 1) := by decide +kernel
theorem dX0_sizeOf_2 : decode cX0_sizeOf 2 = .ok (.invokevirtual 31, 3) := by decide +kernel
theorem dX0_sizeOf_5 : decode cX0_sizeOf 5 = .ok (.istore_n 2, 1) := by decide +kernel
theorem dX0_sizeOf_6 : decode cX0_sizeOf 6 = .ok (.iload_n 2, 1) := by decide +kernel
theorem dX0_sizeOf_7 : decode cX0_sizeOf 7 = .ok (.bipush (-3), 2) := by decide +kernel
theorem dX0_sizeOf_9 : decode cX0_sizeOf 9 = .ok (.if_icmp .ne 8, 3) := by decide +kernel
theorem dX0_sizeOf_12 : decode cX0_sizeOf 12 = .ok (.bipush (-3), 2) := by decide +kernel
theorem dX0_sizeOf_14 : decode cX0_sizeOf 14 = .ok (.goto 11, 3) := by decide +kernel
theorem dX0_sizeOf_17 : decode cX0_sizeOf 17 = .ok (.aload_n 0, 1) := by decide +kernel
theorem dX0_sizeOf_18 : decode cX0_sizeOf 18 = .ok (.getfield 11, 3) := by decide +kernel
theorem dX0_sizeOf_21 : decode cX0_sizeOf 21 = .ok (.iload_n 2, 1) := by decide +kernel
theorem dX0_sizeOf_22 : decode cX0_sizeOf 22 = .ok (.iconst 1, 1) := by decide +kernel
theorem dX0_sizeOf_23 : decode cX0_sizeOf 23 = .ok (.iadd, 1) := by decide +kernel
theorem dX0_sizeOf_24 : decode cX0_sizeOf 24 = .ok (.iaload, 1) := by decide +kernel
theorem dX0_sizeOf_25 : decode cX0_sizeOf 25 = .ok (.ireturn, 1) := by decide +kernel
theorem dX0_elementByte_0 : decode cX0_elementByte 0 = .ok (.aload_n 0, 1) := by decide +kernel
theorem dX0_elementByte_1 : decode cX0_elementByte 1 = .ok (.iload_n 1, 1) := by decide +kernel
theorem dX0_elementByte_2 : decode cX0_elementByte 2 = .ok (.invokevirtual 31, 3) := by decide +kernel
theorem dX0_elementByte_5 : decode cX0_elementByte 5 = .ok (.istore_n 3, 1) := by decide +kernel
theorem dX0_elementByte_6 : decode cX0_elementByte 6 = .ok (.iload_n 3, 1) := by decide +kernel
theorem dX0_elementByte_7 : decode cX0_elementByte 7 = .ok (.bipush (-3), 2) := by decide +kernel
theorem dX0_elementByte_9 : decode cX0_elementByte 9 = .ok (.if_icmp .ne 8, 3) := by decide +kernel
theorem dX0_elementByte_12 : decode cX0_elementByte 12 = .ok (.bipush (-3), 2) := by decide +kernel
theorem dX0_elementByte_14 : decode cX0_elementByte 14 = .ok (.goto 12, 3) := by decide +kernel
theorem dX0_elementByte_17 : decode cX0_elementByte 17 = .ok (.aload_n 0, 1) := by decide +kernel
theorem dX0_elementByte_18 : decode cX0_elementByte 18 = .ok (.iload_n 3, 1) := by decide +kernel
theorem dX0_elementByte_19 : decode cX0_elementByte 19 = .ok (.iconst 2, 1) := by decide +kernel
theorem dX0_elementByte_20 : decode cX0_elementByte 20 = .ok (.iadd, 1) := by decide +kernel
theorem dX0_elementByte_21 : decode cX0_elementByte 21 = .ok (.iload_n 2, 1) := by decide +kernel
theorem dX0_elementByte_22 : decode cX0_elementByte 22 = .ok (.iadd, 1) := by decide +kernel
theorem dX0_elementByte_23 : decode cX0_elementByte 23 = .ok (.invokevirtual 34, 3) := by decide +kernel
theorem dX0_elementByte_26 : decode cX0_elementByte 26 = .ok (.ireturn, 1) := by decide +kernel
theorem dX0_number_0 : decode cX0_number 0 = .ok (.aload_n 0, 1) := by decide +kernel
theorem dX0_number_1 : decode cX0_number 1 = .ok (.iload_n 1, 1) := by decide +kernel
theorem dX0_number_2 : decode cX0_number 2 = .ok (.invokevirtual 31, 3) := by decide +kernel
theorem dX0_number_5 : decode cX0_number 5 = .ok (.istore_n 3, 1) := by decide +kernel
theorem dX0_number_6 : decode cX0_number 6 = .ok (.iload_n 3, 1) := by decide +kernel
theorem dX0_number_7 : decode cX0_number 7 = .ok (.bipush (-3), 2) := by decide +kernel
theorem dX0_number_9 : decode cX0_number 9 = .ok (.if_icmp .eq 15, 3) := by decide +kernel
theorem dX0_number_12 : decode cX0_number 12 = .ok (.iload_n 3, 1) := by decide +kernel
theorem dX0_number_13 : decode cX0_number 13 = .ok (.iconst 2, 1) := by decide +kernel
theorem dX0_number_14 : decode cX0_number 14 = .ok (.iadd, 1) := by decide +kernel
theorem dX0_number_15 : decode cX0_number 15 = .ok (.iload_n 2, 1) := by decide +kernel
theorem dX0_number_16 : decode cX0_number 16 = .ok (.iadd, 1) := by decide +kernel
theorem dX0_number_17 : decode cX0_number 17 = .ok (.aload_n 0, 1) := by decide +kernel
theorem dX0_number_18 : decode cX0_number 18 = .ok (.getfield 15, 3) := by decide +kernel
theorem dX0_number_21 : decode cX0_number 21 = .ok (.if_icmp .le 5, 3) := by decide +kernel
theorem dX0_number_24 : decode cX0_number 24 = .ok (.iconst 0, 1) := by decide +kernel
theorem dX0_number_25 : decode cX0_number 25 = .ok (.ireturn, 1) := by decide +kernel
theorem dX0_number_26 : decode cX0_number 26 = .ok (.iconst 0, 1) := by decide +kernel
theorem dX0_number_27 : decode cX0_number 27 = .ok (.istore 4, 2) := by decide +kernel
theorem dX0_number_29 : decode cX0_number 29 = .ok (.iconst 0, 1) := by decide +kernel
theorem dX0_number_30 : decode cX0_number 30 = .ok (.istore 5, 2) := by decide +kernel
theorem dX0_number_32 : decode cX0_number 32 = .ok (.iload 5, 2) := by decide +kernel
theorem dX0_number_34 : decode cX0_number 34 = .ok (.iload_n 2, 1) := by decide +kernel
theorem dX0_number_35 : decode cX0_number 35 = .ok (.if_icmp .ge 28, 3) := by decide +kernel
theorem dX0_number_38 : decode cX0_number 38 = .ok (.iload 4, 2) := by decide +kernel
theorem dX0_number_40 : decode cX0_number 40 = .ok (.bipush 8, 2) := by decide +kernel
theorem dX0_number_42 : decode cX0_number 42 = .ok (.ishl, 1) := by decide +kernel
theorem dX0_number_43 : decode cX0_number 43 = .ok (.aload_n 0, 1) := by decide +kernel
theorem dX0_number_44 : decode cX0_number 44 = .ok (.getfield 11, 3) := by decide +kernel
theorem dX0_number_47 : decode cX0_number 47 = .ok (.iload_n 3, 1) := by decide +kernel
theorem dX0_number_48 : decode cX0_number 48 = .ok (.iconst 2, 1) := by decide +kernel
theorem dX0_number_49 : decode cX0_number 49 = .ok (.iadd, 1) := by decide +kernel
theorem dX0_number_50 : decode cX0_number 50 = .ok (.iload 5, 2) := by decide +kernel
theorem dX0_number_52 : decode cX0_number 52 = .ok (.iadd, 1) := by decide +kernel
theorem dX0_number_53 : decode cX0_number 53 = .ok (.iaload, 1) := by decide +kernel
theorem dX0_number_54 : decode cX0_number 54 = .ok (.ior, 1) := by decide +kernel
theorem dX0_number_55 : decode cX0_number 55 = .ok (.istore 4, 2) := by decide +kernel
theorem dX0_number_57 : decode cX0_number 57 = .ok (.iinc 5 1, 3) := by decide +kernel
theorem dX0_number_60 : decode cX0_number 60 = .ok (.goto (-28), 3) := by decide +kernel
theorem dX0_number_63 : decode cX0_number 63 = .ok (.iload 4, 2) := by decide +kernel
theorem dX0_number_65 : decode cX0_number 65 = .ok (.ireturn, 1) := by decide +kernel
theorem dX0_find_0 : decode cX0_find 0 = .ok (.iconst 2, 1) := by decide +kernel
theorem dX0_find_1 : decode cX0_find 1 = .ok (.istore_n 2, 1) := by decide +kernel
theorem dX0_find_2 : decode cX0_find 2 = .ok (.iconst 0, 1) := by decide +kernel
theorem dX0_find_3 : decode cX0_find 3 = .ok (.istore_n 3, 1) := by decide +kernel
theorem dX0_find_4 : decode cX0_find 4 = .ok (.iload_n 3, 1) := by decide +kernel
theorem dX0_find_5 : decode cX0_find 5 = .ok (.bipush 24, 2) := by decide +kernel
theorem dX0_find_7 : decode cX0_find 7 = .ok (.if_icmp .ge 44, 3) := by decide +kernel
theorem dX0_find_10 : decode cX0_find 10 = .ok (.iload_n 2, 1) := by decide +kernel
theorem dX0_find_11 : decode cX0_find 11 = .ok (.iconst 1, 1) := by decide +kernel
theorem dX0_find_12 : decode cX0_find 12 = .ok (.iadd, 1) := by decide +kernel
theorem dX0_find_13 : decode cX0_find 13 = .ok (.aload_n 0, 1) := by decide +kernel
theorem dX0_find_14 : decode cX0_find 14 = .ok (.getfield 15, 3) := by decide +kernel
theorem dX0_find_17 : decode cX0_find 17 = .ok (.if_icmp .ge 34, 3) := by decide +kernel
theorem dX0_find_20 : decode cX0_find 20 = .ok (.aload_n 0, 1) := by decide +kernel
theorem dX0_find_21 : decode cX0_find 21 = .ok (.getfield 11, 3) := by decide +kernel
theorem dX0_find_24 : decode cX0_find 24 = .ok (.iload_n 2, 1) := by decide +kernel
theorem dX0_find_25 : decode cX0_find 25 = .ok (.iaload, 1) := by decide +kernel
theorem dX0_find_26 : decode cX0_find 26 = .ok (.iload_n 1, 1) := by decide +kernel
theorem dX0_find_27 : decode cX0_find 27 = .ok (.if_icmp .ne 5, 3) := by decide +kernel
theorem dX0_find_30 : decode cX0_find 30 = .ok (.iload_n 2, 1) := by decide +kernel
theorem dX0_find_31 : decode cX0_find 31 = .ok (.ireturn, 1) := by decide +kernel
theorem dX0_find_32 : decode cX0_find 32 = .ok (.iload_n 2, 1) := by decide +kernel
theorem dX0_find_33 : decode cX0_find 33 = .ok (.iconst 2, 1) := by decide +kernel
theorem dX0_find_34 : decode cX0_find 34 = .ok (.aload_n 0, 1) := by decide +kernel
theorem dX0_find_35 : decode cX0_find 35 = .ok (.getfield 11, 3) := by decide +kernel
theorem dX0_find_38 : decode cX0_find 38 = .ok (.iload_n 2, 1) := by decide +kernel
theorem dX0_find_39 : decode cX0_find 39 = .ok (.iconst 1, 1) := by decide +kernel
theorem dX0_find_40 : decode cX0_find 40 = .ok (.iadd, 1) := by decide +kernel
theorem dX0_find_41 : decode cX0_find 41 = .ok (.iaload, 1) := by decide +kernel
theorem dX0_find_42 : decode cX0_find 42 = .ok (.iadd, 1) := by decide +kernel
theorem dX0_find_43 : decode cX0_find 43 = .ok (.iadd, 1) := by decide +kernel
theorem dX0_find_44 : decode cX0_find 44 = .ok (.istore_n 2, 1) := by decide +kernel
theorem dX0_find_45 : decode cX0_find 45 = .ok (.iinc 3 1, 3) := by decide +kernel
theorem dX0_find_48 : decode cX0_find 48 = .ok (.goto (-44), 3) := by decide +kernel
theorem dX0_find_51 : decode cX0_find 51 = .ok (.bipush (-3), 2) := by decide +kernel
theorem dX0_find_53 : decode cX0_find 53 = .ok (.ireturn, 1) := by decide +kernel
theorem dX0_hasByte_0 : decode cX0_hasByte 0 = .ok (.iload_n 1, 1) := by decide +kernel
theorem dX0_hasByte_1 : decode cX0_hasByte 1 = .ok (.ifCond .lt 15, 3) := by decide +kernel
theorem dX0_hasByte_4 : decode cX0_hasByte 4 = .ok (.iload_n 1, 1) := by decide +kernel
theorem dX0_hasByte_5 : decode cX0_hasByte 5 = .ok (.aload_n 0, 1) := by decide +kernel
theorem dX0_hasByte_6 : decode cX0_hasByte 6 = .ok (.getfield 15, 3) := by decide +kernel
theorem dX0_hasByte_9 : decode cX0_hasByte 9 = .ok (.if_icmp .ge 7, 3) := by decide +kernel
theorem dX0_hasByte_12 : decode cX0_hasByte 12 = .ok (.iconst 1, 1) := by decide +kernel
theorem dX0_hasByte_13 : decode cX0_hasByte 13 = .ok (.goto 4, 3) := by decide +kernel
theorem dX0_hasByte_16 : decode cX0_hasByte 16 = .ok (.iconst 0, 1) := by decide +kernel
theorem dX0_hasByte_17 : decode cX0_hasByte 17 = .ok (.ireturn, 1) := by decide +kernel
theorem dX1_init_0 : decode cX1_init 0 = .ok (.aload_n 0, 1) := by decide +kernel
theorem dX1_init_1 : decode cX1_init 1 = .ok (.iconst 0, 1) := by decide +kernel
theorem dX1_init_2 : decode cX1_init 2 = .ok (.iconst 3, 1) := by decide +kernel
theorem dX1_init_3 : decode cX1_init 3 = .ok (.invokespecial 5, 3) := by decide +kernel
theorem dX1_init_6 : decode cX1_init 6 = .ok (.aload_n 0, 1) := by decide +kernel
theorem dX1_init_7 : decode cX1_init 7 = .ok (.iload_n 1, 1) := by decide +kernel
theorem dX1_init_8 : decode cX1_init 8 = .ok (.putfield 11, 3) := by decide +kernel
theorem dX1_init_11 : decode cX1_init 11 = .ok (.aload_n 0, 1) := by decide +kernel
theorem dX1_init_12 : decode cX1_init 12 = .ok (.iconst 0, 1) := by decide +kernel
theorem dX1_init_13 : decode cX1_init 13 = .ok (.putfield 15, 3) := by decide +kernel
theorem dX1_init_16 : decode cX1_init 16 = .ok (.aload_n 0, 1) := by decide +kernel
theorem dX1_init_17 : decode cX1_init 17 = .ok (.bipush 8, 2) := by decide +kernel
theorem dX1_init_19 : decode cX1_init 19 = .ok (.newarray .int, 2) := by decide +kernel
theorem dX1_init_21 : decode cX1_init 21 = .ok (.putfield 18, 3) := by decide +kernel
theorem dX1_init_24 : decode cX1_init 24 = .ok (.aload_n 0, 1) := by decide +kernel
theorem dX1_init_25 : decode cX1_init 25 = .ok (.iconst 0, 1) := by decide +kernel
theorem dX1_init_26 : decode cX1_init 26 = .ok (.putfield 22, 3) := by decide +kernel
theorem dX1_init_29 : decode cX1_init 29 = .ok (.return_, 1) := by decide +kernel
theorem dX1_isOn_0 : decode cX1_isOn 0 = .ok (.aload_n 0, 1) := by decide +kernel
theorem dX1_isOn_1 : decode cX1_isOn 1 = .ok (.getfield 25, 3) := by decide +kernel
theorem dX1_isOn_4 : decode cX1_isOn 4 = .ok (.ifCond .eq 7, 3) := by decide +kernel
theorem dX1_isOn_7 : decode cX1_isOn 7 = .ok (.iconst 1, 1) := by decide +kernel
theorem dX1_isOn_8 : decode cX1_isOn 8 = .ok (.goto 4, 3) := by decide +kernel
theorem dX1_isOn_11 : decode cX1_isOn 11 = .ok (.iconst 0, 1) := by decide +kernel
theorem dX1_isOn_12 : decode cX1_isOn 12 = .ok (.ireturn, 1) := by decide +kernel
theorem dX1_switchOn_0 : decode cX1_switchOn 0 = .ok (.aload_n 0, 1) := by decide +kernel
theorem dX1_switchOn_1 : decode cX1_switchOn 1 = .ok (.iconst 0, 1) := by decide +kernel
theorem dX1_switchOn_2 : decode cX1_switchOn 2 = .ok (.putfield 15, 3) := by decide +kernel
theorem dX1_switchOn_5 : decode cX1_switchOn 5 = .ok (.aload_n 0, 1) := by decide +kernel
theorem dX1_switchOn_6 : decode cX1_switchOn 6 = .ok (.iconst 1, 1) := by decide +kernel
theorem dX1_switchOn_7 : decode cX1_switchOn 7 = .ok (.iconst 0, 1) := by decide +kernel
theorem dX1_switchOn_8 : decode cX1_switchOn 8 = .ok (.invokevirtual 28, 3) := by decide +kernel
theorem dX1_switchOn_11 : decode cX1_switchOn 11 = .ok (.return_, 1) := by decide +kernel
theorem dX1_switchOff_0 : decode cX1_switchOff 0 = .ok (.aload_n 0, 1) := by decide +kernel
theorem dX1_switchOff_1 : decode cX1_switchOff 1 = .ok (.getfield 31, 3) := by decide +kernel
theorem dX1_switchOff_4 : decode cX1_switchOff 4 = .ok (.iconst 5, 1) := by decide +kernel
theorem dX1_switchOff_5 : decode cX1_switchOff 5 = .ok (.iconst 1, 1) := by decide +kernel
theorem dX1_switchOff_6 : decode cX1_switchOff 6 = .ok (.invokevirtual 35, 3) := by decide +kernel
theorem dX1_switchOff_9 : decode cX1_switchOff 9 = .ok (.pop, 1) := by decide +kernel
theorem dX1_switchOff_10 : decode cX1_switchOff 10 = .ok (.aload_n 0, 1) := by decide +kernel
theorem dX1_switchOff_11 : decode cX1_switchOff 11 = .ok (.iconst 0, 1) := by decide +kernel
theorem dX1_switchOff_12 : decode cX1_switchOff 12 = .ok (.iconst 0, 1) := by decide +kernel
theorem dX1_switchOff_13 : decode cX1_switchOff 13 = .ok (.invokevirtual 28, 3) := by decide +kernel
theorem dX1_switchOff_16 : decode cX1_switchOff 16 = .ok (.return_, 1) := by decide +kernel
theorem dX1_startUpdating_0 : decode cX1_startUpdating 0 = .ok (.aload_n 0, 1) := by decide +kernel
theorem dX1_startUpdating_1 : decode cX1_startUpdating 1 = .ok (.getfield 25, 3) := by decide +kernel
theorem dX1_startUpdating_4 : decode cX1_startUpdating 4 = .ok (.iconst 1, 1) := by decide +kernel
theorem dX1_startUpdating_5 : decode cX1_startUpdating 5 = .ok (.if_icmp .eq 13, 3) := by decide +kernel
theorem dX1_startUpdating_8 : decode cX1_startUpdating 8 = .ok (.aload_n 0, 1) := by decide +kernel
theorem dX1_startUpdating_9 : decode cX1_startUpdating 9 = .ok (.getfield 25, 3) := by decide +kernel
theorem dX1_startUpdating_12 : decode cX1_startUpdating 12 = .ok (.iconst 3, 1) := by decide +kernel
theorem dX1_startUpdating_13 : decode cX1_startUpdating 13 = .ok (.if_icmp .eq 5, 3) := by decide +kernel
theorem dX1_startUpdating_16 : decode cX1_startUpdating 16 = .ok (.iconst 0, 1) := by decide +kernel
theorem dX1_startUpdating_17 : decode cX1_startUpdating 17 = .ok (.ireturn, 1) := by decide +kernel
theorem dX1_startUpdating_18 : decode cX1_startUpdating 18 = .ok (.aload_n 0, 1) := by decide +kernel
theorem dX1_startUpdating_19 : decode cX1_startUpdating 19 = .ok (.getfield 31, 3) := by decide +kernel
theorem dX1_startUpdating_22 : decode cX1_startUpdating 22 = .ok (.iconst 5, 1) := by decide +kernel
theorem dX1_startUpdating_23 : decode cX1_startUpdating 23 = .ok (.bipush 8, 2) := by decide +kernel
theorem dX1_startUpdating_25 : decode cX1_startUpdating 25 = .ok (.invokevirtual 35, 3) := by decide +kernel
theorem dX1_startUpdating_28 : decode cX1_startUpdating 28 = .ok (.bipush 19, 2) := by decide +kernel
theorem dX1_startUpdating_30 : decode cX1_startUpdating 30 = .ok (.iconst 2, 1) := by decide +kernel
theorem dX1_startUpdating_31 : decode cX1_startUpdating 31 = .ok (.iload_n 1, 1) := by decide +kernel
theorem dX1_startUpdating_32 : decode cX1_startUpdating 32 = .ok (.invokevirtual 41, 3) := by decide +kernel
theorem dX1_startUpdating_35 : decode cX1_startUpdating 35 = .ok (.aload_n 0, 1) := by decide +kernel
theorem dX1_startUpdating_36 : decode cX1_startUpdating 36 = .ok (.iconst 2, 1) := by decide +kernel
theorem dX1_startUpdating_37 : decode cX1_startUpdating 37 = .ok (.bipush 20, 2) := by decide +kernel
theorem dX1_startUpdating_39 : decode cX1_startUpdating 39 = .ok (.invokevirtual 28, 3) := by decide +kernel
theorem dX1_startUpdating_42 : decode cX1_startUpdating 42 = .ok (.iconst 1, 1) := by decide +kernel
theorem dX1_startUpdating_43 : decode cX1_startUpdating 43 = .ok (.ireturn, 1) := by decide +kernel
theorem dX1_startAsking_0 : decode cX1_startAsking 0 = .ok (.aload_n 0, 1) := by decide +kernel
theorem dX1_startAsking_1 : decode cX1_startAsking 1 = .ok (.getfield 25, 3) := by decide +kernel
theorem dX1_startAsking_4 : decode cX1_startAsking 4 = .ok (.iconst 3, 1) := by decide +kernel
theorem dX1_startAsking_5 : decode cX1_startAsking 5 = .ok (.if_icmp .eq 5, 3) := by decide +kernel
theorem dX1_startAsking_8 : decode cX1_startAsking 8 = .ok (.iconst 0, 1) := by decide +kernel
theorem dX1_startAsking_9 : decode cX1_startAsking 9 = .ok (.ireturn, 1) := by decide +kernel
theorem dX1_startAsking_10 : decode cX1_startAsking 10 = .ok (.aload_n 0, 1) := by decide +kernel
theorem dX1_startAsking_11 : decode cX1_startAsking 11 = .ok (.iload_n 1, 1) := by decide +kernel
theorem dX1_startAsking_12 : decode cX1_startAsking 12 = .ok (.iload_n 2, 1) := by decide +kernel
theorem dX1_startAsking_13 : decode cX1_startAsking 13 = .ok (.invokevirtual 47, 3) := by decide +kernel
theorem dX1_startAsking_16 : decode cX1_startAsking 16 = .ok (.aload_n 0, 1) := by decide +kernel
theorem dX1_startAsking_17 : decode cX1_startAsking 17 = .ok (.getfield 31, 3) := by decide +kernel
theorem dX1_startAsking_20 : decode cX1_startAsking 20 = .ok (.iconst 5, 1) := by decide +kernel
theorem dX1_startAsking_21 : decode cX1_startAsking 21 = .ok (.bipush 36, 2) := by decide +kernel
theorem dX1_startAsking_23 : decode cX1_startAsking 23 = .ok (.invokevirtual 35, 3) := by decide +kernel
theorem dX1_startAsking_26 : decode cX1_startAsking 26 = .ok (.pop, 1) := by decide +kernel
theorem dX1_startAsking_27 : decode cX1_startAsking 27 = .ok (.aload_n 0, 1) := by decide +kernel
theorem dX1_startAsking_28 : decode cX1_startAsking 28 = .ok (.iconst 4, 1) := by decide +kernel
theorem dX1_startAsking_29 : decode cX1_startAsking 29 = .ok (.bipush 15, 2) := by decide +kernel
theorem dX1_startAsking_31 : decode cX1_startAsking 31 = .ok (.invokevirtual 28, 3) := by decide +kernel
theorem dX1_startAsking_34 : decode cX1_startAsking 34 = .ok (.iconst 1, 1) := by decide +kernel
theorem dX1_startAsking_35 : decode cX1_startAsking 35 = .ok (.ireturn, 1) := by decide +kernel
theorem dX1_dropRadio_0 : decode cX1_dropRadio 0 = .ok (.aload_n 0, 1) := by decide +kernel
theorem dX1_dropRadio_1 : decode cX1_dropRadio 1 = .ok (.getfield 25, 3) := by decide +kernel
theorem dX1_dropRadio_4 : decode cX1_dropRadio 4 = .ok (.iconst 2, 1) := by decide +kernel
theorem dX1_dropRadio_5 : decode cX1_dropRadio 5 = .ok (.if_icmp .ne 12, 3) := by decide +kernel
theorem dX1_dropRadio_8 : decode cX1_dropRadio 8 = .ok (.aload_n 0, 1) := by decide +kernel
theorem dX1_dropRadio_9 : decode cX1_dropRadio 9 = .ok (.iconst 1, 1) := by decide +kernel
theorem dX1_dropRadio_10 : decode cX1_dropRadio 10 = .ok (.iconst 0, 1) := by decide +kernel
theorem dX1_dropRadio_11 : decode cX1_dropRadio 11 = .ok (.invokevirtual 28, 3) := by decide +kernel
theorem dX1_dropRadio_14 : decode cX1_dropRadio 14 = .ok (.goto 23, 3) := by decide +kernel
theorem dX1_dropRadio_17 : decode cX1_dropRadio 17 = .ok (.aload_n 0, 1) := by decide +kernel
theorem dX1_dropRadio_18 : decode cX1_dropRadio 18 = .ok (.getfield 25, 3) := by decide +kernel
theorem dX1_dropRadio_21 : decode cX1_dropRadio 21 = .ok (.iconst 4, 1) := by decide +kernel
theorem dX1_dropRadio_22 : decode cX1_dropRadio 22 = .ok (.if_icmp .eq 11, 3) := by decide +kernel
theorem dX1_dropRadio_25 : decode cX1_dropRadio 25 = .ok (.aload_n 0, 1) := by decide +kernel
theorem dX1_dropRadio_26 : decode cX1_dropRadio 26 = .ok (.getfield 25, 3) := by decide +kernel
theorem dX1_dropRadio_29 : decode cX1_dropRadio 29 = .ok (.iconst 5, 1) := by decide +kernel
theorem dX1_dropRadio_30 : decode cX1_dropRadio 30 = .ok (.if_icmp .ne 7, 3) := by decide +kernel
theorem dX1_dropRadio_33 : decode cX1_dropRadio 33 = .ok (.aload_n 0, 1) := by decide +kernel
theorem dX1_dropRadio_34 : decode cX1_dropRadio 34 = .ok (.invokevirtual 50, 3) := by decide +kernel
theorem dX1_dropRadio_37 : decode cX1_dropRadio 37 = .ok (.return_, 1) := by decide +kernel
theorem dX1_takesManaging_0 : decode cX1_takesManaging 0 = .ok (.aload_n 1, 1) := by decide +kernel
theorem dX1_takesManaging_1 : decode cX1_takesManaging 1 = .ok (.invokevirtual 54, 3) := by decide +kernel
theorem dX1_takesManaging_4 : decode cX1_takesManaging 4 = .ok (.lookupswitch 98 #[(2, 60), (4, 66), (17, 80), (18, 74), (33, 85), (34, 90)], 60) := by decide +kernel
theorem dX1_takesManaging_64 : decode cX1_takesManaging 64 = .ok (.aload_n 0, 1) := by decide +kernel
theorem dX1_takesManaging_65 : decode cX1_takesManaging 65 = .ok (.aload_n 1, 1) := by decide +kernel
theorem dX1_takesManaging_66 : decode cX1_takesManaging 66 = .ok (.invokevirtual 58, 3) := by decide +kernel
theorem dX1_takesManaging_69 : decode cX1_takesManaging 69 = .ok (.ireturn, 1) := by decide +kernel
theorem dX1_takesManaging_70 : decode cX1_takesManaging 70 = .ok (.aload_n 0, 1) := by decide +kernel
theorem dX1_takesManaging_71 : decode cX1_takesManaging 71 = .ok (.aload_n 1, 1) := by decide +kernel
theorem dX1_takesManaging_72 : decode cX1_takesManaging 72 = .ok (.iconst 2, 1) := by decide +kernel
theorem dX1_takesManaging_73 : decode cX1_takesManaging 73 = .ok (.iconst 1, 1) := by decide +kernel
theorem dX1_takesManaging_74 : decode cX1_takesManaging 74 = .ok (.invokevirtual 62, 3) := by decide +kernel
theorem dX1_takesManaging_77 : decode cX1_takesManaging 77 = .ok (.ireturn, 1) := by decide +kernel
theorem dX1_takesManaging_78 : decode cX1_takesManaging 78 = .ok (.aload_n 0, 1) := by decide +kernel
theorem dX1_takesManaging_79 : decode cX1_takesManaging 79 = .ok (.aload_n 1, 1) := by decide +kernel
theorem dX1_takesManaging_80 : decode cX1_takesManaging 80 = .ok (.invokevirtual 66, 3) := by decide +kernel
theorem dX1_takesManaging_83 : decode cX1_takesManaging 83 = .ok (.ireturn, 1) := by decide +kernel
theorem dX1_takesManaging_84 : decode cX1_takesManaging 84 = .ok (.aload_n 0, 1) := by decide +kernel
theorem dX1_takesManaging_85 : decode cX1_takesManaging 85 = .ok (.invokevirtual 69, 3) := by decide +kernel
theorem dX1_takesManaging_88 : decode cX1_takesManaging 88 = .ok (.ireturn, 1) := by decide +kernel
theorem dX1_takesManaging_89 : decode cX1_takesManaging 89 = .ok (.aload_n 0, 1) := by decide +kernel
theorem dX1_takesManaging_90 : decode cX1_takesManaging 90 = .ok (.invokevirtual 73, 3) := by decide +kernel
theorem dX1_takesManaging_93 : decode cX1_takesManaging 93 = .ok (.ireturn, 1) := by decide +kernel
theorem dX1_takesManaging_94 : decode cX1_takesManaging 94 = .ok (.aload_n 0, 1) := by decide +kernel
theorem dX1_takesManaging_95 : decode cX1_takesManaging 95 = .ok (.aload_n 1, 1) := by decide +kernel
theorem dX1_takesManaging_96 : decode cX1_takesManaging 96 = .ok (.iconst 4, 1) := by decide +kernel
theorem dX1_takesManaging_97 : decode cX1_takesManaging 97 = .ok (.iconst 3, 1) := by decide +kernel
theorem dX1_takesManaging_98 : decode cX1_takesManaging 98 = .ok (.invokevirtual 62, 3) := by decide +kernel
theorem dX1_takesManaging_101 : decode cX1_takesManaging 101 = .ok (.ireturn, 1) := by decide +kernel
theorem dX1_takesManaging_102 : decode cX1_takesManaging 102 = .ok (.iconst 0, 1) := by decide +kernel
theorem dX1_takesManaging_103 : decode cX1_takesManaging 103 = .ok (.ireturn, 1) := by decide +kernel
theorem dX1_takesCalling_0 : decode cX1_takesCalling 0 = .ok (.aload_n 0, 1) := by decide +kernel
theorem dX1_takesCalling_1 : decode cX1_takesCalling 1 = .ok (.getfield 25, 3) := by decide +kernel
theorem dX1_takesCalling_4 : decode cX1_takesCalling 4 = .ok (.iconst 5, 1) := by decide +kernel
theorem dX1_takesCalling_5 : decode cX1_takesCalling 5 = .ok (.if_icmp .eq 5, 3) := by decide +kernel
theorem dX1_takesCalling_8 : decode cX1_takesCalling 8 = .ok (.iconst 0, 1) := by decide +kernel
theorem dX1_takesCalling_9 : decode cX1_takesCalling 9 = .ok (.ireturn, 1) := by decide +kernel
theorem dX1_takesCalling_10 : decode cX1_takesCalling 10 = .ok (.aload_n 1, 1) := by decide +kernel
theorem dX1_takesCalling_11 : decode cX1_takesCalling 11 = .ok (.invokevirtual 54, 3) := by decide +kernel
theorem dX1_takesCalling_14 : decode cX1_takesCalling 14 = .ok (.lookupswitch 93 #[(1, 65), (2, 58), (7, 72), (37, 77), (42, 88), (45, 83)], 58) := by decide +kernel
theorem dX1_takesCalling_72 : decode cX1_takesCalling 72 = .ok (.aload_n 0, 1) := by decide +kernel
theorem dX1_takesCalling_73 : decode cX1_takesCalling 73 = .ok (.iconst 1, 1) := by decide +kernel
theorem dX1_takesCalling_74 : decode cX1_takesCalling 74 = .ok (.iconst 2, 1) := by decide +kernel
theorem dX1_takesCalling_75 : decode cX1_takesCalling 75 = .ok (.invokevirtual 76, 3) := by decide +kernel
theorem dX1_takesCalling_78 : decode cX1_takesCalling 78 = .ok (.ireturn, 1) := by decide +kernel
theorem dX1_takesCalling_79 : decode cX1_takesCalling 79 = .ok (.aload_n 0, 1) := by decide +kernel
theorem dX1_takesCalling_80 : decode cX1_takesCalling 80 = .ok (.iconst 2, 1) := by decide +kernel
theorem dX1_takesCalling_81 : decode cX1_takesCalling 81 = .ok (.iconst 3, 1) := by decide +kernel
theorem dX1_takesCalling_82 : decode cX1_takesCalling 82 = .ok (.invokevirtual 76, 3) := by decide +kernel
theorem dX1_takesCalling_85 : decode cX1_takesCalling 85 = .ok (.ireturn, 1) := by decide +kernel
theorem dX1_takesCalling_86 : decode cX1_takesCalling 86 = .ok (.aload_n 0, 1) := by decide +kernel
theorem dX1_takesCalling_87 : decode cX1_takesCalling 87 = .ok (.invokevirtual 80, 3) := by decide +kernel
theorem dX1_takesCalling_90 : decode cX1_takesCalling 90 = .ok (.ireturn, 1) := by decide +kernel
theorem dX1_takesCalling_91 : decode cX1_takesCalling 91 = .ok (.aload_n 0, 1) := by decide +kernel
theorem dX1_takesCalling_92 : decode cX1_takesCalling 92 = .ok (.aload_n 1, 1) := by decide +kernel
theorem dX1_takesCalling_93 : decode cX1_takesCalling 93 = .ok (.invokevirtual 83, 3) := by decide +kernel
theorem dX1_takesCalling_96 : decode cX1_takesCalling 96 = .ok (.ireturn, 1) := by decide +kernel
theorem dX1_takesCalling_97 : decode cX1_takesCalling 97 = .ok (.aload_n 0, 1) := by decide +kernel
theorem dX1_takesCalling_98 : decode cX1_takesCalling 98 = .ok (.invokevirtual 86, 3) := by decide +kernel
theorem dX1_takesCalling_101 : decode cX1_takesCalling 101 = .ok (.ireturn, 1) := by decide +kernel
theorem dX1_takesCalling_102 : decode cX1_takesCalling 102 = .ok (.aload_n 0, 1) := by decide +kernel
theorem dX1_takesCalling_103 : decode cX1_takesCalling 103 = .ok (.invokevirtual 89, 3) := by decide +kernel
theorem dX1_takesCalling_106 : decode cX1_takesCalling 106 = .ok (.ireturn, 1) := by decide +kernel
theorem dX1_takesCalling_107 : decode cX1_takesCalling 107 = .ok (.iconst 0, 1) := by decide +kernel
theorem dX1_takesCalling_108 : decode cX1_takesCalling 108 = .ok (.ireturn, 1) := by decide +kernel
theorem dX1_timeOut_0 : decode cX1_timeOut 0 = .ok (.aload_n 0, 1) := by decide +kernel
theorem dX1_timeOut_1 : decode cX1_timeOut 1 = .ok (.getfield 25, 3) := by decide +kernel
theorem dX1_timeOut_4 : decode cX1_timeOut 4 = .ok (.iconst 2, 1) := by decide +kernel
theorem dX1_timeOut_5 : decode cX1_timeOut 5 = .ok (.if_icmp .ne 12, 3) := by decide +kernel
theorem dX1_timeOut_8 : decode cX1_timeOut 8 = .ok (.aload_n 0, 1) := by decide +kernel
theorem dX1_timeOut_9 : decode cX1_timeOut 9 = .ok (.iconst 1, 1) := by decide +kernel
theorem dX1_timeOut_10 : decode cX1_timeOut 10 = .ok (.iconst 0, 1) := by decide +kernel
theorem dX1_timeOut_11 : decode cX1_timeOut 11 = .ok (.invokevirtual 28, 3) := by decide +kernel
theorem dX1_timeOut_14 : decode cX1_timeOut 14 = .ok (.goto 48, 3) := by decide +kernel
theorem dX1_timeOut_17 : decode cX1_timeOut 17 = .ok (.aload_n 0, 1) := by decide +kernel
theorem dX1_timeOut_18 : decode cX1_timeOut 18 = .ok (.getfield 25, 3) := by decide +kernel
theorem dX1_timeOut_21 : decode cX1_timeOut 21 = .ok (.iconst 4, 1) := by decide +kernel
theorem dX1_timeOut_22 : decode cX1_timeOut 22 = .ok (.if_icmp .ne 10, 3) := by decide +kernel
theorem dX1_timeOut_25 : decode cX1_timeOut 25 = .ok (.aload_n 0, 1) := by decide +kernel
theorem dX1_timeOut_26 : decode cX1_timeOut 26 = .ok (.invokevirtual 50, 3) := by decide +kernel
theorem dX1_timeOut_29 : decode cX1_timeOut 29 = .ok (.goto 33, 3) := by decide +kernel
theorem dX1_timeOut_32 : decode cX1_timeOut 32 = .ok (.aload_n 0, 1) := by decide +kernel
theorem dX1_timeOut_33 : decode cX1_timeOut 33 = .ok (.getfield 92, 3) := by decide +kernel
theorem dX1_timeOut_36 : decode cX1_timeOut 36 = .ok (.iconst 1, 1) := by decide +kernel
theorem dX1_timeOut_37 : decode cX1_timeOut 37 = .ok (.if_icmp .ne 21, 3) := by decide +kernel
theorem dX1_timeOut_40 : decode cX1_timeOut 40 = .ok (.aload_n 0, 1) := by decide +kernel
theorem dX1_timeOut_41 : decode cX1_timeOut 41 = .ok (.getfield 31, 3) := by decide +kernel
theorem dX1_timeOut_44 : decode cX1_timeOut 44 = .ok (.iconst 3, 1) := by decide +kernel
theorem dX1_timeOut_45 : decode cX1_timeOut 45 = .ok (.bipush 42, 2) := by decide +kernel
theorem dX1_timeOut_47 : decode cX1_timeOut 47 = .ok (.invokevirtual 35, 3) := by decide +kernel
theorem dX1_timeOut_50 : decode cX1_timeOut 50 = .ok (.pop, 1) := by decide +kernel
theorem dX1_timeOut_51 : decode cX1_timeOut 51 = .ok (.aload_n 0, 1) := by decide +kernel
theorem dX1_timeOut_52 : decode cX1_timeOut 52 = .ok (.invokevirtual 50, 3) := by decide +kernel
theorem dX1_timeOut_55 : decode cX1_timeOut 55 = .ok (.goto 7, 3) := by decide +kernel
theorem dX1_timeOut_58 : decode cX1_timeOut 58 = .ok (.aload_n 0, 1) := by decide +kernel
theorem dX1_timeOut_59 : decode cX1_timeOut 59 = .ok (.invokevirtual 95, 3) := by decide +kernel
theorem dX1_timeOut_62 : decode cX1_timeOut 62 = .ok (.return_, 1) := by decide +kernel
theorem dX1_takesUpdated_0 : decode cX1_takesUpdated 0 = .ok (.aload_n 0, 1) := by decide +kernel
theorem dX1_takesUpdated_1 : decode cX1_takesUpdated 1 = .ok (.getfield 25, 3) := by decide +kernel
theorem dX1_takesUpdated_4 : decode cX1_takesUpdated 4 = .ok (.iconst 2, 1) := by decide +kernel
theorem dX1_takesUpdated_5 : decode cX1_takesUpdated 5 = .ok (.if_icmp .ne 13, 3) := by decide +kernel
theorem dX1_takesUpdated_8 : decode cX1_takesUpdated 8 = .ok (.aload_n 1, 1) := by decide +kernel
theorem dX1_takesUpdated_9 : decode cX1_takesUpdated 9 = .ok (.bipush 19, 2) := by decide +kernel
theorem dX1_takesUpdated_11 : decode cX1_takesUpdated 11 = .ok (.iconst 2, 1) := by decide +kernel
theorem dX1_takesUpdated_12 : decode cX1_takesUpdated 12 = .ok (.invokevirtual 98, 3) := by decide +kernel
theorem dX1_takesUpdated_15 : decode cX1_takesUpdated 15 = .ok (.ifCond .ne 5, 3) := by decide +kernel
theorem dX1_takesUpdated_18 : decode cX1_takesUpdated 18 = .ok (.iconst 0, 1) := by decide +kernel
theorem dX1_takesUpdated_19 : decode cX1_takesUpdated 19 = .ok (.ireturn, 1) := by decide +kernel
theorem dX1_takesUpdated_20 : decode cX1_takesUpdated 20 = .ok (.aload_n 0, 1) := by decide +kernel
theorem dX1_takesUpdated_21 : decode cX1_takesUpdated 21 = .ok (.aload_n 1, 1) := by decide +kernel
theorem dX1_takesUpdated_22 : decode cX1_takesUpdated 22 = .ok (.bipush 19, 2) := by decide +kernel
theorem dX1_takesUpdated_24 : decode cX1_takesUpdated 24 = .ok (.iconst 2, 1) := by decide +kernel
theorem dX1_takesUpdated_25 : decode cX1_takesUpdated 25 = .ok (.invokevirtual 101, 3) := by decide +kernel
theorem dX1_takesUpdated_28 : decode cX1_takesUpdated 28 = .ok (.putfield 15, 3) := by decide +kernel
theorem dX1_takesUpdated_31 : decode cX1_takesUpdated 31 = .ok (.aload_n 0, 1) := by decide +kernel
theorem dX1_takesUpdated_32 : decode cX1_takesUpdated 32 = .ok (.invokevirtual 50, 3) := by decide +kernel
theorem dX1_takesUpdated_35 : decode cX1_takesUpdated 35 = .ok (.iconst 1, 1) := by decide +kernel
theorem dX1_takesUpdated_36 : decode cX1_takesUpdated 36 = .ok (.ireturn, 1) := by decide +kernel
theorem dX1_takesRefusal_0 : decode cX1_takesRefusal 0 = .ok (.aload_n 0, 1) := by decide +kernel
theorem dX1_takesRefusal_1 : decode cX1_takesRefusal 1 = .ok (.getfield 25, 3) := by decide +kernel
theorem dX1_takesRefusal_4 : decode cX1_takesRefusal 4 = .ok (.iload_n 2, 1) := by decide +kernel
theorem dX1_takesRefusal_5 : decode cX1_takesRefusal 5 = .ok (.if_icmp .ne 13, 3) := by decide +kernel
theorem dX1_takesRefusal_8 : decode cX1_takesRefusal 8 = .ok (.aload_n 1, 1) := by decide +kernel
theorem dX1_takesRefusal_9 : decode cX1_takesRefusal 9 = .ok (.bipush 8, 2) := by decide +kernel
theorem dX1_takesRefusal_11 : decode cX1_takesRefusal 11 = .ok (.iconst 1, 1) := by decide +kernel
theorem dX1_takesRefusal_12 : decode cX1_takesRefusal 12 = .ok (.invokevirtual 98, 3) := by decide +kernel
theorem dX1_takesRefusal_15 : decode cX1_takesRefusal 15 = .ok (.ifCond .ne 5, 3) := by decide +kernel
theorem dX1_takesRefusal_18 : decode cX1_takesRefusal 18 = .ok (.iconst 0, 1) := by decide +kernel
theorem dX1_takesRefusal_19 : decode cX1_takesRefusal 19 = .ok (.ireturn, 1) := by decide +kernel
theorem dX1_takesRefusal_20 : decode cX1_takesRefusal 20 = .ok (.aload_n 0, 1) := by decide +kernel
theorem dX1_takesRefusal_21 : decode cX1_takesRefusal 21 = .ok (.aload_n 1, 1) := by decide +kernel
theorem dX1_takesRefusal_22 : decode cX1_takesRefusal 22 = .ok (.bipush 8, 2) := by decide +kernel
theorem dX1_takesRefusal_24 : decode cX1_takesRefusal 24 = .ok (.iconst 1, 1) := by decide +kernel
theorem dX1_takesRefusal_25 : decode cX1_takesRefusal 25 = .ok (.invokevirtual 101, 3) := by decide +kernel
theorem dX1_takesRefusal_28 : decode cX1_takesRefusal 28 = .ok (.putfield 105, 3) := by decide +kernel
theorem dX1_takesRefusal_31 : decode cX1_takesRefusal 31 = .ok (.aload_n 0, 1) := by decide +kernel
theorem dX1_takesRefusal_32 : decode cX1_takesRefusal 32 = .ok (.iload_n 3, 1) := by decide +kernel
theorem dX1_takesRefusal_33 : decode cX1_takesRefusal 33 = .ok (.iconst 0, 1) := by decide +kernel
theorem dX1_takesRefusal_34 : decode cX1_takesRefusal 34 = .ok (.invokevirtual 28, 3) := by decide +kernel
theorem dX1_takesRefusal_37 : decode cX1_takesRefusal 37 = .ok (.iconst 1, 1) := by decide +kernel
theorem dX1_takesRefusal_38 : decode cX1_takesRefusal 38 = .ok (.ireturn, 1) := by decide +kernel
theorem dX1_takesChallenge_0 : decode cX1_takesChallenge 0 = .ok (.aload_n 0, 1) := by decide +kernel
theorem dX1_takesChallenge_1 : decode cX1_takesChallenge 1 = .ok (.getfield 25, 3) := by decide +kernel
theorem dX1_takesChallenge_4 : decode cX1_takesChallenge 4 = .ok (.iconst 2, 1) := by decide +kernel
theorem dX1_takesChallenge_5 : decode cX1_takesChallenge 5 = .ok (.if_icmp .eq 11, 3) := by decide +kernel
theorem dX1_takesChallenge_8 : decode cX1_takesChallenge 8 = .ok (.aload_n 0, 1) := by decide +kernel
theorem dX1_takesChallenge_9 : decode cX1_takesChallenge 9 = .ok (.getfield 25, 3) := by decide +kernel
theorem dX1_takesChallenge_12 : decode cX1_takesChallenge 12 = .ok (.iconst 4, 1) := by decide +kernel
theorem dX1_takesChallenge_13 : decode cX1_takesChallenge 13 = .ok (.if_icmp .ne 13, 3) := by decide +kernel
theorem dX1_takesChallenge_16 : decode cX1_takesChallenge 16 = .ok (.aload_n 1, 1) := by decide +kernel
theorem dX1_takesChallenge_17 : decode cX1_takesChallenge 17 = .ok (.bipush 33, 2) := by decide +kernel
theorem dX1_takesChallenge_19 : decode cX1_takesChallenge 19 = .ok (.iconst 4, 1) := by decide +kernel
theorem dX1_takesChallenge_20 : decode cX1_takesChallenge 20 = .ok (.invokevirtual 98, 3) := by decide +kernel
theorem dX1_takesChallenge_23 : decode cX1_takesChallenge 23 = .ok (.ifCond .ne 5, 3) := by decide +kernel
theorem dX1_takesChallenge_26 : decode cX1_takesChallenge 26 = .ok (.iconst 0, 1) := by decide +kernel
theorem dX1_takesChallenge_27 : decode cX1_takesChallenge 27 = .ok (.ireturn, 1) := by decide +kernel
theorem dX1_takesChallenge_28 : decode cX1_takesChallenge 28 = .ok (.aload_n 1, 1) := by decide +kernel
theorem dX1_takesChallenge_29 : decode cX1_takesChallenge 29 = .ok (.bipush 33, 2) := by decide +kernel
theorem dX1_takesChallenge_31 : decode cX1_takesChallenge 31 = .ok (.iconst 4, 1) := by decide +kernel
theorem dX1_takesChallenge_32 : decode cX1_takesChallenge 32 = .ok (.invokevirtual 101, 3) := by decide +kernel
theorem dX1_takesChallenge_35 : decode cX1_takesChallenge 35 = .ok (.istore_n 2, 1) := by decide +kernel
theorem dX1_takesChallenge_36 : decode cX1_takesChallenge 36 = .ok (.aload_n 0, 1) := by decide +kernel
theorem dX1_takesChallenge_37 : decode cX1_takesChallenge 37 = .ok (.getfield 31, 3) := by decide +kernel
theorem dX1_takesChallenge_40 : decode cX1_takesChallenge 40 = .ok (.iconst 5, 1) := by decide +kernel
theorem dX1_takesChallenge_41 : decode cX1_takesChallenge 41 = .ok (.bipush 20, 2) := by decide +kernel
theorem dX1_takesChallenge_43 : decode cX1_takesChallenge 43 = .ok (.invokevirtual 35, 3) := by decide +kernel
theorem dX1_takesChallenge_46 : decode cX1_takesChallenge 46 = .ok (.bipush 34, 2) := by decide +kernel
theorem dX1_takesChallenge_48 : decode cX1_takesChallenge 48 = .ok (.iconst 4, 1) := by decide +kernel
theorem dX1_takesChallenge_49 : decode cX1_takesChallenge 49 = .ok (.iload_n 2, 1) := by decide +kernel
theorem dX1_takesChallenge_50 : decode cX1_takesChallenge 50 = .ok (.aload_n 0, 1) := by decide +kernel
theorem dX1_takesChallenge_51 : decode cX1_takesChallenge 51 = .ok (.getfield 11, 3) := by decide +kernel
theorem dX1_takesChallenge_54 : decode cX1_takesChallenge 54 = .ok (.invokestatic 108, 3) := by decide +kernel
theorem dX1_takesChallenge_57 : decode cX1_takesChallenge 57 = .ok (.invokevirtual 41, 3) := by decide +kernel
theorem dX1_takesChallenge_60 : decode cX1_takesChallenge 60 = .ok (.iconst 1, 1) := by decide +kernel
theorem dX1_takesChallenge_61 : decode cX1_takesChallenge 61 = .ok (.ireturn, 1) := by decide +kernel
theorem dX1_takesExpelled_0 : decode cX1_takesExpelled 0 = .ok (.aload_n 0, 1) := by decide +kernel
theorem dX1_takesExpelled_1 : decode cX1_takesExpelled 1 = .ok (.getfield 25, 3) := by decide +kernel
theorem dX1_takesExpelled_4 : decode cX1_takesExpelled 4 = .ok (.ifCond .ne 5, 3) := by decide +kernel
theorem dX1_takesExpelled_7 : decode cX1_takesExpelled 7 = .ok (.iconst 0, 1) := by decide +kernel
theorem dX1_takesExpelled_8 : decode cX1_takesExpelled 8 = .ok (.ireturn, 1) := by decide +kernel
theorem dX1_takesExpelled_9 : decode cX1_takesExpelled 9 = .ok (.aload_n 0, 1) := by decide +kernel
theorem dX1_takesExpelled_10 : decode cX1_takesExpelled 10 = .ok (.iconst 1, 1) := by decide +kernel
theorem dX1_takesExpelled_11 : decode cX1_takesExpelled 11 = .ok (.iconst 0, 1) := by decide +kernel
theorem dX1_takesExpelled_12 : decode cX1_takesExpelled 12 = .ok (.invokevirtual 28, 3) := by decide +kernel
theorem dX1_takesExpelled_15 : decode cX1_takesExpelled 15 = .ok (.iconst 1, 1) := by decide +kernel
theorem dX1_takesExpelled_16 : decode cX1_takesExpelled 16 = .ok (.ireturn, 1) := by decide +kernel
theorem dX1_takesServed_0 : decode cX1_takesServed 0 = .ok (.aload_n 0, 1) := by decide +kernel
theorem dX1_takesServed_1 : decode cX1_takesServed 1 = .ok (.getfield 25, 3) := by decide +kernel
theorem dX1_takesServed_4 : decode cX1_takesServed 4 = .ok (.iconst 4, 1) := by decide +kernel
theorem dX1_takesServed_5 : decode cX1_takesServed 5 = .ok (.if_icmp .eq 5, 3) := by decide +kernel
theorem dX1_takesServed_8 : decode cX1_takesServed 8 = .ok (.iconst 0, 1) := by decide +kernel
theorem dX1_takesServed_9 : decode cX1_takesServed 9 = .ok (.ireturn, 1) := by decide +kernel
theorem dX1_takesServed_10 : decode cX1_takesServed 10 = .ok (.aload_n 0, 1) := by decide +kernel
theorem dX1_takesServed_11 : decode cX1_takesServed 11 = .ok (.iconst 5, 1) := by decide +kernel
theorem dX1_takesServed_12 : decode cX1_takesServed 12 = .ok (.putfield 25, 3) := by decide +kernel
theorem dX1_takesServed_15 : decode cX1_takesServed 15 = .ok (.aload_n 0, 1) := by decide +kernel
theorem dX1_takesServed_16 : decode cX1_takesServed 16 = .ok (.invokevirtual 111, 3) := by decide +kernel
theorem dX1_takesServed_19 : decode cX1_takesServed 19 = .ok (.aload_n 0, 1) := by decide +kernel
theorem dX1_takesServed_20 : decode cX1_takesServed 20 = .ok (.iconst 1, 1) := by decide +kernel
theorem dX1_takesServed_21 : decode cX1_takesServed 21 = .ok (.bipush 30, 2) := by decide +kernel
theorem dX1_takesServed_23 : decode cX1_takesServed 23 = .ok (.invokevirtual 114, 3) := by decide +kernel
theorem dX1_takesServed_26 : decode cX1_takesServed 26 = .ok (.iconst 1, 1) := by decide +kernel
theorem dX1_takesServed_27 : decode cX1_takesServed 27 = .ok (.ireturn, 1) := by decide +kernel
theorem dX1_takesProgress_0 : decode cX1_takesProgress 0 = .ok (.aload_n 0, 1) := by decide +kernel
theorem dX1_takesProgress_1 : decode cX1_takesProgress 1 = .ok (.iconst 1, 1) := by decide +kernel
theorem dX1_takesProgress_2 : decode cX1_takesProgress 2 = .ok (.iload_n 1, 1) := by decide +kernel
theorem dX1_takesProgress_3 : decode cX1_takesProgress 3 = .ok (.invokevirtual 117, 3) := by decide +kernel
theorem dX1_takesProgress_6 : decode cX1_takesProgress 6 = .ok (.ifCond .ne 5, 3) := by decide +kernel
theorem dX1_takesProgress_9 : decode cX1_takesProgress 9 = .ok (.iconst 0, 1) := by decide +kernel
theorem dX1_takesProgress_10 : decode cX1_takesProgress 10 = .ok (.ireturn, 1) := by decide +kernel
theorem dX1_takesProgress_11 : decode cX1_takesProgress 11 = .ok (.aload_n 0, 1) := by decide +kernel
theorem dX1_takesProgress_12 : decode cX1_takesProgress 12 = .ok (.iload_n 2, 1) := by decide +kernel
theorem dX1_takesProgress_13 : decode cX1_takesProgress 13 = .ok (.iconst 0, 1) := by decide +kernel
theorem dX1_takesProgress_14 : decode cX1_takesProgress 14 = .ok (.invokevirtual 114, 3) := by decide +kernel
theorem dX1_takesProgress_17 : decode cX1_takesProgress 17 = .ok (.iconst 1, 1) := by decide +kernel
theorem dX1_takesProgress_18 : decode cX1_takesProgress 18 = .ok (.ireturn, 1) := by decide +kernel
theorem dX1_takesConnect_0 : decode cX1_takesConnect 0 = .ok (.aload_n 0, 1) := by decide +kernel
theorem dX1_takesConnect_1 : decode cX1_takesConnect 1 = .ok (.iconst 3, 1) := by decide +kernel
theorem dX1_takesConnect_2 : decode cX1_takesConnect 2 = .ok (.iconst 4, 1) := by decide +kernel
theorem dX1_takesConnect_3 : decode cX1_takesConnect 3 = .ok (.invokevirtual 76, 3) := by decide +kernel
theorem dX1_takesConnect_6 : decode cX1_takesConnect 6 = .ok (.ifCond .ne 5, 3) := by decide +kernel
theorem dX1_takesConnect_9 : decode cX1_takesConnect 9 = .ok (.iconst 0, 1) := by decide +kernel
theorem dX1_takesConnect_10 : decode cX1_takesConnect 10 = .ok (.ireturn, 1) := by decide +kernel
theorem dX1_takesConnect_11 : decode cX1_takesConnect 11 = .ok (.aload_n 0, 1) := by decide +kernel
theorem dX1_takesConnect_12 : decode cX1_takesConnect 12 = .ok (.getfield 31, 3) := by decide +kernel
theorem dX1_takesConnect_15 : decode cX1_takesConnect 15 = .ok (.iconst 3, 1) := by decide +kernel
theorem dX1_takesConnect_16 : decode cX1_takesConnect 16 = .ok (.bipush 15, 2) := by decide +kernel
theorem dX1_takesConnect_18 : decode cX1_takesConnect 18 = .ok (.invokevirtual 35, 3) := by decide +kernel
theorem dX1_takesConnect_21 : decode cX1_takesConnect 21 = .ok (.pop, 1) := by decide +kernel
theorem dX1_takesConnect_22 : decode cX1_takesConnect 22 = .ok (.iconst 1, 1) := by decide +kernel
theorem dX1_takesConnect_23 : decode cX1_takesConnect 23 = .ok (.ireturn, 1) := by decide +kernel
theorem dX1_keepDigits_0 : decode cX1_keepDigits 0 = .ok (.iload_n 1, 1) := by decide +kernel
theorem dX1_keepDigits_1 : decode cX1_keepDigits 1 = .ok (.istore_n 3, 1) := by decide +kernel
theorem dX1_keepDigits_2 : decode cX1_keepDigits 2 = .ok (.aload_n 0, 1) := by decide +kernel
theorem dX1_keepDigits_3 : decode cX1_keepDigits 3 = .ok (.iload_n 2, 1) := by decide +kernel
theorem dX1_keepDigits_4 : decode cX1_keepDigits 4 = .ok (.putfield 22, 3) := by decide +kernel
theorem dX1_keepDigits_7 : decode cX1_keepDigits 7 = .ok (.iload_n 2, 1) := by decide +kernel
theorem dX1_keepDigits_8 : decode cX1_keepDigits 8 = .ok (.iconst 1, 1) := by decide +kernel
theorem dX1_keepDigits_9 : decode cX1_keepDigits 9 = .ok (.isub, 1) := by decide +kernel
theorem dX1_keepDigits_10 : decode cX1_keepDigits 10 = .ok (.istore 4, 2) := by decide +kernel
theorem dX1_keepDigits_12 : decode cX1_keepDigits 12 = .ok (.iload 4, 2) := by decide +kernel
theorem dX1_keepDigits_14 : decode cX1_keepDigits 14 = .ok (.ifCond .lt 25, 3) := by decide +kernel
theorem dX1_keepDigits_17 : decode cX1_keepDigits 17 = .ok (.aload_n 0, 1) := by decide +kernel
theorem dX1_keepDigits_18 : decode cX1_keepDigits 18 = .ok (.getfield 18, 3) := by decide +kernel
theorem dX1_keepDigits_21 : decode cX1_keepDigits 21 = .ok (.iload 4, 2) := by decide +kernel
theorem dX1_keepDigits_23 : decode cX1_keepDigits 23 = .ok (.iload_n 3, 1) := by decide +kernel
theorem dX1_keepDigits_24 : decode cX1_keepDigits 24 = .ok (.bipush 10, 2) := by decide +kernel
theorem dX1_keepDigits_26 : decode cX1_keepDigits 26 = .ok (.irem, 1) := by decide +kernel
theorem dX1_keepDigits_27 : decode cX1_keepDigits 27 = .ok (.iastore, 1) := by decide +kernel
theorem dX1_keepDigits_28 : decode cX1_keepDigits 28 = .ok (.iload_n 3, 1) := by decide +kernel
theorem dX1_keepDigits_29 : decode cX1_keepDigits 29 = .ok (.bipush 10, 2) := by decide +kernel
theorem dX1_keepDigits_31 : decode cX1_keepDigits 31 = .ok (.idiv, 1) := by decide +kernel
theorem dX1_keepDigits_32 : decode cX1_keepDigits 32 = .ok (.istore_n 3, 1) := by decide +kernel
theorem dX1_keepDigits_33 : decode cX1_keepDigits 33 = .ok (.iinc 4 (-1), 3) := by decide +kernel
theorem dX1_keepDigits_36 : decode cX1_keepDigits 36 = .ok (.goto (-24), 3) := by decide +kernel
theorem dX1_keepDigits_39 : decode cX1_keepDigits 39 = .ok (.return_, 1) := by decide +kernel
theorem dX1_sendSetUp_0 : decode cX1_sendSetUp 0 = .ok (.aload_n 0, 1) := by decide +kernel
theorem dX1_sendSetUp_1 : decode cX1_sendSetUp 1 = .ok (.getfield 31, 3) := by decide +kernel
theorem dX1_sendSetUp_4 : decode cX1_sendSetUp 4 = .ok (.iconst 3, 1) := by decide +kernel
theorem dX1_sendSetUp_5 : decode cX1_sendSetUp 5 = .ok (.iconst 5, 1) := by decide +kernel
theorem dX1_sendSetUp_6 : decode cX1_sendSetUp 6 = .ok (.invokevirtual 35, 3) := by decide +kernel
theorem dX1_sendSetUp_9 : decode cX1_sendSetUp 9 = .ok (.astore_n 1, 1) := by decide +kernel
theorem dX1_sendSetUp_10 : decode cX1_sendSetUp 10 = .ok (.aload_n 1, 1) := by decide +kernel
theorem dX1_sendSetUp_11 : decode cX1_sendSetUp 11 = .ok (.bipush 94, 2) := by decide +kernel
theorem dX1_sendSetUp_13 : decode cX1_sendSetUp 13 = .ok (.invokevirtual 120, 3) := by decide +kernel
theorem dX1_sendSetUp_16 : decode cX1_sendSetUp 16 = .ok (.aload_n 1, 1) := by decide +kernel
theorem dX1_sendSetUp_17 : decode cX1_sendSetUp 17 = .ok (.aload_n 0, 1) := by decide +kernel
theorem dX1_sendSetUp_18 : decode cX1_sendSetUp 18 = .ok (.getfield 22, 3) := by decide +kernel
theorem dX1_sendSetUp_21 : decode cX1_sendSetUp 21 = .ok (.invokevirtual 120, 3) := by decide +kernel
theorem dX1_sendSetUp_24 : decode cX1_sendSetUp 24 = .ok (.iconst 0, 1) := by decide +kernel
theorem dX1_sendSetUp_25 : decode cX1_sendSetUp 25 = .ok (.istore_n 2, 1) := by decide +kernel
theorem dX1_sendSetUp_26 : decode cX1_sendSetUp 26 = .ok (.iload_n 2, 1) := by decide +kernel
theorem dX1_sendSetUp_27 : decode cX1_sendSetUp 27 = .ok (.aload_n 0, 1) := by decide +kernel
theorem dX1_sendSetUp_28 : decode cX1_sendSetUp 28 = .ok (.getfield 22, 3) := by decide +kernel
theorem dX1_sendSetUp_31 : decode cX1_sendSetUp 31 = .ok (.if_icmp .ge 19, 3) := by decide +kernel
theorem dX1_sendSetUp_34 : decode cX1_sendSetUp 34 = .ok (.aload_n 1, 1) := by decide +kernel
theorem dX1_sendSetUp_35 : decode cX1_sendSetUp 35 = .ok (.aload_n 0, 1) := by decide +kernel
theorem dX1_sendSetUp_36 : decode cX1_sendSetUp 36 = .ok (.getfield 18, 3) := by decide +kernel
theorem dX1_sendSetUp_39 : decode cX1_sendSetUp 39 = .ok (.iload_n 2, 1) := by decide +kernel
theorem dX1_sendSetUp_40 : decode cX1_sendSetUp 40 = .ok (.iaload, 1) := by decide +kernel
theorem dX1_sendSetUp_41 : decode cX1_sendSetUp 41 = .ok (.invokevirtual 120, 3) := by decide +kernel
theorem dX1_sendSetUp_44 : decode cX1_sendSetUp 44 = .ok (.iinc 2 1, 3) := by decide +kernel
theorem dX1_sendSetUp_47 : decode cX1_sendSetUp 47 = .ok (.goto (-21), 3) := by decide +kernel
theorem dX1_sendSetUp_50 : decode cX1_sendSetUp 50 = .ok (.return_, 1) := by decide +kernel
theorem dX2_init_0 : decode cX2_init 0 = .ok (.aload_n 0, 1) := by decide +kernel
theorem dX2_init_1 : decode cX2_init 1 = .ok (.iconst 0, 1) := by decide +kernel
theorem dX2_init_2 : decode cX2_init 2 = .ok (.iconst 0, 1) := by decide +kernel
theorem dX2_init_3 : decode cX2_init 3 = .ok (.invokespecial 5, 3) := by decide +kernel
theorem dX2_init_6 : decode cX2_init 6 = .ok (.aload_n 0, 1) := by decide +kernel
theorem dX2_init_7 : decode cX2_init 7 = .ok (.iload_n 1, 1) := by decide +kernel
theorem dX2_init_8 : decode cX2_init 8 = .ok (.putfield 11, 3) := by decide +kernel
theorem dX2_init_11 : decode cX2_init 11 = .ok (.aload_n 0, 1) := by decide +kernel
theorem dX2_init_12 : decode cX2_init 12 = .ok (.iconst (-1), 1) := by decide +kernel
theorem dX2_init_13 : decode cX2_init 13 = .ok (.putfield 15, 3) := by decide +kernel
theorem dX2_init_16 : decode cX2_init 16 = .ok (.aload_n 0, 1) := by decide +kernel
theorem dX2_init_17 : decode cX2_init 17 = .ok (.iload_n 2, 1) := by decide +kernel
theorem dX2_init_18 : decode cX2_init 18 = .ok (.putfield 18, 3) := by decide +kernel
theorem dX2_init_21 : decode cX2_init 21 = .ok (.aload_n 0, 1) := by decide +kernel
theorem dX2_init_22 : decode cX2_init 22 = .ok (.iconst 0, 1) := by decide +kernel
theorem dX2_init_23 : decode cX2_init 23 = .ok (.putfield 21, 3) := by decide +kernel
theorem dX2_init_26 : decode cX2_init 26 = .ok (.aload_n 0, 1) := by decide +kernel
theorem dX2_init_27 : decode cX2_init 27 = .ok (.iconst 1, 1) := by decide +kernel
theorem dX2_init_28 : decode cX2_init 28 = .ok (.putfield 24, 3) := by decide +kernel
theorem dX2_init_31 : decode cX2_init 31 = .ok (.aload_n 0, 1) := by decide +kernel
theorem dX2_init_32 : decode cX2_init 32 = .ok (.iconst 1, 1) := by decide +kernel
theorem dX2_init_33 : decode cX2_init 33 = .ok (.putfield 28, 3) := by decide +kernel
theorem dX2_init_36 : decode cX2_init 36 = .ok (.aload_n 0, 1) := by decide +kernel
theorem dX2_init_37 : decode cX2_init 37 = .ok (.bipush 8, 2) := by decide +kernel
theorem dX2_init_39 : decode cX2_init 39 = .ok (.newarray .int, 2) := by decide +kernel
theorem dX2_init_41 : decode cX2_init 41 = .ok (.putfield 31, 3) := by decide +kernel
theorem dX2_init_44 : decode cX2_init 44 = .ok (.aload_n 0, 1) := by decide +kernel
theorem dX2_init_45 : decode cX2_init 45 = .ok (.iconst 0, 1) := by decide +kernel
theorem dX2_init_46 : decode cX2_init 46 = .ok (.putfield 35, 3) := by decide +kernel
theorem dX2_init_49 : decode cX2_init 49 = .ok (.return_, 1) := by decide +kernel
theorem dX2_setAccepted_0 : decode cX2_setAccepted 0 = .ok (.aload_n 0, 1) := by decide +kernel
theorem dX2_setAccepted_1 : decode cX2_setAccepted 1 = .ok (.iload_n 1, 1) := by decide +kernel
theorem dX2_setAccepted_2 : decode cX2_setAccepted 2 = .ok (.putfield 24, 3) := by decide +kernel
theorem dX2_setAccepted_5 : decode cX2_setAccepted 5 = .ok (.aload_n 0, 1) := by decide +kernel
theorem dX2_setAccepted_6 : decode cX2_setAccepted 6 = .ok (.iload_n 2, 1) := by decide +kernel
theorem dX2_setAccepted_7 : decode cX2_setAccepted 7 = .ok (.putfield 28, 3) := by decide +kernel
theorem dX2_setAccepted_10 : decode cX2_setAccepted 10 = .ok (.return_, 1) := by decide +kernel
theorem dX2_startRinging_0 : decode cX2_startRinging 0 = .ok (.aload_n 0, 1) := by decide +kernel
theorem dX2_startRinging_1 : decode cX2_startRinging 1 = .ok (.getfield 38, 3) := by decide +kernel
theorem dX2_startRinging_4 : decode cX2_startRinging 4 = .ok (.iconst 1, 1) := by decide +kernel
theorem dX2_startRinging_5 : decode cX2_startRinging 5 = .ok (.if_icmp .eq 5, 3) := by decide +kernel
theorem dX2_startRinging_8 : decode cX2_startRinging 8 = .ok (.iconst 0, 1) := by decide +kernel
theorem dX2_startRinging_9 : decode cX2_startRinging 9 = .ok (.ireturn, 1) := by decide +kernel
theorem dX2_startRinging_10 : decode cX2_startRinging 10 = .ok (.aload_n 0, 1) := by decide +kernel
theorem dX2_startRinging_11 : decode cX2_startRinging 11 = .ok (.getfield 41, 3) := by decide +kernel
theorem dX2_startRinging_14 : decode cX2_startRinging 14 = .ok (.iconst 3, 1) := by decide +kernel
theorem dX2_startRinging_15 : decode cX2_startRinging 15 = .ok (.iconst 1, 1) := by decide +kernel
theorem dX2_startRinging_16 : decode cX2_startRinging 16 = .ok (.invokevirtual 45, 3) := by decide +kernel
theorem dX2_startRinging_19 : decode cX2_startRinging 19 = .ok (.pop, 1) := by decide +kernel
theorem dX2_startRinging_20 : decode cX2_startRinging 20 = .ok (.aload_n 0, 1) := by decide +kernel
theorem dX2_startRinging_21 : decode cX2_startRinging 21 = .ok (.iconst 2, 1) := by decide +kernel
theorem dX2_startRinging_22 : decode cX2_startRinging 22 = .ok (.iconst 0, 1) := by decide +kernel
theorem dX2_startRinging_23 : decode cX2_startRinging 23 = .ok (.invokevirtual 51, 3) := by decide +kernel
theorem dX2_startRinging_26 : decode cX2_startRinging 26 = .ok (.iconst 1, 1) := by decide +kernel
theorem dX2_startRinging_27 : decode cX2_startRinging 27 = .ok (.ireturn, 1) := by decide +kernel
theorem dX2_startAnswered_0 : decode cX2_startAnswered 0 = .ok (.aload_n 0, 1) := by decide +kernel
theorem dX2_startAnswered_1 : decode cX2_startAnswered 1 = .ok (.iconst 1, 1) := by decide +kernel
theorem dX2_startAnswered_2 : decode cX2_startAnswered 2 = .ok (.iconst 2, 1) := by decide +kernel
theorem dX2_startAnswered_3 : decode cX2_startAnswered 3 = .ok (.invokevirtual 54, 3) := by decide +kernel
theorem dX2_startAnswered_6 : decode cX2_startAnswered 6 = .ok (.ifCond .ne 5, 3) := by decide +kernel
theorem dX2_startAnswered_9 : decode cX2_startAnswered 9 = .ok (.iconst 0, 1) := by decide +kernel
theorem dX2_startAnswered_10 : decode cX2_startAnswered 10 = .ok (.ireturn, 1) := by decide +kernel
theorem dX2_startAnswered_11 : decode cX2_startAnswered 11 = .ok (.aload_n 0, 1) := by decide +kernel
theorem dX2_startAnswered_12 : decode cX2_startAnswered 12 = .ok (.getfield 41, 3) := by decide +kernel
theorem dX2_startAnswered_15 : decode cX2_startAnswered 15 = .ok (.iconst 3, 1) := by decide +kernel
theorem dX2_startAnswered_16 : decode cX2_startAnswered 16 = .ok (.bipush 7, 2) := by decide +kernel
theorem dX2_startAnswered_18 : decode cX2_startAnswered 18 = .ok (.invokevirtual 45, 3) := by decide +kernel
theorem dX2_startAnswered_21 : decode cX2_startAnswered 21 = .ok (.pop, 1) := by decide +kernel
theorem dX2_startAnswered_22 : decode cX2_startAnswered 22 = .ok (.aload_n 0, 1) := by decide +kernel
theorem dX2_startAnswered_23 : decode cX2_startAnswered 23 = .ok (.iconst 3, 1) := by decide +kernel
theorem dX2_startAnswered_24 : decode cX2_startAnswered 24 = .ok (.bipush 10, 2) := by decide +kernel
theorem dX2_startAnswered_26 : decode cX2_startAnswered 26 = .ok (.invokevirtual 51, 3) := by decide +kernel
theorem dX2_startAnswered_29 : decode cX2_startAnswered 29 = .ok (.iconst 1, 1) := by decide +kernel
theorem dX2_startAnswered_30 : decode cX2_startAnswered 30 = .ok (.ireturn, 1) := by decide +kernel
theorem dX2_numberByte_0 : decode cX2_numberByte 0 = .ok (.aload_n 0, 1) := by decide +kernel
theorem dX2_numberByte_1 : decode cX2_numberByte 1 = .ok (.getfield 38, 3) := by decide +kernel
theorem dX2_numberByte_4 : decode cX2_numberByte 4 = .ok (.ifCond .eq 24, 3) := by decide +kernel
theorem dX2_numberByte_7 : decode cX2_numberByte 7 = .ok (.iload_n 1, 1) := by decide +kernel
theorem dX2_numberByte_8 : decode cX2_numberByte 8 = .ok (.ifCond .lt 20, 3) := by decide +kernel
theorem dX2_numberByte_11 : decode cX2_numberByte 11 = .ok (.iload_n 1, 1) := by decide +kernel
theorem dX2_numberByte_12 : decode cX2_numberByte 12 = .ok (.aload_n 0, 1) := by decide +kernel
theorem dX2_numberByte_13 : decode cX2_numberByte 13 = .ok (.getfield 35, 3) := by decide +kernel
theorem dX2_numberByte_16 : decode cX2_numberByte 16 = .ok (.if_icmp .ge 12, 3) := by decide +kernel
theorem dX2_numberByte_19 : decode cX2_numberByte 19 = .ok (.aload_n 0, 1) := by decide +kernel
theorem dX2_numberByte_20 : decode cX2_numberByte 20 = .ok (.getfield 31, 3) := by decide +kernel
theorem dX2_numberByte_23 : decode cX2_numberByte 23 = .ok (.iload_n 1, 1) := by decide +kernel
theorem dX2_numberByte_24 : decode cX2_numberByte 24 = .ok (.iaload, 1) := by decide +kernel
theorem dX2_numberByte_25 : decode cX2_numberByte 25 = .ok (.goto 5, 3) := by decide +kernel
theorem dX2_numberByte_28 : decode cX2_numberByte 28 = .ok (.bipush (-3), 2) := by decide +kernel
theorem dX2_numberByte_30 : decode cX2_numberByte 30 = .ok (.ireturn, 1) := by decide +kernel
theorem dX2_takesManaging_0 : decode cX2_takesManaging 0 = .ok (.aload_n 1, 1) := by decide +kernel
theorem dX2_takesManaging_1 : decode cX2_takesManaging 1 = .ok (.invokevirtual 58, 3) := by decide +kernel
theorem dX2_takesManaging_4 : decode cX2_takesManaging 4 = .ok (.lookupswitch 66 #[(1, 61), (8, 44), (20, 55), (36, 50)], 44) := by decide +kernel
theorem dX2_takesManaging_48 : decode cX2_takesManaging 48 = .ok (.aload_n 0, 1) := by decide +kernel
theorem dX2_takesManaging_49 : decode cX2_takesManaging 49 = .ok (.aload_n 1, 1) := by decide +kernel
theorem dX2_takesManaging_50 : decode cX2_takesManaging 50 = .ok (.invokevirtual 64, 3) := by decide +kernel
theorem dX2_takesManaging_53 : decode cX2_takesManaging 53 = .ok (.ireturn, 1) := by decide +kernel
theorem dX2_takesManaging_54 : decode cX2_takesManaging 54 = .ok (.aload_n 0, 1) := by decide +kernel
theorem dX2_takesManaging_55 : decode cX2_takesManaging 55 = .ok (.invokevirtual 68, 3) := by decide +kernel
theorem dX2_takesManaging_58 : decode cX2_takesManaging 58 = .ok (.ireturn, 1) := by decide +kernel
theorem dX2_takesManaging_59 : decode cX2_takesManaging 59 = .ok (.aload_n 0, 1) := by decide +kernel
theorem dX2_takesManaging_60 : decode cX2_takesManaging 60 = .ok (.aload_n 1, 1) := by decide +kernel
theorem dX2_takesManaging_61 : decode cX2_takesManaging 61 = .ok (.invokevirtual 72, 3) := by decide +kernel
theorem dX2_takesManaging_64 : decode cX2_takesManaging 64 = .ok (.ireturn, 1) := by decide +kernel
theorem dX2_takesManaging_65 : decode cX2_takesManaging 65 = .ok (.aload_n 0, 1) := by decide +kernel
theorem dX2_takesManaging_66 : decode cX2_takesManaging 66 = .ok (.invokevirtual 75, 3) := by decide +kernel
theorem dX2_takesManaging_69 : decode cX2_takesManaging 69 = .ok (.ireturn, 1) := by decide +kernel
theorem dX2_takesManaging_70 : decode cX2_takesManaging 70 = .ok (.iconst 0, 1) := by decide +kernel
theorem dX2_takesManaging_71 : decode cX2_takesManaging 71 = .ok (.ireturn, 1) := by decide +kernel
theorem dX2_takesCalling_0 : decode cX2_takesCalling 0 = .ok (.aload_n 0, 1) := by decide +kernel
theorem dX2_takesCalling_1 : decode cX2_takesCalling 1 = .ok (.getfield 78, 3) := by decide +kernel
theorem dX2_takesCalling_4 : decode cX2_takesCalling 4 = .ok (.iconst 3, 1) := by decide +kernel
theorem dX2_takesCalling_5 : decode cX2_takesCalling 5 = .ok (.if_icmp .eq 5, 3) := by decide +kernel
theorem dX2_takesCalling_8 : decode cX2_takesCalling 8 = .ok (.iconst 0, 1) := by decide +kernel
theorem dX2_takesCalling_9 : decode cX2_takesCalling 9 = .ok (.ireturn, 1) := by decide +kernel
theorem dX2_takesCalling_10 : decode cX2_takesCalling 10 = .ok (.aload_n 1, 1) := by decide +kernel
theorem dX2_takesCalling_11 : decode cX2_takesCalling 11 = .ok (.invokevirtual 58, 3) := by decide +kernel
theorem dX2_takesCalling_14 : decode cX2_takesCalling 14 = .ok (.lookupswitch 77 #[(5, 50), (15, 56), (37, 61), (42, 72), (45, 67)], 50) := by decide +kernel
theorem dX2_takesCalling_64 : decode cX2_takesCalling 64 = .ok (.aload_n 0, 1) := by decide +kernel
theorem dX2_takesCalling_65 : decode cX2_takesCalling 65 = .ok (.aload_n 1, 1) := by decide +kernel
theorem dX2_takesCalling_66 : decode cX2_takesCalling 66 = .ok (.invokevirtual 81, 3) := by decide +kernel
theorem dX2_takesCalling_69 : decode cX2_takesCalling 69 = .ok (.ireturn, 1) := by decide +kernel
theorem dX2_takesCalling_70 : decode cX2_takesCalling 70 = .ok (.aload_n 0, 1) := by decide +kernel
theorem dX2_takesCalling_71 : decode cX2_takesCalling 71 = .ok (.invokevirtual 84, 3) := by decide +kernel
theorem dX2_takesCalling_74 : decode cX2_takesCalling 74 = .ok (.ireturn, 1) := by decide +kernel
theorem dX2_takesCalling_75 : decode cX2_takesCalling 75 = .ok (.aload_n 0, 1) := by decide +kernel
theorem dX2_takesCalling_76 : decode cX2_takesCalling 76 = .ok (.aload_n 1, 1) := by decide +kernel
theorem dX2_takesCalling_77 : decode cX2_takesCalling 77 = .ok (.invokevirtual 87, 3) := by decide +kernel
theorem dX2_takesCalling_80 : decode cX2_takesCalling 80 = .ok (.ireturn, 1) := by decide +kernel
theorem dX2_takesCalling_81 : decode cX2_takesCalling 81 = .ok (.aload_n 0, 1) := by decide +kernel
theorem dX2_takesCalling_82 : decode cX2_takesCalling 82 = .ok (.invokevirtual 90, 3) := by decide +kernel
theorem dX2_takesCalling_85 : decode cX2_takesCalling 85 = .ok (.ireturn, 1) := by decide +kernel
theorem dX2_takesCalling_86 : decode cX2_takesCalling 86 = .ok (.aload_n 0, 1) := by decide +kernel
theorem dX2_takesCalling_87 : decode cX2_takesCalling 87 = .ok (.invokevirtual 93, 3) := by decide +kernel
theorem dX2_takesCalling_90 : decode cX2_takesCalling 90 = .ok (.ireturn, 1) := by decide +kernel
theorem dX2_takesCalling_91 : decode cX2_takesCalling 91 = .ok (.iconst 0, 1) := by decide +kernel
theorem dX2_takesCalling_92 : decode cX2_takesCalling 92 = .ok (.ireturn, 1) := by decide +kernel
theorem dX2_timeOut_0 : decode cX2_timeOut 0 = .ok (.aload_n 0, 1) := by decide +kernel
theorem dX2_timeOut_1 : decode cX2_timeOut 1 = .ok (.getfield 38, 3) := by decide +kernel
theorem dX2_timeOut_4 : decode cX2_timeOut 4 = .ok (.iconst 3, 1) := by decide +kernel
theorem dX2_timeOut_5 : decode cX2_timeOut 5 = .ok (.if_icmp .ne 13, 3) := by decide +kernel
theorem dX2_timeOut_8 : decode cX2_timeOut 8 = .ok (.aload_n 0, 1) := by decide +kernel
theorem dX2_timeOut_9 : decode cX2_timeOut 9 = .ok (.bipush 102, 2) := by decide +kernel
theorem dX2_timeOut_11 : decode cX2_timeOut 11 = .ok (.invokevirtual 96, 3) := by decide +kernel
theorem dX2_timeOut_14 : decode cX2_timeOut 14 = .ok (.pop, 1) := by decide +kernel
theorem dX2_timeOut_15 : decode cX2_timeOut 15 = .ok (.goto 7, 3) := by decide +kernel
theorem dX2_timeOut_18 : decode cX2_timeOut 18 = .ok (.aload_n 0, 1) := by decide +kernel
theorem dX2_timeOut_19 : decode cX2_timeOut 19 = .ok (.invokevirtual 100, 3) := by decide +kernel
theorem dX2_timeOut_22 : decode cX2_timeOut 22 = .ok (.return_, 1) := by decide +kernel
theorem dX2_takesDetach_0 : decode cX2_takesDetach 0 = .ok (.aload_n 0, 1) := by decide +kernel
theorem dX2_takesDetach_1 : decode cX2_takesDetach 1 = .ok (.invokevirtual 104, 3) := by decide +kernel
theorem dX2_takesDetach_4 : decode cX2_takesDetach 4 = .ok (.iconst 1, 1) := by decide +kernel
theorem dX2_takesDetach_5 : decode cX2_takesDetach 5 = .ok (.ireturn, 1) := by decide +kernel
theorem dX2_forgetMobile_0 : decode cX2_forgetMobile 0 = .ok (.aload_n 0, 1) := by decide +kernel
theorem dX2_forgetMobile_1 : decode cX2_forgetMobile 1 = .ok (.iconst (-1), 1) := by decide +kernel
theorem dX2_forgetMobile_2 : decode cX2_forgetMobile 2 = .ok (.putfield 15, 3) := by decide +kernel
theorem dX2_forgetMobile_5 : decode cX2_forgetMobile 5 = .ok (.aload_n 0, 1) := by decide +kernel
theorem dX2_forgetMobile_6 : decode cX2_forgetMobile 6 = .ok (.invokevirtual 107, 3) := by decide +kernel
theorem dX2_forgetMobile_9 : decode cX2_forgetMobile 9 = .ok (.return_, 1) := by decide +kernel
theorem dX2_takesUpdate_0 : decode cX2_takesUpdate 0 = .ok (.aload_n 0, 1) := by decide +kernel
theorem dX2_takesUpdate_1 : decode cX2_takesUpdate 1 = .ok (.getfield 78, 3) := by decide +kernel
theorem dX2_takesUpdate_4 : decode cX2_takesUpdate 4 = .ok (.ifCond .ne 13, 3) := by decide +kernel
theorem dX2_takesUpdate_7 : decode cX2_takesUpdate 7 = .ok (.aload_n 1, 1) := by decide +kernel
theorem dX2_takesUpdate_8 : decode cX2_takesUpdate 8 = .ok (.bipush 19, 2) := by decide +kernel
theorem dX2_takesUpdate_10 : decode cX2_takesUpdate 10 = .ok (.iconst 2, 1) := by decide +kernel
theorem dX2_takesUpdate_11 : decode cX2_takesUpdate 11 = .ok (.invokevirtual 110, 3) := by decide +kernel
theorem dX2_takesUpdate_14 : decode cX2_takesUpdate 14 = .ok (.ifCond .ne 5, 3) := by decide +kernel
theorem dX2_takesUpdate_17 : decode cX2_takesUpdate 17 = .ok (.iconst 0, 1) := by decide +kernel
theorem dX2_takesUpdate_18 : decode cX2_takesUpdate 18 = .ok (.ireturn, 1) := by decide +kernel
theorem dX2_takesUpdate_19 : decode cX2_takesUpdate 19 = .ok (.aload_n 0, 1) := by decide +kernel
theorem dX2_takesUpdate_20 : decode cX2_takesUpdate 20 = .ok (.aload_n 1, 1) := by decide +kernel
theorem dX2_takesUpdate_21 : decode cX2_takesUpdate 21 = .ok (.bipush 19, 2) := by decide +kernel
theorem dX2_takesUpdate_23 : decode cX2_takesUpdate 23 = .ok (.iconst 2, 1) := by decide +kernel
theorem dX2_takesUpdate_24 : decode cX2_takesUpdate 24 = .ok (.invokevirtual 113, 3) := by decide +kernel
theorem dX2_takesUpdate_27 : decode cX2_takesUpdate 27 = .ok (.putfield 21, 3) := by decide +kernel
theorem dX2_takesUpdate_30 : decode cX2_takesUpdate 30 = .ok (.aload_n 0, 1) := by decide +kernel
theorem dX2_takesUpdate_31 : decode cX2_takesUpdate 31 = .ok (.iconst 1, 1) := by decide +kernel
theorem dX2_takesUpdate_32 : decode cX2_takesUpdate 32 = .ok (.invokevirtual 116, 3) := by decide +kernel
theorem dX2_takesUpdate_35 : decode cX2_takesUpdate 35 = .ok (.iconst 1, 1) := by decide +kernel
theorem dX2_takesUpdate_36 : decode cX2_takesUpdate 36 = .ok (.ireturn, 1) := by decide +kernel
theorem dX2_takesService_0 : decode cX2_takesService 0 = .ok (.aload_n 0, 1) := by decide +kernel
theorem dX2_takesService_1 : decode cX2_takesService 1 = .ok (.getfield 78, 3) := by decide +kernel
theorem dX2_takesService_4 : decode cX2_takesService 4 = .ok (.ifCond .eq 5, 3) := by decide +kernel
theorem dX2_takesService_7 : decode cX2_takesService 7 = .ok (.iconst 0, 1) := by decide +kernel
theorem dX2_takesService_8 : decode cX2_takesService 8 = .ok (.ireturn, 1) := by decide +kernel
theorem dX2_takesService_9 : decode cX2_takesService 9 = .ok (.aload_n 0, 1) := by decide +kernel
theorem dX2_takesService_10 : decode cX2_takesService 10 = .ok (.getfield 15, 3) := by decide +kernel
theorem dX2_takesService_13 : decode cX2_takesService 13 = .ok (.iconst (-1), 1) := by decide +kernel
theorem dX2_takesService_14 : decode cX2_takesService 14 = .ok (.if_icmp .ne 23, 3) := by decide +kernel
theorem dX2_takesService_17 : decode cX2_takesService 17 = .ok (.aload_n 0, 1) := by decide +kernel
theorem dX2_takesService_18 : decode cX2_takesService 18 = .ok (.getfield 41, 3) := by decide +kernel
theorem dX2_takesService_21 : decode cX2_takesService 21 = .ok (.iconst 5, 1) := by decide +kernel
theorem dX2_takesService_22 : decode cX2_takesService 22 = .ok (.bipush 34, 2) := by decide +kernel
theorem dX2_takesService_24 : decode cX2_takesService 24 = .ok (.invokevirtual 45, 3) := by decide +kernel
theorem dX2_takesService_27 : decode cX2_takesService 27 = .ok (.bipush 8, 2) := by decide +kernel
theorem dX2_takesService_29 : decode cX2_takesService 29 = .ok (.iconst 1, 1) := by decide +kernel
theorem dX2_takesService_30 : decode cX2_takesService 30 = .ok (.iconst 4, 1) := by decide +kernel
theorem dX2_takesService_31 : decode cX2_takesService 31 = .ok (.invokevirtual 120, 3) := by decide +kernel
theorem dX2_takesService_34 : decode cX2_takesService 34 = .ok (.goto 8, 3) := by decide +kernel
theorem dX2_takesService_37 : decode cX2_takesService 37 = .ok (.aload_n 0, 1) := by decide +kernel
theorem dX2_takesService_38 : decode cX2_takesService 38 = .ok (.iconst 2, 1) := by decide +kernel
theorem dX2_takesService_39 : decode cX2_takesService 39 = .ok (.invokevirtual 116, 3) := by decide +kernel
theorem dX2_takesService_42 : decode cX2_takesService 42 = .ok (.iconst 1, 1) := by decide +kernel
theorem dX2_takesService_43 : decode cX2_takesService 43 = .ok (.ireturn, 1) := by decide +kernel
theorem dX2_sendChallenge_0 : decode cX2_sendChallenge 0 = .ok (.aload_n 0, 1) := by decide +kernel
theorem dX2_sendChallenge_1 : decode cX2_sendChallenge 1 = .ok (.aload_n 0, 1) := by decide +kernel
theorem dX2_sendChallenge_2 : decode cX2_sendChallenge 2 = .ok (.getfield 18, 3) := by decide +kernel
theorem dX2_sendChallenge_5 : decode cX2_sendChallenge 5 = .ok (.ldc 124, 2) := by decide +kernel
theorem dX2_sendChallenge_7 : decode cX2_sendChallenge 7 = .ok (.imul, 1) := by decide +kernel
theorem dX2_sendChallenge_8 : decode cX2_sendChallenge 8 = .ok (.sipush 12345, 3) := by decide +kernel
theorem dX2_sendChallenge_11 : decode cX2_sendChallenge 11 = .ok (.iadd, 1) := by decide +kernel
theorem dX2_sendChallenge_12 : decode cX2_sendChallenge 12 = .ok (.putfield 18, 3) := by decide +kernel
theorem dX2_sendChallenge_15 : decode cX2_sendChallenge 15 = .ok (.aload_n 0, 1) := by decide +kernel
theorem dX2_sendChallenge_16 : decode cX2_sendChallenge 16 = .ok (.getfield 41, 3) := by decide +kernel
theorem dX2_sendChallenge_19 : decode cX2_sendChallenge 19 = .ok (.iconst 5, 1) := by decide +kernel
theorem dX2_sendChallenge_20 : decode cX2_sendChallenge 20 = .ok (.bipush 18, 2) := by decide +kernel
theorem dX2_sendChallenge_22 : decode cX2_sendChallenge 22 = .ok (.invokevirtual 45, 3) := by decide +kernel
theorem dX2_sendChallenge_25 : decode cX2_sendChallenge 25 = .ok (.bipush 33, 2) := by decide +kernel
theorem dX2_sendChallenge_27 : decode cX2_sendChallenge 27 = .ok (.iconst 4, 1) := by decide +kernel
theorem dX2_sendChallenge_28 : decode cX2_sendChallenge 28 = .ok (.aload_n 0, 1) := by decide +kernel
theorem dX2_sendChallenge_29 : decode cX2_sendChallenge 29 = .ok (.getfield 18, 3) := by decide +kernel
theorem dX2_sendChallenge_32 : decode cX2_sendChallenge 32 = .ok (.invokevirtual 120, 3) := by decide +kernel
theorem dX2_sendChallenge_35 : decode cX2_sendChallenge 35 = .ok (.aload_n 0, 1) := by decide +kernel
theorem dX2_sendChallenge_36 : decode cX2_sendChallenge 36 = .ok (.iload_n 1, 1) := by decide +kernel
theorem dX2_sendChallenge_37 : decode cX2_sendChallenge 37 = .ok (.bipush 12, 2) := by decide +kernel
theorem dX2_sendChallenge_39 : decode cX2_sendChallenge 39 = .ok (.invokevirtual 125, 3) := by decide +kernel
theorem dX2_sendChallenge_42 : decode cX2_sendChallenge 42 = .ok (.return_, 1) := by decide +kernel
theorem dX2_takesAnswer_0 : decode cX2_takesAnswer 0 = .ok (.aload_n 0, 1) := by decide +kernel
theorem dX2_takesAnswer_1 : decode cX2_takesAnswer 1 = .ok (.getfield 78, 3) := by decide +kernel
theorem dX2_takesAnswer_4 : decode cX2_takesAnswer 4 = .ok (.iconst 1, 1) := by decide +kernel
theorem dX2_takesAnswer_5 : decode cX2_takesAnswer 5 = .ok (.if_icmp .eq 11, 3) := by decide +kernel
theorem dX2_takesAnswer_8 : decode cX2_takesAnswer 8 = .ok (.aload_n 0, 1) := by decide +kernel
theorem dX2_takesAnswer_9 : decode cX2_takesAnswer 9 = .ok (.getfield 78, 3) := by decide +kernel
theorem dX2_takesAnswer_12 : decode cX2_takesAnswer 12 = .ok (.iconst 2, 1) := by decide +kernel
theorem dX2_takesAnswer_13 : decode cX2_takesAnswer 13 = .ok (.if_icmp .ne 7, 3) := by decide +kernel
theorem dX2_takesAnswer_16 : decode cX2_takesAnswer 16 = .ok (.iconst 1, 1) := by decide +kernel
theorem dX2_takesAnswer_17 : decode cX2_takesAnswer 17 = .ok (.goto 4, 3) := by decide +kernel
theorem dX2_takesAnswer_20 : decode cX2_takesAnswer 20 = .ok (.iconst 0, 1) := by decide +kernel
theorem dX2_takesAnswer_21 : decode cX2_takesAnswer 21 = .ok (.istore_n 2, 1) := by decide +kernel
theorem dX2_takesAnswer_22 : decode cX2_takesAnswer 22 = .ok (.iload_n 2, 1) := by decide +kernel
theorem dX2_takesAnswer_23 : decode cX2_takesAnswer 23 = .ok (.ifCond .eq 13, 3) := by decide +kernel
theorem dX2_takesAnswer_26 : decode cX2_takesAnswer 26 = .ok (.aload_n 1, 1) := by decide +kernel
theorem dX2_takesAnswer_27 : decode cX2_takesAnswer 27 = .ok (.bipush 34, 2) := by decide +kernel
theorem dX2_takesAnswer_29 : decode cX2_takesAnswer 29 = .ok (.iconst 4, 1) := by decide +kernel
theorem dX2_takesAnswer_30 : decode cX2_takesAnswer 30 = .ok (.invokevirtual 110, 3) := by decide +kernel
theorem dX2_takesAnswer_33 : decode cX2_takesAnswer 33 = .ok (.ifCond .ne 5, 3) := by decide +kernel
theorem dX2_takesAnswer_36 : decode cX2_takesAnswer 36 = .ok (.iconst 0, 1) := by decide +kernel
theorem dX2_takesAnswer_37 : decode cX2_takesAnswer 37 = .ok (.ireturn, 1) := by decide +kernel
theorem dX2_takesAnswer_38 : decode cX2_takesAnswer 38 = .ok (.aload_n 1, 1) := by decide +kernel
theorem dX2_takesAnswer_39 : decode cX2_takesAnswer 39 = .ok (.bipush 34, 2) := by decide +kernel
theorem dX2_takesAnswer_41 : decode cX2_takesAnswer 41 = .ok (.iconst 4, 1) := by decide +kernel
theorem dX2_takesAnswer_42 : decode cX2_takesAnswer 42 = .ok (.invokevirtual 113, 3) := by decide +kernel
theorem dX2_takesAnswer_45 : decode cX2_takesAnswer 45 = .ok (.aload_n 0, 1) := by decide +kernel
theorem dX2_takesAnswer_46 : decode cX2_takesAnswer 46 = .ok (.getfield 18, 3) := by decide +kernel
theorem dX2_takesAnswer_49 : decode cX2_takesAnswer 49 = .ok (.aload_n 0, 1) := by decide +kernel
theorem dX2_takesAnswer_50 : decode cX2_takesAnswer 50 = .ok (.getfield 11, 3) := by decide +kernel
theorem dX2_takesAnswer_53 : decode cX2_takesAnswer 53 = .ok (.invokestatic 128, 3) := by decide +kernel
theorem dX2_takesAnswer_56 : decode cX2_takesAnswer 56 = .ok (.if_icmp .eq 21, 3) := by decide +kernel
theorem dX2_takesAnswer_59 : decode cX2_takesAnswer 59 = .ok (.aload_n 0, 1) := by decide +kernel
theorem dX2_takesAnswer_60 : decode cX2_takesAnswer 60 = .ok (.getfield 41, 3) := by decide +kernel
theorem dX2_takesAnswer_63 : decode cX2_takesAnswer 63 = .ok (.iconst 5, 1) := by decide +kernel
theorem dX2_takesAnswer_64 : decode cX2_takesAnswer 64 = .ok (.bipush 17, 2) := by decide +kernel
theorem dX2_takesAnswer_66 : decode cX2_takesAnswer 66 = .ok (.invokevirtual 45, 3) := by decide +kernel
theorem dX2_takesAnswer_69 : decode cX2_takesAnswer 69 = .ok (.pop, 1) := by decide +kernel
theorem dX2_takesAnswer_70 : decode cX2_takesAnswer 70 = .ok (.aload_n 0, 1) := by decide +kernel
theorem dX2_takesAnswer_71 : decode cX2_takesAnswer 71 = .ok (.invokevirtual 104, 3) := by decide +kernel
theorem dX2_takesAnswer_74 : decode cX2_takesAnswer 74 = .ok (.goto 22, 3) := by decide +kernel
theorem dX2_takesAnswer_77 : decode cX2_takesAnswer 77 = .ok (.aload_n 0, 1) := by decide +kernel
theorem dX2_takesAnswer_78 : decode cX2_takesAnswer 78 = .ok (.getfield 78, 3) := by decide +kernel
theorem dX2_takesAnswer_81 : decode cX2_takesAnswer 81 = .ok (.iconst 1, 1) := by decide +kernel
theorem dX2_takesAnswer_82 : decode cX2_takesAnswer 82 = .ok (.if_icmp .ne 10, 3) := by decide +kernel
theorem dX2_takesAnswer_85 : decode cX2_takesAnswer 85 = .ok (.aload_n 0, 1) := by decide +kernel
theorem dX2_takesAnswer_86 : decode cX2_takesAnswer 86 = .ok (.invokevirtual 131, 3) := by decide +kernel
theorem dX2_takesAnswer_89 : decode cX2_takesAnswer 89 = .ok (.goto 7, 3) := by decide +kernel
theorem dX2_takesAnswer_92 : decode cX2_takesAnswer 92 = .ok (.aload_n 0, 1) := by decide +kernel
theorem dX2_takesAnswer_93 : decode cX2_takesAnswer 93 = .ok (.invokevirtual 134, 3) := by decide +kernel
theorem dX2_takesAnswer_96 : decode cX2_takesAnswer 96 = .ok (.iconst 1, 1) := by decide +kernel
theorem dX2_takesAnswer_97 : decode cX2_takesAnswer 97 = .ok (.ireturn, 1) := by decide +kernel
theorem dX2_decideUpdate_0 : decode cX2_decideUpdate 0 = .ok (.aload_n 0, 1) := by decide +kernel
theorem dX2_decideUpdate_1 : decode cX2_decideUpdate 1 = .ok (.getfield 24, 3) := by decide +kernel
theorem dX2_decideUpdate_4 : decode cX2_decideUpdate 4 = .ok (.ifCond .eq 33, 3) := by decide +kernel
theorem dX2_decideUpdate_7 : decode cX2_decideUpdate 7 = .ok (.aload_n 0, 1) := by decide +kernel
theorem dX2_decideUpdate_8 : decode cX2_decideUpdate 8 = .ok (.aload_n 0, 1) := by decide +kernel
theorem dX2_decideUpdate_9 : decode cX2_decideUpdate 9 = .ok (.getfield 21, 3) := by decide +kernel
theorem dX2_decideUpdate_12 : decode cX2_decideUpdate 12 = .ok (.putfield 15, 3) := by decide +kernel
theorem dX2_decideUpdate_15 : decode cX2_decideUpdate 15 = .ok (.aload_n 0, 1) := by decide +kernel
theorem dX2_decideUpdate_16 : decode cX2_decideUpdate 16 = .ok (.getfield 41, 3) := by decide +kernel
theorem dX2_decideUpdate_19 : decode cX2_decideUpdate 19 = .ok (.iconst 5, 1) := by decide +kernel
theorem dX2_decideUpdate_20 : decode cX2_decideUpdate 20 = .ok (.iconst 2, 1) := by decide +kernel
theorem dX2_decideUpdate_21 : decode cX2_decideUpdate 21 = .ok (.invokevirtual 45, 3) := by decide +kernel
theorem dX2_decideUpdate_24 : decode cX2_decideUpdate 24 = .ok (.bipush 19, 2) := by decide +kernel
theorem dX2_decideUpdate_26 : decode cX2_decideUpdate 26 = .ok (.iconst 2, 1) := by decide +kernel
theorem dX2_decideUpdate_27 : decode cX2_decideUpdate 27 = .ok (.aload_n 0, 1) := by decide +kernel
theorem dX2_decideUpdate_28 : decode cX2_decideUpdate 28 = .ok (.getfield 15, 3) := by decide +kernel
theorem dX2_decideUpdate_31 : decode cX2_decideUpdate 31 = .ok (.invokevirtual 120, 3) := by decide +kernel
theorem dX2_decideUpdate_34 : decode cX2_decideUpdate 34 = .ok (.goto 20, 3) := by decide +kernel
theorem dX2_decideUpdate_37 : decode cX2_decideUpdate 37 = .ok (.aload_n 0, 1) := by decide +kernel
theorem dX2_decideUpdate_38 : decode cX2_decideUpdate 38 = .ok (.getfield 41, 3) := by decide +kernel
theorem dX2_decideUpdate_41 : decode cX2_decideUpdate 41 = .ok (.iconst 5, 1) := by decide +kernel
theorem dX2_decideUpdate_42 : decode cX2_decideUpdate 42 = .ok (.iconst 4, 1) := by decide +kernel
theorem dX2_decideUpdate_43 : decode cX2_decideUpdate 43 = .ok (.invokevirtual 45, 3) := by decide +kernel
theorem dX2_decideUpdate_46 : decode cX2_decideUpdate 46 = .ok (.bipush 8, 2) := by decide +kernel
theorem dX2_decideUpdate_48 : decode cX2_decideUpdate 48 = .ok (.iconst 1, 1) := by decide +kernel
theorem dX2_decideUpdate_49 : decode cX2_decideUpdate 49 = .ok (.bipush 11, 2) := by decide +kernel
theorem dX2_decideUpdate_51 : decode cX2_decideUpdate 51 = .ok (.invokevirtual 120, 3) := by decide +kernel
theorem dX2_decideUpdate_54 : decode cX2_decideUpdate 54 = .ok (.aload_n 0, 1) := by decide +kernel
theorem dX2_decideUpdate_55 : decode cX2_decideUpdate 55 = .ok (.invokevirtual 107, 3) := by decide +kernel
theorem dX2_decideUpdate_58 : decode cX2_decideUpdate 58 = .ok (.return_, 1) := by decide +kernel
theorem dX2_decideService_0 : decode cX2_decideService 0 = .ok (.aload_n 0, 1) := by decide +kernel
theorem dX2_decideService_1 : decode cX2_decideService 1 = .ok (.getfield 28, 3) := by decide +kernel
theorem dX2_decideService_4 : decode cX2_decideService 4 = .ok (.ifCond .eq 23, 3) := by decide +kernel
theorem dX2_decideService_7 : decode cX2_decideService 7 = .ok (.aload_n 0, 1) := by decide +kernel
theorem dX2_decideService_8 : decode cX2_decideService 8 = .ok (.getfield 41, 3) := by decide +kernel
theorem dX2_decideService_11 : decode cX2_decideService 11 = .ok (.iconst 5, 1) := by decide +kernel
theorem dX2_decideService_12 : decode cX2_decideService 12 = .ok (.bipush 33, 2) := by decide +kernel
theorem dX2_decideService_14 : decode cX2_decideService 14 = .ok (.invokevirtual 45, 3) := by decide +kernel
theorem dX2_decideService_17 : decode cX2_decideService 17 = .ok (.pop, 1) := by decide +kernel
theorem dX2_decideService_18 : decode cX2_decideService 18 = .ok (.aload_n 0, 1) := by decide +kernel
theorem dX2_decideService_19 : decode cX2_decideService 19 = .ok (.iconst 3, 1) := by decide +kernel
theorem dX2_decideService_20 : decode cX2_decideService 20 = .ok (.iconst 0, 1) := by decide +kernel
theorem dX2_decideService_21 : decode cX2_decideService 21 = .ok (.invokevirtual 125, 3) := by decide +kernel
theorem dX2_decideService_24 : decode cX2_decideService 24 = .ok (.goto 25, 3) := by decide +kernel
theorem dX2_decideService_27 : decode cX2_decideService 27 = .ok (.aload_n 0, 1) := by decide +kernel
theorem dX2_decideService_28 : decode cX2_decideService 28 = .ok (.getfield 41, 3) := by decide +kernel
theorem dX2_decideService_31 : decode cX2_decideService 31 = .ok (.iconst 5, 1) := by decide +kernel
theorem dX2_decideService_32 : decode cX2_decideService 32 = .ok (.bipush 34, 2) := by decide +kernel
theorem dX2_decideService_34 : decode cX2_decideService 34 = .ok (.invokevirtual 45, 3) := by decide +kernel
theorem dX2_decideService_37 : decode cX2_decideService 37 = .ok (.bipush 8, 2) := by decide +kernel
theorem dX2_decideService_39 : decode cX2_decideService 39 = .ok (.iconst 1, 1) := by decide +kernel
theorem dX2_decideService_40 : decode cX2_decideService 40 = .ok (.bipush 32, 2) := by decide +kernel
theorem dX2_decideService_42 : decode cX2_decideService 42 = .ok (.invokevirtual 120, 3) := by decide +kernel
theorem dX2_decideService_45 : decode cX2_decideService 45 = .ok (.aload_n 0, 1) := by decide +kernel
theorem dX2_decideService_46 : decode cX2_decideService 46 = .ok (.invokevirtual 107, 3) := by decide +kernel
theorem dX2_decideService_49 : decode cX2_decideService 49 = .ok (.return_, 1) := by decide +kernel
theorem dX2_takesSetUp_0 : decode cX2_takesSetUp 0 = .ok (.aload_n 1, 1) := by decide +kernel
theorem dX2_takesSetUp_1 : decode cX2_takesSetUp 1 = .ok (.bipush 94, 2) := by decide +kernel
theorem dX2_takesSetUp_3 : decode cX2_takesSetUp 3 = .ok (.invokevirtual 137, 3) := by decide +kernel
theorem dX2_takesSetUp_6 : decode cX2_takesSetUp 6 = .ok (.istore_n 2, 1) := by decide +kernel
theorem dX2_takesSetUp_7 : decode cX2_takesSetUp 7 = .ok (.aload_n 0, 1) := by decide +kernel
theorem dX2_takesSetUp_8 : decode cX2_takesSetUp 8 = .ok (.getfield 38, 3) := by decide +kernel
theorem dX2_takesSetUp_11 : decode cX2_takesSetUp 11 = .ok (.ifCond .ne 14, 3) := by decide +kernel
theorem dX2_takesSetUp_14 : decode cX2_takesSetUp 14 = .ok (.iload_n 2, 1) := by decide +kernel
theorem dX2_takesSetUp_15 : decode cX2_takesSetUp 15 = .ok (.iconst 1, 1) := by decide +kernel
theorem dX2_takesSetUp_16 : decode cX2_takesSetUp 16 = .ok (.if_icmp .lt 9, 3) := by decide +kernel
theorem dX2_takesSetUp_19 : decode cX2_takesSetUp 19 = .ok (.iload_n 2, 1) := by decide +kernel
theorem dX2_takesSetUp_20 : decode cX2_takesSetUp 20 = .ok (.bipush 8, 2) := by decide +kernel
theorem dX2_takesSetUp_22 : decode cX2_takesSetUp 22 = .ok (.if_icmp .le 5, 3) := by decide +kernel
theorem dX2_takesSetUp_25 : decode cX2_takesSetUp 25 = .ok (.iconst 0, 1) := by decide +kernel
theorem dX2_takesSetUp_26 : decode cX2_takesSetUp 26 = .ok (.ireturn, 1) := by decide +kernel
theorem dX2_takesSetUp_27 : decode cX2_takesSetUp 27 = .ok (.aload_n 0, 1) := by decide +kernel
theorem dX2_takesSetUp_28 : decode cX2_takesSetUp 28 = .ok (.iload_n 2, 1) := by decide +kernel
theorem dX2_takesSetUp_29 : decode cX2_takesSetUp 29 = .ok (.putfield 35, 3) := by decide +kernel
theorem dX2_takesSetUp_32 : decode cX2_takesSetUp 32 = .ok (.iconst 0, 1) := by decide +kernel
theorem dX2_takesSetUp_33 : decode cX2_takesSetUp 33 = .ok (.istore_n 3, 1) := by decide +kernel
theorem dX2_takesSetUp_34 : decode cX2_takesSetUp 34 = .ok (.iload_n 3, 1) := by decide +kernel
theorem dX2_takesSetUp_35 : decode cX2_takesSetUp 35 = .ok (.iload_n 2, 1) := by decide +kernel
theorem dX2_takesSetUp_36 : decode cX2_takesSetUp 36 = .ok (.if_icmp .ge 22, 3) := by decide +kernel
theorem dX2_takesSetUp_39 : decode cX2_takesSetUp 39 = .ok (.aload_n 0, 1) := by decide +kernel
theorem dX2_takesSetUp_40 : decode cX2_takesSetUp 40 = .ok (.getfield 31, 3) := by decide +kernel
theorem dX2_takesSetUp_43 : decode cX2_takesSetUp 43 = .ok (.iload_n 3, 1) := by decide +kernel
theorem dX2_takesSetUp_44 : decode cX2_takesSetUp 44 = .ok (.aload_n 1, 1) := by decide +kernel
theorem dX2_takesSetUp_45 : decode cX2_takesSetUp 45 = .ok (.bipush 94, 2) := by decide +kernel
theorem dX2_takesSetUp_47 : decode cX2_takesSetUp 47 = .ok (.iload_n 3, 1) := by decide +kernel
theorem dX2_takesSetUp_48 : decode cX2_takesSetUp 48 = .ok (.invokevirtual 141, 3) := by decide +kernel
theorem dX2_takesSetUp_51 : decode cX2_takesSetUp 51 = .ok (.iastore, 1) := by decide +kernel
theorem dX2_takesSetUp_52 : decode cX2_takesSetUp 52 = .ok (.iinc 3 1, 3) := by decide +kernel
theorem dX2_takesSetUp_55 : decode cX2_takesSetUp 55 = .ok (.goto (-21), 3) := by decide +kernel
theorem dX2_takesSetUp_58 : decode cX2_takesSetUp 58 = .ok (.aload_n 0, 1) := by decide +kernel
theorem dX2_takesSetUp_59 : decode cX2_takesSetUp 59 = .ok (.getfield 41, 3) := by decide +kernel
theorem dX2_takesSetUp_62 : decode cX2_takesSetUp 62 = .ok (.iconst 3, 1) := by decide +kernel
theorem dX2_takesSetUp_63 : decode cX2_takesSetUp 63 = .ok (.iconst 2, 1) := by decide +kernel
theorem dX2_takesSetUp_64 : decode cX2_takesSetUp 64 = .ok (.invokevirtual 45, 3) := by decide +kernel
theorem dX2_takesSetUp_67 : decode cX2_takesSetUp 67 = .ok (.pop, 1) := by decide +kernel
theorem dX2_takesSetUp_68 : decode cX2_takesSetUp 68 = .ok (.aload_n 0, 1) := by decide +kernel
theorem dX2_takesSetUp_69 : decode cX2_takesSetUp 69 = .ok (.iconst 1, 1) := by decide +kernel
theorem dX2_takesSetUp_70 : decode cX2_takesSetUp 70 = .ok (.iconst 0, 1) := by decide +kernel
theorem dX2_takesSetUp_71 : decode cX2_takesSetUp 71 = .ok (.invokevirtual 51, 3) := by decide +kernel
theorem dX2_takesSetUp_74 : decode cX2_takesSetUp 74 = .ok (.iconst 1, 1) := by decide +kernel
theorem dX2_takesSetUp_75 : decode cX2_takesSetUp 75 = .ok (.ireturn, 1) := by decide +kernel
theorem dX2_takesConnected_0 : decode cX2_takesConnected 0 = .ok (.aload_n 0, 1) := by decide +kernel
theorem dX2_takesConnected_1 : decode cX2_takesConnected 1 = .ok (.getfield 38, 3) := by decide +kernel
theorem dX2_takesConnected_4 : decode cX2_takesConnected 4 = .ok (.iconst 3, 1) := by decide +kernel
theorem dX2_takesConnected_5 : decode cX2_takesConnected 5 = .ok (.if_icmp .eq 5, 3) := by decide +kernel
theorem dX2_takesConnected_8 : decode cX2_takesConnected 8 = .ok (.iconst 0, 1) := by decide +kernel
theorem dX2_takesConnected_9 : decode cX2_takesConnected 9 = .ok (.ireturn, 1) := by decide +kernel
theorem dX2_takesConnected_10 : decode cX2_takesConnected 10 = .ok (.aload_n 0, 1) := by decide +kernel
theorem dX2_takesConnected_11 : decode cX2_takesConnected 11 = .ok (.iconst 4, 1) := by decide +kernel
theorem dX2_takesConnected_12 : decode cX2_takesConnected 12 = .ok (.iconst 0, 1) := by decide +kernel
theorem dX2_takesConnected_13 : decode cX2_takesConnected 13 = .ok (.invokevirtual 51, 3) := by decide +kernel
theorem dX2_takesConnected_16 : decode cX2_takesConnected 16 = .ok (.iconst 1, 1) := by decide +kernel
theorem dX2_takesConnected_17 : decode cX2_takesConnected 17 = .ok (.ireturn, 1) := by decide +kernel
theorem dX3_init_0 : decode cX3_init 0 = .ok (.aload_n 0, 1) := by decide +kernel
theorem dX3_init_1 : decode cX3_init 1 = .ok (.invokespecial 3, 3) := by decide +kernel
theorem dX3_init_4 : decode cX3_init 4 = .ok (.aload_n 0, 1) := by decide +kernel
theorem dX3_init_5 : decode cX3_init 5 = .ok (.new 9, 3) := by decide +kernel
theorem dX3_init_8 : decode cX3_init 8 = .ok (.dup, 1) := by decide +kernel
theorem dX3_init_9 : decode cX3_init 9 = .ok (.invokespecial 11, 3) := by decide +kernel
theorem dX3_init_12 : decode cX3_init 12 = .ok (.putfield 12, 3) := by decide +kernel
theorem dX3_init_15 : decode cX3_init 15 = .ok (.aload_n 0, 1) := by decide +kernel
theorem dX3_init_16 : decode cX3_init 16 = .ok (.iload_n 2, 1) := by decide +kernel
theorem dX3_init_17 : decode cX3_init 17 = .ok (.putfield 18, 3) := by decide +kernel
theorem dX3_init_20 : decode cX3_init 20 = .ok (.aload_n 0, 1) := by decide +kernel
theorem dX3_init_21 : decode cX3_init 21 = .ok (.iload_n 1, 1) := by decide +kernel
theorem dX3_init_22 : decode cX3_init 22 = .ok (.putfield 22, 3) := by decide +kernel
theorem dX3_init_25 : decode cX3_init 25 = .ok (.aload_n 0, 1) := by decide +kernel
theorem dX3_init_26 : decode cX3_init 26 = .ok (.iconst 0, 1) := by decide +kernel
theorem dX3_init_27 : decode cX3_init 27 = .ok (.putfield 25, 3) := by decide +kernel
theorem dX3_init_30 : decode cX3_init 30 = .ok (.aload_n 0, 1) := by decide +kernel
theorem dX3_init_31 : decode cX3_init 31 = .ok (.iconst 0, 1) := by decide +kernel
theorem dX3_init_32 : decode cX3_init 32 = .ok (.putfield 28, 3) := by decide +kernel
theorem dX3_init_35 : decode cX3_init 35 = .ok (.aload_n 0, 1) := by decide +kernel
theorem dX3_init_36 : decode cX3_init 36 = .ok (.iconst (-1), 1) := by decide +kernel
theorem dX3_init_37 : decode cX3_init 37 = .ok (.putfield 31, 3) := by decide +kernel
theorem dX3_init_40 : decode cX3_init 40 = .ok (.aload_n 0, 1) := by decide +kernel
theorem dX3_init_41 : decode cX3_init 41 = .ok (.iconst 0, 1) := by decide +kernel
theorem dX3_init_42 : decode cX3_init 42 = .ok (.putfield 34, 3) := by decide +kernel
theorem dX3_init_45 : decode cX3_init 45 = .ok (.return_, 1) := by decide +kernel
theorem dX3_takes_0 : decode cX3_takes 0 = .ok (.aload_n 1, 1) := by decide +kernel
theorem dX3_takes_1 : decode cX3_takes 1 = .ok (.invokevirtual 38, 3) := by decide +kernel
theorem dX3_takes_4 : decode cX3_takes 4 = .ok (.ifCond .ne 5, 3) := by decide +kernel
theorem dX3_takes_7 : decode cX3_takes 7 = .ok (.iconst 0, 1) := by decide +kernel
theorem dX3_takes_8 : decode cX3_takes 8 = .ok (.ireturn, 1) := by decide +kernel
theorem dX3_takes_9 : decode cX3_takes 9 = .ok (.aload_n 1, 1) := by decide +kernel
theorem dX3_takes_10 : decode cX3_takes 10 = .ok (.invokevirtual 44, 3) := by decide +kernel
theorem dX3_takes_13 : decode cX3_takes 13 = .ok (.lookupswitch 39 #[(3, 33), (5, 27)], 27) := by decide +kernel
theorem dX3_takes_40 : decode cX3_takes 40 = .ok (.aload_n 0, 1) := by decide +kernel
theorem dX3_takes_41 : decode cX3_takes 41 = .ok (.aload_n 1, 1) := by decide +kernel
theorem dX3_takes_42 : decode cX3_takes 42 = .ok (.invokevirtual 48, 3) := by decide +kernel
theorem dX3_takes_45 : decode cX3_takes 45 = .ok (.ireturn, 1) := by decide +kernel
theorem dX3_takes_46 : decode cX3_takes 46 = .ok (.aload_n 0, 1) := by decide +kernel
theorem dX3_takes_47 : decode cX3_takes 47 = .ok (.aload_n 1, 1) := by decide +kernel
theorem dX3_takes_48 : decode cX3_takes 48 = .ok (.invokevirtual 52, 3) := by decide +kernel
theorem dX3_takes_51 : decode cX3_takes 51 = .ok (.ireturn, 1) := by decide +kernel
theorem dX3_takes_52 : decode cX3_takes 52 = .ok (.iconst 0, 1) := by decide +kernel
theorem dX3_takes_53 : decode cX3_takes 53 = .ok (.ireturn, 1) := by decide +kernel
theorem dX3_endsTimer_0 : decode cX3_endsTimer 0 = .ok (.aload_n 0, 1) := by decide +kernel
theorem dX3_endsTimer_1 : decode cX3_endsTimer 1 = .ok (.getfield 28, 3) := by decide +kernel
theorem dX3_endsTimer_4 : decode cX3_endsTimer 4 = .ok (.ifCond .ne 5, 3) := by decide +kernel
theorem dX3_endsTimer_7 : decode cX3_endsTimer 7 = .ok (.iconst 0, 1) := by decide +kernel
theorem dX3_endsTimer_8 : decode cX3_endsTimer 8 = .ok (.ireturn, 1) := by decide +kernel
theorem dX3_endsTimer_9 : decode cX3_endsTimer 9 = .ok (.aload_n 0, 1) := by decide +kernel
theorem dX3_endsTimer_10 : decode cX3_endsTimer 10 = .ok (.dup, 1) := by decide +kernel
theorem dX3_endsTimer_11 : decode cX3_endsTimer 11 = .ok (.getfield 28, 3) := by decide +kernel
theorem dX3_endsTimer_14 : decode cX3_endsTimer 14 = .ok (.iconst 1, 1) := by decide +kernel
theorem dX3_endsTimer_15 : decode cX3_endsTimer 15 = .ok (.isub, 1) := by decide +kernel
theorem dX3_endsTimer_16 : decode cX3_endsTimer 16 = .ok (.putfield 28, 3) := by decide +kernel
theorem dX3_endsTimer_19 : decode cX3_endsTimer 19 = .ok (.aload_n 0, 1) := by decide +kernel
theorem dX3_endsTimer_20 : decode cX3_endsTimer 20 = .ok (.getfield 28, 3) := by decide +kernel
theorem dX3_endsTimer_23 : decode cX3_endsTimer 23 = .ok (.ifCond .le 5, 3) := by decide +kernel
theorem dX3_endsTimer_26 : decode cX3_endsTimer 26 = .ok (.iconst 0, 1) := by decide +kernel
theorem dX3_endsTimer_27 : decode cX3_endsTimer 27 = .ok (.ireturn, 1) := by decide +kernel
theorem dX3_endsTimer_28 : decode cX3_endsTimer 28 = .ok (.aload_n 0, 1) := by decide +kernel
theorem dX3_endsTimer_29 : decode cX3_endsTimer 29 = .ok (.invokevirtual 55, 3) := by decide +kernel
theorem dX3_endsTimer_32 : decode cX3_endsTimer 32 = .ok (.iconst 1, 1) := by decide +kernel
theorem dX3_endsTimer_33 : decode cX3_endsTimer 33 = .ok (.ireturn, 1) := by decide +kernel
theorem dX3_startEnding_0 : decode cX3_startEnding 0 = .ok (.aload_n 0, 1) := by decide +kernel
theorem dX3_startEnding_1 : decode cX3_startEnding 1 = .ok (.iconst 1, 1) := by decide +kernel
theorem dX3_startEnding_2 : decode cX3_startEnding 2 = .ok (.iconst 4, 1) := by decide +kernel
theorem dX3_startEnding_3 : decode cX3_startEnding 3 = .ok (.invokevirtual 58, 3) := by decide +kernel
theorem dX3_startEnding_6 : decode cX3_startEnding 6 = .ok (.ifCond .ne 5, 3) := by decide +kernel
theorem dX3_startEnding_9 : decode cX3_startEnding 9 = .ok (.iconst 0, 1) := by decide +kernel
theorem dX3_startEnding_10 : decode cX3_startEnding 10 = .ok (.ireturn, 1) := by decide +kernel
theorem dX3_startEnding_11 : decode cX3_startEnding 11 = .ok (.aload_n 0, 1) := by decide +kernel
theorem dX3_startEnding_12 : decode cX3_startEnding 12 = .ok (.getfield 12, 3) := by decide +kernel
theorem dX3_startEnding_15 : decode cX3_startEnding 15 = .ok (.iconst 3, 1) := by decide +kernel
theorem dX3_startEnding_16 : decode cX3_startEnding 16 = .ok (.bipush 37, 2) := by decide +kernel
theorem dX3_startEnding_18 : decode cX3_startEnding 18 = .ok (.invokevirtual 62, 3) := by decide +kernel
theorem dX3_startEnding_21 : decode cX3_startEnding 21 = .ok (.bipush 8, 2) := by decide +kernel
theorem dX3_startEnding_23 : decode cX3_startEnding 23 = .ok (.iconst 1, 1) := by decide +kernel
theorem dX3_startEnding_24 : decode cX3_startEnding 24 = .ok (.iload_n 1, 1) := by decide +kernel
theorem dX3_startEnding_25 : decode cX3_startEnding 25 = .ok (.invokevirtual 66, 3) := by decide +kernel
theorem dX3_startEnding_28 : decode cX3_startEnding 28 = .ok (.aload_n 0, 1) := by decide +kernel
theorem dX3_startEnding_29 : decode cX3_startEnding 29 = .ok (.iconst 5, 1) := by decide +kernel
theorem dX3_startEnding_30 : decode cX3_startEnding 30 = .ok (.bipush 30, 2) := by decide +kernel
theorem dX3_startEnding_32 : decode cX3_startEnding 32 = .ok (.invokevirtual 70, 3) := by decide +kernel
theorem dX3_startEnding_35 : decode cX3_startEnding 35 = .ok (.iconst 1, 1) := by decide +kernel
theorem dX3_startEnding_36 : decode cX3_startEnding 36 = .ok (.ireturn, 1) := by decide +kernel
theorem dX3_rest_0 : decode cX3_rest 0 = .ok (.aload_n 0, 1) := by decide +kernel
theorem dX3_rest_1 : decode cX3_rest 1 = .ok (.aload_n 0, 1) := by decide +kernel
theorem dX3_rest_2 : decode cX3_rest 2 = .ok (.getfield 18, 3) := by decide +kernel
theorem dX3_rest_5 : decode cX3_rest 5 = .ok (.iconst 0, 1) := by decide +kernel
theorem dX3_rest_6 : decode cX3_rest 6 = .ok (.invokevirtual 74, 3) := by decide +kernel
theorem dX3_rest_9 : decode cX3_rest 9 = .ok (.return_, 1) := by decide +kernel
theorem dX3_setState_0 : decode cX3_setState 0 = .ok (.aload_n 0, 1) := by decide +kernel
theorem dX3_setState_1 : decode cX3_setState 1 = .ok (.iload_n 1, 1) := by decide +kernel
theorem dX3_setState_2 : decode cX3_setState 2 = .ok (.putfield 22, 3) := by decide +kernel
theorem dX3_setState_5 : decode cX3_setState 5 = .ok (.aload_n 0, 1) := by decide +kernel
theorem dX3_setState_6 : decode cX3_setState 6 = .ok (.iconst 0, 1) := by decide +kernel
theorem dX3_setState_7 : decode cX3_setState 7 = .ok (.putfield 25, 3) := by decide +kernel
theorem dX3_setState_10 : decode cX3_setState 10 = .ok (.aload_n 0, 1) := by decide +kernel
theorem dX3_setState_11 : decode cX3_setState 11 = .ok (.iload_n 2, 1) := by decide +kernel
theorem dX3_setState_12 : decode cX3_setState 12 = .ok (.putfield 28, 3) := by decide +kernel
theorem dX3_setState_15 : decode cX3_setState 15 = .ok (.return_, 1) := by decide +kernel
theorem dX3_setCall_0 : decode cX3_setCall 0 = .ok (.aload_n 0, 1) := by decide +kernel
theorem dX3_setCall_1 : decode cX3_setCall 1 = .ok (.iload_n 1, 1) := by decide +kernel
theorem dX3_setCall_2 : decode cX3_setCall 2 = .ok (.putfield 25, 3) := by decide +kernel
theorem dX3_setCall_5 : decode cX3_setCall 5 = .ok (.aload_n 0, 1) := by decide +kernel
theorem dX3_setCall_6 : decode cX3_setCall 6 = .ok (.iload_n 2, 1) := by decide +kernel
theorem dX3_setCall_7 : decode cX3_setCall 7 = .ok (.putfield 28, 3) := by decide +kernel
theorem dX3_setCall_10 : decode cX3_setCall 10 = .ok (.aload_n 0, 1) := by decide +kernel
theorem dX3_setCall_11 : decode cX3_setCall 11 = .ok (.iconst 0, 1) := by decide +kernel
theorem dX3_setCall_12 : decode cX3_setCall 12 = .ok (.putfield 34, 3) := by decide +kernel
theorem dX3_setCall_15 : decode cX3_setCall 15 = .ok (.return_, 1) := by decide +kernel
theorem dX3_hasCall_0 : decode cX3_hasCall 0 = .ok (.aload_n 0, 1) := by decide +kernel
theorem dX3_hasCall_1 : decode cX3_hasCall 1 = .ok (.getfield 25, 3) := by decide +kernel
theorem dX3_hasCall_4 : decode cX3_hasCall 4 = .ok (.iload_n 1, 1) := by decide +kernel
theorem dX3_hasCall_5 : decode cX3_hasCall 5 = .ok (.if_icmp .lt 15, 3) := by decide +kernel
theorem dX3_hasCall_8 : decode cX3_hasCall 8 = .ok (.aload_n 0, 1) := by decide +kernel
theorem dX3_hasCall_9 : decode cX3_hasCall 9 = .ok (.getfield 25, 3) := by decide +kernel
theorem dX3_hasCall_12 : decode cX3_hasCall 12 = .ok (.iload_n 2, 1) := by decide +kernel
theorem dX3_hasCall_13 : decode cX3_hasCall 13 = .ok (.if_icmp .gt 7, 3) := by decide +kernel
theorem dX3_hasCall_16 : decode cX3_hasCall 16 = .ok (.iconst 1, 1) := by decide +kernel
theorem dX3_hasCall_17 : decode cX3_hasCall 17 = .ok (.goto 4, 3) := by decide +kernel
theorem dX3_hasCall_20 : decode cX3_hasCall 20 = .ok (.iconst 0, 1) := by decide +kernel
theorem dX3_hasCall_21 : decode cX3_hasCall 21 = .ok (.ireturn, 1) := by decide +kernel
theorem dX3_takesEnd_0 : decode cX3_takesEnd 0 = .ok (.aload_n 0, 1) := by decide +kernel
theorem dX3_takesEnd_1 : decode cX3_takesEnd 1 = .ok (.iconst 1, 1) := by decide +kernel
theorem dX3_takesEnd_2 : decode cX3_takesEnd 2 = .ok (.iconst 5, 1) := by decide +kernel
theorem dX3_takesEnd_3 : decode cX3_takesEnd 3 = .ok (.invokevirtual 58, 3) := by decide +kernel
theorem dX3_takesEnd_6 : decode cX3_takesEnd 6 = .ok (.ifCond .eq 13, 3) := by decide +kernel
theorem dX3_takesEnd_9 : decode cX3_takesEnd 9 = .ok (.aload_n 1, 1) := by decide +kernel
theorem dX3_takesEnd_10 : decode cX3_takesEnd 10 = .ok (.bipush 8, 2) := by decide +kernel
theorem dX3_takesEnd_12 : decode cX3_takesEnd 12 = .ok (.iconst 1, 1) := by decide +kernel
theorem dX3_takesEnd_13 : decode cX3_takesEnd 13 = .ok (.invokevirtual 77, 3) := by decide +kernel
theorem dX3_takesEnd_16 : decode cX3_takesEnd 16 = .ok (.ifCond .ne 5, 3) := by decide +kernel
theorem dX3_takesEnd_19 : decode cX3_takesEnd 19 = .ok (.iconst 0, 1) := by decide +kernel
theorem dX3_takesEnd_20 : decode cX3_takesEnd 20 = .ok (.ireturn, 1) := by decide +kernel
theorem dX3_takesEnd_21 : decode cX3_takesEnd 21 = .ok (.aload_n 0, 1) := by decide +kernel
theorem dX3_takesEnd_22 : decode cX3_takesEnd 22 = .ok (.aload_n 1, 1) := by decide +kernel
theorem dX3_takesEnd_23 : decode cX3_takesEnd 23 = .ok (.bipush 8, 2) := by decide +kernel
theorem dX3_takesEnd_25 : decode cX3_takesEnd 25 = .ok (.iconst 1, 1) := by decide +kernel
theorem dX3_takesEnd_26 : decode cX3_takesEnd 26 = .ok (.invokevirtual 80, 3) := by decide +kernel
theorem dX3_takesEnd_29 : decode cX3_takesEnd 29 = .ok (.putfield 31, 3) := by decide +kernel
theorem dX3_takesEnd_32 : decode cX3_takesEnd 32 = .ok (.aload_n 0, 1) := by decide +kernel
theorem dX3_takesEnd_33 : decode cX3_takesEnd 33 = .ok (.invokevirtual 84, 3) := by decide +kernel
theorem dX3_takesEnd_36 : decode cX3_takesEnd 36 = .ok (.iconst 1, 1) := by decide +kernel
theorem dX3_takesEnd_37 : decode cX3_takesEnd 37 = .ok (.ireturn, 1) := by decide +kernel
theorem dX3_takesRelease_0 : decode cX3_takesRelease 0 = .ok (.aload_n 0, 1) := by decide +kernel
theorem dX3_takesRelease_1 : decode cX3_takesRelease 1 = .ok (.getfield 12, 3) := by decide +kernel
theorem dX3_takesRelease_4 : decode cX3_takesRelease 4 = .ok (.iconst 3, 1) := by decide +kernel
theorem dX3_takesRelease_5 : decode cX3_takesRelease 5 = .ok (.bipush 42, 2) := by decide +kernel
theorem dX3_takesRelease_7 : decode cX3_takesRelease 7 = .ok (.invokevirtual 62, 3) := by decide +kernel
theorem dX3_takesRelease_10 : decode cX3_takesRelease 10 = .ok (.pop, 1) := by decide +kernel
theorem dX3_takesRelease_11 : decode cX3_takesRelease 11 = .ok (.aload_n 0, 1) := by decide +kernel
theorem dX3_takesRelease_12 : decode cX3_takesRelease 12 = .ok (.invokevirtual 87, 3) := by decide +kernel
theorem dX3_takesRelease_15 : decode cX3_takesRelease 15 = .ok (.iconst 1, 1) := by decide +kernel
theorem dX3_takesRelease_16 : decode cX3_takesRelease 16 = .ok (.ireturn, 1) := by decide +kernel
theorem dX3_takesReleased_0 : decode cX3_takesReleased 0 = .ok (.aload_n 0, 1) := by decide +kernel
theorem dX3_takesReleased_1 : decode cX3_takesReleased 1 = .ok (.invokevirtual 87, 3) := by decide +kernel
theorem dX3_takesReleased_4 : decode cX3_takesReleased 4 = .ok (.iconst 1, 1) := by decide +kernel
theorem dX3_takesReleased_5 : decode cX3_takesReleased 5 = .ok (.ireturn, 1) := by decide +kernel
theorem dX3_timeOutClearing_0 : decode cX3_timeOutClearing 0 = .ok (.aload_n 0, 1) := by decide +kernel
theorem dX3_timeOutClearing_1 : decode cX3_timeOutClearing 1 = .ok (.getfield 25, 3) := by decide +kernel
theorem dX3_timeOutClearing_4 : decode cX3_timeOutClearing 4 = .ok (.iconst 5, 1) := by decide +kernel
theorem dX3_timeOutClearing_5 : decode cX3_timeOutClearing 5 = .ok (.if_icmp .ne 10, 3) := by decide +kernel
theorem dX3_timeOutClearing_8 : decode cX3_timeOutClearing 8 = .ok (.aload_n 0, 1) := by decide +kernel
theorem dX3_timeOutClearing_9 : decode cX3_timeOutClearing 9 = .ok (.invokevirtual 84, 3) := by decide +kernel
theorem dX3_timeOutClearing_12 : decode cX3_timeOutClearing 12 = .ok (.goto 35, 3) := by decide +kernel
theorem dX3_timeOutClearing_15 : decode cX3_timeOutClearing 15 = .ok (.aload_n 0, 1) := by decide +kernel
theorem dX3_timeOutClearing_16 : decode cX3_timeOutClearing 16 = .ok (.getfield 25, 3) := by decide +kernel
theorem dX3_timeOutClearing_19 : decode cX3_timeOutClearing 19 = .ok (.bipush 6, 2) := by decide +kernel
theorem dX3_timeOutClearing_21 : decode cX3_timeOutClearing 21 = .ok (.if_icmp .ne 22, 3) := by decide +kernel
theorem dX3_timeOutClearing_24 : decode cX3_timeOutClearing 24 = .ok (.aload_n 0, 1) := by decide +kernel
theorem dX3_timeOutClearing_25 : decode cX3_timeOutClearing 25 = .ok (.getfield 34, 3) := by decide +kernel
theorem dX3_timeOutClearing_28 : decode cX3_timeOutClearing 28 = .ok (.ifCond .ne 15, 3) := by decide +kernel
theorem dX3_timeOutClearing_31 : decode cX3_timeOutClearing 31 = .ok (.aload_n 0, 1) := by decide +kernel
theorem dX3_timeOutClearing_32 : decode cX3_timeOutClearing 32 = .ok (.invokevirtual 84, 3) := by decide +kernel
theorem dX3_timeOutClearing_35 : decode cX3_timeOutClearing 35 = .ok (.aload_n 0, 1) := by decide +kernel
theorem dX3_timeOutClearing_36 : decode cX3_timeOutClearing 36 = .ok (.iconst 1, 1) := by decide +kernel
theorem dX3_timeOutClearing_37 : decode cX3_timeOutClearing 37 = .ok (.putfield 34, 3) := by decide +kernel
theorem dX3_timeOutClearing_40 : decode cX3_timeOutClearing 40 = .ok (.goto 7, 3) := by decide +kernel
theorem dX3_timeOutClearing_43 : decode cX3_timeOutClearing 43 = .ok (.aload_n 0, 1) := by decide +kernel
theorem dX3_timeOutClearing_44 : decode cX3_timeOutClearing 44 = .ok (.invokevirtual 87, 3) := by decide +kernel
theorem dX3_timeOutClearing_47 : decode cX3_timeOutClearing 47 = .ok (.return_, 1) := by decide +kernel
theorem dX3_answerTo_0 : decode cX3_answerTo 0 = .ok (.iload_n 0, 1) := by decide +kernel
theorem dX3_answerTo_1 : decode cX3_answerTo 1 = .ok (.iload_n 1, 1) := by decide +kernel
theorem dX3_answerTo_2 : decode cX3_answerTo 2 = .ok (.ixor, 1) := by decide +kernel
theorem dX3_answerTo_3 : decode cX3_answerTo 3 = .ok (.ldc 90, 2) := by decide +kernel
theorem dX3_answerTo_5 : decode cX3_answerTo 5 = .ok (.imul, 1) := by decide +kernel
theorem dX3_answerTo_6 : decode cX3_answerTo 6 = .ok (.istore_n 2, 1) := by decide +kernel
theorem dX3_answerTo_7 : decode cX3_answerTo 7 = .ok (.iload_n 2, 1) := by decide +kernel
theorem dX3_answerTo_8 : decode cX3_answerTo 8 = .ok (.iconst 5, 1) := by decide +kernel
theorem dX3_answerTo_9 : decode cX3_answerTo 9 = .ok (.ishl, 1) := by decide +kernel
theorem dX3_answerTo_10 : decode cX3_answerTo 10 = .ok (.iload_n 2, 1) := by decide +kernel
theorem dX3_answerTo_11 : decode cX3_answerTo 11 = .ok (.bipush 27, 2) := by decide +kernel
theorem dX3_answerTo_13 : decode cX3_answerTo 13 = .ok (.iushr, 1) := by decide +kernel
theorem dX3_answerTo_14 : decode cX3_answerTo 14 = .ok (.ior, 1) := by decide +kernel
theorem dX3_answerTo_15 : decode cX3_answerTo 15 = .ok (.ireturn, 1) := by decide +kernel
theorem dX3_startReleasing_0 : decode cX3_startReleasing 0 = .ok (.aload_n 0, 1) := by decide +kernel
theorem dX3_startReleasing_1 : decode cX3_startReleasing 1 = .ok (.getfield 12, 3) := by decide +kernel
theorem dX3_startReleasing_4 : decode cX3_startReleasing 4 = .ok (.iconst 3, 1) := by decide +kernel
theorem dX3_startReleasing_5 : decode cX3_startReleasing 5 = .ok (.bipush 45, 2) := by decide +kernel
theorem dX3_startReleasing_7 : decode cX3_startReleasing 7 = .ok (.invokevirtual 62, 3) := by decide +kernel
theorem dX3_startReleasing_10 : decode cX3_startReleasing 10 = .ok (.pop, 1) := by decide +kernel
theorem dX3_startReleasing_11 : decode cX3_startReleasing 11 = .ok (.aload_n 0, 1) := by decide +kernel
theorem dX3_startReleasing_12 : decode cX3_startReleasing 12 = .ok (.bipush 6, 2) := by decide +kernel
theorem dX3_startReleasing_14 : decode cX3_startReleasing 14 = .ok (.bipush 30, 2) := by decide +kernel
theorem dX3_startReleasing_16 : decode cX3_startReleasing 16 = .ok (.invokevirtual 70, 3) := by decide +kernel
theorem dX3_startReleasing_19 : decode cX3_startReleasing 19 = .ok (.return_, 1) := by decide +kernel
theorem dX4_init_0 : decode cX4_init 0 = .ok (.aload_n 0, 1) := by decide +kernel
theorem dX4_init_1 : decode cX4_init 1 = .ok (.invokespecial 1, 3) := by decide +kernel
theorem dX4_init_4 : decode cX4_init 4 = .ok (.aload_n 0, 1) := by decide +kernel
theorem dX4_init_5 : decode cX4_init 5 = .ok (.bipush 8, 2) := by decide +kernel
theorem dX4_init_7 : decode cX4_init 7 = .ok (.anewarray 9, 3) := by decide +kernel
theorem dX4_init_10 : decode cX4_init 10 = .ok (.putfield 11, 3) := by decide +kernel
theorem dX4_init_13 : decode cX4_init 13 = .ok (.iconst 0, 1) := by decide +kernel
theorem dX4_init_14 : decode cX4_init 14 = .ok (.istore_n 1, 1) := by decide +kernel
theorem dX4_init_15 : decode cX4_init 15 = .ok (.iload_n 1, 1) := by decide +kernel
theorem dX4_init_16 : decode cX4_init 16 = .ok (.bipush 8, 2) := by decide +kernel
theorem dX4_init_18 : decode cX4_init 18 = .ok (.if_icmp .ge 22, 3) := by decide +kernel
theorem dX4_init_21 : decode cX4_init 21 = .ok (.aload_n 0, 1) := by decide +kernel
theorem dX4_init_22 : decode cX4_init 22 = .ok (.getfield 11, 3) := by decide +kernel
theorem dX4_init_25 : decode cX4_init 25 = .ok (.iload_n 1, 1) := by decide +kernel
theorem dX4_init_26 : decode cX4_init 26 = .ok (.new 9, 3) := by decide +kernel
theorem dX4_init_29 : decode cX4_init 29 = .ok (.dup, 1) := by decide +kernel
theorem dX4_init_30 : decode cX4_init 30 = .ok (.invokespecial 15, 3) := by decide +kernel
theorem dX4_init_33 : decode cX4_init 33 = .ok (.aastore, 1) := by decide +kernel
theorem dX4_init_34 : decode cX4_init 34 = .ok (.iinc 1 1, 3) := by decide +kernel
theorem dX4_init_37 : decode cX4_init 37 = .ok (.goto (-22), 3) := by decide +kernel
theorem dX4_init_40 : decode cX4_init 40 = .ok (.aload_n 0, 1) := by decide +kernel
theorem dX4_init_41 : decode cX4_init 41 = .ok (.new 9, 3) := by decide +kernel
theorem dX4_init_44 : decode cX4_init 44 = .ok (.dup, 1) := by decide +kernel
theorem dX4_init_45 : decode cX4_init 45 = .ok (.invokespecial 15, 3) := by decide +kernel
theorem dX4_init_48 : decode cX4_init 48 = .ok (.putfield 16, 3) := by decide +kernel
theorem dX4_init_51 : decode cX4_init 51 = .ok (.aload_n 0, 1) := by decide +kernel
theorem dX4_init_52 : decode cX4_init 52 = .ok (.iconst 0, 1) := by decide +kernel
theorem dX4_init_53 : decode cX4_init 53 = .ok (.putfield 20, 3) := by decide +kernel
theorem dX4_init_56 : decode cX4_init 56 = .ok (.aload_n 0, 1) := by decide +kernel
theorem dX4_init_57 : decode cX4_init 57 = .ok (.iconst 0, 1) := by decide +kernel
theorem dX4_init_58 : decode cX4_init 58 = .ok (.putfield 24, 3) := by decide +kernel
theorem dX4_init_61 : decode cX4_init 61 = .ok (.aload_n 0, 1) := by decide +kernel
theorem dX4_init_62 : decode cX4_init 62 = .ok (.iconst 1, 1) := by decide +kernel
theorem dX4_init_63 : decode cX4_init 63 = .ok (.putfield 27, 3) := by decide +kernel
theorem dX4_init_66 : decode cX4_init 66 = .ok (.return_, 1) := by decide +kernel
theorem dX4_size_0 : decode cX4_size 0 = .ok (.aload_n 0, 1) := by decide +kernel
theorem dX4_size_1 : decode cX4_size 1 = .ok (.getfield 24, 3) := by decide +kernel
theorem dX4_size_4 : decode cX4_size 4 = .ok (.ireturn, 1) := by decide +kernel
theorem dX4_isOpen_0 : decode cX4_isOpen 0 = .ok (.aload_n 0, 1) := by decide +kernel
theorem dX4_isOpen_1 : decode cX4_isOpen 1 = .ok (.getfield 27, 3) := by decide +kernel
theorem dX4_isOpen_4 : decode cX4_isOpen 4 = .ok (.ireturn, 1) := by decide +kernel
theorem dX4_open_0 : decode cX4_open 0 = .ok (.aload_n 0, 1) := by decide +kernel
theorem dX4_open_1 : decode cX4_open 1 = .ok (.iconst 1, 1) := by decide +kernel
theorem dX4_open_2 : decode cX4_open 2 = .ok (.putfield 27, 3) := by decide +kernel
theorem dX4_open_5 : decode cX4_open 5 = .ok (.return_, 1) := by decide +kernel
theorem dX4_close_0 : decode cX4_close 0 = .ok (.aload_n 0, 1) := by decide +kernel
theorem dX4_close_1 : decode cX4_close 1 = .ok (.iconst 0, 1) := by decide +kernel
theorem dX4_close_2 : decode cX4_close 2 = .ok (.putfield 27, 3) := by decide +kernel
theorem dX4_close_5 : decode cX4_close 5 = .ok (.aload_n 0, 1) := by decide +kernel
theorem dX4_close_6 : decode cX4_close 6 = .ok (.iconst 0, 1) := by decide +kernel
theorem dX4_close_7 : decode cX4_close 7 = .ok (.putfield 24, 3) := by decide +kernel
theorem dX4_close_10 : decode cX4_close 10 = .ok (.return_, 1) := by decide +kernel
theorem dX4_hasRoom_0 : decode cX4_hasRoom 0 = .ok (.aload_n 0, 1) := by decide +kernel
theorem dX4_hasRoom_1 : decode cX4_hasRoom 1 = .ok (.getfield 27, 3) := by decide +kernel
theorem dX4_hasRoom_4 : decode cX4_hasRoom 4 = .ok (.ifCond .eq 16, 3) := by decide +kernel
theorem dX4_hasRoom_7 : decode cX4_hasRoom 7 = .ok (.aload_n 0, 1) := by decide +kernel
theorem dX4_hasRoom_8 : decode cX4_hasRoom 8 = .ok (.getfield 24, 3) := by decide +kernel
theorem dX4_hasRoom_11 : decode cX4_hasRoom 11 = .ok (.bipush 8, 2) := by decide +kernel
theorem dX4_hasRoom_13 : decode cX4_hasRoom 13 = .ok (.if_icmp .ge 7, 3) := by decide +kernel
theorem dX4_hasRoom_16 : decode cX4_hasRoom 16 = .ok (.iconst 1, 1) := by decide +kernel
theorem dX4_hasRoom_17 : decode cX4_hasRoom 17 = .ok (.goto 4, 3) := by decide +kernel
theorem dX4_hasRoom_20 : decode cX4_hasRoom 20 = .ok (.iconst 0, 1) := by decide +kernel
theorem dX4_hasRoom_21 : decode cX4_hasRoom 21 = .ok (.ireturn, 1) := by decide +kernel
theorem dX4_at_0 : decode cX4_at 0 = .ok (.iload_n 1, 1) := by decide +kernel
theorem dX4_at_1 : decode cX4_at 1 = .ok (.ifCond .lt 28, 3) := by decide +kernel
theorem dX4_at_4 : decode cX4_at 4 = .ok (.iload_n 1, 1) := by decide +kernel
theorem dX4_at_5 : decode cX4_at 5 = .ok (.aload_n 0, 1) := by decide +kernel
theorem dX4_at_6 : decode cX4_at 6 = .ok (.getfield 24, 3) := by decide +kernel
theorem dX4_at_9 : decode cX4_at 9 = .ok (.if_icmp .ge 20, 3) := by decide +kernel
theorem dX4_at_12 : decode cX4_at 12 = .ok (.aload_n 0, 1) := by decide +kernel
theorem dX4_at_13 : decode cX4_at 13 = .ok (.getfield 11, 3) := by decide +kernel
theorem dX4_at_16 : decode cX4_at 16 = .ok (.aload_n 0, 1) := by decide +kernel
theorem dX4_at_17 : decode cX4_at 17 = .ok (.getfield 20, 3) := by decide +kernel
theorem dX4_at_20 : decode cX4_at 20 = .ok (.iload_n 1, 1) := by decide +kernel
theorem dX4_at_21 : decode cX4_at 21 = .ok (.iadd, 1) := by decide +kernel
theorem dX4_at_22 : decode cX4_at 22 = .ok (.bipush 8, 2) := by decide +kernel
theorem dX4_at_24 : decode cX4_at 24 = .ok (.irem, 1) := by decide +kernel
theorem dX4_at_25 : decode cX4_at 25 = .ok (.aaload, 1) := by decide +kernel
theorem dX4_at_26 : decode cX4_at 26 = .ok (.goto 4, 3) := by decide +kernel
theorem dX4_at_29 : decode cX4_at 29 = .ok (.aconst_null, 1) := by decide +kernel
theorem dX4_at_30 : decode cX4_at 30 = .ok (.areturn, 1) := by decide +kernel
theorem dX4_send_0 : decode cX4_send 0 = .ok (.aload_n 0, 1) := by decide +kernel
theorem dX4_send_1 : decode cX4_send 1 = .ok (.getfield 16, 3) := by decide +kernel
theorem dX4_send_4 : decode cX4_send 4 = .ok (.astore_n 3, 1) := by decide +kernel
theorem dX4_send_5 : decode cX4_send 5 = .ok (.aload_n 0, 1) := by decide +kernel
theorem dX4_send_6 : decode cX4_send 6 = .ok (.invokevirtual 31, 3) := by decide +kernel
theorem dX4_send_9 : decode cX4_send 9 = .ok (.ifCond .eq 31, 3) := by decide +kernel
theorem dX4_send_12 : decode cX4_send 12 = .ok (.aload_n 0, 1) := by decide +kernel
theorem dX4_send_13 : decode cX4_send 13 = .ok (.getfield 11, 3) := by decide +kernel
theorem dX4_send_16 : decode cX4_send 16 = .ok (.aload_n 0, 1) := by decide +kernel
theorem dX4_send_17 : decode cX4_send 17 = .ok (.getfield 20, 3) := by decide +kernel
theorem dX4_send_20 : decode cX4_send 20 = .ok (.aload_n 0, 1) := by decide +kernel
theorem dX4_send_21 : decode cX4_send 21 = .ok (.getfield 24, 3) := by decide +kernel
theorem dX4_send_24 : decode cX4_send 24 = .ok (.iadd, 1) := by decide +kernel
theorem dX4_send_25 : decode cX4_send 25 = .ok (.bipush 8, 2) := by decide +kernel
theorem dX4_send_27 : decode cX4_send 27 = .ok (.irem, 1) := by decide +kernel
theorem dX4_send_28 : decode cX4_send 28 = .ok (.aaload, 1) := by decide +kernel
theorem dX4_send_29 : decode cX4_send 29 = .ok (.astore_n 3, 1) := by decide +kernel
theorem dX4_send_30 : decode cX4_send 30 = .ok (.aload_n 0, 1) := by decide +kernel
theorem dX4_send_31 : decode cX4_send 31 = .ok (.dup, 1) := by decide +kernel
theorem dX4_send_32 : decode cX4_send 32 = .ok (.getfield 24, 3) := by decide +kernel
theorem dX4_send_35 : decode cX4_send 35 = .ok (.iconst 1, 1) := by decide +kernel
theorem dX4_send_36 : decode cX4_send 36 = .ok (.iadd, 1) := by decide +kernel
theorem dX4_send_37 : decode cX4_send 37 = .ok (.putfield 24, 3) := by decide +kernel
theorem dX4_send_40 : decode cX4_send 40 = .ok (.aload_n 3, 1) := by decide +kernel
theorem dX4_send_41 : decode cX4_send 41 = .ok (.iload_n 1, 1) := by decide +kernel
theorem dX4_send_42 : decode cX4_send 42 = .ok (.iload_n 2, 1) := by decide +kernel
theorem dX4_send_43 : decode cX4_send 43 = .ok (.invokevirtual 35, 3) := by decide +kernel
theorem dX4_send_46 : decode cX4_send 46 = .ok (.aload_n 3, 1) := by decide +kernel
theorem dX4_send_47 : decode cX4_send 47 = .ok (.areturn, 1) := by decide +kernel
theorem dX4_dropFirst_0 : decode cX4_dropFirst 0 = .ok (.aload_n 0, 1) := by decide +kernel
theorem dX4_dropFirst_1 : decode cX4_dropFirst 1 = .ok (.getfield 24, 3) := by decide +kernel
theorem dX4_dropFirst_4 : decode cX4_dropFirst 4 = .ok (.ifCond .le 26, 3) := by decide +kernel
theorem dX4_dropFirst_7 : decode cX4_dropFirst 7 = .ok (.aload_n 0, 1) := by decide +kernel
theorem dX4_dropFirst_8 : decode cX4_dropFirst 8 = .ok (.aload_n 0, 1) := by decide +kernel
theorem dX4_dropFirst_9 : decode cX4_dropFirst 9 = .ok (.getfield 20, 3) := by decide +kernel
theorem dX4_dropFirst_12 : decode cX4_dropFirst 12 = .ok (.iconst 1, 1) := by decide +kernel
theorem dX4_dropFirst_13 : decode cX4_dropFirst 13 = .ok (.iadd, 1) := by decide +kernel
theorem dX4_dropFirst_14 : decode cX4_dropFirst 14 = .ok (.bipush 8, 2) := by decide +kernel
theorem dX4_dropFirst_16 : decode cX4_dropFirst 16 = .ok (.irem, 1) := by decide +kernel
theorem dX4_dropFirst_17 : decode cX4_dropFirst 17 = .ok (.putfield 20, 3) := by decide +kernel
theorem dX4_dropFirst_20 : decode cX4_dropFirst 20 = .ok (.aload_n 0, 1) := by decide +kernel
theorem dX4_dropFirst_21 : decode cX4_dropFirst 21 = .ok (.dup, 1) := by decide +kernel
theorem dX4_dropFirst_22 : decode cX4_dropFirst 22 = .ok (.getfield 24, 3) := by decide +kernel
theorem dX4_dropFirst_25 : decode cX4_dropFirst 25 = .ok (.iconst 1, 1) := by decide +kernel
theorem dX4_dropFirst_26 : decode cX4_dropFirst 26 = .ok (.isub, 1) := by decide +kernel
theorem dX4_dropFirst_27 : decode cX4_dropFirst 27 = .ok (.putfield 24, 3) := by decide +kernel
theorem dX4_dropFirst_30 : decode cX4_dropFirst 30 = .ok (.return_, 1) := by decide +kernel
theorem dX5_init_0 : decode cX5_init 0 = .ok (.aload_n 0, 1) := by decide +kernel
theorem dX5_init_1 : decode cX5_init 1 = .ok (.invokespecial 1, 3) := by decide +kernel
theorem dX5_init_4 : decode cX5_init 4 = .ok (.aload_n 0, 1) := by decide +kernel
theorem dX5_init_5 : decode cX5_init 5 = .ok (.new 7, 3) := by decide +kernel
theorem dX5_init_8 : decode cX5_init 8 = .ok (.dup, 1) := by decide +kernel
theorem dX5_init_9 : decode cX5_init 9 = .ok (.iload_n 1, 1) := by decide +kernel
theorem dX5_init_10 : decode cX5_init 10 = .ok (.invokespecial 9, 3) := by decide +kernel
theorem dX5_init_13 : decode cX5_init 13 = .ok (.putfield 12, 3) := by decide +kernel
theorem dX5_init_16 : decode cX5_init 16 = .ok (.aload_n 0, 1) := by decide +kernel
theorem dX5_init_17 : decode cX5_init 17 = .ok (.new 18, 3) := by decide +kernel
theorem dX5_init_20 : decode cX5_init 20 = .ok (.dup, 1) := by decide +kernel
theorem dX5_init_21 : decode cX5_init 21 = .ok (.iload_n 2, 1) := by decide +kernel
theorem dX5_init_22 : decode cX5_init 22 = .ok (.iload_n 3, 1) := by decide +kernel
theorem dX5_init_23 : decode cX5_init 23 = .ok (.invokespecial 20, 3) := by decide +kernel
theorem dX5_init_26 : decode cX5_init 26 = .ok (.putfield 23, 3) := by decide +kernel
theorem dX5_init_29 : decode cX5_init 29 = .ok (.aload_n 0, 1) := by decide +kernel
theorem dX5_init_30 : decode cX5_init 30 = .ok (.aload_n 0, 1) := by decide +kernel
theorem dX5_init_31 : decode cX5_init 31 = .ok (.getfield 12, 3) := by decide +kernel
theorem dX5_init_34 : decode cX5_init 34 = .ok (.getfield 27, 3) := by decide +kernel
theorem dX5_init_37 : decode cX5_init 37 = .ok (.putfield 31, 3) := by decide +kernel
theorem dX5_init_40 : decode cX5_init 40 = .ok (.aload_n 0, 1) := by decide +kernel
theorem dX5_init_41 : decode cX5_init 41 = .ok (.aload_n 0, 1) := by decide +kernel
theorem dX5_init_42 : decode cX5_init 42 = .ok (.getfield 23, 3) := by decide +kernel
theorem dX5_init_45 : decode cX5_init 45 = .ok (.getfield 34, 3) := by decide +kernel
theorem dX5_init_48 : decode cX5_init 48 = .ok (.putfield 35, 3) := by decide +kernel
theorem dX5_init_51 : decode cX5_init 51 = .ok (.aload_n 0, 1) := by decide +kernel
theorem dX5_init_52 : decode cX5_init 52 = .ok (.iconst 0, 1) := by decide +kernel
theorem dX5_init_53 : decode cX5_init 53 = .ok (.putfield 38, 3) := by decide +kernel
theorem dX5_init_56 : decode cX5_init 56 = .ok (.return_, 1) := by decide +kernel
theorem dX5_power_0 : decode cX5_power 0 = .ok (.iload_n 1, 1) := by decide +kernel
theorem dX5_power_1 : decode cX5_power 1 = .ok (.aload_n 0, 1) := by decide +kernel
theorem dX5_power_2 : decode cX5_power 2 = .ok (.getfield 12, 3) := by decide +kernel
theorem dX5_power_5 : decode cX5_power 5 = .ok (.invokevirtual 42, 3) := by decide +kernel
theorem dX5_power_8 : decode cX5_power 8 = .ok (.if_icmp .ne 6, 3) := by decide +kernel
theorem dX5_power_11 : decode cX5_power 11 = .ok (.bipush (-2), 2) := by decide +kernel
theorem dX5_power_13 : decode cX5_power 13 = .ok (.ireturn, 1) := by decide +kernel
theorem dX5_power_14 : decode cX5_power 14 = .ok (.iload_n 1, 1) := by decide +kernel
theorem dX5_power_15 : decode cX5_power 15 = .ok (.ifCond .eq 13, 3) := by decide +kernel
theorem dX5_power_18 : decode cX5_power 18 = .ok (.aload_n 0, 1) := by decide +kernel
theorem dX5_power_19 : decode cX5_power 19 = .ok (.getfield 12, 3) := by decide +kernel
theorem dX5_power_22 : decode cX5_power 22 = .ok (.invokevirtual 46, 3) := by decide +kernel
theorem dX5_power_25 : decode cX5_power 25 = .ok (.goto 10, 3) := by decide +kernel
theorem dX5_power_28 : decode cX5_power 28 = .ok (.aload_n 0, 1) := by decide +kernel
theorem dX5_power_29 : decode cX5_power 29 = .ok (.getfield 12, 3) := by decide +kernel
theorem dX5_power_32 : decode cX5_power 32 = .ok (.invokevirtual 49, 3) := by decide +kernel
theorem dX5_power_35 : decode cX5_power 35 = .ok (.iconst 1, 1) := by decide +kernel
theorem dX5_power_36 : decode cX5_power 36 = .ok (.ireturn, 1) := by decide +kernel
theorem dX5_update_0 : decode cX5_update 0 = .ok (.iload_n 1, 1) := by decide +kernel
theorem dX5_update_1 : decode cX5_update 1 = .ok (.ifCond .lt 9, 3) := by decide +kernel
theorem dX5_update_4 : decode cX5_update 4 = .ok (.iload_n 1, 1) := by decide +kernel
theorem dX5_update_5 : decode cX5_update 5 = .ok (.ldc 52, 2) := by decide +kernel
theorem dX5_update_7 : decode cX5_update 7 = .ok (.if_icmp .le 5, 3) := by decide +kernel
theorem dX5_update_10 : decode cX5_update 10 = .ok (.iconst (-1), 1) := by decide +kernel
theorem dX5_update_11 : decode cX5_update 11 = .ok (.ireturn, 1) := by decide +kernel
theorem dX5_update_12 : decode cX5_update 12 = .ok (.aload_n 0, 1) := by decide +kernel
theorem dX5_update_13 : decode cX5_update 13 = .ok (.getfield 12, 3) := by decide +kernel
theorem dX5_update_16 : decode cX5_update 16 = .ok (.iload_n 1, 1) := by decide +kernel
theorem dX5_update_17 : decode cX5_update 17 = .ok (.invokevirtual 53, 3) := by decide +kernel
theorem dX5_update_20 : decode cX5_update 20 = .ok (.invokestatic 57, 3) := by decide +kernel
theorem dX5_update_23 : decode cX5_update 23 = .ok (.ireturn, 1) := by decide +kernel
theorem dX5_dial_0 : decode cX5_dial 0 = .ok (.iload_n 2, 1) := by decide +kernel
theorem dX5_dial_1 : decode cX5_dial 1 = .ok (.iconst 1, 1) := by decide +kernel
theorem dX5_dial_2 : decode cX5_dial 2 = .ok (.if_icmp .lt 13, 3) := by decide +kernel
theorem dX5_dial_5 : decode cX5_dial 5 = .ok (.iload_n 2, 1) := by decide +kernel
theorem dX5_dial_6 : decode cX5_dial 6 = .ok (.bipush 8, 2) := by decide +kernel
theorem dX5_dial_8 : decode cX5_dial 8 = .ok (.if_icmp .gt 7, 3) := by decide +kernel
theorem dX5_dial_11 : decode cX5_dial 11 = .ok (.iload_n 1, 1) := by decide +kernel
theorem dX5_dial_12 : decode cX5_dial 12 = .ok (.ifCond .ge 5, 3) := by decide +kernel
theorem dX5_dial_15 : decode cX5_dial 15 = .ok (.iconst (-1), 1) := by decide +kernel
theorem dX5_dial_16 : decode cX5_dial 16 = .ok (.ireturn, 1) := by decide +kernel
theorem dX5_dial_17 : decode cX5_dial 17 = .ok (.aload_n 0, 1) := by decide +kernel
theorem dX5_dial_18 : decode cX5_dial 18 = .ok (.getfield 12, 3) := by decide +kernel
theorem dX5_dial_21 : decode cX5_dial 21 = .ok (.iload_n 1, 1) := by decide +kernel
theorem dX5_dial_22 : decode cX5_dial 22 = .ok (.iload_n 2, 1) := by decide +kernel
theorem dX5_dial_23 : decode cX5_dial 23 = .ok (.invokevirtual 61, 3) := by decide +kernel
theorem dX5_dial_26 : decode cX5_dial 26 = .ok (.invokestatic 57, 3) := by decide +kernel
theorem dX5_dial_29 : decode cX5_dial 29 = .ok (.ireturn, 1) := by decide +kernel
theorem dX5_hang_0 : decode cX5_hang 0 = .ok (.aload_n 0, 1) := by decide +kernel
theorem dX5_hang_1 : decode cX5_hang 1 = .ok (.getfield 12, 3) := by decide +kernel
theorem dX5_hang_4 : decode cX5_hang 4 = .ok (.bipush 16, 2) := by decide +kernel
theorem dX5_hang_6 : decode cX5_hang 6 = .ok (.invokevirtual 65, 3) := by decide +kernel
theorem dX5_hang_9 : decode cX5_hang 9 = .ok (.invokestatic 57, 3) := by decide +kernel
theorem dX5_hang_12 : decode cX5_hang 12 = .ok (.ireturn, 1) := by decide +kernel
theorem dX5_alert_0 : decode cX5_alert 0 = .ok (.aload_n 0, 1) := by decide +kernel
theorem dX5_alert_1 : decode cX5_alert 1 = .ok (.getfield 23, 3) := by decide +kernel
theorem dX5_alert_4 : decode cX5_alert 4 = .ok (.invokevirtual 68, 3) := by decide +kernel
theorem dX5_alert_7 : decode cX5_alert 7 = .ok (.invokestatic 57, 3) := by decide +kernel
theorem dX5_alert_10 : decode cX5_alert 10 = .ok (.ireturn, 1) := by decide +kernel
theorem dX5_answer_0 : decode cX5_answer 0 = .ok (.aload_n 0, 1) := by decide +kernel
theorem dX5_answer_1 : decode cX5_answer 1 = .ok (.getfield 23, 3) := by decide +kernel
theorem dX5_answer_4 : decode cX5_answer 4 = .ok (.invokevirtual 71, 3) := by decide +kernel
theorem dX5_answer_7 : decode cX5_answer 7 = .ok (.invokestatic 57, 3) := by decide +kernel
theorem dX5_answer_10 : decode cX5_answer 10 = .ok (.ireturn, 1) := by decide +kernel
theorem dX5_clear_0 : decode cX5_clear 0 = .ok (.iload_n 1, 1) := by decide +kernel
theorem dX5_clear_1 : decode cX5_clear 1 = .ok (.invokestatic 74, 3) := by decide +kernel
theorem dX5_clear_4 : decode cX5_clear 4 = .ok (.ifCond .ne 5, 3) := by decide +kernel
theorem dX5_clear_7 : decode cX5_clear 7 = .ok (.iconst (-1), 1) := by decide +kernel
theorem dX5_clear_8 : decode cX5_clear 8 = .ok (.ireturn, 1) := by decide +kernel
theorem dX5_clear_9 : decode cX5_clear 9 = .ok (.aload_n 0, 1) := by decide +kernel
theorem dX5_clear_10 : decode cX5_clear 10 = .ok (.getfield 23, 3) := by decide +kernel
theorem dX5_clear_13 : decode cX5_clear 13 = .ok (.iload_n 1, 1) := by decide +kernel
theorem dX5_clear_14 : decode cX5_clear 14 = .ok (.invokevirtual 77, 3) := by decide +kernel
theorem dX5_clear_17 : decode cX5_clear 17 = .ok (.invokestatic 57, 3) := by decide +kernel
theorem dX5_clear_20 : decode cX5_clear 20 = .ok (.ireturn, 1) := by decide +kernel
theorem dX5_accept_0 : decode cX5_accept 0 = .ok (.aload_n 0, 1) := by decide +kernel
theorem dX5_accept_1 : decode cX5_accept 1 = .ok (.getfield 23, 3) := by decide +kernel
theorem dX5_accept_4 : decode cX5_accept 4 = .ok (.iload_n 1, 1) := by decide +kernel
theorem dX5_accept_5 : decode cX5_accept 5 = .ok (.iconst 1, 1) := by decide +kernel
theorem dX5_accept_6 : decode cX5_accept 6 = .ok (.iand, 1) := by decide +kernel
theorem dX5_accept_7 : decode cX5_accept 7 = .ok (.ifCond .eq 7, 3) := by decide +kernel
theorem dX5_accept_10 : decode cX5_accept 10 = .ok (.iconst 1, 1) := by decide +kernel
theorem dX5_accept_11 : decode cX5_accept 11 = .ok (.goto 4, 3) := by decide +kernel
theorem dX5_accept_14 : decode cX5_accept 14 = .ok (.iconst 0, 1) := by decide +kernel
theorem dX5_accept_15 : decode cX5_accept 15 = .ok (.iload_n 1, 1) := by decide +kernel
theorem dX5_accept_16 : decode cX5_accept 16 = .ok (.iconst 2, 1) := by decide +kernel
theorem dX5_accept_17 : decode cX5_accept 17 = .ok (.iand, 1) := by decide +kernel
theorem dX5_accept_18 : decode cX5_accept 18 = .ok (.ifCond .eq 7, 3) := by decide +kernel
theorem dX5_accept_21 : decode cX5_accept 21 = .ok (.iconst 1, 1) := by decide +kernel
theorem dX5_accept_22 : decode cX5_accept 22 = .ok (.goto 4, 3) := by decide +kernel
theorem dX5_accept_25 : decode cX5_accept 25 = .ok (.iconst 0, 1) := by decide +kernel
theorem dX5_accept_26 : decode cX5_accept 26 = .ok (.invokevirtual 78, 3) := by decide +kernel
theorem dX5_accept_29 : decode cX5_accept 29 = .ok (.iconst 1, 1) := by decide +kernel
theorem dX5_accept_30 : decode cX5_accept 30 = .ok (.ireturn, 1) := by decide +kernel
theorem dX5_radio_0 : decode cX5_radio 0 = .ok (.iload_n 1, 1) := by decide +kernel
theorem dX5_radio_1 : decode cX5_radio 1 = .ok (.aload_n 0, 1) := by decide +kernel
theorem dX5_radio_2 : decode cX5_radio 2 = .ok (.getfield 31, 3) := by decide +kernel
theorem dX5_radio_5 : decode cX5_radio 5 = .ok (.invokevirtual 82, 3) := by decide +kernel
theorem dX5_radio_8 : decode cX5_radio 8 = .ok (.if_icmp .ne 6, 3) := by decide +kernel
theorem dX5_radio_11 : decode cX5_radio 11 = .ok (.bipush (-2), 2) := by decide +kernel
theorem dX5_radio_13 : decode cX5_radio 13 = .ok (.ireturn, 1) := by decide +kernel
theorem dX5_radio_14 : decode cX5_radio 14 = .ok (.iload_n 1, 1) := by decide +kernel
theorem dX5_radio_15 : decode cX5_radio 15 = .ok (.ifCond .eq 20, 3) := by decide +kernel
theorem dX5_radio_18 : decode cX5_radio 18 = .ok (.aload_n 0, 1) := by decide +kernel
theorem dX5_radio_19 : decode cX5_radio 19 = .ok (.getfield 31, 3) := by decide +kernel
theorem dX5_radio_22 : decode cX5_radio 22 = .ok (.invokevirtual 87, 3) := by decide +kernel
theorem dX5_radio_25 : decode cX5_radio 25 = .ok (.aload_n 0, 1) := by decide +kernel
theorem dX5_radio_26 : decode cX5_radio 26 = .ok (.getfield 35, 3) := by decide +kernel
theorem dX5_radio_29 : decode cX5_radio 29 = .ok (.invokevirtual 87, 3) := by decide +kernel
theorem dX5_radio_32 : decode cX5_radio 32 = .ok (.goto 31, 3) := by decide +kernel
theorem dX5_radio_35 : decode cX5_radio 35 = .ok (.aload_n 0, 1) := by decide +kernel
theorem dX5_radio_36 : decode cX5_radio 36 = .ok (.getfield 31, 3) := by decide +kernel
theorem dX5_radio_39 : decode cX5_radio 39 = .ok (.invokevirtual 90, 3) := by decide +kernel
theorem dX5_radio_42 : decode cX5_radio 42 = .ok (.aload_n 0, 1) := by decide +kernel
theorem dX5_radio_43 : decode cX5_radio 43 = .ok (.getfield 35, 3) := by decide +kernel
theorem dX5_radio_46 : decode cX5_radio 46 = .ok (.invokevirtual 90, 3) := by decide +kernel
theorem dX5_radio_49 : decode cX5_radio 49 = .ok (.aload_n 0, 1) := by decide +kernel
theorem dX5_radio_50 : decode cX5_radio 50 = .ok (.getfield 12, 3) := by decide +kernel
theorem dX5_radio_53 : decode cX5_radio 53 = .ok (.invokevirtual 93, 3) := by decide +kernel
theorem dX5_radio_56 : decode cX5_radio 56 = .ok (.aload_n 0, 1) := by decide +kernel
theorem dX5_radio_57 : decode cX5_radio 57 = .ok (.getfield 23, 3) := by decide +kernel
theorem dX5_radio_60 : decode cX5_radio 60 = .ok (.invokevirtual 96, 3) := by decide +kernel
theorem dX5_radio_63 : decode cX5_radio 63 = .ok (.iconst 1, 1) := by decide +kernel
theorem dX5_radio_64 : decode cX5_radio 64 = .ok (.ireturn, 1) := by decide +kernel
theorem dX5_carry_0 : decode cX5_carry 0 = .ok (.iload_n 1, 1) := by decide +kernel
theorem dX5_carry_1 : decode cX5_carry 1 = .ok (.invokestatic 99, 3) := by decide +kernel
theorem dX5_carry_4 : decode cX5_carry 4 = .ok (.ifCond .ne 5, 3) := by decide +kernel
theorem dX5_carry_7 : decode cX5_carry 7 = .ok (.iconst (-1), 1) := by decide +kernel
theorem dX5_carry_8 : decode cX5_carry 8 = .ok (.ireturn, 1) := by decide +kernel
theorem dX5_carry_9 : decode cX5_carry 9 = .ok (.aload_n 0, 1) := by decide +kernel
theorem dX5_carry_10 : decode cX5_carry 10 = .ok (.iload_n 1, 1) := by decide +kernel
theorem dX5_carry_11 : decode cX5_carry 11 = .ok (.invokevirtual 102, 3) := by decide +kernel
theorem dX5_carry_14 : decode cX5_carry 14 = .ok (.iconst 0, 1) := by decide +kernel
theorem dX5_carry_15 : decode cX5_carry 15 = .ok (.invokevirtual 106, 3) := by decide +kernel
theorem dX5_carry_18 : decode cX5_carry 18 = .ok (.astore_n 2, 1) := by decide +kernel
theorem dX5_carry_19 : decode cX5_carry 19 = .ok (.aload_n 2, 1) := by decide +kernel
theorem dX5_carry_20 : decode cX5_carry 20 = .ok (.ifnonnull 6, 3) := by decide +kernel
theorem dX5_carry_23 : decode cX5_carry 23 = .ok (.bipush (-3), 2) := by decide +kernel
theorem dX5_carry_25 : decode cX5_carry 25 = .ok (.ireturn, 1) := by decide +kernel
theorem dX5_carry_26 : decode cX5_carry 26 = .ok (.aload_n 2, 1) := by decide +kernel
theorem dX5_carry_27 : decode cX5_carry 27 = .ok (.invokevirtual 110, 3) := by decide +kernel
theorem dX5_carry_30 : decode cX5_carry 30 = .ok (.istore_n 3, 1) := by decide +kernel
theorem dX5_carry_31 : decode cX5_carry 31 = .ok (.iload_n 1, 1) := by decide +kernel
theorem dX5_carry_32 : decode cX5_carry 32 = .ok (.ifCond .ne 14, 3) := by decide +kernel
theorem dX5_carry_35 : decode cX5_carry 35 = .ok (.aload_n 0, 1) := by decide +kernel
theorem dX5_carry_36 : decode cX5_carry 36 = .ok (.getfield 23, 3) := by decide +kernel
theorem dX5_carry_39 : decode cX5_carry 39 = .ok (.aload_n 2, 1) := by decide +kernel
theorem dX5_carry_40 : decode cX5_carry 40 = .ok (.invokevirtual 116, 3) := by decide +kernel
theorem dX5_carry_43 : decode cX5_carry 43 = .ok (.goto 11, 3) := by decide +kernel
theorem dX5_carry_46 : decode cX5_carry 46 = .ok (.aload_n 0, 1) := by decide +kernel
theorem dX5_carry_47 : decode cX5_carry 47 = .ok (.getfield 12, 3) := by decide +kernel
theorem dX5_carry_50 : decode cX5_carry 50 = .ok (.aload_n 2, 1) := by decide +kernel
theorem dX5_carry_51 : decode cX5_carry 51 = .ok (.invokevirtual 120, 3) := by decide +kernel
theorem dX5_carry_54 : decode cX5_carry 54 = .ok (.istore 4, 2) := by decide +kernel
theorem dX5_carry_56 : decode cX5_carry 56 = .ok (.aload_n 0, 1) := by decide +kernel
theorem dX5_carry_57 : decode cX5_carry 57 = .ok (.iload_n 1, 1) := by decide +kernel
theorem dX5_carry_58 : decode cX5_carry 58 = .ok (.invokevirtual 102, 3) := by decide +kernel
theorem dX5_carry_61 : decode cX5_carry 61 = .ok (.invokevirtual 121, 3) := by decide +kernel
theorem dX5_carry_64 : decode cX5_carry 64 = .ok (.iload 4, 2) := by decide +kernel
theorem dX5_carry_66 : decode cX5_carry 66 = .ok (.ifCond .eq 5, 3) := by decide +kernel
theorem dX5_carry_69 : decode cX5_carry 69 = .ok (.iload_n 3, 1) := by decide +kernel
theorem dX5_carry_70 : decode cX5_carry 70 = .ok (.ireturn, 1) := by decide +kernel
theorem dX5_carry_71 : decode cX5_carry 71 = .ok (.aload_n 0, 1) := by decide +kernel
theorem dX5_carry_72 : decode cX5_carry 72 = .ok (.dup, 1) := by decide +kernel
theorem dX5_carry_73 : decode cX5_carry 73 = .ok (.getfield 38, 3) := by decide +kernel
theorem dX5_carry_76 : decode cX5_carry 76 = .ok (.iconst 1, 1) := by decide +kernel
theorem dX5_carry_77 : decode cX5_carry 77 = .ok (.iadd, 1) := by decide +kernel
theorem dX5_carry_78 : decode cX5_carry 78 = .ok (.putfield 38, 3) := by decide +kernel
theorem dX5_carry_81 : decode cX5_carry 81 = .ok (.iload_n 3, 1) := by decide +kernel
theorem dX5_carry_82 : decode cX5_carry 82 = .ok (.sipush 1000, 3) := by decide +kernel
theorem dX5_carry_85 : decode cX5_carry 85 = .ok (.iadd, 1) := by decide +kernel
theorem dX5_carry_86 : decode cX5_carry 86 = .ok (.ireturn, 1) := by decide +kernel
theorem dX5_lose_0 : decode cX5_lose 0 = .ok (.iload_n 1, 1) := by decide +kernel
theorem dX5_lose_1 : decode cX5_lose 1 = .ok (.invokestatic 99, 3) := by decide +kernel
theorem dX5_lose_4 : decode cX5_lose 4 = .ok (.ifCond .ne 5, 3) := by decide +kernel
theorem dX5_lose_7 : decode cX5_lose 7 = .ok (.iconst (-1), 1) := by decide +kernel
theorem dX5_lose_8 : decode cX5_lose 8 = .ok (.ireturn, 1) := by decide +kernel
theorem dX5_lose_9 : decode cX5_lose 9 = .ok (.aload_n 0, 1) := by decide +kernel
theorem dX5_lose_10 : decode cX5_lose 10 = .ok (.iload_n 1, 1) := by decide +kernel
theorem dX5_lose_11 : decode cX5_lose 11 = .ok (.invokevirtual 102, 3) := by decide +kernel
theorem dX5_lose_14 : decode cX5_lose 14 = .ok (.iconst 0, 1) := by decide +kernel
theorem dX5_lose_15 : decode cX5_lose 15 = .ok (.invokevirtual 106, 3) := by decide +kernel
theorem dX5_lose_18 : decode cX5_lose 18 = .ok (.astore_n 2, 1) := by decide +kernel
theorem dX5_lose_19 : decode cX5_lose 19 = .ok (.aload_n 2, 1) := by decide +kernel
theorem dX5_lose_20 : decode cX5_lose 20 = .ok (.ifnonnull 6, 3) := by decide +kernel
theorem dX5_lose_23 : decode cX5_lose 23 = .ok (.bipush (-3), 2) := by decide +kernel
theorem dX5_lose_25 : decode cX5_lose 25 = .ok (.ireturn, 1) := by decide +kernel
theorem dX5_lose_26 : decode cX5_lose 26 = .ok (.aload_n 0, 1) := by decide +kernel
theorem dX5_lose_27 : decode cX5_lose 27 = .ok (.iload_n 1, 1) := by decide +kernel
theorem dX5_lose_28 : decode cX5_lose 28 = .ok (.invokevirtual 102, 3) := by decide +kernel
theorem dX5_lose_31 : decode cX5_lose 31 = .ok (.invokevirtual 121, 3) := by decide +kernel
theorem dX5_lose_34 : decode cX5_lose 34 = .ok (.aload_n 2, 1) := by decide +kernel
theorem dX5_lose_35 : decode cX5_lose 35 = .ok (.invokevirtual 110, 3) := by decide +kernel
theorem dX5_lose_38 : decode cX5_lose 38 = .ok (.ireturn, 1) := by decide +kernel
theorem dX5_spoil_0 : decode cX5_spoil 0 = .ok (.iload_n 1, 1) := by decide +kernel
theorem dX5_spoil_1 : decode cX5_spoil 1 = .ok (.invokestatic 99, 3) := by decide +kernel
theorem dX5_spoil_4 : decode cX5_spoil 4 = .ok (.ifCond .eq 10, 3) := by decide +kernel
theorem dX5_spoil_7 : decode cX5_spoil 7 = .ok (.iload_n 3, 1) := by decide +kernel
theorem dX5_spoil_8 : decode cX5_spoil 8 = .ok (.invokestatic 74, 3) := by decide +kernel
theorem dX5_spoil_11 : decode cX5_spoil 11 = .ok (.ifCond .ne 5, 3) := by decide +kernel
theorem dX5_spoil_14 : decode cX5_spoil 14 = .ok (.iconst (-1), 1) := by decide +kernel
theorem dX5_spoil_15 : decode cX5_spoil 15 = .ok (.ireturn, 1) := by decide +kernel
theorem dX5_spoil_16 : decode cX5_spoil 16 = .ok (.aload_n 0, 1) := by decide +kernel
theorem dX5_spoil_17 : decode cX5_spoil 17 = .ok (.iload_n 1, 1) := by decide +kernel
theorem dX5_spoil_18 : decode cX5_spoil 18 = .ok (.invokevirtual 102, 3) := by decide +kernel
theorem dX5_spoil_21 : decode cX5_spoil 21 = .ok (.iconst 0, 1) := by decide +kernel
theorem dX5_spoil_22 : decode cX5_spoil 22 = .ok (.invokevirtual 106, 3) := by decide +kernel
theorem dX5_spoil_25 : decode cX5_spoil 25 = .ok (.astore 4, 2) := by decide +kernel
theorem dX5_spoil_27 : decode cX5_spoil 27 = .ok (.aload 4, 2) := by decide +kernel
theorem dX5_spoil_29 : decode cX5_spoil 29 = .ok (.ifnonnull 6, 3) := by decide +kernel
theorem dX5_spoil_32 : decode cX5_spoil 32 = .ok (.bipush (-3), 2) := by decide +kernel
theorem dX5_spoil_34 : decode cX5_spoil 34 = .ok (.ireturn, 1) := by decide +kernel
theorem dX5_spoil_35 : decode cX5_spoil 35 = .ok (.aload 4, 2) := by decide +kernel
theorem dX5_spoil_37 : decode cX5_spoil 37 = .ok (.iload_n 2, 1) := by decide +kernel
theorem dX5_spoil_38 : decode cX5_spoil 38 = .ok (.iload_n 3, 1) := by decide +kernel
theorem dX5_spoil_39 : decode cX5_spoil 39 = .ok (.invokevirtual 124, 3) := by decide +kernel
theorem dX5_spoil_42 : decode cX5_spoil 42 = .ok (.aload 4, 2) := by decide +kernel
theorem dX5_spoil_44 : decode cX5_spoil 44 = .ok (.iload_n 2, 1) := by decide +kernel
theorem dX5_spoil_45 : decode cX5_spoil 45 = .ok (.invokevirtual 127, 3) := by decide +kernel
theorem dX5_spoil_48 : decode cX5_spoil 48 = .ok (.ireturn, 1) := by decide +kernel
theorem dX5_forge_0 : decode cX5_forge 0 = .ok (.iload_n 1, 1) := by decide +kernel
theorem dX5_forge_1 : decode cX5_forge 1 = .ok (.invokestatic 99, 3) := by decide +kernel
theorem dX5_forge_4 : decode cX5_forge 4 = .ok (.ifCond .eq 16, 3) := by decide +kernel
theorem dX5_forge_7 : decode cX5_forge 7 = .ok (.iload 4, 2) := by decide +kernel
theorem dX5_forge_9 : decode cX5_forge 9 = .ok (.iconst 2, 1) := by decide +kernel
theorem dX5_forge_10 : decode cX5_forge 10 = .ok (.if_icmp .lt 10, 3) := by decide +kernel
theorem dX5_forge_13 : decode cX5_forge 13 = .ok (.iload 4, 2) := by decide +kernel
theorem dX5_forge_15 : decode cX5_forge 15 = .ok (.bipush 8, 2) := by decide +kernel
theorem dX5_forge_17 : decode cX5_forge 17 = .ok (.if_icmp .le 5, 3) := by decide +kernel
theorem dX5_forge_20 : decode cX5_forge 20 = .ok (.iconst (-1), 1) := by decide +kernel
theorem dX5_forge_21 : decode cX5_forge 21 = .ok (.ireturn, 1) := by decide +kernel
theorem dX5_forge_22 : decode cX5_forge 22 = .ok (.aload_n 0, 1) := by decide +kernel
theorem dX5_forge_23 : decode cX5_forge 23 = .ok (.iload_n 1, 1) := by decide +kernel
theorem dX5_forge_24 : decode cX5_forge 24 = .ok (.invokevirtual 102, 3) := by decide +kernel
theorem dX5_forge_27 : decode cX5_forge 27 = .ok (.astore 5, 2) := by decide +kernel
theorem dX5_forge_29 : decode cX5_forge 29 = .ok (.aload 5, 2) := by decide +kernel
theorem dX5_forge_31 : decode cX5_forge 31 = .ok (.invokevirtual 131, 3) := by decide +kernel
theorem dX5_forge_34 : decode cX5_forge 34 = .ok (.ifCond .ne 6, 3) := by decide +kernel
theorem dX5_forge_37 : decode cX5_forge 37 = .ok (.bipush (-2), 2) := by decide +kernel
theorem dX5_forge_39 : decode cX5_forge 39 = .ok (.ireturn, 1) := by decide +kernel
theorem dX5_forge_40 : decode cX5_forge 40 = .ok (.aload 5, 2) := by decide +kernel
theorem dX5_forge_42 : decode cX5_forge 42 = .ok (.lload_n 2, 1) := by decide +kernel
theorem dX5_forge_43 : decode cX5_forge 43 = .ok (.iload 4, 2) := by decide +kernel
theorem dX5_forge_45 : decode cX5_forge 45 = .ok (.iconst 1, 1) := by decide +kernel
theorem dX5_forge_46 : decode cX5_forge 46 = .ok (.isub, 1) := by decide +kernel
theorem dX5_forge_47 : decode cX5_forge 47 = .ok (.invokestatic 134, 3) := by decide +kernel
theorem dX5_forge_50 : decode cX5_forge 50 = .ok (.lload_n 2, 1) := by decide +kernel
theorem dX5_forge_51 : decode cX5_forge 51 = .ok (.iload 4, 2) := by decide +kernel
theorem dX5_forge_53 : decode cX5_forge 53 = .ok (.iconst 2, 1) := by decide +kernel
theorem dX5_forge_54 : decode cX5_forge 54 = .ok (.isub, 1) := by decide +kernel
theorem dX5_forge_55 : decode cX5_forge 55 = .ok (.invokestatic 134, 3) := by decide +kernel
theorem dX5_forge_58 : decode cX5_forge 58 = .ok (.invokevirtual 138, 3) := by decide +kernel
theorem dX5_forge_61 : decode cX5_forge 61 = .ok (.astore 6, 2) := by decide +kernel
theorem dX5_forge_63 : decode cX5_forge 63 = .ok (.iload 4, 2) := by decide +kernel
theorem dX5_forge_65 : decode cX5_forge 65 = .ok (.iconst 3, 1) := by decide +kernel
theorem dX5_forge_66 : decode cX5_forge 66 = .ok (.isub, 1) := by decide +kernel
theorem dX5_forge_67 : decode cX5_forge 67 = .ok (.istore 7, 2) := by decide +kernel
theorem dX5_forge_69 : decode cX5_forge 69 = .ok (.iload 7, 2) := by decide +kernel
theorem dX5_forge_71 : decode cX5_forge 71 = .ok (.ifCond .lt 20, 3) := by decide +kernel
theorem dX5_forge_74 : decode cX5_forge 74 = .ok (.aload 6, 2) := by decide +kernel
theorem dX5_forge_76 : decode cX5_forge 76 = .ok (.lload_n 2, 1) := by decide +kernel
theorem dX5_forge_77 : decode cX5_forge 77 = .ok (.iload 7, 2) := by decide +kernel
theorem dX5_forge_79 : decode cX5_forge 79 = .ok (.invokestatic 134, 3) := by decide +kernel
theorem dX5_forge_82 : decode cX5_forge 82 = .ok (.invokevirtual 142, 3) := by decide +kernel
theorem dX5_forge_85 : decode cX5_forge 85 = .ok (.iinc 7 (-1), 3) := by decide +kernel
theorem dX5_forge_88 : decode cX5_forge 88 = .ok (.goto (-19), 3) := by decide +kernel
theorem dX5_forge_91 : decode cX5_forge 91 = .ok (.aload 5, 2) := by decide +kernel
theorem dX5_forge_93 : decode cX5_forge 93 = .ok (.invokevirtual 145, 3) := by decide +kernel
theorem dX5_forge_96 : decode cX5_forge 96 = .ok (.ireturn, 1) := by decide +kernel
theorem dX5_tick_0 : decode cX5_tick 0 = .ok (.iload_n 1, 1) := by decide +kernel
theorem dX5_tick_1 : decode cX5_tick 1 = .ok (.iconst 1, 1) := by decide +kernel
theorem dX5_tick_2 : decode cX5_tick 2 = .ok (.if_icmp .lt 9, 3) := by decide +kernel
theorem dX5_tick_5 : decode cX5_tick 5 = .ok (.iload_n 1, 1) := by decide +kernel
theorem dX5_tick_6 : decode cX5_tick 6 = .ok (.bipush 100, 2) := by decide +kernel
theorem dX5_tick_8 : decode cX5_tick 8 = .ok (.if_icmp .le 5, 3) := by decide +kernel
theorem dX5_tick_11 : decode cX5_tick 11 = .ok (.iconst (-1), 1) := by decide +kernel
theorem dX5_tick_12 : decode cX5_tick 12 = .ok (.ireturn, 1) := by decide +kernel
theorem dX5_tick_13 : decode cX5_tick 13 = .ok (.iconst 0, 1) := by decide +kernel
theorem dX5_tick_14 : decode cX5_tick 14 = .ok (.istore_n 2, 1) := by decide +kernel
theorem dX5_tick_15 : decode cX5_tick 15 = .ok (.iconst 0, 1) := by decide +kernel
theorem dX5_tick_16 : decode cX5_tick 16 = .ok (.istore_n 3, 1) := by decide +kernel
theorem dX5_tick_17 : decode cX5_tick 17 = .ok (.iload_n 3, 1) := by decide +kernel
theorem dX5_tick_18 : decode cX5_tick 18 = .ok (.iload_n 1, 1) := by decide +kernel
theorem dX5_tick_19 : decode cX5_tick 19 = .ok (.if_icmp .ge 35, 3) := by decide +kernel
theorem dX5_tick_22 : decode cX5_tick 22 = .ok (.aload_n 0, 1) := by decide +kernel
theorem dX5_tick_23 : decode cX5_tick 23 = .ok (.getfield 12, 3) := by decide +kernel
theorem dX5_tick_26 : decode cX5_tick 26 = .ok (.invokevirtual 148, 3) := by decide +kernel
theorem dX5_tick_29 : decode cX5_tick 29 = .ok (.ifCond .eq 6, 3) := by decide +kernel
theorem dX5_tick_32 : decode cX5_tick 32 = .ok (.iinc 2 1, 3) := by decide +kernel
theorem dX5_tick_35 : decode cX5_tick 35 = .ok (.aload_n 0, 1) := by decide +kernel
theorem dX5_tick_36 : decode cX5_tick 36 = .ok (.getfield 23, 3) := by decide +kernel
theorem dX5_tick_39 : decode cX5_tick 39 = .ok (.invokevirtual 151, 3) := by decide +kernel
theorem dX5_tick_42 : decode cX5_tick 42 = .ok (.ifCond .eq 6, 3) := by decide +kernel
theorem dX5_tick_45 : decode cX5_tick 45 = .ok (.iinc 2 1, 3) := by decide +kernel
theorem dX5_tick_48 : decode cX5_tick 48 = .ok (.iinc 3 1, 3) := by decide +kernel
theorem dX5_tick_51 : decode cX5_tick 51 = .ok (.goto (-34), 3) := by decide +kernel
theorem dX5_tick_54 : decode cX5_tick 54 = .ok (.iload_n 2, 1) := by decide +kernel
theorem dX5_tick_55 : decode cX5_tick 55 = .ok (.ireturn, 1) := by decide +kernel
theorem dX5_told_0 : decode cX5_told 0 = .ok (.iload_n 1, 1) := by decide +kernel
theorem dX5_told_1 : decode cX5_told 1 = .ok (.tableswitch 188 0 13 #[71, 79, 87, 95, 103, 111, 119, 127, 135, 143, 151, 156, 172, 180], 71) := by decide +kernel
theorem dX5_told_72 : decode cX5_told 72 = .ok (.aload_n 0, 1) := by decide +kernel
theorem dX5_told_73 : decode cX5_told 73 = .ok (.getfield 12, 3) := by decide +kernel
theorem dX5_told_76 : decode cX5_told 76 = .ok (.getfield 152, 3) := by decide +kernel
theorem dX5_told_79 : decode cX5_told 79 = .ok (.ireturn, 1) := by decide +kernel
theorem dX5_told_80 : decode cX5_told 80 = .ok (.aload_n 0, 1) := by decide +kernel
theorem dX5_told_81 : decode cX5_told 81 = .ok (.getfield 12, 3) := by decide +kernel
theorem dX5_told_84 : decode cX5_told 84 = .ok (.getfield 155, 3) := by decide +kernel
theorem dX5_told_87 : decode cX5_told 87 = .ok (.ireturn, 1) := by decide +kernel
theorem dX5_told_88 : decode cX5_told 88 = .ok (.aload_n 0, 1) := by decide +kernel
theorem dX5_told_89 : decode cX5_told 89 = .ok (.getfield 12, 3) := by decide +kernel
theorem dX5_told_92 : decode cX5_told 92 = .ok (.getfield 158, 3) := by decide +kernel
theorem dX5_told_95 : decode cX5_told 95 = .ok (.ireturn, 1) := by decide +kernel
theorem dX5_told_96 : decode cX5_told 96 = .ok (.aload_n 0, 1) := by decide +kernel
theorem dX5_told_97 : decode cX5_told 97 = .ok (.getfield 12, 3) := by decide +kernel
theorem dX5_told_100 : decode cX5_told 100 = .ok (.getfield 161, 3) := by decide +kernel
theorem dX5_told_103 : decode cX5_told 103 = .ok (.ireturn, 1) := by decide +kernel
theorem dX5_told_104 : decode cX5_told 104 = .ok (.aload_n 0, 1) := by decide +kernel
theorem dX5_told_105 : decode cX5_told 105 = .ok (.getfield 23, 3) := by decide +kernel
theorem dX5_told_108 : decode cX5_told 108 = .ok (.getfield 164, 3) := by decide +kernel
theorem dX5_told_111 : decode cX5_told 111 = .ok (.ireturn, 1) := by decide +kernel
theorem dX5_told_112 : decode cX5_told 112 = .ok (.aload_n 0, 1) := by decide +kernel
theorem dX5_told_113 : decode cX5_told 113 = .ok (.getfield 23, 3) := by decide +kernel
theorem dX5_told_116 : decode cX5_told 116 = .ok (.getfield 165, 3) := by decide +kernel
theorem dX5_told_119 : decode cX5_told 119 = .ok (.ireturn, 1) := by decide +kernel
theorem dX5_told_120 : decode cX5_told 120 = .ok (.aload_n 0, 1) := by decide +kernel
theorem dX5_told_121 : decode cX5_told 121 = .ok (.getfield 23, 3) := by decide +kernel
theorem dX5_told_124 : decode cX5_told 124 = .ok (.getfield 166, 3) := by decide +kernel
theorem dX5_told_127 : decode cX5_told 127 = .ok (.ireturn, 1) := by decide +kernel
theorem dX5_told_128 : decode cX5_told 128 = .ok (.aload_n 0, 1) := by decide +kernel
theorem dX5_told_129 : decode cX5_told 129 = .ok (.getfield 23, 3) := by decide +kernel
theorem dX5_told_132 : decode cX5_told 132 = .ok (.getfield 167, 3) := by decide +kernel
theorem dX5_told_135 : decode cX5_told 135 = .ok (.ireturn, 1) := by decide +kernel
theorem dX5_told_136 : decode cX5_told 136 = .ok (.aload_n 0, 1) := by decide +kernel
theorem dX5_told_137 : decode cX5_told 137 = .ok (.getfield 31, 3) := by decide +kernel
theorem dX5_told_140 : decode cX5_told 140 = .ok (.invokevirtual 145, 3) := by decide +kernel
theorem dX5_told_143 : decode cX5_told 143 = .ok (.ireturn, 1) := by decide +kernel
theorem dX5_told_144 : decode cX5_told 144 = .ok (.aload_n 0, 1) := by decide +kernel
theorem dX5_told_145 : decode cX5_told 145 = .ok (.getfield 35, 3) := by decide +kernel
theorem dX5_told_148 : decode cX5_told 148 = .ok (.invokevirtual 145, 3) := by decide +kernel
theorem dX5_told_151 : decode cX5_told 151 = .ok (.ireturn, 1) := by decide +kernel
theorem dX5_told_152 : decode cX5_told 152 = .ok (.aload_n 0, 1) := by decide +kernel
theorem dX5_told_153 : decode cX5_told 153 = .ok (.getfield 38, 3) := by decide +kernel
theorem dX5_told_156 : decode cX5_told 156 = .ok (.ireturn, 1) := by decide +kernel
theorem dX5_told_157 : decode cX5_told 157 = .ok (.aload_n 0, 1) := by decide +kernel
theorem dX5_told_158 : decode cX5_told 158 = .ok (.getfield 31, 3) := by decide +kernel
theorem dX5_told_161 : decode cX5_told 161 = .ok (.invokevirtual 82, 3) := by decide +kernel
theorem dX5_told_164 : decode cX5_told 164 = .ok (.ifCond .eq 7, 3) := by decide +kernel
theorem dX5_told_167 : decode cX5_told 167 = .ok (.iconst 1, 1) := by decide +kernel
theorem dX5_told_168 : decode cX5_told 168 = .ok (.goto 4, 3) := by decide +kernel
theorem dX5_told_171 : decode cX5_told 171 = .ok (.iconst 0, 1) := by decide +kernel
theorem dX5_told_172 : decode cX5_told 172 = .ok (.ireturn, 1) := by decide +kernel
theorem dX5_told_173 : decode cX5_told 173 = .ok (.aload_n 0, 1) := by decide +kernel
theorem dX5_told_174 : decode cX5_told 174 = .ok (.getfield 12, 3) := by decide +kernel
theorem dX5_told_177 : decode cX5_told 177 = .ok (.getfield 168, 3) := by decide +kernel
theorem dX5_told_180 : decode cX5_told 180 = .ok (.ireturn, 1) := by decide +kernel
theorem dX5_told_181 : decode cX5_told 181 = .ok (.aload_n 0, 1) := by decide +kernel
theorem dX5_told_182 : decode cX5_told 182 = .ok (.getfield 23, 3) := by decide +kernel
theorem dX5_told_185 : decode cX5_told 185 = .ok (.getfield 171, 3) := by decide +kernel
theorem dX5_told_188 : decode cX5_told 188 = .ok (.ireturn, 1) := by decide +kernel
theorem dX5_told_189 : decode cX5_told 189 = .ok (.iconst (-1), 1) := by decide +kernel
theorem dX5_told_190 : decode cX5_told 190 = .ok (.ireturn, 1) := by decide +kernel
theorem dX5_byteOf_0 : decode cX5_byteOf 0 = .ok (.iload_n 1, 1) := by decide +kernel
theorem dX5_byteOf_1 : decode cX5_byteOf 1 = .ok (.invokestatic 99, 3) := by decide +kernel
theorem dX5_byteOf_4 : decode cX5_byteOf 4 = .ok (.ifCond .ne 6, 3) := by decide +kernel
theorem dX5_byteOf_7 : decode cX5_byteOf 7 = .ok (.bipush (-3), 2) := by decide +kernel
theorem dX5_byteOf_9 : decode cX5_byteOf 9 = .ok (.ireturn, 1) := by decide +kernel
theorem dX5_byteOf_10 : decode cX5_byteOf 10 = .ok (.aload_n 0, 1) := by decide +kernel
theorem dX5_byteOf_11 : decode cX5_byteOf 11 = .ok (.iload_n 1, 1) := by decide +kernel
theorem dX5_byteOf_12 : decode cX5_byteOf 12 = .ok (.invokevirtual 102, 3) := by decide +kernel
theorem dX5_byteOf_15 : decode cX5_byteOf 15 = .ok (.iload_n 2, 1) := by decide +kernel
theorem dX5_byteOf_16 : decode cX5_byteOf 16 = .ok (.invokevirtual 106, 3) := by decide +kernel
theorem dX5_byteOf_19 : decode cX5_byteOf 19 = .ok (.astore 4, 2) := by decide +kernel
theorem dX5_byteOf_21 : decode cX5_byteOf 21 = .ok (.aload 4, 2) := by decide +kernel
theorem dX5_byteOf_23 : decode cX5_byteOf 23 = .ok (.ifnonnull 8, 3) := by decide +kernel
theorem dX5_byteOf_26 : decode cX5_byteOf 26 = .ok (.bipush (-3), 2) := by decide +kernel
theorem dX5_byteOf_28 : decode cX5_byteOf 28 = .ok (.goto 9, 3) := by decide +kernel
theorem dX5_byteOf_31 : decode cX5_byteOf 31 = .ok (.aload 4, 2) := by decide +kernel
theorem dX5_byteOf_33 : decode cX5_byteOf 33 = .ok (.iload_n 3, 1) := by decide +kernel
theorem dX5_byteOf_34 : decode cX5_byteOf 34 = .ok (.invokevirtual 127, 3) := by decide +kernel
theorem dX5_byteOf_37 : decode cX5_byteOf 37 = .ok (.ireturn, 1) := by decide +kernel
theorem dX5_digit_0 : decode cX5_digit 0 = .ok (.aload_n 0, 1) := by decide +kernel
theorem dX5_digit_1 : decode cX5_digit 1 = .ok (.getfield 23, 3) := by decide +kernel
theorem dX5_digit_4 : decode cX5_digit 4 = .ok (.iload_n 1, 1) := by decide +kernel
theorem dX5_digit_5 : decode cX5_digit 5 = .ok (.invokevirtual 172, 3) := by decide +kernel
theorem dX5_digit_8 : decode cX5_digit 8 = .ok (.ireturn, 1) := by decide +kernel
theorem dX5_row_0 : decode cX5_row 0 = .ok (.iload_n 1, 1) := by decide +kernel
theorem dX5_row_1 : decode cX5_row 1 = .ok (.ifCond .ne 10, 3) := by decide +kernel
theorem dX5_row_4 : decode cX5_row 4 = .ok (.aload_n 0, 1) := by decide +kernel
theorem dX5_row_5 : decode cX5_row 5 = .ok (.getfield 31, 3) := by decide +kernel
theorem dX5_row_8 : decode cX5_row 8 = .ok (.goto 7, 3) := by decide +kernel
theorem dX5_row_11 : decode cX5_row 11 = .ok (.aload_n 0, 1) := by decide +kernel
theorem dX5_row_12 : decode cX5_row 12 = .ok (.getfield 35, 3) := by decide +kernel
theorem dX5_row_15 : decode cX5_row 15 = .ok (.areturn, 1) := by decide +kernel
theorem dX5_isWay_0 : decode cX5_isWay 0 = .ok (.iload_n 0, 1) := by decide +kernel
theorem dX5_isWay_1 : decode cX5_isWay 1 = .ok (.ifCond .eq 8, 3) := by decide +kernel
theorem dX5_isWay_4 : decode cX5_isWay 4 = .ok (.iload_n 0, 1) := by decide +kernel
theorem dX5_isWay_5 : decode cX5_isWay 5 = .ok (.iconst 1, 1) := by decide +kernel
theorem dX5_isWay_6 : decode cX5_isWay 6 = .ok (.if_icmp .ne 7, 3) := by decide +kernel
theorem dX5_isWay_9 : decode cX5_isWay 9 = .ok (.iconst 1, 1) := by decide +kernel
theorem dX5_isWay_10 : decode cX5_isWay 10 = .ok (.goto 4, 3) := by decide +kernel
theorem dX5_isWay_13 : decode cX5_isWay 13 = .ok (.iconst 0, 1) := by decide +kernel
theorem dX5_isWay_14 : decode cX5_isWay 14 = .ok (.ireturn, 1) := by decide +kernel
theorem dX5_isByte_0 : decode cX5_isByte 0 = .ok (.iload_n 0, 1) := by decide +kernel
theorem dX5_isByte_1 : decode cX5_isByte 1 = .ok (.ifCond .lt 14, 3) := by decide +kernel
theorem dX5_isByte_4 : decode cX5_isByte 4 = .ok (.iload_n 0, 1) := by decide +kernel
theorem dX5_isByte_5 : decode cX5_isByte 5 = .ok (.sipush 255, 3) := by decide +kernel
theorem dX5_isByte_8 : decode cX5_isByte 8 = .ok (.if_icmp .gt 7, 3) := by decide +kernel
theorem dX5_isByte_11 : decode cX5_isByte 11 = .ok (.iconst 1, 1) := by decide +kernel
theorem dX5_isByte_12 : decode cX5_isByte 12 = .ok (.goto 4, 3) := by decide +kernel
theorem dX5_isByte_15 : decode cX5_isByte 15 = .ok (.iconst 0, 1) := by decide +kernel
theorem dX5_isByte_16 : decode cX5_isByte 16 = .ok (.ireturn, 1) := by decide +kernel
theorem dX5_byteOfLong_0 : decode cX5_byteOfLong 0 = .ok (.lload_n 0, 1) := by decide +kernel
theorem dX5_byteOfLong_1 : decode cX5_byteOfLong 1 = .ok (.bipush 8, 2) := by decide +kernel
theorem dX5_byteOfLong_3 : decode cX5_byteOfLong 3 = .ok (.iload_n 2, 1) := by decide +kernel
theorem dX5_byteOfLong_4 : decode cX5_byteOfLong 4 = .ok (.imul, 1) := by decide +kernel
theorem dX5_byteOfLong_5 : decode cX5_byteOfLong 5 = .ok (.lushr, 1) := by decide +kernel
theorem dX5_byteOfLong_6 : decode cX5_byteOfLong 6 = .ok (.l2i, 1) := by decide +kernel
theorem dX5_byteOfLong_7 : decode cX5_byteOfLong 7 = .ok (.sipush 255, 3) := by decide +kernel
theorem dX5_byteOfLong_10 : decode cX5_byteOfLong 10 = .ok (.iand, 1) := by decide +kernel
theorem dX5_byteOfLong_11 : decode cX5_byteOfLong 11 = .ok (.ireturn, 1) := by decide +kernel
theorem dX5_done_0 : decode cX5_done 0 = .ok (.iload_n 0, 1) := by decide +kernel
theorem dX5_done_1 : decode cX5_done 1 = .ok (.ifCond .eq 7, 3) := by decide +kernel
theorem dX5_done_4 : decode cX5_done 4 = .ok (.iconst 1, 1) := by decide +kernel
theorem dX5_done_5 : decode cX5_done 5 = .ok (.goto 5, 3) := by decide +kernel
theorem dX5_done_8 : decode cX5_done 8 = .ok (.bipush (-2), 2) := by decide +kernel
theorem dX5_done_10 : decode cX5_done 10 = .ok (.ireturn, 1) := by decide +kernel
theorem dL_cell_0 : decode cL_cell 0 = .ok (.iload_n 1, 1) := by decide +kernel
theorem dL_cell_1 : decode cL_cell 1 = .ok (.aload_n 0, 1) := by decide +kernel
theorem dL_cell_2 : decode cL_cell 2 = .ok (.arraylength, 1) := by decide +kernel
theorem dL_cell_3 : decode cL_cell 3 = .ok (.if_icmp .ge 9, 3) := by decide +kernel
theorem dL_cell_6 : decode cL_cell 6 = .ok (.aload_n 0, 1) := by decide +kernel
theorem dL_cell_7 : decode cL_cell 7 = .ok (.iload_n 1, 1) := by decide +kernel
theorem dL_cell_8 : decode cL_cell 8 = .ok (.iaload, 1) := by decide +kernel
theorem dL_cell_9 : decode cL_cell 9 = .ok (.goto 4, 3) := by decide +kernel
theorem dL_cell_12 : decode cL_cell 12 = .ok (.iconst 0, 1) := by decide +kernel
theorem dL_cell_13 : decode cL_cell 13 = .ok (.ireturn, 1) := by decide +kernel
theorem dL_law_0 : decode cL_law 0 = .ok (.new 7, 3) := by decide +kernel
theorem dL_law_3 : decode cL_law 3 = .ok (.dup, 1) := by decide +kernel
theorem dL_law_4 : decode cL_law 4 = .ok (.aload_n 0, 1) := by decide +kernel
theorem dL_law_5 : decode cL_law 5 = .ok (.iconst 0, 1) := by decide +kernel
theorem dL_law_6 : decode cL_law 6 = .ok (.invokestatic 9, 3) := by decide +kernel
theorem dL_law_9 : decode cL_law 9 = .ok (.aload_n 0, 1) := by decide +kernel
theorem dL_law_10 : decode cL_law 10 = .ok (.iconst 1, 1) := by decide +kernel
theorem dL_law_11 : decode cL_law 11 = .ok (.invokestatic 9, 3) := by decide +kernel
theorem dL_law_14 : decode cL_law 14 = .ok (.aload_n 0, 1) := by decide +kernel
theorem dL_law_15 : decode cL_law 15 = .ok (.iconst 2, 1) := by decide +kernel
theorem dL_law_16 : decode cL_law 16 = .ok (.invokestatic 9, 3) := by decide +kernel
theorem dL_law_19 : decode cL_law 19 = .ok (.invokespecial 15, 3) := by decide +kernel
theorem dL_law_22 : decode cL_law 22 = .ok (.astore_n 1, 1) := by decide +kernel
theorem dL_law_23 : decode cL_law 23 = .ok (.new 18, 3) := by decide +kernel
theorem dL_law_26 : decode cL_law 26 = .ok (.dup, 1) := by decide +kernel
theorem dL_law_27 : decode cL_law 27 = .ok (.aload_n 0, 1) := by decide +kernel
theorem dL_law_28 : decode cL_law 28 = .ok (.iconst 0, 1) := by decide +kernel
theorem dL_law_29 : decode cL_law 29 = .ok (.invokestatic 9, 3) := by decide +kernel
theorem dL_law_32 : decode cL_law 32 = .ok (.aload_n 0, 1) := by decide +kernel
theorem dL_law_33 : decode cL_law 33 = .ok (.iconst 1, 1) := by decide +kernel
theorem dL_law_34 : decode cL_law 34 = .ok (.invokestatic 9, 3) := by decide +kernel
theorem dL_law_37 : decode cL_law 37 = .ok (.aload_n 0, 1) := by decide +kernel
theorem dL_law_38 : decode cL_law 38 = .ok (.iconst 2, 1) := by decide +kernel
theorem dL_law_39 : decode cL_law 39 = .ok (.invokestatic 9, 3) := by decide +kernel
theorem dL_law_42 : decode cL_law 42 = .ok (.invokespecial 20, 3) := by decide +kernel
theorem dL_law_45 : decode cL_law 45 = .ok (.astore_n 2, 1) := by decide +kernel
theorem dL_law_46 : decode cL_law 46 = .ok (.iconst 3, 1) := by decide +kernel
theorem dL_law_47 : decode cL_law 47 = .ok (.istore_n 3, 1) := by decide +kernel
theorem dL_law_48 : decode cL_law 48 = .ok (.iload_n 3, 1) := by decide +kernel
theorem dL_law_49 : decode cL_law 49 = .ok (.aload_n 0, 1) := by decide +kernel
theorem dL_law_50 : decode cL_law 50 = .ok (.arraylength, 1) := by decide +kernel
theorem dL_law_51 : decode cL_law 51 = .ok (.iconst 5, 1) := by decide +kernel
theorem dL_law_52 : decode cL_law 52 = .ok (.isub, 1) := by decide +kernel
theorem dL_law_53 : decode cL_law 53 = .ok (.if_icmp .gt 590, 3) := by decide +kernel
theorem dL_law_56 : decode cL_law 56 = .ok (.aload_n 0, 1) := by decide +kernel
theorem dL_law_57 : decode cL_law 57 = .ok (.iload_n 3, 1) := by decide +kernel
theorem dL_law_58 : decode cL_law 58 = .ok (.iaload, 1) := by decide +kernel
theorem dL_law_59 : decode cL_law 59 = .ok (.bipush 31, 2) := by decide +kernel
theorem dL_law_61 : decode cL_law 61 = .ok (.iand, 1) := by decide +kernel
theorem dL_law_62 : decode cL_law 62 = .ok (.tableswitch 575 0 16 #[82, 121, 144, 177, 190, 203, 216, 239, 262, 301, 324, 347, 390, 463, 486, 509, 552], 82) := by decide +kernel
theorem dL_law_144 : decode cL_law 144 = .ok (.aload_n 1, 1) := by decide +kernel
theorem dL_law_145 : decode cL_law 145 = .ok (.aload_n 0, 1) := by decide +kernel
theorem dL_law_146 : decode cL_law 146 = .ok (.iload_n 3, 1) := by decide +kernel
theorem dL_law_147 : decode cL_law 147 = .ok (.iconst 1, 1) := by decide +kernel
theorem dL_law_148 : decode cL_law 148 = .ok (.iadd, 1) := by decide +kernel
theorem dL_law_149 : decode cL_law 149 = .ok (.iaload, 1) := by decide +kernel
theorem dL_law_150 : decode cL_law 150 = .ok (.ifCond .eq 7, 3) := by decide +kernel
theorem dL_law_153 : decode cL_law 153 = .ok (.iconst 1, 1) := by decide +kernel
theorem dL_law_154 : decode cL_law 154 = .ok (.goto 4, 3) := by decide +kernel
theorem dL_law_157 : decode cL_law 157 = .ok (.iconst 0, 1) := by decide +kernel
theorem dL_law_158 : decode cL_law 158 = .ok (.invokevirtual 21, 3) := by decide +kernel
theorem dL_law_161 : decode cL_law 161 = .ok (.aload_n 2, 1) := by decide +kernel
theorem dL_law_162 : decode cL_law 162 = .ok (.aload_n 0, 1) := by decide +kernel
theorem dL_law_163 : decode cL_law 163 = .ok (.iload_n 3, 1) := by decide +kernel
theorem dL_law_164 : decode cL_law 164 = .ok (.iconst 1, 1) := by decide +kernel
theorem dL_law_165 : decode cL_law 165 = .ok (.iadd, 1) := by decide +kernel
theorem dL_law_166 : decode cL_law 166 = .ok (.iaload, 1) := by decide +kernel
theorem dL_law_167 : decode cL_law 167 = .ok (.ifCond .eq 7, 3) := by decide +kernel
theorem dL_law_170 : decode cL_law 170 = .ok (.iconst 1, 1) := by decide +kernel
theorem dL_law_171 : decode cL_law 171 = .ok (.goto 4, 3) := by decide +kernel
theorem dL_law_174 : decode cL_law 174 = .ok (.iconst 0, 1) := by decide +kernel
theorem dL_law_175 : decode cL_law 175 = .ok (.invokevirtual 25, 3) := by decide +kernel
theorem dL_law_178 : decode cL_law 178 = .ok (.if_icmp .eq 459, 3) := by decide +kernel
theorem dL_law_181 : decode cL_law 181 = .ok (.iconst 0, 1) := by decide +kernel
theorem dL_law_182 : decode cL_law 182 = .ok (.ireturn, 1) := by decide +kernel
theorem dL_law_183 : decode cL_law 183 = .ok (.aload_n 1, 1) := by decide +kernel
theorem dL_law_184 : decode cL_law 184 = .ok (.aload_n 0, 1) := by decide +kernel
theorem dL_law_185 : decode cL_law 185 = .ok (.iload_n 3, 1) := by decide +kernel
theorem dL_law_186 : decode cL_law 186 = .ok (.iconst 1, 1) := by decide +kernel
theorem dL_law_187 : decode cL_law 187 = .ok (.iadd, 1) := by decide +kernel
theorem dL_law_188 : decode cL_law 188 = .ok (.iaload, 1) := by decide +kernel
theorem dL_law_189 : decode cL_law 189 = .ok (.invokevirtual 26, 3) := by decide +kernel
theorem dL_law_192 : decode cL_law 192 = .ok (.aload_n 2, 1) := by decide +kernel
theorem dL_law_193 : decode cL_law 193 = .ok (.aload_n 0, 1) := by decide +kernel
theorem dL_law_194 : decode cL_law 194 = .ok (.iload_n 3, 1) := by decide +kernel
theorem dL_law_195 : decode cL_law 195 = .ok (.iconst 1, 1) := by decide +kernel
theorem dL_law_196 : decode cL_law 196 = .ok (.iadd, 1) := by decide +kernel
theorem dL_law_197 : decode cL_law 197 = .ok (.iaload, 1) := by decide +kernel
theorem dL_law_198 : decode cL_law 198 = .ok (.invokevirtual 30, 3) := by decide +kernel
theorem dL_law_201 : decode cL_law 201 = .ok (.if_icmp .eq 436, 3) := by decide +kernel
theorem dL_law_204 : decode cL_law 204 = .ok (.iconst 0, 1) := by decide +kernel
theorem dL_law_205 : decode cL_law 205 = .ok (.ireturn, 1) := by decide +kernel
theorem dL_law_206 : decode cL_law 206 = .ok (.aload_n 1, 1) := by decide +kernel
theorem dL_law_207 : decode cL_law 207 = .ok (.aload_n 0, 1) := by decide +kernel
theorem dL_law_208 : decode cL_law 208 = .ok (.iload_n 3, 1) := by decide +kernel
theorem dL_law_209 : decode cL_law 209 = .ok (.iconst 1, 1) := by decide +kernel
theorem dL_law_210 : decode cL_law 210 = .ok (.iadd, 1) := by decide +kernel
theorem dL_law_211 : decode cL_law 211 = .ok (.iaload, 1) := by decide +kernel
theorem dL_law_212 : decode cL_law 212 = .ok (.aload_n 0, 1) := by decide +kernel
theorem dL_law_213 : decode cL_law 213 = .ok (.iload_n 3, 1) := by decide +kernel
theorem dL_law_214 : decode cL_law 214 = .ok (.iconst 2, 1) := by decide +kernel
theorem dL_law_215 : decode cL_law 215 = .ok (.iadd, 1) := by decide +kernel
theorem dL_law_216 : decode cL_law 216 = .ok (.iaload, 1) := by decide +kernel
theorem dL_law_217 : decode cL_law 217 = .ok (.invokevirtual 31, 3) := by decide +kernel
theorem dL_law_220 : decode cL_law 220 = .ok (.aload_n 2, 1) := by decide +kernel
theorem dL_law_221 : decode cL_law 221 = .ok (.aload_n 0, 1) := by decide +kernel
theorem dL_law_222 : decode cL_law 222 = .ok (.iload_n 3, 1) := by decide +kernel
theorem dL_law_223 : decode cL_law 223 = .ok (.iconst 1, 1) := by decide +kernel
theorem dL_law_224 : decode cL_law 224 = .ok (.iadd, 1) := by decide +kernel
theorem dL_law_225 : decode cL_law 225 = .ok (.iaload, 1) := by decide +kernel
theorem dL_law_226 : decode cL_law 226 = .ok (.aload_n 0, 1) := by decide +kernel
theorem dL_law_227 : decode cL_law 227 = .ok (.iload_n 3, 1) := by decide +kernel
theorem dL_law_228 : decode cL_law 228 = .ok (.iconst 2, 1) := by decide +kernel
theorem dL_law_229 : decode cL_law 229 = .ok (.iadd, 1) := by decide +kernel
theorem dL_law_230 : decode cL_law 230 = .ok (.iaload, 1) := by decide +kernel
theorem dL_law_231 : decode cL_law 231 = .ok (.invokevirtual 35, 3) := by decide +kernel
theorem dL_law_234 : decode cL_law 234 = .ok (.if_icmp .eq 403, 3) := by decide +kernel
theorem dL_law_237 : decode cL_law 237 = .ok (.iconst 0, 1) := by decide +kernel
theorem dL_law_238 : decode cL_law 238 = .ok (.ireturn, 1) := by decide +kernel
theorem dL_law_239 : decode cL_law 239 = .ok (.aload_n 1, 1) := by decide +kernel
theorem dL_law_240 : decode cL_law 240 = .ok (.invokevirtual 36, 3) := by decide +kernel
theorem dL_law_243 : decode cL_law 243 = .ok (.aload_n 2, 1) := by decide +kernel
theorem dL_law_244 : decode cL_law 244 = .ok (.invokevirtual 40, 3) := by decide +kernel
theorem dL_law_247 : decode cL_law 247 = .ok (.if_icmp .eq 390, 3) := by decide +kernel
theorem dL_law_250 : decode cL_law 250 = .ok (.iconst 0, 1) := by decide +kernel
theorem dL_law_251 : decode cL_law 251 = .ok (.ireturn, 1) := by decide +kernel
theorem dL_law_252 : decode cL_law 252 = .ok (.aload_n 1, 1) := by decide +kernel
theorem dL_law_253 : decode cL_law 253 = .ok (.invokevirtual 41, 3) := by decide +kernel
theorem dL_law_256 : decode cL_law 256 = .ok (.aload_n 2, 1) := by decide +kernel
theorem dL_law_257 : decode cL_law 257 = .ok (.invokevirtual 44, 3) := by decide +kernel
theorem dL_law_260 : decode cL_law 260 = .ok (.if_icmp .eq 377, 3) := by decide +kernel
theorem dL_law_263 : decode cL_law 263 = .ok (.iconst 0, 1) := by decide +kernel
theorem dL_law_264 : decode cL_law 264 = .ok (.ireturn, 1) := by decide +kernel
theorem dL_law_265 : decode cL_law 265 = .ok (.aload_n 1, 1) := by decide +kernel
theorem dL_law_266 : decode cL_law 266 = .ok (.invokevirtual 45, 3) := by decide +kernel
theorem dL_law_269 : decode cL_law 269 = .ok (.aload_n 2, 1) := by decide +kernel
theorem dL_law_270 : decode cL_law 270 = .ok (.invokevirtual 48, 3) := by decide +kernel
theorem dL_law_273 : decode cL_law 273 = .ok (.if_icmp .eq 364, 3) := by decide +kernel
theorem dL_law_276 : decode cL_law 276 = .ok (.iconst 0, 1) := by decide +kernel
theorem dL_law_277 : decode cL_law 277 = .ok (.ireturn, 1) := by decide +kernel
theorem dL_law_278 : decode cL_law 278 = .ok (.aload_n 1, 1) := by decide +kernel
theorem dL_law_279 : decode cL_law 279 = .ok (.aload_n 0, 1) := by decide +kernel
theorem dL_law_280 : decode cL_law 280 = .ok (.iload_n 3, 1) := by decide +kernel
theorem dL_law_281 : decode cL_law 281 = .ok (.iconst 1, 1) := by decide +kernel
theorem dL_law_282 : decode cL_law 282 = .ok (.iadd, 1) := by decide +kernel
theorem dL_law_283 : decode cL_law 283 = .ok (.iaload, 1) := by decide +kernel
theorem dL_law_284 : decode cL_law 284 = .ok (.invokevirtual 49, 3) := by decide +kernel
theorem dL_law_287 : decode cL_law 287 = .ok (.aload_n 2, 1) := by decide +kernel
theorem dL_law_288 : decode cL_law 288 = .ok (.aload_n 0, 1) := by decide +kernel
theorem dL_law_289 : decode cL_law 289 = .ok (.iload_n 3, 1) := by decide +kernel
theorem dL_law_290 : decode cL_law 290 = .ok (.iconst 1, 1) := by decide +kernel
theorem dL_law_291 : decode cL_law 291 = .ok (.iadd, 1) := by decide +kernel
theorem dL_law_292 : decode cL_law 292 = .ok (.iaload, 1) := by decide +kernel
theorem dL_law_293 : decode cL_law 293 = .ok (.invokevirtual 52, 3) := by decide +kernel
theorem dL_law_296 : decode cL_law 296 = .ok (.if_icmp .eq 341, 3) := by decide +kernel
theorem dL_law_299 : decode cL_law 299 = .ok (.iconst 0, 1) := by decide +kernel
theorem dL_law_300 : decode cL_law 300 = .ok (.ireturn, 1) := by decide +kernel
theorem dL_law_301 : decode cL_law 301 = .ok (.aload_n 1, 1) := by decide +kernel
theorem dL_law_302 : decode cL_law 302 = .ok (.aload_n 0, 1) := by decide +kernel
theorem dL_law_303 : decode cL_law 303 = .ok (.iload_n 3, 1) := by decide +kernel
theorem dL_law_304 : decode cL_law 304 = .ok (.iconst 1, 1) := by decide +kernel
theorem dL_law_305 : decode cL_law 305 = .ok (.iadd, 1) := by decide +kernel
theorem dL_law_306 : decode cL_law 306 = .ok (.iaload, 1) := by decide +kernel
theorem dL_law_307 : decode cL_law 307 = .ok (.invokevirtual 53, 3) := by decide +kernel
theorem dL_law_310 : decode cL_law 310 = .ok (.aload_n 2, 1) := by decide +kernel
theorem dL_law_311 : decode cL_law 311 = .ok (.aload_n 0, 1) := by decide +kernel
theorem dL_law_312 : decode cL_law 312 = .ok (.iload_n 3, 1) := by decide +kernel
theorem dL_law_313 : decode cL_law 313 = .ok (.iconst 1, 1) := by decide +kernel
theorem dL_law_314 : decode cL_law 314 = .ok (.iadd, 1) := by decide +kernel
theorem dL_law_315 : decode cL_law 315 = .ok (.iaload, 1) := by decide +kernel
theorem dL_law_316 : decode cL_law 316 = .ok (.invokevirtual 56, 3) := by decide +kernel
theorem dL_law_319 : decode cL_law 319 = .ok (.if_icmp .eq 318, 3) := by decide +kernel
theorem dL_law_322 : decode cL_law 322 = .ok (.iconst 0, 1) := by decide +kernel
theorem dL_law_323 : decode cL_law 323 = .ok (.ireturn, 1) := by decide +kernel
theorem dL_law_324 : decode cL_law 324 = .ok (.aload_n 1, 1) := by decide +kernel
theorem dL_law_325 : decode cL_law 325 = .ok (.aload_n 0, 1) := by decide +kernel
theorem dL_law_326 : decode cL_law 326 = .ok (.iload_n 3, 1) := by decide +kernel
theorem dL_law_327 : decode cL_law 327 = .ok (.iconst 1, 1) := by decide +kernel
theorem dL_law_328 : decode cL_law 328 = .ok (.iadd, 1) := by decide +kernel
theorem dL_law_329 : decode cL_law 329 = .ok (.iaload, 1) := by decide +kernel
theorem dL_law_330 : decode cL_law 330 = .ok (.ifCond .eq 7, 3) := by decide +kernel
theorem dL_law_333 : decode cL_law 333 = .ok (.iconst 1, 1) := by decide +kernel
theorem dL_law_334 : decode cL_law 334 = .ok (.goto 4, 3) := by decide +kernel
theorem dL_law_337 : decode cL_law 337 = .ok (.iconst 0, 1) := by decide +kernel
theorem dL_law_338 : decode cL_law 338 = .ok (.invokevirtual 57, 3) := by decide +kernel
theorem dL_law_341 : decode cL_law 341 = .ok (.aload_n 2, 1) := by decide +kernel
theorem dL_law_342 : decode cL_law 342 = .ok (.aload_n 0, 1) := by decide +kernel
theorem dL_law_343 : decode cL_law 343 = .ok (.iload_n 3, 1) := by decide +kernel
theorem dL_law_344 : decode cL_law 344 = .ok (.iconst 1, 1) := by decide +kernel
theorem dL_law_345 : decode cL_law 345 = .ok (.iadd, 1) := by decide +kernel
theorem dL_law_346 : decode cL_law 346 = .ok (.iaload, 1) := by decide +kernel
theorem dL_law_347 : decode cL_law 347 = .ok (.ifCond .eq 7, 3) := by decide +kernel
theorem dL_law_350 : decode cL_law 350 = .ok (.iconst 1, 1) := by decide +kernel
theorem dL_law_351 : decode cL_law 351 = .ok (.goto 4, 3) := by decide +kernel
theorem dL_law_354 : decode cL_law 354 = .ok (.iconst 0, 1) := by decide +kernel
theorem dL_law_355 : decode cL_law 355 = .ok (.invokevirtual 60, 3) := by decide +kernel
theorem dL_law_358 : decode cL_law 358 = .ok (.if_icmp .eq 279, 3) := by decide +kernel
theorem dL_law_361 : decode cL_law 361 = .ok (.iconst 0, 1) := by decide +kernel
theorem dL_law_362 : decode cL_law 362 = .ok (.ireturn, 1) := by decide +kernel
theorem dL_law_363 : decode cL_law 363 = .ok (.aload_n 1, 1) := by decide +kernel
theorem dL_law_364 : decode cL_law 364 = .ok (.aload_n 0, 1) := by decide +kernel
theorem dL_law_365 : decode cL_law 365 = .ok (.iload_n 3, 1) := by decide +kernel
theorem dL_law_366 : decode cL_law 366 = .ok (.iconst 1, 1) := by decide +kernel
theorem dL_law_367 : decode cL_law 367 = .ok (.iadd, 1) := by decide +kernel
theorem dL_law_368 : decode cL_law 368 = .ok (.iaload, 1) := by decide +kernel
theorem dL_law_369 : decode cL_law 369 = .ok (.invokevirtual 61, 3) := by decide +kernel
theorem dL_law_372 : decode cL_law 372 = .ok (.aload_n 2, 1) := by decide +kernel
theorem dL_law_373 : decode cL_law 373 = .ok (.aload_n 0, 1) := by decide +kernel
theorem dL_law_374 : decode cL_law 374 = .ok (.iload_n 3, 1) := by decide +kernel
theorem dL_law_375 : decode cL_law 375 = .ok (.iconst 1, 1) := by decide +kernel
theorem dL_law_376 : decode cL_law 376 = .ok (.iadd, 1) := by decide +kernel
theorem dL_law_377 : decode cL_law 377 = .ok (.iaload, 1) := by decide +kernel
theorem dL_law_378 : decode cL_law 378 = .ok (.invokevirtual 64, 3) := by decide +kernel
theorem dL_law_381 : decode cL_law 381 = .ok (.if_icmp .eq 256, 3) := by decide +kernel
theorem dL_law_384 : decode cL_law 384 = .ok (.iconst 0, 1) := by decide +kernel
theorem dL_law_385 : decode cL_law 385 = .ok (.ireturn, 1) := by decide +kernel
theorem dL_law_386 : decode cL_law 386 = .ok (.aload_n 1, 1) := by decide +kernel
theorem dL_law_387 : decode cL_law 387 = .ok (.aload_n 0, 1) := by decide +kernel
theorem dL_law_388 : decode cL_law 388 = .ok (.iload_n 3, 1) := by decide +kernel
theorem dL_law_389 : decode cL_law 389 = .ok (.iconst 1, 1) := by decide +kernel
theorem dL_law_390 : decode cL_law 390 = .ok (.iadd, 1) := by decide +kernel
theorem dL_law_391 : decode cL_law 391 = .ok (.iaload, 1) := by decide +kernel
theorem dL_law_392 : decode cL_law 392 = .ok (.invokevirtual 65, 3) := by decide +kernel
theorem dL_law_395 : decode cL_law 395 = .ok (.aload_n 2, 1) := by decide +kernel
theorem dL_law_396 : decode cL_law 396 = .ok (.aload_n 0, 1) := by decide +kernel
theorem dL_law_397 : decode cL_law 397 = .ok (.iload_n 3, 1) := by decide +kernel
theorem dL_law_398 : decode cL_law 398 = .ok (.iconst 1, 1) := by decide +kernel
theorem dL_law_399 : decode cL_law 399 = .ok (.iadd, 1) := by decide +kernel
theorem dL_law_400 : decode cL_law 400 = .ok (.iaload, 1) := by decide +kernel
theorem dL_law_401 : decode cL_law 401 = .ok (.invokevirtual 68, 3) := by decide +kernel
theorem dL_law_404 : decode cL_law 404 = .ok (.if_icmp .eq 233, 3) := by decide +kernel
theorem dL_law_407 : decode cL_law 407 = .ok (.iconst 0, 1) := by decide +kernel
theorem dL_law_408 : decode cL_law 408 = .ok (.ireturn, 1) := by decide +kernel
theorem dL_law_409 : decode cL_law 409 = .ok (.aload_n 1, 1) := by decide +kernel
theorem dL_law_410 : decode cL_law 410 = .ok (.aload_n 0, 1) := by decide +kernel
theorem dL_law_411 : decode cL_law 411 = .ok (.iload_n 3, 1) := by decide +kernel
theorem dL_law_412 : decode cL_law 412 = .ok (.iconst 1, 1) := by decide +kernel
theorem dL_law_413 : decode cL_law 413 = .ok (.iadd, 1) := by decide +kernel
theorem dL_law_414 : decode cL_law 414 = .ok (.iaload, 1) := by decide +kernel
theorem dL_law_415 : decode cL_law 415 = .ok (.aload_n 0, 1) := by decide +kernel
theorem dL_law_416 : decode cL_law 416 = .ok (.iload_n 3, 1) := by decide +kernel
theorem dL_law_417 : decode cL_law 417 = .ok (.iconst 2, 1) := by decide +kernel
theorem dL_law_418 : decode cL_law 418 = .ok (.iadd, 1) := by decide +kernel
theorem dL_law_419 : decode cL_law 419 = .ok (.iaload, 1) := by decide +kernel
theorem dL_law_420 : decode cL_law 420 = .ok (.aload_n 0, 1) := by decide +kernel
theorem dL_law_421 : decode cL_law 421 = .ok (.iload_n 3, 1) := by decide +kernel
theorem dL_law_422 : decode cL_law 422 = .ok (.iconst 3, 1) := by decide +kernel
theorem dL_law_423 : decode cL_law 423 = .ok (.iadd, 1) := by decide +kernel
theorem dL_law_424 : decode cL_law 424 = .ok (.iaload, 1) := by decide +kernel
theorem dL_law_425 : decode cL_law 425 = .ok (.invokevirtual 69, 3) := by decide +kernel
theorem dL_law_428 : decode cL_law 428 = .ok (.aload_n 2, 1) := by decide +kernel
theorem dL_law_429 : decode cL_law 429 = .ok (.aload_n 0, 1) := by decide +kernel
theorem dL_law_430 : decode cL_law 430 = .ok (.iload_n 3, 1) := by decide +kernel
theorem dL_law_431 : decode cL_law 431 = .ok (.iconst 1, 1) := by decide +kernel
theorem dL_law_432 : decode cL_law 432 = .ok (.iadd, 1) := by decide +kernel
theorem dL_law_433 : decode cL_law 433 = .ok (.iaload, 1) := by decide +kernel
theorem dL_law_434 : decode cL_law 434 = .ok (.aload_n 0, 1) := by decide +kernel
theorem dL_law_435 : decode cL_law 435 = .ok (.iload_n 3, 1) := by decide +kernel
theorem dL_law_436 : decode cL_law 436 = .ok (.iconst 2, 1) := by decide +kernel
theorem dL_law_437 : decode cL_law 437 = .ok (.iadd, 1) := by decide +kernel
theorem dL_law_438 : decode cL_law 438 = .ok (.iaload, 1) := by decide +kernel
theorem dL_law_439 : decode cL_law 439 = .ok (.aload_n 0, 1) := by decide +kernel
theorem dL_law_440 : decode cL_law 440 = .ok (.iload_n 3, 1) := by decide +kernel
theorem dL_law_441 : decode cL_law 441 = .ok (.iconst 3, 1) := by decide +kernel
theorem dL_law_442 : decode cL_law 442 = .ok (.iadd, 1) := by decide +kernel
theorem dL_law_443 : decode cL_law 443 = .ok (.iaload, 1) := by decide +kernel
theorem dL_law_444 : decode cL_law 444 = .ok (.invokevirtual 73, 3) := by decide +kernel
theorem dL_law_447 : decode cL_law 447 = .ok (.if_icmp .eq 190, 3) := by decide +kernel
theorem dL_law_450 : decode cL_law 450 = .ok (.iconst 0, 1) := by decide +kernel
theorem dL_law_451 : decode cL_law 451 = .ok (.ireturn, 1) := by decide +kernel
theorem dL_law_452 : decode cL_law 452 = .ok (.aload_n 1, 1) := by decide +kernel
theorem dL_law_453 : decode cL_law 453 = .ok (.aload_n 0, 1) := by decide +kernel
theorem dL_law_454 : decode cL_law 454 = .ok (.iload_n 3, 1) := by decide +kernel
theorem dL_law_455 : decode cL_law 455 = .ok (.iconst 1, 1) := by decide +kernel
theorem dL_law_456 : decode cL_law 456 = .ok (.iadd, 1) := by decide +kernel
theorem dL_law_457 : decode cL_law 457 = .ok (.iaload, 1) := by decide +kernel
theorem dL_law_458 : decode cL_law 458 = .ok (.aload_n 0, 1) := by decide +kernel
theorem dL_law_459 : decode cL_law 459 = .ok (.iload_n 3, 1) := by decide +kernel
theorem dL_law_460 : decode cL_law 460 = .ok (.iconst 2, 1) := by decide +kernel
theorem dL_law_461 : decode cL_law 461 = .ok (.iadd, 1) := by decide +kernel
theorem dL_law_462 : decode cL_law 462 = .ok (.iaload, 1) := by decide +kernel
theorem dL_law_463 : decode cL_law 463 = .ok (.i2l, 1) := by decide +kernel
theorem dL_law_464 : decode cL_law 464 = .ok (.bipush 32, 2) := by decide +kernel
theorem dL_law_466 : decode cL_law 466 = .ok (.lshl, 1) := by decide +kernel
theorem dL_law_467 : decode cL_law 467 = .ok (.aload_n 0, 1) := by decide +kernel
theorem dL_law_468 : decode cL_law 468 = .ok (.iload_n 3, 1) := by decide +kernel
theorem dL_law_469 : decode cL_law 469 = .ok (.iconst 3, 1) := by decide +kernel
theorem dL_law_470 : decode cL_law 470 = .ok (.iadd, 1) := by decide +kernel
theorem dL_law_471 : decode cL_law 471 = .ok (.iaload, 1) := by decide +kernel
theorem dL_law_472 : decode cL_law 472 = .ok (.i2l, 1) := by decide +kernel
theorem dL_law_473 : decode cL_law 473 = .ok (.ldc2_w 74, 3) := by decide +kernel
theorem dL_law_476 : decode cL_law 476 = .ok (.land, 1) := by decide +kernel
theorem dL_law_477 : decode cL_law 477 = .ok (.lor, 1) := by decide +kernel
theorem dL_law_478 : decode cL_law 478 = .ok (.aload_n 0, 1) := by decide +kernel
theorem dL_law_479 : decode cL_law 479 = .ok (.iload_n 3, 1) := by decide +kernel
theorem dL_law_480 : decode cL_law 480 = .ok (.iconst 4, 1) := by decide +kernel
theorem dL_law_481 : decode cL_law 481 = .ok (.iadd, 1) := by decide +kernel
theorem dL_law_482 : decode cL_law 482 = .ok (.iaload, 1) := by decide +kernel
theorem dL_law_483 : decode cL_law 483 = .ok (.invokevirtual 76, 3) := by decide +kernel
theorem dL_law_486 : decode cL_law 486 = .ok (.aload_n 2, 1) := by decide +kernel
theorem dL_law_487 : decode cL_law 487 = .ok (.aload_n 0, 1) := by decide +kernel
theorem dL_law_488 : decode cL_law 488 = .ok (.iload_n 3, 1) := by decide +kernel
theorem dL_law_489 : decode cL_law 489 = .ok (.iconst 1, 1) := by decide +kernel
theorem dL_law_490 : decode cL_law 490 = .ok (.iadd, 1) := by decide +kernel
theorem dL_law_491 : decode cL_law 491 = .ok (.iaload, 1) := by decide +kernel
theorem dL_law_492 : decode cL_law 492 = .ok (.aload_n 0, 1) := by decide +kernel
theorem dL_law_493 : decode cL_law 493 = .ok (.iload_n 3, 1) := by decide +kernel
theorem dL_law_494 : decode cL_law 494 = .ok (.iconst 2, 1) := by decide +kernel
theorem dL_law_495 : decode cL_law 495 = .ok (.iadd, 1) := by decide +kernel
theorem dL_law_496 : decode cL_law 496 = .ok (.iaload, 1) := by decide +kernel
theorem dL_law_497 : decode cL_law 497 = .ok (.i2l, 1) := by decide +kernel
theorem dL_law_498 : decode cL_law 498 = .ok (.bipush 32, 2) := by decide +kernel
theorem dL_law_500 : decode cL_law 500 = .ok (.lshl, 1) := by decide +kernel
theorem dL_law_501 : decode cL_law 501 = .ok (.aload_n 0, 1) := by decide +kernel
theorem dL_law_502 : decode cL_law 502 = .ok (.iload_n 3, 1) := by decide +kernel
theorem dL_law_503 : decode cL_law 503 = .ok (.iconst 3, 1) := by decide +kernel
theorem dL_law_504 : decode cL_law 504 = .ok (.iadd, 1) := by decide +kernel
theorem dL_law_505 : decode cL_law 505 = .ok (.iaload, 1) := by decide +kernel
theorem dL_law_506 : decode cL_law 506 = .ok (.i2l, 1) := by decide +kernel
theorem dL_law_507 : decode cL_law 507 = .ok (.ldc2_w 74, 3) := by decide +kernel
theorem dL_law_510 : decode cL_law 510 = .ok (.land, 1) := by decide +kernel
theorem dL_law_511 : decode cL_law 511 = .ok (.lor, 1) := by decide +kernel
theorem dL_law_512 : decode cL_law 512 = .ok (.aload_n 0, 1) := by decide +kernel
theorem dL_law_513 : decode cL_law 513 = .ok (.iload_n 3, 1) := by decide +kernel
theorem dL_law_514 : decode cL_law 514 = .ok (.iconst 4, 1) := by decide +kernel
theorem dL_law_515 : decode cL_law 515 = .ok (.iadd, 1) := by decide +kernel
theorem dL_law_516 : decode cL_law 516 = .ok (.iaload, 1) := by decide +kernel
theorem dL_law_517 : decode cL_law 517 = .ok (.invokevirtual 80, 3) := by decide +kernel
theorem dL_law_520 : decode cL_law 520 = .ok (.if_icmp .eq 117, 3) := by decide +kernel
theorem dL_law_523 : decode cL_law 523 = .ok (.iconst 0, 1) := by decide +kernel
theorem dL_law_524 : decode cL_law 524 = .ok (.ireturn, 1) := by decide +kernel
theorem dL_law_525 : decode cL_law 525 = .ok (.aload_n 1, 1) := by decide +kernel
theorem dL_law_526 : decode cL_law 526 = .ok (.aload_n 0, 1) := by decide +kernel
theorem dL_law_527 : decode cL_law 527 = .ok (.iload_n 3, 1) := by decide +kernel
theorem dL_law_528 : decode cL_law 528 = .ok (.iconst 1, 1) := by decide +kernel
theorem dL_law_529 : decode cL_law 529 = .ok (.iadd, 1) := by decide +kernel
theorem dL_law_530 : decode cL_law 530 = .ok (.iaload, 1) := by decide +kernel
theorem dL_law_531 : decode cL_law 531 = .ok (.invokevirtual 81, 3) := by decide +kernel
theorem dL_law_534 : decode cL_law 534 = .ok (.aload_n 2, 1) := by decide +kernel
theorem dL_law_535 : decode cL_law 535 = .ok (.aload_n 0, 1) := by decide +kernel
theorem dL_law_536 : decode cL_law 536 = .ok (.iload_n 3, 1) := by decide +kernel
theorem dL_law_537 : decode cL_law 537 = .ok (.iconst 1, 1) := by decide +kernel
theorem dL_law_538 : decode cL_law 538 = .ok (.iadd, 1) := by decide +kernel
theorem dL_law_539 : decode cL_law 539 = .ok (.iaload, 1) := by decide +kernel
theorem dL_law_540 : decode cL_law 540 = .ok (.invokevirtual 84, 3) := by decide +kernel
theorem dL_law_543 : decode cL_law 543 = .ok (.if_icmp .eq 94, 3) := by decide +kernel
theorem dL_law_546 : decode cL_law 546 = .ok (.iconst 0, 1) := by decide +kernel
theorem dL_law_547 : decode cL_law 547 = .ok (.ireturn, 1) := by decide +kernel
theorem dL_law_548 : decode cL_law 548 = .ok (.aload_n 1, 1) := by decide +kernel
theorem dL_law_549 : decode cL_law 549 = .ok (.aload_n 0, 1) := by decide +kernel
theorem dL_law_550 : decode cL_law 550 = .ok (.iload_n 3, 1) := by decide +kernel
theorem dL_law_551 : decode cL_law 551 = .ok (.iconst 1, 1) := by decide +kernel
theorem dL_law_552 : decode cL_law 552 = .ok (.iadd, 1) := by decide +kernel
theorem dL_law_553 : decode cL_law 553 = .ok (.iaload, 1) := by decide +kernel
theorem dL_law_554 : decode cL_law 554 = .ok (.invokevirtual 85, 3) := by decide +kernel
theorem dL_law_557 : decode cL_law 557 = .ok (.aload_n 2, 1) := by decide +kernel
theorem dL_law_558 : decode cL_law 558 = .ok (.aload_n 0, 1) := by decide +kernel
theorem dL_law_559 : decode cL_law 559 = .ok (.iload_n 3, 1) := by decide +kernel
theorem dL_law_560 : decode cL_law 560 = .ok (.iconst 1, 1) := by decide +kernel
theorem dL_law_561 : decode cL_law 561 = .ok (.iadd, 1) := by decide +kernel
theorem dL_law_562 : decode cL_law 562 = .ok (.iaload, 1) := by decide +kernel
theorem dL_law_563 : decode cL_law 563 = .ok (.invokevirtual 88, 3) := by decide +kernel
theorem dL_law_566 : decode cL_law 566 = .ok (.if_icmp .eq 71, 3) := by decide +kernel
theorem dL_law_569 : decode cL_law 569 = .ok (.iconst 0, 1) := by decide +kernel
theorem dL_law_570 : decode cL_law 570 = .ok (.ireturn, 1) := by decide +kernel
theorem dL_law_571 : decode cL_law 571 = .ok (.aload_n 1, 1) := by decide +kernel
theorem dL_law_572 : decode cL_law 572 = .ok (.aload_n 0, 1) := by decide +kernel
theorem dL_law_573 : decode cL_law 573 = .ok (.iload_n 3, 1) := by decide +kernel
theorem dL_law_574 : decode cL_law 574 = .ok (.iconst 1, 1) := by decide +kernel
theorem dL_law_575 : decode cL_law 575 = .ok (.iadd, 1) := by decide +kernel
theorem dL_law_576 : decode cL_law 576 = .ok (.iaload, 1) := by decide +kernel
theorem dL_law_577 : decode cL_law 577 = .ok (.aload_n 0, 1) := by decide +kernel
theorem dL_law_578 : decode cL_law 578 = .ok (.iload_n 3, 1) := by decide +kernel
theorem dL_law_579 : decode cL_law 579 = .ok (.iconst 2, 1) := by decide +kernel
theorem dL_law_580 : decode cL_law 580 = .ok (.iadd, 1) := by decide +kernel
theorem dL_law_581 : decode cL_law 581 = .ok (.iaload, 1) := by decide +kernel
theorem dL_law_582 : decode cL_law 582 = .ok (.aload_n 0, 1) := by decide +kernel
theorem dL_law_583 : decode cL_law 583 = .ok (.iload_n 3, 1) := by decide +kernel
theorem dL_law_584 : decode cL_law 584 = .ok (.iconst 3, 1) := by decide +kernel
theorem dL_law_585 : decode cL_law 585 = .ok (.iadd, 1) := by decide +kernel
theorem dL_law_586 : decode cL_law 586 = .ok (.iaload, 1) := by decide +kernel
theorem dL_law_587 : decode cL_law 587 = .ok (.invokevirtual 89, 3) := by decide +kernel
theorem dL_law_590 : decode cL_law 590 = .ok (.aload_n 2, 1) := by decide +kernel
theorem dL_law_591 : decode cL_law 591 = .ok (.aload_n 0, 1) := by decide +kernel
theorem dL_law_592 : decode cL_law 592 = .ok (.iload_n 3, 1) := by decide +kernel
theorem dL_law_593 : decode cL_law 593 = .ok (.iconst 1, 1) := by decide +kernel
theorem dL_law_594 : decode cL_law 594 = .ok (.iadd, 1) := by decide +kernel
theorem dL_law_595 : decode cL_law 595 = .ok (.iaload, 1) := by decide +kernel
theorem dL_law_596 : decode cL_law 596 = .ok (.aload_n 0, 1) := by decide +kernel
theorem dL_law_597 : decode cL_law 597 = .ok (.iload_n 3, 1) := by decide +kernel
theorem dL_law_598 : decode cL_law 598 = .ok (.iconst 2, 1) := by decide +kernel
theorem dL_law_599 : decode cL_law 599 = .ok (.iadd, 1) := by decide +kernel
theorem dL_law_600 : decode cL_law 600 = .ok (.iaload, 1) := by decide +kernel
theorem dL_law_601 : decode cL_law 601 = .ok (.aload_n 0, 1) := by decide +kernel
theorem dL_law_602 : decode cL_law 602 = .ok (.iload_n 3, 1) := by decide +kernel
theorem dL_law_603 : decode cL_law 603 = .ok (.iconst 3, 1) := by decide +kernel
theorem dL_law_604 : decode cL_law 604 = .ok (.iadd, 1) := by decide +kernel
theorem dL_law_605 : decode cL_law 605 = .ok (.iaload, 1) := by decide +kernel
theorem dL_law_606 : decode cL_law 606 = .ok (.invokevirtual 92, 3) := by decide +kernel
theorem dL_law_609 : decode cL_law 609 = .ok (.if_icmp .eq 28, 3) := by decide +kernel
theorem dL_law_612 : decode cL_law 612 = .ok (.iconst 0, 1) := by decide +kernel
theorem dL_law_613 : decode cL_law 613 = .ok (.ireturn, 1) := by decide +kernel
theorem dL_law_614 : decode cL_law 614 = .ok (.aload_n 1, 1) := by decide +kernel
theorem dL_law_615 : decode cL_law 615 = .ok (.aload_n 0, 1) := by decide +kernel
theorem dL_law_616 : decode cL_law 616 = .ok (.iload_n 3, 1) := by decide +kernel
theorem dL_law_617 : decode cL_law 617 = .ok (.iconst 1, 1) := by decide +kernel
theorem dL_law_618 : decode cL_law 618 = .ok (.iadd, 1) := by decide +kernel
theorem dL_law_619 : decode cL_law 619 = .ok (.iaload, 1) := by decide +kernel
theorem dL_law_620 : decode cL_law 620 = .ok (.invokevirtual 93, 3) := by decide +kernel
theorem dL_law_623 : decode cL_law 623 = .ok (.aload_n 2, 1) := by decide +kernel
theorem dL_law_624 : decode cL_law 624 = .ok (.aload_n 0, 1) := by decide +kernel
theorem dL_law_625 : decode cL_law 625 = .ok (.iload_n 3, 1) := by decide +kernel
theorem dL_law_626 : decode cL_law 626 = .ok (.iconst 1, 1) := by decide +kernel
theorem dL_law_627 : decode cL_law 627 = .ok (.iadd, 1) := by decide +kernel
theorem dL_law_628 : decode cL_law 628 = .ok (.iaload, 1) := by decide +kernel
theorem dL_law_629 : decode cL_law 629 = .ok (.invokevirtual 96, 3) := by decide +kernel
theorem dL_law_632 : decode cL_law 632 = .ok (.if_icmp .eq 5, 3) := by decide +kernel
theorem dL_law_635 : decode cL_law 635 = .ok (.iconst 0, 1) := by decide +kernel
theorem dL_law_636 : decode cL_law 636 = .ok (.ireturn, 1) := by decide +kernel
theorem dL_law_637 : decode cL_law 637 = .ok (.iinc 3 5, 3) := by decide +kernel
theorem dL_law_640 : decode cL_law 640 = .ok (.goto (-592), 3) := by decide +kernel
theorem dL_law_643 : decode cL_law 643 = .ok (.iconst 1, 1) := by decide +kernel
theorem dL_law_644 : decode cL_law 644 = .ok (.ireturn, 1) := by decide +kernel
