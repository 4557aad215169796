theorem dX1_init_0 : decode cX1_init 0 = .ok (.aload_n 0, 1) := by decide +kernel
theorem dX1_init_1 : decode cX1_init 1 = .ok (.invokespecial 3, 3) := by decide +kernel
theorem dX1_init_4 : decode cX1_init 4 = .ok (.aload_n 0, 1) := by decide +kernel
theorem dX1_init_5 : decode cX1_init 5 = .ok (.bipush 8, 2) := by decide +kernel
theorem dX1_init_7 : decode cX1_init 7 = .ok (.newarray .int, 2) := by decide +kernel
theorem dX1_init_9 : decode cX1_init 9 = .ok (.putfield 9, 3) := by decide +kernel
theorem dX1_init_12 : decode cX1_init 12 = .ok (.return_, 1) := by decide +kernel
theorem dX1_grow_0 : decode cX1_grow 0 = .ok (.iconst 0, 1) := by decide +kernel
theorem dX1_grow_1 : decode cX1_grow 1 = .ok (.istore_n 3, 1) := by decide +kernel
theorem dX1_grow_2 : decode cX1_grow 2 = .ok (.iload_n 3, 1) := by decide +kernel
theorem dX1_grow_3 : decode cX1_grow 3 = .ok (.bipush 8, 2) := by decide +kernel
theorem dX1_grow_5 : decode cX1_grow 5 = .ok (.if_icmp .ge 36, 3) := by decide +kernel
theorem dX1_grow_8 : decode cX1_grow 8 = .ok (.iload_n 1, 1) := by decide +kernel
theorem dX1_grow_9 : decode cX1_grow 9 = .ok (.iload_n 3, 1) := by decide +kernel
theorem dX1_grow_10 : decode cX1_grow 10 = .ok (.ishr, 1) := by decide +kernel
theorem dX1_grow_11 : decode cX1_grow 11 = .ok (.iconst 1, 1) := by decide +kernel
theorem dX1_grow_12 : decode cX1_grow 12 = .ok (.iand, 1) := by decide +kernel
theorem dX1_grow_13 : decode cX1_grow 13 = .ok (.ifCond .eq 22, 3) := by decide +kernel
theorem dX1_grow_16 : decode cX1_grow 16 = .ok (.aload_n 0, 1) := by decide +kernel
theorem dX1_grow_17 : decode cX1_grow 17 = .ok (.getfield 9, 3) := by decide +kernel
theorem dX1_grow_20 : decode cX1_grow 20 = .ok (.iload_n 3, 1) := by decide +kernel
theorem dX1_grow_21 : decode cX1_grow 21 = .ok (.aload_n 0, 1) := by decide +kernel
theorem dX1_grow_22 : decode cX1_grow 22 = .ok (.getfield 9, 3) := by decide +kernel
theorem dX1_grow_25 : decode cX1_grow 25 = .ok (.iload_n 3, 1) := by decide +kernel
theorem dX1_grow_26 : decode cX1_grow 26 = .ok (.iaload, 1) := by decide +kernel
theorem dX1_grow_27 : decode cX1_grow 27 = .ok (.iload_n 2, 1) := by decide +kernel
theorem dX1_grow_28 : decode cX1_grow 28 = .ok (.iadd, 1) := by decide +kernel
theorem dX1_grow_29 : decode cX1_grow 29 = .ok (.bipush 64, 2) := by decide +kernel
theorem dX1_grow_31 : decode cX1_grow 31 = .ok (.invokestatic 15, 3) := by decide +kernel
theorem dX1_grow_34 : decode cX1_grow 34 = .ok (.iastore, 1) := by decide +kernel
theorem dX1_grow_35 : decode cX1_grow 35 = .ok (.iinc 3 1, 3) := by decide +kernel
theorem dX1_grow_38 : decode cX1_grow 38 = .ok (.goto (-36), 3) := by decide +kernel
theorem dX1_grow_41 : decode cX1_grow 41 = .ok (.return_, 1) := by decide +kernel
theorem dX1_able_0 : decode cX1_able 0 = .ok (.iconst 0, 1) := by decide +kernel
theorem dX1_able_1 : decode cX1_able 1 = .ok (.istore_n 1, 1) := by decide +kernel
theorem dX1_able_2 : decode cX1_able 2 = .ok (.iconst 0, 1) := by decide +kernel
theorem dX1_able_3 : decode cX1_able 3 = .ok (.istore_n 2, 1) := by decide +kernel
theorem dX1_able_4 : decode cX1_able 4 = .ok (.iload_n 2, 1) := by decide +kernel
theorem dX1_able_5 : decode cX1_able 5 = .ok (.bipush 8, 2) := by decide +kernel
theorem dX1_able_7 : decode cX1_able 7 = .ok (.if_icmp .ge 26, 3) := by decide +kernel
theorem dX1_able_10 : decode cX1_able 10 = .ok (.aload_n 0, 1) := by decide +kernel
theorem dX1_able_11 : decode cX1_able 11 = .ok (.getfield 9, 3) := by decide +kernel
theorem dX1_able_14 : decode cX1_able 14 = .ok (.iload_n 2, 1) := by decide +kernel
theorem dX1_able_15 : decode cX1_able 15 = .ok (.iaload, 1) := by decide +kernel
theorem dX1_able_16 : decode cX1_able 16 = .ok (.bipush 32, 2) := by decide +kernel
theorem dX1_able_18 : decode cX1_able 18 = .ok (.if_icmp .lt 9, 3) := by decide +kernel
theorem dX1_able_21 : decode cX1_able 21 = .ok (.iload_n 1, 1) := by decide +kernel
theorem dX1_able_22 : decode cX1_able 22 = .ok (.iconst 1, 1) := by decide +kernel
theorem dX1_able_23 : decode cX1_able 23 = .ok (.iload_n 2, 1) := by decide +kernel
theorem dX1_able_24 : decode cX1_able 24 = .ok (.ishl, 1) := by decide +kernel
theorem dX1_able_25 : decode cX1_able 25 = .ok (.ior, 1) := by decide +kernel
theorem dX1_able_26 : decode cX1_able 26 = .ok (.istore_n 1, 1) := by decide +kernel
theorem dX1_able_27 : decode cX1_able 27 = .ok (.iinc 2 1, 3) := by decide +kernel
theorem dX1_able_30 : decode cX1_able 30 = .ok (.goto (-26), 3) := by decide +kernel
theorem dX1_able_33 : decode cX1_able 33 = .ok (.iload_n 1, 1) := by decide +kernel
theorem dX1_able_34 : decode cX1_able 34 = .ok (.ireturn, 1) := by decide +kernel
theorem dX1_gainOf_0 : decode cX1_gainOf 0 = .ok (.iconst 0, 1) := by decide +kernel
theorem dX1_gainOf_1 : decode cX1_gainOf 1 = .ok (.istore_n 2, 1) := by decide +kernel
theorem dX1_gainOf_2 : decode cX1_gainOf 2 = .ok (.iconst 0, 1) := by decide +kernel
theorem dX1_gainOf_3 : decode cX1_gainOf 3 = .ok (.istore_n 3, 1) := by decide +kernel
theorem dX1_gainOf_4 : decode cX1_gainOf 4 = .ok (.iload_n 3, 1) := by decide +kernel
theorem dX1_gainOf_5 : decode cX1_gainOf 5 = .ok (.bipush 8, 2) := by decide +kernel
theorem dX1_gainOf_7 : decode cX1_gainOf 7 = .ok (.if_icmp .ge 29, 3) := by decide +kernel
theorem dX1_gainOf_10 : decode cX1_gainOf 10 = .ok (.iload_n 1, 1) := by decide +kernel
theorem dX1_gainOf_11 : decode cX1_gainOf 11 = .ok (.iload_n 3, 1) := by decide +kernel
theorem dX1_gainOf_12 : decode cX1_gainOf 12 = .ok (.ishr, 1) := by decide +kernel
theorem dX1_gainOf_13 : decode cX1_gainOf 13 = .ok (.iconst 1, 1) := by decide +kernel
theorem dX1_gainOf_14 : decode cX1_gainOf 14 = .ok (.iand, 1) := by decide +kernel
theorem dX1_gainOf_15 : decode cX1_gainOf 15 = .ok (.ifCond .eq 15, 3) := by decide +kernel
theorem dX1_gainOf_18 : decode cX1_gainOf 18 = .ok (.iload_n 2, 1) := by decide +kernel
theorem dX1_gainOf_19 : decode cX1_gainOf 19 = .ok (.bipush 64, 2) := by decide +kernel
theorem dX1_gainOf_21 : decode cX1_gainOf 21 = .ok (.aload_n 0, 1) := by decide +kernel
theorem dX1_gainOf_22 : decode cX1_gainOf 22 = .ok (.getfield 9, 3) := by decide +kernel
theorem dX1_gainOf_25 : decode cX1_gainOf 25 = .ok (.iload_n 3, 1) := by decide +kernel
theorem dX1_gainOf_26 : decode cX1_gainOf 26 = .ok (.iaload, 1) := by decide +kernel
theorem dX1_gainOf_27 : decode cX1_gainOf 27 = .ok (.isub, 1) := by decide +kernel
theorem dX1_gainOf_28 : decode cX1_gainOf 28 = .ok (.iadd, 1) := by decide +kernel
theorem dX1_gainOf_29 : decode cX1_gainOf 29 = .ok (.istore_n 2, 1) := by decide +kernel
theorem dX1_gainOf_30 : decode cX1_gainOf 30 = .ok (.iinc 3 1, 3) := by decide +kernel
theorem dX1_gainOf_33 : decode cX1_gainOf 33 = .ok (.goto (-29), 3) := by decide +kernel
theorem dX1_gainOf_36 : decode cX1_gainOf 36 = .ok (.iload_n 2, 1) := by decide +kernel
theorem dX1_gainOf_37 : decode cX1_gainOf 37 = .ok (.ireturn, 1) := by decide +kernel
