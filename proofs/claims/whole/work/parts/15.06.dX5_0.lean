theorem dX5_init_0 : decode cX5_init 0 = .ok (.aload_n 0, 1) := by decide +kernel
theorem dX5_init_1 : decode cX5_init 1 = .ok (.invokespecial 3, 3) := by decide +kernel
theorem dX5_init_4 : decode cX5_init 4 = .ok (.aload_n 0, 1) := by decide +kernel
theorem dX5_init_5 : decode cX5_init 5 = .ok (.aload_n 1, 1) := by decide +kernel
theorem dX5_init_6 : decode cX5_init 6 = .ok (.getfield 9, 3) := by decide +kernel
theorem dX5_init_9 : decode cX5_init 9 = .ok (.aload_n 1, 1) := by decide +kernel
theorem dX5_init_10 : decode cX5_init 10 = .ok (.getfield 15, 3) := by decide +kernel
theorem dX5_init_13 : decode cX5_init 13 = .ok (.invokestatic 19, 3) := by decide +kernel
theorem dX5_init_16 : decode cX5_init 16 = .ok (.putfield 25, 3) := by decide +kernel
theorem dX5_init_19 : decode cX5_init 19 = .ok (.aload_n 0, 1) := by decide +kernel
theorem dX5_init_20 : decode cX5_init 20 = .ok (.aload_n 2, 1) := by decide +kernel
theorem dX5_init_21 : decode cX5_init 21 = .ok (.iload 4, 2) := by decide +kernel
theorem dX5_init_23 : decode cX5_init 23 = .ok (.invokestatic 19, 3) := by decide +kernel
theorem dX5_init_26 : decode cX5_init 26 = .ok (.putfield 28, 3) := by decide +kernel
theorem dX5_init_29 : decode cX5_init 29 = .ok (.aload_n 0, 1) := by decide +kernel
theorem dX5_init_30 : decode cX5_init 30 = .ok (.aload_n 3, 1) := by decide +kernel
theorem dX5_init_31 : decode cX5_init 31 = .ok (.iload 4, 2) := by decide +kernel
theorem dX5_init_33 : decode cX5_init 33 = .ok (.invokestatic 19, 3) := by decide +kernel
theorem dX5_init_36 : decode cX5_init 36 = .ok (.putfield 31, 3) := by decide +kernel
theorem dX5_init_39 : decode cX5_init 39 = .ok (.aload_n 0, 1) := by decide +kernel
theorem dX5_init_40 : decode cX5_init 40 = .ok (.aload_n 0, 1) := by decide +kernel
theorem dX5_init_41 : decode cX5_init 41 = .ok (.getfield 25, 3) := by decide +kernel
theorem dX5_init_44 : decode cX5_init 44 = .ok (.invokestatic 34, 3) := by decide +kernel
theorem dX5_init_47 : decode cX5_init 47 = .ok (.bipush 100, 2) := by decide +kernel
theorem dX5_init_49 : decode cX5_init 49 = .ok (.if_icmp .ne 7, 3) := by decide +kernel
theorem dX5_init_52 : decode cX5_init 52 = .ok (.iconst 1, 1) := by decide +kernel
theorem dX5_init_53 : decode cX5_init 53 = .ok (.goto 4, 3) := by decide +kernel
theorem dX5_init_56 : decode cX5_init 56 = .ok (.iconst 0, 1) := by decide +kernel
theorem dX5_init_57 : decode cX5_init 57 = .ok (.putfield 38, 3) := by decide +kernel
theorem dX5_init_60 : decode cX5_init 60 = .ok (.return_, 1) := by decide +kernel
theorem dX5_firstOfCAndD_0 : decode cX5_firstOfCAndD 0 = .ok (.iconst 0, 1) := by decide +kernel
theorem dX5_firstOfCAndD_1 : decode cX5_firstOfCAndD 1 = .ok (.istore_n 1, 1) := by decide +kernel
theorem dX5_firstOfCAndD_2 : decode cX5_firstOfCAndD 2 = .ok (.iload_n 1, 1) := by decide +kernel
theorem dX5_firstOfCAndD_3 : decode cX5_firstOfCAndD 3 = .ok (.aload_n 0, 1) := by decide +kernel
theorem dX5_firstOfCAndD_4 : decode cX5_firstOfCAndD 4 = .ok (.arraylength, 1) := by decide +kernel
theorem dX5_firstOfCAndD_5 : decode cX5_firstOfCAndD 5 = .ok (.if_icmp .ge 29, 3) := by decide +kernel
theorem dX5_firstOfCAndD_8 : decode cX5_firstOfCAndD 8 = .ok (.aload_n 0, 1) := by decide +kernel
theorem dX5_firstOfCAndD_9 : decode cX5_firstOfCAndD 9 = .ok (.iload_n 1, 1) := by decide +kernel
theorem dX5_firstOfCAndD_10 : decode cX5_firstOfCAndD 10 = .ok (.iaload, 1) := by decide +kernel
theorem dX5_firstOfCAndD_11 : decode cX5_firstOfCAndD 11 = .ok (.bipush 99, 2) := by decide +kernel
theorem dX5_firstOfCAndD_13 : decode cX5_firstOfCAndD 13 = .ok (.if_icmp .eq 11, 3) := by decide +kernel
theorem dX5_firstOfCAndD_16 : decode cX5_firstOfCAndD 16 = .ok (.aload_n 0, 1) := by decide +kernel
theorem dX5_firstOfCAndD_17 : decode cX5_firstOfCAndD 17 = .ok (.iload_n 1, 1) := by decide +kernel
theorem dX5_firstOfCAndD_18 : decode cX5_firstOfCAndD 18 = .ok (.iaload, 1) := by decide +kernel
theorem dX5_firstOfCAndD_19 : decode cX5_firstOfCAndD 19 = .ok (.bipush 100, 2) := by decide +kernel
theorem dX5_firstOfCAndD_21 : decode cX5_firstOfCAndD 21 = .ok (.if_icmp .ne 7, 3) := by decide +kernel
theorem dX5_firstOfCAndD_24 : decode cX5_firstOfCAndD 24 = .ok (.aload_n 0, 1) := by decide +kernel
theorem dX5_firstOfCAndD_25 : decode cX5_firstOfCAndD 25 = .ok (.iload_n 1, 1) := by decide +kernel
theorem dX5_firstOfCAndD_26 : decode cX5_firstOfCAndD 26 = .ok (.iaload, 1) := by decide +kernel
theorem dX5_firstOfCAndD_27 : decode cX5_firstOfCAndD 27 = .ok (.ireturn, 1) := by decide +kernel
theorem dX5_firstOfCAndD_28 : decode cX5_firstOfCAndD 28 = .ok (.iinc 1 1, 3) := by decide +kernel
theorem dX5_firstOfCAndD_31 : decode cX5_firstOfCAndD 31 = .ok (.goto (-29), 3) := by decide +kernel
theorem dX5_firstOfCAndD_34 : decode cX5_firstOfCAndD 34 = .ok (.iconst (-1), 1) := by decide +kernel
theorem dX5_firstOfCAndD_35 : decode cX5_firstOfCAndD 35 = .ok (.ireturn, 1) := by decide +kernel
theorem dX5_size_0 : decode cX5_size 0 = .ok (.aload_n 0, 1) := by decide +kernel
theorem dX5_size_1 : decode cX5_size 1 = .ok (.getfield 25, 3) := by decide +kernel
theorem dX5_size_4 : decode cX5_size 4 = .ok (.arraylength, 1) := by decide +kernel
theorem dX5_size_5 : decode cX5_size 5 = .ok (.ireturn, 1) := by decide +kernel
theorem dX5_tokenAt_0 : decode cX5_tokenAt 0 = .ok (.iload_n 1, 1) := by decide +kernel
theorem dX5_tokenAt_1 : decode cX5_tokenAt 1 = .ok (.ifCond .lt 21, 3) := by decide +kernel
theorem dX5_tokenAt_4 : decode cX5_tokenAt 4 = .ok (.iload_n 1, 1) := by decide +kernel
theorem dX5_tokenAt_5 : decode cX5_tokenAt 5 = .ok (.aload_n 0, 1) := by decide +kernel
theorem dX5_tokenAt_6 : decode cX5_tokenAt 6 = .ok (.getfield 25, 3) := by decide +kernel
theorem dX5_tokenAt_9 : decode cX5_tokenAt 9 = .ok (.arraylength, 1) := by decide +kernel
theorem dX5_tokenAt_10 : decode cX5_tokenAt 10 = .ok (.if_icmp .ge 12, 3) := by decide +kernel
theorem dX5_tokenAt_13 : decode cX5_tokenAt 13 = .ok (.aload_n 0, 1) := by decide +kernel
theorem dX5_tokenAt_14 : decode cX5_tokenAt 14 = .ok (.getfield 25, 3) := by decide +kernel
theorem dX5_tokenAt_17 : decode cX5_tokenAt 17 = .ok (.iload_n 1, 1) := by decide +kernel
theorem dX5_tokenAt_18 : decode cX5_tokenAt 18 = .ok (.iaload, 1) := by decide +kernel
theorem dX5_tokenAt_19 : decode cX5_tokenAt 19 = .ok (.goto 4, 3) := by decide +kernel
theorem dX5_tokenAt_22 : decode cX5_tokenAt 22 = .ok (.iconst (-1), 1) := by decide +kernel
theorem dX5_tokenAt_23 : decode cX5_tokenAt 23 = .ok (.ireturn, 1) := by decide +kernel
theorem dX5_shapeAt_0 : decode cX5_shapeAt 0 = .ok (.aload_n 0, 1) := by decide +kernel
theorem dX5_shapeAt_1 : decode cX5_shapeAt 1 = .ok (.iload_n 1, 1) := by decide +kernel
theorem dX5_shapeAt_2 : decode cX5_shapeAt 2 = .ok (.invokevirtual 42, 3) := by decide +kernel
theorem dX5_shapeAt_5 : decode cX5_shapeAt 5 = .ok (.istore_n 2, 1) := by decide +kernel
theorem dX5_shapeAt_6 : decode cX5_shapeAt 6 = .ok (.iload_n 2, 1) := by decide +kernel
theorem dX5_shapeAt_7 : decode cX5_shapeAt 7 = .ok (.bipush 99, 2) := by decide +kernel
theorem dX5_shapeAt_9 : decode cX5_shapeAt 9 = .ok (.if_icmp .eq 11, 3) := by decide +kernel
theorem dX5_shapeAt_12 : decode cX5_shapeAt 12 = .ok (.iload_n 2, 1) := by decide +kernel
theorem dX5_shapeAt_13 : decode cX5_shapeAt 13 = .ok (.bipush 100, 2) := by decide +kernel
theorem dX5_shapeAt_15 : decode cX5_shapeAt 15 = .ok (.if_icmp .eq 5, 3) := by decide +kernel
theorem dX5_shapeAt_18 : decode cX5_shapeAt 18 = .ok (.iload_n 2, 1) := by decide +kernel
theorem dX5_shapeAt_19 : decode cX5_shapeAt 19 = .ok (.ireturn, 1) := by decide +kernel
theorem dX5_shapeAt_20 : decode cX5_shapeAt 20 = .ok (.iload_n 2, 1) := by decide +kernel
theorem dX5_shapeAt_21 : decode cX5_shapeAt 21 = .ok (.bipush 100, 2) := by decide +kernel
theorem dX5_shapeAt_23 : decode cX5_shapeAt 23 = .ok (.if_icmp .ne 7, 3) := by decide +kernel
theorem dX5_shapeAt_26 : decode cX5_shapeAt 26 = .ok (.iconst 1, 1) := by decide +kernel
theorem dX5_shapeAt_27 : decode cX5_shapeAt 27 = .ok (.goto 4, 3) := by decide +kernel
theorem dX5_shapeAt_30 : decode cX5_shapeAt 30 = .ok (.iconst 0, 1) := by decide +kernel
theorem dX5_shapeAt_31 : decode cX5_shapeAt 31 = .ok (.aload_n 0, 1) := by decide +kernel
theorem dX5_shapeAt_32 : decode cX5_shapeAt 32 = .ok (.getfield 38, 3) := by decide +kernel
theorem dX5_shapeAt_35 : decode cX5_shapeAt 35 = .ok (.if_icmp .ne 8, 3) := by decide +kernel
theorem dX5_shapeAt_38 : decode cX5_shapeAt 38 = .ok (.bipush 99, 2) := by decide +kernel
theorem dX5_shapeAt_40 : decode cX5_shapeAt 40 = .ok (.goto 5, 3) := by decide +kernel
theorem dX5_shapeAt_43 : decode cX5_shapeAt 43 = .ok (.bipush 100, 2) := by decide +kernel
theorem dX5_shapeAt_45 : decode cX5_shapeAt 45 = .ok (.ireturn, 1) := by decide +kernel
theorem dX5_hasShapeOf_0 : decode cX5_hasShapeOf 0 = .ok (.aload_n 0, 1) := by decide +kernel
theorem dX5_hasShapeOf_1 : decode cX5_hasShapeOf 1 = .ok (.getfield 25, 3) := by decide +kernel
theorem dX5_hasShapeOf_4 : decode cX5_hasShapeOf 4 = .ok (.arraylength, 1) := by decide +kernel
theorem dX5_hasShapeOf_5 : decode cX5_hasShapeOf 5 = .ok (.aload_n 1, 1) := by decide +kernel
theorem dX5_hasShapeOf_6 : decode cX5_hasShapeOf 6 = .ok (.getfield 25, 3) := by decide +kernel
theorem dX5_hasShapeOf_9 : decode cX5_hasShapeOf 9 = .ok (.arraylength, 1) := by decide +kernel
theorem dX5_hasShapeOf_10 : decode cX5_hasShapeOf 10 = .ok (.if_icmp .eq 5, 3) := by decide +kernel
theorem dX5_hasShapeOf_13 : decode cX5_hasShapeOf 13 = .ok (.iconst 0, 1) := by decide +kernel
theorem dX5_hasShapeOf_14 : decode cX5_hasShapeOf 14 = .ok (.ireturn, 1) := by decide +kernel
theorem dX5_hasShapeOf_15 : decode cX5_hasShapeOf 15 = .ok (.iconst 0, 1) := by decide +kernel
theorem dX5_hasShapeOf_16 : decode cX5_hasShapeOf 16 = .ok (.istore_n 2, 1) := by decide +kernel
theorem dX5_hasShapeOf_17 : decode cX5_hasShapeOf 17 = .ok (.iload_n 2, 1) := by decide +kernel
theorem dX5_hasShapeOf_18 : decode cX5_hasShapeOf 18 = .ok (.aload_n 0, 1) := by decide +kernel
theorem dX5_hasShapeOf_19 : decode cX5_hasShapeOf 19 = .ok (.getfield 25, 3) := by decide +kernel
theorem dX5_hasShapeOf_22 : decode cX5_hasShapeOf 22 = .ok (.arraylength, 1) := by decide +kernel
theorem dX5_hasShapeOf_23 : decode cX5_hasShapeOf 23 = .ok (.if_icmp .ge 24, 3) := by decide +kernel
theorem dX5_hasShapeOf_26 : decode cX5_hasShapeOf 26 = .ok (.aload_n 0, 1) := by decide +kernel
theorem dX5_hasShapeOf_27 : decode cX5_hasShapeOf 27 = .ok (.iload_n 2, 1) := by decide +kernel
theorem dX5_hasShapeOf_28 : decode cX5_hasShapeOf 28 = .ok (.invokevirtual 46, 3) := by decide +kernel
theorem dX5_hasShapeOf_31 : decode cX5_hasShapeOf 31 = .ok (.aload_n 1, 1) := by decide +kernel
theorem dX5_hasShapeOf_32 : decode cX5_hasShapeOf 32 = .ok (.iload_n 2, 1) := by decide +kernel
theorem dX5_hasShapeOf_33 : decode cX5_hasShapeOf 33 = .ok (.invokevirtual 46, 3) := by decide +kernel
theorem dX5_hasShapeOf_36 : decode cX5_hasShapeOf 36 = .ok (.if_icmp .eq 5, 3) := by decide +kernel
theorem dX5_hasShapeOf_39 : decode cX5_hasShapeOf 39 = .ok (.iconst 0, 1) := by decide +kernel
theorem dX5_hasShapeOf_40 : decode cX5_hasShapeOf 40 = .ok (.ireturn, 1) := by decide +kernel
theorem dX5_hasShapeOf_41 : decode cX5_hasShapeOf 41 = .ok (.iinc 2 1, 3) := by decide +kernel
theorem dX5_hasShapeOf_44 : decode cX5_hasShapeOf 44 = .ok (.goto (-27), 3) := by decide +kernel
theorem dX5_hasShapeOf_47 : decode cX5_hasShapeOf 47 = .ok (.iconst 1, 1) := by decide +kernel
theorem dX5_hasShapeOf_48 : decode cX5_hasShapeOf 48 = .ok (.ireturn, 1) := by decide +kernel
