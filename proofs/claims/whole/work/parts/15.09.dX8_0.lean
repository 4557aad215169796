theorem dX8_init_0 : decode cX8_init 0 = .ok (.aload_n 0, 1) := by decide +kernel
theorem dX8_init_1 : decode cX8_init 1 = .ok (.invokespecial 3, 3) := by decide +kernel
theorem dX8_init_4 : decode cX8_init 4 = .ok (.aload_n 0, 1) := by decide +kernel
theorem dX8_init_5 : decode cX8_init 5 = .ok (.bipush 6, 2) := by decide +kernel
theorem dX8_init_7 : decode cX8_init 7 = .ok (.newarray .int, 2) := by decide +kernel
theorem dX8_init_9 : decode cX8_init 9 = .ok (.putfield 9, 3) := by decide +kernel
theorem dX8_init_12 : decode cX8_init 12 = .ok (.aload_n 0, 1) := by decide +kernel
theorem dX8_init_13 : decode cX8_init 13 = .ok (.bipush 6, 2) := by decide +kernel
theorem dX8_init_15 : decode cX8_init 15 = .ok (.newarray .int, 2) := by decide +kernel
theorem dX8_init_17 : decode cX8_init 17 = .ok (.putfield 15, 3) := by decide +kernel
theorem dX8_init_20 : decode cX8_init 20 = .ok (.aload_n 0, 1) := by decide +kernel
theorem dX8_init_21 : decode cX8_init 21 = .ok (.bipush 6, 2) := by decide +kernel
theorem dX8_init_23 : decode cX8_init 23 = .ok (.newarray .int, 2) := by decide +kernel
theorem dX8_init_25 : decode cX8_init 25 = .ok (.putfield 18, 3) := by decide +kernel
theorem dX8_init_28 : decode cX8_init 28 = .ok (.aload_n 0, 1) := by decide +kernel
theorem dX8_init_29 : decode cX8_init 29 = .ok (.bipush 10, 2) := by decide +kernel
theorem dX8_init_31 : decode cX8_init 31 = .ok (.anewarray 21, 3) := by decide +kernel
theorem dX8_init_34 : decode cX8_init 34 = .ok (.putfield 23, 3) := by decide +kernel
theorem dX8_init_37 : decode cX8_init 37 = .ok (.aload_n 0, 1) := by decide +kernel
theorem dX8_init_38 : decode cX8_init 38 = .ok (.bipush 8, 2) := by decide +kernel
theorem dX8_init_40 : decode cX8_init 40 = .ok (.anewarray 21, 3) := by decide +kernel
theorem dX8_init_43 : decode cX8_init 43 = .ok (.putfield 27, 3) := by decide +kernel
theorem dX8_init_46 : decode cX8_init 46 = .ok (.aload_n 0, 1) := by decide +kernel
theorem dX8_init_47 : decode cX8_init 47 = .ok (.iload_n 1, 1) := by decide +kernel
theorem dX8_init_48 : decode cX8_init 48 = .ok (.putfield 30, 3) := by decide +kernel
theorem dX8_init_51 : decode cX8_init 51 = .ok (.aload_n 0, 1) := by decide +kernel
theorem dX8_init_52 : decode cX8_init 52 = .ok (.iload_n 2, 1) := by decide +kernel
theorem dX8_init_53 : decode cX8_init 53 = .ok (.putfield 34, 3) := by decide +kernel
theorem dX8_init_56 : decode cX8_init 56 = .ok (.return_, 1) := by decide +kernel
theorem dX8_addWorld_0 : decode cX8_addWorld 0 = .ok (.aload_n 0, 1) := by decide +kernel
theorem dX8_addWorld_1 : decode cX8_addWorld 1 = .ok (.getfield 37, 3) := by decide +kernel
theorem dX8_addWorld_4 : decode cX8_addWorld 4 = .ok (.bipush 6, 2) := by decide +kernel
theorem dX8_addWorld_6 : decode cX8_addWorld 6 = .ok (.if_icmp .lt 5, 3) := by decide +kernel
theorem dX8_addWorld_9 : decode cX8_addWorld 9 = .ok (.iconst (-1), 1) := by decide +kernel
theorem dX8_addWorld_10 : decode cX8_addWorld 10 = .ok (.ireturn, 1) := by decide +kernel
theorem dX8_addWorld_11 : decode cX8_addWorld 11 = .ok (.aload_n 0, 1) := by decide +kernel
theorem dX8_addWorld_12 : decode cX8_addWorld 12 = .ok (.getfield 9, 3) := by decide +kernel
theorem dX8_addWorld_15 : decode cX8_addWorld 15 = .ok (.aload_n 0, 1) := by decide +kernel
theorem dX8_addWorld_16 : decode cX8_addWorld 16 = .ok (.getfield 37, 3) := by decide +kernel
theorem dX8_addWorld_19 : decode cX8_addWorld 19 = .ok (.iload_n 1, 1) := by decide +kernel
theorem dX8_addWorld_20 : decode cX8_addWorld 20 = .ok (.iastore, 1) := by decide +kernel
theorem dX8_addWorld_21 : decode cX8_addWorld 21 = .ok (.aload_n 0, 1) := by decide +kernel
theorem dX8_addWorld_22 : decode cX8_addWorld 22 = .ok (.getfield 15, 3) := by decide +kernel
theorem dX8_addWorld_25 : decode cX8_addWorld 25 = .ok (.aload_n 0, 1) := by decide +kernel
theorem dX8_addWorld_26 : decode cX8_addWorld 26 = .ok (.getfield 37, 3) := by decide +kernel
theorem dX8_addWorld_29 : decode cX8_addWorld 29 = .ok (.iload_n 2, 1) := by decide +kernel
theorem dX8_addWorld_30 : decode cX8_addWorld 30 = .ok (.iastore, 1) := by decide +kernel
theorem dX8_addWorld_31 : decode cX8_addWorld 31 = .ok (.aload_n 0, 1) := by decide +kernel
theorem dX8_addWorld_32 : decode cX8_addWorld 32 = .ok (.getfield 18, 3) := by decide +kernel
theorem dX8_addWorld_35 : decode cX8_addWorld 35 = .ok (.aload_n 0, 1) := by decide +kernel
theorem dX8_addWorld_36 : decode cX8_addWorld 36 = .ok (.getfield 37, 3) := by decide +kernel
theorem dX8_addWorld_39 : decode cX8_addWorld 39 = .ok (.iload_n 3, 1) := by decide +kernel
theorem dX8_addWorld_40 : decode cX8_addWorld 40 = .ok (.iastore, 1) := by decide +kernel
theorem dX8_addWorld_41 : decode cX8_addWorld 41 = .ok (.aload_n 0, 1) := by decide +kernel
theorem dX8_addWorld_42 : decode cX8_addWorld 42 = .ok (.dup, 1) := by decide +kernel
theorem dX8_addWorld_43 : decode cX8_addWorld 43 = .ok (.getfield 37, 3) := by decide +kernel
theorem dX8_addWorld_46 : decode cX8_addWorld 46 = .ok (.iconst 1, 1) := by decide +kernel
theorem dX8_addWorld_47 : decode cX8_addWorld 47 = .ok (.iadd, 1) := by decide +kernel
theorem dX8_addWorld_48 : decode cX8_addWorld 48 = .ok (.putfield 37, 3) := by decide +kernel
theorem dX8_addWorld_51 : decode cX8_addWorld 51 = .ok (.aload_n 0, 1) := by decide +kernel
theorem dX8_addWorld_52 : decode cX8_addWorld 52 = .ok (.getfield 37, 3) := by decide +kernel
theorem dX8_addWorld_55 : decode cX8_addWorld 55 = .ok (.iconst 1, 1) := by decide +kernel
theorem dX8_addWorld_56 : decode cX8_addWorld 56 = .ok (.isub, 1) := by decide +kernel
theorem dX8_addWorld_57 : decode cX8_addWorld 57 = .ok (.ireturn, 1) := by decide +kernel
theorem dX8_isPassedBy_0 : decode cX8_isPassedBy 0 = .ok (.aload_n 0, 1) := by decide +kernel
theorem dX8_isPassedBy_1 : decode cX8_isPassedBy 1 = .ok (.getfield 27, 3) := by decide +kernel
theorem dX8_isPassedBy_4 : decode cX8_isPassedBy 4 = .ok (.iload_n 1, 1) := by decide +kernel
theorem dX8_isPassedBy_5 : decode cX8_isPassedBy 5 = .ok (.aaload, 1) := by decide +kernel
theorem dX8_isPassedBy_6 : decode cX8_isPassedBy 6 = .ok (.ifnull 7, 3) := by decide +kernel
theorem dX8_isPassedBy_9 : decode cX8_isPassedBy 9 = .ok (.iconst 1, 1) := by decide +kernel
theorem dX8_isPassedBy_10 : decode cX8_isPassedBy 10 = .ok (.goto 4, 3) := by decide +kernel
theorem dX8_isPassedBy_13 : decode cX8_isPassedBy 13 = .ok (.iconst 0, 1) := by decide +kernel
theorem dX8_isPassedBy_14 : decode cX8_isPassedBy 14 = .ok (.ireturn, 1) := by decide +kernel
theorem dX8_isOpenTo_0 : decode cX8_isOpenTo 0 = .ok (.aload_n 0, 1) := by decide +kernel
theorem dX8_isOpenTo_1 : decode cX8_isOpenTo 1 = .ok (.getfield 30, 3) := by decide +kernel
theorem dX8_isOpenTo_4 : decode cX8_isOpenTo 4 = .ok (.iload_n 1, 1) := by decide +kernel
theorem dX8_isOpenTo_5 : decode cX8_isOpenTo 5 = .ok (.iconst (-1), 1) := by decide +kernel
theorem dX8_isOpenTo_6 : decode cX8_isOpenTo 6 = .ok (.ixor, 1) := by decide +kernel
theorem dX8_isOpenTo_7 : decode cX8_isOpenTo 7 = .ok (.iand, 1) := by decide +kernel
theorem dX8_isOpenTo_8 : decode cX8_isOpenTo 8 = .ok (.ifCond .ne 7, 3) := by decide +kernel
theorem dX8_isOpenTo_11 : decode cX8_isOpenTo 11 = .ok (.iconst 1, 1) := by decide +kernel
theorem dX8_isOpenTo_12 : decode cX8_isOpenTo 12 = .ok (.goto 4, 3) := by decide +kernel
theorem dX8_isOpenTo_15 : decode cX8_isOpenTo 15 = .ok (.iconst 0, 1) := by decide +kernel
theorem dX8_isOpenTo_16 : decode cX8_isOpenTo 16 = .ok (.ireturn, 1) := by decide +kernel
theorem dX8_learnersPassed_0 : decode cX8_learnersPassed 0 = .ok (.iconst 0, 1) := by decide +kernel
theorem dX8_learnersPassed_1 : decode cX8_learnersPassed 1 = .ok (.istore_n 1, 1) := by decide +kernel
theorem dX8_learnersPassed_2 : decode cX8_learnersPassed 2 = .ok (.iconst 0, 1) := by decide +kernel
theorem dX8_learnersPassed_3 : decode cX8_learnersPassed 3 = .ok (.istore_n 2, 1) := by decide +kernel
theorem dX8_learnersPassed_4 : decode cX8_learnersPassed 4 = .ok (.iload_n 2, 1) := by decide +kernel
theorem dX8_learnersPassed_5 : decode cX8_learnersPassed 5 = .ok (.bipush 8, 2) := by decide +kernel
theorem dX8_learnersPassed_7 : decode cX8_learnersPassed 7 = .ok (.if_icmp .ge 21, 3) := by decide +kernel
theorem dX8_learnersPassed_10 : decode cX8_learnersPassed 10 = .ok (.aload_n 0, 1) := by decide +kernel
theorem dX8_learnersPassed_11 : decode cX8_learnersPassed 11 = .ok (.getfield 27, 3) := by decide +kernel
theorem dX8_learnersPassed_14 : decode cX8_learnersPassed 14 = .ok (.iload_n 2, 1) := by decide +kernel
theorem dX8_learnersPassed_15 : decode cX8_learnersPassed 15 = .ok (.aaload, 1) := by decide +kernel
theorem dX8_learnersPassed_16 : decode cX8_learnersPassed 16 = .ok (.ifnull 6, 3) := by decide +kernel
theorem dX8_learnersPassed_19 : decode cX8_learnersPassed 19 = .ok (.iinc 1 1, 3) := by decide +kernel
theorem dX8_learnersPassed_22 : decode cX8_learnersPassed 22 = .ok (.iinc 2 1, 3) := by decide +kernel
theorem dX8_learnersPassed_25 : decode cX8_learnersPassed 25 = .ok (.goto (-21), 3) := by decide +kernel
theorem dX8_learnersPassed_28 : decode cX8_learnersPassed 28 = .ok (.iload_n 1, 1) := by decide +kernel
theorem dX8_learnersPassed_29 : decode cX8_learnersPassed 29 = .ok (.ireturn, 1) := by decide +kernel
theorem dX8_keepPass_0 : decode cX8_keepPass 0 = .ok (.aload_n 0, 1) := by decide +kernel
theorem dX8_keepPass_1 : decode cX8_keepPass 1 = .ok (.getfield 27, 3) := by decide +kernel
theorem dX8_keepPass_4 : decode cX8_keepPass 4 = .ok (.iload_n 1, 1) := by decide +kernel
theorem dX8_keepPass_5 : decode cX8_keepPass 5 = .ok (.aaload, 1) := by decide +kernel
theorem dX8_keepPass_6 : decode cX8_keepPass 6 = .ok (.ifnonnull 10, 3) := by decide +kernel
theorem dX8_keepPass_9 : decode cX8_keepPass 9 = .ok (.aload_n 0, 1) := by decide +kernel
theorem dX8_keepPass_10 : decode cX8_keepPass 10 = .ok (.getfield 27, 3) := by decide +kernel
theorem dX8_keepPass_13 : decode cX8_keepPass 13 = .ok (.iload_n 1, 1) := by decide +kernel
theorem dX8_keepPass_14 : decode cX8_keepPass 14 = .ok (.aload_n 2, 1) := by decide +kernel
theorem dX8_keepPass_15 : decode cX8_keepPass 15 = .ok (.aastore, 1) := by decide +kernel
theorem dX8_keepPass_16 : decode cX8_keepPass 16 = .ok (.aload_n 0, 1) := by decide +kernel
theorem dX8_keepPass_17 : decode cX8_keepPass 17 = .ok (.getfield 40, 3) := by decide +kernel
theorem dX8_keepPass_20 : decode cX8_keepPass 20 = .ok (.bipush 10, 2) := by decide +kernel
theorem dX8_keepPass_22 : decode cX8_keepPass 22 = .ok (.if_icmp .ge 31, 3) := by decide +kernel
theorem dX8_keepPass_25 : decode cX8_keepPass 25 = .ok (.aload_n 0, 1) := by decide +kernel
theorem dX8_keepPass_26 : decode cX8_keepPass 26 = .ok (.aload_n 2, 1) := by decide +kernel
theorem dX8_keepPass_27 : decode cX8_keepPass 27 = .ok (.invokevirtual 43, 3) := by decide +kernel
theorem dX8_keepPass_30 : decode cX8_keepPass 30 = .ok (.ifCond .ne 23, 3) := by decide +kernel
theorem dX8_keepPass_33 : decode cX8_keepPass 33 = .ok (.aload_n 0, 1) := by decide +kernel
theorem dX8_keepPass_34 : decode cX8_keepPass 34 = .ok (.getfield 23, 3) := by decide +kernel
theorem dX8_keepPass_37 : decode cX8_keepPass 37 = .ok (.aload_n 0, 1) := by decide +kernel
theorem dX8_keepPass_38 : decode cX8_keepPass 38 = .ok (.getfield 40, 3) := by decide +kernel
theorem dX8_keepPass_41 : decode cX8_keepPass 41 = .ok (.aload_n 2, 1) := by decide +kernel
theorem dX8_keepPass_42 : decode cX8_keepPass 42 = .ok (.aastore, 1) := by decide +kernel
theorem dX8_keepPass_43 : decode cX8_keepPass 43 = .ok (.aload_n 0, 1) := by decide +kernel
theorem dX8_keepPass_44 : decode cX8_keepPass 44 = .ok (.dup, 1) := by decide +kernel
theorem dX8_keepPass_45 : decode cX8_keepPass 45 = .ok (.getfield 40, 3) := by decide +kernel
theorem dX8_keepPass_48 : decode cX8_keepPass 48 = .ok (.iconst 1, 1) := by decide +kernel
theorem dX8_keepPass_49 : decode cX8_keepPass 49 = .ok (.iadd, 1) := by decide +kernel
theorem dX8_keepPass_50 : decode cX8_keepPass 50 = .ok (.putfield 40, 3) := by decide +kernel
theorem dX8_keepPass_53 : decode cX8_keepPass 53 = .ok (.return_, 1) := by decide +kernel
theorem dX8_hasWayOfShape_0 : decode cX8_hasWayOfShape 0 = .ok (.iconst 0, 1) := by decide +kernel
theorem dX8_hasWayOfShape_1 : decode cX8_hasWayOfShape 1 = .ok (.istore_n 2, 1) := by decide +kernel
theorem dX8_hasWayOfShape_2 : decode cX8_hasWayOfShape 2 = .ok (.iload_n 2, 1) := by decide +kernel
theorem dX8_hasWayOfShape_3 : decode cX8_hasWayOfShape 3 = .ok (.aload_n 0, 1) := by decide +kernel
theorem dX8_hasWayOfShape_4 : decode cX8_hasWayOfShape 4 = .ok (.getfield 40, 3) := by decide +kernel
theorem dX8_hasWayOfShape_7 : decode cX8_hasWayOfShape 7 = .ok (.if_icmp .ge 24, 3) := by decide +kernel
theorem dX8_hasWayOfShape_10 : decode cX8_hasWayOfShape 10 = .ok (.aload_n 0, 1) := by decide +kernel
theorem dX8_hasWayOfShape_11 : decode cX8_hasWayOfShape 11 = .ok (.getfield 23, 3) := by decide +kernel
theorem dX8_hasWayOfShape_14 : decode cX8_hasWayOfShape 14 = .ok (.iload_n 2, 1) := by decide +kernel
theorem dX8_hasWayOfShape_15 : decode cX8_hasWayOfShape 15 = .ok (.aaload, 1) := by decide +kernel
theorem dX8_hasWayOfShape_16 : decode cX8_hasWayOfShape 16 = .ok (.aload_n 1, 1) := by decide +kernel
theorem dX8_hasWayOfShape_17 : decode cX8_hasWayOfShape 17 = .ok (.invokevirtual 47, 3) := by decide +kernel
theorem dX8_hasWayOfShape_20 : decode cX8_hasWayOfShape 20 = .ok (.ifCond .eq 5, 3) := by decide +kernel
theorem dX8_hasWayOfShape_23 : decode cX8_hasWayOfShape 23 = .ok (.iconst 1, 1) := by decide +kernel
theorem dX8_hasWayOfShape_24 : decode cX8_hasWayOfShape 24 = .ok (.ireturn, 1) := by decide +kernel
theorem dX8_hasWayOfShape_25 : decode cX8_hasWayOfShape 25 = .ok (.iinc 2 1, 3) := by decide +kernel
theorem dX8_hasWayOfShape_28 : decode cX8_hasWayOfShape 28 = .ok (.goto (-26), 3) := by decide +kernel
theorem dX8_hasWayOfShape_31 : decode cX8_hasWayOfShape 31 = .ok (.iconst 0, 1) := by decide +kernel
theorem dX8_hasWayOfShape_32 : decode cX8_hasWayOfShape 32 = .ok (.ireturn, 1) := by decide +kernel
