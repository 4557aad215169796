theorem dX2_init_0 : decode cX2_init 0 = .ok (.aload_n 0, 1) := by decide +kernel
theorem dX2_init_1 : decode cX2_init 1 = .ok (.invokespecial 3, 3) := by decide +kernel
theorem dX2_init_4 : decode cX2_init 4 = .ok (.aload_n 0, 1) := by decide +kernel
theorem dX2_init_5 : decode cX2_init 5 = .ok (.iconst 5, 1) := by decide +kernel
theorem dX2_init_6 : decode cX2_init 6 = .ok (.newarray .int, 2) := by decide +kernel
theorem dX2_init_8 : decode cX2_init 8 = .ok (.putfield 9, 3) := by decide +kernel
theorem dX2_init_11 : decode cX2_init 11 = .ok (.aload_n 0, 1) := by decide +kernel
theorem dX2_init_12 : decode cX2_init 12 = .ok (.bipush 120, 2) := by decide +kernel
theorem dX2_init_14 : decode cX2_init 14 = .ok (.newarray .int, 2) := by decide +kernel
theorem dX2_init_16 : decode cX2_init 16 = .ok (.putfield 15, 3) := by decide +kernel
theorem dX2_init_19 : decode cX2_init 19 = .ok (.return_, 1) := by decide +kernel
theorem dX2_execute_0 : decode cX2_execute 0 = .ok (.aload_n 0, 1) := by decide +kernel
theorem dX2_execute_1 : decode cX2_execute 1 = .ok (.getfield 9, 3) := by decide +kernel
theorem dX2_execute_4 : decode cX2_execute 4 = .ok (.iconst 0, 1) := by decide +kernel
theorem dX2_execute_5 : decode cX2_execute 5 = .ok (.invokestatic 18, 3) := by decide +kernel
theorem dX2_execute_8 : decode cX2_execute 8 = .ok (.aload_n 0, 1) := by decide +kernel
theorem dX2_execute_9 : decode cX2_execute 9 = .ok (.getfield 9, 3) := by decide +kernel
theorem dX2_execute_12 : decode cX2_execute 12 = .ok (.iconst 0, 1) := by decide +kernel
theorem dX2_execute_13 : decode cX2_execute 13 = .ok (.iload_n 2, 1) := by decide +kernel
theorem dX2_execute_14 : decode cX2_execute 14 = .ok (.iastore, 1) := by decide +kernel
theorem dX2_execute_15 : decode cX2_execute 15 = .ok (.aload_n 0, 1) := by decide +kernel
theorem dX2_execute_16 : decode cX2_execute 16 = .ok (.getfield 9, 3) := by decide +kernel
theorem dX2_execute_19 : decode cX2_execute 19 = .ok (.iconst 1, 1) := by decide +kernel
theorem dX2_execute_20 : decode cX2_execute 20 = .ok (.iload_n 3, 1) := by decide +kernel
theorem dX2_execute_21 : decode cX2_execute 21 = .ok (.iastore, 1) := by decide +kernel
theorem dX2_execute_22 : decode cX2_execute 22 = .ok (.aload_n 0, 1) := by decide +kernel
theorem dX2_execute_23 : decode cX2_execute 23 = .ok (.iconst 0, 1) := by decide +kernel
theorem dX2_execute_24 : decode cX2_execute 24 = .ok (.putfield 24, 3) := by decide +kernel
theorem dX2_execute_27 : decode cX2_execute 27 = .ok (.aload_n 0, 1) := by decide +kernel
theorem dX2_execute_28 : decode cX2_execute 28 = .ok (.iconst 0, 1) := by decide +kernel
theorem dX2_execute_29 : decode cX2_execute 29 = .ok (.putfield 28, 3) := by decide +kernel
theorem dX2_execute_32 : decode cX2_execute 32 = .ok (.aload_n 0, 1) := by decide +kernel
theorem dX2_execute_33 : decode cX2_execute 33 = .ok (.iconst 0, 1) := by decide +kernel
theorem dX2_execute_34 : decode cX2_execute 34 = .ok (.putfield 31, 3) := by decide +kernel
theorem dX2_execute_37 : decode cX2_execute 37 = .ok (.aload_n 0, 1) := by decide +kernel
theorem dX2_execute_38 : decode cX2_execute 38 = .ok (.iconst 2, 1) := by decide +kernel
theorem dX2_execute_39 : decode cX2_execute 39 = .ok (.putfield 34, 3) := by decide +kernel
theorem dX2_execute_42 : decode cX2_execute 42 = .ok (.aload_n 0, 1) := by decide +kernel
theorem dX2_execute_43 : decode cX2_execute 43 = .ok (.iconst 1, 1) := by decide +kernel
theorem dX2_execute_44 : decode cX2_execute 44 = .ok (.putfield 37, 3) := by decide +kernel
theorem dX2_execute_47 : decode cX2_execute 47 = .ok (.iconst 0, 1) := by decide +kernel
theorem dX2_execute_48 : decode cX2_execute 48 = .ok (.istore 4, 2) := by decide +kernel
theorem dX2_execute_50 : decode cX2_execute 50 = .ok (.iconst 0, 1) := by decide +kernel
theorem dX2_execute_51 : decode cX2_execute 51 = .ok (.istore 5, 2) := by decide +kernel
theorem dX2_execute_53 : decode cX2_execute 53 = .ok (.iload 5, 2) := by decide +kernel
theorem dX2_execute_55 : decode cX2_execute 55 = .ok (.ldc 41, 2) := by decide +kernel
theorem dX2_execute_57 : decode cX2_execute 57 = .ok (.if_icmp .ge 55, 3) := by decide +kernel
theorem dX2_execute_60 : decode cX2_execute 60 = .ok (.aload_n 0, 1) := by decide +kernel
theorem dX2_execute_61 : decode cX2_execute 61 = .ok (.getfield 37, 3) := by decide +kernel
theorem dX2_execute_64 : decode cX2_execute 64 = .ok (.ifCond .eq 48, 3) := by decide +kernel
theorem dX2_execute_67 : decode cX2_execute 67 = .ok (.iload 4, 2) := by decide +kernel
theorem dX2_execute_69 : decode cX2_execute 69 = .ok (.ifCond .lt 43, 3) := by decide +kernel
theorem dX2_execute_72 : decode cX2_execute 72 = .ok (.iload 4, 2) := by decide +kernel
theorem dX2_execute_74 : decode cX2_execute 74 = .ok (.aload_n 1, 1) := by decide +kernel
theorem dX2_execute_75 : decode cX2_execute 75 = .ok (.getfield 42, 3) := by decide +kernel
theorem dX2_execute_78 : decode cX2_execute 78 = .ok (.arraylength, 1) := by decide +kernel
theorem dX2_execute_79 : decode cX2_execute 79 = .ok (.if_icmp .ge 33, 3) := by decide +kernel
theorem dX2_execute_82 : decode cX2_execute 82 = .ok (.aload_n 0, 1) := by decide +kernel
theorem dX2_execute_83 : decode cX2_execute 83 = .ok (.aload_n 1, 1) := by decide +kernel
theorem dX2_execute_84 : decode cX2_execute 84 = .ok (.getfield 42, 3) := by decide +kernel
theorem dX2_execute_87 : decode cX2_execute 87 = .ok (.iload 4, 2) := by decide +kernel
theorem dX2_execute_89 : decode cX2_execute 89 = .ok (.iaload, 1) := by decide +kernel
theorem dX2_execute_90 : decode cX2_execute 90 = .ok (.aload_n 1, 1) := by decide +kernel
theorem dX2_execute_91 : decode cX2_execute 91 = .ok (.getfield 47, 3) := by decide +kernel
theorem dX2_execute_94 : decode cX2_execute 94 = .ok (.iload 4, 2) := by decide +kernel
theorem dX2_execute_96 : decode cX2_execute 96 = .ok (.iaload, 1) := by decide +kernel
theorem dX2_execute_97 : decode cX2_execute 97 = .ok (.iload 4, 2) := by decide +kernel
theorem dX2_execute_99 : decode cX2_execute 99 = .ok (.iconst 1, 1) := by decide +kernel
theorem dX2_execute_100 : decode cX2_execute 100 = .ok (.iadd, 1) := by decide +kernel
theorem dX2_execute_101 : decode cX2_execute 101 = .ok (.invokevirtual 50, 3) := by decide +kernel
theorem dX2_execute_104 : decode cX2_execute 104 = .ok (.istore 4, 2) := by decide +kernel
theorem dX2_execute_106 : decode cX2_execute 106 = .ok (.iinc 5 1, 3) := by decide +kernel
theorem dX2_execute_109 : decode cX2_execute 109 = .ok (.goto (-56), 3) := by decide +kernel
theorem dX2_execute_112 : decode cX2_execute 112 = .ok (.return_, 1) := by decide +kernel
theorem dX2_result_0 : decode cX2_result 0 = .ok (.aload_n 0, 1) := by decide +kernel
theorem dX2_result_1 : decode cX2_result 1 = .ok (.getfield 9, 3) := by decide +kernel
theorem dX2_result_4 : decode cX2_result 4 = .ok (.iconst 4, 1) := by decide +kernel
theorem dX2_result_5 : decode cX2_result 5 = .ok (.iaload, 1) := by decide +kernel
theorem dX2_result_6 : decode cX2_result 6 = .ok (.ireturn, 1) := by decide +kernel
theorem dX2_turn_0 : decode cX2_turn 0 = .ok (.iload_n 1, 1) := by decide +kernel
theorem dX2_turn_1 : decode cX2_turn 1 = .ok (.tableswitch 101 0 6 #[43, 50, 57, 68, 79, 86, 99], 43) := by decide +kernel
theorem dX2_turn_44 : decode cX2_turn 44 = .ok (.aload_n 0, 1) := by decide +kernel
theorem dX2_turn_45 : decode cX2_turn 45 = .ok (.iconst 0, 1) := by decide +kernel
theorem dX2_turn_46 : decode cX2_turn 46 = .ok (.invokevirtual 54, 3) := by decide +kernel
theorem dX2_turn_49 : decode cX2_turn 49 = .ok (.iload_n 3, 1) := by decide +kernel
theorem dX2_turn_50 : decode cX2_turn 50 = .ok (.ireturn, 1) := by decide +kernel
theorem dX2_turn_51 : decode cX2_turn 51 = .ok (.aload_n 0, 1) := by decide +kernel
theorem dX2_turn_52 : decode cX2_turn 52 = .ok (.iload_n 2, 1) := by decide +kernel
theorem dX2_turn_53 : decode cX2_turn 53 = .ok (.invokevirtual 58, 3) := by decide +kernel
theorem dX2_turn_56 : decode cX2_turn 56 = .ok (.iload_n 3, 1) := by decide +kernel
theorem dX2_turn_57 : decode cX2_turn 57 = .ok (.ireturn, 1) := by decide +kernel
theorem dX2_turn_58 : decode cX2_turn 58 = .ok (.aload_n 0, 1) := by decide +kernel
theorem dX2_turn_59 : decode cX2_turn 59 = .ok (.aload_n 0, 1) := by decide +kernel
theorem dX2_turn_60 : decode cX2_turn 60 = .ok (.iload_n 2, 1) := by decide +kernel
theorem dX2_turn_61 : decode cX2_turn 61 = .ok (.invokevirtual 61, 3) := by decide +kernel
theorem dX2_turn_64 : decode cX2_turn 64 = .ok (.invokevirtual 58, 3) := by decide +kernel
theorem dX2_turn_67 : decode cX2_turn 67 = .ok (.iload_n 3, 1) := by decide +kernel
theorem dX2_turn_68 : decode cX2_turn 68 = .ok (.ireturn, 1) := by decide +kernel
theorem dX2_turn_69 : decode cX2_turn 69 = .ok (.aload_n 0, 1) := by decide +kernel
theorem dX2_turn_70 : decode cX2_turn 70 = .ok (.iload_n 2, 1) := by decide +kernel
theorem dX2_turn_71 : decode cX2_turn 71 = .ok (.aload_n 0, 1) := by decide +kernel
theorem dX2_turn_72 : decode cX2_turn 72 = .ok (.invokevirtual 65, 3) := by decide +kernel
theorem dX2_turn_75 : decode cX2_turn 75 = .ok (.invokevirtual 69, 3) := by decide +kernel
theorem dX2_turn_78 : decode cX2_turn 78 = .ok (.iload_n 3, 1) := by decide +kernel
theorem dX2_turn_79 : decode cX2_turn 79 = .ok (.ireturn, 1) := by decide +kernel
theorem dX2_turn_80 : decode cX2_turn 80 = .ok (.aload_n 0, 1) := by decide +kernel
theorem dX2_turn_81 : decode cX2_turn 81 = .ok (.iload_n 2, 1) := by decide +kernel
theorem dX2_turn_82 : decode cX2_turn 82 = .ok (.invokevirtual 73, 3) := by decide +kernel
theorem dX2_turn_85 : decode cX2_turn 85 = .ok (.iload_n 3, 1) := by decide +kernel
theorem dX2_turn_86 : decode cX2_turn 86 = .ok (.ireturn, 1) := by decide +kernel
theorem dX2_turn_87 : decode cX2_turn 87 = .ok (.aload_n 0, 1) := by decide +kernel
theorem dX2_turn_88 : decode cX2_turn 88 = .ok (.invokevirtual 65, 3) := by decide +kernel
theorem dX2_turn_91 : decode cX2_turn 91 = .ok (.ifCond .ne 7, 3) := by decide +kernel
theorem dX2_turn_94 : decode cX2_turn 94 = .ok (.iload_n 2, 1) := by decide +kernel
theorem dX2_turn_95 : decode cX2_turn 95 = .ok (.goto 4, 3) := by decide +kernel
theorem dX2_turn_98 : decode cX2_turn 98 = .ok (.iload_n 3, 1) := by decide +kernel
theorem dX2_turn_99 : decode cX2_turn 99 = .ok (.ireturn, 1) := by decide +kernel
theorem dX2_turn_100 : decode cX2_turn 100 = .ok (.iload_n 2, 1) := by decide +kernel
theorem dX2_turn_101 : decode cX2_turn 101 = .ok (.ireturn, 1) := by decide +kernel
theorem dX2_turn_102 : decode cX2_turn 102 = .ok (.aload_n 0, 1) := by decide +kernel
theorem dX2_turn_103 : decode cX2_turn 103 = .ok (.dup, 1) := by decide +kernel
theorem dX2_turn_104 : decode cX2_turn 104 = .ok (.getfield 31, 3) := by decide +kernel
theorem dX2_turn_107 : decode cX2_turn 107 = .ok (.iload_n 2, 1) := by decide +kernel
theorem dX2_turn_108 : decode cX2_turn 108 = .ok (.ior, 1) := by decide +kernel
theorem dX2_turn_109 : decode cX2_turn 109 = .ok (.putfield 31, 3) := by decide +kernel
theorem dX2_turn_112 : decode cX2_turn 112 = .ok (.aload_n 0, 1) := by decide +kernel
theorem dX2_turn_113 : decode cX2_turn 113 = .ok (.iload_n 1, 1) := by decide +kernel
theorem dX2_turn_114 : decode cX2_turn 114 = .ok (.invokevirtual 76, 3) := by decide +kernel
theorem dX2_turn_117 : decode cX2_turn 117 = .ok (.iload_n 3, 1) := by decide +kernel
theorem dX2_turn_118 : decode cX2_turn 118 = .ok (.ireturn, 1) := by decide +kernel
theorem dX2_valueOf_0 : decode cX2_valueOf 0 = .ok (.iload_n 1, 1) := by decide +kernel
theorem dX2_valueOf_1 : decode cX2_valueOf 1 = .ok (.ifCond .lt 17, 3) := by decide +kernel
theorem dX2_valueOf_4 : decode cX2_valueOf 4 = .ok (.iload_n 1, 1) := by decide +kernel
theorem dX2_valueOf_5 : decode cX2_valueOf 5 = .ok (.iconst 5, 1) := by decide +kernel
theorem dX2_valueOf_6 : decode cX2_valueOf 6 = .ok (.if_icmp .ge 12, 3) := by decide +kernel
theorem dX2_valueOf_9 : decode cX2_valueOf 9 = .ok (.aload_n 0, 1) := by decide +kernel
theorem dX2_valueOf_10 : decode cX2_valueOf 10 = .ok (.getfield 9, 3) := by decide +kernel
theorem dX2_valueOf_13 : decode cX2_valueOf 13 = .ok (.iload_n 1, 1) := by decide +kernel
theorem dX2_valueOf_14 : decode cX2_valueOf 14 = .ok (.iaload, 1) := by decide +kernel
theorem dX2_valueOf_15 : decode cX2_valueOf 15 = .ok (.goto 4, 3) := by decide +kernel
theorem dX2_valueOf_18 : decode cX2_valueOf 18 = .ok (.iconst 0, 1) := by decide +kernel
theorem dX2_valueOf_19 : decode cX2_valueOf 19 = .ok (.ireturn, 1) := by decide +kernel
theorem dX2_store_0 : decode cX2_store 0 = .ok (.iload_n 1, 1) := by decide +kernel
theorem dX2_store_1 : decode cX2_store 1 = .ok (.ifCond .lt 15, 3) := by decide +kernel
theorem dX2_store_4 : decode cX2_store 4 = .ok (.iload_n 1, 1) := by decide +kernel
theorem dX2_store_5 : decode cX2_store 5 = .ok (.iconst 5, 1) := by decide +kernel
theorem dX2_store_6 : decode cX2_store 6 = .ok (.if_icmp .ge 10, 3) := by decide +kernel
theorem dX2_store_9 : decode cX2_store 9 = .ok (.aload_n 0, 1) := by decide +kernel
theorem dX2_store_10 : decode cX2_store 10 = .ok (.getfield 9, 3) := by decide +kernel
theorem dX2_store_13 : decode cX2_store 13 = .ok (.iload_n 1, 1) := by decide +kernel
theorem dX2_store_14 : decode cX2_store 14 = .ok (.iload_n 2, 1) := by decide +kernel
theorem dX2_store_15 : decode cX2_store 15 = .ok (.iastore, 1) := by decide +kernel
theorem dX2_store_16 : decode cX2_store 16 = .ok (.return_, 1) := by decide +kernel
theorem dX2_stop_0 : decode cX2_stop 0 = .ok (.aload_n 0, 1) := by decide +kernel
theorem dX2_stop_1 : decode cX2_stop 1 = .ok (.iload_n 1, 1) := by decide +kernel
theorem dX2_stop_2 : decode cX2_stop 2 = .ok (.putfield 34, 3) := by decide +kernel
theorem dX2_stop_5 : decode cX2_stop 5 = .ok (.aload_n 0, 1) := by decide +kernel
theorem dX2_stop_6 : decode cX2_stop 6 = .ok (.iconst 0, 1) := by decide +kernel
theorem dX2_stop_7 : decode cX2_stop 7 = .ok (.putfield 37, 3) := by decide +kernel
theorem dX2_stop_10 : decode cX2_stop 10 = .ok (.return_, 1) := by decide +kernel
theorem dX2_begin_0 : decode cX2_begin 0 = .ok (.aload_n 0, 1) := by decide +kernel
theorem dX2_begin_1 : decode cX2_begin 1 = .ok (.getfield 28, 3) := by decide +kernel
theorem dX2_begin_4 : decode cX2_begin 4 = .ok (.sipush 1000, 3) := by decide +kernel
theorem dX2_begin_7 : decode cX2_begin 7 = .ok (.if_icmp .lt 9, 3) := by decide +kernel
theorem dX2_begin_10 : decode cX2_begin 10 = .ok (.aload_n 0, 1) := by decide +kernel
theorem dX2_begin_11 : decode cX2_begin 11 = .ok (.iconst 2, 1) := by decide +kernel
theorem dX2_begin_12 : decode cX2_begin 12 = .ok (.invokevirtual 54, 3) := by decide +kernel
theorem dX2_begin_15 : decode cX2_begin 15 = .ok (.return_, 1) := by decide +kernel
theorem dX2_begin_16 : decode cX2_begin 16 = .ok (.aload_n 0, 1) := by decide +kernel
theorem dX2_begin_17 : decode cX2_begin 17 = .ok (.dup, 1) := by decide +kernel
theorem dX2_begin_18 : decode cX2_begin 18 = .ok (.getfield 28, 3) := by decide +kernel
theorem dX2_begin_21 : decode cX2_begin 21 = .ok (.iconst 1, 1) := by decide +kernel
theorem dX2_begin_22 : decode cX2_begin 22 = .ok (.iadd, 1) := by decide +kernel
theorem dX2_begin_23 : decode cX2_begin 23 = .ok (.putfield 28, 3) := by decide +kernel
theorem dX2_begin_26 : decode cX2_begin 26 = .ok (.aload_n 0, 1) := by decide +kernel
theorem dX2_begin_27 : decode cX2_begin 27 = .ok (.dup, 1) := by decide +kernel
theorem dX2_begin_28 : decode cX2_begin 28 = .ok (.getfield 31, 3) := by decide +kernel
theorem dX2_begin_31 : decode cX2_begin 31 = .ok (.iload_n 1, 1) := by decide +kernel
theorem dX2_begin_32 : decode cX2_begin 32 = .ok (.ior, 1) := by decide +kernel
theorem dX2_begin_33 : decode cX2_begin 33 = .ok (.putfield 31, 3) := by decide +kernel
theorem dX2_begin_36 : decode cX2_begin 36 = .ok (.return_, 1) := by decide +kernel
theorem dX2_workOut_0 : decode cX2_workOut 0 = .ok (.aload_n 0, 1) := by decide +kernel
theorem dX2_workOut_1 : decode cX2_workOut 1 = .ok (.invokevirtual 65, 3) := by decide +kernel
theorem dX2_workOut_4 : decode cX2_workOut 4 = .ok (.istore_n 2, 1) := by decide +kernel
theorem dX2_workOut_5 : decode cX2_workOut 5 = .ok (.aload_n 0, 1) := by decide +kernel
theorem dX2_workOut_6 : decode cX2_workOut 6 = .ok (.invokevirtual 65, 3) := by decide +kernel
theorem dX2_workOut_9 : decode cX2_workOut 9 = .ok (.istore_n 3, 1) := by decide +kernel
theorem dX2_workOut_10 : decode cX2_workOut 10 = .ok (.iload_n 1, 1) := by decide +kernel
theorem dX2_workOut_11 : decode cX2_workOut 11 = .ok (.lookupswitch 80 #[(42, 57), (43, 41), (45, 49), (60, 65)], 41) := by decide +kernel
theorem dX2_workOut_52 : decode cX2_workOut 52 = .ok (.aload_n 0, 1) := by decide +kernel
theorem dX2_workOut_53 : decode cX2_workOut 53 = .ok (.iload_n 3, 1) := by decide +kernel
theorem dX2_workOut_54 : decode cX2_workOut 54 = .ok (.iload_n 2, 1) := by decide +kernel
theorem dX2_workOut_55 : decode cX2_workOut 55 = .ok (.iadd, 1) := by decide +kernel
theorem dX2_workOut_56 : decode cX2_workOut 56 = .ok (.invokevirtual 58, 3) := by decide +kernel
theorem dX2_workOut_59 : decode cX2_workOut 59 = .ok (.return_, 1) := by decide +kernel
theorem dX2_workOut_60 : decode cX2_workOut 60 = .ok (.aload_n 0, 1) := by decide +kernel
theorem dX2_workOut_61 : decode cX2_workOut 61 = .ok (.iload_n 3, 1) := by decide +kernel
theorem dX2_workOut_62 : decode cX2_workOut 62 = .ok (.iload_n 2, 1) := by decide +kernel
theorem dX2_workOut_63 : decode cX2_workOut 63 = .ok (.isub, 1) := by decide +kernel
theorem dX2_workOut_64 : decode cX2_workOut 64 = .ok (.invokevirtual 58, 3) := by decide +kernel
theorem dX2_workOut_67 : decode cX2_workOut 67 = .ok (.return_, 1) := by decide +kernel
theorem dX2_workOut_68 : decode cX2_workOut 68 = .ok (.aload_n 0, 1) := by decide +kernel
theorem dX2_workOut_69 : decode cX2_workOut 69 = .ok (.iload_n 3, 1) := by decide +kernel
theorem dX2_workOut_70 : decode cX2_workOut 70 = .ok (.iload_n 2, 1) := by decide +kernel
theorem dX2_workOut_71 : decode cX2_workOut 71 = .ok (.imul, 1) := by decide +kernel
theorem dX2_workOut_72 : decode cX2_workOut 72 = .ok (.invokevirtual 58, 3) := by decide +kernel
theorem dX2_workOut_75 : decode cX2_workOut 75 = .ok (.return_, 1) := by decide +kernel
theorem dX2_workOut_76 : decode cX2_workOut 76 = .ok (.aload_n 0, 1) := by decide +kernel
theorem dX2_workOut_77 : decode cX2_workOut 77 = .ok (.iload_n 3, 1) := by decide +kernel
theorem dX2_workOut_78 : decode cX2_workOut 78 = .ok (.iload_n 2, 1) := by decide +kernel
theorem dX2_workOut_79 : decode cX2_workOut 79 = .ok (.if_icmp .ge 7, 3) := by decide +kernel
theorem dX2_workOut_82 : decode cX2_workOut 82 = .ok (.iconst 1, 1) := by decide +kernel
theorem dX2_workOut_83 : decode cX2_workOut 83 = .ok (.goto 4, 3) := by decide +kernel
theorem dX2_workOut_86 : decode cX2_workOut 86 = .ok (.iconst 0, 1) := by decide +kernel
theorem dX2_workOut_87 : decode cX2_workOut 87 = .ok (.invokevirtual 58, 3) := by decide +kernel
theorem dX2_workOut_90 : decode cX2_workOut 90 = .ok (.return_, 1) := by decide +kernel
theorem dX2_workOut_91 : decode cX2_workOut 91 = .ok (.aload_n 0, 1) := by decide +kernel
theorem dX2_workOut_92 : decode cX2_workOut 92 = .ok (.iload_n 3, 1) := by decide +kernel
theorem dX2_workOut_93 : decode cX2_workOut 93 = .ok (.iload_n 2, 1) := by decide +kernel
theorem dX2_workOut_94 : decode cX2_workOut 94 = .ok (.iload_n 1, 1) := by decide +kernel
theorem dX2_workOut_95 : decode cX2_workOut 95 = .ok (.bipush 47, 2) := by decide +kernel
theorem dX2_workOut_97 : decode cX2_workOut 97 = .ok (.if_icmp .ne 7, 3) := by decide +kernel
theorem dX2_workOut_100 : decode cX2_workOut 100 = .ok (.iconst 1, 1) := by decide +kernel
theorem dX2_workOut_101 : decode cX2_workOut 101 = .ok (.goto 4, 3) := by decide +kernel
theorem dX2_workOut_104 : decode cX2_workOut 104 = .ok (.iconst 0, 1) := by decide +kernel
theorem dX2_workOut_105 : decode cX2_workOut 105 = .ok (.invokevirtual 79, 3) := by decide +kernel
theorem dX2_workOut_108 : decode cX2_workOut 108 = .ok (.return_, 1) := by decide +kernel
theorem dX2_divide_0 : decode cX2_divide 0 = .ok (.iload_n 2, 1) := by decide +kernel
theorem dX2_divide_1 : decode cX2_divide 1 = .ok (.ifCond .ne 9, 3) := by decide +kernel
theorem dX2_divide_4 : decode cX2_divide 4 = .ok (.aload_n 0, 1) := by decide +kernel
theorem dX2_divide_5 : decode cX2_divide 5 = .ok (.iconst 1, 1) := by decide +kernel
theorem dX2_divide_6 : decode cX2_divide 6 = .ok (.invokevirtual 54, 3) := by decide +kernel
theorem dX2_divide_9 : decode cX2_divide 9 = .ok (.return_, 1) := by decide +kernel
theorem dX2_divide_10 : decode cX2_divide 10 = .ok (.aload_n 0, 1) := by decide +kernel
theorem dX2_divide_11 : decode cX2_divide 11 = .ok (.iload_n 3, 1) := by decide +kernel
theorem dX2_divide_12 : decode cX2_divide 12 = .ok (.ifCond .eq 9, 3) := by decide +kernel
theorem dX2_divide_15 : decode cX2_divide 15 = .ok (.iload_n 1, 1) := by decide +kernel
theorem dX2_divide_16 : decode cX2_divide 16 = .ok (.iload_n 2, 1) := by decide +kernel
theorem dX2_divide_17 : decode cX2_divide 17 = .ok (.idiv, 1) := by decide +kernel
theorem dX2_divide_18 : decode cX2_divide 18 = .ok (.goto 6, 3) := by decide +kernel
theorem dX2_divide_21 : decode cX2_divide 21 = .ok (.iload_n 1, 1) := by decide +kernel
theorem dX2_divide_22 : decode cX2_divide 22 = .ok (.iload_n 2, 1) := by decide +kernel
theorem dX2_divide_23 : decode cX2_divide 23 = .ok (.irem, 1) := by decide +kernel
theorem dX2_divide_24 : decode cX2_divide 24 = .ok (.invokevirtual 58, 3) := by decide +kernel
theorem dX2_divide_27 : decode cX2_divide 27 = .ok (.return_, 1) := by decide +kernel
theorem dX2_push_0 : decode cX2_push 0 = .ok (.aload_n 0, 1) := by decide +kernel
theorem dX2_push_1 : decode cX2_push 1 = .ok (.getfield 24, 3) := by decide +kernel
theorem dX2_push_4 : decode cX2_push 4 = .ok (.aload_n 0, 1) := by decide +kernel
theorem dX2_push_5 : decode cX2_push 5 = .ok (.getfield 15, 3) := by decide +kernel
theorem dX2_push_8 : decode cX2_push 8 = .ok (.arraylength, 1) := by decide +kernel
theorem dX2_push_9 : decode cX2_push 9 = .ok (.if_icmp .ge 23, 3) := by decide +kernel
theorem dX2_push_12 : decode cX2_push 12 = .ok (.aload_n 0, 1) := by decide +kernel
theorem dX2_push_13 : decode cX2_push 13 = .ok (.getfield 15, 3) := by decide +kernel
theorem dX2_push_16 : decode cX2_push 16 = .ok (.aload_n 0, 1) := by decide +kernel
theorem dX2_push_17 : decode cX2_push 17 = .ok (.getfield 24, 3) := by decide +kernel
theorem dX2_push_20 : decode cX2_push 20 = .ok (.iload_n 1, 1) := by decide +kernel
theorem dX2_push_21 : decode cX2_push 21 = .ok (.iastore, 1) := by decide +kernel
theorem dX2_push_22 : decode cX2_push 22 = .ok (.aload_n 0, 1) := by decide +kernel
theorem dX2_push_23 : decode cX2_push 23 = .ok (.dup, 1) := by decide +kernel
theorem dX2_push_24 : decode cX2_push 24 = .ok (.getfield 24, 3) := by decide +kernel
theorem dX2_push_27 : decode cX2_push 27 = .ok (.iconst 1, 1) := by decide +kernel
theorem dX2_push_28 : decode cX2_push 28 = .ok (.iadd, 1) := by decide +kernel
theorem dX2_push_29 : decode cX2_push 29 = .ok (.putfield 24, 3) := by decide +kernel
theorem dX2_push_32 : decode cX2_push 32 = .ok (.return_, 1) := by decide +kernel
theorem dX2_pop_0 : decode cX2_pop 0 = .ok (.aload_n 0, 1) := by decide +kernel
theorem dX2_pop_1 : decode cX2_pop 1 = .ok (.getfield 24, 3) := by decide +kernel
theorem dX2_pop_4 : decode cX2_pop 4 = .ok (.ifCond .gt 5, 3) := by decide +kernel
theorem dX2_pop_7 : decode cX2_pop 7 = .ok (.iconst 0, 1) := by decide +kernel
theorem dX2_pop_8 : decode cX2_pop 8 = .ok (.ireturn, 1) := by decide +kernel
theorem dX2_pop_9 : decode cX2_pop 9 = .ok (.aload_n 0, 1) := by decide +kernel
theorem dX2_pop_10 : decode cX2_pop 10 = .ok (.dup, 1) := by decide +kernel
theorem dX2_pop_11 : decode cX2_pop 11 = .ok (.getfield 24, 3) := by decide +kernel
theorem dX2_pop_14 : decode cX2_pop 14 = .ok (.iconst 1, 1) := by decide +kernel
theorem dX2_pop_15 : decode cX2_pop 15 = .ok (.isub, 1) := by decide +kernel
theorem dX2_pop_16 : decode cX2_pop 16 = .ok (.putfield 24, 3) := by decide +kernel
theorem dX2_pop_19 : decode cX2_pop 19 = .ok (.aload_n 0, 1) := by decide +kernel
theorem dX2_pop_20 : decode cX2_pop 20 = .ok (.getfield 15, 3) := by decide +kernel
theorem dX2_pop_23 : decode cX2_pop 23 = .ok (.aload_n 0, 1) := by decide +kernel
theorem dX2_pop_24 : decode cX2_pop 24 = .ok (.getfield 24, 3) := by decide +kernel
theorem dX2_pop_27 : decode cX2_pop 27 = .ok (.iaload, 1) := by decide +kernel
theorem dX2_pop_28 : decode cX2_pop 28 = .ok (.ireturn, 1) := by decide +kernel
