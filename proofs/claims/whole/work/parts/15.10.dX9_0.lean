theorem dX9_init_0 : decode cX9_init 0 = .ok (.aload_n 0, 1) := by decide +kernel
theorem dX9_init_1 : decode cX9_init 1 = .ok (.invokespecial 3, 3) := by decide +kernel
theorem dX9_init_4 : decode cX9_init 4 = .ok (.aload_n 0, 1) := by decide +kernel
theorem dX9_init_5 : decode cX9_init 5 = .ok (.new 9, 3) := by decide +kernel
theorem dX9_init_8 : decode cX9_init 8 = .ok (.dup, 1) := by decide +kernel
theorem dX9_init_9 : decode cX9_init 9 = .ok (.invokespecial 11, 3) := by decide +kernel
theorem dX9_init_12 : decode cX9_init 12 = .ok (.putfield 12, 3) := by decide +kernel
theorem dX9_init_15 : decode cX9_init 15 = .ok (.aload_n 0, 1) := by decide +kernel
theorem dX9_init_16 : decode cX9_init 16 = .ok (.new 16, 3) := by decide +kernel
theorem dX9_init_19 : decode cX9_init 19 = .ok (.dup, 1) := by decide +kernel
theorem dX9_init_20 : decode cX9_init 20 = .ok (.invokespecial 18, 3) := by decide +kernel
theorem dX9_init_23 : decode cX9_init 23 = .ok (.putfield 19, 3) := by decide +kernel
theorem dX9_init_26 : decode cX9_init 26 = .ok (.aload_n 0, 1) := by decide +kernel
theorem dX9_init_27 : decode cX9_init 27 = .ok (.new 23, 3) := by decide +kernel
theorem dX9_init_30 : decode cX9_init 30 = .ok (.dup, 1) := by decide +kernel
theorem dX9_init_31 : decode cX9_init 31 = .ok (.invokespecial 25, 3) := by decide +kernel
theorem dX9_init_34 : decode cX9_init 34 = .ok (.putfield 26, 3) := by decide +kernel
theorem dX9_init_37 : decode cX9_init 37 = .ok (.aload_n 0, 1) := by decide +kernel
theorem dX9_init_38 : decode cX9_init 38 = .ok (.new 30, 3) := by decide +kernel
theorem dX9_init_41 : decode cX9_init 41 = .ok (.dup, 1) := by decide +kernel
theorem dX9_init_42 : decode cX9_init 42 = .ok (.invokespecial 32, 3) := by decide +kernel
theorem dX9_init_45 : decode cX9_init 45 = .ok (.putfield 33, 3) := by decide +kernel
theorem dX9_init_48 : decode cX9_init 48 = .ok (.aload_n 0, 1) := by decide +kernel
theorem dX9_init_49 : decode cX9_init 49 = .ok (.new 37, 3) := by decide +kernel
theorem dX9_init_52 : decode cX9_init 52 = .ok (.dup, 1) := by decide +kernel
theorem dX9_init_53 : decode cX9_init 53 = .ok (.invokespecial 39, 3) := by decide +kernel
theorem dX9_init_56 : decode cX9_init 56 = .ok (.putfield 40, 3) := by decide +kernel
theorem dX9_init_59 : decode cX9_init 59 = .ok (.aload_n 0, 1) := by decide +kernel
theorem dX9_init_60 : decode cX9_init 60 = .ok (.bipush 10, 2) := by decide +kernel
theorem dX9_init_62 : decode cX9_init 62 = .ok (.anewarray 44, 3) := by decide +kernel
theorem dX9_init_65 : decode cX9_init 65 = .ok (.putfield 46, 3) := by decide +kernel
theorem dX9_init_68 : decode cX9_init 68 = .ok (.aload_n 0, 1) := by decide +kernel
theorem dX9_init_69 : decode cX9_init 69 = .ok (.bipush 8, 2) := by decide +kernel
theorem dX9_init_71 : decode cX9_init 71 = .ok (.anewarray 50, 3) := by decide +kernel
theorem dX9_init_74 : decode cX9_init 74 = .ok (.putfield 52, 3) := by decide +kernel
theorem dX9_init_77 : decode cX9_init 77 = .ok (.aload_n 0, 1) := by decide +kernel
theorem dX9_init_78 : decode cX9_init 78 = .ok (.iconst (-1), 1) := by decide +kernel
theorem dX9_init_79 : decode cX9_init 79 = .ok (.putfield 56, 3) := by decide +kernel
theorem dX9_init_82 : decode cX9_init 82 = .ok (.iconst 0, 1) := by decide +kernel
theorem dX9_init_83 : decode cX9_init 83 = .ok (.istore_n 1, 1) := by decide +kernel
theorem dX9_init_84 : decode cX9_init 84 = .ok (.iload_n 1, 1) := by decide +kernel
theorem dX9_init_85 : decode cX9_init 85 = .ok (.bipush 8, 2) := by decide +kernel
theorem dX9_init_87 : decode cX9_init 87 = .ok (.if_icmp .ge 22, 3) := by decide +kernel
theorem dX9_init_90 : decode cX9_init 90 = .ok (.aload_n 0, 1) := by decide +kernel
theorem dX9_init_91 : decode cX9_init 91 = .ok (.getfield 52, 3) := by decide +kernel
theorem dX9_init_94 : decode cX9_init 94 = .ok (.iload_n 1, 1) := by decide +kernel
theorem dX9_init_95 : decode cX9_init 95 = .ok (.new 50, 3) := by decide +kernel
theorem dX9_init_98 : decode cX9_init 98 = .ok (.dup, 1) := by decide +kernel
theorem dX9_init_99 : decode cX9_init 99 = .ok (.invokespecial 60, 3) := by decide +kernel
theorem dX9_init_102 : decode cX9_init 102 = .ok (.aastore, 1) := by decide +kernel
theorem dX9_init_103 : decode cX9_init 103 = .ok (.iinc 1 1, 3) := by decide +kernel
theorem dX9_init_106 : decode cX9_init 106 = .ok (.goto (-22), 3) := by decide +kernel
theorem dX9_init_109 : decode cX9_init 109 = .ok (.return_, 1) := by decide +kernel
theorem dX9_feed_0 : decode cX9_feed 0 = .ok (.aload_n 0, 1) := by decide +kernel
theorem dX9_feed_1 : decode cX9_feed 1 = .ok (.getfield 12, 3) := by decide +kernel
theorem dX9_feed_4 : decode cX9_feed 4 = .ok (.getfield 61, 3) := by decide +kernel
theorem dX9_feed_7 : decode cX9_feed 7 = .ok (.bipush 20, 2) := by decide +kernel
theorem dX9_feed_9 : decode cX9_feed 9 = .ok (.iadd, 1) := by decide +kernel
theorem dX9_feed_10 : decode cX9_feed 10 = .ok (.sipush 400, 3) := by decide +kernel
theorem dX9_feed_13 : decode cX9_feed 13 = .ok (.if_icmp .le 5, 3) := by decide +kernel
theorem dX9_feed_16 : decode cX9_feed 16 = .ok (.iconst (-1), 1) := by decide +kernel
theorem dX9_feed_17 : decode cX9_feed 17 = .ok (.ireturn, 1) := by decide +kernel
theorem dX9_feed_18 : decode cX9_feed 18 = .ok (.aload_n 0, 1) := by decide +kernel
theorem dX9_feed_19 : decode cX9_feed 19 = .ok (.getfield 12, 3) := by decide +kernel
theorem dX9_feed_22 : decode cX9_feed 22 = .ok (.iload_n 1, 1) := by decide +kernel
theorem dX9_feed_23 : decode cX9_feed 23 = .ok (.invokevirtual 64, 3) := by decide +kernel
theorem dX9_feed_26 : decode cX9_feed 26 = .ok (.aload_n 0, 1) := by decide +kernel
theorem dX9_feed_27 : decode cX9_feed 27 = .ok (.getfield 12, 3) := by decide +kernel
theorem dX9_feed_30 : decode cX9_feed 30 = .ok (.iload_n 2, 1) := by decide +kernel
theorem dX9_feed_31 : decode cX9_feed 31 = .ok (.invokevirtual 64, 3) := by decide +kernel
theorem dX9_feed_34 : decode cX9_feed 34 = .ok (.aload_n 0, 1) := by decide +kernel
theorem dX9_feed_35 : decode cX9_feed 35 = .ok (.getfield 12, 3) := by decide +kernel
theorem dX9_feed_38 : decode cX9_feed 38 = .ok (.iload_n 3, 1) := by decide +kernel
theorem dX9_feed_39 : decode cX9_feed 39 = .ok (.invokevirtual 64, 3) := by decide +kernel
theorem dX9_feed_42 : decode cX9_feed 42 = .ok (.aload_n 0, 1) := by decide +kernel
theorem dX9_feed_43 : decode cX9_feed 43 = .ok (.getfield 12, 3) := by decide +kernel
theorem dX9_feed_46 : decode cX9_feed 46 = .ok (.iload 4, 2) := by decide +kernel
theorem dX9_feed_48 : decode cX9_feed 48 = .ok (.invokevirtual 64, 3) := by decide +kernel
theorem dX9_feed_51 : decode cX9_feed 51 = .ok (.aload_n 0, 1) := by decide +kernel
theorem dX9_feed_52 : decode cX9_feed 52 = .ok (.getfield 12, 3) := by decide +kernel
theorem dX9_feed_55 : decode cX9_feed 55 = .ok (.iload 5, 2) := by decide +kernel
theorem dX9_feed_57 : decode cX9_feed 57 = .ok (.invokevirtual 64, 3) := by decide +kernel
theorem dX9_feed_60 : decode cX9_feed 60 = .ok (.aload_n 0, 1) := by decide +kernel
theorem dX9_feed_61 : decode cX9_feed 61 = .ok (.getfield 12, 3) := by decide +kernel
theorem dX9_feed_64 : decode cX9_feed 64 = .ok (.getfield 61, 3) := by decide +kernel
theorem dX9_feed_67 : decode cX9_feed 67 = .ok (.ireturn, 1) := by decide +kernel
theorem dX9_end_0 : decode cX9_end 0 = .ok (.iload_n 1, 1) := by decide +kernel
theorem dX9_end_1 : decode cX9_end 1 = .ok (.ifCond .lt 14, 3) := by decide +kernel
theorem dX9_end_4 : decode cX9_end 4 = .ok (.iload_n 1, 1) := by decide +kernel
theorem dX9_end_5 : decode cX9_end 5 = .ok (.aload_n 0, 1) := by decide +kernel
theorem dX9_end_6 : decode cX9_end 6 = .ok (.getfield 12, 3) := by decide +kernel
theorem dX9_end_9 : decode cX9_end 9 = .ok (.getfield 61, 3) := by decide +kernel
theorem dX9_end_12 : decode cX9_end 12 = .ok (.if_icmp .le 5, 3) := by decide +kernel
theorem dX9_end_15 : decode cX9_end 15 = .ok (.iconst 0, 1) := by decide +kernel
theorem dX9_end_16 : decode cX9_end 16 = .ok (.ireturn, 1) := by decide +kernel
theorem dX9_end_17 : decode cX9_end 17 = .ok (.aload_n 0, 1) := by decide +kernel
theorem dX9_end_18 : decode cX9_end 18 = .ok (.getfield 12, 3) := by decide +kernel
theorem dX9_end_21 : decode cX9_end 21 = .ok (.iload_n 1, 1) := by decide +kernel
theorem dX9_end_22 : decode cX9_end 22 = .ok (.putfield 61, 3) := by decide +kernel
theorem dX9_end_25 : decode cX9_end 25 = .ok (.iconst 1, 1) := by decide +kernel
theorem dX9_end_26 : decode cX9_end 26 = .ok (.ireturn, 1) := by decide +kernel
theorem dX9_read_0 : decode cX9_read 0 = .ok (.aload_n 0, 1) := by decide +kernel
theorem dX9_read_1 : decode cX9_read 1 = .ok (.getfield 19, 3) := by decide +kernel
theorem dX9_read_4 : decode cX9_read 4 = .ok (.aload_n 0, 1) := by decide +kernel
theorem dX9_read_5 : decode cX9_read 5 = .ok (.getfield 12, 3) := by decide +kernel
theorem dX9_read_8 : decode cX9_read 8 = .ok (.invokevirtual 68, 3) := by decide +kernel
theorem dX9_read_11 : decode cX9_read 11 = .ok (.astore_n 1, 1) := by decide +kernel
theorem dX9_read_12 : decode cX9_read 12 = .ok (.aload_n 0, 1) := by decide +kernel
theorem dX9_read_13 : decode cX9_read 13 = .ok (.getfield 12, 3) := by decide +kernel
theorem dX9_read_16 : decode cX9_read 16 = .ok (.iconst 0, 1) := by decide +kernel
theorem dX9_read_17 : decode cX9_read 17 = .ok (.putfield 61, 3) := by decide +kernel
theorem dX9_read_20 : decode cX9_read 20 = .ok (.aload_n 1, 1) := by decide +kernel
theorem dX9_read_21 : decode cX9_read 21 = .ok (.ifnonnull 24, 3) := by decide +kernel
theorem dX9_read_24 : decode cX9_read 24 = .ok (.aload_n 0, 1) := by decide +kernel
theorem dX9_read_25 : decode cX9_read 25 = .ok (.aload_n 0, 1) := by decide +kernel
theorem dX9_read_26 : decode cX9_read 26 = .ok (.getfield 19, 3) := by decide +kernel
theorem dX9_read_29 : decode cX9_read 29 = .ok (.invokevirtual 72, 3) := by decide +kernel
theorem dX9_read_32 : decode cX9_read 32 = .ok (.putfield 56, 3) := by decide +kernel
theorem dX9_read_35 : decode cX9_read 35 = .ok (.new 76, 3) := by decide +kernel
theorem dX9_read_38 : decode cX9_read 38 = .ok (.dup, 1) := by decide +kernel
theorem dX9_read_39 : decode cX9_read 39 = .ok (.ldc 78, 2) := by decide +kernel
theorem dX9_read_41 : decode cX9_read 41 = .ok (.invokespecial 80, 3) := by decide +kernel
theorem dX9_read_44 : decode cX9_read 44 = .ok (.athrow, 1) := by decide +kernel
theorem dX9_read_45 : decode cX9_read 45 = .ok (.aload_n 0, 1) := by decide +kernel
theorem dX9_read_46 : decode cX9_read 46 = .ok (.iconst (-1), 1) := by decide +kernel
theorem dX9_read_47 : decode cX9_read 47 = .ok (.putfield 56, 3) := by decide +kernel
theorem dX9_read_50 : decode cX9_read 50 = .ok (.aload_n 0, 1) := by decide +kernel
theorem dX9_read_51 : decode cX9_read 51 = .ok (.aload_n 1, 1) := by decide +kernel
theorem dX9_read_52 : decode cX9_read 52 = .ok (.putfield 83, 3) := by decide +kernel
theorem dX9_read_55 : decode cX9_read 55 = .ok (.aload_n 0, 1) := by decide +kernel
theorem dX9_read_56 : decode cX9_read 56 = .ok (.dup, 1) := by decide +kernel
theorem dX9_read_57 : decode cX9_read 57 = .ok (.getfield 87, 3) := by decide +kernel
theorem dX9_read_60 : decode cX9_read 60 = .ok (.iconst 1, 1) := by decide +kernel
theorem dX9_read_61 : decode cX9_read 61 = .ok (.iadd, 1) := by decide +kernel
theorem dX9_read_62 : decode cX9_read 62 = .ok (.putfield 87, 3) := by decide +kernel
theorem dX9_read_65 : decode cX9_read 65 = .ok (.aload_n 1, 1) := by decide +kernel
theorem dX9_read_66 : decode cX9_read 66 = .ok (.invokevirtual 90, 3) := by decide +kernel
theorem dX9_read_69 : decode cX9_read 69 = .ok (.ireturn, 1) := by decide +kernel
theorem dX9_fault_0 : decode cX9_fault 0 = .ok (.aload_n 0, 1) := by decide +kernel
theorem dX9_fault_1 : decode cX9_fault 1 = .ok (.getfield 56, 3) := by decide +kernel
theorem dX9_fault_4 : decode cX9_fault 4 = .ok (.ireturn, 1) := by decide +kernel
theorem dX9_run_0 : decode cX9_run 0 = .ok (.aload_n 0, 1) := by decide +kernel
theorem dX9_run_1 : decode cX9_run 1 = .ok (.invokevirtual 94, 3) := by decide +kernel
theorem dX9_run_4 : decode cX9_run 4 = .ok (.astore 4, 2) := by decide +kernel
theorem dX9_run_6 : decode cX9_run 6 = .ok (.iload_n 3, 1) := by decide +kernel
theorem dX9_run_7 : decode cX9_run 7 = .ok (.iconst 3, 1) := by decide +kernel
theorem dX9_run_8 : decode cX9_run 8 = .ok (.invokestatic 98, 3) := by decide +kernel
theorem dX9_run_11 : decode cX9_run 11 = .ok (.aload_n 0, 1) := by decide +kernel
theorem dX9_run_12 : decode cX9_run 12 = .ok (.getfield 26, 3) := by decide +kernel
theorem dX9_run_15 : decode cX9_run 15 = .ok (.aload 4, 2) := by decide +kernel
theorem dX9_run_17 : decode cX9_run 17 = .ok (.iload_n 1, 1) := by decide +kernel
theorem dX9_run_18 : decode cX9_run 18 = .ok (.iload_n 2, 1) := by decide +kernel
theorem dX9_run_19 : decode cX9_run 19 = .ok (.invokevirtual 102, 3) := by decide +kernel
theorem dX9_run_22 : decode cX9_run 22 = .ok (.iload_n 3, 1) := by decide +kernel
theorem dX9_run_23 : decode cX9_run 23 = .ok (.tableswitch 49 0 2 #[25, 33, 41], 25) := by decide +kernel
theorem dX9_run_48 : decode cX9_run 48 = .ok (.aload_n 0, 1) := by decide +kernel
theorem dX9_run_49 : decode cX9_run 49 = .ok (.getfield 26, 3) := by decide +kernel
theorem dX9_run_52 : decode cX9_run 52 = .ok (.getfield 106, 3) := by decide +kernel
theorem dX9_run_55 : decode cX9_run 55 = .ok (.ireturn, 1) := by decide +kernel
theorem dX9_run_56 : decode cX9_run 56 = .ok (.aload_n 0, 1) := by decide +kernel
theorem dX9_run_57 : decode cX9_run 57 = .ok (.getfield 26, 3) := by decide +kernel
theorem dX9_run_60 : decode cX9_run 60 = .ok (.invokevirtual 109, 3) := by decide +kernel
theorem dX9_run_63 : decode cX9_run 63 = .ok (.ireturn, 1) := by decide +kernel
theorem dX9_run_64 : decode cX9_run 64 = .ok (.aload_n 0, 1) := by decide +kernel
theorem dX9_run_65 : decode cX9_run 65 = .ok (.getfield 26, 3) := by decide +kernel
theorem dX9_run_68 : decode cX9_run 68 = .ok (.getfield 112, 3) := by decide +kernel
theorem dX9_run_71 : decode cX9_run 71 = .ok (.ireturn, 1) := by decide +kernel
theorem dX9_run_72 : decode cX9_run 72 = .ok (.aload_n 0, 1) := by decide +kernel
theorem dX9_run_73 : decode cX9_run 73 = .ok (.getfield 26, 3) := by decide +kernel
theorem dX9_run_76 : decode cX9_run 76 = .ok (.getfield 115, 3) := by decide +kernel
theorem dX9_run_79 : decode cX9_run 79 = .ok (.ireturn, 1) := by decide +kernel
theorem dX9_task_0 : decode cX9_task 0 = .ok (.iload_n 1, 1) := by decide +kernel
theorem dX9_task_1 : decode cX9_task 1 = .ok (.invokestatic 118, 3) := by decide +kernel
theorem dX9_task_4 : decode cX9_task 4 = .ok (.ifCond .eq 10, 3) := by decide +kernel
theorem dX9_task_7 : decode cX9_task 7 = .ok (.iload_n 2, 1) := by decide +kernel
theorem dX9_task_8 : decode cX9_task 8 = .ok (.invokestatic 118, 3) := by decide +kernel
theorem dX9_task_11 : decode cX9_task 11 = .ok (.ifCond .ne 13, 3) := by decide +kernel
theorem dX9_task_14 : decode cX9_task 14 = .ok (.new 76, 3) := by decide +kernel
theorem dX9_task_17 : decode cX9_task 17 = .ok (.dup, 1) := by decide +kernel
theorem dX9_task_18 : decode cX9_task 18 = .ok (.ldc 122, 2) := by decide +kernel
theorem dX9_task_20 : decode cX9_task 20 = .ok (.invokespecial 80, 3) := by decide +kernel
theorem dX9_task_23 : decode cX9_task 23 = .ok (.athrow, 1) := by decide +kernel
theorem dX9_task_24 : decode cX9_task 24 = .ok (.aload_n 0, 1) := by decide +kernel
theorem dX9_task_25 : decode cX9_task 25 = .ok (.getfield 124, 3) := by decide +kernel
theorem dX9_task_28 : decode cX9_task 28 = .ok (.bipush 10, 2) := by decide +kernel
theorem dX9_task_30 : decode cX9_task 30 = .ok (.if_icmp .lt 13, 3) := by decide +kernel
theorem dX9_task_33 : decode cX9_task 33 = .ok (.new 127, 3) := by decide +kernel
theorem dX9_task_36 : decode cX9_task 36 = .ok (.dup, 1) := by decide +kernel
theorem dX9_task_37 : decode cX9_task 37 = .ok (.ldc 129, 2) := by decide +kernel
theorem dX9_task_39 : decode cX9_task 39 = .ok (.invokespecial 131, 3) := by decide +kernel
theorem dX9_task_42 : decode cX9_task 42 = .ok (.athrow, 1) := by decide +kernel
theorem dX9_task_43 : decode cX9_task 43 = .ok (.aload_n 0, 1) := by decide +kernel
theorem dX9_task_44 : decode cX9_task 44 = .ok (.getfield 46, 3) := by decide +kernel
theorem dX9_task_47 : decode cX9_task 47 = .ok (.aload_n 0, 1) := by decide +kernel
theorem dX9_task_48 : decode cX9_task 48 = .ok (.getfield 124, 3) := by decide +kernel
theorem dX9_task_51 : decode cX9_task 51 = .ok (.new 44, 3) := by decide +kernel
theorem dX9_task_54 : decode cX9_task 54 = .ok (.dup, 1) := by decide +kernel
theorem dX9_task_55 : decode cX9_task 55 = .ok (.iload_n 1, 1) := by decide +kernel
theorem dX9_task_56 : decode cX9_task 56 = .ok (.iload_n 2, 1) := by decide +kernel
theorem dX9_task_57 : decode cX9_task 57 = .ok (.invokespecial 132, 3) := by decide +kernel
theorem dX9_task_60 : decode cX9_task 60 = .ok (.aastore, 1) := by decide +kernel
theorem dX9_task_61 : decode cX9_task 61 = .ok (.aload_n 0, 1) := by decide +kernel
theorem dX9_task_62 : decode cX9_task 62 = .ok (.dup, 1) := by decide +kernel
theorem dX9_task_63 : decode cX9_task 63 = .ok (.getfield 124, 3) := by decide +kernel
theorem dX9_task_66 : decode cX9_task 66 = .ok (.iconst 1, 1) := by decide +kernel
theorem dX9_task_67 : decode cX9_task 67 = .ok (.iadd, 1) := by decide +kernel
theorem dX9_task_68 : decode cX9_task 68 = .ok (.putfield 124, 3) := by decide +kernel
theorem dX9_task_71 : decode cX9_task 71 = .ok (.aload_n 0, 1) := by decide +kernel
theorem dX9_task_72 : decode cX9_task 72 = .ok (.getfield 124, 3) := by decide +kernel
theorem dX9_task_75 : decode cX9_task 75 = .ok (.iconst 1, 1) := by decide +kernel
theorem dX9_task_76 : decode cX9_task 76 = .ok (.isub, 1) := by decide +kernel
theorem dX9_task_77 : decode cX9_task 77 = .ok (.ireturn, 1) := by decide +kernel
theorem dX9_world_0 : decode cX9_world 0 = .ok (.aload_n 0, 1) := by decide +kernel
theorem dX9_world_1 : decode cX9_world 1 = .ok (.iload_n 1, 1) := by decide +kernel
theorem dX9_world_2 : decode cX9_world 2 = .ok (.invokevirtual 134, 3) := by decide +kernel
theorem dX9_world_5 : decode cX9_world 5 = .ok (.iload_n 2, 1) := by decide +kernel
theorem dX9_world_6 : decode cX9_world 6 = .ok (.iload_n 3, 1) := by decide +kernel
theorem dX9_world_7 : decode cX9_world 7 = .ok (.iload 4, 2) := by decide +kernel
theorem dX9_world_9 : decode cX9_world 9 = .ok (.invokevirtual 138, 3) := by decide +kernel
theorem dX9_world_12 : decode cX9_world 12 = .ok (.ireturn, 1) := by decide +kernel
theorem dX9_attempt_0 : decode cX9_attempt 0 = .ok (.aload_n 0, 1) := by decide +kernel
theorem dX9_attempt_1 : decode cX9_attempt 1 = .ok (.iload_n 1, 1) := by decide +kernel
theorem dX9_attempt_2 : decode cX9_attempt 2 = .ok (.invokevirtual 134, 3) := by decide +kernel
theorem dX9_attempt_5 : decode cX9_attempt 5 = .ok (.astore 4, 2) := by decide +kernel
theorem dX9_attempt_7 : decode cX9_attempt 7 = .ok (.aload_n 0, 1) := by decide +kernel
theorem dX9_attempt_8 : decode cX9_attempt 8 = .ok (.iload_n 2, 1) := by decide +kernel
theorem dX9_attempt_9 : decode cX9_attempt 9 = .ok (.invokevirtual 142, 3) := by decide +kernel
theorem dX9_attempt_12 : decode cX9_attempt 12 = .ok (.astore 5, 2) := by decide +kernel
theorem dX9_attempt_14 : decode cX9_attempt 14 = .ok (.aload_n 0, 1) := by decide +kernel
theorem dX9_attempt_15 : decode cX9_attempt 15 = .ok (.invokevirtual 94, 3) := by decide +kernel
theorem dX9_attempt_18 : decode cX9_attempt 18 = .ok (.astore 6, 2) := by decide +kernel
theorem dX9_attempt_20 : decode cX9_attempt 20 = .ok (.aload 4, 2) := by decide +kernel
theorem dX9_attempt_22 : decode cX9_attempt 22 = .ok (.getfield 146, 3) := by decide +kernel
theorem dX9_attempt_25 : decode cX9_attempt 25 = .ok (.ifCond .ne 5, 3) := by decide +kernel
theorem dX9_attempt_28 : decode cX9_attempt 28 = .ok (.iconst (-1), 1) := by decide +kernel
theorem dX9_attempt_29 : decode cX9_attempt 29 = .ok (.ireturn, 1) := by decide +kernel
theorem dX9_attempt_30 : decode cX9_attempt 30 = .ok (.aload_n 0, 1) := by decide +kernel
theorem dX9_attempt_31 : decode cX9_attempt 31 = .ok (.dup, 1) := by decide +kernel
theorem dX9_attempt_32 : decode cX9_attempt 32 = .ok (.getfield 149, 3) := by decide +kernel
theorem dX9_attempt_35 : decode cX9_attempt 35 = .ok (.iconst 1, 1) := by decide +kernel
theorem dX9_attempt_36 : decode cX9_attempt 36 = .ok (.iadd, 1) := by decide +kernel
theorem dX9_attempt_37 : decode cX9_attempt 37 = .ok (.putfield 149, 3) := by decide +kernel
theorem dX9_attempt_40 : decode cX9_attempt 40 = .ok (.iconst 0, 1) := by decide +kernel
theorem dX9_attempt_41 : decode cX9_attempt 41 = .ok (.istore 7, 2) := by decide +kernel
theorem dX9_attempt_43 : decode cX9_attempt 43 = .ok (.iconst 0, 1) := by decide +kernel
theorem dX9_attempt_44 : decode cX9_attempt 44 = .ok (.istore 8, 2) := by decide +kernel
theorem dX9_attempt_46 : decode cX9_attempt 46 = .ok (.iload 8, 2) := by decide +kernel
theorem dX9_attempt_48 : decode cX9_attempt 48 = .ok (.aload 4, 2) := by decide +kernel
theorem dX9_attempt_50 : decode cX9_attempt 50 = .ok (.getfield 146, 3) := by decide +kernel
theorem dX9_attempt_53 : decode cX9_attempt 53 = .ok (.if_icmp .ge 79, 3) := by decide +kernel
theorem dX9_attempt_56 : decode cX9_attempt 56 = .ok (.aload_n 0, 1) := by decide +kernel
theorem dX9_attempt_57 : decode cX9_attempt 57 = .ok (.getfield 26, 3) := by decide +kernel
theorem dX9_attempt_60 : decode cX9_attempt 60 = .ok (.aload 6, 2) := by decide +kernel
theorem dX9_attempt_62 : decode cX9_attempt 62 = .ok (.aload 4, 2) := by decide +kernel
theorem dX9_attempt_64 : decode cX9_attempt 64 = .ok (.getfield 152, 3) := by decide +kernel
theorem dX9_attempt_67 : decode cX9_attempt 67 = .ok (.iload 8, 2) := by decide +kernel
theorem dX9_attempt_69 : decode cX9_attempt 69 = .ok (.iaload, 1) := by decide +kernel
theorem dX9_attempt_70 : decode cX9_attempt 70 = .ok (.aload 4, 2) := by decide +kernel
theorem dX9_attempt_72 : decode cX9_attempt 72 = .ok (.getfield 156, 3) := by decide +kernel
theorem dX9_attempt_75 : decode cX9_attempt 75 = .ok (.iload 8, 2) := by decide +kernel
theorem dX9_attempt_77 : decode cX9_attempt 77 = .ok (.iaload, 1) := by decide +kernel
theorem dX9_attempt_78 : decode cX9_attempt 78 = .ok (.invokevirtual 102, 3) := by decide +kernel
theorem dX9_attempt_81 : decode cX9_attempt 81 = .ok (.aload_n 0, 1) := by decide +kernel
theorem dX9_attempt_82 : decode cX9_attempt 82 = .ok (.getfield 26, 3) := by decide +kernel
theorem dX9_attempt_85 : decode cX9_attempt 85 = .ok (.getfield 106, 3) := by decide +kernel
theorem dX9_attempt_88 : decode cX9_attempt 88 = .ok (.ifCond .ne 21, 3) := by decide +kernel
theorem dX9_attempt_91 : decode cX9_attempt 91 = .ok (.aload_n 0, 1) := by decide +kernel
theorem dX9_attempt_92 : decode cX9_attempt 92 = .ok (.getfield 26, 3) := by decide +kernel
theorem dX9_attempt_95 : decode cX9_attempt 95 = .ok (.invokevirtual 109, 3) := by decide +kernel
theorem dX9_attempt_98 : decode cX9_attempt 98 = .ok (.aload 4, 2) := by decide +kernel
theorem dX9_attempt_100 : decode cX9_attempt 100 = .ok (.getfield 159, 3) := by decide +kernel
theorem dX9_attempt_103 : decode cX9_attempt 103 = .ok (.iload 8, 2) := by decide +kernel
theorem dX9_attempt_105 : decode cX9_attempt 105 = .ok (.iaload, 1) := by decide +kernel
theorem dX9_attempt_106 : decode cX9_attempt 106 = .ok (.if_icmp .eq 8, 3) := by decide +kernel
theorem dX9_attempt_109 : decode cX9_attempt 109 = .ok (.iconst 1, 1) := by decide +kernel
theorem dX9_attempt_110 : decode cX9_attempt 110 = .ok (.iload 8, 2) := by decide +kernel
theorem dX9_attempt_112 : decode cX9_attempt 112 = .ok (.iadd, 1) := by decide +kernel
theorem dX9_attempt_113 : decode cX9_attempt 113 = .ok (.ireturn, 1) := by decide +kernel
theorem dX9_attempt_114 : decode cX9_attempt 114 = .ok (.iload 7, 2) := by decide +kernel
theorem dX9_attempt_116 : decode cX9_attempt 116 = .ok (.aload_n 0, 1) := by decide +kernel
theorem dX9_attempt_117 : decode cX9_attempt 117 = .ok (.getfield 26, 3) := by decide +kernel
theorem dX9_attempt_120 : decode cX9_attempt 120 = .ok (.getfield 115, 3) := by decide +kernel
theorem dX9_attempt_123 : decode cX9_attempt 123 = .ok (.ior, 1) := by decide +kernel
theorem dX9_attempt_124 : decode cX9_attempt 124 = .ok (.istore 7, 2) := by decide +kernel
theorem dX9_attempt_126 : decode cX9_attempt 126 = .ok (.iinc 8 1, 3) := by decide +kernel
theorem dX9_attempt_129 : decode cX9_attempt 129 = .ok (.goto (-83), 3) := by decide +kernel
theorem dX9_attempt_132 : decode cX9_attempt 132 = .ok (.aload_n 0, 1) := by decide +kernel
theorem dX9_attempt_133 : decode cX9_attempt 133 = .ok (.dup, 1) := by decide +kernel
theorem dX9_attempt_134 : decode cX9_attempt 134 = .ok (.getfield 162, 3) := by decide +kernel
theorem dX9_attempt_137 : decode cX9_attempt 137 = .ok (.iconst 1, 1) := by decide +kernel
theorem dX9_attempt_138 : decode cX9_attempt 138 = .ok (.iadd, 1) := by decide +kernel
theorem dX9_attempt_139 : decode cX9_attempt 139 = .ok (.putfield 162, 3) := by decide +kernel
theorem dX9_attempt_142 : decode cX9_attempt 142 = .ok (.aload 4, 2) := by decide +kernel
theorem dX9_attempt_144 : decode cX9_attempt 144 = .ok (.iload_n 2, 1) := by decide +kernel
theorem dX9_attempt_145 : decode cX9_attempt 145 = .ok (.invokevirtual 165, 3) := by decide +kernel
theorem dX9_attempt_148 : decode cX9_attempt 148 = .ok (.ifCond .ne 20, 3) := by decide +kernel
theorem dX9_attempt_151 : decode cX9_attempt 151 = .ok (.aload 5, 2) := by decide +kernel
theorem dX9_attempt_153 : decode cX9_attempt 153 = .ok (.iload 7, 2) := by decide +kernel
theorem dX9_attempt_155 : decode cX9_attempt 155 = .ok (.iload_n 3, 1) := by decide +kernel
theorem dX9_attempt_156 : decode cX9_attempt 156 = .ok (.ifCond .eq 7, 3) := by decide +kernel
theorem dX9_attempt_159 : decode cX9_attempt 159 = .ok (.iconst 4, 1) := by decide +kernel
theorem dX9_attempt_160 : decode cX9_attempt 160 = .ok (.goto 5, 3) := by decide +kernel
theorem dX9_attempt_163 : decode cX9_attempt 163 = .ok (.bipush 16, 2) := by decide +kernel
theorem dX9_attempt_165 : decode cX9_attempt 165 = .ok (.invokevirtual 168, 3) := by decide +kernel
theorem dX9_attempt_168 : decode cX9_attempt 168 = .ok (.aload 4, 2) := by decide +kernel
theorem dX9_attempt_170 : decode cX9_attempt 170 = .ok (.iload_n 2, 1) := by decide +kernel
theorem dX9_attempt_171 : decode cX9_attempt 171 = .ok (.aload 6, 2) := by decide +kernel
theorem dX9_attempt_173 : decode cX9_attempt 173 = .ok (.invokevirtual 171, 3) := by decide +kernel
theorem dX9_attempt_176 : decode cX9_attempt 176 = .ok (.iconst 0, 1) := by decide +kernel
theorem dX9_attempt_177 : decode cX9_attempt 177 = .ok (.ireturn, 1) := by decide +kernel
theorem dX9_can_0 : decode cX9_can 0 = .ok (.aload_n 0, 1) := by decide +kernel
theorem dX9_can_1 : decode cX9_can 1 = .ok (.iload_n 1, 1) := by decide +kernel
theorem dX9_can_2 : decode cX9_can 2 = .ok (.invokevirtual 142, 3) := by decide +kernel
theorem dX9_can_5 : decode cX9_can 5 = .ok (.astore_n 3, 1) := by decide +kernel
theorem dX9_can_6 : decode cX9_can 6 = .ok (.iload_n 2, 1) := by decide +kernel
theorem dX9_can_7 : decode cX9_can 7 = .ok (.invokestatic 175, 3) := by decide +kernel
theorem dX9_can_10 : decode cX9_can 10 = .ok (.aload_n 3, 1) := by decide +kernel
theorem dX9_can_11 : decode cX9_can 11 = .ok (.getfield 178, 3) := by decide +kernel
theorem dX9_can_14 : decode cX9_can 14 = .ok (.iload_n 2, 1) := by decide +kernel
theorem dX9_can_15 : decode cX9_can 15 = .ok (.iaload, 1) := by decide +kernel
theorem dX9_can_16 : decode cX9_can 16 = .ok (.ireturn, 1) := by decide +kernel
theorem dX9_passed_0 : decode cX9_passed 0 = .ok (.aload_n 0, 1) := by decide +kernel
theorem dX9_passed_1 : decode cX9_passed 1 = .ok (.iload_n 1, 1) := by decide +kernel
theorem dX9_passed_2 : decode cX9_passed 2 = .ok (.invokevirtual 142, 3) := by decide +kernel
theorem dX9_passed_5 : decode cX9_passed 5 = .ok (.pop, 1) := by decide +kernel
theorem dX9_passed_6 : decode cX9_passed 6 = .ok (.aload_n 0, 1) := by decide +kernel
theorem dX9_passed_7 : decode cX9_passed 7 = .ok (.iload_n 2, 1) := by decide +kernel
theorem dX9_passed_8 : decode cX9_passed 8 = .ok (.invokevirtual 134, 3) := by decide +kernel
theorem dX9_passed_11 : decode cX9_passed 11 = .ok (.iload_n 1, 1) := by decide +kernel
theorem dX9_passed_12 : decode cX9_passed 12 = .ok (.invokevirtual 165, 3) := by decide +kernel
theorem dX9_passed_15 : decode cX9_passed 15 = .ok (.ireturn, 1) := by decide +kernel
theorem dX9_next_0 : decode cX9_next 0 = .ok (.aload_n 0, 1) := by decide +kernel
theorem dX9_next_1 : decode cX9_next 1 = .ok (.iload_n 1, 1) := by decide +kernel
theorem dX9_next_2 : decode cX9_next 2 = .ok (.invokevirtual 142, 3) := by decide +kernel
theorem dX9_next_5 : decode cX9_next 5 = .ok (.astore_n 2, 1) := by decide +kernel
theorem dX9_next_6 : decode cX9_next 6 = .ok (.aload_n 2, 1) := by decide +kernel
theorem dX9_next_7 : decode cX9_next 7 = .ok (.invokevirtual 181, 3) := by decide +kernel
theorem dX9_next_10 : decode cX9_next 10 = .ok (.istore_n 3, 1) := by decide +kernel
theorem dX9_next_11 : decode cX9_next 11 = .ok (.iconst (-1), 1) := by decide +kernel
theorem dX9_next_12 : decode cX9_next 12 = .ok (.istore 4, 2) := by decide +kernel
theorem dX9_next_14 : decode cX9_next 14 = .ok (.iconst (-1), 1) := by decide +kernel
theorem dX9_next_15 : decode cX9_next 15 = .ok (.istore 5, 2) := by decide +kernel
theorem dX9_next_17 : decode cX9_next 17 = .ok (.iconst 0, 1) := by decide +kernel
theorem dX9_next_18 : decode cX9_next 18 = .ok (.istore 6, 2) := by decide +kernel
theorem dX9_next_20 : decode cX9_next 20 = .ok (.iload 6, 2) := by decide +kernel
theorem dX9_next_22 : decode cX9_next 22 = .ok (.aload_n 0, 1) := by decide +kernel
theorem dX9_next_23 : decode cX9_next 23 = .ok (.getfield 124, 3) := by decide +kernel
theorem dX9_next_26 : decode cX9_next 26 = .ok (.if_icmp .ge 70, 3) := by decide +kernel
theorem dX9_next_29 : decode cX9_next 29 = .ok (.aload_n 0, 1) := by decide +kernel
theorem dX9_next_30 : decode cX9_next 30 = .ok (.getfield 46, 3) := by decide +kernel
theorem dX9_next_33 : decode cX9_next 33 = .ok (.iload 6, 2) := by decide +kernel
theorem dX9_next_35 : decode cX9_next 35 = .ok (.aaload, 1) := by decide +kernel
theorem dX9_next_36 : decode cX9_next 36 = .ok (.astore 7, 2) := by decide +kernel
theorem dX9_next_38 : decode cX9_next 38 = .ok (.aload 7, 2) := by decide +kernel
theorem dX9_next_40 : decode cX9_next 40 = .ok (.getfield 146, 3) := by decide +kernel
theorem dX9_next_43 : decode cX9_next 43 = .ok (.ifCond .le 47, 3) := by decide +kernel
theorem dX9_next_46 : decode cX9_next 46 = .ok (.aload 7, 2) := by decide +kernel
theorem dX9_next_48 : decode cX9_next 48 = .ok (.iload_n 1, 1) := by decide +kernel
theorem dX9_next_49 : decode cX9_next 49 = .ok (.invokevirtual 165, 3) := by decide +kernel
theorem dX9_next_52 : decode cX9_next 52 = .ok (.ifCond .ne 38, 3) := by decide +kernel
theorem dX9_next_55 : decode cX9_next 55 = .ok (.aload 7, 2) := by decide +kernel
theorem dX9_next_57 : decode cX9_next 57 = .ok (.iload_n 3, 1) := by decide +kernel
theorem dX9_next_58 : decode cX9_next 58 = .ok (.invokevirtual 184, 3) := by decide +kernel
theorem dX9_next_61 : decode cX9_next 61 = .ok (.ifCond .eq 29, 3) := by decide +kernel
theorem dX9_next_64 : decode cX9_next 64 = .ok (.aload_n 2, 1) := by decide +kernel
theorem dX9_next_65 : decode cX9_next 65 = .ok (.aload 7, 2) := by decide +kernel
theorem dX9_next_67 : decode cX9_next 67 = .ok (.getfield 187, 3) := by decide +kernel
theorem dX9_next_70 : decode cX9_next 70 = .ok (.invokevirtual 190, 3) := by decide +kernel
theorem dX9_next_73 : decode cX9_next 73 = .ok (.istore 8, 2) := by decide +kernel
theorem dX9_next_75 : decode cX9_next 75 = .ok (.iload 8, 2) := by decide +kernel
theorem dX9_next_77 : decode cX9_next 77 = .ok (.iload 5, 2) := by decide +kernel
theorem dX9_next_79 : decode cX9_next 79 = .ok (.if_icmp .le 11, 3) := by decide +kernel
theorem dX9_next_82 : decode cX9_next 82 = .ok (.iload 6, 2) := by decide +kernel
theorem dX9_next_84 : decode cX9_next 84 = .ok (.istore 4, 2) := by decide +kernel
theorem dX9_next_86 : decode cX9_next 86 = .ok (.iload 8, 2) := by decide +kernel
theorem dX9_next_88 : decode cX9_next 88 = .ok (.istore 5, 2) := by decide +kernel
theorem dX9_next_90 : decode cX9_next 90 = .ok (.iinc 6 1, 3) := by decide +kernel
theorem dX9_next_93 : decode cX9_next 93 = .ok (.goto (-73), 3) := by decide +kernel
theorem dX9_next_96 : decode cX9_next 96 = .ok (.iload 4, 2) := by decide +kernel
theorem dX9_next_98 : decode cX9_next 98 = .ok (.ireturn, 1) := by decide +kernel
theorem dX9_wish_0 : decode cX9_wish 0 = .ok (.aload_n 0, 1) := by decide +kernel
theorem dX9_wish_1 : decode cX9_wish 1 = .ok (.iload_n 1, 1) := by decide +kernel
theorem dX9_wish_2 : decode cX9_wish 2 = .ok (.invokevirtual 142, 3) := by decide +kernel
theorem dX9_wish_5 : decode cX9_wish 5 = .ok (.astore_n 3, 1) := by decide +kernel
theorem dX9_wish_6 : decode cX9_wish 6 = .ok (.iload_n 2, 1) := by decide +kernel
theorem dX9_wish_7 : decode cX9_wish 7 = .ok (.invokestatic 175, 3) := by decide +kernel
theorem dX9_wish_10 : decode cX9_wish 10 = .ok (.aload_n 0, 1) := by decide +kernel
theorem dX9_wish_11 : decode cX9_wish 11 = .ok (.getfield 40, 3) := by decide +kernel
theorem dX9_wish_14 : decode cX9_wish 14 = .ok (.aload_n 0, 1) := by decide +kernel
theorem dX9_wish_15 : decode cX9_wish 15 = .ok (.getfield 46, 3) := by decide +kernel
theorem dX9_wish_18 : decode cX9_wish 18 = .ok (.aload_n 0, 1) := by decide +kernel
theorem dX9_wish_19 : decode cX9_wish 19 = .ok (.getfield 124, 3) := by decide +kernel
theorem dX9_wish_22 : decode cX9_wish 22 = .ok (.aload_n 3, 1) := by decide +kernel
theorem dX9_wish_23 : decode cX9_wish 23 = .ok (.invokevirtual 181, 3) := by decide +kernel
theorem dX9_wish_26 : decode cX9_wish 26 = .ok (.iconst 1, 1) := by decide +kernel
theorem dX9_wish_27 : decode cX9_wish 27 = .ok (.iload_n 2, 1) := by decide +kernel
theorem dX9_wish_28 : decode cX9_wish 28 = .ok (.ishl, 1) := by decide +kernel
theorem dX9_wish_29 : decode cX9_wish 29 = .ok (.invokevirtual 194, 3) := by decide +kernel
theorem dX9_wish_32 : decode cX9_wish 32 = .ok (.ireturn, 1) := by decide +kernel
theorem dX9_look_0 : decode cX9_look 0 = .ok (.aload_n 0, 1) := by decide +kernel
