theorem dL_read_0 : decode cL_read 0 = .ok (.aload_n 1, 1) := by decide +kernel
theorem dL_read_1 : decode cL_read 1 = .ok (.iconst 0, 1) := by decide +kernel
theorem dL_read_2 : decode cL_read 2 = .ok (.aload_n 0, 1) := by decide +kernel
theorem dL_read_3 : decode cL_read 3 = .ok (.invokevirtual 7, 3) := by decide +kernel
theorem dL_read_6 : decode cL_read 6 = .ok (.i2l, 1) := by decide +kernel
theorem dL_read_7 : decode cL_read 7 = .ok (.lastore, 1) := by decide +kernel
theorem dL_read_8 : decode cL_read 8 = .ok (.goto 6, 3) := by decide +kernel
theorem dL_read_11 : decode cL_read 11 = .ok (.astore_n 2, 1) := by decide +kernel
theorem dL_read_12 : decode cL_read 12 = .ok (.iconst 1, 1) := by decide +kernel
theorem dL_read_13 : decode cL_read 13 = .ok (.ireturn, 1) := by decide +kernel
theorem dL_read_14 : decode cL_read 14 = .ok (.iconst 0, 1) := by decide +kernel
theorem dL_read_15 : decode cL_read 15 = .ok (.ireturn, 1) := by decide +kernel
theorem dL_run_0 : decode cL_run 0 = .ok (.aload 4, 2) := by decide +kernel
theorem dL_run_2 : decode cL_run 2 = .ok (.iconst 0, 1) := by decide +kernel
theorem dL_run_3 : decode cL_run 3 = .ok (.aload_n 0, 1) := by decide +kernel
theorem dL_run_4 : decode cL_run 4 = .ok (.iload_n 1, 1) := by decide +kernel
theorem dL_run_5 : decode cL_run 5 = .ok (.iload_n 2, 1) := by decide +kernel
theorem dL_run_6 : decode cL_run 6 = .ok (.iload_n 3, 1) := by decide +kernel
theorem dL_run_7 : decode cL_run 7 = .ok (.invokevirtual 15, 3) := by decide +kernel
theorem dL_run_10 : decode cL_run 10 = .ok (.i2l, 1) := by decide +kernel
theorem dL_run_11 : decode cL_run 11 = .ok (.lastore, 1) := by decide +kernel
theorem dL_run_12 : decode cL_run 12 = .ok (.goto 11, 3) := by decide +kernel
theorem dL_run_15 : decode cL_run 15 = .ok (.astore 5, 2) := by decide +kernel
theorem dL_run_17 : decode cL_run 17 = .ok (.iconst 1, 1) := by decide +kernel
theorem dL_run_18 : decode cL_run 18 = .ok (.ireturn, 1) := by decide +kernel
theorem dL_run_19 : decode cL_run 19 = .ok (.astore 5, 2) := by decide +kernel
theorem dL_run_21 : decode cL_run 21 = .ok (.iconst 2, 1) := by decide +kernel
theorem dL_run_22 : decode cL_run 22 = .ok (.ireturn, 1) := by decide +kernel
theorem dL_run_23 : decode cL_run 23 = .ok (.iconst 0, 1) := by decide +kernel
theorem dL_run_24 : decode cL_run 24 = .ok (.ireturn, 1) := by decide +kernel
theorem dL_task_0 : decode cL_task 0 = .ok (.aload_n 3, 1) := by decide +kernel
theorem dL_task_1 : decode cL_task 1 = .ok (.iconst 0, 1) := by decide +kernel
theorem dL_task_2 : decode cL_task 2 = .ok (.aload_n 0, 1) := by decide +kernel
theorem dL_task_3 : decode cL_task 3 = .ok (.iload_n 1, 1) := by decide +kernel
theorem dL_task_4 : decode cL_task 4 = .ok (.iload_n 2, 1) := by decide +kernel
theorem dL_task_5 : decode cL_task 5 = .ok (.invokevirtual 23, 3) := by decide +kernel
theorem dL_task_8 : decode cL_task 8 = .ok (.i2l, 1) := by decide +kernel
theorem dL_task_9 : decode cL_task 9 = .ok (.lastore, 1) := by decide +kernel
theorem dL_task_10 : decode cL_task 10 = .ok (.goto 11, 3) := by decide +kernel
theorem dL_task_13 : decode cL_task 13 = .ok (.astore 4, 2) := by decide +kernel
theorem dL_task_15 : decode cL_task 15 = .ok (.iconst 1, 1) := by decide +kernel
theorem dL_task_16 : decode cL_task 16 = .ok (.ireturn, 1) := by decide +kernel
theorem dL_task_17 : decode cL_task 17 = .ok (.astore 4, 2) := by decide +kernel
theorem dL_task_19 : decode cL_task 19 = .ok (.iconst 2, 1) := by decide +kernel
theorem dL_task_20 : decode cL_task 20 = .ok (.ireturn, 1) := by decide +kernel
theorem dL_task_21 : decode cL_task 21 = .ok (.iconst 0, 1) := by decide +kernel
theorem dL_task_22 : decode cL_task 22 = .ok (.ireturn, 1) := by decide +kernel
theorem dL_world_0 : decode cL_world 0 = .ok (.aload 5, 2) := by decide +kernel
theorem dL_world_2 : decode cL_world 2 = .ok (.iconst 0, 1) := by decide +kernel
theorem dL_world_3 : decode cL_world 3 = .ok (.aload_n 0, 1) := by decide +kernel
theorem dL_world_4 : decode cL_world 4 = .ok (.iload_n 1, 1) := by decide +kernel
theorem dL_world_5 : decode cL_world 5 = .ok (.iload_n 2, 1) := by decide +kernel
theorem dL_world_6 : decode cL_world 6 = .ok (.iload_n 3, 1) := by decide +kernel
theorem dL_world_7 : decode cL_world 7 = .ok (.iload 4, 2) := by decide +kernel
theorem dL_world_9 : decode cL_world 9 = .ok (.invokevirtual 29, 3) := by decide +kernel
theorem dL_world_12 : decode cL_world 12 = .ok (.i2l, 1) := by decide +kernel
theorem dL_world_13 : decode cL_world 13 = .ok (.lastore, 1) := by decide +kernel
theorem dL_world_14 : decode cL_world 14 = .ok (.goto 7, 3) := by decide +kernel
theorem dL_world_17 : decode cL_world 17 = .ok (.astore 6, 2) := by decide +kernel
theorem dL_world_19 : decode cL_world 19 = .ok (.iconst 1, 1) := by decide +kernel
theorem dL_world_20 : decode cL_world 20 = .ok (.ireturn, 1) := by decide +kernel
theorem dL_world_21 : decode cL_world 21 = .ok (.iconst 0, 1) := by decide +kernel
theorem dL_world_22 : decode cL_world 22 = .ok (.ireturn, 1) := by decide +kernel
theorem dL_attempt_0 : decode cL_attempt 0 = .ok (.aload 4, 2) := by decide +kernel
theorem dL_attempt_2 : decode cL_attempt 2 = .ok (.iconst 0, 1) := by decide +kernel
theorem dL_attempt_3 : decode cL_attempt 3 = .ok (.aload_n 0, 1) := by decide +kernel
theorem dL_attempt_4 : decode cL_attempt 4 = .ok (.iload_n 1, 1) := by decide +kernel
theorem dL_attempt_5 : decode cL_attempt 5 = .ok (.iload_n 2, 1) := by decide +kernel
theorem dL_attempt_6 : decode cL_attempt 6 = .ok (.iload_n 3, 1) := by decide +kernel
theorem dL_attempt_7 : decode cL_attempt 7 = .ok (.invokevirtual 35, 3) := by decide +kernel
theorem dL_attempt_10 : decode cL_attempt 10 = .ok (.i2l, 1) := by decide +kernel
theorem dL_attempt_11 : decode cL_attempt 11 = .ok (.lastore, 1) := by decide +kernel
theorem dL_attempt_12 : decode cL_attempt 12 = .ok (.goto 11, 3) := by decide +kernel
theorem dL_attempt_15 : decode cL_attempt 15 = .ok (.astore 5, 2) := by decide +kernel
theorem dL_attempt_17 : decode cL_attempt 17 = .ok (.iconst 1, 1) := by decide +kernel
theorem dL_attempt_18 : decode cL_attempt 18 = .ok (.ireturn, 1) := by decide +kernel
theorem dL_attempt_19 : decode cL_attempt 19 = .ok (.astore 5, 2) := by decide +kernel
theorem dL_attempt_21 : decode cL_attempt 21 = .ok (.iconst 2, 1) := by decide +kernel
theorem dL_attempt_22 : decode cL_attempt 22 = .ok (.ireturn, 1) := by decide +kernel
theorem dL_attempt_23 : decode cL_attempt 23 = .ok (.iconst 0, 1) := by decide +kernel
theorem dL_attempt_24 : decode cL_attempt 24 = .ok (.ireturn, 1) := by decide +kernel
theorem dL_can_0 : decode cL_can 0 = .ok (.aload_n 3, 1) := by decide +kernel
theorem dL_can_1 : decode cL_can 1 = .ok (.iconst 0, 1) := by decide +kernel
theorem dL_can_2 : decode cL_can 2 = .ok (.aload_n 0, 1) := by decide +kernel
theorem dL_can_3 : decode cL_can 3 = .ok (.iload_n 1, 1) := by decide +kernel
theorem dL_can_4 : decode cL_can 4 = .ok (.iload_n 2, 1) := by decide +kernel
theorem dL_can_5 : decode cL_can 5 = .ok (.invokevirtual 39, 3) := by decide +kernel
theorem dL_can_8 : decode cL_can 8 = .ok (.i2l, 1) := by decide +kernel
theorem dL_can_9 : decode cL_can 9 = .ok (.lastore, 1) := by decide +kernel
theorem dL_can_10 : decode cL_can 10 = .ok (.goto 7, 3) := by decide +kernel
theorem dL_can_13 : decode cL_can 13 = .ok (.astore 4, 2) := by decide +kernel
theorem dL_can_15 : decode cL_can 15 = .ok (.iconst 1, 1) := by decide +kernel
theorem dL_can_16 : decode cL_can 16 = .ok (.ireturn, 1) := by decide +kernel
theorem dL_can_17 : decode cL_can 17 = .ok (.iconst 0, 1) := by decide +kernel
theorem dL_can_18 : decode cL_can 18 = .ok (.ireturn, 1) := by decide +kernel
theorem dL_passed_0 : decode cL_passed 0 = .ok (.aload_n 3, 1) := by decide +kernel
theorem dL_passed_1 : decode cL_passed 1 = .ok (.iconst 0, 1) := by decide +kernel
theorem dL_passed_2 : decode cL_passed 2 = .ok (.aload_n 0, 1) := by decide +kernel
theorem dL_passed_3 : decode cL_passed 3 = .ok (.iload_n 1, 1) := by decide +kernel
theorem dL_passed_4 : decode cL_passed 4 = .ok (.iload_n 2, 1) := by decide +kernel
theorem dL_passed_5 : decode cL_passed 5 = .ok (.invokevirtual 42, 3) := by decide +kernel
theorem dL_passed_8 : decode cL_passed 8 = .ok (.ifCond .eq 7, 3) := by decide +kernel
theorem dL_passed_11 : decode cL_passed 11 = .ok (.lconst 1, 1) := by decide +kernel
theorem dL_passed_12 : decode cL_passed 12 = .ok (.goto 4, 3) := by decide +kernel
theorem dL_passed_15 : decode cL_passed 15 = .ok (.lconst 0, 1) := by decide +kernel
theorem dL_passed_16 : decode cL_passed 16 = .ok (.lastore, 1) := by decide +kernel
theorem dL_passed_17 : decode cL_passed 17 = .ok (.goto 7, 3) := by decide +kernel
theorem dL_passed_20 : decode cL_passed 20 = .ok (.astore 4, 2) := by decide +kernel
theorem dL_passed_22 : decode cL_passed 22 = .ok (.iconst 1, 1) := by decide +kernel
theorem dL_passed_23 : decode cL_passed 23 = .ok (.ireturn, 1) := by decide +kernel
theorem dL_passed_24 : decode cL_passed 24 = .ok (.iconst 0, 1) := by decide +kernel
theorem dL_passed_25 : decode cL_passed 25 = .ok (.ireturn, 1) := by decide +kernel
theorem dL_next_0 : decode cL_next 0 = .ok (.aload_n 2, 1) := by decide +kernel
theorem dL_next_1 : decode cL_next 1 = .ok (.iconst 0, 1) := by decide +kernel
theorem dL_next_2 : decode cL_next 2 = .ok (.aload_n 0, 1) := by decide +kernel
theorem dL_next_3 : decode cL_next 3 = .ok (.iload_n 1, 1) := by decide +kernel
theorem dL_next_4 : decode cL_next 4 = .ok (.invokevirtual 46, 3) := by decide +kernel
theorem dL_next_7 : decode cL_next 7 = .ok (.i2l, 1) := by decide +kernel
theorem dL_next_8 : decode cL_next 8 = .ok (.lastore, 1) := by decide +kernel
theorem dL_next_9 : decode cL_next 9 = .ok (.goto 6, 3) := by decide +kernel
theorem dL_next_12 : decode cL_next 12 = .ok (.astore_n 3, 1) := by decide +kernel
theorem dL_next_13 : decode cL_next 13 = .ok (.iconst 1, 1) := by decide +kernel
theorem dL_next_14 : decode cL_next 14 = .ok (.ireturn, 1) := by decide +kernel
theorem dL_next_15 : decode cL_next 15 = .ok (.iconst 0, 1) := by decide +kernel
theorem dL_next_16 : decode cL_next 16 = .ok (.ireturn, 1) := by decide +kernel
theorem dL_wish_0 : decode cL_wish 0 = .ok (.aload_n 3, 1) := by decide +kernel
theorem dL_wish_1 : decode cL_wish 1 = .ok (.iconst 0, 1) := by decide +kernel
theorem dL_wish_2 : decode cL_wish 2 = .ok (.aload_n 0, 1) := by decide +kernel
theorem dL_wish_3 : decode cL_wish 3 = .ok (.iload_n 1, 1) := by decide +kernel
theorem dL_wish_4 : decode cL_wish 4 = .ok (.iload_n 2, 1) := by decide +kernel
theorem dL_wish_5 : decode cL_wish 5 = .ok (.invokevirtual 50, 3) := by decide +kernel
theorem dL_wish_8 : decode cL_wish 8 = .ok (.i2l, 1) := by decide +kernel
theorem dL_wish_9 : decode cL_wish 9 = .ok (.lastore, 1) := by decide +kernel
theorem dL_wish_10 : decode cL_wish 10 = .ok (.goto 7, 3) := by decide +kernel
theorem dL_wish_13 : decode cL_wish 13 = .ok (.astore 4, 2) := by decide +kernel
theorem dL_wish_15 : decode cL_wish 15 = .ok (.iconst 1, 1) := by decide +kernel
theorem dL_wish_16 : decode cL_wish 16 = .ok (.ireturn, 1) := by decide +kernel
theorem dL_wish_17 : decode cL_wish 17 = .ok (.iconst 0, 1) := by decide +kernel
theorem dL_wish_18 : decode cL_wish 18 = .ok (.ireturn, 1) := by decide +kernel
theorem dL_look_0 : decode cL_look 0 = .ok (.aload_n 3, 1) := by decide +kernel
theorem dL_look_1 : decode cL_look 1 = .ok (.iconst 0, 1) := by decide +kernel
theorem dL_look_2 : decode cL_look 2 = .ok (.aload_n 0, 1) := by decide +kernel
theorem dL_look_3 : decode cL_look 3 = .ok (.iload_n 1, 1) := by decide +kernel
theorem dL_look_4 : decode cL_look 4 = .ok (.iload_n 2, 1) := by decide +kernel
theorem dL_look_5 : decode cL_look 5 = .ok (.invokevirtual 53, 3) := by decide +kernel
theorem dL_look_8 : decode cL_look 8 = .ok (.i2l, 1) := by decide +kernel
theorem dL_look_9 : decode cL_look 9 = .ok (.lastore, 1) := by decide +kernel
theorem dL_look_10 : decode cL_look 10 = .ok (.goto 11, 3) := by decide +kernel
theorem dL_look_13 : decode cL_look 13 = .ok (.astore 4, 2) := by decide +kernel
theorem dL_look_15 : decode cL_look 15 = .ok (.iconst 1, 1) := by decide +kernel
theorem dL_look_16 : decode cL_look 16 = .ok (.ireturn, 1) := by decide +kernel
theorem dL_look_17 : decode cL_look 17 = .ok (.astore 4, 2) := by decide +kernel
theorem dL_look_19 : decode cL_look 19 = .ok (.iconst 2, 1) := by decide +kernel
theorem dL_look_20 : decode cL_look 20 = .ok (.ireturn, 1) := by decide +kernel
theorem dL_look_21 : decode cL_look 21 = .ok (.iconst 0, 1) := by decide +kernel
theorem dL_look_22 : decode cL_look 22 = .ok (.ireturn, 1) := by decide +kernel
theorem dL_hint_0 : decode cL_hint 0 = .ok (.aload_n 3, 1) := by decide +kernel
theorem dL_hint_1 : decode cL_hint 1 = .ok (.iconst 0, 1) := by decide +kernel
theorem dL_hint_2 : decode cL_hint 2 = .ok (.aload_n 0, 1) := by decide +kernel
theorem dL_hint_3 : decode cL_hint 3 = .ok (.iload_n 1, 1) := by decide +kernel
theorem dL_hint_4 : decode cL_hint 4 = .ok (.iload_n 2, 1) := by decide +kernel
theorem dL_hint_5 : decode cL_hint 5 = .ok (.invokevirtual 56, 3) := by decide +kernel
theorem dL_hint_8 : decode cL_hint 8 = .ok (.i2l, 1) := by decide +kernel
theorem dL_hint_9 : decode cL_hint 9 = .ok (.lastore, 1) := by decide +kernel
theorem dL_hint_10 : decode cL_hint 10 = .ok (.goto 15, 3) := by decide +kernel
theorem dL_hint_13 : decode cL_hint 13 = .ok (.astore 4, 2) := by decide +kernel
theorem dL_hint_15 : decode cL_hint 15 = .ok (.iconst 1, 1) := by decide +kernel
theorem dL_hint_16 : decode cL_hint 16 = .ok (.ireturn, 1) := by decide +kernel
theorem dL_hint_17 : decode cL_hint 17 = .ok (.astore 4, 2) := by decide +kernel
theorem dL_hint_19 : decode cL_hint 19 = .ok (.iconst 2, 1) := by decide +kernel
theorem dL_hint_20 : decode cL_hint 20 = .ok (.ireturn, 1) := by decide +kernel
theorem dL_hint_21 : decode cL_hint 21 = .ok (.astore 4, 2) := by decide +kernel
theorem dL_hint_23 : decode cL_hint 23 = .ok (.iconst 3, 1) := by decide +kernel
theorem dL_hint_24 : decode cL_hint 24 = .ok (.ireturn, 1) := by decide +kernel
theorem dL_hint_25 : decode cL_hint 25 = .ok (.iconst 0, 1) := by decide +kernel
theorem dL_hint_26 : decode cL_hint 26 = .ok (.ireturn, 1) := by decide +kernel
theorem dL_alike_0 : decode cL_alike 0 = .ok (.aload 5, 2) := by decide +kernel
theorem dL_alike_2 : decode cL_alike 2 = .ok (.iconst 0, 1) := by decide +kernel
theorem dL_alike_3 : decode cL_alike 3 = .ok (.aload_n 0, 1) := by decide +kernel
theorem dL_alike_4 : decode cL_alike 4 = .ok (.iload_n 1, 1) := by decide +kernel
theorem dL_alike_5 : decode cL_alike 5 = .ok (.iload_n 2, 1) := by decide +kernel
theorem dL_alike_6 : decode cL_alike 6 = .ok (.iload_n 3, 1) := by decide +kernel
theorem dL_alike_7 : decode cL_alike 7 = .ok (.iload 4, 2) := by decide +kernel
theorem dL_alike_9 : decode cL_alike 9 = .ok (.invokevirtual 59, 3) := by decide +kernel
theorem dL_alike_12 : decode cL_alike 12 = .ok (.ifCond .eq 7, 3) := by decide +kernel
theorem dL_alike_15 : decode cL_alike 15 = .ok (.lconst 1, 1) := by decide +kernel
theorem dL_alike_16 : decode cL_alike 16 = .ok (.goto 4, 3) := by decide +kernel
theorem dL_alike_19 : decode cL_alike 19 = .ok (.lconst 0, 1) := by decide +kernel
theorem dL_alike_20 : decode cL_alike 20 = .ok (.lastore, 1) := by decide +kernel
theorem dL_alike_21 : decode cL_alike 21 = .ok (.goto 7, 3) := by decide +kernel
theorem dL_alike_24 : decode cL_alike 24 = .ok (.astore 6, 2) := by decide +kernel
theorem dL_alike_26 : decode cL_alike 26 = .ok (.iconst 1, 1) := by decide +kernel
theorem dL_alike_27 : decode cL_alike 27 = .ok (.ireturn, 1) := by decide +kernel
theorem dL_alike_28 : decode cL_alike 28 = .ok (.iconst 0, 1) := by decide +kernel
theorem dL_alike_29 : decode cL_alike 29 = .ok (.ireturn, 1) := by decide +kernel
theorem dL_law_0 : decode cL_law 0 = .ok (.new 8, 3) := by decide +kernel
theorem dL_law_3 : decode cL_law 3 = .ok (.dup, 1) := by decide +kernel
theorem dL_law_4 : decode cL_law 4 = .ok (.invokespecial 63, 3) := by decide +kernel
theorem dL_law_7 : decode cL_law 7 = .ok (.astore_n 1, 1) := by decide +kernel
theorem dL_law_8 : decode cL_law 8 = .ok (.new 64, 3) := by decide +kernel
theorem dL_law_11 : decode cL_law 11 = .ok (.dup, 1) := by decide +kernel
theorem dL_law_12 : decode cL_law 12 = .ok (.invokespecial 66, 3) := by decide +kernel
theorem dL_law_15 : decode cL_law 15 = .ok (.astore_n 2, 1) := by decide +kernel
theorem dL_law_16 : decode cL_law 16 = .ok (.iconst 1, 1) := by decide +kernel
theorem dL_law_17 : decode cL_law 17 = .ok (.newarray .long, 2) := by decide +kernel
theorem dL_law_19 : decode cL_law 19 = .ok (.astore_n 3, 1) := by decide +kernel
theorem dL_law_20 : decode cL_law 20 = .ok (.iconst 0, 1) := by decide +kernel
theorem dL_law_21 : decode cL_law 21 = .ok (.istore 4, 2) := by decide +kernel
theorem dL_law_23 : decode cL_law 23 = .ok (.iload 4, 2) := by decide +kernel
theorem dL_law_25 : decode cL_law 25 = .ok (.aload_n 0, 1) := by decide +kernel
theorem dL_law_26 : decode cL_law 26 = .ok (.arraylength, 1) := by decide +kernel
theorem dL_law_27 : decode cL_law 27 = .ok (.bipush 6, 2) := by decide +kernel
theorem dL_law_29 : decode cL_law 29 = .ok (.isub, 1) := by decide +kernel
theorem dL_law_30 : decode cL_law 30 = .ok (.if_icmp .gt 1143, 3) := by decide +kernel
theorem dL_law_33 : decode cL_law 33 = .ok (.aload_n 0, 1) := by decide +kernel
theorem dL_law_34 : decode cL_law 34 = .ok (.iload 4, 2) := by decide +kernel
theorem dL_law_36 : decode cL_law 36 = .ok (.iaload, 1) := by decide +kernel
theorem dL_law_37 : decode cL_law 37 = .ok (.bipush 31, 2) := by decide +kernel
theorem dL_law_39 : decode cL_law 39 = .ok (.iand, 1) := by decide +kernel
theorem dL_law_40 : decode cL_law 40 = .ok (.tableswitch 1127 0 16 #[84, 157, 182, 226, 239, 319, 387, 479, 575, 643, 718, 774, 842, 910, 978, 1077, 1102], 84) := by decide +kernel
theorem dL_law_124 : decode cL_law 124 = .ok (.aload_n 1, 1) := by decide +kernel
theorem dL_law_125 : decode cL_law 125 = .ok (.aload_n 0, 1) := by decide +kernel
theorem dL_law_126 : decode cL_law 126 = .ok (.iload 4, 2) := by decide +kernel
theorem dL_law_128 : decode cL_law 128 = .ok (.iconst 1, 1) := by decide +kernel
theorem dL_law_129 : decode cL_law 129 = .ok (.iadd, 1) := by decide +kernel
theorem dL_law_130 : decode cL_law 130 = .ok (.iaload, 1) := by decide +kernel
theorem dL_law_131 : decode cL_law 131 = .ok (.aload_n 0, 1) := by decide +kernel
theorem dL_law_132 : decode cL_law 132 = .ok (.iload 4, 2) := by decide +kernel
theorem dL_law_134 : decode cL_law 134 = .ok (.iconst 2, 1) := by decide +kernel
theorem dL_law_135 : decode cL_law 135 = .ok (.iadd, 1) := by decide +kernel
theorem dL_law_136 : decode cL_law 136 = .ok (.iaload, 1) := by decide +kernel
theorem dL_law_137 : decode cL_law 137 = .ok (.aload_n 0, 1) := by decide +kernel
theorem dL_law_138 : decode cL_law 138 = .ok (.iload 4, 2) := by decide +kernel
theorem dL_law_140 : decode cL_law 140 = .ok (.iconst 3, 1) := by decide +kernel
theorem dL_law_141 : decode cL_law 141 = .ok (.iadd, 1) := by decide +kernel
theorem dL_law_142 : decode cL_law 142 = .ok (.iaload, 1) := by decide +kernel
theorem dL_law_143 : decode cL_law 143 = .ok (.aload_n 0, 1) := by decide +kernel
theorem dL_law_144 : decode cL_law 144 = .ok (.iload 4, 2) := by decide +kernel
theorem dL_law_146 : decode cL_law 146 = .ok (.iconst 4, 1) := by decide +kernel
theorem dL_law_147 : decode cL_law 147 = .ok (.iadd, 1) := by decide +kernel
theorem dL_law_148 : decode cL_law 148 = .ok (.iaload, 1) := by decide +kernel
theorem dL_law_149 : decode cL_law 149 = .ok (.aload_n 0, 1) := by decide +kernel
theorem dL_law_150 : decode cL_law 150 = .ok (.iload 4, 2) := by decide +kernel
theorem dL_law_152 : decode cL_law 152 = .ok (.iconst 5, 1) := by decide +kernel
theorem dL_law_153 : decode cL_law 153 = .ok (.iadd, 1) := by decide +kernel
theorem dL_law_154 : decode cL_law 154 = .ok (.iaload, 1) := by decide +kernel
theorem dL_law_155 : decode cL_law 155 = .ok (.invokevirtual 67, 3) := by decide +kernel
theorem dL_law_158 : decode cL_law 158 = .ok (.aload_n 2, 1) := by decide +kernel
theorem dL_law_159 : decode cL_law 159 = .ok (.aload_n 0, 1) := by decide +kernel
theorem dL_law_160 : decode cL_law 160 = .ok (.iload 4, 2) := by decide +kernel
theorem dL_law_162 : decode cL_law 162 = .ok (.iconst 1, 1) := by decide +kernel
theorem dL_law_163 : decode cL_law 163 = .ok (.iadd, 1) := by decide +kernel
theorem dL_law_164 : decode cL_law 164 = .ok (.iaload, 1) := by decide +kernel
theorem dL_law_165 : decode cL_law 165 = .ok (.aload_n 0, 1) := by decide +kernel
theorem dL_law_166 : decode cL_law 166 = .ok (.iload 4, 2) := by decide +kernel
theorem dL_law_168 : decode cL_law 168 = .ok (.iconst 2, 1) := by decide +kernel
theorem dL_law_169 : decode cL_law 169 = .ok (.iadd, 1) := by decide +kernel
theorem dL_law_170 : decode cL_law 170 = .ok (.iaload, 1) := by decide +kernel
theorem dL_law_171 : decode cL_law 171 = .ok (.aload_n 0, 1) := by decide +kernel
theorem dL_law_172 : decode cL_law 172 = .ok (.iload 4, 2) := by decide +kernel
theorem dL_law_174 : decode cL_law 174 = .ok (.iconst 3, 1) := by decide +kernel
theorem dL_law_175 : decode cL_law 175 = .ok (.iadd, 1) := by decide +kernel
theorem dL_law_176 : decode cL_law 176 = .ok (.iaload, 1) := by decide +kernel
theorem dL_law_177 : decode cL_law 177 = .ok (.aload_n 0, 1) := by decide +kernel
theorem dL_law_178 : decode cL_law 178 = .ok (.iload 4, 2) := by decide +kernel
theorem dL_law_180 : decode cL_law 180 = .ok (.iconst 4, 1) := by decide +kernel
theorem dL_law_181 : decode cL_law 181 = .ok (.iadd, 1) := by decide +kernel
theorem dL_law_182 : decode cL_law 182 = .ok (.iaload, 1) := by decide +kernel
theorem dL_law_183 : decode cL_law 183 = .ok (.aload_n 0, 1) := by decide +kernel
theorem dL_law_184 : decode cL_law 184 = .ok (.iload 4, 2) := by decide +kernel
theorem dL_law_186 : decode cL_law 186 = .ok (.iconst 5, 1) := by decide +kernel
theorem dL_law_187 : decode cL_law 187 = .ok (.iadd, 1) := by decide +kernel
theorem dL_law_188 : decode cL_law 188 = .ok (.iaload, 1) := by decide +kernel
theorem dL_law_189 : decode cL_law 189 = .ok (.invokevirtual 71, 3) := by decide +kernel
theorem dL_law_192 : decode cL_law 192 = .ok (.if_icmp .eq 975, 3) := by decide +kernel
theorem dL_law_195 : decode cL_law 195 = .ok (.iconst 0, 1) := by decide +kernel
theorem dL_law_196 : decode cL_law 196 = .ok (.ireturn, 1) := by decide +kernel
theorem dL_law_197 : decode cL_law 197 = .ok (.aload_n 1, 1) := by decide +kernel
theorem dL_law_198 : decode cL_law 198 = .ok (.aload_n 0, 1) := by decide +kernel
theorem dL_law_199 : decode cL_law 199 = .ok (.iload 4, 2) := by decide +kernel
theorem dL_law_201 : decode cL_law 201 = .ok (.iconst 1, 1) := by decide +kernel
theorem dL_law_202 : decode cL_law 202 = .ok (.iadd, 1) := by decide +kernel
theorem dL_law_203 : decode cL_law 203 = .ok (.iaload, 1) := by decide +kernel
theorem dL_law_204 : decode cL_law 204 = .ok (.invokevirtual 72, 3) := by decide +kernel
theorem dL_law_207 : decode cL_law 207 = .ok (.aload_n 2, 1) := by decide +kernel
theorem dL_law_208 : decode cL_law 208 = .ok (.aload_n 0, 1) := by decide +kernel
theorem dL_law_209 : decode cL_law 209 = .ok (.iload 4, 2) := by decide +kernel
theorem dL_law_211 : decode cL_law 211 = .ok (.iconst 1, 1) := by decide +kernel
theorem dL_law_212 : decode cL_law 212 = .ok (.iadd, 1) := by decide +kernel
theorem dL_law_213 : decode cL_law 213 = .ok (.iaload, 1) := by decide +kernel
theorem dL_law_214 : decode cL_law 214 = .ok (.invokevirtual 76, 3) := by decide +kernel
theorem dL_law_217 : decode cL_law 217 = .ok (.if_icmp .eq 950, 3) := by decide +kernel
theorem dL_law_220 : decode cL_law 220 = .ok (.iconst 0, 1) := by decide +kernel
theorem dL_law_221 : decode cL_law 221 = .ok (.ireturn, 1) := by decide +kernel
theorem dL_law_222 : decode cL_law 222 = .ok (.aload_n 1, 1) := by decide +kernel
theorem dL_law_223 : decode cL_law 223 = .ok (.aload_n 3, 1) := by decide +kernel
theorem dL_law_224 : decode cL_law 224 = .ok (.invokestatic 77, 3) := by decide +kernel
theorem dL_law_227 : decode cL_law 227 = .ok (.istore 5, 2) := by decide +kernel
theorem dL_law_229 : decode cL_law 229 = .ok (.aload_n 2, 1) := by decide +kernel
theorem dL_law_230 : decode cL_law 230 = .ok (.invokevirtual 82, 3) := by decide +kernel
theorem dL_law_233 : decode cL_law 233 = .ok (.istore 6, 2) := by decide +kernel
theorem dL_law_235 : decode cL_law 235 = .ok (.aload_n 2, 1) := by decide +kernel
theorem dL_law_236 : decode cL_law 236 = .ok (.invokevirtual 83, 3) := by decide +kernel
theorem dL_law_239 : decode cL_law 239 = .ok (.iload 5, 2) := by decide +kernel
theorem dL_law_241 : decode cL_law 241 = .ok (.if_icmp .eq 5, 3) := by decide +kernel
theorem dL_law_244 : decode cL_law 244 = .ok (.iconst 0, 1) := by decide +kernel
theorem dL_law_245 : decode cL_law 245 = .ok (.ireturn, 1) := by decide +kernel
theorem dL_law_246 : decode cL_law 246 = .ok (.iload 5, 2) := by decide +kernel
theorem dL_law_248 : decode cL_law 248 = .ok (.ifCond .ne 15, 3) := by decide +kernel
theorem dL_law_251 : decode cL_law 251 = .ok (.aload_n 3, 1) := by decide +kernel
theorem dL_law_252 : decode cL_law 252 = .ok (.iconst 0, 1) := by decide +kernel
theorem dL_law_253 : decode cL_law 253 = .ok (.laload, 1) := by decide +kernel
theorem dL_law_254 : decode cL_law 254 = .ok (.iload 6, 2) := by decide +kernel
theorem dL_law_256 : decode cL_law 256 = .ok (.i2l, 1) := by decide +kernel
theorem dL_law_257 : decode cL_law 257 = .ok (.lcmp, 1) := by decide +kernel
theorem dL_law_258 : decode cL_law 258 = .ok (.ifCond .eq 5, 3) := by decide +kernel
theorem dL_law_261 : decode cL_law 261 = .ok (.iconst 0, 1) := by decide +kernel
theorem dL_law_262 : decode cL_law 262 = .ok (.ireturn, 1) := by decide +kernel
theorem dL_law_263 : decode cL_law 263 = .ok (.goto 904, 3) := by decide +kernel
theorem dL_law_266 : decode cL_law 266 = .ok (.aload_n 1, 1) := by decide +kernel
theorem dL_law_267 : decode cL_law 267 = .ok (.invokevirtual 86, 3) := by decide +kernel
theorem dL_law_270 : decode cL_law 270 = .ok (.aload_n 2, 1) := by decide +kernel
theorem dL_law_271 : decode cL_law 271 = .ok (.invokevirtual 89, 3) := by decide +kernel
theorem dL_law_274 : decode cL_law 274 = .ok (.if_icmp .eq 893, 3) := by decide +kernel
theorem dL_law_277 : decode cL_law 277 = .ok (.iconst 0, 1) := by decide +kernel
theorem dL_law_278 : decode cL_law 278 = .ok (.ireturn, 1) := by decide +kernel
theorem dL_law_279 : decode cL_law 279 = .ok (.aload_n 1, 1) := by decide +kernel
theorem dL_law_280 : decode cL_law 280 = .ok (.aload_n 0, 1) := by decide +kernel
theorem dL_law_281 : decode cL_law 281 = .ok (.iload 4, 2) := by decide +kernel
theorem dL_law_283 : decode cL_law 283 = .ok (.iconst 1, 1) := by decide +kernel
theorem dL_law_284 : decode cL_law 284 = .ok (.iadd, 1) := by decide +kernel
theorem dL_law_285 : decode cL_law 285 = .ok (.iaload, 1) := by decide +kernel
theorem dL_law_286 : decode cL_law 286 = .ok (.aload_n 0, 1) := by decide +kernel
theorem dL_law_287 : decode cL_law 287 = .ok (.iload 4, 2) := by decide +kernel
theorem dL_law_289 : decode cL_law 289 = .ok (.iconst 2, 1) := by decide +kernel
theorem dL_law_290 : decode cL_law 290 = .ok (.iadd, 1) := by decide +kernel
theorem dL_law_291 : decode cL_law 291 = .ok (.iaload, 1) := by decide +kernel
theorem dL_law_292 : decode cL_law 292 = .ok (.aload_n 0, 1) := by decide +kernel
theorem dL_law_293 : decode cL_law 293 = .ok (.iload 4, 2) := by decide +kernel
theorem dL_law_295 : decode cL_law 295 = .ok (.iconst 3, 1) := by decide +kernel
theorem dL_law_296 : decode cL_law 296 = .ok (.iadd, 1) := by decide +kernel
theorem dL_law_297 : decode cL_law 297 = .ok (.iaload, 1) := by decide +kernel
theorem dL_law_298 : decode cL_law 298 = .ok (.aload_n 3, 1) := by decide +kernel
theorem dL_law_299 : decode cL_law 299 = .ok (.invokestatic 90, 3) := by decide +kernel
theorem dL_law_302 : decode cL_law 302 = .ok (.istore 5, 2) := by decide +kernel
theorem dL_law_304 : decode cL_law 304 = .ok (.aload_n 2, 1) := by decide +kernel
theorem dL_law_305 : decode cL_law 305 = .ok (.aload_n 0, 1) := by decide +kernel
theorem dL_law_306 : decode cL_law 306 = .ok (.iload 4, 2) := by decide +kernel
theorem dL_law_308 : decode cL_law 308 = .ok (.iconst 1, 1) := by decide +kernel
theorem dL_law_309 : decode cL_law 309 = .ok (.iadd, 1) := by decide +kernel
theorem dL_law_310 : decode cL_law 310 = .ok (.iaload, 1) := by decide +kernel
theorem dL_law_311 : decode cL_law 311 = .ok (.aload_n 0, 1) := by decide +kernel
theorem dL_law_312 : decode cL_law 312 = .ok (.iload 4, 2) := by decide +kernel
theorem dL_law_314 : decode cL_law 314 = .ok (.iconst 2, 1) := by decide +kernel
theorem dL_law_315 : decode cL_law 315 = .ok (.iadd, 1) := by decide +kernel
theorem dL_law_316 : decode cL_law 316 = .ok (.iaload, 1) := by decide +kernel
theorem dL_law_317 : decode cL_law 317 = .ok (.aload_n 0, 1) := by decide +kernel
theorem dL_law_318 : decode cL_law 318 = .ok (.iload 4, 2) := by decide +kernel
theorem dL_law_320 : decode cL_law 320 = .ok (.iconst 3, 1) := by decide +kernel
theorem dL_law_321 : decode cL_law 321 = .ok (.iadd, 1) := by decide +kernel
theorem dL_law_322 : decode cL_law 322 = .ok (.iaload, 1) := by decide +kernel
theorem dL_law_323 : decode cL_law 323 = .ok (.invokevirtual 93, 3) := by decide +kernel
theorem dL_law_326 : decode cL_law 326 = .ok (.istore 6, 2) := by decide +kernel
theorem dL_law_328 : decode cL_law 328 = .ok (.aload_n 2, 1) := by decide +kernel
theorem dL_law_329 : decode cL_law 329 = .ok (.invokevirtual 83, 3) := by decide +kernel
theorem dL_law_332 : decode cL_law 332 = .ok (.iload 5, 2) := by decide +kernel
theorem dL_law_334 : decode cL_law 334 = .ok (.if_icmp .eq 5, 3) := by decide +kernel
theorem dL_law_337 : decode cL_law 337 = .ok (.iconst 0, 1) := by decide +kernel
theorem dL_law_338 : decode cL_law 338 = .ok (.ireturn, 1) := by decide +kernel
theorem dL_law_339 : decode cL_law 339 = .ok (.iload 5, 2) := by decide +kernel
theorem dL_law_341 : decode cL_law 341 = .ok (.ifCond .ne 15, 3) := by decide +kernel
theorem dL_law_344 : decode cL_law 344 = .ok (.aload_n 3, 1) := by decide +kernel
theorem dL_law_345 : decode cL_law 345 = .ok (.iconst 0, 1) := by decide +kernel
theorem dL_law_346 : decode cL_law 346 = .ok (.laload, 1) := by decide +kernel
theorem dL_law_347 : decode cL_law 347 = .ok (.iload 6, 2) := by decide +kernel
theorem dL_law_349 : decode cL_law 349 = .ok (.i2l, 1) := by decide +kernel
theorem dL_law_350 : decode cL_law 350 = .ok (.lcmp, 1) := by decide +kernel
theorem dL_law_351 : decode cL_law 351 = .ok (.ifCond .eq 5, 3) := by decide +kernel
theorem dL_law_354 : decode cL_law 354 = .ok (.iconst 0, 1) := by decide +kernel
theorem dL_law_355 : decode cL_law 355 = .ok (.ireturn, 1) := by decide +kernel
theorem dL_law_356 : decode cL_law 356 = .ok (.goto 811, 3) := by decide +kernel
theorem dL_law_359 : decode cL_law 359 = .ok (.aload_n 1, 1) := by decide +kernel
theorem dL_law_360 : decode cL_law 360 = .ok (.aload_n 0, 1) := by decide +kernel
theorem dL_law_361 : decode cL_law 361 = .ok (.iload 4, 2) := by decide +kernel
theorem dL_law_363 : decode cL_law 363 = .ok (.iconst 1, 1) := by decide +kernel
theorem dL_law_364 : decode cL_law 364 = .ok (.iadd, 1) := by decide +kernel
theorem dL_law_365 : decode cL_law 365 = .ok (.iaload, 1) := by decide +kernel
theorem dL_law_366 : decode cL_law 366 = .ok (.aload_n 0, 1) := by decide +kernel
theorem dL_law_367 : decode cL_law 367 = .ok (.iload 4, 2) := by decide +kernel
theorem dL_law_369 : decode cL_law 369 = .ok (.iconst 2, 1) := by decide +kernel
theorem dL_law_370 : decode cL_law 370 = .ok (.iadd, 1) := by decide +kernel
theorem dL_law_371 : decode cL_law 371 = .ok (.iaload, 1) := by decide +kernel
theorem dL_law_372 : decode cL_law 372 = .ok (.aload_n 3, 1) := by decide +kernel
theorem dL_law_373 : decode cL_law 373 = .ok (.invokestatic 94, 3) := by decide +kernel
theorem dL_law_376 : decode cL_law 376 = .ok (.istore 5, 2) := by decide +kernel
theorem dL_law_378 : decode cL_law 378 = .ok (.aload_n 2, 1) := by decide +kernel
theorem dL_law_379 : decode cL_law 379 = .ok (.aload_n 0, 1) := by decide +kernel
theorem dL_law_380 : decode cL_law 380 = .ok (.iload 4, 2) := by decide +kernel
theorem dL_law_382 : decode cL_law 382 = .ok (.iconst 1, 1) := by decide +kernel
theorem dL_law_383 : decode cL_law 383 = .ok (.iadd, 1) := by decide +kernel
