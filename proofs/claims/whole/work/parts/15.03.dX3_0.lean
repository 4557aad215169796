theorem dX3_init_0 : decode cX3_init 0 = .ok (.aload_n 0, 1) := by decide +kernel
theorem dX3_init_1 : decode cX3_init 1 = .ok (.invokespecial 3, 3) := by decide +kernel
theorem dX3_init_4 : decode cX3_init 4 = .ok (.aload_n 0, 1) := by decide +kernel
theorem dX3_init_5 : decode cX3_init 5 = .ok (.new 9, 3) := by decide +kernel
theorem dX3_init_8 : decode cX3_init 8 = .ok (.dup, 1) := by decide +kernel
theorem dX3_init_9 : decode cX3_init 9 = .ok (.invokespecial 11, 3) := by decide +kernel
theorem dX3_init_12 : decode cX3_init 12 = .ok (.putfield 12, 3) := by decide +kernel
theorem dX3_init_15 : decode cX3_init 15 = .ok (.aload_n 0, 1) := by decide +kernel
theorem dX3_init_16 : decode cX3_init 16 = .ok (.bipush 121, 2) := by decide +kernel
theorem dX3_init_18 : decode cX3_init 18 = .ok (.newarray .int, 2) := by decide +kernel
theorem dX3_init_20 : decode cX3_init 20 = .ok (.putfield 18, 3) := by decide +kernel
theorem dX3_init_23 : decode cX3_init 23 = .ok (.aload_n 0, 1) := by decide +kernel
theorem dX3_init_24 : decode cX3_init 24 = .ok (.bipush 121, 2) := by decide +kernel
theorem dX3_init_26 : decode cX3_init 26 = .ok (.newarray .int, 2) := by decide +kernel
theorem dX3_init_28 : decode cX3_init 28 = .ok (.putfield 22, 3) := by decide +kernel
theorem dX3_init_31 : decode cX3_init 31 = .ok (.return_, 1) := by decide +kernel
theorem dX3_parse_0 : decode cX3_parse 0 = .ok (.aload_n 0, 1) := by decide +kernel
theorem dX3_parse_1 : decode cX3_parse 1 = .ok (.getfield 12, 3) := by decide +kernel
theorem dX3_parse_4 : decode cX3_parse 4 = .ok (.aload_n 1, 1) := by decide +kernel
theorem dX3_parse_5 : decode cX3_parse 5 = .ok (.invokevirtual 25, 3) := by decide +kernel
theorem dX3_parse_8 : decode cX3_parse 8 = .ok (.aload_n 0, 1) := by decide +kernel
theorem dX3_parse_9 : decode cX3_parse 9 = .ok (.iconst 0, 1) := by decide +kernel
theorem dX3_parse_10 : decode cX3_parse 10 = .ok (.putfield 29, 3) := by decide +kernel
theorem dX3_parse_13 : decode cX3_parse 13 = .ok (.aload_n 0, 1) := by decide +kernel
theorem dX3_parse_14 : decode cX3_parse 14 = .ok (.iconst 0, 1) := by decide +kernel
theorem dX3_parse_15 : decode cX3_parse 15 = .ok (.putfield 33, 3) := by decide +kernel
theorem dX3_parse_18 : decode cX3_parse 18 = .ok (.aload_n 0, 1) := by decide +kernel
theorem dX3_parse_19 : decode cX3_parse 19 = .ok (.iconst 0, 1) := by decide +kernel
theorem dX3_parse_20 : decode cX3_parse 20 = .ok (.iconst 0, 1) := by decide +kernel
theorem dX3_parse_21 : decode cX3_parse 21 = .ok (.invokevirtual 36, 3) := by decide +kernel
theorem dX3_parse_24 : decode cX3_parse 24 = .ok (.ifCond .eq 10, 3) := by decide +kernel
theorem dX3_parse_27 : decode cX3_parse 27 = .ok (.aload_n 0, 1) := by decide +kernel
theorem dX3_parse_28 : decode cX3_parse 28 = .ok (.invokevirtual 40, 3) := by decide +kernel
theorem dX3_parse_31 : decode cX3_parse 31 = .ok (.ifCond .eq 5, 3) := by decide +kernel
theorem dX3_parse_34 : decode cX3_parse 34 = .ok (.aconst_null, 1) := by decide +kernel
theorem dX3_parse_35 : decode cX3_parse 35 = .ok (.areturn, 1) := by decide +kernel
theorem dX3_parse_36 : decode cX3_parse 36 = .ok (.aload_n 0, 1) := by decide +kernel
theorem dX3_parse_37 : decode cX3_parse 37 = .ok (.iconst 0, 1) := by decide +kernel
theorem dX3_parse_38 : decode cX3_parse 38 = .ok (.iconst 0, 1) := by decide +kernel
theorem dX3_parse_39 : decode cX3_parse 39 = .ok (.invokevirtual 44, 3) := by decide +kernel
theorem dX3_parse_42 : decode cX3_parse 42 = .ok (.pop, 1) := by decide +kernel
theorem dX3_parse_43 : decode cX3_parse 43 = .ok (.new 48, 3) := by decide +kernel
theorem dX3_parse_46 : decode cX3_parse 46 = .ok (.dup, 1) := by decide +kernel
theorem dX3_parse_47 : decode cX3_parse 47 = .ok (.aload_n 0, 1) := by decide +kernel
theorem dX3_parse_48 : decode cX3_parse 48 = .ok (.getfield 12, 3) := by decide +kernel
theorem dX3_parse_51 : decode cX3_parse 51 = .ok (.aload_n 0, 1) := by decide +kernel
theorem dX3_parse_52 : decode cX3_parse 52 = .ok (.getfield 18, 3) := by decide +kernel
theorem dX3_parse_55 : decode cX3_parse 55 = .ok (.aload_n 0, 1) := by decide +kernel
theorem dX3_parse_56 : decode cX3_parse 56 = .ok (.getfield 22, 3) := by decide +kernel
theorem dX3_parse_59 : decode cX3_parse 59 = .ok (.aload_n 0, 1) := by decide +kernel
theorem dX3_parse_60 : decode cX3_parse 60 = .ok (.getfield 29, 3) := by decide +kernel
theorem dX3_parse_63 : decode cX3_parse 63 = .ok (.invokespecial 50, 3) := by decide +kernel
theorem dX3_parse_66 : decode cX3_parse 66 = .ok (.areturn, 1) := by decide +kernel
theorem dX3_wrongByte_0 : decode cX3_wrongByte 0 = .ok (.aload_n 0, 1) := by decide +kernel
theorem dX3_wrongByte_1 : decode cX3_wrongByte 1 = .ok (.getfield 33, 3) := by decide +kernel
theorem dX3_wrongByte_4 : decode cX3_wrongByte 4 = .ok (.bipush 120, 2) := by decide +kernel
theorem dX3_wrongByte_6 : decode cX3_wrongByte 6 = .ok (.if_icmp .gt 18, 3) := by decide +kernel
theorem dX3_wrongByte_9 : decode cX3_wrongByte 9 = .ok (.aload_n 0, 1) := by decide +kernel
theorem dX3_wrongByte_10 : decode cX3_wrongByte 10 = .ok (.getfield 12, 3) := by decide +kernel
theorem dX3_wrongByte_13 : decode cX3_wrongByte 13 = .ok (.getfield 53, 3) := by decide +kernel
theorem dX3_wrongByte_16 : decode cX3_wrongByte 16 = .ok (.aload_n 0, 1) := by decide +kernel
theorem dX3_wrongByte_17 : decode cX3_wrongByte 17 = .ok (.getfield 33, 3) := by decide +kernel
theorem dX3_wrongByte_20 : decode cX3_wrongByte 20 = .ok (.iaload, 1) := by decide +kernel
theorem dX3_wrongByte_21 : decode cX3_wrongByte 21 = .ok (.goto 4, 3) := by decide +kernel
theorem dX3_wrongByte_24 : decode cX3_wrongByte 24 = .ok (.iconst (-1), 1) := by decide +kernel
theorem dX3_wrongByte_25 : decode cX3_wrongByte 25 = .ok (.ireturn, 1) := by decide +kernel
theorem dX3_block_0 : decode cX3_block 0 = .ok (.aload_n 0, 1) := by decide +kernel
theorem dX3_block_1 : decode cX3_block 1 = .ok (.iload_n 1, 1) := by decide +kernel
theorem dX3_block_2 : decode cX3_block 2 = .ok (.iload_n 2, 1) := by decide +kernel
theorem dX3_block_3 : decode cX3_block 3 = .ok (.invokevirtual 56, 3) := by decide +kernel
theorem dX3_block_6 : decode cX3_block 6 = .ok (.istore_n 3, 1) := by decide +kernel
theorem dX3_block_7 : decode cX3_block 7 = .ok (.iconst 0, 1) := by decide +kernel
theorem dX3_block_8 : decode cX3_block 8 = .ok (.istore 4, 2) := by decide +kernel
theorem dX3_block_10 : decode cX3_block 10 = .ok (.iload 4, 2) := by decide +kernel
theorem dX3_block_12 : decode cX3_block 12 = .ok (.bipush 120, 2) := by decide +kernel
theorem dX3_block_14 : decode cX3_block 14 = .ok (.if_icmp .ge 39, 3) := by decide +kernel
theorem dX3_block_17 : decode cX3_block 17 = .ok (.iload_n 3, 1) := by decide +kernel
theorem dX3_block_18 : decode cX3_block 18 = .ok (.ifCond .eq 35, 3) := by decide +kernel
theorem dX3_block_21 : decode cX3_block 21 = .ok (.aload_n 0, 1) := by decide +kernel
theorem dX3_block_22 : decode cX3_block 22 = .ok (.invokevirtual 40, 3) := by decide +kernel
theorem dX3_block_25 : decode cX3_block 25 = .ok (.bipush 59, 2) := by decide +kernel
theorem dX3_block_27 : decode cX3_block 27 = .ok (.if_icmp .ne 26, 3) := by decide +kernel
theorem dX3_block_30 : decode cX3_block 30 = .ok (.aload_n 0, 1) := by decide +kernel
theorem dX3_block_31 : decode cX3_block 31 = .ok (.dup, 1) := by decide +kernel
theorem dX3_block_32 : decode cX3_block 32 = .ok (.getfield 33, 3) := by decide +kernel
theorem dX3_block_35 : decode cX3_block 35 = .ok (.iconst 1, 1) := by decide +kernel
theorem dX3_block_36 : decode cX3_block 36 = .ok (.iadd, 1) := by decide +kernel
theorem dX3_block_37 : decode cX3_block 37 = .ok (.putfield 33, 3) := by decide +kernel
theorem dX3_block_40 : decode cX3_block 40 = .ok (.aload_n 0, 1) := by decide +kernel
theorem dX3_block_41 : decode cX3_block 41 = .ok (.iload_n 1, 1) := by decide +kernel
theorem dX3_block_42 : decode cX3_block 42 = .ok (.iload_n 2, 1) := by decide +kernel
theorem dX3_block_43 : decode cX3_block 43 = .ok (.invokevirtual 56, 3) := by decide +kernel
theorem dX3_block_46 : decode cX3_block 46 = .ok (.istore_n 3, 1) := by decide +kernel
theorem dX3_block_47 : decode cX3_block 47 = .ok (.iinc 4 1, 3) := by decide +kernel
theorem dX3_block_50 : decode cX3_block 50 = .ok (.goto (-40), 3) := by decide +kernel
theorem dX3_block_53 : decode cX3_block 53 = .ok (.iload_n 3, 1) := by decide +kernel
theorem dX3_block_54 : decode cX3_block 54 = .ok (.ireturn, 1) := by decide +kernel
theorem dX3_doing_0 : decode cX3_doing 0 = .ok (.aload_n 0, 1) := by decide +kernel
theorem dX3_doing_1 : decode cX3_doing 1 = .ok (.invokevirtual 40, 3) := by decide +kernel
theorem dX3_doing_4 : decode cX3_doing 4 = .ok (.invokestatic 59, 3) := by decide +kernel
theorem dX3_doing_7 : decode cX3_doing 7 = .ok (.istore_n 3, 1) := by decide +kernel
theorem dX3_doing_8 : decode cX3_doing 8 = .ok (.iload_n 3, 1) := by decide +kernel
theorem dX3_doing_9 : decode cX3_doing 9 = .ok (.iconst (-1), 1) := by decide +kernel
theorem dX3_doing_10 : decode cX3_doing 10 = .ok (.if_icmp .eq 53, 3) := by decide +kernel
theorem dX3_doing_13 : decode cX3_doing 13 = .ok (.aload_n 0, 1) := by decide +kernel
theorem dX3_doing_14 : decode cX3_doing 14 = .ok (.dup, 1) := by decide +kernel
theorem dX3_doing_15 : decode cX3_doing 15 = .ok (.getfield 33, 3) := by decide +kernel
theorem dX3_doing_18 : decode cX3_doing 18 = .ok (.iconst 1, 1) := by decide +kernel
theorem dX3_doing_19 : decode cX3_doing 19 = .ok (.iadd, 1) := by decide +kernel
theorem dX3_doing_20 : decode cX3_doing 20 = .ok (.putfield 33, 3) := by decide +kernel
theorem dX3_doing_23 : decode cX3_doing 23 = .ok (.aload_n 0, 1) := by decide +kernel
theorem dX3_doing_24 : decode cX3_doing 24 = .ok (.iconst 4, 1) := by decide +kernel
theorem dX3_doing_25 : decode cX3_doing 25 = .ok (.iconst 1, 1) := by decide +kernel
theorem dX3_doing_26 : decode cX3_doing 26 = .ok (.invokevirtual 44, 3) := by decide +kernel
theorem dX3_doing_29 : decode cX3_doing 29 = .ok (.pop, 1) := by decide +kernel
theorem dX3_doing_30 : decode cX3_doing 30 = .ok (.aload_n 0, 1) := by decide +kernel
theorem dX3_doing_31 : decode cX3_doing 31 = .ok (.bipush 61, 2) := by decide +kernel
theorem dX3_doing_33 : decode cX3_doing 33 = .ok (.invokevirtual 63, 3) := by decide +kernel
theorem dX3_doing_36 : decode cX3_doing 36 = .ok (.ifCond .eq 25, 3) := by decide +kernel
theorem dX3_doing_39 : decode cX3_doing 39 = .ok (.aload_n 0, 1) := by decide +kernel
theorem dX3_doing_40 : decode cX3_doing 40 = .ok (.iconst 0, 1) := by decide +kernel
theorem dX3_doing_41 : decode cX3_doing 41 = .ok (.iload_n 1, 1) := by decide +kernel
theorem dX3_doing_42 : decode cX3_doing 42 = .ok (.invokevirtual 67, 3) := by decide +kernel
theorem dX3_doing_45 : decode cX3_doing 45 = .ok (.ifCond .eq 16, 3) := by decide +kernel
theorem dX3_doing_48 : decode cX3_doing 48 = .ok (.aload_n 0, 1) := by decide +kernel
theorem dX3_doing_49 : decode cX3_doing 49 = .ok (.iconst 3, 1) := by decide +kernel
theorem dX3_doing_50 : decode cX3_doing 50 = .ok (.iload_n 3, 1) := by decide +kernel
theorem dX3_doing_51 : decode cX3_doing 51 = .ok (.invokevirtual 44, 3) := by decide +kernel
theorem dX3_doing_54 : decode cX3_doing 54 = .ok (.ifCond .eq 7, 3) := by decide +kernel
theorem dX3_doing_57 : decode cX3_doing 57 = .ok (.iconst 1, 1) := by decide +kernel
theorem dX3_doing_58 : decode cX3_doing 58 = .ok (.goto 4, 3) := by decide +kernel
theorem dX3_doing_61 : decode cX3_doing 61 = .ok (.iconst 0, 1) := by decide +kernel
theorem dX3_doing_62 : decode cX3_doing 62 = .ok (.ireturn, 1) := by decide +kernel
theorem dX3_doing_63 : decode cX3_doing 63 = .ok (.aload_n 0, 1) := by decide +kernel
theorem dX3_doing_64 : decode cX3_doing 64 = .ok (.sipush 256, 3) := by decide +kernel
theorem dX3_doing_67 : decode cX3_doing 67 = .ok (.invokevirtual 63, 3) := by decide +kernel
theorem dX3_doing_70 : decode cX3_doing 70 = .ok (.ifCond .eq 10, 3) := by decide +kernel
theorem dX3_doing_73 : decode cX3_doing 73 = .ok (.aload_n 0, 1) := by decide +kernel
theorem dX3_doing_74 : decode cX3_doing 74 = .ok (.iload_n 1, 1) := by decide +kernel
theorem dX3_doing_75 : decode cX3_doing 75 = .ok (.iload_n 2, 1) := by decide +kernel
theorem dX3_doing_76 : decode cX3_doing 76 = .ok (.invokevirtual 70, 3) := by decide +kernel
theorem dX3_doing_79 : decode cX3_doing 79 = .ok (.ireturn, 1) := by decide +kernel
theorem dX3_doing_80 : decode cX3_doing 80 = .ok (.aload_n 0, 1) := by decide +kernel
theorem dX3_doing_81 : decode cX3_doing 81 = .ok (.sipush 257, 3) := by decide +kernel
theorem dX3_doing_84 : decode cX3_doing 84 = .ok (.invokevirtual 63, 3) := by decide +kernel
theorem dX3_doing_87 : decode cX3_doing 87 = .ok (.ifCond .eq 16, 3) := by decide +kernel
theorem dX3_doing_90 : decode cX3_doing 90 = .ok (.aload_n 0, 1) := by decide +kernel
theorem dX3_doing_91 : decode cX3_doing 91 = .ok (.iload_n 1, 1) := by decide +kernel
theorem dX3_doing_92 : decode cX3_doing 92 = .ok (.iload_n 2, 1) := by decide +kernel
theorem dX3_doing_93 : decode cX3_doing 93 = .ok (.invokevirtual 73, 3) := by decide +kernel
theorem dX3_doing_96 : decode cX3_doing 96 = .ok (.ifCond .eq 7, 3) := by decide +kernel
theorem dX3_doing_99 : decode cX3_doing 99 = .ok (.iconst 1, 1) := by decide +kernel
theorem dX3_doing_100 : decode cX3_doing 100 = .ok (.goto 4, 3) := by decide +kernel
theorem dX3_doing_103 : decode cX3_doing 103 = .ok (.iconst 0, 1) := by decide +kernel
theorem dX3_doing_104 : decode cX3_doing 104 = .ok (.ireturn, 1) := by decide +kernel
theorem dX3_loop_0 : decode cX3_loop 0 = .ok (.aload_n 0, 1) := by decide +kernel
theorem dX3_loop_1 : decode cX3_loop 1 = .ok (.getfield 29, 3) := by decide +kernel
theorem dX3_loop_4 : decode cX3_loop 4 = .ok (.istore_n 3, 1) := by decide +kernel
theorem dX3_loop_5 : decode cX3_loop 5 = .ok (.aload_n 0, 1) := by decide +kernel
theorem dX3_loop_6 : decode cX3_loop 6 = .ok (.iconst 4, 1) := by decide +kernel
theorem dX3_loop_7 : decode cX3_loop 7 = .ok (.iload_n 2, 1) := by decide +kernel
theorem dX3_loop_8 : decode cX3_loop 8 = .ok (.ifCond .eq 9, 3) := by decide +kernel
theorem dX3_loop_11 : decode cX3_loop 11 = .ok (.sipush 192, 3) := by decide +kernel
theorem dX3_loop_14 : decode cX3_loop 14 = .ok (.goto 5, 3) := by decide +kernel
theorem dX3_loop_17 : decode cX3_loop 17 = .ok (.bipush 64, 2) := by decide +kernel
theorem dX3_loop_19 : decode cX3_loop 19 = .ok (.invokevirtual 44, 3) := by decide +kernel
theorem dX3_loop_22 : decode cX3_loop 22 = .ok (.pop, 1) := by decide +kernel
theorem dX3_loop_23 : decode cX3_loop 23 = .ok (.aload_n 0, 1) := by decide +kernel
theorem dX3_loop_24 : decode cX3_loop 24 = .ok (.iconst 0, 1) := by decide +kernel
theorem dX3_loop_25 : decode cX3_loop 25 = .ok (.iload_n 1, 1) := by decide +kernel
theorem dX3_loop_26 : decode cX3_loop 26 = .ok (.invokevirtual 67, 3) := by decide +kernel
theorem dX3_loop_29 : decode cX3_loop 29 = .ok (.ifCond .ne 5, 3) := by decide +kernel
theorem dX3_loop_32 : decode cX3_loop 32 = .ok (.iconst 0, 1) := by decide +kernel
theorem dX3_loop_33 : decode cX3_loop 33 = .ok (.ireturn, 1) := by decide +kernel
theorem dX3_loop_34 : decode cX3_loop 34 = .ok (.aload_n 0, 1) := by decide +kernel
theorem dX3_loop_35 : decode cX3_loop 35 = .ok (.getfield 29, 3) := by decide +kernel
theorem dX3_loop_38 : decode cX3_loop 38 = .ok (.istore 4, 2) := by decide +kernel
theorem dX3_loop_40 : decode cX3_loop 40 = .ok (.aload_n 0, 1) := by decide +kernel
theorem dX3_loop_41 : decode cX3_loop 41 = .ok (.iconst 5, 1) := by decide +kernel
theorem dX3_loop_42 : decode cX3_loop 42 = .ok (.iconst 0, 1) := by decide +kernel
theorem dX3_loop_43 : decode cX3_loop 43 = .ok (.invokevirtual 44, 3) := by decide +kernel
theorem dX3_loop_46 : decode cX3_loop 46 = .ok (.pop, 1) := by decide +kernel
theorem dX3_loop_47 : decode cX3_loop 47 = .ok (.aload_n 0, 1) := by decide +kernel
theorem dX3_loop_48 : decode cX3_loop 48 = .ok (.iload_n 1, 1) := by decide +kernel
theorem dX3_loop_49 : decode cX3_loop 49 = .ok (.iconst 1, 1) := by decide +kernel
theorem dX3_loop_50 : decode cX3_loop 50 = .ok (.invokevirtual 76, 3) := by decide +kernel
theorem dX3_loop_53 : decode cX3_loop 53 = .ok (.ifCond .ne 5, 3) := by decide +kernel
theorem dX3_loop_56 : decode cX3_loop 56 = .ok (.iconst 0, 1) := by decide +kernel
theorem dX3_loop_57 : decode cX3_loop 57 = .ok (.ireturn, 1) := by decide +kernel
theorem dX3_loop_58 : decode cX3_loop 58 = .ok (.aload_n 0, 1) := by decide +kernel
theorem dX3_loop_59 : decode cX3_loop 59 = .ok (.bipush 6, 2) := by decide +kernel
theorem dX3_loop_61 : decode cX3_loop 61 = .ok (.iload_n 3, 1) := by decide +kernel
theorem dX3_loop_62 : decode cX3_loop 62 = .ok (.invokevirtual 44, 3) := by decide +kernel
theorem dX3_loop_65 : decode cX3_loop 65 = .ok (.pop, 1) := by decide +kernel
theorem dX3_loop_66 : decode cX3_loop 66 = .ok (.aload_n 0, 1) := by decide +kernel
theorem dX3_loop_67 : decode cX3_loop 67 = .ok (.iload 4, 2) := by decide +kernel
theorem dX3_loop_69 : decode cX3_loop 69 = .ok (.invokevirtual 79, 3) := by decide +kernel
theorem dX3_loop_72 : decode cX3_loop 72 = .ok (.iconst 1, 1) := by decide +kernel
theorem dX3_loop_73 : decode cX3_loop 73 = .ok (.ireturn, 1) := by decide +kernel
theorem dX3_choice_0 : decode cX3_choice 0 = .ok (.aload_n 0, 1) := by decide +kernel
theorem dX3_choice_1 : decode cX3_choice 1 = .ok (.iconst 4, 1) := by decide +kernel
theorem dX3_choice_2 : decode cX3_choice 2 = .ok (.bipush 32, 2) := by decide +kernel
theorem dX3_choice_4 : decode cX3_choice 4 = .ok (.invokevirtual 44, 3) := by decide +kernel
theorem dX3_choice_7 : decode cX3_choice 7 = .ok (.pop, 1) := by decide +kernel
theorem dX3_choice_8 : decode cX3_choice 8 = .ok (.aload_n 0, 1) := by decide +kernel
theorem dX3_choice_9 : decode cX3_choice 9 = .ok (.iconst 0, 1) := by decide +kernel
theorem dX3_choice_10 : decode cX3_choice 10 = .ok (.iload_n 1, 1) := by decide +kernel
theorem dX3_choice_11 : decode cX3_choice 11 = .ok (.invokevirtual 67, 3) := by decide +kernel
theorem dX3_choice_14 : decode cX3_choice 14 = .ok (.ifCond .ne 5, 3) := by decide +kernel
theorem dX3_choice_17 : decode cX3_choice 17 = .ok (.iconst 0, 1) := by decide +kernel
theorem dX3_choice_18 : decode cX3_choice 18 = .ok (.ireturn, 1) := by decide +kernel
theorem dX3_choice_19 : decode cX3_choice 19 = .ok (.aload_n 0, 1) := by decide +kernel
theorem dX3_choice_20 : decode cX3_choice 20 = .ok (.getfield 29, 3) := by decide +kernel
theorem dX3_choice_23 : decode cX3_choice 23 = .ok (.istore_n 3, 1) := by decide +kernel
theorem dX3_choice_24 : decode cX3_choice 24 = .ok (.aload_n 0, 1) := by decide +kernel
theorem dX3_choice_25 : decode cX3_choice 25 = .ok (.iconst 5, 1) := by decide +kernel
theorem dX3_choice_26 : decode cX3_choice 26 = .ok (.iconst 0, 1) := by decide +kernel
theorem dX3_choice_27 : decode cX3_choice 27 = .ok (.invokevirtual 44, 3) := by decide +kernel
theorem dX3_choice_30 : decode cX3_choice 30 = .ok (.pop, 1) := by decide +kernel
theorem dX3_choice_31 : decode cX3_choice 31 = .ok (.aload_n 0, 1) := by decide +kernel
theorem dX3_choice_32 : decode cX3_choice 32 = .ok (.iload_n 1, 1) := by decide +kernel
theorem dX3_choice_33 : decode cX3_choice 33 = .ok (.iload_n 2, 1) := by decide +kernel
theorem dX3_choice_34 : decode cX3_choice 34 = .ok (.invokevirtual 76, 3) := by decide +kernel
theorem dX3_choice_37 : decode cX3_choice 37 = .ok (.ifCond .ne 5, 3) := by decide +kernel
theorem dX3_choice_40 : decode cX3_choice 40 = .ok (.iconst 0, 1) := by decide +kernel
theorem dX3_choice_41 : decode cX3_choice 41 = .ok (.ireturn, 1) := by decide +kernel
theorem dX3_choice_42 : decode cX3_choice 42 = .ok (.aload_n 0, 1) := by decide +kernel
theorem dX3_choice_43 : decode cX3_choice 43 = .ok (.sipush 258, 3) := by decide +kernel
theorem dX3_choice_46 : decode cX3_choice 46 = .ok (.invokevirtual 63, 3) := by decide +kernel
theorem dX3_choice_49 : decode cX3_choice 49 = .ok (.ifCond .ne 10, 3) := by decide +kernel
theorem dX3_choice_52 : decode cX3_choice 52 = .ok (.aload_n 0, 1) := by decide +kernel
theorem dX3_choice_53 : decode cX3_choice 53 = .ok (.iload_n 3, 1) := by decide +kernel
theorem dX3_choice_54 : decode cX3_choice 54 = .ok (.invokevirtual 79, 3) := by decide +kernel
theorem dX3_choice_57 : decode cX3_choice 57 = .ok (.iconst 1, 1) := by decide +kernel
theorem dX3_choice_58 : decode cX3_choice 58 = .ok (.ireturn, 1) := by decide +kernel
theorem dX3_choice_59 : decode cX3_choice 59 = .ok (.aload_n 0, 1) := by decide +kernel
theorem dX3_choice_60 : decode cX3_choice 60 = .ok (.getfield 29, 3) := by decide +kernel
theorem dX3_choice_63 : decode cX3_choice 63 = .ok (.istore 4, 2) := by decide +kernel
theorem dX3_choice_65 : decode cX3_choice 65 = .ok (.aload_n 0, 1) := by decide +kernel
theorem dX3_choice_66 : decode cX3_choice 66 = .ok (.bipush 6, 2) := by decide +kernel
theorem dX3_choice_68 : decode cX3_choice 68 = .ok (.iconst 0, 1) := by decide +kernel
theorem dX3_choice_69 : decode cX3_choice 69 = .ok (.invokevirtual 44, 3) := by decide +kernel
theorem dX3_choice_72 : decode cX3_choice 72 = .ok (.pop, 1) := by decide +kernel
theorem dX3_choice_73 : decode cX3_choice 73 = .ok (.aload_n 0, 1) := by decide +kernel
theorem dX3_choice_74 : decode cX3_choice 74 = .ok (.iload_n 3, 1) := by decide +kernel
theorem dX3_choice_75 : decode cX3_choice 75 = .ok (.invokevirtual 79, 3) := by decide +kernel
theorem dX3_choice_78 : decode cX3_choice 78 = .ok (.aload_n 0, 1) := by decide +kernel
theorem dX3_choice_79 : decode cX3_choice 79 = .ok (.iload_n 1, 1) := by decide +kernel
theorem dX3_choice_80 : decode cX3_choice 80 = .ok (.iload_n 2, 1) := by decide +kernel
theorem dX3_choice_81 : decode cX3_choice 81 = .ok (.invokevirtual 76, 3) := by decide +kernel
theorem dX3_choice_84 : decode cX3_choice 84 = .ok (.ifCond .ne 5, 3) := by decide +kernel
theorem dX3_choice_87 : decode cX3_choice 87 = .ok (.iconst 0, 1) := by decide +kernel
theorem dX3_choice_88 : decode cX3_choice 88 = .ok (.ireturn, 1) := by decide +kernel
theorem dX3_choice_89 : decode cX3_choice 89 = .ok (.aload_n 0, 1) := by decide +kernel
theorem dX3_choice_90 : decode cX3_choice 90 = .ok (.iload 4, 2) := by decide +kernel
theorem dX3_choice_92 : decode cX3_choice 92 = .ok (.invokevirtual 79, 3) := by decide +kernel
theorem dX3_choice_95 : decode cX3_choice 95 = .ok (.iconst 1, 1) := by decide +kernel
theorem dX3_choice_96 : decode cX3_choice 96 = .ok (.ireturn, 1) := by decide +kernel
theorem dX3_braced_0 : decode cX3_braced 0 = .ok (.iload_n 1, 1) := by decide +kernel
theorem dX3_braced_1 : decode cX3_braced 1 = .ok (.bipush 10, 2) := by decide +kernel
theorem dX3_braced_3 : decode cX3_braced 3 = .ok (.if_icmp .ge 36, 3) := by decide +kernel
theorem dX3_braced_6 : decode cX3_braced 6 = .ok (.aload_n 0, 1) := by decide +kernel
theorem dX3_braced_7 : decode cX3_braced 7 = .ok (.bipush 123, 2) := by decide +kernel
theorem dX3_braced_9 : decode cX3_braced 9 = .ok (.invokevirtual 63, 3) := by decide +kernel
theorem dX3_braced_12 : decode cX3_braced 12 = .ok (.ifCond .eq 27, 3) := by decide +kernel
theorem dX3_braced_15 : decode cX3_braced 15 = .ok (.aload_n 0, 1) := by decide +kernel
theorem dX3_braced_16 : decode cX3_braced 16 = .ok (.iload_n 1, 1) := by decide +kernel
theorem dX3_braced_17 : decode cX3_braced 17 = .ok (.iconst 1, 1) := by decide +kernel
theorem dX3_braced_18 : decode cX3_braced 18 = .ok (.iadd, 1) := by decide +kernel
theorem dX3_braced_19 : decode cX3_braced 19 = .ok (.iload_n 2, 1) := by decide +kernel
theorem dX3_braced_20 : decode cX3_braced 20 = .ok (.invokevirtual 36, 3) := by decide +kernel
theorem dX3_braced_23 : decode cX3_braced 23 = .ok (.ifCond .eq 16, 3) := by decide +kernel
theorem dX3_braced_26 : decode cX3_braced 26 = .ok (.aload_n 0, 1) := by decide +kernel
theorem dX3_braced_27 : decode cX3_braced 27 = .ok (.bipush 125, 2) := by decide +kernel
theorem dX3_braced_29 : decode cX3_braced 29 = .ok (.invokevirtual 63, 3) := by decide +kernel
theorem dX3_braced_32 : decode cX3_braced 32 = .ok (.ifCond .eq 7, 3) := by decide +kernel
theorem dX3_braced_35 : decode cX3_braced 35 = .ok (.iconst 1, 1) := by decide +kernel
theorem dX3_braced_36 : decode cX3_braced 36 = .ok (.goto 4, 3) := by decide +kernel
theorem dX3_braced_39 : decode cX3_braced 39 = .ok (.iconst 0, 1) := by decide +kernel
theorem dX3_braced_40 : decode cX3_braced 40 = .ok (.ireturn, 1) := by decide +kernel
theorem dX3_expression_0 : decode cX3_expression 0 = .ok (.iload_n 1, 1) := by decide +kernel
theorem dX3_expression_1 : decode cX3_expression 1 = .ok (.iconst 2, 1) := by decide +kernel
theorem dX3_expression_2 : decode cX3_expression 2 = .ok (.if_icmp .le 9, 3) := by decide +kernel
theorem dX3_expression_5 : decode cX3_expression 5 = .ok (.aload_n 0, 1) := by decide +kernel
theorem dX3_expression_6 : decode cX3_expression 6 = .ok (.iload_n 2, 1) := by decide +kernel
theorem dX3_expression_7 : decode cX3_expression 7 = .ok (.invokevirtual 83, 3) := by decide +kernel
theorem dX3_expression_10 : decode cX3_expression 10 = .ok (.ireturn, 1) := by decide +kernel
theorem dX3_expression_11 : decode cX3_expression 11 = .ok (.aload_n 0, 1) := by decide +kernel
theorem dX3_expression_12 : decode cX3_expression 12 = .ok (.iload_n 1, 1) := by decide +kernel
theorem dX3_expression_13 : decode cX3_expression 13 = .ok (.iconst 1, 1) := by decide +kernel
theorem dX3_expression_14 : decode cX3_expression 14 = .ok (.iadd, 1) := by decide +kernel
theorem dX3_expression_15 : decode cX3_expression 15 = .ok (.iload_n 2, 1) := by decide +kernel
theorem dX3_expression_16 : decode cX3_expression 16 = .ok (.invokevirtual 67, 3) := by decide +kernel
theorem dX3_expression_19 : decode cX3_expression 19 = .ok (.istore_n 3, 1) := by decide +kernel
theorem dX3_expression_20 : decode cX3_expression 20 = .ok (.iload_n 1, 1) := by decide +kernel
theorem dX3_expression_21 : decode cX3_expression 21 = .ok (.ifCond .ne 7, 3) := by decide +kernel
theorem dX3_expression_24 : decode cX3_expression 24 = .ok (.iconst 1, 1) := by decide +kernel
theorem dX3_expression_25 : decode cX3_expression 25 = .ok (.goto 5, 3) := by decide +kernel
theorem dX3_expression_28 : decode cX3_expression 28 = .ok (.bipush 120, 2) := by decide +kernel
theorem dX3_expression_30 : decode cX3_expression 30 = .ok (.istore 4, 2) := by decide +kernel
theorem dX3_expression_32 : decode cX3_expression 32 = .ok (.iconst 0, 1) := by decide +kernel
theorem dX3_expression_33 : decode cX3_expression 33 = .ok (.istore 5, 2) := by decide +kernel
theorem dX3_expression_35 : decode cX3_expression 35 = .ok (.iload 5, 2) := by decide +kernel
theorem dX3_expression_37 : decode cX3_expression 37 = .ok (.iload 4, 2) := by decide +kernel
theorem dX3_expression_39 : decode cX3_expression 39 = .ok (.if_icmp .ge 71, 3) := by decide +kernel
theorem dX3_expression_42 : decode cX3_expression 42 = .ok (.iload_n 3, 1) := by decide +kernel
theorem dX3_expression_43 : decode cX3_expression 43 = .ok (.ifCond .eq 67, 3) := by decide +kernel
theorem dX3_expression_46 : decode cX3_expression 46 = .ok (.aload_n 0, 1) := by decide +kernel
theorem dX3_expression_47 : decode cX3_expression 47 = .ok (.invokevirtual 40, 3) := by decide +kernel
theorem dX3_expression_50 : decode cX3_expression 50 = .ok (.invokestatic 86, 3) := by decide +kernel
theorem dX3_expression_53 : decode cX3_expression 53 = .ok (.iload_n 1, 1) := by decide +kernel
theorem dX3_expression_54 : decode cX3_expression 54 = .ok (.if_icmp .ne 56, 3) := by decide +kernel
theorem dX3_expression_57 : decode cX3_expression 57 = .ok (.aload_n 0, 1) := by decide +kernel
theorem dX3_expression_58 : decode cX3_expression 58 = .ok (.invokevirtual 40, 3) := by decide +kernel
theorem dX3_expression_61 : decode cX3_expression 61 = .ok (.istore 6, 2) := by decide +kernel
theorem dX3_expression_63 : decode cX3_expression 63 = .ok (.aload_n 0, 1) := by decide +kernel
theorem dX3_expression_64 : decode cX3_expression 64 = .ok (.dup, 1) := by decide +kernel
theorem dX3_expression_65 : decode cX3_expression 65 = .ok (.getfield 33, 3) := by decide +kernel
theorem dX3_expression_68 : decode cX3_expression 68 = .ok (.iconst 1, 1) := by decide +kernel
theorem dX3_expression_69 : decode cX3_expression 69 = .ok (.iadd, 1) := by decide +kernel
theorem dX3_expression_70 : decode cX3_expression 70 = .ok (.putfield 33, 3) := by decide +kernel
theorem dX3_expression_73 : decode cX3_expression 73 = .ok (.aload_n 0, 1) := by decide +kernel
theorem dX3_expression_74 : decode cX3_expression 74 = .ok (.iload_n 1, 1) := by decide +kernel
theorem dX3_expression_75 : decode cX3_expression 75 = .ok (.iconst 1, 1) := by decide +kernel
theorem dX3_expression_76 : decode cX3_expression 76 = .ok (.iadd, 1) := by decide +kernel
theorem dX3_expression_77 : decode cX3_expression 77 = .ok (.iload_n 2, 1) := by decide +kernel
theorem dX3_expression_78 : decode cX3_expression 78 = .ok (.invokevirtual 67, 3) := by decide +kernel
theorem dX3_expression_81 : decode cX3_expression 81 = .ok (.ifCond .eq 21, 3) := by decide +kernel
theorem dX3_expression_84 : decode cX3_expression 84 = .ok (.aload_n 0, 1) := by decide +kernel
theorem dX3_expression_85 : decode cX3_expression 85 = .ok (.iload 6, 2) := by decide +kernel
theorem dX3_expression_87 : decode cX3_expression 87 = .ok (.iload 6, 2) := by decide +kernel
theorem dX3_expression_89 : decode cX3_expression 89 = .ok (.invokestatic 89, 3) := by decide +kernel
theorem dX3_expression_92 : decode cX3_expression 92 = .ok (.invokevirtual 44, 3) := by decide +kernel
theorem dX3_expression_95 : decode cX3_expression 95 = .ok (.ifCond .eq 7, 3) := by decide +kernel
theorem dX3_expression_98 : decode cX3_expression 98 = .ok (.iconst 1, 1) := by decide +kernel
theorem dX3_expression_99 : decode cX3_expression 99 = .ok (.goto 4, 3) := by decide +kernel
theorem dX3_expression_102 : decode cX3_expression 102 = .ok (.iconst 0, 1) := by decide +kernel
theorem dX3_expression_103 : decode cX3_expression 103 = .ok (.istore_n 3, 1) := by decide +kernel
theorem dX3_expression_104 : decode cX3_expression 104 = .ok (.iinc 5 1, 3) := by decide +kernel
theorem dX3_expression_107 : decode cX3_expression 107 = .ok (.goto (-72), 3) := by decide +kernel
theorem dX3_expression_110 : decode cX3_expression 110 = .ok (.iload_n 3, 1) := by decide +kernel
theorem dX3_expression_111 : decode cX3_expression 111 = .ok (.ireturn, 1) := by decide +kernel
theorem dX3_factor_0 : decode cX3_factor 0 = .ok (.aload_n 0, 1) := by decide +kernel
theorem dX3_factor_1 : decode cX3_factor 1 = .ok (.invokevirtual 40, 3) := by decide +kernel
theorem dX3_factor_4 : decode cX3_factor 4 = .ok (.istore_n 2, 1) := by decide +kernel
theorem dX3_factor_5 : decode cX3_factor 5 = .ok (.iload_n 2, 1) := by decide +kernel
theorem dX3_factor_6 : decode cX3_factor 6 = .ok (.sipush 1000, 3) := by decide +kernel
theorem dX3_factor_9 : decode cX3_factor 9 = .ok (.if_icmp .lt 24, 3) := by decide +kernel
theorem dX3_factor_12 : decode cX3_factor 12 = .ok (.aload_n 0, 1) := by decide +kernel
theorem dX3_factor_13 : decode cX3_factor 13 = .ok (.dup, 1) := by decide +kernel
theorem dX3_factor_14 : decode cX3_factor 14 = .ok (.getfield 33, 3) := by decide +kernel
theorem dX3_factor_17 : decode cX3_factor 17 = .ok (.iconst 1, 1) := by decide +kernel
theorem dX3_factor_18 : decode cX3_factor 18 = .ok (.iadd, 1) := by decide +kernel
theorem dX3_factor_19 : decode cX3_factor 19 = .ok (.putfield 33, 3) := by decide +kernel
theorem dX3_factor_22 : decode cX3_factor 22 = .ok (.aload_n 0, 1) := by decide +kernel
theorem dX3_factor_23 : decode cX3_factor 23 = .ok (.iconst 1, 1) := by decide +kernel
theorem dX3_factor_24 : decode cX3_factor 24 = .ok (.iload_n 2, 1) := by decide +kernel
theorem dX3_factor_25 : decode cX3_factor 25 = .ok (.sipush 1000, 3) := by decide +kernel
theorem dX3_factor_28 : decode cX3_factor 28 = .ok (.isub, 1) := by decide +kernel
theorem dX3_factor_29 : decode cX3_factor 29 = .ok (.invokevirtual 44, 3) := by decide +kernel
theorem dX3_factor_32 : decode cX3_factor 32 = .ok (.ireturn, 1) := by decide +kernel
theorem dX3_factor_33 : decode cX3_factor 33 = .ok (.iload_n 2, 1) := by decide +kernel
theorem dX3_factor_34 : decode cX3_factor 34 = .ok (.invokestatic 59, 3) := by decide +kernel
theorem dX3_factor_37 : decode cX3_factor 37 = .ok (.istore_n 3, 1) := by decide +kernel
theorem dX3_factor_38 : decode cX3_factor 38 = .ok (.iload_n 3, 1) := by decide +kernel
theorem dX3_factor_39 : decode cX3_factor 39 = .ok (.iconst (-1), 1) := by decide +kernel
theorem dX3_factor_40 : decode cX3_factor 40 = .ok (.if_icmp .eq 20, 3) := by decide +kernel
theorem dX3_factor_43 : decode cX3_factor 43 = .ok (.aload_n 0, 1) := by decide +kernel
theorem dX3_factor_44 : decode cX3_factor 44 = .ok (.dup, 1) := by decide +kernel
theorem dX3_factor_45 : decode cX3_factor 45 = .ok (.getfield 33, 3) := by decide +kernel
theorem dX3_factor_48 : decode cX3_factor 48 = .ok (.iconst 1, 1) := by decide +kernel
theorem dX3_factor_49 : decode cX3_factor 49 = .ok (.iadd, 1) := by decide +kernel
theorem dX3_factor_50 : decode cX3_factor 50 = .ok (.putfield 33, 3) := by decide +kernel
theorem dX3_factor_53 : decode cX3_factor 53 = .ok (.aload_n 0, 1) := by decide +kernel
theorem dX3_factor_54 : decode cX3_factor 54 = .ok (.iconst 2, 1) := by decide +kernel
theorem dX3_factor_55 : decode cX3_factor 55 = .ok (.iload_n 3, 1) := by decide +kernel
theorem dX3_factor_56 : decode cX3_factor 56 = .ok (.invokevirtual 44, 3) := by decide +kernel
theorem dX3_factor_59 : decode cX3_factor 59 = .ok (.ireturn, 1) := by decide +kernel
theorem dX3_factor_60 : decode cX3_factor 60 = .ok (.iload_n 1, 1) := by decide +kernel
theorem dX3_factor_61 : decode cX3_factor 61 = .ok (.bipush 10, 2) := by decide +kernel
theorem dX3_factor_63 : decode cX3_factor 63 = .ok (.if_icmp .ge 36, 3) := by decide +kernel
theorem dX3_factor_66 : decode cX3_factor 66 = .ok (.aload_n 0, 1) := by decide +kernel
theorem dX3_factor_67 : decode cX3_factor 67 = .ok (.bipush 40, 2) := by decide +kernel
theorem dX3_factor_69 : decode cX3_factor 69 = .ok (.invokevirtual 63, 3) := by decide +kernel
theorem dX3_factor_72 : decode cX3_factor 72 = .ok (.ifCond .eq 27, 3) := by decide +kernel
theorem dX3_factor_75 : decode cX3_factor 75 = .ok (.aload_n 0, 1) := by decide +kernel
theorem dX3_factor_76 : decode cX3_factor 76 = .ok (.iconst 0, 1) := by decide +kernel
theorem dX3_factor_77 : decode cX3_factor 77 = .ok (.iload_n 1, 1) := by decide +kernel
theorem dX3_factor_78 : decode cX3_factor 78 = .ok (.iconst 1, 1) := by decide +kernel
theorem dX3_factor_79 : decode cX3_factor 79 = .ok (.iadd, 1) := by decide +kernel
theorem dX3_factor_80 : decode cX3_factor 80 = .ok (.invokevirtual 67, 3) := by decide +kernel
theorem dX3_factor_83 : decode cX3_factor 83 = .ok (.ifCond .eq 16, 3) := by decide +kernel
theorem dX3_factor_86 : decode cX3_factor 86 = .ok (.aload_n 0, 1) := by decide +kernel
theorem dX3_factor_87 : decode cX3_factor 87 = .ok (.bipush 41, 2) := by decide +kernel
theorem dX3_factor_89 : decode cX3_factor 89 = .ok (.invokevirtual 63, 3) := by decide +kernel
theorem dX3_factor_92 : decode cX3_factor 92 = .ok (.ifCond .eq 7, 3) := by decide +kernel
theorem dX3_factor_95 : decode cX3_factor 95 = .ok (.iconst 1, 1) := by decide +kernel
theorem dX3_factor_96 : decode cX3_factor 96 = .ok (.goto 4, 3) := by decide +kernel
theorem dX3_factor_99 : decode cX3_factor 99 = .ok (.iconst 0, 1) := by decide +kernel
theorem dX3_factor_100 : decode cX3_factor 100 = .ok (.ireturn, 1) := by decide +kernel
