theorem dX9_look_1 : decode cX9_look 1 = .ok (.iload_n 1, 1) := by decide +kernel
theorem dX9_look_2 : decode cX9_look 2 = .ok (.invokevirtual 134, 3) := by decide +kernel
theorem dX9_look_5 : decode cX9_look 5 = .ok (.astore_n 3, 1) := by decide +kernel
theorem dX9_look_6 : decode cX9_look 6 = .ok (.iload_n 2, 1) := by decide +kernel
theorem dX9_look_7 : decode cX9_look 7 = .ok (.iconst 4, 1) := by decide +kernel
theorem dX9_look_8 : decode cX9_look 8 = .ok (.invokestatic 98, 3) := by decide +kernel
theorem dX9_look_11 : decode cX9_look 11 = .ok (.iload_n 2, 1) := by decide +kernel
theorem dX9_look_12 : decode cX9_look 12 = .ok (.tableswitch 52 0 3 #[32, 37, 42, 47], 32) := by decide +kernel
theorem dX9_look_44 : decode cX9_look 44 = .ok (.aload_n 3, 1) := by decide +kernel
theorem dX9_look_45 : decode cX9_look 45 = .ok (.getfield 198, 3) := by decide +kernel
theorem dX9_look_48 : decode cX9_look 48 = .ok (.ireturn, 1) := by decide +kernel
theorem dX9_look_49 : decode cX9_look 49 = .ok (.aload_n 3, 1) := by decide +kernel
theorem dX9_look_50 : decode cX9_look 50 = .ok (.getfield 187, 3) := by decide +kernel
theorem dX9_look_53 : decode cX9_look 53 = .ok (.ireturn, 1) := by decide +kernel
theorem dX9_look_54 : decode cX9_look 54 = .ok (.aload_n 3, 1) := by decide +kernel
theorem dX9_look_55 : decode cX9_look 55 = .ok (.getfield 146, 3) := by decide +kernel
theorem dX9_look_58 : decode cX9_look 58 = .ok (.ireturn, 1) := by decide +kernel
theorem dX9_look_59 : decode cX9_look 59 = .ok (.aload_n 3, 1) := by decide +kernel
theorem dX9_look_60 : decode cX9_look 60 = .ok (.getfield 201, 3) := by decide +kernel
theorem dX9_look_63 : decode cX9_look 63 = .ok (.ireturn, 1) := by decide +kernel
theorem dX9_look_64 : decode cX9_look 64 = .ok (.aload_n 3, 1) := by decide +kernel
theorem dX9_look_65 : decode cX9_look 65 = .ok (.invokevirtual 204, 3) := by decide +kernel
theorem dX9_look_68 : decode cX9_look 68 = .ok (.ireturn, 1) := by decide +kernel
theorem dX9_hint_0 : decode cX9_hint 0 = .ok (.aload_n 0, 1) := by decide +kernel
theorem dX9_hint_1 : decode cX9_hint 1 = .ok (.iload_n 1, 1) := by decide +kernel
theorem dX9_hint_2 : decode cX9_hint 2 = .ok (.invokevirtual 134, 3) := by decide +kernel
theorem dX9_hint_5 : decode cX9_hint 5 = .ok (.astore_n 3, 1) := by decide +kernel
theorem dX9_hint_6 : decode cX9_hint 6 = .ok (.aload_n 0, 1) := by decide +kernel
theorem dX9_hint_7 : decode cX9_hint 7 = .ok (.invokevirtual 94, 3) := by decide +kernel
theorem dX9_hint_10 : decode cX9_hint 10 = .ok (.astore 4, 2) := by decide +kernel
theorem dX9_hint_12 : decode cX9_hint 12 = .ok (.iload_n 2, 1) := by decide +kernel
theorem dX9_hint_13 : decode cX9_hint 13 = .ok (.iconst 4, 1) := by decide +kernel
theorem dX9_hint_14 : decode cX9_hint 14 = .ok (.invokestatic 98, 3) := by decide +kernel
theorem dX9_hint_17 : decode cX9_hint 17 = .ok (.aload_n 0, 1) := by decide +kernel
theorem dX9_hint_18 : decode cX9_hint 18 = .ok (.aload_n 3, 1) := by decide +kernel
theorem dX9_hint_19 : decode cX9_hint 19 = .ok (.aload 4, 2) := by decide +kernel
theorem dX9_hint_21 : decode cX9_hint 21 = .ok (.invokevirtual 207, 3) := by decide +kernel
theorem dX9_hint_24 : decode cX9_hint 24 = .ok (.istore 5, 2) := by decide +kernel
theorem dX9_hint_26 : decode cX9_hint 26 = .ok (.iload 5, 2) := by decide +kernel
theorem dX9_hint_28 : decode cX9_hint 28 = .ok (.iconst (-1), 1) := by decide +kernel
theorem dX9_hint_29 : decode cX9_hint 29 = .ok (.if_icmp .eq 8, 3) := by decide +kernel
theorem dX9_hint_32 : decode cX9_hint 32 = .ok (.iload_n 2, 1) := by decide +kernel
theorem dX9_hint_33 : decode cX9_hint 33 = .ok (.iconst 1, 1) := by decide +kernel
theorem dX9_hint_34 : decode cX9_hint 34 = .ok (.if_icmp .ne 6, 3) := by decide +kernel
theorem dX9_hint_37 : decode cX9_hint 37 = .ok (.iload 5, 2) := by decide +kernel
theorem dX9_hint_39 : decode cX9_hint 39 = .ok (.ireturn, 1) := by decide +kernel
theorem dX9_hint_40 : decode cX9_hint 40 = .ok (.aload_n 3, 1) := by decide +kernel
theorem dX9_hint_41 : decode cX9_hint 41 = .ok (.getfield 211, 3) := by decide +kernel
theorem dX9_hint_44 : decode cX9_hint 44 = .ok (.iload 5, 2) := by decide +kernel
theorem dX9_hint_46 : decode cX9_hint 46 = .ok (.aaload, 1) := by decide +kernel
theorem dX9_hint_47 : decode cX9_hint 47 = .ok (.astore 6, 2) := by decide +kernel
theorem dX9_hint_49 : decode cX9_hint 49 = .ok (.aload_n 0, 1) := by decide +kernel
theorem dX9_hint_50 : decode cX9_hint 50 = .ok (.getfield 33, 3) := by decide +kernel
theorem dX9_hint_53 : decode cX9_hint 53 = .ok (.aload 4, 2) := by decide +kernel
theorem dX9_hint_55 : decode cX9_hint 55 = .ok (.aload 6, 2) := by decide +kernel
theorem dX9_hint_57 : decode cX9_hint 57 = .ok (.invokevirtual 215, 3) := by decide +kernel
theorem dX9_hint_60 : decode cX9_hint 60 = .ok (.aload_n 0, 1) := by decide +kernel
theorem dX9_hint_61 : decode cX9_hint 61 = .ok (.getfield 33, 3) := by decide +kernel
theorem dX9_hint_64 : decode cX9_hint 64 = .ok (.aload 4, 2) := by decide +kernel
theorem dX9_hint_66 : decode cX9_hint 66 = .ok (.aload 6, 2) := by decide +kernel
theorem dX9_hint_68 : decode cX9_hint 68 = .ok (.invokevirtual 219, 3) := by decide +kernel
theorem dX9_hint_71 : decode cX9_hint 71 = .ok (.istore 7, 2) := by decide +kernel
theorem dX9_hint_73 : decode cX9_hint 73 = .ok (.iload_n 2, 1) := by decide +kernel
theorem dX9_hint_74 : decode cX9_hint 74 = .ok (.ifCond .ne 11, 3) := by decide +kernel
theorem dX9_hint_77 : decode cX9_hint 77 = .ok (.aload_n 0, 1) := by decide +kernel
theorem dX9_hint_78 : decode cX9_hint 78 = .ok (.getfield 33, 3) := by decide +kernel
theorem dX9_hint_81 : decode cX9_hint 81 = .ok (.getfield 223, 3) := by decide +kernel
theorem dX9_hint_84 : decode cX9_hint 84 = .ok (.ireturn, 1) := by decide +kernel
theorem dX9_hint_85 : decode cX9_hint 85 = .ok (.iload_n 2, 1) := by decide +kernel
theorem dX9_hint_86 : decode cX9_hint 86 = .ok (.iconst 2, 1) := by decide +kernel
theorem dX9_hint_87 : decode cX9_hint 87 = .ok (.if_icmp .eq 9, 3) := by decide +kernel
theorem dX9_hint_90 : decode cX9_hint 90 = .ok (.iload 7, 2) := by decide +kernel
theorem dX9_hint_92 : decode cX9_hint 92 = .ok (.iconst (-1), 1) := by decide +kernel
theorem dX9_hint_93 : decode cX9_hint 93 = .ok (.if_icmp .ne 6, 3) := by decide +kernel
theorem dX9_hint_96 : decode cX9_hint 96 = .ok (.iload 7, 2) := by decide +kernel
theorem dX9_hint_98 : decode cX9_hint 98 = .ok (.ireturn, 1) := by decide +kernel
theorem dX9_hint_99 : decode cX9_hint 99 = .ok (.iload_n 2, 1) := by decide +kernel
theorem dX9_hint_100 : decode cX9_hint 100 = .ok (.iconst 3, 1) := by decide +kernel
theorem dX9_hint_101 : decode cX9_hint 101 = .ok (.if_icmp .ne 11, 3) := by decide +kernel
theorem dX9_hint_104 : decode cX9_hint 104 = .ok (.aload_n 0, 1) := by decide +kernel
theorem dX9_hint_105 : decode cX9_hint 105 = .ok (.getfield 33, 3) := by decide +kernel
theorem dX9_hint_108 : decode cX9_hint 108 = .ok (.getfield 226, 3) := by decide +kernel
theorem dX9_hint_111 : decode cX9_hint 111 = .ok (.ireturn, 1) := by decide +kernel
theorem dX9_hint_112 : decode cX9_hint 112 = .ok (.iload 7, 2) := by decide +kernel
theorem dX9_hint_114 : decode cX9_hint 114 = .ok (.iconst 2, 1) := by decide +kernel
theorem dX9_hint_115 : decode cX9_hint 115 = .ok (.if_icmp .ne 7, 3) := by decide +kernel
theorem dX9_hint_118 : decode cX9_hint 118 = .ok (.iconst (-1), 1) := by decide +kernel
theorem dX9_hint_119 : decode cX9_hint 119 = .ok (.goto 15, 3) := by decide +kernel
theorem dX9_hint_122 : decode cX9_hint 122 = .ok (.aload 6, 2) := by decide +kernel
theorem dX9_hint_124 : decode cX9_hint 124 = .ok (.aload_n 0, 1) := by decide +kernel
theorem dX9_hint_125 : decode cX9_hint 125 = .ok (.getfield 33, 3) := by decide +kernel
theorem dX9_hint_128 : decode cX9_hint 128 = .ok (.getfield 226, 3) := by decide +kernel
theorem dX9_hint_131 : decode cX9_hint 131 = .ok (.invokevirtual 229, 3) := by decide +kernel
theorem dX9_hint_134 : decode cX9_hint 134 = .ok (.ireturn, 1) := by decide +kernel
theorem dX9_alike_0 : decode cX9_alike 0 = .ok (.aload_n 0, 1) := by decide +kernel
theorem dX9_alike_1 : decode cX9_alike 1 = .ok (.iload_n 1, 1) := by decide +kernel
theorem dX9_alike_2 : decode cX9_alike 2 = .ok (.invokevirtual 134, 3) := by decide +kernel
theorem dX9_alike_5 : decode cX9_alike 5 = .ok (.astore 5, 2) := by decide +kernel
theorem dX9_alike_7 : decode cX9_alike 7 = .ok (.aload_n 0, 1) := by decide +kernel
theorem dX9_alike_8 : decode cX9_alike 8 = .ok (.iload_n 2, 1) := by decide +kernel
theorem dX9_alike_9 : decode cX9_alike 9 = .ok (.invokevirtual 142, 3) := by decide +kernel
theorem dX9_alike_12 : decode cX9_alike 12 = .ok (.pop, 1) := by decide +kernel
theorem dX9_alike_13 : decode cX9_alike 13 = .ok (.aload_n 0, 1) := by decide +kernel
theorem dX9_alike_14 : decode cX9_alike 14 = .ok (.iload_n 3, 1) := by decide +kernel
theorem dX9_alike_15 : decode cX9_alike 15 = .ok (.invokevirtual 142, 3) := by decide +kernel
theorem dX9_alike_18 : decode cX9_alike 18 = .ok (.pop, 1) := by decide +kernel
theorem dX9_alike_19 : decode cX9_alike 19 = .ok (.aload 5, 2) := by decide +kernel
theorem dX9_alike_21 : decode cX9_alike 21 = .ok (.getfield 232, 3) := by decide +kernel
theorem dX9_alike_24 : decode cX9_alike 24 = .ok (.iload_n 2, 1) := by decide +kernel
theorem dX9_alike_25 : decode cX9_alike 25 = .ok (.aaload, 1) := by decide +kernel
theorem dX9_alike_26 : decode cX9_alike 26 = .ok (.astore 6, 2) := by decide +kernel
theorem dX9_alike_28 : decode cX9_alike 28 = .ok (.aload 5, 2) := by decide +kernel
theorem dX9_alike_30 : decode cX9_alike 30 = .ok (.getfield 232, 3) := by decide +kernel
theorem dX9_alike_33 : decode cX9_alike 33 = .ok (.iload_n 3, 1) := by decide +kernel
theorem dX9_alike_34 : decode cX9_alike 34 = .ok (.aaload, 1) := by decide +kernel
theorem dX9_alike_35 : decode cX9_alike 35 = .ok (.astore 7, 2) := by decide +kernel
theorem dX9_alike_37 : decode cX9_alike 37 = .ok (.iload_n 2, 1) := by decide +kernel
theorem dX9_alike_38 : decode cX9_alike 38 = .ok (.iload_n 3, 1) := by decide +kernel
theorem dX9_alike_39 : decode cX9_alike 39 = .ok (.if_icmp .eq 13, 3) := by decide +kernel
theorem dX9_alike_42 : decode cX9_alike 42 = .ok (.aload 6, 2) := by decide +kernel
theorem dX9_alike_44 : decode cX9_alike 44 = .ok (.ifnull 8, 3) := by decide +kernel
theorem dX9_alike_47 : decode cX9_alike 47 = .ok (.aload 7, 2) := by decide +kernel
theorem dX9_alike_49 : decode cX9_alike 49 = .ok (.ifnonnull 5, 3) := by decide +kernel
theorem dX9_alike_52 : decode cX9_alike 52 = .ok (.iconst 0, 1) := by decide +kernel
theorem dX9_alike_53 : decode cX9_alike 53 = .ok (.ireturn, 1) := by decide +kernel
theorem dX9_alike_54 : decode cX9_alike 54 = .ok (.aload 6, 2) := by decide +kernel
theorem dX9_alike_56 : decode cX9_alike 56 = .ok (.invokevirtual 90, 3) := by decide +kernel
theorem dX9_alike_59 : decode cX9_alike 59 = .ok (.iload 4, 2) := by decide +kernel
theorem dX9_alike_61 : decode cX9_alike 61 = .ok (.if_icmp .lt 17, 3) := by decide +kernel
theorem dX9_alike_64 : decode cX9_alike 64 = .ok (.aload 6, 2) := by decide +kernel
theorem dX9_alike_66 : decode cX9_alike 66 = .ok (.aload 7, 2) := by decide +kernel
theorem dX9_alike_68 : decode cX9_alike 68 = .ok (.invokevirtual 235, 3) := by decide +kernel
theorem dX9_alike_71 : decode cX9_alike 71 = .ok (.ifCond .eq 7, 3) := by decide +kernel
theorem dX9_alike_74 : decode cX9_alike 74 = .ok (.iconst 1, 1) := by decide +kernel
theorem dX9_alike_75 : decode cX9_alike 75 = .ok (.goto 4, 3) := by decide +kernel
theorem dX9_alike_78 : decode cX9_alike 78 = .ok (.iconst 0, 1) := by decide +kernel
theorem dX9_alike_79 : decode cX9_alike 79 = .ok (.ireturn, 1) := by decide +kernel
theorem dX9_token_0 : decode cX9_token 0 = .ok (.aload_n 0, 1) := by decide +kernel
theorem dX9_token_1 : decode cX9_token 1 = .ok (.getfield 83, 3) := by decide +kernel
theorem dX9_token_4 : decode cX9_token 4 = .ok (.ifnonnull 7, 3) := by decide +kernel
theorem dX9_token_7 : decode cX9_token 7 = .ok (.iconst (-1), 1) := by decide +kernel
theorem dX9_token_8 : decode cX9_token 8 = .ok (.goto 11, 3) := by decide +kernel
theorem dX9_token_11 : decode cX9_token 11 = .ok (.aload_n 0, 1) := by decide +kernel
theorem dX9_token_12 : decode cX9_token 12 = .ok (.getfield 83, 3) := by decide +kernel
theorem dX9_token_15 : decode cX9_token 15 = .ok (.iload_n 1, 1) := by decide +kernel
theorem dX9_token_16 : decode cX9_token 16 = .ok (.invokevirtual 229, 3) := by decide +kernel
theorem dX9_token_19 : decode cX9_token 19 = .ok (.ireturn, 1) := by decide +kernel
theorem dX9_count_0 : decode cX9_count 0 = .ok (.iload_n 1, 1) := by decide +kernel
theorem dX9_count_1 : decode cX9_count 1 = .ok (.tableswitch 74 0 4 #[35, 40, 59, 64, 69], 35) := by decide +kernel
theorem dX9_count_36 : decode cX9_count 36 = .ok (.aload_n 0, 1) := by decide +kernel
theorem dX9_count_37 : decode cX9_count 37 = .ok (.getfield 124, 3) := by decide +kernel
theorem dX9_count_40 : decode cX9_count 40 = .ok (.ireturn, 1) := by decide +kernel
theorem dX9_count_41 : decode cX9_count 41 = .ok (.aload_n 0, 1) := by decide +kernel
theorem dX9_count_42 : decode cX9_count 42 = .ok (.getfield 83, 3) := by decide +kernel
theorem dX9_count_45 : decode cX9_count 45 = .ok (.ifnonnull 7, 3) := by decide +kernel
theorem dX9_count_48 : decode cX9_count 48 = .ok (.iconst 0, 1) := by decide +kernel
theorem dX9_count_49 : decode cX9_count 49 = .ok (.goto 10, 3) := by decide +kernel
theorem dX9_count_52 : decode cX9_count 52 = .ok (.aload_n 0, 1) := by decide +kernel
theorem dX9_count_53 : decode cX9_count 53 = .ok (.getfield 83, 3) := by decide +kernel
theorem dX9_count_56 : decode cX9_count 56 = .ok (.invokevirtual 90, 3) := by decide +kernel
theorem dX9_count_59 : decode cX9_count 59 = .ok (.ireturn, 1) := by decide +kernel
theorem dX9_count_60 : decode cX9_count 60 = .ok (.aload_n 0, 1) := by decide +kernel
theorem dX9_count_61 : decode cX9_count 61 = .ok (.getfield 87, 3) := by decide +kernel
theorem dX9_count_64 : decode cX9_count 64 = .ok (.ireturn, 1) := by decide +kernel
theorem dX9_count_65 : decode cX9_count 65 = .ok (.aload_n 0, 1) := by decide +kernel
theorem dX9_count_66 : decode cX9_count 66 = .ok (.getfield 149, 3) := by decide +kernel
theorem dX9_count_69 : decode cX9_count 69 = .ok (.ireturn, 1) := by decide +kernel
theorem dX9_count_70 : decode cX9_count 70 = .ok (.aload_n 0, 1) := by decide +kernel
theorem dX9_count_71 : decode cX9_count 71 = .ok (.getfield 162, 3) := by decide +kernel
theorem dX9_count_74 : decode cX9_count 74 = .ok (.ireturn, 1) := by decide +kernel
theorem dX9_count_75 : decode cX9_count 75 = .ok (.iconst (-1), 1) := by decide +kernel
theorem dX9_count_76 : decode cX9_count 76 = .ok (.ireturn, 1) := by decide +kernel
theorem dX9_nearestWay_0 : decode cX9_nearestWay 0 = .ok (.iconst (-1), 1) := by decide +kernel
theorem dX9_nearestWay_1 : decode cX9_nearestWay 1 = .ok (.istore_n 3, 1) := by decide +kernel
theorem dX9_nearestWay_2 : decode cX9_nearestWay 2 = .ok (.iconst 0, 1) := by decide +kernel
theorem dX9_nearestWay_3 : decode cX9_nearestWay 3 = .ok (.istore 4, 2) := by decide +kernel
theorem dX9_nearestWay_5 : decode cX9_nearestWay 5 = .ok (.iconst 0, 1) := by decide +kernel
theorem dX9_nearestWay_6 : decode cX9_nearestWay 6 = .ok (.istore 5, 2) := by decide +kernel
theorem dX9_nearestWay_8 : decode cX9_nearestWay 8 = .ok (.iload 5, 2) := by decide +kernel
theorem dX9_nearestWay_10 : decode cX9_nearestWay 10 = .ok (.aload_n 1, 1) := by decide +kernel
theorem dX9_nearestWay_11 : decode cX9_nearestWay 11 = .ok (.getfield 201, 3) := by decide +kernel
theorem dX9_nearestWay_14 : decode cX9_nearestWay 14 = .ok (.if_icmp .ge 53, 3) := by decide +kernel
theorem dX9_nearestWay_17 : decode cX9_nearestWay 17 = .ok (.aload_n 0, 1) := by decide +kernel
theorem dX9_nearestWay_18 : decode cX9_nearestWay 18 = .ok (.getfield 33, 3) := by decide +kernel
theorem dX9_nearestWay_21 : decode cX9_nearestWay 21 = .ok (.aload_n 2, 1) := by decide +kernel
theorem dX9_nearestWay_22 : decode cX9_nearestWay 22 = .ok (.aload_n 1, 1) := by decide +kernel
theorem dX9_nearestWay_23 : decode cX9_nearestWay 23 = .ok (.getfield 211, 3) := by decide +kernel
theorem dX9_nearestWay_26 : decode cX9_nearestWay 26 = .ok (.iload 5, 2) := by decide +kernel
theorem dX9_nearestWay_28 : decode cX9_nearestWay 28 = .ok (.aaload, 1) := by decide +kernel
theorem dX9_nearestWay_29 : decode cX9_nearestWay 29 = .ok (.invokevirtual 215, 3) := by decide +kernel
theorem dX9_nearestWay_32 : decode cX9_nearestWay 32 = .ok (.iload_n 3, 1) := by decide +kernel
theorem dX9_nearestWay_33 : decode cX9_nearestWay 33 = .ok (.iconst (-1), 1) := by decide +kernel
theorem dX9_nearestWay_34 : decode cX9_nearestWay 34 = .ok (.if_icmp .eq 15, 3) := by decide +kernel
theorem dX9_nearestWay_37 : decode cX9_nearestWay 37 = .ok (.aload_n 0, 1) := by decide +kernel
theorem dX9_nearestWay_38 : decode cX9_nearestWay 38 = .ok (.getfield 33, 3) := by decide +kernel
theorem dX9_nearestWay_41 : decode cX9_nearestWay 41 = .ok (.getfield 223, 3) := by decide +kernel
theorem dX9_nearestWay_44 : decode cX9_nearestWay 44 = .ok (.iload 4, 2) := by decide +kernel
theorem dX9_nearestWay_46 : decode cX9_nearestWay 46 = .ok (.if_icmp .ge 15, 3) := by decide +kernel
theorem dX9_nearestWay_49 : decode cX9_nearestWay 49 = .ok (.iload 5, 2) := by decide +kernel
theorem dX9_nearestWay_51 : decode cX9_nearestWay 51 = .ok (.istore_n 3, 1) := by decide +kernel
theorem dX9_nearestWay_52 : decode cX9_nearestWay 52 = .ok (.aload_n 0, 1) := by decide +kernel
theorem dX9_nearestWay_53 : decode cX9_nearestWay 53 = .ok (.getfield 33, 3) := by decide +kernel
theorem dX9_nearestWay_56 : decode cX9_nearestWay 56 = .ok (.getfield 223, 3) := by decide +kernel
theorem dX9_nearestWay_59 : decode cX9_nearestWay 59 = .ok (.istore 4, 2) := by decide +kernel
theorem dX9_nearestWay_61 : decode cX9_nearestWay 61 = .ok (.iinc 5 1, 3) := by decide +kernel
theorem dX9_nearestWay_64 : decode cX9_nearestWay 64 = .ok (.goto (-56), 3) := by decide +kernel
theorem dX9_nearestWay_67 : decode cX9_nearestWay 67 = .ok (.iload_n 3, 1) := by decide +kernel
theorem dX9_nearestWay_68 : decode cX9_nearestWay 68 = .ok (.ireturn, 1) := by decide +kernel
theorem dX9_taskAt_0 : decode cX9_taskAt 0 = .ok (.iload_n 1, 1) := by decide +kernel
theorem dX9_taskAt_1 : decode cX9_taskAt 1 = .ok (.ifCond .lt 11, 3) := by decide +kernel
theorem dX9_taskAt_4 : decode cX9_taskAt 4 = .ok (.iload_n 1, 1) := by decide +kernel
theorem dX9_taskAt_5 : decode cX9_taskAt 5 = .ok (.aload_n 0, 1) := by decide +kernel
theorem dX9_taskAt_6 : decode cX9_taskAt 6 = .ok (.getfield 124, 3) := by decide +kernel
theorem dX9_taskAt_9 : decode cX9_taskAt 9 = .ok (.if_icmp .lt 13, 3) := by decide +kernel
theorem dX9_taskAt_12 : decode cX9_taskAt 12 = .ok (.new 239, 3) := by decide +kernel
theorem dX9_taskAt_15 : decode cX9_taskAt 15 = .ok (.dup, 1) := by decide +kernel
theorem dX9_taskAt_16 : decode cX9_taskAt 16 = .ok (.ldc 241, 2) := by decide +kernel
theorem dX9_taskAt_18 : decode cX9_taskAt 18 = .ok (.invokespecial 243, 3) := by decide +kernel
theorem dX9_taskAt_21 : decode cX9_taskAt 21 = .ok (.athrow, 1) := by decide +kernel
theorem dX9_taskAt_22 : decode cX9_taskAt 22 = .ok (.aload_n 0, 1) := by decide +kernel
theorem dX9_taskAt_23 : decode cX9_taskAt 23 = .ok (.getfield 46, 3) := by decide +kernel
theorem dX9_taskAt_26 : decode cX9_taskAt 26 = .ok (.iload_n 1, 1) := by decide +kernel
theorem dX9_taskAt_27 : decode cX9_taskAt 27 = .ok (.aaload, 1) := by decide +kernel
theorem dX9_taskAt_28 : decode cX9_taskAt 28 = .ok (.areturn, 1) := by decide +kernel
theorem dX9_learnerAt_0 : decode cX9_learnerAt 0 = .ok (.iload_n 1, 1) := by decide +kernel
theorem dX9_learnerAt_1 : decode cX9_learnerAt 1 = .ok (.ifCond .lt 9, 3) := by decide +kernel
theorem dX9_learnerAt_4 : decode cX9_learnerAt 4 = .ok (.iload_n 1, 1) := by decide +kernel
theorem dX9_learnerAt_5 : decode cX9_learnerAt 5 = .ok (.bipush 8, 2) := by decide +kernel
theorem dX9_learnerAt_7 : decode cX9_learnerAt 7 = .ok (.if_icmp .lt 13, 3) := by decide +kernel
theorem dX9_learnerAt_10 : decode cX9_learnerAt 10 = .ok (.new 239, 3) := by decide +kernel
theorem dX9_learnerAt_13 : decode cX9_learnerAt 13 = .ok (.dup, 1) := by decide +kernel
theorem dX9_learnerAt_14 : decode cX9_learnerAt 14 = .ok (.ldc 244, 2) := by decide +kernel
theorem dX9_learnerAt_16 : decode cX9_learnerAt 16 = .ok (.invokespecial 243, 3) := by decide +kernel
theorem dX9_learnerAt_19 : decode cX9_learnerAt 19 = .ok (.athrow, 1) := by decide +kernel
theorem dX9_learnerAt_20 : decode cX9_learnerAt 20 = .ok (.aload_n 0, 1) := by decide +kernel
theorem dX9_learnerAt_21 : decode cX9_learnerAt 21 = .ok (.getfield 52, 3) := by decide +kernel
theorem dX9_learnerAt_24 : decode cX9_learnerAt 24 = .ok (.iload_n 1, 1) := by decide +kernel
theorem dX9_learnerAt_25 : decode cX9_learnerAt 25 = .ok (.aaload, 1) := by decide +kernel
theorem dX9_learnerAt_26 : decode cX9_learnerAt 26 = .ok (.areturn, 1) := by decide +kernel
theorem dX9_programOnSlate_0 : decode cX9_programOnSlate 0 = .ok (.aload_n 0, 1) := by decide +kernel
theorem dX9_programOnSlate_1 : decode cX9_programOnSlate 1 = .ok (.getfield 83, 3) := by decide +kernel
theorem dX9_programOnSlate_4 : decode cX9_programOnSlate 4 = .ok (.ifnonnull 13, 3) := by decide +kernel
theorem dX9_programOnSlate_7 : decode cX9_programOnSlate 7 = .ok (.new 246, 3) := by decide +kernel
theorem dX9_programOnSlate_10 : decode cX9_programOnSlate 10 = .ok (.dup, 1) := by decide +kernel
theorem dX9_programOnSlate_11 : decode cX9_programOnSlate 11 = .ok (.ldc 248, 2) := by decide +kernel
theorem dX9_programOnSlate_13 : decode cX9_programOnSlate 13 = .ok (.invokespecial 250, 3) := by decide +kernel
theorem dX9_programOnSlate_16 : decode cX9_programOnSlate 16 = .ok (.athrow, 1) := by decide +kernel
theorem dX9_programOnSlate_17 : decode cX9_programOnSlate 17 = .ok (.aload_n 0, 1) := by decide +kernel
theorem dX9_programOnSlate_18 : decode cX9_programOnSlate 18 = .ok (.getfield 83, 3) := by decide +kernel
theorem dX9_programOnSlate_21 : decode cX9_programOnSlate 21 = .ok (.areturn, 1) := by decide +kernel
theorem dX9_checkSkill_0 : decode cX9_checkSkill 0 = .ok (.iload_n 0, 1) := by decide +kernel
theorem dX9_checkSkill_1 : decode cX9_checkSkill 1 = .ok (.ifCond .lt 9, 3) := by decide +kernel
theorem dX9_checkSkill_4 : decode cX9_checkSkill 4 = .ok (.iload_n 0, 1) := by decide +kernel
theorem dX9_checkSkill_5 : decode cX9_checkSkill 5 = .ok (.bipush 8, 2) := by decide +kernel
theorem dX9_checkSkill_7 : decode cX9_checkSkill 7 = .ok (.if_icmp .lt 13, 3) := by decide +kernel
theorem dX9_checkSkill_10 : decode cX9_checkSkill 10 = .ok (.new 239, 3) := by decide +kernel
theorem dX9_checkSkill_13 : decode cX9_checkSkill 13 = .ok (.dup, 1) := by decide +kernel
theorem dX9_checkSkill_14 : decode cX9_checkSkill 14 = .ok (.ldc 251, 2) := by decide +kernel
theorem dX9_checkSkill_16 : decode cX9_checkSkill 16 = .ok (.invokespecial 243, 3) := by decide +kernel
theorem dX9_checkSkill_19 : decode cX9_checkSkill 19 = .ok (.athrow, 1) := by decide +kernel
theorem dX9_checkSkill_20 : decode cX9_checkSkill 20 = .ok (.return_, 1) := by decide +kernel
theorem dX9_checkWhat_0 : decode cX9_checkWhat 0 = .ok (.iload_n 0, 1) := by decide +kernel
theorem dX9_checkWhat_1 : decode cX9_checkWhat 1 = .ok (.ifCond .lt 8, 3) := by decide +kernel
theorem dX9_checkWhat_4 : decode cX9_checkWhat 4 = .ok (.iload_n 0, 1) := by decide +kernel
theorem dX9_checkWhat_5 : decode cX9_checkWhat 5 = .ok (.iload_n 1, 1) := by decide +kernel
theorem dX9_checkWhat_6 : decode cX9_checkWhat 6 = .ok (.if_icmp .le 13, 3) := by decide +kernel
theorem dX9_checkWhat_9 : decode cX9_checkWhat 9 = .ok (.new 253, 3) := by decide +kernel
theorem dX9_checkWhat_12 : decode cX9_checkWhat 12 = .ok (.dup, 1) := by decide +kernel
theorem dX9_checkWhat_13 : decode cX9_checkWhat 13 = .ok (.ldc 255, 2) := by decide +kernel
theorem dX9_checkWhat_15 : decode cX9_checkWhat 15 = .ok (.invokespecial 257, 3) := by decide +kernel
theorem dX9_checkWhat_18 : decode cX9_checkWhat 18 = .ok (.athrow, 1) := by decide +kernel
theorem dX9_checkWhat_19 : decode cX9_checkWhat 19 = .ok (.return_, 1) := by decide +kernel
theorem dX9_isSet_0 : decode cX9_isSet 0 = .ok (.iload_n 0, 1) := by decide +kernel
theorem dX9_isSet_1 : decode cX9_isSet 1 = .ok (.ifCond .lt 14, 3) := by decide +kernel
theorem dX9_isSet_4 : decode cX9_isSet 4 = .ok (.iload_n 0, 1) := by decide +kernel
theorem dX9_isSet_5 : decode cX9_isSet 5 = .ok (.sipush 256, 3) := by decide +kernel
theorem dX9_isSet_8 : decode cX9_isSet 8 = .ok (.if_icmp .ge 7, 3) := by decide +kernel
theorem dX9_isSet_11 : decode cX9_isSet 11 = .ok (.iconst 1, 1) := by decide +kernel
theorem dX9_isSet_12 : decode cX9_isSet 12 = .ok (.goto 4, 3) := by decide +kernel
theorem dX9_isSet_15 : decode cX9_isSet 15 = .ok (.iconst 0, 1) := by decide +kernel
theorem dX9_isSet_16 : decode cX9_isSet 16 = .ok (.ireturn, 1) := by decide +kernel
theorem dX9_variableOf_0 : decode cX9_variableOf 0 = .ok (.iload_n 0, 1) := by decide +kernel
theorem dX9_variableOf_1 : decode cX9_variableOf 1 = .ok (.lookupswitch 61 #[(97, 51), (98, 53), (99, 55), (100, 57), (114, 59)], 51) := by decide +kernel
theorem dX9_variableOf_52 : decode cX9_variableOf 52 = .ok (.iconst 0, 1) := by decide +kernel
theorem dX9_variableOf_53 : decode cX9_variableOf 53 = .ok (.ireturn, 1) := by decide +kernel
theorem dX9_variableOf_54 : decode cX9_variableOf 54 = .ok (.iconst 1, 1) := by decide +kernel
theorem dX9_variableOf_55 : decode cX9_variableOf 55 = .ok (.ireturn, 1) := by decide +kernel
theorem dX9_variableOf_56 : decode cX9_variableOf 56 = .ok (.iconst 2, 1) := by decide +kernel
theorem dX9_variableOf_57 : decode cX9_variableOf 57 = .ok (.ireturn, 1) := by decide +kernel
theorem dX9_variableOf_58 : decode cX9_variableOf 58 = .ok (.iconst 3, 1) := by decide +kernel
theorem dX9_variableOf_59 : decode cX9_variableOf 59 = .ok (.ireturn, 1) := by decide +kernel
theorem dX9_variableOf_60 : decode cX9_variableOf 60 = .ok (.iconst 4, 1) := by decide +kernel
theorem dX9_variableOf_61 : decode cX9_variableOf 61 = .ok (.ireturn, 1) := by decide +kernel
theorem dX9_variableOf_62 : decode cX9_variableOf 62 = .ok (.iconst (-1), 1) := by decide +kernel
theorem dX9_variableOf_63 : decode cX9_variableOf 63 = .ok (.ireturn, 1) := by decide +kernel
theorem dX9_levelOf_0 : decode cX9_levelOf 0 = .ok (.iload_n 0, 1) := by decide +kernel
theorem dX9_levelOf_1 : decode cX9_levelOf 1 = .ok (.lookupswitch 65 #[(37, 63), (42, 63), (43, 61), (45, 61), (47, 63), (60, 59)], 59) := by decide +kernel
theorem dX9_levelOf_60 : decode cX9_levelOf 60 = .ok (.iconst 0, 1) := by decide +kernel
theorem dX9_levelOf_61 : decode cX9_levelOf 61 = .ok (.ireturn, 1) := by decide +kernel
theorem dX9_levelOf_62 : decode cX9_levelOf 62 = .ok (.iconst 1, 1) := by decide +kernel
theorem dX9_levelOf_63 : decode cX9_levelOf 63 = .ok (.ireturn, 1) := by decide +kernel
theorem dX9_levelOf_64 : decode cX9_levelOf 64 = .ok (.iconst 2, 1) := by decide +kernel
theorem dX9_levelOf_65 : decode cX9_levelOf 65 = .ok (.ireturn, 1) := by decide +kernel
theorem dX9_levelOf_66 : decode cX9_levelOf 66 = .ok (.iconst (-1), 1) := by decide +kernel
theorem dX9_levelOf_67 : decode cX9_levelOf 67 = .ok (.ireturn, 1) := by decide +kernel
theorem dX9_skillOf_0 : decode cX9_skillOf 0 = .ok (.iload_n 0, 1) := by decide +kernel
theorem dX9_skillOf_1 : decode cX9_skillOf 1 = .ok (.lookupswitch 50 #[(42, 48), (43, 46), (45, 46), (60, 43)], 43) := by decide +kernel
theorem dX9_skillOf_44 : decode cX9_skillOf 44 = .ok (.bipush 16, 2) := by decide +kernel
theorem dX9_skillOf_46 : decode cX9_skillOf 46 = .ok (.ireturn, 1) := by decide +kernel
theorem dX9_skillOf_47 : decode cX9_skillOf 47 = .ok (.iconst 2, 1) := by decide +kernel
theorem dX9_skillOf_48 : decode cX9_skillOf 48 = .ok (.ireturn, 1) := by decide +kernel
theorem dX9_skillOf_49 : decode cX9_skillOf 49 = .ok (.iconst 4, 1) := by decide +kernel
theorem dX9_skillOf_50 : decode cX9_skillOf 50 = .ok (.ireturn, 1) := by decide +kernel
theorem dX9_skillOf_51 : decode cX9_skillOf 51 = .ok (.bipush 8, 2) := by decide +kernel
theorem dX9_skillOf_53 : decode cX9_skillOf 53 = .ok (.ireturn, 1) := by decide +kernel
