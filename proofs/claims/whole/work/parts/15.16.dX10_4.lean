theorem dX10_world_73 : decode cX10_world 73 = .ok (.iadd, 1) := by decide +kernel
theorem dX10_world_74 : decode cX10_world 74 = .ok (.iload 4, 2) := by decide +kernel
theorem dX10_world_76 : decode cX10_world 76 = .ok (.iastore, 1) := by decide +kernel
theorem dX10_world_77 : decode cX10_world 77 = .ok (.aload_n 0, 1) := by decide +kernel
theorem dX10_world_78 : decode cX10_world 78 = .ok (.getfield 49, 3) := by decide +kernel
theorem dX10_world_81 : decode cX10_world 81 = .ok (.iload_n 1, 1) := by decide +kernel
theorem dX10_world_82 : decode cX10_world 82 = .ok (.dup2, 1) := by decide +kernel
theorem dX10_world_83 : decode cX10_world 83 = .ok (.iaload, 1) := by decide +kernel
theorem dX10_world_84 : decode cX10_world 84 = .ok (.iconst 1, 1) := by decide +kernel
theorem dX10_world_85 : decode cX10_world 85 = .ok (.iadd, 1) := by decide +kernel
theorem dX10_world_86 : decode cX10_world 86 = .ok (.iastore, 1) := by decide +kernel
theorem dX10_world_87 : decode cX10_world 87 = .ok (.aload_n 0, 1) := by decide +kernel
theorem dX10_world_88 : decode cX10_world 88 = .ok (.getfield 49, 3) := by decide +kernel
theorem dX10_world_91 : decode cX10_world 91 = .ok (.iload_n 1, 1) := by decide +kernel
theorem dX10_world_92 : decode cX10_world 92 = .ok (.iaload, 1) := by decide +kernel
theorem dX10_world_93 : decode cX10_world 93 = .ok (.iconst 1, 1) := by decide +kernel
theorem dX10_world_94 : decode cX10_world 94 = .ok (.isub, 1) := by decide +kernel
theorem dX10_world_95 : decode cX10_world 95 = .ok (.ireturn, 1) := by decide +kernel
theorem dX10_shaped_0 : decode cX10_shaped 0 = .ok (.aload_n 0, 1) := by decide +kernel
theorem dX10_shaped_1 : decode cX10_shaped 1 = .ok (.iload_n 1, 1) := by decide +kernel
theorem dX10_shaped_2 : decode cX10_shaped 2 = .ok (.iload_n 3, 1) := by decide +kernel
theorem dX10_shaped_3 : decode cX10_shaped 3 = .ok (.iadd, 1) := by decide +kernel
theorem dX10_shaped_4 : decode cX10_shaped 4 = .ok (.iaload, 1) := by decide +kernel
theorem dX10_shaped_5 : decode cX10_shaped 5 = .ok (.istore 4, 2) := by decide +kernel
theorem dX10_shaped_7 : decode cX10_shaped 7 = .ok (.iload 4, 2) := by decide +kernel
theorem dX10_shaped_9 : decode cX10_shaped 9 = .ok (.bipush 99, 2) := by decide +kernel
theorem dX10_shaped_11 : decode cX10_shaped 11 = .ok (.if_icmp .eq 13, 3) := by decide +kernel
theorem dX10_shaped_14 : decode cX10_shaped 14 = .ok (.iload 4, 2) := by decide +kernel
theorem dX10_shaped_16 : decode cX10_shaped 16 = .ok (.bipush 100, 2) := by decide +kernel
theorem dX10_shaped_18 : decode cX10_shaped 18 = .ok (.if_icmp .eq 6, 3) := by decide +kernel
theorem dX10_shaped_21 : decode cX10_shaped 21 = .ok (.iload 4, 2) := by decide +kernel
theorem dX10_shaped_23 : decode cX10_shaped 23 = .ok (.ireturn, 1) := by decide +kernel
theorem dX10_shaped_24 : decode cX10_shaped 24 = .ok (.iconst 0, 1) := by decide +kernel
theorem dX10_shaped_25 : decode cX10_shaped 25 = .ok (.istore 5, 2) := by decide +kernel
theorem dX10_shaped_27 : decode cX10_shaped 27 = .ok (.iload 5, 2) := by decide +kernel
theorem dX10_shaped_29 : decode cX10_shaped 29 = .ok (.iload_n 2, 1) := by decide +kernel
theorem dX10_shaped_30 : decode cX10_shaped 30 = .ok (.if_icmp .ge 50, 3) := by decide +kernel
theorem dX10_shaped_33 : decode cX10_shaped 33 = .ok (.aload_n 0, 1) := by decide +kernel
theorem dX10_shaped_34 : decode cX10_shaped 34 = .ok (.iload_n 1, 1) := by decide +kernel
theorem dX10_shaped_35 : decode cX10_shaped 35 = .ok (.iload 5, 2) := by decide +kernel
theorem dX10_shaped_37 : decode cX10_shaped 37 = .ok (.iadd, 1) := by decide +kernel
theorem dX10_shaped_38 : decode cX10_shaped 38 = .ok (.iaload, 1) := by decide +kernel
theorem dX10_shaped_39 : decode cX10_shaped 39 = .ok (.bipush 99, 2) := by decide +kernel
theorem dX10_shaped_41 : decode cX10_shaped 41 = .ok (.if_icmp .eq 14, 3) := by decide +kernel
theorem dX10_shaped_44 : decode cX10_shaped 44 = .ok (.aload_n 0, 1) := by decide +kernel
theorem dX10_shaped_45 : decode cX10_shaped 45 = .ok (.iload_n 1, 1) := by decide +kernel
theorem dX10_shaped_46 : decode cX10_shaped 46 = .ok (.iload 5, 2) := by decide +kernel
theorem dX10_shaped_48 : decode cX10_shaped 48 = .ok (.iadd, 1) := by decide +kernel
theorem dX10_shaped_49 : decode cX10_shaped 49 = .ok (.iaload, 1) := by decide +kernel
theorem dX10_shaped_50 : decode cX10_shaped 50 = .ok (.bipush 100, 2) := by decide +kernel
theorem dX10_shaped_52 : decode cX10_shaped 52 = .ok (.if_icmp .ne 22, 3) := by decide +kernel
theorem dX10_shaped_55 : decode cX10_shaped 55 = .ok (.aload_n 0, 1) := by decide +kernel
theorem dX10_shaped_56 : decode cX10_shaped 56 = .ok (.iload_n 1, 1) := by decide +kernel
theorem dX10_shaped_57 : decode cX10_shaped 57 = .ok (.iload 5, 2) := by decide +kernel
theorem dX10_shaped_59 : decode cX10_shaped 59 = .ok (.iadd, 1) := by decide +kernel
theorem dX10_shaped_60 : decode cX10_shaped 60 = .ok (.iaload, 1) := by decide +kernel
theorem dX10_shaped_61 : decode cX10_shaped 61 = .ok (.iload 4, 2) := by decide +kernel
theorem dX10_shaped_63 : decode cX10_shaped 63 = .ok (.if_icmp .ne 8, 3) := by decide +kernel
theorem dX10_shaped_66 : decode cX10_shaped 66 = .ok (.bipush 99, 2) := by decide +kernel
theorem dX10_shaped_68 : decode cX10_shaped 68 = .ok (.goto 5, 3) := by decide +kernel
theorem dX10_shaped_71 : decode cX10_shaped 71 = .ok (.bipush 100, 2) := by decide +kernel
theorem dX10_shaped_73 : decode cX10_shaped 73 = .ok (.ireturn, 1) := by decide +kernel
theorem dX10_shaped_74 : decode cX10_shaped 74 = .ok (.iinc 5 1, 3) := by decide +kernel
theorem dX10_shaped_77 : decode cX10_shaped 77 = .ok (.goto (-50), 3) := by decide +kernel
theorem dX10_shaped_80 : decode cX10_shaped 80 = .ok (.iload 4, 2) := by decide +kernel
theorem dX10_shaped_82 : decode cX10_shaped 82 = .ok (.ireturn, 1) := by decide +kernel
theorem dX10_isShape_0 : decode cX10_isShape 0 = .ok (.aload_n 0, 1) := by decide +kernel
theorem dX10_isShape_1 : decode cX10_isShape 1 = .ok (.getfield 58, 3) := by decide +kernel
theorem dX10_isShape_4 : decode cX10_isShape 4 = .ok (.iload_n 1, 1) := by decide +kernel
theorem dX10_isShape_5 : decode cX10_isShape 5 = .ok (.iaload, 1) := by decide +kernel
theorem dX10_isShape_6 : decode cX10_isShape 6 = .ok (.aload_n 0, 1) := by decide +kernel
theorem dX10_isShape_7 : decode cX10_isShape 7 = .ok (.getfield 184, 3) := by decide +kernel
theorem dX10_isShape_10 : decode cX10_isShape 10 = .ok (.if_icmp .eq 5, 3) := by decide +kernel
theorem dX10_isShape_13 : decode cX10_isShape 13 = .ok (.iconst 0, 1) := by decide +kernel
theorem dX10_isShape_14 : decode cX10_isShape 14 = .ok (.ireturn, 1) := by decide +kernel
theorem dX10_isShape_15 : decode cX10_isShape 15 = .ok (.iconst 0, 1) := by decide +kernel
theorem dX10_isShape_16 : decode cX10_isShape 16 = .ok (.istore_n 2, 1) := by decide +kernel
theorem dX10_isShape_17 : decode cX10_isShape 17 = .ok (.iload_n 2, 1) := by decide +kernel
theorem dX10_isShape_18 : decode cX10_isShape 18 = .ok (.aload_n 0, 1) := by decide +kernel
theorem dX10_isShape_19 : decode cX10_isShape 19 = .ok (.getfield 184, 3) := by decide +kernel
theorem dX10_isShape_22 : decode cX10_isShape 22 = .ok (.if_icmp .ge 43, 3) := by decide +kernel
theorem dX10_isShape_25 : decode cX10_isShape 25 = .ok (.aload_n 0, 1) := by decide +kernel
theorem dX10_isShape_26 : decode cX10_isShape 26 = .ok (.getfield 61, 3) := by decide +kernel
theorem dX10_isShape_29 : decode cX10_isShape 29 = .ok (.bipush 120, 2) := by decide +kernel
theorem dX10_isShape_31 : decode cX10_isShape 31 = .ok (.iload_n 1, 1) := by decide +kernel
theorem dX10_isShape_32 : decode cX10_isShape 32 = .ok (.imul, 1) := by decide +kernel
theorem dX10_isShape_33 : decode cX10_isShape 33 = .ok (.aload_n 0, 1) := by decide +kernel
theorem dX10_isShape_34 : decode cX10_isShape 34 = .ok (.getfield 184, 3) := by decide +kernel
theorem dX10_isShape_37 : decode cX10_isShape 37 = .ok (.iload_n 2, 1) := by decide +kernel
theorem dX10_isShape_38 : decode cX10_isShape 38 = .ok (.invokestatic 251, 3) := by decide +kernel
theorem dX10_isShape_41 : decode cX10_isShape 41 = .ok (.aload_n 0, 1) := by decide +kernel
theorem dX10_isShape_42 : decode cX10_isShape 42 = .ok (.getfield 24, 3) := by decide +kernel
theorem dX10_isShape_45 : decode cX10_isShape 45 = .ok (.iconst 0, 1) := by decide +kernel
theorem dX10_isShape_46 : decode cX10_isShape 46 = .ok (.aload_n 0, 1) := by decide +kernel
theorem dX10_isShape_47 : decode cX10_isShape 47 = .ok (.getfield 184, 3) := by decide +kernel
theorem dX10_isShape_50 : decode cX10_isShape 50 = .ok (.iload_n 2, 1) := by decide +kernel
theorem dX10_isShape_51 : decode cX10_isShape 51 = .ok (.invokestatic 251, 3) := by decide +kernel
theorem dX10_isShape_54 : decode cX10_isShape 54 = .ok (.if_icmp .eq 5, 3) := by decide +kernel
theorem dX10_isShape_57 : decode cX10_isShape 57 = .ok (.iconst 0, 1) := by decide +kernel
theorem dX10_isShape_58 : decode cX10_isShape 58 = .ok (.ireturn, 1) := by decide +kernel
theorem dX10_isShape_59 : decode cX10_isShape 59 = .ok (.iinc 2 1, 3) := by decide +kernel
theorem dX10_isShape_62 : decode cX10_isShape 62 = .ok (.goto (-45), 3) := by decide +kernel
theorem dX10_isShape_65 : decode cX10_isShape 65 = .ok (.iconst 1, 1) := by decide +kernel
theorem dX10_isShape_66 : decode cX10_isShape 66 = .ok (.ireturn, 1) := by decide +kernel
theorem dX10_keeps_0 : decode cX10_keeps 0 = .ok (.iconst 0, 1) := by decide +kernel
theorem dX10_keeps_1 : decode cX10_keeps 1 = .ok (.istore_n 2, 1) := by decide +kernel
theorem dX10_keeps_2 : decode cX10_keeps 2 = .ok (.iload_n 2, 1) := by decide +kernel
theorem dX10_keeps_3 : decode cX10_keeps 3 = .ok (.aload_n 0, 1) := by decide +kernel
theorem dX10_keeps_4 : decode cX10_keeps 4 = .ok (.getfield 55, 3) := by decide +kernel
theorem dX10_keeps_7 : decode cX10_keeps 7 = .ok (.iload_n 1, 1) := by decide +kernel
theorem dX10_keeps_8 : decode cX10_keeps 8 = .ok (.iaload, 1) := by decide +kernel
theorem dX10_keeps_9 : decode cX10_keeps 9 = .ok (.if_icmp .ge 23, 3) := by decide +kernel
theorem dX10_keeps_12 : decode cX10_keeps 12 = .ok (.aload_n 0, 1) := by decide +kernel
theorem dX10_keeps_13 : decode cX10_keeps 13 = .ok (.bipush 10, 2) := by decide +kernel
theorem dX10_keeps_15 : decode cX10_keeps 15 = .ok (.iload_n 1, 1) := by decide +kernel
theorem dX10_keeps_16 : decode cX10_keeps 16 = .ok (.imul, 1) := by decide +kernel
theorem dX10_keeps_17 : decode cX10_keeps 17 = .ok (.iload_n 2, 1) := by decide +kernel
theorem dX10_keeps_18 : decode cX10_keeps 18 = .ok (.iadd, 1) := by decide +kernel
theorem dX10_keeps_19 : decode cX10_keeps 19 = .ok (.invokevirtual 255, 3) := by decide +kernel
theorem dX10_keeps_22 : decode cX10_keeps 22 = .ok (.ifCond .eq 4, 3) := by decide +kernel
theorem dX10_keeps_25 : decode cX10_keeps 25 = .ok (.return_, 1) := by decide +kernel
theorem dX10_keeps_26 : decode cX10_keeps 26 = .ok (.iinc 2 1, 3) := by decide +kernel
theorem dX10_keeps_29 : decode cX10_keeps 29 = .ok (.goto (-27), 3) := by decide +kernel
theorem dX10_keeps_32 : decode cX10_keeps 32 = .ok (.aload_n 0, 1) := by decide +kernel
theorem dX10_keeps_33 : decode cX10_keeps 33 = .ok (.getfield 55, 3) := by decide +kernel
theorem dX10_keeps_36 : decode cX10_keeps 36 = .ok (.iload_n 1, 1) := by decide +kernel
theorem dX10_keeps_37 : decode cX10_keeps 37 = .ok (.iaload, 1) := by decide +kernel
theorem dX10_keeps_38 : decode cX10_keeps 38 = .ok (.bipush 10, 2) := by decide +kernel
theorem dX10_keeps_40 : decode cX10_keeps 40 = .ok (.if_icmp .ne 4, 3) := by decide +kernel
theorem dX10_keeps_43 : decode cX10_keeps 43 = .ok (.return_, 1) := by decide +kernel
theorem dX10_keeps_44 : decode cX10_keeps 44 = .ok (.bipush 10, 2) := by decide +kernel
theorem dX10_keeps_46 : decode cX10_keeps 46 = .ok (.iload_n 1, 1) := by decide +kernel
theorem dX10_keeps_47 : decode cX10_keeps 47 = .ok (.imul, 1) := by decide +kernel
theorem dX10_keeps_48 : decode cX10_keeps 48 = .ok (.aload_n 0, 1) := by decide +kernel
theorem dX10_keeps_49 : decode cX10_keeps 49 = .ok (.getfield 55, 3) := by decide +kernel
theorem dX10_keeps_52 : decode cX10_keeps 52 = .ok (.iload_n 1, 1) := by decide +kernel
theorem dX10_keeps_53 : decode cX10_keeps 53 = .ok (.iaload, 1) := by decide +kernel
theorem dX10_keeps_54 : decode cX10_keeps 54 = .ok (.iadd, 1) := by decide +kernel
theorem dX10_keeps_55 : decode cX10_keeps 55 = .ok (.istore_n 2, 1) := by decide +kernel
theorem dX10_keeps_56 : decode cX10_keeps 56 = .ok (.aload_n 0, 1) := by decide +kernel
theorem dX10_keeps_57 : decode cX10_keeps 57 = .ok (.getfield 58, 3) := by decide +kernel
theorem dX10_keeps_60 : decode cX10_keeps 60 = .ok (.iload_n 2, 1) := by decide +kernel
theorem dX10_keeps_61 : decode cX10_keeps 61 = .ok (.aload_n 0, 1) := by decide +kernel
theorem dX10_keeps_62 : decode cX10_keeps 62 = .ok (.getfield 184, 3) := by decide +kernel
theorem dX10_keeps_65 : decode cX10_keeps 65 = .ok (.iastore, 1) := by decide +kernel
theorem dX10_keeps_66 : decode cX10_keeps 66 = .ok (.iconst 0, 1) := by decide +kernel
theorem dX10_keeps_67 : decode cX10_keeps 67 = .ok (.istore_n 3, 1) := by decide +kernel
theorem dX10_keeps_68 : decode cX10_keeps 68 = .ok (.iload_n 3, 1) := by decide +kernel
theorem dX10_keeps_69 : decode cX10_keeps 69 = .ok (.aload_n 0, 1) := by decide +kernel
theorem dX10_keeps_70 : decode cX10_keeps 70 = .ok (.getfield 184, 3) := by decide +kernel
theorem dX10_keeps_73 : decode cX10_keeps 73 = .ok (.if_icmp .ge 26, 3) := by decide +kernel
theorem dX10_keeps_76 : decode cX10_keeps 76 = .ok (.aload_n 0, 1) := by decide +kernel
theorem dX10_keeps_77 : decode cX10_keeps 77 = .ok (.getfield 61, 3) := by decide +kernel
theorem dX10_keeps_80 : decode cX10_keeps 80 = .ok (.bipush 120, 2) := by decide +kernel
theorem dX10_keeps_82 : decode cX10_keeps 82 = .ok (.iload_n 2, 1) := by decide +kernel
theorem dX10_keeps_83 : decode cX10_keeps 83 = .ok (.imul, 1) := by decide +kernel
theorem dX10_keeps_84 : decode cX10_keeps 84 = .ok (.iload_n 3, 1) := by decide +kernel
theorem dX10_keeps_85 : decode cX10_keeps 85 = .ok (.iadd, 1) := by decide +kernel
theorem dX10_keeps_86 : decode cX10_keeps 86 = .ok (.aload_n 0, 1) := by decide +kernel
theorem dX10_keeps_87 : decode cX10_keeps 87 = .ok (.getfield 24, 3) := by decide +kernel
theorem dX10_keeps_90 : decode cX10_keeps 90 = .ok (.iload_n 3, 1) := by decide +kernel
theorem dX10_keeps_91 : decode cX10_keeps 91 = .ok (.iaload, 1) := by decide +kernel
theorem dX10_keeps_92 : decode cX10_keeps 92 = .ok (.iastore, 1) := by decide +kernel
theorem dX10_keeps_93 : decode cX10_keeps 93 = .ok (.iinc 3 1, 3) := by decide +kernel
theorem dX10_keeps_96 : decode cX10_keeps 96 = .ok (.goto (-28), 3) := by decide +kernel
theorem dX10_keeps_99 : decode cX10_keeps 99 = .ok (.aload_n 0, 1) := by decide +kernel
theorem dX10_keeps_100 : decode cX10_keeps 100 = .ok (.getfield 55, 3) := by decide +kernel
theorem dX10_keeps_103 : decode cX10_keeps 103 = .ok (.iload_n 1, 1) := by decide +kernel
theorem dX10_keeps_104 : decode cX10_keeps 104 = .ok (.dup2, 1) := by decide +kernel
theorem dX10_keeps_105 : decode cX10_keeps 105 = .ok (.iaload, 1) := by decide +kernel
theorem dX10_keeps_106 : decode cX10_keeps 106 = .ok (.iconst 1, 1) := by decide +kernel
theorem dX10_keeps_107 : decode cX10_keeps 107 = .ok (.iadd, 1) := by decide +kernel
theorem dX10_keeps_108 : decode cX10_keeps 108 = .ok (.iastore, 1) := by decide +kernel
theorem dX10_keeps_109 : decode cX10_keeps 109 = .ok (.return_, 1) := by decide +kernel
theorem dX10_attempt_0 : decode cX10_attempt 0 = .ok (.aload_n 0, 1) := by decide +kernel
theorem dX10_attempt_1 : decode cX10_attempt 1 = .ok (.iconst 0, 1) := by decide +kernel
theorem dX10_attempt_2 : decode cX10_attempt 2 = .ok (.putfield 79, 3) := by decide +kernel
theorem dX10_attempt_5 : decode cX10_attempt 5 = .ok (.aload_n 0, 1) := by decide +kernel
theorem dX10_attempt_6 : decode cX10_attempt 6 = .ok (.aload_n 0, 1) := by decide +kernel
theorem dX10_attempt_7 : decode cX10_attempt 7 = .ok (.iload_n 1, 1) := by decide +kernel
theorem dX10_attempt_8 : decode cX10_attempt 8 = .ok (.invokevirtual 248, 3) := by decide +kernel
theorem dX10_attempt_11 : decode cX10_attempt 11 = .ok (.ifCond .ne 10, 3) := by decide +kernel
theorem dX10_attempt_14 : decode cX10_attempt 14 = .ok (.iload_n 2, 1) := by decide +kernel
theorem dX10_attempt_15 : decode cX10_attempt 15 = .ok (.invokestatic 258, 3) := by decide +kernel
theorem dX10_attempt_18 : decode cX10_attempt 18 = .ok (.ifCond .eq 7, 3) := by decide +kernel
theorem dX10_attempt_21 : decode cX10_attempt 21 = .ok (.iconst 1, 1) := by decide +kernel
theorem dX10_attempt_22 : decode cX10_attempt 22 = .ok (.goto 4, 3) := by decide +kernel
theorem dX10_attempt_25 : decode cX10_attempt 25 = .ok (.iconst 0, 1) := by decide +kernel
theorem dX10_attempt_26 : decode cX10_attempt 26 = .ok (.iconst 1, 1) := by decide +kernel
theorem dX10_attempt_27 : decode cX10_attempt 27 = .ok (.invokevirtual 180, 3) := by decide +kernel
theorem dX10_attempt_30 : decode cX10_attempt 30 = .ok (.ifCond .ne 23, 3) := by decide +kernel
theorem dX10_attempt_33 : decode cX10_attempt 33 = .ok (.aload_n 0, 1) := by decide +kernel
theorem dX10_attempt_34 : decode cX10_attempt 34 = .ok (.aload_n 0, 1) := by decide +kernel
theorem dX10_attempt_35 : decode cX10_attempt 35 = .ok (.getfield 184, 3) := by decide +kernel
theorem dX10_attempt_38 : decode cX10_attempt 38 = .ok (.ifCond .ne 7, 3) := by decide +kernel
theorem dX10_attempt_41 : decode cX10_attempt 41 = .ok (.iconst 1, 1) := by decide +kernel
theorem dX10_attempt_42 : decode cX10_attempt 42 = .ok (.goto 4, 3) := by decide +kernel
theorem dX10_attempt_45 : decode cX10_attempt 45 = .ok (.iconst 0, 1) := by decide +kernel
theorem dX10_attempt_46 : decode cX10_attempt 46 = .ok (.iconst 2, 1) := by decide +kernel
theorem dX10_attempt_47 : decode cX10_attempt 47 = .ok (.invokevirtual 180, 3) := by decide +kernel
theorem dX10_attempt_50 : decode cX10_attempt 50 = .ok (.ifCond .eq 5, 3) := by decide +kernel
theorem dX10_attempt_53 : decode cX10_attempt 53 = .ok (.iconst 0, 1) := by decide +kernel
theorem dX10_attempt_54 : decode cX10_attempt 54 = .ok (.ireturn, 1) := by decide +kernel
theorem dX10_attempt_55 : decode cX10_attempt 55 = .ok (.aload_n 0, 1) := by decide +kernel
theorem dX10_attempt_56 : decode cX10_attempt 56 = .ok (.getfield 49, 3) := by decide +kernel
theorem dX10_attempt_59 : decode cX10_attempt 59 = .ok (.iload_n 1, 1) := by decide +kernel
theorem dX10_attempt_60 : decode cX10_attempt 60 = .ok (.iaload, 1) := by decide +kernel
theorem dX10_attempt_61 : decode cX10_attempt 61 = .ok (.ifCond .ne 5, 3) := by decide +kernel
theorem dX10_attempt_64 : decode cX10_attempt 64 = .ok (.iconst (-1), 1) := by decide +kernel
theorem dX10_attempt_65 : decode cX10_attempt 65 = .ok (.ireturn, 1) := by decide +kernel
theorem dX10_attempt_66 : decode cX10_attempt 66 = .ok (.aload_n 0, 1) := by decide +kernel
theorem dX10_attempt_67 : decode cX10_attempt 67 = .ok (.dup, 1) := by decide +kernel
theorem dX10_attempt_68 : decode cX10_attempt 68 = .ok (.getfield 261, 3) := by decide +kernel
theorem dX10_attempt_71 : decode cX10_attempt 71 = .ok (.iconst 1, 1) := by decide +kernel
theorem dX10_attempt_72 : decode cX10_attempt 72 = .ok (.iadd, 1) := by decide +kernel
theorem dX10_attempt_73 : decode cX10_attempt 73 = .ok (.putfield 261, 3) := by decide +kernel
theorem dX10_attempt_76 : decode cX10_attempt 76 = .ok (.iconst 0, 1) := by decide +kernel
theorem dX10_attempt_77 : decode cX10_attempt 77 = .ok (.istore 4, 2) := by decide +kernel
theorem dX10_attempt_79 : decode cX10_attempt 79 = .ok (.iconst 0, 1) := by decide +kernel
theorem dX10_attempt_80 : decode cX10_attempt 80 = .ok (.istore 5, 2) := by decide +kernel
theorem dX10_attempt_82 : decode cX10_attempt 82 = .ok (.iload 5, 2) := by decide +kernel
theorem dX10_attempt_84 : decode cX10_attempt 84 = .ok (.aload_n 0, 1) := by decide +kernel
theorem dX10_attempt_85 : decode cX10_attempt 85 = .ok (.getfield 49, 3) := by decide +kernel
theorem dX10_attempt_88 : decode cX10_attempt 88 = .ok (.iload_n 1, 1) := by decide +kernel
theorem dX10_attempt_89 : decode cX10_attempt 89 = .ok (.iaload, 1) := by decide +kernel
theorem dX10_attempt_90 : decode cX10_attempt 90 = .ok (.if_icmp .ge 80, 3) := by decide +kernel
theorem dX10_attempt_93 : decode cX10_attempt 93 = .ok (.iconst 3, 1) := by decide +kernel
theorem dX10_attempt_94 : decode cX10_attempt 94 = .ok (.bipush 6, 2) := by decide +kernel
theorem dX10_attempt_96 : decode cX10_attempt 96 = .ok (.iload_n 1, 1) := by decide +kernel
theorem dX10_attempt_97 : decode cX10_attempt 97 = .ok (.imul, 1) := by decide +kernel
theorem dX10_attempt_98 : decode cX10_attempt 98 = .ok (.iload 5, 2) := by decide +kernel
theorem dX10_attempt_100 : decode cX10_attempt 100 = .ok (.iadd, 1) := by decide +kernel
theorem dX10_attempt_101 : decode cX10_attempt 101 = .ok (.imul, 1) := by decide +kernel
theorem dX10_attempt_102 : decode cX10_attempt 102 = .ok (.istore 6, 2) := by decide +kernel
theorem dX10_attempt_104 : decode cX10_attempt 104 = .ok (.aload_n 0, 1) := by decide +kernel
theorem dX10_attempt_105 : decode cX10_attempt 105 = .ok (.aload_n 0, 1) := by decide +kernel
theorem dX10_attempt_106 : decode cX10_attempt 106 = .ok (.getfield 52, 3) := by decide +kernel
theorem dX10_attempt_109 : decode cX10_attempt 109 = .ok (.iload 6, 2) := by decide +kernel
theorem dX10_attempt_111 : decode cX10_attempt 111 = .ok (.iaload, 1) := by decide +kernel
theorem dX10_attempt_112 : decode cX10_attempt 112 = .ok (.aload_n 0, 1) := by decide +kernel
theorem dX10_attempt_113 : decode cX10_attempt 113 = .ok (.getfield 52, 3) := by decide +kernel
theorem dX10_attempt_116 : decode cX10_attempt 116 = .ok (.iload 6, 2) := by decide +kernel
theorem dX10_attempt_118 : decode cX10_attempt 118 = .ok (.iconst 1, 1) := by decide +kernel
theorem dX10_attempt_119 : decode cX10_attempt 119 = .ok (.iadd, 1) := by decide +kernel
theorem dX10_attempt_120 : decode cX10_attempt 120 = .ok (.iaload, 1) := by decide +kernel
theorem dX10_attempt_121 : decode cX10_attempt 121 = .ok (.invokevirtual 241, 3) := by decide +kernel
theorem dX10_attempt_124 : decode cX10_attempt 124 = .ok (.aload_n 0, 1) := by decide +kernel
theorem dX10_attempt_125 : decode cX10_attempt 125 = .ok (.getfield 197, 3) := by decide +kernel
theorem dX10_attempt_128 : decode cX10_attempt 128 = .ok (.ifCond .ne 22, 3) := by decide +kernel
theorem dX10_attempt_131 : decode cX10_attempt 131 = .ok (.aload_n 0, 1) := by decide +kernel
theorem dX10_attempt_132 : decode cX10_attempt 132 = .ok (.getfield 40, 3) := by decide +kernel
theorem dX10_attempt_135 : decode cX10_attempt 135 = .ok (.bipush 114, 2) := by decide +kernel
theorem dX10_attempt_137 : decode cX10_attempt 137 = .ok (.iaload, 1) := by decide +kernel
theorem dX10_attempt_138 : decode cX10_attempt 138 = .ok (.aload_n 0, 1) := by decide +kernel
theorem dX10_attempt_139 : decode cX10_attempt 139 = .ok (.getfield 52, 3) := by decide +kernel
theorem dX10_attempt_142 : decode cX10_attempt 142 = .ok (.iload 6, 2) := by decide +kernel
theorem dX10_attempt_144 : decode cX10_attempt 144 = .ok (.iconst 2, 1) := by decide +kernel
theorem dX10_attempt_145 : decode cX10_attempt 145 = .ok (.iadd, 1) := by decide +kernel
theorem dX10_attempt_146 : decode cX10_attempt 146 = .ok (.iaload, 1) := by decide +kernel
theorem dX10_attempt_147 : decode cX10_attempt 147 = .ok (.if_icmp .eq 8, 3) := by decide +kernel
theorem dX10_attempt_150 : decode cX10_attempt 150 = .ok (.iconst 1, 1) := by decide +kernel
theorem dX10_attempt_151 : decode cX10_attempt 151 = .ok (.iload 5, 2) := by decide +kernel
theorem dX10_attempt_153 : decode cX10_attempt 153 = .ok (.iadd, 1) := by decide +kernel
theorem dX10_attempt_154 : decode cX10_attempt 154 = .ok (.ireturn, 1) := by decide +kernel
theorem dX10_attempt_155 : decode cX10_attempt 155 = .ok (.iload 4, 2) := by decide +kernel
theorem dX10_attempt_157 : decode cX10_attempt 157 = .ok (.aload_n 0, 1) := by decide +kernel
theorem dX10_attempt_158 : decode cX10_attempt 158 = .ok (.getfield 216, 3) := by decide +kernel
theorem dX10_attempt_161 : decode cX10_attempt 161 = .ok (.ior, 1) := by decide +kernel
theorem dX10_attempt_162 : decode cX10_attempt 162 = .ok (.istore 4, 2) := by decide +kernel
theorem dX10_attempt_164 : decode cX10_attempt 164 = .ok (.iinc 5 1, 3) := by decide +kernel
theorem dX10_attempt_167 : decode cX10_attempt 167 = .ok (.goto (-85), 3) := by decide +kernel
theorem dX10_attempt_170 : decode cX10_attempt 170 = .ok (.aload_n 0, 1) := by decide +kernel
theorem dX10_attempt_171 : decode cX10_attempt 171 = .ok (.dup, 1) := by decide +kernel
theorem dX10_attempt_172 : decode cX10_attempt 172 = .ok (.getfield 264, 3) := by decide +kernel
theorem dX10_attempt_175 : decode cX10_attempt 175 = .ok (.iconst 1, 1) := by decide +kernel
theorem dX10_attempt_176 : decode cX10_attempt 176 = .ok (.iadd, 1) := by decide +kernel
theorem dX10_attempt_177 : decode cX10_attempt 177 = .ok (.putfield 264, 3) := by decide +kernel
theorem dX10_attempt_180 : decode cX10_attempt 180 = .ok (.aload_n 0, 1) := by decide +kernel
theorem dX10_attempt_181 : decode cX10_attempt 181 = .ok (.iload_n 1, 1) := by decide +kernel
theorem dX10_attempt_182 : decode cX10_attempt 182 = .ok (.invokevirtual 267, 3) := by decide +kernel
theorem dX10_attempt_185 : decode cX10_attempt 185 = .ok (.bipush 10, 2) := by decide +kernel
theorem dX10_attempt_187 : decode cX10_attempt 187 = .ok (.iload_n 2, 1) := by decide +kernel
theorem dX10_attempt_188 : decode cX10_attempt 188 = .ok (.imul, 1) := by decide +kernel
theorem dX10_attempt_189 : decode cX10_attempt 189 = .ok (.iload_n 1, 1) := by decide +kernel
theorem dX10_attempt_190 : decode cX10_attempt 190 = .ok (.iadd, 1) := by decide +kernel
theorem dX10_attempt_191 : decode cX10_attempt 191 = .ok (.istore 5, 2) := by decide +kernel
theorem dX10_attempt_193 : decode cX10_attempt 193 = .ok (.aload_n 0, 1) := by decide +kernel
theorem dX10_attempt_194 : decode cX10_attempt 194 = .ok (.getfield 64, 3) := by decide +kernel
theorem dX10_attempt_197 : decode cX10_attempt 197 = .ok (.iload 5, 2) := by decide +kernel
theorem dX10_attempt_199 : decode cX10_attempt 199 = .ok (.iaload, 1) := by decide +kernel
theorem dX10_attempt_200 : decode cX10_attempt 200 = .ok (.ifCond .le 5, 3) := by decide +kernel
theorem dX10_attempt_203 : decode cX10_attempt 203 = .ok (.iconst 0, 1) := by decide +kernel
theorem dX10_attempt_204 : decode cX10_attempt 204 = .ok (.ireturn, 1) := by decide +kernel
theorem dX10_attempt_205 : decode cX10_attempt 205 = .ok (.aload_n 0, 1) := by decide +kernel
theorem dX10_attempt_206 : decode cX10_attempt 206 = .ok (.getfield 64, 3) := by decide +kernel
theorem dX10_attempt_209 : decode cX10_attempt 209 = .ok (.iload 5, 2) := by decide +kernel
theorem dX10_attempt_211 : decode cX10_attempt 211 = .ok (.aload_n 0, 1) := by decide +kernel
theorem dX10_attempt_212 : decode cX10_attempt 212 = .ok (.getfield 184, 3) := by decide +kernel
theorem dX10_attempt_215 : decode cX10_attempt 215 = .ok (.iastore, 1) := by decide +kernel
theorem dX10_attempt_216 : decode cX10_attempt 216 = .ok (.iconst 0, 1) := by decide +kernel
theorem dX10_attempt_217 : decode cX10_attempt 217 = .ok (.istore 6, 2) := by decide +kernel
theorem dX10_attempt_219 : decode cX10_attempt 219 = .ok (.iload 6, 2) := by decide +kernel
theorem dX10_attempt_221 : decode cX10_attempt 221 = .ok (.aload_n 0, 1) := by decide +kernel
theorem dX10_attempt_222 : decode cX10_attempt 222 = .ok (.getfield 184, 3) := by decide +kernel
theorem dX10_attempt_225 : decode cX10_attempt 225 = .ok (.if_icmp .ge 36, 3) := by decide +kernel
theorem dX10_attempt_228 : decode cX10_attempt 228 = .ok (.aload_n 0, 1) := by decide +kernel
theorem dX10_attempt_229 : decode cX10_attempt 229 = .ok (.getfield 67, 3) := by decide +kernel
theorem dX10_attempt_232 : decode cX10_attempt 232 = .ok (.bipush 120, 2) := by decide +kernel
theorem dX10_attempt_234 : decode cX10_attempt 234 = .ok (.iload 5, 2) := by decide +kernel
theorem dX10_attempt_236 : decode cX10_attempt 236 = .ok (.imul, 1) := by decide +kernel
theorem dX10_attempt_237 : decode cX10_attempt 237 = .ok (.iload 6, 2) := by decide +kernel
theorem dX10_attempt_239 : decode cX10_attempt 239 = .ok (.iadd, 1) := by decide +kernel
theorem dX10_attempt_240 : decode cX10_attempt 240 = .ok (.aload_n 0, 1) := by decide +kernel
theorem dX10_attempt_241 : decode cX10_attempt 241 = .ok (.getfield 24, 3) := by decide +kernel
theorem dX10_attempt_244 : decode cX10_attempt 244 = .ok (.iconst 0, 1) := by decide +kernel
theorem dX10_attempt_245 : decode cX10_attempt 245 = .ok (.aload_n 0, 1) := by decide +kernel
theorem dX10_attempt_246 : decode cX10_attempt 246 = .ok (.getfield 184, 3) := by decide +kernel
theorem dX10_attempt_249 : decode cX10_attempt 249 = .ok (.iload 6, 2) := by decide +kernel
theorem dX10_attempt_251 : decode cX10_attempt 251 = .ok (.invokestatic 251, 3) := by decide +kernel
theorem dX10_attempt_254 : decode cX10_attempt 254 = .ok (.iastore, 1) := by decide +kernel
theorem dX10_attempt_255 : decode cX10_attempt 255 = .ok (.iinc 6 1, 3) := by decide +kernel
theorem dX10_attempt_258 : decode cX10_attempt 258 = .ok (.goto (-39), 3) := by decide +kernel
theorem dX10_attempt_261 : decode cX10_attempt 261 = .ok (.iconst 0, 1) := by decide +kernel
theorem dX10_attempt_262 : decode cX10_attempt 262 = .ok (.istore 6, 2) := by decide +kernel
theorem dX10_attempt_264 : decode cX10_attempt 264 = .ok (.iload 6, 2) := by decide +kernel
theorem dX10_attempt_266 : decode cX10_attempt 266 = .ok (.bipush 8, 2) := by decide +kernel
theorem dX10_attempt_268 : decode cX10_attempt 268 = .ok (.if_icmp .ge 60, 3) := by decide +kernel
theorem dX10_attempt_271 : decode cX10_attempt 271 = .ok (.iload 4, 2) := by decide +kernel
theorem dX10_attempt_273 : decode cX10_attempt 273 = .ok (.iload 6, 2) := by decide +kernel
theorem dX10_attempt_275 : decode cX10_attempt 275 = .ok (.ishr, 1) := by decide +kernel
theorem dX10_attempt_276 : decode cX10_attempt 276 = .ok (.iconst 1, 1) := by decide +kernel
theorem dX10_attempt_277 : decode cX10_attempt 277 = .ok (.iand, 1) := by decide +kernel
theorem dX10_attempt_278 : decode cX10_attempt 278 = .ok (.iconst 1, 1) := by decide +kernel
theorem dX10_attempt_279 : decode cX10_attempt 279 = .ok (.if_icmp .ne 43, 3) := by decide +kernel
theorem dX10_attempt_282 : decode cX10_attempt 282 = .ok (.aload_n 0, 1) := by decide +kernel
theorem dX10_attempt_283 : decode cX10_attempt 283 = .ok (.getfield 70, 3) := by decide +kernel
theorem dX10_attempt_286 : decode cX10_attempt 286 = .ok (.bipush 8, 2) := by decide +kernel
theorem dX10_attempt_288 : decode cX10_attempt 288 = .ok (.iload_n 2, 1) := by decide +kernel
theorem dX10_attempt_289 : decode cX10_attempt 289 = .ok (.imul, 1) := by decide +kernel
theorem dX10_attempt_290 : decode cX10_attempt 290 = .ok (.iload 6, 2) := by decide +kernel
theorem dX10_attempt_292 : decode cX10_attempt 292 = .ok (.iadd, 1) := by decide +kernel
theorem dX10_attempt_293 : decode cX10_attempt 293 = .ok (.bipush 64, 2) := by decide +kernel
theorem dX10_attempt_295 : decode cX10_attempt 295 = .ok (.aload_n 0, 1) := by decide +kernel
theorem dX10_attempt_296 : decode cX10_attempt 296 = .ok (.getfield 70, 3) := by decide +kernel
theorem dX10_attempt_299 : decode cX10_attempt 299 = .ok (.bipush 8, 2) := by decide +kernel
theorem dX10_attempt_301 : decode cX10_attempt 301 = .ok (.iload_n 2, 1) := by decide +kernel
theorem dX10_attempt_302 : decode cX10_attempt 302 = .ok (.imul, 1) := by decide +kernel
theorem dX10_attempt_303 : decode cX10_attempt 303 = .ok (.iload 6, 2) := by decide +kernel
theorem dX10_attempt_305 : decode cX10_attempt 305 = .ok (.iadd, 1) := by decide +kernel
theorem dX10_attempt_306 : decode cX10_attempt 306 = .ok (.iaload, 1) := by decide +kernel
theorem dX10_attempt_307 : decode cX10_attempt 307 = .ok (.iload_n 3, 1) := by decide +kernel
theorem dX10_attempt_308 : decode cX10_attempt 308 = .ok (.ifCond .eq 7, 3) := by decide +kernel
theorem dX10_attempt_311 : decode cX10_attempt 311 = .ok (.iconst 4, 1) := by decide +kernel
theorem dX10_attempt_312 : decode cX10_attempt 312 = .ok (.goto 5, 3) := by decide +kernel
theorem dX10_attempt_315 : decode cX10_attempt 315 = .ok (.bipush 16, 2) := by decide +kernel
theorem dX10_attempt_317 : decode cX10_attempt 317 = .ok (.iadd, 1) := by decide +kernel
theorem dX10_attempt_318 : decode cX10_attempt 318 = .ok (.invokestatic 270, 3) := by decide +kernel
theorem dX10_attempt_321 : decode cX10_attempt 321 = .ok (.iastore, 1) := by decide +kernel
theorem dX10_attempt_322 : decode cX10_attempt 322 = .ok (.iinc 6 1, 3) := by decide +kernel
theorem dX10_attempt_325 : decode cX10_attempt 325 = .ok (.goto (-61), 3) := by decide +kernel
theorem dX10_attempt_328 : decode cX10_attempt 328 = .ok (.iconst 0, 1) := by decide +kernel
theorem dX10_attempt_329 : decode cX10_attempt 329 = .ok (.ireturn, 1) := by decide +kernel
theorem dX10_can_0 : decode cX10_can 0 = .ok (.aload_n 0, 1) := by decide +kernel
theorem dX10_can_1 : decode cX10_can 1 = .ok (.iconst 0, 1) := by decide +kernel
theorem dX10_can_2 : decode cX10_can 2 = .ok (.putfield 79, 3) := by decide +kernel
theorem dX10_can_5 : decode cX10_can 5 = .ok (.aload_n 0, 1) := by decide +kernel
theorem dX10_can_6 : decode cX10_can 6 = .ok (.iload_n 1, 1) := by decide +kernel
theorem dX10_can_7 : decode cX10_can 7 = .ok (.invokestatic 258, 3) := by decide +kernel
theorem dX10_can_10 : decode cX10_can 10 = .ok (.ifCond .ne 13, 3) := by decide +kernel
theorem dX10_can_13 : decode cX10_can 13 = .ok (.iload_n 2, 1) := by decide +kernel
theorem dX10_can_14 : decode cX10_can 14 = .ok (.iconst 0, 1) := by decide +kernel
theorem dX10_can_15 : decode cX10_can 15 = .ok (.bipush 7, 2) := by decide +kernel
theorem dX10_can_17 : decode cX10_can 17 = .ok (.invokestatic 104, 3) := by decide +kernel
theorem dX10_can_20 : decode cX10_can 20 = .ok (.ifCond .ne 7, 3) := by decide +kernel
theorem dX10_can_23 : decode cX10_can 23 = .ok (.iconst 1, 1) := by decide +kernel
theorem dX10_can_24 : decode cX10_can 24 = .ok (.goto 4, 3) := by decide +kernel
theorem dX10_can_27 : decode cX10_can 27 = .ok (.iconst 0, 1) := by decide +kernel
theorem dX10_can_28 : decode cX10_can 28 = .ok (.iconst 1, 1) := by decide +kernel
theorem dX10_can_29 : decode cX10_can 29 = .ok (.invokevirtual 180, 3) := by decide +kernel
theorem dX10_can_32 : decode cX10_can 32 = .ok (.ifCond .eq 7, 3) := by decide +kernel
theorem dX10_can_35 : decode cX10_can 35 = .ok (.iconst 0, 1) := by decide +kernel
theorem dX10_can_36 : decode cX10_can 36 = .ok (.goto 14, 3) := by decide +kernel
theorem dX10_can_39 : decode cX10_can 39 = .ok (.aload_n 0, 1) := by decide +kernel
theorem dX10_can_40 : decode cX10_can 40 = .ok (.getfield 70, 3) := by decide +kernel
theorem dX10_can_43 : decode cX10_can 43 = .ok (.bipush 8, 2) := by decide +kernel
theorem dX10_can_45 : decode cX10_can 45 = .ok (.iload_n 1, 1) := by decide +kernel
theorem dX10_can_46 : decode cX10_can 46 = .ok (.imul, 1) := by decide +kernel
theorem dX10_can_47 : decode cX10_can 47 = .ok (.iload_n 2, 1) := by decide +kernel
theorem dX10_can_48 : decode cX10_can 48 = .ok (.iadd, 1) := by decide +kernel
theorem dX10_can_49 : decode cX10_can 49 = .ok (.iaload, 1) := by decide +kernel
theorem dX10_can_50 : decode cX10_can 50 = .ok (.ireturn, 1) := by decide +kernel
theorem dX10_passed_0 : decode cX10_passed 0 = .ok (.aload_n 0, 1) := by decide +kernel
theorem dX10_passed_1 : decode cX10_passed 1 = .ok (.iconst 0, 1) := by decide +kernel
theorem dX10_passed_2 : decode cX10_passed 2 = .ok (.putfield 79, 3) := by decide +kernel
theorem dX10_passed_5 : decode cX10_passed 5 = .ok (.aload_n 0, 1) := by decide +kernel
theorem dX10_passed_6 : decode cX10_passed 6 = .ok (.iload_n 1, 1) := by decide +kernel
theorem dX10_passed_7 : decode cX10_passed 7 = .ok (.invokestatic 258, 3) := by decide +kernel
theorem dX10_passed_10 : decode cX10_passed 10 = .ok (.ifCond .ne 11, 3) := by decide +kernel
theorem dX10_passed_13 : decode cX10_passed 13 = .ok (.aload_n 0, 1) := by decide +kernel
theorem dX10_passed_14 : decode cX10_passed 14 = .ok (.iload_n 2, 1) := by decide +kernel
