theorem dX0_init_0 : decode cX0_init 0 = .ok (.aload_n 0, 1) := by decide +kernel
theorem dX0_init_1 : decode cX0_init 1 = .ok (.invokespecial 3, 3) := by decide +kernel
theorem dX0_init_4 : decode cX0_init 4 = .ok (.aload_n 0, 1) := by decide +kernel
theorem dX0_init_5 : decode cX0_init 5 = .ok (.iconst 2, 1) := by decide +kernel
theorem dX0_init_6 : decode cX0_init 6 = .ok (.bipush 121, 2) := by decide +kernel
theorem dX0_init_8 : decode cX0_init 8 = .ok (.multianewarray 9 2, 4) := by decide +kernel
theorem dX0_init_12 : decode cX0_init 12 = .ok (.putfield 11, 3) := by decide +kernel
theorem dX0_init_15 : decode cX0_init 15 = .ok (.return_, 1) := by decide +kernel
theorem dX0_compare_0 : decode cX0_compare 0 = .ok (.aload_n 0, 1) := by decide +kernel
theorem dX0_compare_1 : decode cX0_compare 1 = .ok (.iconst 0, 1) := by decide +kernel
theorem dX0_compare_2 : decode cX0_compare 2 = .ok (.putfield 16, 3) := by decide +kernel
theorem dX0_compare_5 : decode cX0_compare 5 = .ok (.aload_n 0, 1) := by decide +kernel
theorem dX0_compare_6 : decode cX0_compare 6 = .ok (.getfield 16, 3) := by decide +kernel
theorem dX0_compare_9 : decode cX0_compare 9 = .ok (.aload_n 1, 1) := by decide +kernel
theorem dX0_compare_10 : decode cX0_compare 10 = .ok (.invokevirtual 20, 3) := by decide +kernel
theorem dX0_compare_13 : decode cX0_compare 13 = .ok (.if_icmp .ge 48, 3) := by decide +kernel
theorem dX0_compare_16 : decode cX0_compare 16 = .ok (.aload_n 0, 1) := by decide +kernel
theorem dX0_compare_17 : decode cX0_compare 17 = .ok (.getfield 16, 3) := by decide +kernel
theorem dX0_compare_20 : decode cX0_compare 20 = .ok (.aload_n 2, 1) := by decide +kernel
theorem dX0_compare_21 : decode cX0_compare 21 = .ok (.invokevirtual 20, 3) := by decide +kernel
theorem dX0_compare_24 : decode cX0_compare 24 = .ok (.if_icmp .ge 37, 3) := by decide +kernel
theorem dX0_compare_27 : decode cX0_compare 27 = .ok (.aload_n 1, 1) := by decide +kernel
theorem dX0_compare_28 : decode cX0_compare 28 = .ok (.getfield 26, 3) := by decide +kernel
theorem dX0_compare_31 : decode cX0_compare 31 = .ok (.aload_n 0, 1) := by decide +kernel
theorem dX0_compare_32 : decode cX0_compare 32 = .ok (.getfield 16, 3) := by decide +kernel
theorem dX0_compare_35 : decode cX0_compare 35 = .ok (.iaload, 1) := by decide +kernel
theorem dX0_compare_36 : decode cX0_compare 36 = .ok (.aload_n 2, 1) := by decide +kernel
theorem dX0_compare_37 : decode cX0_compare 37 = .ok (.getfield 26, 3) := by decide +kernel
theorem dX0_compare_40 : decode cX0_compare 40 = .ok (.aload_n 0, 1) := by decide +kernel
theorem dX0_compare_41 : decode cX0_compare 41 = .ok (.getfield 16, 3) := by decide +kernel
theorem dX0_compare_44 : decode cX0_compare 44 = .ok (.iaload, 1) := by decide +kernel
theorem dX0_compare_45 : decode cX0_compare 45 = .ok (.if_icmp .ne 16, 3) := by decide +kernel
theorem dX0_compare_48 : decode cX0_compare 48 = .ok (.aload_n 0, 1) := by decide +kernel
theorem dX0_compare_49 : decode cX0_compare 49 = .ok (.dup, 1) := by decide +kernel
theorem dX0_compare_50 : decode cX0_compare 50 = .ok (.getfield 16, 3) := by decide +kernel
theorem dX0_compare_53 : decode cX0_compare 53 = .ok (.iconst 1, 1) := by decide +kernel
theorem dX0_compare_54 : decode cX0_compare 54 = .ok (.iadd, 1) := by decide +kernel
theorem dX0_compare_55 : decode cX0_compare 55 = .ok (.putfield 16, 3) := by decide +kernel
theorem dX0_compare_58 : decode cX0_compare 58 = .ok (.goto (-53), 3) := by decide +kernel
theorem dX0_compare_61 : decode cX0_compare 61 = .ok (.aload_n 1, 1) := by decide +kernel
theorem dX0_compare_62 : decode cX0_compare 62 = .ok (.invokevirtual 20, 3) := by decide +kernel
theorem dX0_compare_65 : decode cX0_compare 65 = .ok (.istore_n 3, 1) := by decide +kernel
theorem dX0_compare_66 : decode cX0_compare 66 = .ok (.iload_n 3, 1) := by decide +kernel
theorem dX0_compare_67 : decode cX0_compare 67 = .ok (.aload_n 0, 1) := by decide +kernel
theorem dX0_compare_68 : decode cX0_compare 68 = .ok (.getfield 16, 3) := by decide +kernel
theorem dX0_compare_71 : decode cX0_compare 71 = .ok (.if_icmp .lt 16, 3) := by decide +kernel
theorem dX0_compare_74 : decode cX0_compare 74 = .ok (.aload_n 0, 1) := by decide +kernel
theorem dX0_compare_75 : decode cX0_compare 75 = .ok (.aload_n 1, 1) := by decide +kernel
theorem dX0_compare_76 : decode cX0_compare 76 = .ok (.aload_n 2, 1) := by decide +kernel
theorem dX0_compare_77 : decode cX0_compare 77 = .ok (.iload_n 3, 1) := by decide +kernel
theorem dX0_compare_78 : decode cX0_compare 78 = .ok (.invokevirtual 30, 3) := by decide +kernel
theorem dX0_compare_81 : decode cX0_compare 81 = .ok (.iinc 3 (-1), 3) := by decide +kernel
theorem dX0_compare_84 : decode cX0_compare 84 = .ok (.goto (-18), 3) := by decide +kernel
theorem dX0_compare_87 : decode cX0_compare 87 = .ok (.aload_n 0, 1) := by decide +kernel
theorem dX0_compare_88 : decode cX0_compare 88 = .ok (.aload_n 0, 1) := by decide +kernel
theorem dX0_compare_89 : decode cX0_compare 89 = .ok (.getfield 11, 3) := by decide +kernel
theorem dX0_compare_92 : decode cX0_compare 92 = .ok (.aload_n 0, 1) := by decide +kernel
theorem dX0_compare_93 : decode cX0_compare 93 = .ok (.getfield 16, 3) := by decide +kernel
theorem dX0_compare_96 : decode cX0_compare 96 = .ok (.iconst 1, 1) := by decide +kernel
theorem dX0_compare_97 : decode cX0_compare 97 = .ok (.iand, 1) := by decide +kernel
theorem dX0_compare_98 : decode cX0_compare 98 = .ok (.aaload, 1) := by decide +kernel
theorem dX0_compare_99 : decode cX0_compare 99 = .ok (.aload_n 0, 1) := by decide +kernel
theorem dX0_compare_100 : decode cX0_compare 100 = .ok (.getfield 16, 3) := by decide +kernel
theorem dX0_compare_103 : decode cX0_compare 103 = .ok (.iaload, 1) := by decide +kernel
theorem dX0_compare_104 : decode cX0_compare 104 = .ok (.putfield 34, 3) := by decide +kernel
theorem dX0_compare_107 : decode cX0_compare 107 = .ok (.return_, 1) := by decide +kernel
theorem dX0_fillRow_0 : decode cX0_fillRow 0 = .ok (.aload_n 0, 1) := by decide +kernel
theorem dX0_fillRow_1 : decode cX0_fillRow 1 = .ok (.getfield 11, 3) := by decide +kernel
theorem dX0_fillRow_4 : decode cX0_fillRow 4 = .ok (.iload_n 3, 1) := by decide +kernel
theorem dX0_fillRow_5 : decode cX0_fillRow 5 = .ok (.iconst 1, 1) := by decide +kernel
theorem dX0_fillRow_6 : decode cX0_fillRow 6 = .ok (.iand, 1) := by decide +kernel
theorem dX0_fillRow_7 : decode cX0_fillRow 7 = .ok (.aaload, 1) := by decide +kernel
theorem dX0_fillRow_8 : decode cX0_fillRow 8 = .ok (.astore 4, 2) := by decide +kernel
theorem dX0_fillRow_10 : decode cX0_fillRow 10 = .ok (.aload_n 0, 1) := by decide +kernel
theorem dX0_fillRow_11 : decode cX0_fillRow 11 = .ok (.getfield 11, 3) := by decide +kernel
theorem dX0_fillRow_14 : decode cX0_fillRow 14 = .ok (.iload_n 3, 1) := by decide +kernel
theorem dX0_fillRow_15 : decode cX0_fillRow 15 = .ok (.iconst 1, 1) := by decide +kernel
theorem dX0_fillRow_16 : decode cX0_fillRow 16 = .ok (.iadd, 1) := by decide +kernel
theorem dX0_fillRow_17 : decode cX0_fillRow 17 = .ok (.iconst 1, 1) := by decide +kernel
theorem dX0_fillRow_18 : decode cX0_fillRow 18 = .ok (.iand, 1) := by decide +kernel
theorem dX0_fillRow_19 : decode cX0_fillRow 19 = .ok (.aaload, 1) := by decide +kernel
theorem dX0_fillRow_20 : decode cX0_fillRow 20 = .ok (.astore 5, 2) := by decide +kernel
theorem dX0_fillRow_22 : decode cX0_fillRow 22 = .ok (.aload_n 1, 1) := by decide +kernel
theorem dX0_fillRow_23 : decode cX0_fillRow 23 = .ok (.invokevirtual 20, 3) := by decide +kernel
theorem dX0_fillRow_26 : decode cX0_fillRow 26 = .ok (.iload_n 3, 1) := by decide +kernel
theorem dX0_fillRow_27 : decode cX0_fillRow 27 = .ok (.isub, 1) := by decide +kernel
theorem dX0_fillRow_28 : decode cX0_fillRow 28 = .ok (.istore 6, 2) := by decide +kernel
theorem dX0_fillRow_30 : decode cX0_fillRow 30 = .ok (.aload 4, 2) := by decide +kernel
theorem dX0_fillRow_32 : decode cX0_fillRow 32 = .ok (.aload_n 2, 1) := by decide +kernel
theorem dX0_fillRow_33 : decode cX0_fillRow 33 = .ok (.invokevirtual 20, 3) := by decide +kernel
theorem dX0_fillRow_36 : decode cX0_fillRow 36 = .ok (.iload 6, 2) := by decide +kernel
theorem dX0_fillRow_38 : decode cX0_fillRow 38 = .ok (.iastore, 1) := by decide +kernel
theorem dX0_fillRow_39 : decode cX0_fillRow 39 = .ok (.aload_n 2, 1) := by decide +kernel
theorem dX0_fillRow_40 : decode cX0_fillRow 40 = .ok (.invokevirtual 20, 3) := by decide +kernel
theorem dX0_fillRow_43 : decode cX0_fillRow 43 = .ok (.iconst 1, 1) := by decide +kernel
theorem dX0_fillRow_44 : decode cX0_fillRow 44 = .ok (.isub, 1) := by decide +kernel
theorem dX0_fillRow_45 : decode cX0_fillRow 45 = .ok (.istore 7, 2) := by decide +kernel
theorem dX0_fillRow_47 : decode cX0_fillRow 47 = .ok (.iload 7, 2) := by decide +kernel
theorem dX0_fillRow_49 : decode cX0_fillRow 49 = .ok (.aload_n 0, 1) := by decide +kernel
theorem dX0_fillRow_50 : decode cX0_fillRow 50 = .ok (.getfield 16, 3) := by decide +kernel
theorem dX0_fillRow_53 : decode cX0_fillRow 53 = .ok (.if_icmp .lt 92, 3) := by decide +kernel
theorem dX0_fillRow_56 : decode cX0_fillRow 56 = .ok (.iload 6, 2) := by decide +kernel
theorem dX0_fillRow_58 : decode cX0_fillRow 58 = .ok (.ifCond .ne 18, 3) := by decide +kernel
theorem dX0_fillRow_61 : decode cX0_fillRow 61 = .ok (.aload 4, 2) := by decide +kernel
theorem dX0_fillRow_63 : decode cX0_fillRow 63 = .ok (.iload 7, 2) := by decide +kernel
theorem dX0_fillRow_65 : decode cX0_fillRow 65 = .ok (.aload_n 2, 1) := by decide +kernel
theorem dX0_fillRow_66 : decode cX0_fillRow 66 = .ok (.invokevirtual 20, 3) := by decide +kernel
theorem dX0_fillRow_69 : decode cX0_fillRow 69 = .ok (.iload 7, 2) := by decide +kernel
theorem dX0_fillRow_71 : decode cX0_fillRow 71 = .ok (.isub, 1) := by decide +kernel
theorem dX0_fillRow_72 : decode cX0_fillRow 72 = .ok (.iastore, 1) := by decide +kernel
theorem dX0_fillRow_73 : decode cX0_fillRow 73 = .ok (.goto 66, 3) := by decide +kernel
theorem dX0_fillRow_76 : decode cX0_fillRow 76 = .ok (.aload_n 1, 1) := by decide +kernel
theorem dX0_fillRow_77 : decode cX0_fillRow 77 = .ok (.getfield 26, 3) := by decide +kernel
theorem dX0_fillRow_80 : decode cX0_fillRow 80 = .ok (.iload_n 3, 1) := by decide +kernel
theorem dX0_fillRow_81 : decode cX0_fillRow 81 = .ok (.iaload, 1) := by decide +kernel
theorem dX0_fillRow_82 : decode cX0_fillRow 82 = .ok (.aload_n 2, 1) := by decide +kernel
theorem dX0_fillRow_83 : decode cX0_fillRow 83 = .ok (.getfield 26, 3) := by decide +kernel
theorem dX0_fillRow_86 : decode cX0_fillRow 86 = .ok (.iload 7, 2) := by decide +kernel
theorem dX0_fillRow_88 : decode cX0_fillRow 88 = .ok (.iaload, 1) := by decide +kernel
theorem dX0_fillRow_89 : decode cX0_fillRow 89 = .ok (.if_icmp .ne 18, 3) := by decide +kernel
theorem dX0_fillRow_92 : decode cX0_fillRow 92 = .ok (.aload 4, 2) := by decide +kernel
theorem dX0_fillRow_94 : decode cX0_fillRow 94 = .ok (.iload 7, 2) := by decide +kernel
theorem dX0_fillRow_96 : decode cX0_fillRow 96 = .ok (.aload 5, 2) := by decide +kernel
theorem dX0_fillRow_98 : decode cX0_fillRow 98 = .ok (.iload 7, 2) := by decide +kernel
theorem dX0_fillRow_100 : decode cX0_fillRow 100 = .ok (.iconst 1, 1) := by decide +kernel
theorem dX0_fillRow_101 : decode cX0_fillRow 101 = .ok (.iadd, 1) := by decide +kernel
theorem dX0_fillRow_102 : decode cX0_fillRow 102 = .ok (.iaload, 1) := by decide +kernel
theorem dX0_fillRow_103 : decode cX0_fillRow 103 = .ok (.iastore, 1) := by decide +kernel
theorem dX0_fillRow_104 : decode cX0_fillRow 104 = .ok (.goto 35, 3) := by decide +kernel
theorem dX0_fillRow_107 : decode cX0_fillRow 107 = .ok (.aload 4, 2) := by decide +kernel
theorem dX0_fillRow_109 : decode cX0_fillRow 109 = .ok (.iload 7, 2) := by decide +kernel
theorem dX0_fillRow_111 : decode cX0_fillRow 111 = .ok (.iconst 1, 1) := by decide +kernel
theorem dX0_fillRow_112 : decode cX0_fillRow 112 = .ok (.aload 5, 2) := by decide +kernel
theorem dX0_fillRow_114 : decode cX0_fillRow 114 = .ok (.iload 7, 2) := by decide +kernel
theorem dX0_fillRow_116 : decode cX0_fillRow 116 = .ok (.iconst 1, 1) := by decide +kernel
theorem dX0_fillRow_117 : decode cX0_fillRow 117 = .ok (.iadd, 1) := by decide +kernel
theorem dX0_fillRow_118 : decode cX0_fillRow 118 = .ok (.iaload, 1) := by decide +kernel
theorem dX0_fillRow_119 : decode cX0_fillRow 119 = .ok (.aload 4, 2) := by decide +kernel
theorem dX0_fillRow_121 : decode cX0_fillRow 121 = .ok (.iload 7, 2) := by decide +kernel
theorem dX0_fillRow_123 : decode cX0_fillRow 123 = .ok (.iconst 1, 1) := by decide +kernel
theorem dX0_fillRow_124 : decode cX0_fillRow 124 = .ok (.iadd, 1) := by decide +kernel
theorem dX0_fillRow_125 : decode cX0_fillRow 125 = .ok (.iaload, 1) := by decide +kernel
theorem dX0_fillRow_126 : decode cX0_fillRow 126 = .ok (.aload 5, 2) := by decide +kernel
theorem dX0_fillRow_128 : decode cX0_fillRow 128 = .ok (.iload 7, 2) := by decide +kernel
theorem dX0_fillRow_130 : decode cX0_fillRow 130 = .ok (.iaload, 1) := by decide +kernel
theorem dX0_fillRow_131 : decode cX0_fillRow 131 = .ok (.invokestatic 37, 3) := by decide +kernel
theorem dX0_fillRow_134 : decode cX0_fillRow 134 = .ok (.invokestatic 37, 3) := by decide +kernel
theorem dX0_fillRow_137 : decode cX0_fillRow 137 = .ok (.iadd, 1) := by decide +kernel
theorem dX0_fillRow_138 : decode cX0_fillRow 138 = .ok (.iastore, 1) := by decide +kernel
theorem dX0_fillRow_139 : decode cX0_fillRow 139 = .ok (.iinc 7 (-1), 3) := by decide +kernel
theorem dX0_fillRow_142 : decode cX0_fillRow 142 = .ok (.goto (-95), 3) := by decide +kernel
theorem dX0_fillRow_145 : decode cX0_fillRow 145 = .ok (.return_, 1) := by decide +kernel
theorem dX0_firstKind_0 : decode cX0_firstKind 0 = .ok (.aload_n 0, 1) := by decide +kernel
theorem dX0_firstKind_1 : decode cX0_firstKind 1 = .ok (.getfield 34, 3) := by decide +kernel
theorem dX0_firstKind_4 : decode cX0_firstKind 4 = .ok (.ifCond .ne 5, 3) := by decide +kernel
theorem dX0_firstKind_7 : decode cX0_firstKind 7 = .ok (.iconst (-1), 1) := by decide +kernel
theorem dX0_firstKind_8 : decode cX0_firstKind 8 = .ok (.ireturn, 1) := by decide +kernel
theorem dX0_firstKind_9 : decode cX0_firstKind 9 = .ok (.aload_n 0, 1) := by decide +kernel
theorem dX0_firstKind_10 : decode cX0_firstKind 10 = .ok (.getfield 16, 3) := by decide +kernel
theorem dX0_firstKind_13 : decode cX0_firstKind 13 = .ok (.aload_n 1, 1) := by decide +kernel
theorem dX0_firstKind_14 : decode cX0_firstKind 14 = .ok (.invokevirtual 20, 3) := by decide +kernel
theorem dX0_firstKind_17 : decode cX0_firstKind 17 = .ok (.if_icmp .ge 7, 3) := by decide +kernel
theorem dX0_firstKind_20 : decode cX0_firstKind 20 = .ok (.iconst 1, 1) := by decide +kernel
theorem dX0_firstKind_21 : decode cX0_firstKind 21 = .ok (.goto 4, 3) := by decide +kernel
theorem dX0_firstKind_24 : decode cX0_firstKind 24 = .ok (.iconst 0, 1) := by decide +kernel
theorem dX0_firstKind_25 : decode cX0_firstKind 25 = .ok (.istore_n 3, 1) := by decide +kernel
theorem dX0_firstKind_26 : decode cX0_firstKind 26 = .ok (.aload_n 0, 1) := by decide +kernel
theorem dX0_firstKind_27 : decode cX0_firstKind 27 = .ok (.getfield 16, 3) := by decide +kernel
theorem dX0_firstKind_30 : decode cX0_firstKind 30 = .ok (.aload_n 2, 1) := by decide +kernel
theorem dX0_firstKind_31 : decode cX0_firstKind 31 = .ok (.invokevirtual 20, 3) := by decide +kernel
theorem dX0_firstKind_34 : decode cX0_firstKind 34 = .ok (.if_icmp .ge 7, 3) := by decide +kernel
theorem dX0_firstKind_37 : decode cX0_firstKind 37 = .ok (.iconst 1, 1) := by decide +kernel
theorem dX0_firstKind_38 : decode cX0_firstKind 38 = .ok (.goto 4, 3) := by decide +kernel
theorem dX0_firstKind_41 : decode cX0_firstKind 41 = .ok (.iconst 0, 1) := by decide +kernel
theorem dX0_firstKind_42 : decode cX0_firstKind 42 = .ok (.istore 4, 2) := by decide +kernel
theorem dX0_firstKind_44 : decode cX0_firstKind 44 = .ok (.iload_n 3, 1) := by decide +kernel
theorem dX0_firstKind_45 : decode cX0_firstKind 45 = .ok (.ifCond .eq 39, 3) := by decide +kernel
theorem dX0_firstKind_48 : decode cX0_firstKind 48 = .ok (.iload 4, 2) := by decide +kernel
theorem dX0_firstKind_50 : decode cX0_firstKind 50 = .ok (.ifCond .eq 34, 3) := by decide +kernel
theorem dX0_firstKind_53 : decode cX0_firstKind 53 = .ok (.aload_n 0, 1) := by decide +kernel
theorem dX0_firstKind_54 : decode cX0_firstKind 54 = .ok (.getfield 11, 3) := by decide +kernel
theorem dX0_firstKind_57 : decode cX0_firstKind 57 = .ok (.aload_n 0, 1) := by decide +kernel
theorem dX0_firstKind_58 : decode cX0_firstKind 58 = .ok (.getfield 16, 3) := by decide +kernel
theorem dX0_firstKind_61 : decode cX0_firstKind 61 = .ok (.iconst 1, 1) := by decide +kernel
theorem dX0_firstKind_62 : decode cX0_firstKind 62 = .ok (.iadd, 1) := by decide +kernel
theorem dX0_firstKind_63 : decode cX0_firstKind 63 = .ok (.iconst 1, 1) := by decide +kernel
theorem dX0_firstKind_64 : decode cX0_firstKind 64 = .ok (.iand, 1) := by decide +kernel
theorem dX0_firstKind_65 : decode cX0_firstKind 65 = .ok (.aaload, 1) := by decide +kernel
theorem dX0_firstKind_66 : decode cX0_firstKind 66 = .ok (.aload_n 0, 1) := by decide +kernel
theorem dX0_firstKind_67 : decode cX0_firstKind 67 = .ok (.getfield 16, 3) := by decide +kernel
theorem dX0_firstKind_70 : decode cX0_firstKind 70 = .ok (.iconst 1, 1) := by decide +kernel
theorem dX0_firstKind_71 : decode cX0_firstKind 71 = .ok (.iadd, 1) := by decide +kernel
theorem dX0_firstKind_72 : decode cX0_firstKind 72 = .ok (.iaload, 1) := by decide +kernel
theorem dX0_firstKind_73 : decode cX0_firstKind 73 = .ok (.aload_n 0, 1) := by decide +kernel
theorem dX0_firstKind_74 : decode cX0_firstKind 74 = .ok (.getfield 34, 3) := by decide +kernel
theorem dX0_firstKind_77 : decode cX0_firstKind 77 = .ok (.iconst 1, 1) := by decide +kernel
theorem dX0_firstKind_78 : decode cX0_firstKind 78 = .ok (.isub, 1) := by decide +kernel
theorem dX0_firstKind_79 : decode cX0_firstKind 79 = .ok (.if_icmp .ne 5, 3) := by decide +kernel
theorem dX0_firstKind_82 : decode cX0_firstKind 82 = .ok (.iconst 0, 1) := by decide +kernel
theorem dX0_firstKind_83 : decode cX0_firstKind 83 = .ok (.ireturn, 1) := by decide +kernel
theorem dX0_firstKind_84 : decode cX0_firstKind 84 = .ok (.iload 4, 2) := by decide +kernel
theorem dX0_firstKind_86 : decode cX0_firstKind 86 = .ok (.ifCond .eq 34, 3) := by decide +kernel
theorem dX0_firstKind_89 : decode cX0_firstKind 89 = .ok (.aload_n 0, 1) := by decide +kernel
theorem dX0_firstKind_90 : decode cX0_firstKind 90 = .ok (.getfield 11, 3) := by decide +kernel
theorem dX0_firstKind_93 : decode cX0_firstKind 93 = .ok (.aload_n 0, 1) := by decide +kernel
theorem dX0_firstKind_94 : decode cX0_firstKind 94 = .ok (.getfield 16, 3) := by decide +kernel
theorem dX0_firstKind_97 : decode cX0_firstKind 97 = .ok (.iconst 1, 1) := by decide +kernel
theorem dX0_firstKind_98 : decode cX0_firstKind 98 = .ok (.iand, 1) := by decide +kernel
theorem dX0_firstKind_99 : decode cX0_firstKind 99 = .ok (.aaload, 1) := by decide +kernel
theorem dX0_firstKind_100 : decode cX0_firstKind 100 = .ok (.aload_n 0, 1) := by decide +kernel
theorem dX0_firstKind_101 : decode cX0_firstKind 101 = .ok (.getfield 16, 3) := by decide +kernel
theorem dX0_firstKind_104 : decode cX0_firstKind 104 = .ok (.iconst 1, 1) := by decide +kernel
theorem dX0_firstKind_105 : decode cX0_firstKind 105 = .ok (.iadd, 1) := by decide +kernel
theorem dX0_firstKind_106 : decode cX0_firstKind 106 = .ok (.iaload, 1) := by decide +kernel
theorem dX0_firstKind_107 : decode cX0_firstKind 107 = .ok (.aload_n 0, 1) := by decide +kernel
theorem dX0_firstKind_108 : decode cX0_firstKind 108 = .ok (.getfield 34, 3) := by decide +kernel
theorem dX0_firstKind_111 : decode cX0_firstKind 111 = .ok (.iconst 1, 1) := by decide +kernel
theorem dX0_firstKind_112 : decode cX0_firstKind 112 = .ok (.isub, 1) := by decide +kernel
theorem dX0_firstKind_113 : decode cX0_firstKind 113 = .ok (.if_icmp .ne 7, 3) := by decide +kernel
theorem dX0_firstKind_116 : decode cX0_firstKind 116 = .ok (.iconst 1, 1) := by decide +kernel
theorem dX0_firstKind_117 : decode cX0_firstKind 117 = .ok (.goto 4, 3) := by decide +kernel
theorem dX0_firstKind_120 : decode cX0_firstKind 120 = .ok (.iconst 2, 1) := by decide +kernel
theorem dX0_firstKind_121 : decode cX0_firstKind 121 = .ok (.ireturn, 1) := by decide +kernel
