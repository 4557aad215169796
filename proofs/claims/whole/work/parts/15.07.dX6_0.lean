theorem dX6_init_0 : decode cX6_init 0 = .ok (.aload_n 0, 1) := by decide +kernel
theorem dX6_init_1 : decode cX6_init 1 = .ok (.invokespecial 3, 3) := by decide +kernel
theorem dX6_init_4 : decode cX6_init 4 = .ok (.aload_n 0, 1) := by decide +kernel
theorem dX6_init_5 : decode cX6_init 5 = .ok (.bipush 121, 2) := by decide +kernel
theorem dX6_init_7 : decode cX6_init 7 = .ok (.newarray .int, 2) := by decide +kernel
theorem dX6_init_9 : decode cX6_init 9 = .ok (.putfield 9, 3) := by decide +kernel
theorem dX6_init_12 : decode cX6_init 12 = .ok (.aload_n 0, 1) := by decide +kernel
theorem dX6_init_13 : decode cX6_init 13 = .ok (.bipush 121, 2) := by decide +kernel
theorem dX6_init_15 : decode cX6_init 15 = .ok (.newarray .int, 2) := by decide +kernel
theorem dX6_init_17 : decode cX6_init 17 = .ok (.putfield 15, 3) := by decide +kernel
theorem dX6_init_20 : decode cX6_init 20 = .ok (.return_, 1) := by decide +kernel
theorem dX6_scan_0 : decode cX6_scan 0 = .ok (.aload_n 0, 1) := by decide +kernel
theorem dX6_scan_1 : decode cX6_scan 1 = .ok (.iconst 0, 1) := by decide +kernel
theorem dX6_scan_2 : decode cX6_scan 2 = .ok (.putfield 18, 3) := by decide +kernel
theorem dX6_scan_5 : decode cX6_scan 5 = .ok (.iconst 1, 1) := by decide +kernel
theorem dX6_scan_6 : decode cX6_scan 6 = .ok (.istore_n 2, 1) := by decide +kernel
theorem dX6_scan_7 : decode cX6_scan 7 = .ok (.iconst 0, 1) := by decide +kernel
theorem dX6_scan_8 : decode cX6_scan 8 = .ok (.istore_n 3, 1) := by decide +kernel
theorem dX6_scan_9 : decode cX6_scan 9 = .ok (.iload_n 3, 1) := by decide +kernel
theorem dX6_scan_10 : decode cX6_scan 10 = .ok (.bipush 120, 2) := by decide +kernel
theorem dX6_scan_12 : decode cX6_scan 12 = .ok (.if_icmp .gt 93, 3) := by decide +kernel
theorem dX6_scan_15 : decode cX6_scan 15 = .ok (.iload_n 2, 1) := by decide +kernel
theorem dX6_scan_16 : decode cX6_scan 16 = .ok (.ifCond .eq 89, 3) := by decide +kernel
theorem dX6_scan_19 : decode cX6_scan 19 = .ok (.aload_n 0, 1) := by decide +kernel
theorem dX6_scan_20 : decode cX6_scan 20 = .ok (.aload_n 1, 1) := by decide +kernel
theorem dX6_scan_21 : decode cX6_scan 21 = .ok (.invokevirtual 22, 3) := by decide +kernel
theorem dX6_scan_24 : decode cX6_scan 24 = .ok (.aload_n 0, 1) := by decide +kernel
theorem dX6_scan_25 : decode cX6_scan 25 = .ok (.iload_n 3, 1) := by decide +kernel
theorem dX6_scan_26 : decode cX6_scan 26 = .ok (.putfield 26, 3) := by decide +kernel
theorem dX6_scan_29 : decode cX6_scan 29 = .ok (.aload_n 0, 1) := by decide +kernel
theorem dX6_scan_30 : decode cX6_scan 30 = .ok (.getfield 15, 3) := by decide +kernel
theorem dX6_scan_33 : decode cX6_scan 33 = .ok (.iload_n 3, 1) := by decide +kernel
theorem dX6_scan_34 : decode cX6_scan 34 = .ok (.aload_n 0, 1) := by decide +kernel
theorem dX6_scan_35 : decode cX6_scan 35 = .ok (.getfield 18, 3) := by decide +kernel
theorem dX6_scan_38 : decode cX6_scan 38 = .ok (.iastore, 1) := by decide +kernel
theorem dX6_scan_39 : decode cX6_scan 39 = .ok (.aload_n 0, 1) := by decide +kernel
theorem dX6_scan_40 : decode cX6_scan 40 = .ok (.getfield 9, 3) := by decide +kernel
theorem dX6_scan_43 : decode cX6_scan 43 = .ok (.iload_n 3, 1) := by decide +kernel
theorem dX6_scan_44 : decode cX6_scan 44 = .ok (.aload_n 0, 1) := by decide +kernel
theorem dX6_scan_45 : decode cX6_scan 45 = .ok (.aload_n 1, 1) := by decide +kernel
theorem dX6_scan_46 : decode cX6_scan 46 = .ok (.invokevirtual 29, 3) := by decide +kernel
theorem dX6_scan_49 : decode cX6_scan 49 = .ok (.iastore, 1) := by decide +kernel
theorem dX6_scan_50 : decode cX6_scan 50 = .ok (.iload_n 3, 1) := by decide +kernel
theorem dX6_scan_51 : decode cX6_scan 51 = .ok (.bipush 120, 2) := by decide +kernel
theorem dX6_scan_53 : decode cX6_scan 53 = .ok (.if_icmp .ne 20, 3) := by decide +kernel
theorem dX6_scan_56 : decode cX6_scan 56 = .ok (.aload_n 0, 1) := by decide +kernel
theorem dX6_scan_57 : decode cX6_scan 57 = .ok (.getfield 9, 3) := by decide +kernel
theorem dX6_scan_60 : decode cX6_scan 60 = .ok (.iload_n 3, 1) := by decide +kernel
theorem dX6_scan_61 : decode cX6_scan 61 = .ok (.iaload, 1) := by decide +kernel
theorem dX6_scan_62 : decode cX6_scan 62 = .ok (.ifCond .eq 11, 3) := by decide +kernel
theorem dX6_scan_65 : decode cX6_scan 65 = .ok (.aload_n 0, 1) := by decide +kernel
theorem dX6_scan_66 : decode cX6_scan 66 = .ok (.getfield 9, 3) := by decide +kernel
theorem dX6_scan_69 : decode cX6_scan 69 = .ok (.iload_n 3, 1) := by decide +kernel
theorem dX6_scan_70 : decode cX6_scan 70 = .ok (.bipush (-2), 2) := by decide +kernel
theorem dX6_scan_72 : decode cX6_scan 72 = .ok (.iastore, 1) := by decide +kernel
theorem dX6_scan_73 : decode cX6_scan 73 = .ok (.aload_n 0, 1) := by decide +kernel
theorem dX6_scan_74 : decode cX6_scan 74 = .ok (.getfield 9, 3) := by decide +kernel
theorem dX6_scan_77 : decode cX6_scan 77 = .ok (.iload_n 3, 1) := by decide +kernel
theorem dX6_scan_78 : decode cX6_scan 78 = .ok (.iaload, 1) := by decide +kernel
theorem dX6_scan_79 : decode cX6_scan 79 = .ok (.ifCond .eq 18, 3) := by decide +kernel
theorem dX6_scan_82 : decode cX6_scan 82 = .ok (.aload_n 0, 1) := by decide +kernel
theorem dX6_scan_83 : decode cX6_scan 83 = .ok (.getfield 9, 3) := by decide +kernel
theorem dX6_scan_86 : decode cX6_scan 86 = .ok (.iload_n 3, 1) := by decide +kernel
theorem dX6_scan_87 : decode cX6_scan 87 = .ok (.iaload, 1) := by decide +kernel
theorem dX6_scan_88 : decode cX6_scan 88 = .ok (.bipush (-2), 2) := by decide +kernel
theorem dX6_scan_90 : decode cX6_scan 90 = .ok (.if_icmp .eq 7, 3) := by decide +kernel
theorem dX6_scan_93 : decode cX6_scan 93 = .ok (.iconst 1, 1) := by decide +kernel
theorem dX6_scan_94 : decode cX6_scan 94 = .ok (.goto 4, 3) := by decide +kernel
theorem dX6_scan_97 : decode cX6_scan 97 = .ok (.iconst 0, 1) := by decide +kernel
theorem dX6_scan_98 : decode cX6_scan 98 = .ok (.istore_n 2, 1) := by decide +kernel
theorem dX6_scan_99 : decode cX6_scan 99 = .ok (.iinc 3 1, 3) := by decide +kernel
theorem dX6_scan_102 : decode cX6_scan 102 = .ok (.goto (-93), 3) := by decide +kernel
theorem dX6_scan_105 : decode cX6_scan 105 = .ok (.return_, 1) := by decide +kernel
theorem dX6_passBlanks_0 : decode cX6_passBlanks 0 = .ok (.aload_n 0, 1) := by decide +kernel
theorem dX6_passBlanks_1 : decode cX6_passBlanks 1 = .ok (.getfield 18, 3) := by decide +kernel
theorem dX6_passBlanks_4 : decode cX6_passBlanks 4 = .ok (.aload_n 1, 1) := by decide +kernel
theorem dX6_passBlanks_5 : decode cX6_passBlanks 5 = .ok (.getfield 33, 3) := by decide +kernel
theorem dX6_passBlanks_8 : decode cX6_passBlanks 8 = .ok (.if_icmp .ge 30, 3) := by decide +kernel
theorem dX6_passBlanks_11 : decode cX6_passBlanks 11 = .ok (.aload_n 1, 1) := by decide +kernel
theorem dX6_passBlanks_12 : decode cX6_passBlanks 12 = .ok (.getfield 36, 3) := by decide +kernel
theorem dX6_passBlanks_15 : decode cX6_passBlanks 15 = .ok (.aload_n 0, 1) := by decide +kernel
theorem dX6_passBlanks_16 : decode cX6_passBlanks 16 = .ok (.getfield 18, 3) := by decide +kernel
theorem dX6_passBlanks_19 : decode cX6_passBlanks 19 = .ok (.iaload, 1) := by decide +kernel
theorem dX6_passBlanks_20 : decode cX6_passBlanks 20 = .ok (.bipush 32, 2) := by decide +kernel
theorem dX6_passBlanks_22 : decode cX6_passBlanks 22 = .ok (.if_icmp .ne 16, 3) := by decide +kernel
theorem dX6_passBlanks_25 : decode cX6_passBlanks 25 = .ok (.aload_n 0, 1) := by decide +kernel
theorem dX6_passBlanks_26 : decode cX6_passBlanks 26 = .ok (.dup, 1) := by decide +kernel
theorem dX6_passBlanks_27 : decode cX6_passBlanks 27 = .ok (.getfield 18, 3) := by decide +kernel
theorem dX6_passBlanks_30 : decode cX6_passBlanks 30 = .ok (.iconst 1, 1) := by decide +kernel
theorem dX6_passBlanks_31 : decode cX6_passBlanks 31 = .ok (.iadd, 1) := by decide +kernel
theorem dX6_passBlanks_32 : decode cX6_passBlanks 32 = .ok (.putfield 18, 3) := by decide +kernel
theorem dX6_passBlanks_35 : decode cX6_passBlanks 35 = .ok (.goto (-35), 3) := by decide +kernel
theorem dX6_passBlanks_38 : decode cX6_passBlanks 38 = .ok (.return_, 1) := by decide +kernel
theorem dX6_takeToken_0 : decode cX6_takeToken 0 = .ok (.aload_n 0, 1) := by decide +kernel
theorem dX6_takeToken_1 : decode cX6_takeToken 1 = .ok (.getfield 18, 3) := by decide +kernel
theorem dX6_takeToken_4 : decode cX6_takeToken 4 = .ok (.aload_n 1, 1) := by decide +kernel
theorem dX6_takeToken_5 : decode cX6_takeToken 5 = .ok (.getfield 33, 3) := by decide +kernel
theorem dX6_takeToken_8 : decode cX6_takeToken 8 = .ok (.if_icmp .lt 5, 3) := by decide +kernel
theorem dX6_takeToken_11 : decode cX6_takeToken 11 = .ok (.iconst 0, 1) := by decide +kernel
theorem dX6_takeToken_12 : decode cX6_takeToken 12 = .ok (.ireturn, 1) := by decide +kernel
theorem dX6_takeToken_13 : decode cX6_takeToken 13 = .ok (.aload_n 1, 1) := by decide +kernel
theorem dX6_takeToken_14 : decode cX6_takeToken 14 = .ok (.aload_n 0, 1) := by decide +kernel
theorem dX6_takeToken_15 : decode cX6_takeToken 15 = .ok (.getfield 18, 3) := by decide +kernel
theorem dX6_takeToken_18 : decode cX6_takeToken 18 = .ok (.invokevirtual 39, 3) := by decide +kernel
theorem dX6_takeToken_21 : decode cX6_takeToken 21 = .ok (.ifCond .eq 9, 3) := by decide +kernel
theorem dX6_takeToken_24 : decode cX6_takeToken 24 = .ok (.aload_n 0, 1) := by decide +kernel
theorem dX6_takeToken_25 : decode cX6_takeToken 25 = .ok (.aload_n 1, 1) := by decide +kernel
theorem dX6_takeToken_26 : decode cX6_takeToken 26 = .ok (.invokevirtual 43, 3) := by decide +kernel
theorem dX6_takeToken_29 : decode cX6_takeToken 29 = .ok (.ireturn, 1) := by decide +kernel
theorem dX6_takeToken_30 : decode cX6_takeToken 30 = .ok (.aload_n 1, 1) := by decide +kernel
theorem dX6_takeToken_31 : decode cX6_takeToken 31 = .ok (.aload_n 0, 1) := by decide +kernel
theorem dX6_takeToken_32 : decode cX6_takeToken 32 = .ok (.getfield 18, 3) := by decide +kernel
theorem dX6_takeToken_35 : decode cX6_takeToken 35 = .ok (.invokevirtual 46, 3) := by decide +kernel
theorem dX6_takeToken_38 : decode cX6_takeToken 38 = .ok (.ifCond .eq 9, 3) := by decide +kernel
theorem dX6_takeToken_41 : decode cX6_takeToken 41 = .ok (.aload_n 0, 1) := by decide +kernel
theorem dX6_takeToken_42 : decode cX6_takeToken 42 = .ok (.aload_n 1, 1) := by decide +kernel
theorem dX6_takeToken_43 : decode cX6_takeToken 43 = .ok (.invokevirtual 49, 3) := by decide +kernel
theorem dX6_takeToken_46 : decode cX6_takeToken 46 = .ok (.ireturn, 1) := by decide +kernel
theorem dX6_takeToken_47 : decode cX6_takeToken 47 = .ok (.aload_n 1, 1) := by decide +kernel
theorem dX6_takeToken_48 : decode cX6_takeToken 48 = .ok (.getfield 36, 3) := by decide +kernel
theorem dX6_takeToken_51 : decode cX6_takeToken 51 = .ok (.aload_n 0, 1) := by decide +kernel
theorem dX6_takeToken_52 : decode cX6_takeToken 52 = .ok (.getfield 18, 3) := by decide +kernel
theorem dX6_takeToken_55 : decode cX6_takeToken 55 = .ok (.iaload, 1) := by decide +kernel
theorem dX6_takeToken_56 : decode cX6_takeToken 56 = .ok (.istore_n 2, 1) := by decide +kernel
theorem dX6_takeToken_57 : decode cX6_takeToken 57 = .ok (.aload_n 0, 1) := by decide +kernel
theorem dX6_takeToken_58 : decode cX6_takeToken 58 = .ok (.dup, 1) := by decide +kernel
theorem dX6_takeToken_59 : decode cX6_takeToken 59 = .ok (.getfield 18, 3) := by decide +kernel
theorem dX6_takeToken_62 : decode cX6_takeToken 62 = .ok (.iconst 1, 1) := by decide +kernel
theorem dX6_takeToken_63 : decode cX6_takeToken 63 = .ok (.iadd, 1) := by decide +kernel
theorem dX6_takeToken_64 : decode cX6_takeToken 64 = .ok (.putfield 18, 3) := by decide +kernel
theorem dX6_takeToken_67 : decode cX6_takeToken 67 = .ok (.ldc 52, 2) := by decide +kernel
theorem dX6_takeToken_69 : decode cX6_takeToken 69 = .ok (.iload_n 2, 1) := by decide +kernel
theorem dX6_takeToken_70 : decode cX6_takeToken 70 = .ok (.i2c, 1) := by decide +kernel
theorem dX6_takeToken_71 : decode cX6_takeToken 71 = .ok (.invokevirtual 54, 3) := by decide +kernel
theorem dX6_takeToken_74 : decode cX6_takeToken 74 = .ok (.ifCond .lt 7, 3) := by decide +kernel
theorem dX6_takeToken_77 : decode cX6_takeToken 77 = .ok (.iload_n 2, 1) := by decide +kernel
theorem dX6_takeToken_78 : decode cX6_takeToken 78 = .ok (.goto 5, 3) := by decide +kernel
theorem dX6_takeToken_81 : decode cX6_takeToken 81 = .ok (.bipush (-2), 2) := by decide +kernel
theorem dX6_takeToken_83 : decode cX6_takeToken 83 = .ok (.ireturn, 1) := by decide +kernel
theorem dX6_takeWord_0 : decode cX6_takeWord 0 = .ok (.aload_n 0, 1) := by decide +kernel
theorem dX6_takeWord_1 : decode cX6_takeWord 1 = .ok (.getfield 18, 3) := by decide +kernel
theorem dX6_takeWord_4 : decode cX6_takeWord 4 = .ok (.istore_n 2, 1) := by decide +kernel
theorem dX6_takeWord_5 : decode cX6_takeWord 5 = .ok (.aload_n 0, 1) := by decide +kernel
theorem dX6_takeWord_6 : decode cX6_takeWord 6 = .ok (.getfield 18, 3) := by decide +kernel
theorem dX6_takeWord_9 : decode cX6_takeWord 9 = .ok (.aload_n 1, 1) := by decide +kernel
theorem dX6_takeWord_10 : decode cX6_takeWord 10 = .ok (.getfield 33, 3) := by decide +kernel
theorem dX6_takeWord_13 : decode cX6_takeWord 13 = .ok (.if_icmp .ge 27, 3) := by decide +kernel
theorem dX6_takeWord_16 : decode cX6_takeWord 16 = .ok (.aload_n 1, 1) := by decide +kernel
theorem dX6_takeWord_17 : decode cX6_takeWord 17 = .ok (.aload_n 0, 1) := by decide +kernel
theorem dX6_takeWord_18 : decode cX6_takeWord 18 = .ok (.getfield 18, 3) := by decide +kernel
theorem dX6_takeWord_21 : decode cX6_takeWord 21 = .ok (.invokevirtual 39, 3) := by decide +kernel
theorem dX6_takeWord_24 : decode cX6_takeWord 24 = .ok (.ifCond .eq 16, 3) := by decide +kernel
theorem dX6_takeWord_27 : decode cX6_takeWord 27 = .ok (.aload_n 0, 1) := by decide +kernel
theorem dX6_takeWord_28 : decode cX6_takeWord 28 = .ok (.dup, 1) := by decide +kernel
theorem dX6_takeWord_29 : decode cX6_takeWord 29 = .ok (.getfield 18, 3) := by decide +kernel
theorem dX6_takeWord_32 : decode cX6_takeWord 32 = .ok (.iconst 1, 1) := by decide +kernel
theorem dX6_takeWord_33 : decode cX6_takeWord 33 = .ok (.iadd, 1) := by decide +kernel
theorem dX6_takeWord_34 : decode cX6_takeWord 34 = .ok (.putfield 18, 3) := by decide +kernel
theorem dX6_takeWord_37 : decode cX6_takeWord 37 = .ok (.goto (-32), 3) := by decide +kernel
theorem dX6_takeWord_40 : decode cX6_takeWord 40 = .ok (.aload_n 0, 1) := by decide +kernel
theorem dX6_takeWord_41 : decode cX6_takeWord 41 = .ok (.getfield 18, 3) := by decide +kernel
theorem dX6_takeWord_44 : decode cX6_takeWord 44 = .ok (.iload_n 2, 1) := by decide +kernel
theorem dX6_takeWord_45 : decode cX6_takeWord 45 = .ok (.isub, 1) := by decide +kernel
theorem dX6_takeWord_46 : decode cX6_takeWord 46 = .ok (.istore_n 3, 1) := by decide +kernel
theorem dX6_takeWord_47 : decode cX6_takeWord 47 = .ok (.iload_n 3, 1) := by decide +kernel
theorem dX6_takeWord_48 : decode cX6_takeWord 48 = .ok (.iconst 1, 1) := by decide +kernel
theorem dX6_takeWord_49 : decode cX6_takeWord 49 = .ok (.if_icmp .ne 28, 3) := by decide +kernel
theorem dX6_takeWord_52 : decode cX6_takeWord 52 = .ok (.aload_n 1, 1) := by decide +kernel
theorem dX6_takeWord_53 : decode cX6_takeWord 53 = .ok (.getfield 36, 3) := by decide +kernel
theorem dX6_takeWord_56 : decode cX6_takeWord 56 = .ok (.iload_n 2, 1) := by decide +kernel
theorem dX6_takeWord_57 : decode cX6_takeWord 57 = .ok (.iaload, 1) := by decide +kernel
theorem dX6_takeWord_58 : decode cX6_takeWord 58 = .ok (.istore 4, 2) := by decide +kernel
theorem dX6_takeWord_60 : decode cX6_takeWord 60 = .ok (.iload 4, 2) := by decide +kernel
theorem dX6_takeWord_62 : decode cX6_takeWord 62 = .ok (.invokestatic 60, 3) := by decide +kernel
theorem dX6_takeWord_65 : decode cX6_takeWord 65 = .ok (.iconst (-1), 1) := by decide +kernel
theorem dX6_takeWord_66 : decode cX6_takeWord 66 = .ok (.if_icmp .ne 8, 3) := by decide +kernel
theorem dX6_takeWord_69 : decode cX6_takeWord 69 = .ok (.bipush (-2), 2) := by decide +kernel
theorem dX6_takeWord_71 : decode cX6_takeWord 71 = .ok (.goto 5, 3) := by decide +kernel
theorem dX6_takeWord_74 : decode cX6_takeWord 74 = .ok (.iload 4, 2) := by decide +kernel
theorem dX6_takeWord_76 : decode cX6_takeWord 76 = .ok (.ireturn, 1) := by decide +kernel
theorem dX6_takeWord_77 : decode cX6_takeWord 77 = .ok (.aload_n 1, 1) := by decide +kernel
theorem dX6_takeWord_78 : decode cX6_takeWord 78 = .ok (.ldc 63, 2) := by decide +kernel
theorem dX6_takeWord_80 : decode cX6_takeWord 80 = .ok (.iload_n 2, 1) := by decide +kernel
theorem dX6_takeWord_81 : decode cX6_takeWord 81 = .ok (.iload_n 3, 1) := by decide +kernel
theorem dX6_takeWord_82 : decode cX6_takeWord 82 = .ok (.invokevirtual 65, 3) := by decide +kernel
theorem dX6_takeWord_85 : decode cX6_takeWord 85 = .ok (.ifCond .eq 7, 3) := by decide +kernel
theorem dX6_takeWord_88 : decode cX6_takeWord 88 = .ok (.sipush 256, 3) := by decide +kernel
theorem dX6_takeWord_91 : decode cX6_takeWord 91 = .ok (.ireturn, 1) := by decide +kernel
theorem dX6_takeWord_92 : decode cX6_takeWord 92 = .ok (.aload_n 1, 1) := by decide +kernel
theorem dX6_takeWord_93 : decode cX6_takeWord 93 = .ok (.ldc 69, 2) := by decide +kernel
theorem dX6_takeWord_95 : decode cX6_takeWord 95 = .ok (.iload_n 2, 1) := by decide +kernel
theorem dX6_takeWord_96 : decode cX6_takeWord 96 = .ok (.iload_n 3, 1) := by decide +kernel
theorem dX6_takeWord_97 : decode cX6_takeWord 97 = .ok (.invokevirtual 65, 3) := by decide +kernel
theorem dX6_takeWord_100 : decode cX6_takeWord 100 = .ok (.ifCond .eq 7, 3) := by decide +kernel
theorem dX6_takeWord_103 : decode cX6_takeWord 103 = .ok (.sipush 257, 3) := by decide +kernel
theorem dX6_takeWord_106 : decode cX6_takeWord 106 = .ok (.ireturn, 1) := by decide +kernel
theorem dX6_takeWord_107 : decode cX6_takeWord 107 = .ok (.aload_n 1, 1) := by decide +kernel
theorem dX6_takeWord_108 : decode cX6_takeWord 108 = .ok (.ldc 71, 2) := by decide +kernel
theorem dX6_takeWord_110 : decode cX6_takeWord 110 = .ok (.iload_n 2, 1) := by decide +kernel
theorem dX6_takeWord_111 : decode cX6_takeWord 111 = .ok (.iload_n 3, 1) := by decide +kernel
theorem dX6_takeWord_112 : decode cX6_takeWord 112 = .ok (.invokevirtual 65, 3) := by decide +kernel
theorem dX6_takeWord_115 : decode cX6_takeWord 115 = .ok (.ifCond .eq 9, 3) := by decide +kernel
theorem dX6_takeWord_118 : decode cX6_takeWord 118 = .ok (.sipush 258, 3) := by decide +kernel
theorem dX6_takeWord_121 : decode cX6_takeWord 121 = .ok (.goto 5, 3) := by decide +kernel
theorem dX6_takeWord_124 : decode cX6_takeWord 124 = .ok (.bipush (-2), 2) := by decide +kernel
theorem dX6_takeWord_126 : decode cX6_takeWord 126 = .ok (.ireturn, 1) := by decide +kernel
theorem dX6_takeNumber_0 : decode cX6_takeNumber 0 = .ok (.aload_n 0, 1) := by decide +kernel
theorem dX6_takeNumber_1 : decode cX6_takeNumber 1 = .ok (.getfield 18, 3) := by decide +kernel
theorem dX6_takeNumber_4 : decode cX6_takeNumber 4 = .ok (.istore_n 2, 1) := by decide +kernel
theorem dX6_takeNumber_5 : decode cX6_takeNumber 5 = .ok (.iconst 0, 1) := by decide +kernel
theorem dX6_takeNumber_6 : decode cX6_takeNumber 6 = .ok (.istore_n 3, 1) := by decide +kernel
theorem dX6_takeNumber_7 : decode cX6_takeNumber 7 = .ok (.aload_n 0, 1) := by decide +kernel
theorem dX6_takeNumber_8 : decode cX6_takeNumber 8 = .ok (.getfield 18, 3) := by decide +kernel
theorem dX6_takeNumber_11 : decode cX6_takeNumber 11 = .ok (.aload_n 1, 1) := by decide +kernel
theorem dX6_takeNumber_12 : decode cX6_takeNumber 12 = .ok (.getfield 33, 3) := by decide +kernel
theorem dX6_takeNumber_15 : decode cX6_takeNumber 15 = .ok (.if_icmp .ge 45, 3) := by decide +kernel
theorem dX6_takeNumber_18 : decode cX6_takeNumber 18 = .ok (.aload_n 1, 1) := by decide +kernel
theorem dX6_takeNumber_19 : decode cX6_takeNumber 19 = .ok (.aload_n 0, 1) := by decide +kernel
theorem dX6_takeNumber_20 : decode cX6_takeNumber 20 = .ok (.getfield 18, 3) := by decide +kernel
theorem dX6_takeNumber_23 : decode cX6_takeNumber 23 = .ok (.invokevirtual 46, 3) := by decide +kernel
theorem dX6_takeNumber_26 : decode cX6_takeNumber 26 = .ok (.ifCond .eq 34, 3) := by decide +kernel
theorem dX6_takeNumber_29 : decode cX6_takeNumber 29 = .ok (.iload_n 3, 1) := by decide +kernel
theorem dX6_takeNumber_30 : decode cX6_takeNumber 30 = .ok (.bipush 10, 2) := by decide +kernel
theorem dX6_takeNumber_32 : decode cX6_takeNumber 32 = .ok (.imul, 1) := by decide +kernel
theorem dX6_takeNumber_33 : decode cX6_takeNumber 33 = .ok (.aload_n 1, 1) := by decide +kernel
theorem dX6_takeNumber_34 : decode cX6_takeNumber 34 = .ok (.getfield 36, 3) := by decide +kernel
theorem dX6_takeNumber_37 : decode cX6_takeNumber 37 = .ok (.aload_n 0, 1) := by decide +kernel
theorem dX6_takeNumber_38 : decode cX6_takeNumber 38 = .ok (.getfield 18, 3) := by decide +kernel
theorem dX6_takeNumber_41 : decode cX6_takeNumber 41 = .ok (.iaload, 1) := by decide +kernel
theorem dX6_takeNumber_42 : decode cX6_takeNumber 42 = .ok (.iadd, 1) := by decide +kernel
theorem dX6_takeNumber_43 : decode cX6_takeNumber 43 = .ok (.bipush 48, 2) := by decide +kernel
theorem dX6_takeNumber_45 : decode cX6_takeNumber 45 = .ok (.isub, 1) := by decide +kernel
theorem dX6_takeNumber_46 : decode cX6_takeNumber 46 = .ok (.istore_n 3, 1) := by decide +kernel
theorem dX6_takeNumber_47 : decode cX6_takeNumber 47 = .ok (.aload_n 0, 1) := by decide +kernel
theorem dX6_takeNumber_48 : decode cX6_takeNumber 48 = .ok (.dup, 1) := by decide +kernel
theorem dX6_takeNumber_49 : decode cX6_takeNumber 49 = .ok (.getfield 18, 3) := by decide +kernel
theorem dX6_takeNumber_52 : decode cX6_takeNumber 52 = .ok (.iconst 1, 1) := by decide +kernel
theorem dX6_takeNumber_53 : decode cX6_takeNumber 53 = .ok (.iadd, 1) := by decide +kernel
theorem dX6_takeNumber_54 : decode cX6_takeNumber 54 = .ok (.putfield 18, 3) := by decide +kernel
theorem dX6_takeNumber_57 : decode cX6_takeNumber 57 = .ok (.goto (-50), 3) := by decide +kernel
theorem dX6_takeNumber_60 : decode cX6_takeNumber 60 = .ok (.aload_n 0, 1) := by decide +kernel
theorem dX6_takeNumber_61 : decode cX6_takeNumber 61 = .ok (.getfield 18, 3) := by decide +kernel
theorem dX6_takeNumber_64 : decode cX6_takeNumber 64 = .ok (.iload_n 2, 1) := by decide +kernel
theorem dX6_takeNumber_65 : decode cX6_takeNumber 65 = .ok (.isub, 1) := by decide +kernel
theorem dX6_takeNumber_66 : decode cX6_takeNumber 66 = .ok (.bipush 6, 2) := by decide +kernel
theorem dX6_takeNumber_68 : decode cX6_takeNumber 68 = .ok (.if_icmp .le 8, 3) := by decide +kernel
theorem dX6_takeNumber_71 : decode cX6_takeNumber 71 = .ok (.bipush (-2), 2) := by decide +kernel
theorem dX6_takeNumber_73 : decode cX6_takeNumber 73 = .ok (.goto 8, 3) := by decide +kernel
theorem dX6_takeNumber_76 : decode cX6_takeNumber 76 = .ok (.sipush 1000, 3) := by decide +kernel
theorem dX6_takeNumber_79 : decode cX6_takeNumber 79 = .ok (.iload_n 3, 1) := by decide +kernel
theorem dX6_takeNumber_80 : decode cX6_takeNumber 80 = .ok (.iadd, 1) := by decide +kernel
theorem dX6_takeNumber_81 : decode cX6_takeNumber 81 = .ok (.ireturn, 1) := by decide +kernel
