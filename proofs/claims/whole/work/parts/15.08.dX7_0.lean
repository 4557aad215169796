theorem dX7_init_0 : decode cX7_init 0 = .ok (.aload_n 0, 1) := by decide +kernel
theorem dX7_init_1 : decode cX7_init 1 = .ok (.invokespecial 3, 3) := by decide +kernel
theorem dX7_init_4 : decode cX7_init 4 = .ok (.aload_n 0, 1) := by decide +kernel
theorem dX7_init_5 : decode cX7_init 5 = .ok (.sipush 400, 3) := by decide +kernel
theorem dX7_init_8 : decode cX7_init 8 = .ok (.newarray .int, 2) := by decide +kernel
theorem dX7_init_10 : decode cX7_init 10 = .ok (.putfield 9, 3) := by decide +kernel
theorem dX7_init_13 : decode cX7_init 13 = .ok (.return_, 1) := by decide +kernel
theorem dX7_append_0 : decode cX7_append 0 = .ok (.bipush 24, 2) := by decide +kernel
theorem dX7_append_2 : decode cX7_append 2 = .ok (.istore_n 2, 1) := by decide +kernel
theorem dX7_append_3 : decode cX7_append 3 = .ok (.iload_n 2, 1) := by decide +kernel
theorem dX7_append_4 : decode cX7_append 4 = .ok (.ifCond .lt 45, 3) := by decide +kernel
theorem dX7_append_7 : decode cX7_append 7 = .ok (.aload_n 0, 1) := by decide +kernel
theorem dX7_append_8 : decode cX7_append 8 = .ok (.getfield 15, 3) := by decide +kernel
theorem dX7_append_11 : decode cX7_append 11 = .ok (.sipush 400, 3) := by decide +kernel
theorem dX7_append_14 : decode cX7_append 14 = .ok (.if_icmp .ge 35, 3) := by decide +kernel
theorem dX7_append_17 : decode cX7_append 17 = .ok (.aload_n 0, 1) := by decide +kernel
theorem dX7_append_18 : decode cX7_append 18 = .ok (.getfield 9, 3) := by decide +kernel
theorem dX7_append_21 : decode cX7_append 21 = .ok (.aload_n 0, 1) := by decide +kernel
theorem dX7_append_22 : decode cX7_append 22 = .ok (.getfield 15, 3) := by decide +kernel
theorem dX7_append_25 : decode cX7_append 25 = .ok (.iload_n 1, 1) := by decide +kernel
theorem dX7_append_26 : decode cX7_append 26 = .ok (.iload_n 2, 1) := by decide +kernel
theorem dX7_append_27 : decode cX7_append 27 = .ok (.ishr, 1) := by decide +kernel
theorem dX7_append_28 : decode cX7_append 28 = .ok (.sipush 255, 3) := by decide +kernel
theorem dX7_append_31 : decode cX7_append 31 = .ok (.iand, 1) := by decide +kernel
theorem dX7_append_32 : decode cX7_append 32 = .ok (.iastore, 1) := by decide +kernel
theorem dX7_append_33 : decode cX7_append 33 = .ok (.aload_n 0, 1) := by decide +kernel
theorem dX7_append_34 : decode cX7_append 34 = .ok (.dup, 1) := by decide +kernel
theorem dX7_append_35 : decode cX7_append 35 = .ok (.getfield 15, 3) := by decide +kernel
theorem dX7_append_38 : decode cX7_append 38 = .ok (.iconst 1, 1) := by decide +kernel
theorem dX7_append_39 : decode cX7_append 39 = .ok (.iadd, 1) := by decide +kernel
theorem dX7_append_40 : decode cX7_append 40 = .ok (.putfield 15, 3) := by decide +kernel
theorem dX7_append_43 : decode cX7_append 43 = .ok (.iinc 2 (-8), 3) := by decide +kernel
theorem dX7_append_46 : decode cX7_append 46 = .ok (.goto (-43), 3) := by decide +kernel
theorem dX7_append_49 : decode cX7_append 49 = .ok (.return_, 1) := by decide +kernel
theorem dX7_hasLetter_0 : decode cX7_hasLetter 0 = .ok (.iload_n 1, 1) := by decide +kernel
theorem dX7_hasLetter_1 : decode cX7_hasLetter 1 = .ok (.ifCond .lt 37, 3) := by decide +kernel
theorem dX7_hasLetter_4 : decode cX7_hasLetter 4 = .ok (.iload_n 1, 1) := by decide +kernel
theorem dX7_hasLetter_5 : decode cX7_hasLetter 5 = .ok (.aload_n 0, 1) := by decide +kernel
theorem dX7_hasLetter_6 : decode cX7_hasLetter 6 = .ok (.getfield 15, 3) := by decide +kernel
theorem dX7_hasLetter_9 : decode cX7_hasLetter 9 = .ok (.if_icmp .ge 29, 3) := by decide +kernel
theorem dX7_hasLetter_12 : decode cX7_hasLetter 12 = .ok (.aload_n 0, 1) := by decide +kernel
theorem dX7_hasLetter_13 : decode cX7_hasLetter 13 = .ok (.getfield 9, 3) := by decide +kernel
theorem dX7_hasLetter_16 : decode cX7_hasLetter 16 = .ok (.iload_n 1, 1) := by decide +kernel
theorem dX7_hasLetter_17 : decode cX7_hasLetter 17 = .ok (.iaload, 1) := by decide +kernel
theorem dX7_hasLetter_18 : decode cX7_hasLetter 18 = .ok (.bipush 97, 2) := by decide +kernel
theorem dX7_hasLetter_20 : decode cX7_hasLetter 20 = .ok (.if_icmp .lt 18, 3) := by decide +kernel
theorem dX7_hasLetter_23 : decode cX7_hasLetter 23 = .ok (.aload_n 0, 1) := by decide +kernel
theorem dX7_hasLetter_24 : decode cX7_hasLetter 24 = .ok (.getfield 9, 3) := by decide +kernel
theorem dX7_hasLetter_27 : decode cX7_hasLetter 27 = .ok (.iload_n 1, 1) := by decide +kernel
theorem dX7_hasLetter_28 : decode cX7_hasLetter 28 = .ok (.iaload, 1) := by decide +kernel
theorem dX7_hasLetter_29 : decode cX7_hasLetter 29 = .ok (.bipush 122, 2) := by decide +kernel
theorem dX7_hasLetter_31 : decode cX7_hasLetter 31 = .ok (.if_icmp .gt 7, 3) := by decide +kernel
theorem dX7_hasLetter_34 : decode cX7_hasLetter 34 = .ok (.iconst 1, 1) := by decide +kernel
theorem dX7_hasLetter_35 : decode cX7_hasLetter 35 = .ok (.goto 4, 3) := by decide +kernel
theorem dX7_hasLetter_38 : decode cX7_hasLetter 38 = .ok (.iconst 0, 1) := by decide +kernel
theorem dX7_hasLetter_39 : decode cX7_hasLetter 39 = .ok (.ireturn, 1) := by decide +kernel
theorem dX7_hasDigit_0 : decode cX7_hasDigit 0 = .ok (.iload_n 1, 1) := by decide +kernel
theorem dX7_hasDigit_1 : decode cX7_hasDigit 1 = .ok (.ifCond .lt 37, 3) := by decide +kernel
theorem dX7_hasDigit_4 : decode cX7_hasDigit 4 = .ok (.iload_n 1, 1) := by decide +kernel
theorem dX7_hasDigit_5 : decode cX7_hasDigit 5 = .ok (.aload_n 0, 1) := by decide +kernel
theorem dX7_hasDigit_6 : decode cX7_hasDigit 6 = .ok (.getfield 15, 3) := by decide +kernel
theorem dX7_hasDigit_9 : decode cX7_hasDigit 9 = .ok (.if_icmp .ge 29, 3) := by decide +kernel
theorem dX7_hasDigit_12 : decode cX7_hasDigit 12 = .ok (.aload_n 0, 1) := by decide +kernel
theorem dX7_hasDigit_13 : decode cX7_hasDigit 13 = .ok (.getfield 9, 3) := by decide +kernel
theorem dX7_hasDigit_16 : decode cX7_hasDigit 16 = .ok (.iload_n 1, 1) := by decide +kernel
theorem dX7_hasDigit_17 : decode cX7_hasDigit 17 = .ok (.iaload, 1) := by decide +kernel
theorem dX7_hasDigit_18 : decode cX7_hasDigit 18 = .ok (.bipush 48, 2) := by decide +kernel
theorem dX7_hasDigit_20 : decode cX7_hasDigit 20 = .ok (.if_icmp .lt 18, 3) := by decide +kernel
theorem dX7_hasDigit_23 : decode cX7_hasDigit 23 = .ok (.aload_n 0, 1) := by decide +kernel
theorem dX7_hasDigit_24 : decode cX7_hasDigit 24 = .ok (.getfield 9, 3) := by decide +kernel
theorem dX7_hasDigit_27 : decode cX7_hasDigit 27 = .ok (.iload_n 1, 1) := by decide +kernel
theorem dX7_hasDigit_28 : decode cX7_hasDigit 28 = .ok (.iaload, 1) := by decide +kernel
theorem dX7_hasDigit_29 : decode cX7_hasDigit 29 = .ok (.bipush 57, 2) := by decide +kernel
theorem dX7_hasDigit_31 : decode cX7_hasDigit 31 = .ok (.if_icmp .gt 7, 3) := by decide +kernel
theorem dX7_hasDigit_34 : decode cX7_hasDigit 34 = .ok (.iconst 1, 1) := by decide +kernel
theorem dX7_hasDigit_35 : decode cX7_hasDigit 35 = .ok (.goto 4, 3) := by decide +kernel
theorem dX7_hasDigit_38 : decode cX7_hasDigit 38 = .ok (.iconst 0, 1) := by decide +kernel
theorem dX7_hasDigit_39 : decode cX7_hasDigit 39 = .ok (.ireturn, 1) := by decide +kernel
theorem dX7_hasWord_0 : decode cX7_hasWord 0 = .ok (.iload_n 3, 1) := by decide +kernel
theorem dX7_hasWord_1 : decode cX7_hasWord 1 = .ok (.aload_n 1, 1) := by decide +kernel
theorem dX7_hasWord_2 : decode cX7_hasWord 2 = .ok (.invokevirtual 19, 3) := by decide +kernel
theorem dX7_hasWord_5 : decode cX7_hasWord 5 = .ok (.if_icmp .ne 17, 3) := by decide +kernel
theorem dX7_hasWord_8 : decode cX7_hasWord 8 = .ok (.iload_n 2, 1) := by decide +kernel
theorem dX7_hasWord_9 : decode cX7_hasWord 9 = .ok (.ifCond .lt 13, 3) := by decide +kernel
theorem dX7_hasWord_12 : decode cX7_hasWord 12 = .ok (.iload_n 2, 1) := by decide +kernel
theorem dX7_hasWord_13 : decode cX7_hasWord 13 = .ok (.iload_n 3, 1) := by decide +kernel
theorem dX7_hasWord_14 : decode cX7_hasWord 14 = .ok (.iadd, 1) := by decide +kernel
theorem dX7_hasWord_15 : decode cX7_hasWord 15 = .ok (.aload_n 0, 1) := by decide +kernel
theorem dX7_hasWord_16 : decode cX7_hasWord 16 = .ok (.getfield 15, 3) := by decide +kernel
theorem dX7_hasWord_19 : decode cX7_hasWord 19 = .ok (.if_icmp .le 5, 3) := by decide +kernel
theorem dX7_hasWord_22 : decode cX7_hasWord 22 = .ok (.iconst 0, 1) := by decide +kernel
theorem dX7_hasWord_23 : decode cX7_hasWord 23 = .ok (.ireturn, 1) := by decide +kernel
theorem dX7_hasWord_24 : decode cX7_hasWord 24 = .ok (.iconst 0, 1) := by decide +kernel
theorem dX7_hasWord_25 : decode cX7_hasWord 25 = .ok (.istore 4, 2) := by decide +kernel
theorem dX7_hasWord_27 : decode cX7_hasWord 27 = .ok (.iload 4, 2) := by decide +kernel
theorem dX7_hasWord_29 : decode cX7_hasWord 29 = .ok (.iload_n 3, 1) := by decide +kernel
theorem dX7_hasWord_30 : decode cX7_hasWord 30 = .ok (.if_icmp .ge 29, 3) := by decide +kernel
theorem dX7_hasWord_33 : decode cX7_hasWord 33 = .ok (.aload_n 0, 1) := by decide +kernel
theorem dX7_hasWord_34 : decode cX7_hasWord 34 = .ok (.getfield 9, 3) := by decide +kernel
theorem dX7_hasWord_37 : decode cX7_hasWord 37 = .ok (.iload_n 2, 1) := by decide +kernel
theorem dX7_hasWord_38 : decode cX7_hasWord 38 = .ok (.iload 4, 2) := by decide +kernel
theorem dX7_hasWord_40 : decode cX7_hasWord 40 = .ok (.iadd, 1) := by decide +kernel
theorem dX7_hasWord_41 : decode cX7_hasWord 41 = .ok (.iaload, 1) := by decide +kernel
theorem dX7_hasWord_42 : decode cX7_hasWord 42 = .ok (.aload_n 1, 1) := by decide +kernel
theorem dX7_hasWord_43 : decode cX7_hasWord 43 = .ok (.iload 4, 2) := by decide +kernel
theorem dX7_hasWord_45 : decode cX7_hasWord 45 = .ok (.invokevirtual 25, 3) := by decide +kernel
theorem dX7_hasWord_48 : decode cX7_hasWord 48 = .ok (.if_icmp .eq 5, 3) := by decide +kernel
theorem dX7_hasWord_51 : decode cX7_hasWord 51 = .ok (.iconst 0, 1) := by decide +kernel
theorem dX7_hasWord_52 : decode cX7_hasWord 52 = .ok (.ireturn, 1) := by decide +kernel
theorem dX7_hasWord_53 : decode cX7_hasWord 53 = .ok (.iinc 4 1, 3) := by decide +kernel
theorem dX7_hasWord_56 : decode cX7_hasWord 56 = .ok (.goto (-29), 3) := by decide +kernel
theorem dX7_hasWord_59 : decode cX7_hasWord 59 = .ok (.iconst 1, 1) := by decide +kernel
theorem dX7_hasWord_60 : decode cX7_hasWord 60 = .ok (.ireturn, 1) := by decide +kernel
