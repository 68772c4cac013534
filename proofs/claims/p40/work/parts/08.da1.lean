theorem dX3_init_9 : decode cX3_init 9 = .ok (.aload_n 0, 1) := by decide +kernel
theorem dX3_init_10 : decode cX3_init 10 = .ok (.iconst 3, 1) := by decide +kernel
theorem dX3_init_11 : decode cX3_init 11 = .ok (.newarray .boolean, 2) := by decide +kernel
theorem dX3_init_13 : decode cX3_init 13 = .ok (.putfield 15, 3) := by decide +kernel
theorem dX3_init_16 : decode cX3_init 16 = .ok (.aload_n 0, 1) := by decide +kernel
theorem dX3_init_17 : decode cX3_init 17 = .ok (.iconst 4, 1) := by decide +kernel
theorem dX3_init_18 : decode cX3_init 18 = .ok (.newarray .boolean, 2) := by decide +kernel
theorem dX3_init_20 : decode cX3_init 20 = .ok (.putfield 19, 3) := by decide +kernel
theorem dX3_init_23 : decode cX3_init 23 = .ok (.aload_n 0, 1) := by decide +kernel
theorem dX3_init_24 : decode cX3_init 24 = .ok (.aload_n 1, 1) := by decide +kernel
theorem dX3_init_25 : decode cX3_init 25 = .ok (.putfield 22, 3) := by decide +kernel
theorem dX3_init_28 : decode cX3_init 28 = .ok (.aload_n 0, 1) := by decide +kernel
theorem dX3_init_29 : decode cX3_init 29 = .ok (.aload_n 2, 1) := by decide +kernel
theorem dX3_init_30 : decode cX3_init 30 = .ok (.putfield 26, 3) := by decide +kernel
theorem dX3_init_33 : decode cX3_init 33 = .ok (.return_, 1) := by decide +kernel
theorem dX3_read_0 : decode cX3_read 0 = .ok (.aload_n 0, 1) := by decide +kernel
theorem dX3_read_1 : decode cX3_read 1 = .ok (.iload_n 1, 1) := by decide +kernel
theorem dX3_read_2 : decode cX3_read 2 = .ok (.aload_n 0, 1) := by decide +kernel
theorem dX3_read_3 : decode cX3_read 3 = .ok (.getfield 22, 3) := by decide +kernel
theorem dX3_read_6 : decode cX3_read 6 = .ok (.arraylength, 1) := by decide +kernel
theorem dX3_read_7 : decode cX3_read 7 = .ok (.invokestatic 30, 3) := by decide +kernel
theorem dX3_read_10 : decode cX3_read 10 = .ok (.putfield 36, 3) := by decide +kernel
theorem dX3_read_13 : decode cX3_read 13 = .ok (.aload_n 0, 1) := by decide +kernel
theorem dX3_read_14 : decode cX3_read 14 = .ok (.iconst 0, 1) := by decide +kernel
theorem dX3_read_15 : decode cX3_read 15 = .ok (.putfield 39, 3) := by decide +kernel
theorem dX3_read_18 : decode cX3_read 18 = .ok (.aload_n 0, 1) := by decide +kernel
theorem dX3_read_19 : decode cX3_read 19 = .ok (.iconst 0, 1) := by decide +kernel
theorem dX3_read_20 : decode cX3_read 20 = .ok (.putfield 42, 3) := by decide +kernel
theorem dX3_read_23 : decode cX3_read 23 = .ok (.aload_n 0, 1) := by decide +kernel
theorem dX3_read_24 : decode cX3_read 24 = .ok (.iconst (-1), 1) := by decide +kernel
theorem dX3_read_25 : decode cX3_read 25 = .ok (.putfield 9, 3) := by decide +kernel
theorem dX3_read_28 : decode cX3_read 28 = .ok (.aload_n 0, 1) := by decide +kernel
theorem dX3_read_29 : decode cX3_read 29 = .ok (.aload_n 2, 1) := by decide +kernel
theorem dX3_read_30 : decode cX3_read 30 = .ok (.putfield 26, 3) := by decide +kernel
theorem dX3_read_33 : decode cX3_read 33 = .ok (.aload_n 0, 1) := by decide +kernel
theorem dX3_read_34 : decode cX3_read 34 = .ok (.getfield 26, 3) := by decide +kernel
theorem dX3_read_37 : decode cX3_read 37 = .ok (.invokevirtual 45, 3) := by decide +kernel
theorem dX3_read_40 : decode cX3_read 40 = .ok (.aload_n 0, 1) := by decide +kernel
theorem dX3_read_41 : decode cX3_read 41 = .ok (.invokevirtual 50, 3) := by decide +kernel
theorem dX3_read_44 : decode cX3_read 44 = .ok (.aload_n 0, 1) := by decide +kernel
theorem dX3_read_45 : decode cX3_read 45 = .ok (.invokevirtual 53, 3) := by decide +kernel
theorem dX3_read_48 : decode cX3_read 48 = .ok (.iconst 0, 1) := by decide +kernel
theorem dX3_read_49 : decode cX3_read 49 = .ok (.istore_n 3, 1) := by decide +kernel
theorem dX3_read_50 : decode cX3_read 50 = .ok (.iload_n 3, 1) := by decide +kernel
theorem dX3_read_51 : decode cX3_read 51 = .ok (.aload_n 0, 1) := by decide +kernel
theorem dX3_read_52 : decode cX3_read 52 = .ok (.getfield 36, 3) := by decide +kernel
theorem dX3_read_55 : decode cX3_read 55 = .ok (.if_icmp .ge 46, 3) := by decide +kernel
theorem dX3_read_58 : decode cX3_read 58 = .ok (.aload_n 0, 1) := by decide +kernel
theorem dX3_read_59 : decode cX3_read 59 = .ok (.getfield 39, 3) := by decide +kernel
theorem dX3_read_62 : decode cX3_read 62 = .ok (.aload_n 0, 1) := by decide +kernel
theorem dX3_read_63 : decode cX3_read 63 = .ok (.getfield 36, 3) := by decide +kernel
theorem dX3_read_66 : decode cX3_read 66 = .ok (.if_icmp .ge 35, 3) := by decide +kernel
theorem dX3_read_69 : decode cX3_read 69 = .ok (.aload_n 0, 1) := by decide +kernel
theorem dX3_read_70 : decode cX3_read 70 = .ok (.invokevirtual 56, 3) := by decide +kernel
theorem dX3_read_73 : decode cX3_read 73 = .ok (.ifCond .ne 5, 3) := by decide +kernel
theorem dX3_read_76 : decode cX3_read 76 = .ok (.iconst 0, 1) := by decide +kernel
theorem dX3_read_77 : decode cX3_read 77 = .ok (.ireturn, 1) := by decide +kernel
theorem dX3_read_78 : decode cX3_read 78 = .ok (.aload_n 0, 1) := by decide +kernel
theorem dX3_read_79 : decode cX3_read 79 = .ok (.getfield 26, 3) := by decide +kernel
theorem dX3_read_82 : decode cX3_read 82 = .ok (.dup, 1) := by decide +kernel
theorem dX3_read_83 : decode cX3_read 83 = .ok (.getfield 60, 3) := by decide +kernel
theorem dX3_read_86 : decode cX3_read 86 = .ok (.iconst 1, 1) := by decide +kernel
theorem dX3_read_87 : decode cX3_read 87 = .ok (.iadd, 1) := by decide +kernel
theorem dX3_read_88 : decode cX3_read 88 = .ok (.putfield 60, 3) := by decide +kernel
theorem dX3_read_91 : decode cX3_read 91 = .ok (.aload_n 0, 1) := by decide +kernel
theorem dX3_read_92 : decode cX3_read 92 = .ok (.invokevirtual 53, 3) := by decide +kernel
theorem dX3_read_95 : decode cX3_read 95 = .ok (.iinc 3 1, 3) := by decide +kernel
theorem dX3_read_98 : decode cX3_read 98 = .ok (.goto (-48), 3) := by decide +kernel
theorem dX3_read_101 : decode cX3_read 101 = .ok (.aload_n 0, 1) := by decide +kernel
theorem dX3_read_102 : decode cX3_read 102 = .ok (.getfield 26, 3) := by decide +kernel
theorem dX3_read_105 : decode cX3_read 105 = .ok (.invokevirtual 63, 3) := by decide +kernel
theorem dX3_read_108 : decode cX3_read 108 = .ok (.iconst 1, 1) := by decide +kernel
theorem dX3_read_109 : decode cX3_read 109 = .ok (.ireturn, 1) := by decide +kernel
theorem dX3_forgetTold_0 : decode cX3_forgetTold 0 = .ok (.iconst 0, 1) := by decide +kernel
theorem dX3_forgetTold_1 : decode cX3_forgetTold 1 = .ok (.istore_n 1, 1) := by decide +kernel
theorem dX3_forgetTold_2 : decode cX3_forgetTold 2 = .ok (.iload_n 1, 1) := by decide +kernel
theorem dX3_forgetTold_3 : decode cX3_forgetTold 3 = .ok (.aload_n 0, 1) := by decide +kernel
theorem dX3_forgetTold_4 : decode cX3_forgetTold 4 = .ok (.getfield 15, 3) := by decide +kernel
theorem dX3_forgetTold_7 : decode cX3_forgetTold 7 = .ok (.arraylength, 1) := by decide +kernel
theorem dX3_forgetTold_8 : decode cX3_forgetTold 8 = .ok (.if_icmp .ge 16, 3) := by decide +kernel
theorem dX3_forgetTold_11 : decode cX3_forgetTold 11 = .ok (.aload_n 0, 1) := by decide +kernel
theorem dX3_forgetTold_12 : decode cX3_forgetTold 12 = .ok (.getfield 15, 3) := by decide +kernel
theorem dX3_forgetTold_15 : decode cX3_forgetTold 15 = .ok (.iload_n 1, 1) := by decide +kernel
theorem dX3_forgetTold_16 : decode cX3_forgetTold 16 = .ok (.iconst 0, 1) := by decide +kernel
theorem dX3_forgetTold_17 : decode cX3_forgetTold 17 = .ok (.bastore, 1) := by decide +kernel
theorem dX3_forgetTold_18 : decode cX3_forgetTold 18 = .ok (.iinc 1 1, 3) := by decide +kernel
theorem dX3_forgetTold_21 : decode cX3_forgetTold 21 = .ok (.goto (-19), 3) := by decide +kernel
theorem dX3_forgetTold_24 : decode cX3_forgetTold 24 = .ok (.iconst 0, 1) := by decide +kernel
theorem dX3_forgetTold_25 : decode cX3_forgetTold 25 = .ok (.istore_n 1, 1) := by decide +kernel
theorem dX3_forgetTold_26 : decode cX3_forgetTold 26 = .ok (.iload_n 1, 1) := by decide +kernel
theorem dX3_forgetTold_27 : decode cX3_forgetTold 27 = .ok (.aload_n 0, 1) := by decide +kernel
theorem dX3_forgetTold_28 : decode cX3_forgetTold 28 = .ok (.getfield 19, 3) := by decide +kernel
theorem dX3_forgetTold_31 : decode cX3_forgetTold 31 = .ok (.arraylength, 1) := by decide +kernel
theorem dX3_forgetTold_32 : decode cX3_forgetTold 32 = .ok (.if_icmp .ge 16, 3) := by decide +kernel
theorem dX3_forgetTold_35 : decode cX3_forgetTold 35 = .ok (.aload_n 0, 1) := by decide +kernel
theorem dX3_forgetTold_36 : decode cX3_forgetTold 36 = .ok (.getfield 19, 3) := by decide +kernel
theorem dX3_forgetTold_39 : decode cX3_forgetTold 39 = .ok (.iload_n 1, 1) := by decide +kernel
theorem dX3_forgetTold_40 : decode cX3_forgetTold 40 = .ok (.iconst 0, 1) := by decide +kernel
theorem dX3_forgetTold_41 : decode cX3_forgetTold 41 = .ok (.bastore, 1) := by decide +kernel
theorem dX3_forgetTold_42 : decode cX3_forgetTold 42 = .ok (.iinc 1 1, 3) := by decide +kernel
theorem dX3_forgetTold_45 : decode cX3_forgetTold 45 = .ok (.goto (-19), 3) := by decide +kernel
theorem dX3_forgetTold_48 : decode cX3_forgetTold 48 = .ok (.return_, 1) := by decide +kernel
theorem dX3_fail_0 : decode cX3_fail 0 = .ok (.aload_n 0, 1) := by decide +kernel
theorem dX3_fail_1 : decode cX3_fail 1 = .ok (.iload_n 1, 1) := by decide +kernel
theorem dX3_fail_2 : decode cX3_fail 2 = .ok (.putfield 42, 3) := by decide +kernel
theorem dX3_fail_5 : decode cX3_fail 5 = .ok (.aload_n 0, 1) := by decide +kernel
theorem dX3_fail_6 : decode cX3_fail 6 = .ok (.iload_n 2, 1) := by decide +kernel
theorem dX3_fail_7 : decode cX3_fail 7 = .ok (.putfield 9, 3) := by decide +kernel
theorem dX3_fail_10 : decode cX3_fail 10 = .ok (.iconst 0, 1) := by decide +kernel
theorem dX3_fail_11 : decode cX3_fail 11 = .ok (.ireturn, 1) := by decide +kernel
theorem dX3_here_0 : decode cX3_here 0 = .ok (.aload_n 0, 1) := by decide +kernel
theorem dX3_here_1 : decode cX3_here 1 = .ok (.getfield 39, 3) := by decide +kernel
theorem dX3_here_4 : decode cX3_here 4 = .ok (.aload_n 0, 1) := by decide +kernel
theorem dX3_here_5 : decode cX3_here 5 = .ok (.getfield 36, 3) := by decide +kernel
theorem dX3_here_8 : decode cX3_here 8 = .ok (.if_icmp .ge 15, 3) := by decide +kernel
theorem dX3_here_11 : decode cX3_here 11 = .ok (.aload_n 0, 1) := by decide +kernel
theorem dX3_here_12 : decode cX3_here 12 = .ok (.getfield 22, 3) := by decide +kernel
theorem dX3_here_15 : decode cX3_here 15 = .ok (.aload_n 0, 1) := by decide +kernel
theorem dX3_here_16 : decode cX3_here 16 = .ok (.getfield 39, 3) := by decide +kernel
theorem dX3_here_19 : decode cX3_here 19 = .ok (.iaload, 1) := by decide +kernel
theorem dX3_here_20 : decode cX3_here 20 = .ok (.goto 4, 3) := by decide +kernel
theorem dX3_here_23 : decode cX3_here 23 = .ok (.iconst (-1), 1) := by decide +kernel
theorem dX3_here_24 : decode cX3_here 24 = .ok (.ireturn, 1) := by decide +kernel
theorem dX3_isDigitHere_0 : decode cX3_isDigitHere 0 = .ok (.aload_n 0, 1) := by decide +kernel
theorem dX3_isDigitHere_1 : decode cX3_isDigitHere 1 = .ok (.getfield 39, 3) := by decide +kernel
theorem dX3_isDigitHere_4 : decode cX3_isDigitHere 4 = .ok (.aload_n 0, 1) := by decide +kernel
theorem dX3_isDigitHere_5 : decode cX3_isDigitHere 5 = .ok (.getfield 36, 3) := by decide +kernel
theorem dX3_isDigitHere_8 : decode cX3_isDigitHere 8 = .ok (.if_icmp .ge 35, 3) := by decide +kernel
theorem dX3_isDigitHere_11 : decode cX3_isDigitHere 11 = .ok (.aload_n 0, 1) := by decide +kernel
theorem dX3_isDigitHere_12 : decode cX3_isDigitHere 12 = .ok (.getfield 22, 3) := by decide +kernel
theorem dX3_isDigitHere_15 : decode cX3_isDigitHere 15 = .ok (.aload_n 0, 1) := by decide +kernel
theorem dX3_isDigitHere_16 : decode cX3_isDigitHere 16 = .ok (.getfield 39, 3) := by decide +kernel
theorem dX3_isDigitHere_19 : decode cX3_isDigitHere 19 = .ok (.iaload, 1) := by decide +kernel
theorem dX3_isDigitHere_20 : decode cX3_isDigitHere 20 = .ok (.bipush 48, 2) := by decide +kernel
theorem dX3_isDigitHere_22 : decode cX3_isDigitHere 22 = .ok (.if_icmp .lt 21, 3) := by decide +kernel
theorem dX3_isDigitHere_25 : decode cX3_isDigitHere 25 = .ok (.aload_n 0, 1) := by decide +kernel
theorem dX3_isDigitHere_26 : decode cX3_isDigitHere 26 = .ok (.getfield 22, 3) := by decide +kernel
theorem dX3_isDigitHere_29 : decode cX3_isDigitHere 29 = .ok (.aload_n 0, 1) := by decide +kernel
theorem dX3_isDigitHere_30 : decode cX3_isDigitHere 30 = .ok (.getfield 39, 3) := by decide +kernel
theorem dX3_isDigitHere_33 : decode cX3_isDigitHere 33 = .ok (.iaload, 1) := by decide +kernel
theorem dX3_isDigitHere_34 : decode cX3_isDigitHere 34 = .ok (.bipush 57, 2) := by decide +kernel
theorem dX3_isDigitHere_36 : decode cX3_isDigitHere 36 = .ok (.if_icmp .gt 7, 3) := by decide +kernel
theorem dX3_isDigitHere_39 : decode cX3_isDigitHere 39 = .ok (.iconst 1, 1) := by decide +kernel
theorem dX3_isDigitHere_40 : decode cX3_isDigitHere 40 = .ok (.goto 4, 3) := by decide +kernel
theorem dX3_isDigitHere_43 : decode cX3_isDigitHere 43 = .ok (.iconst 0, 1) := by decide +kernel
theorem dX3_isDigitHere_44 : decode cX3_isDigitHere 44 = .ok (.ireturn, 1) := by decide +kernel
theorem dX3_isLetterHere_0 : decode cX3_isLetterHere 0 = .ok (.aload_n 0, 1) := by decide +kernel
theorem dX3_isLetterHere_1 : decode cX3_isLetterHere 1 = .ok (.getfield 39, 3) := by decide +kernel
theorem dX3_isLetterHere_4 : decode cX3_isLetterHere 4 = .ok (.aload_n 0, 1) := by decide +kernel
theorem dX3_isLetterHere_5 : decode cX3_isLetterHere 5 = .ok (.getfield 36, 3) := by decide +kernel
theorem dX3_isLetterHere_8 : decode cX3_isLetterHere 8 = .ok (.if_icmp .ge 35, 3) := by decide +kernel
theorem dX3_isLetterHere_11 : decode cX3_isLetterHere 11 = .ok (.aload_n 0, 1) := by decide +kernel
theorem dX3_isLetterHere_12 : decode cX3_isLetterHere 12 = .ok (.getfield 22, 3) := by decide +kernel
theorem dX3_isLetterHere_15 : decode cX3_isLetterHere 15 = .ok (.aload_n 0, 1) := by decide +kernel
theorem dX3_isLetterHere_16 : decode cX3_isLetterHere 16 = .ok (.getfield 39, 3) := by decide +kernel
theorem dX3_isLetterHere_19 : decode cX3_isLetterHere 19 = .ok (.iaload, 1) := by decide +kernel
theorem dX3_isLetterHere_20 : decode cX3_isLetterHere 20 = .ok (.bipush 97, 2) := by decide +kernel
theorem dX3_isLetterHere_22 : decode cX3_isLetterHere 22 = .ok (.if_icmp .lt 21, 3) := by decide +kernel
theorem dX3_isLetterHere_25 : decode cX3_isLetterHere 25 = .ok (.aload_n 0, 1) := by decide +kernel
theorem dX3_isLetterHere_26 : decode cX3_isLetterHere 26 = .ok (.getfield 22, 3) := by decide +kernel
theorem dX3_isLetterHere_29 : decode cX3_isLetterHere 29 = .ok (.aload_n 0, 1) := by decide +kernel
theorem dX3_isLetterHere_30 : decode cX3_isLetterHere 30 = .ok (.getfield 39, 3) := by decide +kernel
theorem dX3_isLetterHere_33 : decode cX3_isLetterHere 33 = .ok (.iaload, 1) := by decide +kernel
theorem dX3_isLetterHere_34 : decode cX3_isLetterHere 34 = .ok (.bipush 122, 2) := by decide +kernel
theorem dX3_isLetterHere_36 : decode cX3_isLetterHere 36 = .ok (.if_icmp .gt 7, 3) := by decide +kernel
theorem dX3_isLetterHere_39 : decode cX3_isLetterHere 39 = .ok (.iconst 1, 1) := by decide +kernel
theorem dX3_isLetterHere_40 : decode cX3_isLetterHere 40 = .ok (.goto 4, 3) := by decide +kernel
theorem dX3_isLetterHere_43 : decode cX3_isLetterHere 43 = .ok (.iconst 0, 1) := by decide +kernel
theorem dX3_isLetterHere_44 : decode cX3_isLetterHere 44 = .ok (.ireturn, 1) := by decide +kernel
theorem dX3_skipBlanks_0 : decode cX3_skipBlanks 0 = .ok (.aload_n 0, 1) := by decide +kernel
theorem dX3_skipBlanks_1 : decode cX3_skipBlanks 1 = .ok (.getfield 39, 3) := by decide +kernel
theorem dX3_skipBlanks_4 : decode cX3_skipBlanks 4 = .ok (.aload_n 0, 1) := by decide +kernel
theorem dX3_skipBlanks_5 : decode cX3_skipBlanks 5 = .ok (.getfield 36, 3) := by decide +kernel
theorem dX3_skipBlanks_8 : decode cX3_skipBlanks 8 = .ok (.if_icmp .ge 44, 3) := by decide +kernel
theorem dX3_skipBlanks_11 : decode cX3_skipBlanks 11 = .ok (.aload_n 0, 1) := by decide +kernel
theorem dX3_skipBlanks_12 : decode cX3_skipBlanks 12 = .ok (.getfield 22, 3) := by decide +kernel
theorem dX3_skipBlanks_15 : decode cX3_skipBlanks 15 = .ok (.aload_n 0, 1) := by decide +kernel
theorem dX3_skipBlanks_16 : decode cX3_skipBlanks 16 = .ok (.getfield 39, 3) := by decide +kernel
theorem dX3_skipBlanks_19 : decode cX3_skipBlanks 19 = .ok (.iaload, 1) := by decide +kernel
theorem dX3_skipBlanks_20 : decode cX3_skipBlanks 20 = .ok (.bipush 10, 2) := by decide +kernel
theorem dX3_skipBlanks_22 : decode cX3_skipBlanks 22 = .ok (.if_icmp .eq 17, 3) := by decide +kernel
theorem dX3_skipBlanks_25 : decode cX3_skipBlanks 25 = .ok (.aload_n 0, 1) := by decide +kernel
theorem dX3_skipBlanks_26 : decode cX3_skipBlanks 26 = .ok (.getfield 22, 3) := by decide +kernel
theorem dX3_skipBlanks_29 : decode cX3_skipBlanks 29 = .ok (.aload_n 0, 1) := by decide +kernel
theorem dX3_skipBlanks_30 : decode cX3_skipBlanks 30 = .ok (.getfield 39, 3) := by decide +kernel
theorem dX3_skipBlanks_33 : decode cX3_skipBlanks 33 = .ok (.iaload, 1) := by decide +kernel
theorem dX3_skipBlanks_34 : decode cX3_skipBlanks 34 = .ok (.bipush 32, 2) := by decide +kernel
theorem dX3_skipBlanks_36 : decode cX3_skipBlanks 36 = .ok (.if_icmp .ne 16, 3) := by decide +kernel
theorem dX3_skipBlanks_39 : decode cX3_skipBlanks 39 = .ok (.aload_n 0, 1) := by decide +kernel
theorem dX3_skipBlanks_40 : decode cX3_skipBlanks 40 = .ok (.dup, 1) := by decide +kernel
theorem dX3_skipBlanks_41 : decode cX3_skipBlanks 41 = .ok (.getfield 39, 3) := by decide +kernel
theorem dX3_skipBlanks_44 : decode cX3_skipBlanks 44 = .ok (.iconst 1, 1) := by decide +kernel
theorem dX3_skipBlanks_45 : decode cX3_skipBlanks 45 = .ok (.iadd, 1) := by decide +kernel
theorem dX3_skipBlanks_46 : decode cX3_skipBlanks 46 = .ok (.putfield 39, 3) := by decide +kernel
theorem dX3_skipBlanks_49 : decode cX3_skipBlanks 49 = .ok (.goto (-49), 3) := by decide +kernel
theorem dX3_skipBlanks_52 : decode cX3_skipBlanks 52 = .ok (.return_, 1) := by decide +kernel
theorem dX3_readLine_0 : decode cX3_readLine 0 = .ok (.aload_n 0, 1) := by decide +kernel
theorem dX3_readLine_1 : decode cX3_readLine 1 = .ok (.getfield 39, 3) := by decide +kernel
theorem dX3_readLine_4 : decode cX3_readLine 4 = .ok (.istore_n 1, 1) := by decide +kernel
theorem dX3_readLine_5 : decode cX3_readLine 5 = .ok (.aload_n 0, 1) := by decide +kernel
theorem dX3_readLine_6 : decode cX3_readLine 6 = .ok (.invokevirtual 66, 3) := by decide +kernel
theorem dX3_readLine_9 : decode cX3_readLine 9 = .ok (.istore_n 2, 1) := by decide +kernel
theorem dX3_readLine_10 : decode cX3_readLine 10 = .ok (.iload_n 2, 1) := by decide +kernel
theorem dX3_readLine_11 : decode cX3_readLine 11 = .ok (.iconst (-1), 1) := by decide +kernel
theorem dX3_readLine_12 : decode cX3_readLine 12 = .ok (.if_icmp .eq 11, 3) := by decide +kernel
theorem dX3_readLine_15 : decode cX3_readLine 15 = .ok (.aload_n 0, 1) := by decide +kernel
theorem dX3_readLine_16 : decode cX3_readLine 16 = .ok (.iload_n 2, 1) := by decide +kernel
theorem dX3_readLine_17 : decode cX3_readLine 17 = .ok (.invokevirtual 70, 3) := by decide +kernel
theorem dX3_readLine_20 : decode cX3_readLine 20 = .ok (.ifCond .eq 10, 3) := by decide +kernel
theorem dX3_readLine_23 : decode cX3_readLine 23 = .ok (.aload_n 0, 1) := by decide +kernel
theorem dX3_readLine_24 : decode cX3_readLine 24 = .ok (.iconst 1, 1) := by decide +kernel
theorem dX3_readLine_25 : decode cX3_readLine 25 = .ok (.iload_n 1, 1) := by decide +kernel
theorem dX3_readLine_26 : decode cX3_readLine 26 = .ok (.invokevirtual 74, 3) := by decide +kernel
theorem dX3_readLine_29 : decode cX3_readLine 29 = .ok (.ireturn, 1) := by decide +kernel
theorem dX3_readLine_30 : decode cX3_readLine 30 = .ok (.iload_n 2, 1) := by decide +kernel
theorem dX3_readLine_31 : decode cX3_readLine 31 = .ok (.iconst 2, 1) := by decide +kernel
theorem dX3_readLine_32 : decode cX3_readLine 32 = .ok (.if_icmp .gt 26, 3) := by decide +kernel
theorem dX3_readLine_35 : decode cX3_readLine 35 = .ok (.aload_n 0, 1) := by decide +kernel
theorem dX3_readLine_36 : decode cX3_readLine 36 = .ok (.getfield 15, 3) := by decide +kernel
theorem dX3_readLine_39 : decode cX3_readLine 39 = .ok (.iload_n 2, 1) := by decide +kernel
theorem dX3_readLine_40 : decode cX3_readLine 40 = .ok (.baload, 1) := by decide +kernel
theorem dX3_readLine_41 : decode cX3_readLine 41 = .ok (.ifCond .eq 10, 3) := by decide +kernel
theorem dX3_readLine_44 : decode cX3_readLine 44 = .ok (.aload_n 0, 1) := by decide +kernel
theorem dX3_readLine_45 : decode cX3_readLine 45 = .ok (.iconst 3, 1) := by decide +kernel
theorem dX3_readLine_46 : decode cX3_readLine 46 = .ok (.iload_n 1, 1) := by decide +kernel
theorem dX3_readLine_47 : decode cX3_readLine 47 = .ok (.invokevirtual 74, 3) := by decide +kernel
theorem dX3_readLine_50 : decode cX3_readLine 50 = .ok (.ireturn, 1) := by decide +kernel
theorem dX3_readLine_51 : decode cX3_readLine 51 = .ok (.aload_n 0, 1) := by decide +kernel
theorem dX3_readLine_52 : decode cX3_readLine 52 = .ok (.getfield 15, 3) := by decide +kernel
theorem dX3_readLine_55 : decode cX3_readLine 55 = .ok (.iload_n 2, 1) := by decide +kernel
theorem dX3_readLine_56 : decode cX3_readLine 56 = .ok (.iconst 1, 1) := by decide +kernel
theorem dX3_readLine_57 : decode cX3_readLine 57 = .ok (.bastore, 1) := by decide +kernel
theorem dX3_readLine_58 : decode cX3_readLine 58 = .ok (.iload_n 2, 1) := by decide +kernel
theorem dX3_readLine_59 : decode cX3_readLine 59 = .ok (.iconst 4, 1) := by decide +kernel
theorem dX3_readLine_60 : decode cX3_readLine 60 = .ok (.if_icmp .lt 22, 3) := by decide +kernel
theorem dX3_readLine_63 : decode cX3_readLine 63 = .ok (.aload_n 0, 1) := by decide +kernel
theorem dX3_readLine_64 : decode cX3_readLine 64 = .ok (.getfield 26, 3) := by decide +kernel
theorem dX3_readLine_67 : decode cX3_readLine 67 = .ok (.getfield 78, 3) := by decide +kernel
theorem dX3_readLine_70 : decode cX3_readLine 70 = .ok (.bipush 64, 2) := by decide +kernel
theorem dX3_readLine_72 : decode cX3_readLine 72 = .ok (.if_icmp .lt 10, 3) := by decide +kernel
theorem dX3_readLine_75 : decode cX3_readLine 75 = .ok (.aload_n 0, 1) := by decide +kernel
theorem dX3_readLine_76 : decode cX3_readLine 76 = .ok (.iconst 4, 1) := by decide +kernel
theorem dX3_readLine_77 : decode cX3_readLine 77 = .ok (.iload_n 1, 1) := by decide +kernel
theorem dX3_readLine_78 : decode cX3_readLine 78 = .ok (.invokevirtual 74, 3) := by decide +kernel
theorem dX3_readLine_81 : decode cX3_readLine 81 = .ok (.ireturn, 1) := by decide +kernel
theorem dX3_readLine_82 : decode cX3_readLine 82 = .ok (.iload_n 2, 1) := by decide +kernel
theorem dX3_readLine_83 : decode cX3_readLine 83 = .ok (.tableswitch 61 0 3 #[29, 37, 45, 53], 29) := by decide +kernel
theorem dX3_readLine_112 : decode cX3_readLine 112 = .ok (.aload_n 0, 1) := by decide +kernel
theorem dX3_readLine_113 : decode cX3_readLine 113 = .ok (.invokevirtual 81, 3) := by decide +kernel
theorem dX3_readLine_116 : decode cX3_readLine 116 = .ok (.istore_n 3, 1) := by decide +kernel
theorem dX3_readLine_117 : decode cX3_readLine 117 = .ok (.goto 42, 3) := by decide +kernel
theorem dX3_readLine_120 : decode cX3_readLine 120 = .ok (.aload_n 0, 1) := by decide +kernel
theorem dX3_readLine_121 : decode cX3_readLine 121 = .ok (.invokevirtual 84, 3) := by decide +kernel
theorem dX3_readLine_124 : decode cX3_readLine 124 = .ok (.istore_n 3, 1) := by decide +kernel
theorem dX3_readLine_125 : decode cX3_readLine 125 = .ok (.goto 34, 3) := by decide +kernel
theorem dX3_readLine_128 : decode cX3_readLine 128 = .ok (.aload_n 0, 1) := by decide +kernel
theorem dX3_readLine_129 : decode cX3_readLine 129 = .ok (.invokevirtual 87, 3) := by decide +kernel
theorem dX3_readLine_132 : decode cX3_readLine 132 = .ok (.istore_n 3, 1) := by decide +kernel
theorem dX3_readLine_133 : decode cX3_readLine 133 = .ok (.goto 26, 3) := by decide +kernel
theorem dX3_readLine_136 : decode cX3_readLine 136 = .ok (.aload_n 0, 1) := by decide +kernel
theorem dX3_readLine_137 : decode cX3_readLine 137 = .ok (.invokevirtual 90, 3) := by decide +kernel
theorem dX3_readLine_140 : decode cX3_readLine 140 = .ok (.istore_n 3, 1) := by decide +kernel
theorem dX3_readLine_141 : decode cX3_readLine 141 = .ok (.goto 18, 3) := by decide +kernel
theorem dX3_readLine_144 : decode cX3_readLine 144 = .ok (.aload_n 0, 1) := by decide +kernel
theorem dX3_readLine_145 : decode cX3_readLine 145 = .ok (.iload_n 2, 1) := by decide +kernel
theorem dX3_readLine_146 : decode cX3_readLine 146 = .ok (.iconst 4, 1) := by decide +kernel
theorem dX3_readLine_147 : decode cX3_readLine 147 = .ok (.if_icmp .ne 7, 3) := by decide +kernel
theorem dX3_readLine_150 : decode cX3_readLine 150 = .ok (.iconst 1, 1) := by decide +kernel
theorem dX3_readLine_151 : decode cX3_readLine 151 = .ok (.goto 4, 3) := by decide +kernel
theorem dX3_readLine_154 : decode cX3_readLine 154 = .ok (.iconst 0, 1) := by decide +kernel
theorem dX3_readLine_155 : decode cX3_readLine 155 = .ok (.invokevirtual 93, 3) := by decide +kernel
theorem dX3_readLine_158 : decode cX3_readLine 158 = .ok (.istore_n 3, 1) := by decide +kernel
theorem dX3_readLine_159 : decode cX3_readLine 159 = .ok (.iload_n 3, 1) := by decide +kernel
theorem dX3_readLine_160 : decode cX3_readLine 160 = .ok (.ifCond .eq 14, 3) := by decide +kernel
theorem dX3_readLine_163 : decode cX3_readLine 163 = .ok (.aload_n 0, 1) := by decide +kernel
theorem dX3_readLine_164 : decode cX3_readLine 164 = .ok (.invokevirtual 97, 3) := by decide +kernel
theorem dX3_readLine_167 : decode cX3_readLine 167 = .ok (.ifCond .eq 7, 3) := by decide +kernel
theorem dX3_readLine_170 : decode cX3_readLine 170 = .ok (.iconst 1, 1) := by decide +kernel
theorem dX3_readLine_171 : decode cX3_readLine 171 = .ok (.goto 4, 3) := by decide +kernel
theorem dX3_readLine_174 : decode cX3_readLine 174 = .ok (.iconst 0, 1) := by decide +kernel
theorem dX3_readLine_175 : decode cX3_readLine 175 = .ok (.ireturn, 1) := by decide +kernel
theorem dX3_isTooLate_0 : decode cX3_isTooLate 0 = .ok (.iload_n 1, 1) := by decide +kernel
theorem dX3_isTooLate_1 : decode cX3_isTooLate 1 = .ok (.iconst 4, 1) := by decide +kernel
theorem dX3_isTooLate_2 : decode cX3_isTooLate 2 = .ok (.if_icmp .ge 30, 3) := by decide +kernel
theorem dX3_isTooLate_5 : decode cX3_isTooLate 5 = .ok (.aload_n 0, 1) := by decide +kernel
theorem dX3_isTooLate_6 : decode cX3_isTooLate 6 = .ok (.getfield 26, 3) := by decide +kernel
theorem dX3_isTooLate_9 : decode cX3_isTooLate 9 = .ok (.getfield 78, 3) := by decide +kernel
theorem dX3_isTooLate_12 : decode cX3_isTooLate 12 = .ok (.ifCond .gt 16, 3) := by decide +kernel
theorem dX3_isTooLate_15 : decode cX3_isTooLate 15 = .ok (.iload_n 1, 1) := by decide +kernel
theorem dX3_isTooLate_16 : decode cX3_isTooLate 16 = .ok (.ifCond .ne 16, 3) := by decide +kernel
theorem dX3_isTooLate_19 : decode cX3_isTooLate 19 = .ok (.aload_n 0, 1) := by decide +kernel
theorem dX3_isTooLate_20 : decode cX3_isTooLate 20 = .ok (.getfield 15, 3) := by decide +kernel
theorem dX3_isTooLate_23 : decode cX3_isTooLate 23 = .ok (.iconst 1, 1) := by decide +kernel
theorem dX3_isTooLate_24 : decode cX3_isTooLate 24 = .ok (.baload, 1) := by decide +kernel
theorem dX3_isTooLate_25 : decode cX3_isTooLate 25 = .ok (.ifCond .eq 7, 3) := by decide +kernel
theorem dX3_isTooLate_28 : decode cX3_isTooLate 28 = .ok (.iconst 1, 1) := by decide +kernel
theorem dX3_isTooLate_29 : decode cX3_isTooLate 29 = .ok (.goto 4, 3) := by decide +kernel
theorem dX3_isTooLate_32 : decode cX3_isTooLate 32 = .ok (.iconst 0, 1) := by decide +kernel
theorem dX3_isTooLate_33 : decode cX3_isTooLate 33 = .ok (.ireturn, 1) := by decide +kernel
theorem dX3_takeWord_0 : decode cX3_takeWord 0 = .ok (.aload_n 0, 1) := by decide +kernel
theorem dX3_takeWord_1 : decode cX3_takeWord 1 = .ok (.getfield 39, 3) := by decide +kernel
theorem dX3_takeWord_4 : decode cX3_takeWord 4 = .ok (.istore_n 1, 1) := by decide +kernel
theorem dX3_takeWord_5 : decode cX3_takeWord 5 = .ok (.aload_n 0, 1) := by decide +kernel
theorem dX3_takeWord_6 : decode cX3_takeWord 6 = .ok (.getfield 39, 3) := by decide +kernel
theorem dX3_takeWord_9 : decode cX3_takeWord 9 = .ok (.aload_n 0, 1) := by decide +kernel
theorem dX3_takeWord_10 : decode cX3_takeWord 10 = .ok (.getfield 36, 3) := by decide +kernel
theorem dX3_takeWord_13 : decode cX3_takeWord 13 = .ok (.if_icmp .ge 23, 3) := by decide +kernel
theorem dX3_takeWord_16 : decode cX3_takeWord 16 = .ok (.aload_n 0, 1) := by decide +kernel
theorem dX3_takeWord_17 : decode cX3_takeWord 17 = .ok (.invokevirtual 100, 3) := by decide +kernel
theorem dX3_takeWord_20 : decode cX3_takeWord 20 = .ok (.ifCond .eq 16, 3) := by decide +kernel
theorem dX3_takeWord_23 : decode cX3_takeWord 23 = .ok (.aload_n 0, 1) := by decide +kernel
theorem dX3_takeWord_24 : decode cX3_takeWord 24 = .ok (.dup, 1) := by decide +kernel
theorem dX3_takeWord_25 : decode cX3_takeWord 25 = .ok (.getfield 39, 3) := by decide +kernel
theorem dX3_takeWord_28 : decode cX3_takeWord 28 = .ok (.iconst 1, 1) := by decide +kernel
theorem dX3_takeWord_29 : decode cX3_takeWord 29 = .ok (.iadd, 1) := by decide +kernel
theorem dX3_takeWord_30 : decode cX3_takeWord 30 = .ok (.putfield 39, 3) := by decide +kernel
theorem dX3_takeWord_33 : decode cX3_takeWord 33 = .ok (.goto (-28), 3) := by decide +kernel
theorem dX3_takeWord_36 : decode cX3_takeWord 36 = .ok (.aload_n 0, 1) := by decide +kernel
theorem dX3_takeWord_37 : decode cX3_takeWord 37 = .ok (.iload_n 1, 1) := by decide +kernel
theorem dX3_takeWord_38 : decode cX3_takeWord 38 = .ok (.ldc 103, 2) := by decide +kernel
theorem dX3_takeWord_40 : decode cX3_takeWord 40 = .ok (.invokevirtual 105, 3) := by decide +kernel
theorem dX3_takeWord_43 : decode cX3_takeWord 43 = .ok (.ifCond .eq 5, 3) := by decide +kernel
theorem dX3_takeWord_46 : decode cX3_takeWord 46 = .ok (.iconst 0, 1) := by decide +kernel
theorem dX3_takeWord_47 : decode cX3_takeWord 47 = .ok (.ireturn, 1) := by decide +kernel
theorem dX3_takeWord_48 : decode cX3_takeWord 48 = .ok (.aload_n 0, 1) := by decide +kernel
theorem dX3_takeWord_49 : decode cX3_takeWord 49 = .ok (.iload_n 1, 1) := by decide +kernel
theorem dX3_takeWord_50 : decode cX3_takeWord 50 = .ok (.ldc 109, 2) := by decide +kernel
theorem dX3_takeWord_52 : decode cX3_takeWord 52 = .ok (.invokevirtual 105, 3) := by decide +kernel
theorem dX3_takeWord_55 : decode cX3_takeWord 55 = .ok (.ifCond .eq 5, 3) := by decide +kernel
theorem dX3_takeWord_58 : decode cX3_takeWord 58 = .ok (.iconst 1, 1) := by decide +kernel
theorem dX3_takeWord_59 : decode cX3_takeWord 59 = .ok (.ireturn, 1) := by decide +kernel
theorem dX3_takeWord_60 : decode cX3_takeWord 60 = .ok (.aload_n 0, 1) := by decide +kernel
theorem dX3_takeWord_61 : decode cX3_takeWord 61 = .ok (.iload_n 1, 1) := by decide +kernel
theorem dX3_takeWord_62 : decode cX3_takeWord 62 = .ok (.ldc 111, 2) := by decide +kernel
theorem dX3_takeWord_64 : decode cX3_takeWord 64 = .ok (.invokevirtual 105, 3) := by decide +kernel
theorem dX3_takeWord_67 : decode cX3_takeWord 67 = .ok (.ifCond .eq 5, 3) := by decide +kernel
theorem dX3_takeWord_70 : decode cX3_takeWord 70 = .ok (.iconst 2, 1) := by decide +kernel
theorem dX3_takeWord_71 : decode cX3_takeWord 71 = .ok (.ireturn, 1) := by decide +kernel
theorem dX3_takeWord_72 : decode cX3_takeWord 72 = .ok (.aload_n 0, 1) := by decide +kernel
theorem dX3_takeWord_73 : decode cX3_takeWord 73 = .ok (.iload_n 1, 1) := by decide +kernel
theorem dX3_takeWord_74 : decode cX3_takeWord 74 = .ok (.ldc 113, 2) := by decide +kernel
theorem dX3_takeWord_76 : decode cX3_takeWord 76 = .ok (.invokevirtual 105, 3) := by decide +kernel
theorem dX3_takeWord_79 : decode cX3_takeWord 79 = .ok (.ifCond .eq 5, 3) := by decide +kernel
theorem dX3_takeWord_82 : decode cX3_takeWord 82 = .ok (.iconst 3, 1) := by decide +kernel
theorem dX3_takeWord_83 : decode cX3_takeWord 83 = .ok (.ireturn, 1) := by decide +kernel
theorem dX3_takeWord_84 : decode cX3_takeWord 84 = .ok (.aload_n 0, 1) := by decide +kernel
theorem dX3_takeWord_85 : decode cX3_takeWord 85 = .ok (.iload_n 1, 1) := by decide +kernel
theorem dX3_takeWord_86 : decode cX3_takeWord 86 = .ok (.ldc 115, 2) := by decide +kernel
theorem dX3_takeWord_88 : decode cX3_takeWord 88 = .ok (.invokevirtual 105, 3) := by decide +kernel
theorem dX3_takeWord_91 : decode cX3_takeWord 91 = .ok (.ifCond .eq 5, 3) := by decide +kernel
theorem dX3_takeWord_94 : decode cX3_takeWord 94 = .ok (.iconst 4, 1) := by decide +kernel
theorem dX3_takeWord_95 : decode cX3_takeWord 95 = .ok (.ireturn, 1) := by decide +kernel
theorem dX3_takeWord_96 : decode cX3_takeWord 96 = .ok (.aload_n 0, 1) := by decide +kernel
theorem dX3_takeWord_97 : decode cX3_takeWord 97 = .ok (.iload_n 1, 1) := by decide +kernel
theorem dX3_takeWord_98 : decode cX3_takeWord 98 = .ok (.ldc 117, 2) := by decide +kernel
theorem dX3_takeWord_100 : decode cX3_takeWord 100 = .ok (.invokevirtual 105, 3) := by decide +kernel
theorem dX3_takeWord_103 : decode cX3_takeWord 103 = .ok (.ifCond .eq 7, 3) := by decide +kernel
theorem dX3_takeWord_106 : decode cX3_takeWord 106 = .ok (.iconst 5, 1) := by decide +kernel
theorem dX3_takeWord_107 : decode cX3_takeWord 107 = .ok (.goto 4, 3) := by decide +kernel
theorem dX3_takeWord_110 : decode cX3_takeWord 110 = .ok (.iconst (-1), 1) := by decide +kernel
theorem dX3_takeWord_111 : decode cX3_takeWord 111 = .ok (.ireturn, 1) := by decide +kernel
theorem dX3_spells_0 : decode cX3_spells 0 = .ok (.aload_n 0, 1) := by decide +kernel
theorem dX3_spells_1 : decode cX3_spells 1 = .ok (.getfield 39, 3) := by decide +kernel
theorem dX3_spells_4 : decode cX3_spells 4 = .ok (.iload_n 1, 1) := by decide +kernel
theorem dX3_spells_5 : decode cX3_spells 5 = .ok (.isub, 1) := by decide +kernel
theorem dX3_spells_6 : decode cX3_spells 6 = .ok (.aload_n 2, 1) := by decide +kernel
theorem dX3_spells_7 : decode cX3_spells 7 = .ok (.invokevirtual 119, 3) := by decide +kernel
theorem dX3_spells_10 : decode cX3_spells 10 = .ok (.if_icmp .eq 5, 3) := by decide +kernel
theorem dX3_spells_13 : decode cX3_spells 13 = .ok (.iconst 0, 1) := by decide +kernel
theorem dX3_spells_14 : decode cX3_spells 14 = .ok (.ireturn, 1) := by decide +kernel
theorem dX3_spells_15 : decode cX3_spells 15 = .ok (.iconst 0, 1) := by decide +kernel
theorem dX3_spells_16 : decode cX3_spells 16 = .ok (.istore_n 3, 1) := by decide +kernel
theorem dX3_spells_17 : decode cX3_spells 17 = .ok (.iload_n 3, 1) := by decide +kernel
theorem dX3_spells_18 : decode cX3_spells 18 = .ok (.aload_n 2, 1) := by decide +kernel
theorem dX3_spells_19 : decode cX3_spells 19 = .ok (.invokevirtual 119, 3) := by decide +kernel
theorem dX3_spells_22 : decode cX3_spells 22 = .ok (.if_icmp .ge 27, 3) := by decide +kernel
theorem dX3_spells_25 : decode cX3_spells 25 = .ok (.aload_n 0, 1) := by decide +kernel
theorem dX3_spells_26 : decode cX3_spells 26 = .ok (.getfield 22, 3) := by decide +kernel
theorem dX3_spells_29 : decode cX3_spells 29 = .ok (.iload_n 1, 1) := by decide +kernel
theorem dX3_spells_30 : decode cX3_spells 30 = .ok (.iload_n 3, 1) := by decide +kernel
theorem dX3_spells_31 : decode cX3_spells 31 = .ok (.iadd, 1) := by decide +kernel
theorem dX3_spells_32 : decode cX3_spells 32 = .ok (.iaload, 1) := by decide +kernel
theorem dX3_spells_33 : decode cX3_spells 33 = .ok (.aload_n 2, 1) := by decide +kernel
theorem dX3_spells_34 : decode cX3_spells 34 = .ok (.iload_n 3, 1) := by decide +kernel
theorem dX3_spells_35 : decode cX3_spells 35 = .ok (.invokevirtual 123, 3) := by decide +kernel
theorem dX3_spells_38 : decode cX3_spells 38 = .ok (.if_icmp .eq 5, 3) := by decide +kernel
theorem dX3_spells_41 : decode cX3_spells 41 = .ok (.iconst 0, 1) := by decide +kernel
theorem dX3_spells_42 : decode cX3_spells 42 = .ok (.ireturn, 1) := by decide +kernel
theorem dX3_spells_43 : decode cX3_spells 43 = .ok (.iinc 3 1, 3) := by decide +kernel
theorem dX3_spells_46 : decode cX3_spells 46 = .ok (.goto (-29), 3) := by decide +kernel
theorem dX3_spells_49 : decode cX3_spells 49 = .ok (.iconst 1, 1) := by decide +kernel
theorem dX3_spells_50 : decode cX3_spells 50 = .ok (.ireturn, 1) := by decide +kernel
theorem dX3_takeEnd_0 : decode cX3_takeEnd 0 = .ok (.aload_n 0, 1) := by decide +kernel
theorem dX3_takeEnd_1 : decode cX3_takeEnd 1 = .ok (.invokevirtual 53, 3) := by decide +kernel
theorem dX3_takeEnd_4 : decode cX3_takeEnd 4 = .ok (.aload_n 0, 1) := by decide +kernel
theorem dX3_takeEnd_5 : decode cX3_takeEnd 5 = .ok (.invokevirtual 127, 3) := by decide +kernel
theorem dX3_takeEnd_8 : decode cX3_takeEnd 8 = .ok (.bipush 59, 2) := by decide +kernel
theorem dX3_takeEnd_10 : decode cX3_takeEnd 10 = .ok (.if_icmp .eq 13, 3) := by decide +kernel
theorem dX3_takeEnd_13 : decode cX3_takeEnd 13 = .ok (.aload_n 0, 1) := by decide +kernel
theorem dX3_takeEnd_14 : decode cX3_takeEnd 14 = .ok (.iconst 1, 1) := by decide +kernel
theorem dX3_takeEnd_15 : decode cX3_takeEnd 15 = .ok (.aload_n 0, 1) := by decide +kernel
theorem dX3_takeEnd_16 : decode cX3_takeEnd 16 = .ok (.getfield 39, 3) := by decide +kernel
theorem dX3_takeEnd_19 : decode cX3_takeEnd 19 = .ok (.invokevirtual 74, 3) := by decide +kernel
theorem dX3_takeEnd_22 : decode cX3_takeEnd 22 = .ok (.ireturn, 1) := by decide +kernel
theorem dX3_takeEnd_23 : decode cX3_takeEnd 23 = .ok (.aload_n 0, 1) := by decide +kernel
theorem dX3_takeEnd_24 : decode cX3_takeEnd 24 = .ok (.dup, 1) := by decide +kernel
theorem dX3_takeEnd_25 : decode cX3_takeEnd 25 = .ok (.getfield 39, 3) := by decide +kernel
theorem dX3_takeEnd_28 : decode cX3_takeEnd 28 = .ok (.iconst 1, 1) := by decide +kernel
theorem dX3_takeEnd_29 : decode cX3_takeEnd 29 = .ok (.iadd, 1) := by decide +kernel
theorem dX3_takeEnd_30 : decode cX3_takeEnd 30 = .ok (.putfield 39, 3) := by decide +kernel
theorem dX3_takeEnd_33 : decode cX3_takeEnd 33 = .ok (.iconst 1, 1) := by decide +kernel
theorem dX3_takeEnd_34 : decode cX3_takeEnd 34 = .ok (.ireturn, 1) := by decide +kernel
theorem dX3_takeNumber_0 : decode cX3_takeNumber 0 = .ok (.aload_n 0, 1) := by decide +kernel
theorem dX3_takeNumber_1 : decode cX3_takeNumber 1 = .ok (.invokevirtual 53, 3) := by decide +kernel
theorem dX3_takeNumber_4 : decode cX3_takeNumber 4 = .ok (.aload_n 0, 1) := by decide +kernel
theorem dX3_takeNumber_5 : decode cX3_takeNumber 5 = .ok (.aload_n 0, 1) := by decide +kernel
theorem dX3_takeNumber_6 : decode cX3_takeNumber 6 = .ok (.getfield 39, 3) := by decide +kernel
theorem dX3_takeNumber_9 : decode cX3_takeNumber 9 = .ok (.putfield 130, 3) := by decide +kernel
theorem dX3_takeNumber_12 : decode cX3_takeNumber 12 = .ok (.aload_n 0, 1) := by decide +kernel
theorem dX3_takeNumber_13 : decode cX3_takeNumber 13 = .ok (.invokevirtual 133, 3) := by decide +kernel
theorem dX3_takeNumber_16 : decode cX3_takeNumber 16 = .ok (.ifCond .ne 13, 3) := by decide +kernel
theorem dX3_takeNumber_19 : decode cX3_takeNumber 19 = .ok (.aload_n 0, 1) := by decide +kernel
theorem dX3_takeNumber_20 : decode cX3_takeNumber 20 = .ok (.iconst 1, 1) := by decide +kernel
theorem dX3_takeNumber_21 : decode cX3_takeNumber 21 = .ok (.aload_n 0, 1) := by decide +kernel
theorem dX3_takeNumber_22 : decode cX3_takeNumber 22 = .ok (.getfield 39, 3) := by decide +kernel
theorem dX3_takeNumber_25 : decode cX3_takeNumber 25 = .ok (.invokevirtual 74, 3) := by decide +kernel
theorem dX3_takeNumber_28 : decode cX3_takeNumber 28 = .ok (.ireturn, 1) := by decide +kernel
theorem dX3_takeNumber_29 : decode cX3_takeNumber 29 = .ok (.aload_n 0, 1) := by decide +kernel
theorem dX3_takeNumber_30 : decode cX3_takeNumber 30 = .ok (.iconst 0, 1) := by decide +kernel
theorem dX3_takeNumber_31 : decode cX3_takeNumber 31 = .ok (.putfield 136, 3) := by decide +kernel
theorem dX3_takeNumber_34 : decode cX3_takeNumber 34 = .ok (.aload_n 0, 1) := by decide +kernel
theorem dX3_takeNumber_35 : decode cX3_takeNumber 35 = .ok (.getfield 39, 3) := by decide +kernel
theorem dX3_takeNumber_38 : decode cX3_takeNumber 38 = .ok (.aload_n 0, 1) := by decide +kernel
theorem dX3_takeNumber_39 : decode cX3_takeNumber 39 = .ok (.getfield 36, 3) := by decide +kernel
theorem dX3_takeNumber_42 : decode cX3_takeNumber 42 = .ok (.if_icmp .ge 52, 3) := by decide +kernel
theorem dX3_takeNumber_45 : decode cX3_takeNumber 45 = .ok (.aload_n 0, 1) := by decide +kernel
theorem dX3_takeNumber_46 : decode cX3_takeNumber 46 = .ok (.invokevirtual 133, 3) := by decide +kernel
theorem dX3_takeNumber_49 : decode cX3_takeNumber 49 = .ok (.ifCond .eq 45, 3) := by decide +kernel
theorem dX3_takeNumber_52 : decode cX3_takeNumber 52 = .ok (.aload_n 0, 1) := by decide +kernel
theorem dX3_takeNumber_53 : decode cX3_takeNumber 53 = .ok (.ldc 139, 2) := by decide +kernel
theorem dX3_takeNumber_55 : decode cX3_takeNumber 55 = .ok (.aload_n 0, 1) := by decide +kernel
theorem dX3_takeNumber_56 : decode cX3_takeNumber 56 = .ok (.getfield 136, 3) := by decide +kernel
theorem dX3_takeNumber_59 : decode cX3_takeNumber 59 = .ok (.bipush 10, 2) := by decide +kernel
theorem dX3_takeNumber_61 : decode cX3_takeNumber 61 = .ok (.imul, 1) := by decide +kernel
theorem dX3_takeNumber_62 : decode cX3_takeNumber 62 = .ok (.aload_n 0, 1) := by decide +kernel
theorem dX3_takeNumber_63 : decode cX3_takeNumber 63 = .ok (.getfield 22, 3) := by decide +kernel
theorem dX3_takeNumber_66 : decode cX3_takeNumber 66 = .ok (.aload_n 0, 1) := by decide +kernel
theorem dX3_takeNumber_67 : decode cX3_takeNumber 67 = .ok (.getfield 39, 3) := by decide +kernel
theorem dX3_takeNumber_70 : decode cX3_takeNumber 70 = .ok (.iaload, 1) := by decide +kernel
theorem dX3_takeNumber_71 : decode cX3_takeNumber 71 = .ok (.iadd, 1) := by decide +kernel
theorem dX3_takeNumber_72 : decode cX3_takeNumber 72 = .ok (.bipush 48, 2) := by decide +kernel
theorem dX3_takeNumber_74 : decode cX3_takeNumber 74 = .ok (.isub, 1) := by decide +kernel
theorem dX3_takeNumber_75 : decode cX3_takeNumber 75 = .ok (.invokestatic 30, 3) := by decide +kernel
theorem dX3_takeNumber_78 : decode cX3_takeNumber 78 = .ok (.putfield 136, 3) := by decide +kernel
theorem dX3_takeNumber_81 : decode cX3_takeNumber 81 = .ok (.aload_n 0, 1) := by decide +kernel
theorem dX3_takeNumber_82 : decode cX3_takeNumber 82 = .ok (.dup, 1) := by decide +kernel
theorem dX3_takeNumber_83 : decode cX3_takeNumber 83 = .ok (.getfield 39, 3) := by decide +kernel
theorem dX3_takeNumber_86 : decode cX3_takeNumber 86 = .ok (.iconst 1, 1) := by decide +kernel
theorem dX3_takeNumber_87 : decode cX3_takeNumber 87 = .ok (.iadd, 1) := by decide +kernel
theorem dX3_takeNumber_88 : decode cX3_takeNumber 88 = .ok (.putfield 39, 3) := by decide +kernel
theorem dX3_takeNumber_91 : decode cX3_takeNumber 91 = .ok (.goto (-57), 3) := by decide +kernel
theorem dX3_takeNumber_94 : decode cX3_takeNumber 94 = .ok (.iconst 1, 1) := by decide +kernel
theorem dX3_takeNumber_95 : decode cX3_takeNumber 95 = .ok (.ireturn, 1) := by decide +kernel
theorem dX3_takeNumberWithin_0 : decode cX3_takeNumberWithin 0 = .ok (.aload_n 0, 1) := by decide +kernel
theorem dX3_takeNumberWithin_1 : decode cX3_takeNumberWithin 1 = .ok (.invokevirtual 140, 3) := by decide +kernel
theorem dX3_takeNumberWithin_4 : decode cX3_takeNumberWithin 4 = .ok (.ifCond .ne 5, 3) := by decide +kernel
theorem dX3_takeNumberWithin_7 : decode cX3_takeNumberWithin 7 = .ok (.iconst 0, 1) := by decide +kernel
theorem dX3_takeNumberWithin_8 : decode cX3_takeNumberWithin 8 = .ok (.ireturn, 1) := by decide +kernel
theorem dX3_takeNumberWithin_9 : decode cX3_takeNumberWithin 9 = .ok (.aload_n 0, 1) := by decide +kernel
theorem dX3_takeNumberWithin_10 : decode cX3_takeNumberWithin 10 = .ok (.getfield 136, 3) := by decide +kernel
theorem dX3_takeNumberWithin_13 : decode cX3_takeNumberWithin 13 = .ok (.iload_n 1, 1) := by decide +kernel
theorem dX3_takeNumberWithin_14 : decode cX3_takeNumberWithin 14 = .ok (.if_icmp .lt 11, 3) := by decide +kernel
theorem dX3_takeNumberWithin_17 : decode cX3_takeNumberWithin 17 = .ok (.aload_n 0, 1) := by decide +kernel
theorem dX3_takeNumberWithin_18 : decode cX3_takeNumberWithin 18 = .ok (.getfield 136, 3) := by decide +kernel
theorem dX3_takeNumberWithin_21 : decode cX3_takeNumberWithin 21 = .ok (.iload_n 2, 1) := by decide +kernel
theorem dX3_takeNumberWithin_22 : decode cX3_takeNumberWithin 22 = .ok (.if_icmp .le 15, 3) := by decide +kernel
theorem dX3_takeNumberWithin_25 : decode cX3_takeNumberWithin 25 = .ok (.aload_n 0, 1) := by decide +kernel
theorem dX3_takeNumberWithin_26 : decode cX3_takeNumberWithin 26 = .ok (.iconst 2, 1) := by decide +kernel
theorem dX3_takeNumberWithin_27 : decode cX3_takeNumberWithin 27 = .ok (.aload_n 0, 1) := by decide +kernel
theorem dX3_takeNumberWithin_28 : decode cX3_takeNumberWithin 28 = .ok (.getfield 130, 3) := by decide +kernel
theorem dX3_takeNumberWithin_31 : decode cX3_takeNumberWithin 31 = .ok (.invokevirtual 74, 3) := by decide +kernel
theorem dX3_takeNumberWithin_34 : decode cX3_takeNumberWithin 34 = .ok (.ifCond .eq 7, 3) := by decide +kernel
theorem dX3_takeNumberWithin_37 : decode cX3_takeNumberWithin 37 = .ok (.iconst 1, 1) := by decide +kernel
theorem dX3_takeNumberWithin_38 : decode cX3_takeNumberWithin 38 = .ok (.goto 4, 3) := by decide +kernel
theorem dX3_takeNumberWithin_41 : decode cX3_takeNumberWithin 41 = .ok (.iconst 0, 1) := by decide +kernel
theorem dX3_takeNumberWithin_42 : decode cX3_takeNumberWithin 42 = .ok (.ireturn, 1) := by decide +kernel
theorem dX3_takeKind_0 : decode cX3_takeKind 0 = .ok (.aload_n 0, 1) := by decide +kernel
theorem dX3_takeKind_1 : decode cX3_takeKind 1 = .ok (.invokevirtual 140, 3) := by decide +kernel
theorem dX3_takeKind_4 : decode cX3_takeKind 4 = .ok (.ifCond .ne 5, 3) := by decide +kernel
theorem dX3_takeKind_7 : decode cX3_takeKind 7 = .ok (.iconst 0, 1) := by decide +kernel
theorem dX3_takeKind_8 : decode cX3_takeKind 8 = .ok (.ireturn, 1) := by decide +kernel
theorem dX3_takeKind_9 : decode cX3_takeKind 9 = .ok (.aload_n 0, 1) := by decide +kernel
theorem dX3_takeKind_10 : decode cX3_takeKind 10 = .ok (.getfield 136, 3) := by decide +kernel
theorem dX3_takeKind_13 : decode cX3_takeKind 13 = .ok (.invokestatic 143, 3) := by decide +kernel
theorem dX3_takeKind_16 : decode cX3_takeKind 16 = .ok (.ifCond .ne 15, 3) := by decide +kernel
theorem dX3_takeKind_19 : decode cX3_takeKind 19 = .ok (.aload_n 0, 1) := by decide +kernel
theorem dX3_takeKind_20 : decode cX3_takeKind 20 = .ok (.iconst 2, 1) := by decide +kernel
theorem dX3_takeKind_21 : decode cX3_takeKind 21 = .ok (.aload_n 0, 1) := by decide +kernel
theorem dX3_takeKind_22 : decode cX3_takeKind 22 = .ok (.getfield 130, 3) := by decide +kernel
theorem dX3_takeKind_25 : decode cX3_takeKind 25 = .ok (.invokevirtual 74, 3) := by decide +kernel
theorem dX3_takeKind_28 : decode cX3_takeKind 28 = .ok (.ifCond .eq 7, 3) := by decide +kernel
theorem dX3_takeKind_31 : decode cX3_takeKind 31 = .ok (.iconst 1, 1) := by decide +kernel
theorem dX3_takeKind_32 : decode cX3_takeKind 32 = .ok (.goto 4, 3) := by decide +kernel
theorem dX3_takeKind_35 : decode cX3_takeKind 35 = .ok (.iconst 0, 1) := by decide +kernel
theorem dX3_takeKind_36 : decode cX3_takeKind 36 = .ok (.ireturn, 1) := by decide +kernel
theorem dX3_takePosition_0 : decode cX3_takePosition 0 = .ok (.aload_n 0, 1) := by decide +kernel
theorem dX3_takePosition_1 : decode cX3_takePosition 1 = .ok (.invokevirtual 53, 3) := by decide +kernel
theorem dX3_takePosition_4 : decode cX3_takePosition 4 = .ok (.aload_n 0, 1) := by decide +kernel
theorem dX3_takePosition_5 : decode cX3_takePosition 5 = .ok (.getfield 39, 3) := by decide +kernel
theorem dX3_takePosition_8 : decode cX3_takePosition 8 = .ok (.istore_n 1, 1) := by decide +kernel
theorem dX3_takePosition_9 : decode cX3_takePosition 9 = .ok (.aload_n 0, 1) := by decide +kernel
theorem dX3_takePosition_10 : decode cX3_takePosition 10 = .ok (.invokevirtual 127, 3) := by decide +kernel
theorem dX3_takePosition_13 : decode cX3_takePosition 13 = .ok (.bipush 45, 2) := by decide +kernel
theorem dX3_takePosition_15 : decode cX3_takePosition 15 = .ok (.if_icmp .ne 7, 3) := by decide +kernel
theorem dX3_takePosition_18 : decode cX3_takePosition 18 = .ok (.iconst 1, 1) := by decide +kernel
theorem dX3_takePosition_19 : decode cX3_takePosition 19 = .ok (.goto 4, 3) := by decide +kernel
theorem dX3_takePosition_22 : decode cX3_takePosition 22 = .ok (.iconst 0, 1) := by decide +kernel
theorem dX3_takePosition_23 : decode cX3_takePosition 23 = .ok (.istore_n 2, 1) := by decide +kernel
theorem dX3_takePosition_24 : decode cX3_takePosition 24 = .ok (.iload_n 2, 1) := by decide +kernel
theorem dX3_takePosition_25 : decode cX3_takePosition 25 = .ok (.ifCond .eq 13, 3) := by decide +kernel
theorem dX3_takePosition_28 : decode cX3_takePosition 28 = .ok (.aload_n 0, 1) := by decide +kernel
theorem dX3_takePosition_29 : decode cX3_takePosition 29 = .ok (.dup, 1) := by decide +kernel
theorem dX3_takePosition_30 : decode cX3_takePosition 30 = .ok (.getfield 39, 3) := by decide +kernel
theorem dX3_takePosition_33 : decode cX3_takePosition 33 = .ok (.iconst 1, 1) := by decide +kernel
theorem dX3_takePosition_34 : decode cX3_takePosition 34 = .ok (.iadd, 1) := by decide +kernel
theorem dX3_takePosition_35 : decode cX3_takePosition 35 = .ok (.putfield 39, 3) := by decide +kernel
theorem dX3_takePosition_38 : decode cX3_takePosition 38 = .ok (.aload_n 0, 1) := by decide +kernel
theorem dX3_takePosition_39 : decode cX3_takePosition 39 = .ok (.invokevirtual 140, 3) := by decide +kernel
theorem dX3_takePosition_42 : decode cX3_takePosition 42 = .ok (.ifCond .ne 5, 3) := by decide +kernel
theorem dX3_takePosition_45 : decode cX3_takePosition 45 = .ok (.iconst 0, 1) := by decide +kernel
theorem dX3_takePosition_46 : decode cX3_takePosition 46 = .ok (.ireturn, 1) := by decide +kernel
theorem dX3_takePosition_47 : decode cX3_takePosition 47 = .ok (.aload_n 0, 1) := by decide +kernel
theorem dX3_takePosition_48 : decode cX3_takePosition 48 = .ok (.getfield 136, 3) := by decide +kernel
theorem dX3_takePosition_51 : decode cX3_takePosition 51 = .ok (.bipush 12, 2) := by decide +kernel
theorem dX3_takePosition_53 : decode cX3_takePosition 53 = .ok (.if_icmp .le 10, 3) := by decide +kernel
theorem dX3_takePosition_56 : decode cX3_takePosition 56 = .ok (.aload_n 0, 1) := by decide +kernel
theorem dX3_takePosition_57 : decode cX3_takePosition 57 = .ok (.iconst 2, 1) := by decide +kernel
theorem dX3_takePosition_58 : decode cX3_takePosition 58 = .ok (.iload_n 1, 1) := by decide +kernel
theorem dX3_takePosition_59 : decode cX3_takePosition 59 = .ok (.invokevirtual 74, 3) := by decide +kernel
theorem dX3_takePosition_62 : decode cX3_takePosition 62 = .ok (.ireturn, 1) := by decide +kernel
theorem dX3_takePosition_63 : decode cX3_takePosition 63 = .ok (.aload_n 0, 1) := by decide +kernel
theorem dX3_takePosition_64 : decode cX3_takePosition 64 = .ok (.iload_n 2, 1) := by decide +kernel
theorem dX3_takePosition_65 : decode cX3_takePosition 65 = .ok (.ifCond .eq 11, 3) := by decide +kernel
theorem dX3_takePosition_68 : decode cX3_takePosition 68 = .ok (.aload_n 0, 1) := by decide +kernel
theorem dX3_takePosition_69 : decode cX3_takePosition 69 = .ok (.getfield 136, 3) := by decide +kernel
theorem dX3_takePosition_72 : decode cX3_takePosition 72 = .ok (.ineg, 1) := by decide +kernel
theorem dX3_takePosition_73 : decode cX3_takePosition 73 = .ok (.goto 7, 3) := by decide +kernel
theorem dX3_takePosition_76 : decode cX3_takePosition 76 = .ok (.aload_n 0, 1) := by decide +kernel
theorem dX3_takePosition_77 : decode cX3_takePosition 77 = .ok (.getfield 136, 3) := by decide +kernel
theorem dX3_takePosition_80 : decode cX3_takePosition 80 = .ok (.putfield 136, 3) := by decide +kernel
theorem dX3_takePosition_83 : decode cX3_takePosition 83 = .ok (.iconst 1, 1) := by decide +kernel
theorem dX3_takePosition_84 : decode cX3_takePosition 84 = .ok (.ireturn, 1) := by decide +kernel
theorem dX3_readMetre_0 : decode cX3_readMetre 0 = .ok (.aload_n 0, 1) := by decide +kernel
theorem dX3_readMetre_1 : decode cX3_readMetre 1 = .ok (.iconst 1, 1) := by decide +kernel
theorem dX3_readMetre_2 : decode cX3_readMetre 2 = .ok (.bipush 12, 2) := by decide +kernel
theorem dX3_readMetre_4 : decode cX3_readMetre 4 = .ok (.invokevirtual 146, 3) := by decide +kernel
theorem dX3_readMetre_7 : decode cX3_readMetre 7 = .ok (.ifCond .ne 5, 3) := by decide +kernel
theorem dX3_readMetre_10 : decode cX3_readMetre 10 = .ok (.iconst 0, 1) := by decide +kernel
theorem dX3_readMetre_11 : decode cX3_readMetre 11 = .ok (.ireturn, 1) := by decide +kernel
theorem dX3_readMetre_12 : decode cX3_readMetre 12 = .ok (.aload_n 0, 1) := by decide +kernel
theorem dX3_readMetre_13 : decode cX3_readMetre 13 = .ok (.getfield 136, 3) := by decide +kernel
theorem dX3_readMetre_16 : decode cX3_readMetre 16 = .ok (.istore_n 1, 1) := by decide +kernel
theorem dX3_readMetre_17 : decode cX3_readMetre 17 = .ok (.aload_n 0, 1) := by decide +kernel
theorem dX3_readMetre_18 : decode cX3_readMetre 18 = .ok (.invokevirtual 140, 3) := by decide +kernel
theorem dX3_readMetre_21 : decode cX3_readMetre 21 = .ok (.ifCond .ne 5, 3) := by decide +kernel
theorem dX3_readMetre_24 : decode cX3_readMetre 24 = .ok (.iconst 0, 1) := by decide +kernel
theorem dX3_readMetre_25 : decode cX3_readMetre 25 = .ok (.ireturn, 1) := by decide +kernel
theorem dX3_readMetre_26 : decode cX3_readMetre 26 = .ok (.aload_n 0, 1) := by decide +kernel
theorem dX3_readMetre_27 : decode cX3_readMetre 27 = .ok (.getfield 136, 3) := by decide +kernel
theorem dX3_readMetre_30 : decode cX3_readMetre 30 = .ok (.iconst 2, 1) := by decide +kernel
theorem dX3_readMetre_31 : decode cX3_readMetre 31 = .ok (.if_icmp .eq 30, 3) := by decide +kernel
theorem dX3_readMetre_34 : decode cX3_readMetre 34 = .ok (.aload_n 0, 1) := by decide +kernel
theorem dX3_readMetre_35 : decode cX3_readMetre 35 = .ok (.getfield 136, 3) := by decide +kernel
theorem dX3_readMetre_38 : decode cX3_readMetre 38 = .ok (.iconst 4, 1) := by decide +kernel
theorem dX3_readMetre_39 : decode cX3_readMetre 39 = .ok (.if_icmp .eq 22, 3) := by decide +kernel
theorem dX3_readMetre_42 : decode cX3_readMetre 42 = .ok (.aload_n 0, 1) := by decide +kernel
theorem dX3_readMetre_43 : decode cX3_readMetre 43 = .ok (.getfield 136, 3) := by decide +kernel
theorem dX3_readMetre_46 : decode cX3_readMetre 46 = .ok (.bipush 8, 2) := by decide +kernel
theorem dX3_readMetre_48 : decode cX3_readMetre 48 = .ok (.if_icmp .eq 13, 3) := by decide +kernel
theorem dX3_readMetre_51 : decode cX3_readMetre 51 = .ok (.aload_n 0, 1) := by decide +kernel
theorem dX3_readMetre_52 : decode cX3_readMetre 52 = .ok (.iconst 2, 1) := by decide +kernel
theorem dX3_readMetre_53 : decode cX3_readMetre 53 = .ok (.aload_n 0, 1) := by decide +kernel
theorem dX3_readMetre_54 : decode cX3_readMetre 54 = .ok (.getfield 130, 3) := by decide +kernel
theorem dX3_readMetre_57 : decode cX3_readMetre 57 = .ok (.invokevirtual 74, 3) := by decide +kernel
theorem dX3_readMetre_60 : decode cX3_readMetre 60 = .ok (.ireturn, 1) := by decide +kernel
theorem dX3_readMetre_61 : decode cX3_readMetre 61 = .ok (.aload_n 0, 1) := by decide +kernel
theorem dX3_readMetre_62 : decode cX3_readMetre 62 = .ok (.getfield 26, 3) := by decide +kernel
theorem dX3_readMetre_65 : decode cX3_readMetre 65 = .ok (.iload_n 1, 1) := by decide +kernel
theorem dX3_readMetre_66 : decode cX3_readMetre 66 = .ok (.aload_n 0, 1) := by decide +kernel
theorem dX3_readMetre_67 : decode cX3_readMetre 67 = .ok (.getfield 136, 3) := by decide +kernel
theorem dX3_readMetre_70 : decode cX3_readMetre 70 = .ok (.invokevirtual 149, 3) := by decide +kernel
theorem dX3_readMetre_73 : decode cX3_readMetre 73 = .ok (.iconst 1, 1) := by decide +kernel
theorem dX3_readMetre_74 : decode cX3_readMetre 74 = .ok (.ireturn, 1) := by decide +kernel
theorem dX3_readSplit_0 : decode cX3_readSplit 0 = .ok (.iconst 0, 1) := by decide +kernel
theorem dX3_readSplit_1 : decode cX3_readSplit 1 = .ok (.istore_n 1, 1) := by decide +kernel
theorem dX3_readSplit_2 : decode cX3_readSplit 2 = .ok (.iconst 0, 1) := by decide +kernel
theorem dX3_readSplit_3 : decode cX3_readSplit 3 = .ok (.istore_n 2, 1) := by decide +kernel
theorem dX3_readSplit_4 : decode cX3_readSplit 4 = .ok (.iconst 0, 1) := by decide +kernel
theorem dX3_readSplit_5 : decode cX3_readSplit 5 = .ok (.istore_n 3, 1) := by decide +kernel
theorem dX3_readSplit_6 : decode cX3_readSplit 6 = .ok (.iload_n 3, 1) := by decide +kernel
theorem dX3_readSplit_7 : decode cX3_readSplit 7 = .ok (.ifCond .eq 16, 3) := by decide +kernel
theorem dX3_readSplit_10 : decode cX3_readSplit 10 = .ok (.iload_n 3, 1) := by decide +kernel
theorem dX3_readSplit_11 : decode cX3_readSplit 11 = .ok (.bipush 6, 2) := by decide +kernel
theorem dX3_readSplit_13 : decode cX3_readSplit 13 = .ok (.if_icmp .gt 72, 3) := by decide +kernel
theorem dX3_readSplit_16 : decode cX3_readSplit 16 = .ok (.aload_n 0, 1) := by decide +kernel
theorem dX3_readSplit_17 : decode cX3_readSplit 17 = .ok (.invokevirtual 133, 3) := by decide +kernel
theorem dX3_readSplit_20 : decode cX3_readSplit 20 = .ok (.ifCond .eq 65, 3) := by decide +kernel
theorem dX3_readSplit_23 : decode cX3_readSplit 23 = .ok (.aload_n 0, 1) := by decide +kernel
theorem dX3_readSplit_24 : decode cX3_readSplit 24 = .ok (.iconst 1, 1) := by decide +kernel
theorem dX3_readSplit_25 : decode cX3_readSplit 25 = .ok (.iload_n 3, 1) := by decide +kernel
theorem dX3_readSplit_26 : decode cX3_readSplit 26 = .ok (.bipush 6, 2) := by decide +kernel
theorem dX3_readSplit_28 : decode cX3_readSplit 28 = .ok (.if_icmp .ge 15, 3) := by decide +kernel
theorem dX3_readSplit_31 : decode cX3_readSplit 31 = .ok (.aload_n 0, 1) := by decide +kernel
theorem dX3_readSplit_32 : decode cX3_readSplit 32 = .ok (.getfield 26, 3) := by decide +kernel
theorem dX3_readSplit_35 : decode cX3_readSplit 35 = .ok (.getfield 153, 3) := by decide +kernel
theorem dX3_readSplit_38 : decode cX3_readSplit 38 = .ok (.iload_n 2, 1) := by decide +kernel
theorem dX3_readSplit_39 : decode cX3_readSplit 39 = .ok (.isub, 1) := by decide +kernel
theorem dX3_readSplit_40 : decode cX3_readSplit 40 = .ok (.goto 4, 3) := by decide +kernel
theorem dX3_readSplit_43 : decode cX3_readSplit 43 = .ok (.iconst 0, 1) := by decide +kernel
theorem dX3_readSplit_44 : decode cX3_readSplit 44 = .ok (.invokevirtual 146, 3) := by decide +kernel
theorem dX3_readSplit_47 : decode cX3_readSplit 47 = .ok (.ifCond .ne 5, 3) := by decide +kernel
theorem dX3_readSplit_50 : decode cX3_readSplit 50 = .ok (.iconst 0, 1) := by decide +kernel
theorem dX3_readSplit_51 : decode cX3_readSplit 51 = .ok (.ireturn, 1) := by decide +kernel
theorem dX3_readSplit_52 : decode cX3_readSplit 52 = .ok (.aload_n 0, 1) := by decide +kernel
theorem dX3_readSplit_53 : decode cX3_readSplit 53 = .ok (.getfield 26, 3) := by decide +kernel
theorem dX3_readSplit_56 : decode cX3_readSplit 56 = .ok (.getfield 156, 3) := by decide +kernel
theorem dX3_readSplit_59 : decode cX3_readSplit 59 = .ok (.iload_n 3, 1) := by decide +kernel
theorem dX3_readSplit_60 : decode cX3_readSplit 60 = .ok (.aload_n 0, 1) := by decide +kernel
theorem dX3_readSplit_61 : decode cX3_readSplit 61 = .ok (.getfield 136, 3) := by decide +kernel
theorem dX3_readSplit_64 : decode cX3_readSplit 64 = .ok (.iastore, 1) := by decide +kernel
theorem dX3_readSplit_65 : decode cX3_readSplit 65 = .ok (.iload_n 2, 1) := by decide +kernel
theorem dX3_readSplit_66 : decode cX3_readSplit 66 = .ok (.aload_n 0, 1) := by decide +kernel
theorem dX3_readSplit_67 : decode cX3_readSplit 67 = .ok (.getfield 136, 3) := by decide +kernel
theorem dX3_readSplit_70 : decode cX3_readSplit 70 = .ok (.iadd, 1) := by decide +kernel
theorem dX3_readSplit_71 : decode cX3_readSplit 71 = .ok (.istore_n 2, 1) := by decide +kernel
theorem dX3_readSplit_72 : decode cX3_readSplit 72 = .ok (.iinc 1 1, 3) := by decide +kernel
theorem dX3_readSplit_75 : decode cX3_readSplit 75 = .ok (.aload_n 0, 1) := by decide +kernel
theorem dX3_readSplit_76 : decode cX3_readSplit 76 = .ok (.invokevirtual 53, 3) := by decide +kernel
theorem dX3_readSplit_79 : decode cX3_readSplit 79 = .ok (.iinc 3 1, 3) := by decide +kernel
theorem dX3_readSplit_82 : decode cX3_readSplit 82 = .ok (.goto (-76), 3) := by decide +kernel
theorem dX3_readSplit_85 : decode cX3_readSplit 85 = .ok (.aload_n 0, 1) := by decide +kernel
theorem dX3_readSplit_86 : decode cX3_readSplit 86 = .ok (.getfield 26, 3) := by decide +kernel
theorem dX3_readSplit_89 : decode cX3_readSplit 89 = .ok (.iload_n 1, 1) := by decide +kernel
theorem dX3_readSplit_90 : decode cX3_readSplit 90 = .ok (.putfield 159, 3) := by decide +kernel
theorem dX3_readSplit_93 : decode cX3_readSplit 93 = .ok (.iload_n 2, 1) := by decide +kernel
theorem dX3_readSplit_94 : decode cX3_readSplit 94 = .ok (.aload_n 0, 1) := by decide +kernel
theorem dX3_readSplit_95 : decode cX3_readSplit 95 = .ok (.getfield 26, 3) := by decide +kernel
theorem dX3_readSplit_98 : decode cX3_readSplit 98 = .ok (.getfield 153, 3) := by decide +kernel
theorem dX3_readSplit_101 : decode cX3_readSplit 101 = .ok (.if_icmp .ge 24, 3) := by decide +kernel
theorem dX3_readSplit_104 : decode cX3_readSplit 104 = .ok (.aload_n 0, 1) := by decide +kernel
theorem dX3_readSplit_105 : decode cX3_readSplit 105 = .ok (.invokevirtual 127, 3) := by decide +kernel
theorem dX3_readSplit_108 : decode cX3_readSplit 108 = .ok (.bipush 59, 2) := by decide +kernel
theorem dX3_readSplit_110 : decode cX3_readSplit 110 = .ok (.if_icmp .ne 15, 3) := by decide +kernel
theorem dX3_readSplit_113 : decode cX3_readSplit 113 = .ok (.aload_n 0, 1) := by decide +kernel
theorem dX3_readSplit_114 : decode cX3_readSplit 114 = .ok (.iconst 5, 1) := by decide +kernel
theorem dX3_readSplit_115 : decode cX3_readSplit 115 = .ok (.aload_n 0, 1) := by decide +kernel
theorem dX3_readSplit_116 : decode cX3_readSplit 116 = .ok (.getfield 39, 3) := by decide +kernel
theorem dX3_readSplit_119 : decode cX3_readSplit 119 = .ok (.invokevirtual 74, 3) := by decide +kernel
theorem dX3_readSplit_122 : decode cX3_readSplit 122 = .ok (.ifCond .eq 7, 3) := by decide +kernel
theorem dX3_readSplit_125 : decode cX3_readSplit 125 = .ok (.iconst 1, 1) := by decide +kernel
theorem dX3_readSplit_126 : decode cX3_readSplit 126 = .ok (.goto 4, 3) := by decide +kernel
theorem dX3_readSplit_129 : decode cX3_readSplit 129 = .ok (.iconst 0, 1) := by decide +kernel
theorem dX3_readSplit_130 : decode cX3_readSplit 130 = .ok (.ireturn, 1) := by decide +kernel
theorem dX3_readKnee_0 : decode cX3_readKnee 0 = .ok (.aload_n 0, 1) := by decide +kernel
theorem dX3_readKnee_1 : decode cX3_readKnee 1 = .ok (.iconst 4, 1) := by decide +kernel
theorem dX3_readKnee_2 : decode cX3_readKnee 2 = .ok (.bipush 24, 2) := by decide +kernel
theorem dX3_readKnee_4 : decode cX3_readKnee 4 = .ok (.invokevirtual 146, 3) := by decide +kernel
theorem dX3_readKnee_7 : decode cX3_readKnee 7 = .ok (.ifCond .ne 5, 3) := by decide +kernel
theorem dX3_readKnee_10 : decode cX3_readKnee 10 = .ok (.iconst 0, 1) := by decide +kernel
theorem dX3_readKnee_11 : decode cX3_readKnee 11 = .ok (.ireturn, 1) := by decide +kernel
theorem dX3_readKnee_12 : decode cX3_readKnee 12 = .ok (.aload_n 0, 1) := by decide +kernel
theorem dX3_readKnee_13 : decode cX3_readKnee 13 = .ok (.getfield 26, 3) := by decide +kernel
theorem dX3_readKnee_16 : decode cX3_readKnee 16 = .ok (.aload_n 0, 1) := by decide +kernel
theorem dX3_readKnee_17 : decode cX3_readKnee 17 = .ok (.getfield 136, 3) := by decide +kernel
theorem dX3_readKnee_20 : decode cX3_readKnee 20 = .ok (.putfield 162, 3) := by decide +kernel
theorem dX3_readKnee_23 : decode cX3_readKnee 23 = .ok (.iconst 1, 1) := by decide +kernel
theorem dX3_readKnee_24 : decode cX3_readKnee 24 = .ok (.ireturn, 1) := by decide +kernel
theorem dX3_readWide_0 : decode cX3_readWide 0 = .ok (.aload_n 0, 1) := by decide +kernel
theorem dX3_readWide_1 : decode cX3_readWide 1 = .ok (.invokevirtual 164, 3) := by decide +kernel
theorem dX3_readWide_4 : decode cX3_readWide 4 = .ok (.ifCond .ne 5, 3) := by decide +kernel
theorem dX3_readWide_7 : decode cX3_readWide 7 = .ok (.iconst 0, 1) := by decide +kernel
theorem dX3_readWide_8 : decode cX3_readWide 8 = .ok (.ireturn, 1) := by decide +kernel
theorem dX3_readWide_9 : decode cX3_readWide 9 = .ok (.aload_n 0, 1) := by decide +kernel
theorem dX3_readWide_10 : decode cX3_readWide 10 = .ok (.getfield 136, 3) := by decide +kernel
theorem dX3_readWide_13 : decode cX3_readWide 13 = .ok (.invokestatic 167, 3) := by decide +kernel
theorem dX3_readWide_16 : decode cX3_readWide 16 = .ok (.istore_n 1, 1) := by decide +kernel
theorem dX3_readWide_17 : decode cX3_readWide 17 = .ok (.aload_n 0, 1) := by decide +kernel
theorem dX3_readWide_18 : decode cX3_readWide 18 = .ok (.getfield 19, 3) := by decide +kernel
theorem dX3_readWide_21 : decode cX3_readWide 21 = .ok (.iload_n 1, 1) := by decide +kernel
theorem dX3_readWide_22 : decode cX3_readWide 22 = .ok (.baload, 1) := by decide +kernel
theorem dX3_readWide_23 : decode cX3_readWide 23 = .ok (.ifCond .eq 13, 3) := by decide +kernel
theorem dX3_readWide_26 : decode cX3_readWide 26 = .ok (.aload_n 0, 1) := by decide +kernel
theorem dX3_readWide_27 : decode cX3_readWide 27 = .ok (.iconst 3, 1) := by decide +kernel
theorem dX3_readWide_28 : decode cX3_readWide 28 = .ok (.aload_n 0, 1) := by decide +kernel
theorem dX3_readWide_29 : decode cX3_readWide 29 = .ok (.getfield 130, 3) := by decide +kernel
theorem dX3_readWide_32 : decode cX3_readWide 32 = .ok (.invokevirtual 74, 3) := by decide +kernel
theorem dX3_readWide_35 : decode cX3_readWide 35 = .ok (.ireturn, 1) := by decide +kernel
theorem dX3_readWide_36 : decode cX3_readWide 36 = .ok (.aload_n 0, 1) := by decide +kernel
theorem dX3_readWide_37 : decode cX3_readWide 37 = .ok (.getfield 19, 3) := by decide +kernel
theorem dX3_readWide_40 : decode cX3_readWide 40 = .ok (.iload_n 1, 1) := by decide +kernel
theorem dX3_readWide_41 : decode cX3_readWide 41 = .ok (.iconst 1, 1) := by decide +kernel
theorem dX3_readWide_42 : decode cX3_readWide 42 = .ok (.bastore, 1) := by decide +kernel
theorem dX3_readWide_43 : decode cX3_readWide 43 = .ok (.aload_n 0, 1) := by decide +kernel
theorem dX3_readWide_44 : decode cX3_readWide 44 = .ok (.iconst 4, 1) := by decide +kernel
theorem dX3_readWide_45 : decode cX3_readWide 45 = .ok (.bipush 40, 2) := by decide +kernel
theorem dX3_readWide_47 : decode cX3_readWide 47 = .ok (.invokevirtual 146, 3) := by decide +kernel
theorem dX3_readWide_50 : decode cX3_readWide 50 = .ok (.ifCond .ne 5, 3) := by decide +kernel
theorem dX3_readWide_53 : decode cX3_readWide 53 = .ok (.iconst 0, 1) := by decide +kernel
theorem dX3_readWide_54 : decode cX3_readWide 54 = .ok (.ireturn, 1) := by decide +kernel
theorem dX3_readWide_55 : decode cX3_readWide 55 = .ok (.aload_n 0, 1) := by decide +kernel
theorem dX3_readWide_56 : decode cX3_readWide 56 = .ok (.getfield 26, 3) := by decide +kernel
theorem dX3_readWide_59 : decode cX3_readWide 59 = .ok (.getfield 171, 3) := by decide +kernel
theorem dX3_readWide_62 : decode cX3_readWide 62 = .ok (.iload_n 1, 1) := by decide +kernel
theorem dX3_readWide_63 : decode cX3_readWide 63 = .ok (.aload_n 0, 1) := by decide +kernel
theorem dX3_readWide_64 : decode cX3_readWide 64 = .ok (.getfield 136, 3) := by decide +kernel
theorem dX3_readWide_67 : decode cX3_readWide 67 = .ok (.iastore, 1) := by decide +kernel
theorem dX3_readWide_68 : decode cX3_readWide 68 = .ok (.iconst 1, 1) := by decide +kernel
theorem dX3_readWide_69 : decode cX3_readWide 69 = .ok (.ireturn, 1) := by decide +kernel
theorem dX3_readElement_0 : decode cX3_readElement 0 = .ok (.aload_n 0, 1) := by decide +kernel
theorem dX3_readElement_1 : decode cX3_readElement 1 = .ok (.invokevirtual 164, 3) := by decide +kernel
theorem dX3_readElement_4 : decode cX3_readElement 4 = .ok (.ifCond .ne 5, 3) := by decide +kernel
theorem dX3_readElement_7 : decode cX3_readElement 7 = .ok (.iconst 0, 1) := by decide +kernel
theorem dX3_readElement_8 : decode cX3_readElement 8 = .ok (.ireturn, 1) := by decide +kernel
theorem dX3_readElement_9 : decode cX3_readElement 9 = .ok (.aload_n 0, 1) := by decide +kernel
theorem dX3_readElement_10 : decode cX3_readElement 10 = .ok (.getfield 136, 3) := by decide +kernel
theorem dX3_readElement_13 : decode cX3_readElement 13 = .ok (.istore_n 2, 1) := by decide +kernel
theorem dX3_readElement_14 : decode cX3_readElement 14 = .ok (.aload_n 0, 1) := by decide +kernel
theorem dX3_readElement_15 : decode cX3_readElement 15 = .ok (.getfield 26, 3) := by decide +kernel
theorem dX3_readElement_18 : decode cX3_readElement 18 = .ok (.iload_n 2, 1) := by decide +kernel
theorem dX3_readElement_19 : decode cX3_readElement 19 = .ok (.invokevirtual 174, 3) := by decide +kernel
theorem dX3_readElement_22 : decode cX3_readElement 22 = .ok (.ifCond .ne 13, 3) := by decide +kernel
theorem dX3_readElement_25 : decode cX3_readElement 25 = .ok (.aload_n 0, 1) := by decide +kernel
theorem dX3_readElement_26 : decode cX3_readElement 26 = .ok (.iconst 5, 1) := by decide +kernel
theorem dX3_readElement_27 : decode cX3_readElement 27 = .ok (.aload_n 0, 1) := by decide +kernel
theorem dX3_readElement_28 : decode cX3_readElement 28 = .ok (.getfield 130, 3) := by decide +kernel
theorem dX3_readElement_31 : decode cX3_readElement 31 = .ok (.invokevirtual 74, 3) := by decide +kernel
theorem dX3_readElement_34 : decode cX3_readElement 34 = .ok (.ireturn, 1) := by decide +kernel
theorem dX3_readElement_35 : decode cX3_readElement 35 = .ok (.iload_n 1, 1) := by decide +kernel
theorem dX3_readElement_36 : decode cX3_readElement 36 = .ok (.ifCond .eq 12, 3) := by decide +kernel
theorem dX3_readElement_39 : decode cX3_readElement 39 = .ok (.aload_n 0, 1) := by decide +kernel
theorem dX3_readElement_40 : decode cX3_readElement 40 = .ok (.invokevirtual 177, 3) := by decide +kernel
theorem dX3_readElement_43 : decode cX3_readElement 43 = .ok (.ifCond .ne 5, 3) := by decide +kernel
theorem dX3_readElement_46 : decode cX3_readElement 46 = .ok (.iconst 0, 1) := by decide +kernel
theorem dX3_readElement_47 : decode cX3_readElement 47 = .ok (.ireturn, 1) := by decide +kernel
theorem dX3_readElement_48 : decode cX3_readElement 48 = .ok (.aload_n 0, 1) := by decide +kernel
theorem dX3_readElement_49 : decode cX3_readElement 49 = .ok (.getfield 26, 3) := by decide +kernel
theorem dX3_readElement_52 : decode cX3_readElement 52 = .ok (.iload_n 1, 1) := by decide +kernel
theorem dX3_readElement_53 : decode cX3_readElement 53 = .ok (.iload_n 2, 1) := by decide +kernel
theorem dX3_readElement_54 : decode cX3_readElement 54 = .ok (.iload_n 1, 1) := by decide +kernel
theorem dX3_readElement_55 : decode cX3_readElement 55 = .ok (.ifCond .eq 10, 3) := by decide +kernel
theorem dX3_readElement_58 : decode cX3_readElement 58 = .ok (.aload_n 0, 1) := by decide +kernel
theorem dX3_readElement_59 : decode cX3_readElement 59 = .ok (.getfield 136, 3) := by decide +kernel
theorem dX3_readElement_62 : decode cX3_readElement 62 = .ok (.goto 4, 3) := by decide +kernel
theorem dX3_readElement_65 : decode cX3_readElement 65 = .ok (.iconst 0, 1) := by decide +kernel
theorem dX3_readElement_66 : decode cX3_readElement 66 = .ok (.invokevirtual 180, 3) := by decide +kernel
theorem dX3_readElement_69 : decode cX3_readElement 69 = .ok (.iconst 1, 1) := by decide +kernel
theorem dX3_readElement_70 : decode cX3_readElement 70 = .ok (.ireturn, 1) := by decide +kernel
theorem dX4_init_0 : decode cX4_init 0 = .ok (.aload_n 0, 1) := by decide +kernel
theorem dX4_init_1 : decode cX4_init 1 = .ok (.invokespecial 5, 3) := by decide +kernel
theorem dX4_init_4 : decode cX4_init 4 = .ok (.aload_n 0, 1) := by decide +kernel
theorem dX4_init_5 : decode cX4_init 5 = .ok (.sipush 3993, 3) := by decide +kernel
theorem dX4_init_8 : decode cX4_init 8 = .ok (.newarray .int, 2) := by decide +kernel
theorem dX4_init_10 : decode cX4_init 10 = .ok (.putfield 13, 3) := by decide +kernel
theorem dX4_init_13 : decode cX4_init 13 = .ok (.aload_n 0, 1) := by decide +kernel
theorem dX4_init_14 : decode cX4_init 14 = .ok (.bipush 121, 2) := by decide +kernel
theorem dX4_init_16 : decode cX4_init 16 = .ok (.newarray .int, 2) := by decide +kernel
theorem dX4_init_18 : decode cX4_init 18 = .ok (.putfield 17, 3) := by decide +kernel
theorem dX4_init_21 : decode cX4_init 21 = .ok (.return_, 1) := by decide +kernel
theorem dX5_init_0 : decode cX5_init 0 = .ok (.aload_n 0, 1) := by decide +kernel
theorem dX5_init_1 : decode cX5_init 1 = .ok (.invokespecial 1, 3) := by decide +kernel
theorem dX5_init_4 : decode cX5_init 4 = .ok (.aload_n 0, 1) := by decide +kernel
theorem dX5_init_5 : decode cX5_init 5 = .ok (.sipush 900, 3) := by decide +kernel
theorem dX5_init_8 : decode cX5_init 8 = .ok (.newarray .int, 2) := by decide +kernel
theorem dX5_init_10 : decode cX5_init 10 = .ok (.putfield 9, 3) := by decide +kernel
theorem dX5_init_13 : decode cX5_init 13 = .ok (.return_, 1) := by decide +kernel
theorem dX5_hasRoomFor_0 : decode cX5_hasRoomFor 0 = .ok (.aload_n 0, 1) := by decide +kernel
theorem dX5_hasRoomFor_1 : decode cX5_hasRoomFor 1 = .ok (.getfield 13, 3) := by decide +kernel
theorem dX5_hasRoomFor_4 : decode cX5_hasRoomFor 4 = .ok (.iload_n 1, 1) := by decide +kernel
theorem dX5_hasRoomFor_5 : decode cX5_hasRoomFor 5 = .ok (.iadd, 1) := by decide +kernel
theorem dX5_hasRoomFor_6 : decode cX5_hasRoomFor 6 = .ok (.sipush 900, 3) := by decide +kernel
theorem dX5_hasRoomFor_9 : decode cX5_hasRoomFor 9 = .ok (.if_icmp .gt 7, 3) := by decide +kernel
theorem dX5_hasRoomFor_12 : decode cX5_hasRoomFor 12 = .ok (.iconst 1, 1) := by decide +kernel
theorem dX5_hasRoomFor_13 : decode cX5_hasRoomFor 13 = .ok (.goto 4, 3) := by decide +kernel
theorem dX5_hasRoomFor_16 : decode cX5_hasRoomFor 16 = .ok (.iconst 0, 1) := by decide +kernel
theorem dX5_hasRoomFor_17 : decode cX5_hasRoomFor 17 = .ok (.ireturn, 1) := by decide +kernel
theorem dX5_append_0 : decode cX5_append 0 = .ok (.bipush 24, 2) := by decide +kernel
theorem dX5_append_2 : decode cX5_append 2 = .ok (.istore_n 2, 1) := by decide +kernel
theorem dX5_append_3 : decode cX5_append 3 = .ok (.iload_n 2, 1) := by decide +kernel
theorem dX5_append_4 : decode cX5_append 4 = .ok (.ifCond .lt 45, 3) := by decide +kernel
theorem dX5_append_7 : decode cX5_append 7 = .ok (.aload_n 0, 1) := by decide +kernel
theorem dX5_append_8 : decode cX5_append 8 = .ok (.getfield 13, 3) := by decide +kernel
theorem dX5_append_11 : decode cX5_append 11 = .ok (.sipush 900, 3) := by decide +kernel
theorem dX5_append_14 : decode cX5_append 14 = .ok (.if_icmp .ge 35, 3) := by decide +kernel
theorem dX5_append_17 : decode cX5_append 17 = .ok (.aload_n 0, 1) := by decide +kernel
theorem dX5_append_18 : decode cX5_append 18 = .ok (.getfield 9, 3) := by decide +kernel
theorem dX5_append_21 : decode cX5_append 21 = .ok (.aload_n 0, 1) := by decide +kernel
theorem dX5_append_22 : decode cX5_append 22 = .ok (.getfield 13, 3) := by decide +kernel
theorem dX5_append_25 : decode cX5_append 25 = .ok (.iload_n 1, 1) := by decide +kernel
theorem dX5_append_26 : decode cX5_append 26 = .ok (.iload_n 2, 1) := by decide +kernel
theorem dX5_append_27 : decode cX5_append 27 = .ok (.ishr, 1) := by decide +kernel
theorem dX5_append_28 : decode cX5_append 28 = .ok (.sipush 255, 3) := by decide +kernel
theorem dX5_append_31 : decode cX5_append 31 = .ok (.iand, 1) := by decide +kernel
theorem dX5_append_32 : decode cX5_append 32 = .ok (.iastore, 1) := by decide +kernel
theorem dX5_append_33 : decode cX5_append 33 = .ok (.aload_n 0, 1) := by decide +kernel
theorem dX5_append_34 : decode cX5_append 34 = .ok (.dup, 1) := by decide +kernel
theorem dX5_append_35 : decode cX5_append 35 = .ok (.getfield 13, 3) := by decide +kernel
theorem dX5_append_38 : decode cX5_append 38 = .ok (.iconst 1, 1) := by decide +kernel
theorem dX5_append_39 : decode cX5_append 39 = .ok (.iadd, 1) := by decide +kernel
theorem dX5_append_40 : decode cX5_append 40 = .ok (.putfield 13, 3) := by decide +kernel
theorem dX5_append_43 : decode cX5_append 43 = .ok (.iinc 2 (-8), 3) := by decide +kernel
theorem dX5_append_46 : decode cX5_append 46 = .ok (.goto (-43), 3) := by decide +kernel
theorem dX5_append_49 : decode cX5_append 49 = .ok (.return_, 1) := by decide +kernel
theorem dX6_init_0 : decode cX6_init 0 = .ok (.aload_n 0, 1) := by decide +kernel
theorem dX6_init_1 : decode cX6_init 1 = .ok (.invokespecial 3, 3) := by decide +kernel
theorem dX6_init_4 : decode cX6_init 4 = .ok (.return_, 1) := by decide +kernel
theorem dX6_isWhat_0 : decode cX6_isWhat 0 = .ok (.iload_n 0, 1) := by decide +kernel
theorem dX6_isWhat_1 : decode cX6_isWhat 1 = .ok (.ifCond .lt 12, 3) := by decide +kernel
theorem dX6_isWhat_4 : decode cX6_isWhat 4 = .ok (.iload_n 0, 1) := by decide +kernel
theorem dX6_isWhat_5 : decode cX6_isWhat 5 = .ok (.iconst 3, 1) := by decide +kernel
theorem dX6_isWhat_6 : decode cX6_isWhat 6 = .ok (.if_icmp .gt 7, 3) := by decide +kernel
theorem dX6_isWhat_9 : decode cX6_isWhat 9 = .ok (.iconst 1, 1) := by decide +kernel
theorem dX6_isWhat_10 : decode cX6_isWhat 10 = .ok (.goto 4, 3) := by decide +kernel
theorem dX6_isWhat_13 : decode cX6_isWhat 13 = .ok (.iconst 0, 1) := by decide +kernel
theorem dX6_isWhat_14 : decode cX6_isWhat 14 = .ok (.ireturn, 1) := by decide +kernel
theorem dX6_take_0 : decode cX6_take 0 = .ok (.aload_n 0, 1) := by decide +kernel
theorem dX6_take_1 : decode cX6_take 1 = .ok (.iconst 0, 1) := by decide +kernel
theorem dX6_take_2 : decode cX6_take 2 = .ok (.putfield 9, 3) := by decide +kernel
theorem dX6_take_5 : decode cX6_take 5 = .ok (.aload_n 0, 1) := by decide +kernel
theorem dX6_take_6 : decode cX6_take 6 = .ok (.iconst 0, 1) := by decide +kernel
theorem dX6_take_7 : decode cX6_take 7 = .ok (.putfield 15, 3) := by decide +kernel
theorem dX6_take_10 : decode cX6_take 10 = .ok (.aload_n 0, 1) := by decide +kernel
theorem dX6_take_11 : decode cX6_take 11 = .ok (.bipush (-2), 2) := by decide +kernel
theorem dX6_take_13 : decode cX6_take 13 = .ok (.putfield 18, 3) := by decide +kernel
theorem dX6_take_16 : decode cX6_take 16 = .ok (.aload_n 0, 1) := by decide +kernel
theorem dX6_take_17 : decode cX6_take 17 = .ok (.iconst 0, 1) := by decide +kernel
theorem dX6_take_18 : decode cX6_take 18 = .ok (.putfield 21, 3) := by decide +kernel
theorem dX6_take_21 : decode cX6_take 21 = .ok (.iconst (-1), 1) := by decide +kernel
theorem dX6_take_22 : decode cX6_take 22 = .ok (.istore 5, 2) := by decide +kernel
theorem dX6_take_24 : decode cX6_take 24 = .ok (.iconst 0, 1) := by decide +kernel
theorem dX6_take_25 : decode cX6_take 25 = .ok (.istore 6, 2) := by decide +kernel
theorem dX6_take_27 : decode cX6_take 27 = .ok (.iload 6, 2) := by decide +kernel
theorem dX6_take_29 : decode cX6_take 29 = .ok (.aload_n 1, 1) := by decide +kernel
theorem dX6_take_30 : decode cX6_take 30 = .ok (.getfield 24, 3) := by decide +kernel
theorem dX6_take_33 : decode cX6_take 33 = .ok (.if_icmp .ge 129, 3) := by decide +kernel
theorem dX6_take_36 : decode cX6_take 36 = .ok (.aload 4, 2) := by decide +kernel
theorem dX6_take_38 : decode cX6_take 38 = .ok (.aload_n 1, 1) := by decide +kernel
theorem dX6_take_39 : decode cX6_take 39 = .ok (.aload_n 2, 1) := by decide +kernel
theorem dX6_take_40 : decode cX6_take 40 = .ok (.aload_n 1, 1) := by decide +kernel
theorem dX6_take_41 : decode cX6_take 41 = .ok (.getfield 29, 3) := by decide +kernel
theorem dX6_take_44 : decode cX6_take 44 = .ok (.iload 6, 2) := by decide +kernel
theorem dX6_take_46 : decode cX6_take 46 = .ok (.iaload, 1) := by decide +kernel
theorem dX6_take_47 : decode cX6_take 47 = .ok (.aload_n 1, 1) := by decide +kernel
theorem dX6_take_48 : decode cX6_take 48 = .ok (.getfield 33, 3) := by decide +kernel
theorem dX6_take_51 : decode cX6_take 51 = .ok (.iload 6, 2) := by decide +kernel
theorem dX6_take_53 : decode cX6_take 53 = .ok (.iaload, 1) := by decide +kernel
theorem dX6_take_54 : decode cX6_take 54 = .ok (.iload_n 3, 1) := by decide +kernel
theorem dX6_take_55 : decode cX6_take 55 = .ok (.invokevirtual 36, 3) := by decide +kernel
theorem dX6_take_58 : decode cX6_take 58 = .ok (.aload_n 0, 1) := by decide +kernel
theorem dX6_take_59 : decode cX6_take 59 = .ok (.dup, 1) := by decide +kernel
theorem dX6_take_60 : decode cX6_take 60 = .ok (.getfield 21, 3) := by decide +kernel
theorem dX6_take_63 : decode cX6_take 63 = .ok (.aload 4, 2) := by decide +kernel
theorem dX6_take_65 : decode cX6_take 65 = .ok (.getfield 42, 3) := by decide +kernel
theorem dX6_take_68 : decode cX6_take 68 = .ok (.ifCond .eq 7, 3) := by decide +kernel
theorem dX6_take_71 : decode cX6_take 71 = .ok (.iconst 1, 1) := by decide +kernel
theorem dX6_take_72 : decode cX6_take 72 = .ok (.goto 4, 3) := by decide +kernel
theorem dX6_take_75 : decode cX6_take 75 = .ok (.iconst 0, 1) := by decide +kernel
theorem dX6_take_76 : decode cX6_take 76 = .ok (.iadd, 1) := by decide +kernel
theorem dX6_take_77 : decode cX6_take 77 = .ok (.putfield 21, 3) := by decide +kernel
theorem dX6_take_80 : decode cX6_take 80 = .ok (.aload 4, 2) := by decide +kernel
theorem dX6_take_82 : decode cX6_take 82 = .ok (.invokevirtual 45, 3) := by decide +kernel
theorem dX6_take_85 : decode cX6_take 85 = .ok (.lstore 7, 2) := by decide +kernel
theorem dX6_take_87 : decode cX6_take 87 = .ok (.lload 7, 2) := by decide +kernel
theorem dX6_take_89 : decode cX6_take 89 = .ok (.ldc2_w 49, 3) := by decide +kernel
theorem dX6_take_92 : decode cX6_take 92 = .ok (.lcmp, 1) := by decide +kernel
theorem dX6_take_93 : decode cX6_take 93 = .ok (.ifCond .ne 16, 3) := by decide +kernel
theorem dX6_take_96 : decode cX6_take 96 = .ok (.aload_n 0, 1) := by decide +kernel
theorem dX6_take_97 : decode cX6_take 97 = .ok (.dup, 1) := by decide +kernel
theorem dX6_take_98 : decode cX6_take 98 = .ok (.getfield 15, 3) := by decide +kernel
theorem dX6_take_101 : decode cX6_take 101 = .ok (.iconst 1, 1) := by decide +kernel
theorem dX6_take_102 : decode cX6_take 102 = .ok (.iadd, 1) := by decide +kernel
theorem dX6_take_103 : decode cX6_take 103 = .ok (.putfield 15, 3) := by decide +kernel
theorem dX6_take_106 : decode cX6_take 106 = .ok (.goto 50, 3) := by decide +kernel
theorem dX6_take_109 : decode cX6_take 109 = .ok (.lload 7, 2) := by decide +kernel
theorem dX6_take_111 : decode cX6_take 111 = .ok (.invokestatic 51, 3) := by decide +kernel
theorem dX6_take_114 : decode cX6_take 114 = .ok (.istore 9, 2) := by decide +kernel
theorem dX6_take_116 : decode cX6_take 116 = .ok (.aload_n 0, 1) := by decide +kernel
theorem dX6_take_117 : decode cX6_take 117 = .ok (.dup, 1) := by decide +kernel
theorem dX6_take_118 : decode cX6_take 118 = .ok (.getfield 9, 3) := by decide +kernel
theorem dX6_take_121 : decode cX6_take 121 = .ok (.iload 9, 2) := by decide +kernel
theorem dX6_take_123 : decode cX6_take 123 = .ok (.iadd, 1) := by decide +kernel
theorem dX6_take_124 : decode cX6_take 124 = .ok (.putfield 9, 3) := by decide +kernel
theorem dX6_take_127 : decode cX6_take 127 = .ok (.aload_n 0, 1) := by decide +kernel
theorem dX6_take_128 : decode cX6_take 128 = .ok (.iload 9, 2) := by decide +kernel
theorem dX6_take_130 : decode cX6_take 130 = .ok (.iload 5, 2) := by decide +kernel
theorem dX6_take_132 : decode cX6_take 132 = .ok (.if_icmp .le 8, 3) := by decide +kernel
theorem dX6_take_135 : decode cX6_take 135 = .ok (.iload 6, 2) := by decide +kernel
theorem dX6_take_137 : decode cX6_take 137 = .ok (.goto 7, 3) := by decide +kernel
theorem dX6_take_140 : decode cX6_take 140 = .ok (.aload_n 0, 1) := by decide +kernel
theorem dX6_take_141 : decode cX6_take 141 = .ok (.getfield 18, 3) := by decide +kernel
theorem dX6_take_144 : decode cX6_take 144 = .ok (.putfield 18, 3) := by decide +kernel
theorem dX6_take_147 : decode cX6_take 147 = .ok (.iload 5, 2) := by decide +kernel
theorem dX6_take_149 : decode cX6_take 149 = .ok (.iload 9, 2) := by decide +kernel
theorem dX6_take_151 : decode cX6_take 151 = .ok (.invokestatic 55, 3) := by decide +kernel
theorem dX6_take_154 : decode cX6_take 154 = .ok (.istore 5, 2) := by decide +kernel
theorem dX6_take_156 : decode cX6_take 156 = .ok (.iinc 6 1, 3) := by decide +kernel
theorem dX6_take_159 : decode cX6_take 159 = .ok (.goto (-132), 3) := by decide +kernel
theorem dX6_take_162 : decode cX6_take 162 = .ok (.return_, 1) := by decide +kernel
theorem dX6_tell_0 : decode cX6_tell 0 = .ok (.iload_n 1, 1) := by decide +kernel
theorem dX6_tell_1 : decode cX6_tell 1 = .ok (.tableswitch 42 0 2 #[27, 32, 37], 27) := by decide +kernel
theorem dX6_tell_28 : decode cX6_tell 28 = .ok (.aload_n 0, 1) := by decide +kernel
theorem dX6_tell_29 : decode cX6_tell 29 = .ok (.getfield 9, 3) := by decide +kernel
theorem dX6_tell_32 : decode cX6_tell 32 = .ok (.ireturn, 1) := by decide +kernel
theorem dX6_tell_33 : decode cX6_tell 33 = .ok (.aload_n 0, 1) := by decide +kernel
theorem dX6_tell_34 : decode cX6_tell 34 = .ok (.getfield 15, 3) := by decide +kernel
theorem dX6_tell_37 : decode cX6_tell 37 = .ok (.ireturn, 1) := by decide +kernel
theorem dX6_tell_38 : decode cX6_tell 38 = .ok (.aload_n 0, 1) := by decide +kernel
theorem dX6_tell_39 : decode cX6_tell 39 = .ok (.getfield 18, 3) := by decide +kernel
theorem dX6_tell_42 : decode cX6_tell 42 = .ok (.ireturn, 1) := by decide +kernel
theorem dX6_tell_43 : decode cX6_tell 43 = .ok (.aload_n 0, 1) := by decide +kernel
theorem dX6_tell_44 : decode cX6_tell 44 = .ok (.getfield 21, 3) := by decide +kernel
theorem dX6_tell_47 : decode cX6_tell 47 = .ok (.ireturn, 1) := by decide +kernel
