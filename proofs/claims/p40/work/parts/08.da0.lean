theorem dJ6_signum_0f7a4_0 : decode cJ6_signum_0f7a4 0 = .ok (.iload_n 0, 1) := by decide +kernel
theorem dJ6_signum_0f7a4_1 : decode cJ6_signum_0f7a4 1 = .ok (.bipush 31, 2) := by decide +kernel
theorem dJ6_signum_0f7a4_3 : decode cJ6_signum_0f7a4 3 = .ok (.ishr, 1) := by decide +kernel
theorem dJ6_signum_0f7a4_4 : decode cJ6_signum_0f7a4 4 = .ok (.iload_n 0, 1) := by decide +kernel
theorem dJ6_signum_0f7a4_5 : decode cJ6_signum_0f7a4 5 = .ok (.ineg, 1) := by decide +kernel
theorem dJ6_signum_0f7a4_6 : decode cJ6_signum_0f7a4 6 = .ok (.bipush 31, 2) := by decide +kernel
theorem dJ6_signum_0f7a4_8 : decode cJ6_signum_0f7a4 8 = .ok (.iushr, 1) := by decide +kernel
theorem dJ6_signum_0f7a4_9 : decode cJ6_signum_0f7a4 9 = .ok (.ior, 1) := by decide +kernel
theorem dJ6_signum_0f7a4_10 : decode cJ6_signum_0f7a4 10 = .ok (.ireturn, 1) := by decide +kernel
theorem dJ9_floorDiv_7cf53_0 : decode cJ9_floorDiv_7cf53 0 = .ok (.iload_n 0, 1) := by decide +kernel
theorem dJ9_floorDiv_7cf53_1 : decode cJ9_floorDiv_7cf53 1 = .ok (.iload_n 1, 1) := by decide +kernel
theorem dJ9_floorDiv_7cf53_2 : decode cJ9_floorDiv_7cf53 2 = .ok (.idiv, 1) := by decide +kernel
theorem dJ9_floorDiv_7cf53_3 : decode cJ9_floorDiv_7cf53 3 = .ok (.istore_n 2, 1) := by decide +kernel
theorem dJ9_floorDiv_7cf53_4 : decode cJ9_floorDiv_7cf53 4 = .ok (.iload_n 0, 1) := by decide +kernel
theorem dJ9_floorDiv_7cf53_5 : decode cJ9_floorDiv_7cf53 5 = .ok (.iload_n 1, 1) := by decide +kernel
theorem dJ9_floorDiv_7cf53_6 : decode cJ9_floorDiv_7cf53 6 = .ok (.ixor, 1) := by decide +kernel
theorem dJ9_floorDiv_7cf53_7 : decode cJ9_floorDiv_7cf53 7 = .ok (.ifCond .ge 14, 3) := by decide +kernel
theorem dJ9_floorDiv_7cf53_10 : decode cJ9_floorDiv_7cf53 10 = .ok (.iload_n 2, 1) := by decide +kernel
theorem dJ9_floorDiv_7cf53_11 : decode cJ9_floorDiv_7cf53 11 = .ok (.iload_n 1, 1) := by decide +kernel
theorem dJ9_floorDiv_7cf53_12 : decode cJ9_floorDiv_7cf53 12 = .ok (.imul, 1) := by decide +kernel
theorem dJ9_floorDiv_7cf53_13 : decode cJ9_floorDiv_7cf53 13 = .ok (.iload_n 0, 1) := by decide +kernel
theorem dJ9_floorDiv_7cf53_14 : decode cJ9_floorDiv_7cf53 14 = .ok (.if_icmp .eq 7, 3) := by decide +kernel
theorem dJ9_floorDiv_7cf53_17 : decode cJ9_floorDiv_7cf53 17 = .ok (.iload_n 2, 1) := by decide +kernel
theorem dJ9_floorDiv_7cf53_18 : decode cJ9_floorDiv_7cf53 18 = .ok (.iconst 1, 1) := by decide +kernel
theorem dJ9_floorDiv_7cf53_19 : decode cJ9_floorDiv_7cf53 19 = .ok (.isub, 1) := by decide +kernel
theorem dJ9_floorDiv_7cf53_20 : decode cJ9_floorDiv_7cf53 20 = .ok (.ireturn, 1) := by decide +kernel
theorem dJ9_floorDiv_7cf53_21 : decode cJ9_floorDiv_7cf53 21 = .ok (.iload_n 2, 1) := by decide +kernel
theorem dJ9_floorDiv_7cf53_22 : decode cJ9_floorDiv_7cf53 22 = .ok (.ireturn, 1) := by decide +kernel
theorem dJ9_floorMod_7cf53_0 : decode cJ9_floorMod_7cf53 0 = .ok (.iload_n 0, 1) := by decide +kernel
theorem dJ9_floorMod_7cf53_1 : decode cJ9_floorMod_7cf53 1 = .ok (.iload_n 1, 1) := by decide +kernel
theorem dJ9_floorMod_7cf53_2 : decode cJ9_floorMod_7cf53 2 = .ok (.irem, 1) := by decide +kernel
theorem dJ9_floorMod_7cf53_3 : decode cJ9_floorMod_7cf53 3 = .ok (.istore_n 2, 1) := by decide +kernel
theorem dJ9_floorMod_7cf53_4 : decode cJ9_floorMod_7cf53 4 = .ok (.iload_n 0, 1) := by decide +kernel
theorem dJ9_floorMod_7cf53_5 : decode cJ9_floorMod_7cf53 5 = .ok (.iload_n 1, 1) := by decide +kernel
theorem dJ9_floorMod_7cf53_6 : decode cJ9_floorMod_7cf53 6 = .ok (.ixor, 1) := by decide +kernel
theorem dJ9_floorMod_7cf53_7 : decode cJ9_floorMod_7cf53 7 = .ok (.ifCond .ge 11, 3) := by decide +kernel
theorem dJ9_floorMod_7cf53_10 : decode cJ9_floorMod_7cf53 10 = .ok (.iload_n 2, 1) := by decide +kernel
theorem dJ9_floorMod_7cf53_11 : decode cJ9_floorMod_7cf53 11 = .ok (.ifCond .eq 7, 3) := by decide +kernel
theorem dJ9_floorMod_7cf53_14 : decode cJ9_floorMod_7cf53 14 = .ok (.iload_n 2, 1) := by decide +kernel
theorem dJ9_floorMod_7cf53_15 : decode cJ9_floorMod_7cf53 15 = .ok (.iload_n 1, 1) := by decide +kernel
theorem dJ9_floorMod_7cf53_16 : decode cJ9_floorMod_7cf53 16 = .ok (.iadd, 1) := by decide +kernel
theorem dJ9_floorMod_7cf53_17 : decode cJ9_floorMod_7cf53 17 = .ok (.ireturn, 1) := by decide +kernel
theorem dJ9_floorMod_7cf53_18 : decode cJ9_floorMod_7cf53 18 = .ok (.iload_n 2, 1) := by decide +kernel
theorem dJ9_floorMod_7cf53_19 : decode cJ9_floorMod_7cf53 19 = .ok (.ireturn, 1) := by decide +kernel
theorem dJ9_abs_0f7a4_0 : decode cJ9_abs_0f7a4 0 = .ok (.iload_n 0, 1) := by decide +kernel
theorem dJ9_abs_0f7a4_1 : decode cJ9_abs_0f7a4 1 = .ok (.ifCond .ge 8, 3) := by decide +kernel
theorem dJ9_abs_0f7a4_4 : decode cJ9_abs_0f7a4 4 = .ok (.iload_n 0, 1) := by decide +kernel
theorem dJ9_abs_0f7a4_5 : decode cJ9_abs_0f7a4 5 = .ok (.ineg, 1) := by decide +kernel
theorem dJ9_abs_0f7a4_6 : decode cJ9_abs_0f7a4 6 = .ok (.goto 4, 3) := by decide +kernel
theorem dJ9_abs_0f7a4_9 : decode cJ9_abs_0f7a4 9 = .ok (.iload_n 0, 1) := by decide +kernel
theorem dJ9_abs_0f7a4_10 : decode cJ9_abs_0f7a4 10 = .ok (.ireturn, 1) := by decide +kernel
theorem dJ9_max_7cf53_0 : decode cJ9_max_7cf53 0 = .ok (.iload_n 0, 1) := by decide +kernel
theorem dJ9_max_7cf53_1 : decode cJ9_max_7cf53 1 = .ok (.iload_n 1, 1) := by decide +kernel
theorem dJ9_max_7cf53_2 : decode cJ9_max_7cf53 2 = .ok (.if_icmp .lt 7, 3) := by decide +kernel
theorem dJ9_max_7cf53_5 : decode cJ9_max_7cf53 5 = .ok (.iload_n 0, 1) := by decide +kernel
theorem dJ9_max_7cf53_6 : decode cJ9_max_7cf53 6 = .ok (.goto 4, 3) := by decide +kernel
theorem dJ9_max_7cf53_9 : decode cJ9_max_7cf53 9 = .ok (.iload_n 1, 1) := by decide +kernel
theorem dJ9_max_7cf53_10 : decode cJ9_max_7cf53 10 = .ok (.ireturn, 1) := by decide +kernel
theorem dJ9_min_7cf53_0 : decode cJ9_min_7cf53 0 = .ok (.iload_n 0, 1) := by decide +kernel
theorem dJ9_min_7cf53_1 : decode cJ9_min_7cf53 1 = .ok (.iload_n 1, 1) := by decide +kernel
theorem dJ9_min_7cf53_2 : decode cJ9_min_7cf53 2 = .ok (.if_icmp .gt 7, 3) := by decide +kernel
theorem dJ9_min_7cf53_5 : decode cJ9_min_7cf53 5 = .ok (.iload_n 0, 1) := by decide +kernel
theorem dJ9_min_7cf53_6 : decode cJ9_min_7cf53 6 = .ok (.goto 4, 3) := by decide +kernel
theorem dJ9_min_7cf53_9 : decode cJ9_min_7cf53 9 = .ok (.iload_n 1, 1) := by decide +kernel
theorem dJ9_min_7cf53_10 : decode cJ9_min_7cf53 10 = .ok (.ireturn, 1) := by decide +kernel
theorem dJ9_min_f86c9_0 : decode cJ9_min_f86c9 0 = .ok (.lload_n 0, 1) := by decide +kernel
theorem dJ9_min_f86c9_1 : decode cJ9_min_f86c9 1 = .ok (.lload_n 2, 1) := by decide +kernel
theorem dJ9_min_f86c9_2 : decode cJ9_min_f86c9 2 = .ok (.lcmp, 1) := by decide +kernel
theorem dJ9_min_f86c9_3 : decode cJ9_min_f86c9 3 = .ok (.ifCond .gt 7, 3) := by decide +kernel
theorem dJ9_min_f86c9_6 : decode cJ9_min_f86c9 6 = .ok (.lload_n 0, 1) := by decide +kernel
theorem dJ9_min_f86c9_7 : decode cJ9_min_f86c9 7 = .ok (.goto 4, 3) := by decide +kernel
theorem dJ9_min_f86c9_10 : decode cJ9_min_f86c9 10 = .ok (.lload_n 2, 1) := by decide +kernel
theorem dJ9_min_f86c9_11 : decode cJ9_min_f86c9 11 = .ok (.lreturn, 1) := by decide +kernel
theorem dX0_init_0 : decode cX0_init 0 = .ok (.aload_n 0, 1) := by decide +kernel
theorem dX0_init_1 : decode cX0_init 1 = .ok (.invokespecial 5, 3) := by decide +kernel
theorem dX0_init_4 : decode cX0_init 4 = .ok (.aload_n 0, 1) := by decide +kernel
theorem dX0_init_5 : decode cX0_init 5 = .ok (.bipush 64, 2) := by decide +kernel
theorem dX0_init_7 : decode cX0_init 7 = .ok (.newarray .int, 2) := by decide +kernel
theorem dX0_init_9 : decode cX0_init 9 = .ok (.putfield 13, 3) := by decide +kernel
theorem dX0_init_12 : decode cX0_init 12 = .ok (.aload_n 0, 1) := by decide +kernel
theorem dX0_init_13 : decode cX0_init 13 = .ok (.bipush 64, 2) := by decide +kernel
theorem dX0_init_15 : decode cX0_init 15 = .ok (.newarray .int, 2) := by decide +kernel
theorem dX0_init_17 : decode cX0_init 17 = .ok (.putfield 17, 3) := by decide +kernel
theorem dX0_init_20 : decode cX0_init 20 = .ok (.aload_n 0, 1) := by decide +kernel
theorem dX0_init_21 : decode cX0_init 21 = .ok (.bipush 64, 2) := by decide +kernel
theorem dX0_init_23 : decode cX0_init 23 = .ok (.newarray .int, 2) := by decide +kernel
theorem dX0_init_25 : decode cX0_init 25 = .ok (.putfield 20, 3) := by decide +kernel
theorem dX0_init_28 : decode cX0_init 28 = .ok (.aload_n 0, 1) := by decide +kernel
theorem dX0_init_29 : decode cX0_init 29 = .ok (.bipush 64, 2) := by decide +kernel
theorem dX0_init_31 : decode cX0_init 31 = .ok (.newarray .int, 2) := by decide +kernel
theorem dX0_init_33 : decode cX0_init 33 = .ok (.putfield 23, 3) := by decide +kernel
theorem dX0_init_36 : decode cX0_init 36 = .ok (.aload_n 0, 1) := by decide +kernel
theorem dX0_init_37 : decode cX0_init 37 = .ok (.bipush 64, 2) := by decide +kernel
theorem dX0_init_39 : decode cX0_init 39 = .ok (.newarray .int, 2) := by decide +kernel
theorem dX0_init_41 : decode cX0_init 41 = .ok (.putfield 26, 3) := by decide +kernel
theorem dX0_init_44 : decode cX0_init 44 = .ok (.aload_n 0, 1) := by decide +kernel
theorem dX0_init_45 : decode cX0_init 45 = .ok (.sipush 595, 3) := by decide +kernel
theorem dX0_init_48 : decode cX0_init 48 = .ok (.newarray .long, 2) := by decide +kernel
theorem dX0_init_50 : decode cX0_init 50 = .ok (.putfield 29, 3) := by decide +kernel
theorem dX0_init_53 : decode cX0_init 53 = .ok (.aload_n 0, 1) := by decide +kernel
theorem dX0_init_54 : decode cX0_init 54 = .ok (.bipush 25, 2) := by decide +kernel
theorem dX0_init_56 : decode cX0_init 56 = .ok (.newarray .boolean, 2) := by decide +kernel
theorem dX0_init_58 : decode cX0_init 58 = .ok (.putfield 33, 3) := by decide +kernel
theorem dX0_init_61 : decode cX0_init 61 = .ok (.aload_n 0, 1) := by decide +kernel
theorem dX0_init_62 : decode cX0_init 62 = .ok (.bipush 64, 2) := by decide +kernel
theorem dX0_init_64 : decode cX0_init 64 = .ok (.newarray .int, 2) := by decide +kernel
theorem dX0_init_66 : decode cX0_init 66 = .ok (.putfield 37, 3) := by decide +kernel
theorem dX0_init_69 : decode cX0_init 69 = .ok (.return_, 1) := by decide +kernel
theorem dX0_load_0 : decode cX0_load 0 = .ok (.aload_n 0, 1) := by decide +kernel
theorem dX0_load_1 : decode cX0_load 1 = .ok (.iload_n 3, 1) := by decide +kernel
theorem dX0_load_2 : decode cX0_load 2 = .ok (.ifCond .ge 7, 3) := by decide +kernel
theorem dX0_load_5 : decode cX0_load 5 = .ok (.iconst 0, 1) := by decide +kernel
theorem dX0_load_6 : decode cX0_load 6 = .ok (.goto 18, 3) := by decide +kernel
theorem dX0_load_9 : decode cX0_load 9 = .ok (.iconst 0, 1) := by decide +kernel
theorem dX0_load_10 : decode cX0_load 10 = .ok (.iload 4, 2) := by decide +kernel
theorem dX0_load_12 : decode cX0_load 12 = .ok (.aload_n 1, 1) := by decide +kernel
theorem dX0_load_13 : decode cX0_load 13 = .ok (.getfield 40, 3) := by decide +kernel
theorem dX0_load_16 : decode cX0_load 16 = .ok (.iload_n 3, 1) := by decide +kernel
theorem dX0_load_17 : decode cX0_load 17 = .ok (.isub, 1) := by decide +kernel
theorem dX0_load_18 : decode cX0_load 18 = .ok (.invokestatic 44, 3) := by decide +kernel
theorem dX0_load_21 : decode cX0_load 21 = .ok (.invokestatic 50, 3) := by decide +kernel
theorem dX0_load_24 : decode cX0_load 24 = .ok (.putfield 53, 3) := by decide +kernel
theorem dX0_load_27 : decode cX0_load 27 = .ok (.aload_n 0, 1) := by decide +kernel
theorem dX0_load_28 : decode cX0_load 28 = .ok (.iconst 0, 1) := by decide +kernel
theorem dX0_load_29 : decode cX0_load 29 = .ok (.putfield 54, 3) := by decide +kernel
theorem dX0_load_32 : decode cX0_load 32 = .ok (.iconst 0, 1) := by decide +kernel
theorem dX0_load_33 : decode cX0_load 33 = .ok (.istore 6, 2) := by decide +kernel
theorem dX0_load_35 : decode cX0_load 35 = .ok (.iload 6, 2) := by decide +kernel
theorem dX0_load_37 : decode cX0_load 37 = .ok (.aload_n 0, 1) := by decide +kernel
theorem dX0_load_38 : decode cX0_load 38 = .ok (.getfield 53, 3) := by decide +kernel
theorem dX0_load_41 : decode cX0_load 41 = .ok (.if_icmp .ge 60, 3) := by decide +kernel
theorem dX0_load_44 : decode cX0_load 44 = .ok (.aload_n 0, 1) := by decide +kernel
theorem dX0_load_45 : decode cX0_load 45 = .ok (.getfield 13, 3) := by decide +kernel
theorem dX0_load_48 : decode cX0_load 48 = .ok (.iload 6, 2) := by decide +kernel
theorem dX0_load_50 : decode cX0_load 50 = .ok (.aload_n 1, 1) := by decide +kernel
theorem dX0_load_51 : decode cX0_load 51 = .ok (.getfield 57, 3) := by decide +kernel
theorem dX0_load_54 : decode cX0_load 54 = .ok (.iload_n 3, 1) := by decide +kernel
theorem dX0_load_55 : decode cX0_load 55 = .ok (.iload 6, 2) := by decide +kernel
theorem dX0_load_57 : decode cX0_load 57 = .ok (.iadd, 1) := by decide +kernel
theorem dX0_load_58 : decode cX0_load 58 = .ok (.iaload, 1) := by decide +kernel
theorem dX0_load_59 : decode cX0_load 59 = .ok (.aload_n 1, 1) := by decide +kernel
theorem dX0_load_60 : decode cX0_load 60 = .ok (.getfield 57, 3) := by decide +kernel
theorem dX0_load_63 : decode cX0_load 63 = .ok (.iload_n 3, 1) := by decide +kernel
theorem dX0_load_64 : decode cX0_load 64 = .ok (.iaload, 1) := by decide +kernel
theorem dX0_load_65 : decode cX0_load 65 = .ok (.isub, 1) := by decide +kernel
theorem dX0_load_66 : decode cX0_load 66 = .ok (.iastore, 1) := by decide +kernel
theorem dX0_load_67 : decode cX0_load 67 = .ok (.aload_n 0, 1) := by decide +kernel
theorem dX0_load_68 : decode cX0_load 68 = .ok (.getfield 17, 3) := by decide +kernel
theorem dX0_load_71 : decode cX0_load 71 = .ok (.iload 6, 2) := by decide +kernel
theorem dX0_load_73 : decode cX0_load 73 = .ok (.aload_n 2, 1) := by decide +kernel
theorem dX0_load_74 : decode cX0_load 74 = .ok (.iload_n 3, 1) := by decide +kernel
theorem dX0_load_75 : decode cX0_load 75 = .ok (.iload 6, 2) := by decide +kernel
theorem dX0_load_77 : decode cX0_load 77 = .ok (.iadd, 1) := by decide +kernel
theorem dX0_load_78 : decode cX0_load 78 = .ok (.iaload, 1) := by decide +kernel
theorem dX0_load_79 : decode cX0_load 79 = .ok (.iastore, 1) := by decide +kernel
theorem dX0_load_80 : decode cX0_load 80 = .ok (.aload_n 0, 1) := by decide +kernel
theorem dX0_load_81 : decode cX0_load 81 = .ok (.getfield 20, 3) := by decide +kernel
theorem dX0_load_84 : decode cX0_load 84 = .ok (.iload 6, 2) := by decide +kernel
theorem dX0_load_86 : decode cX0_load 86 = .ok (.aload_n 1, 1) := by decide +kernel
theorem dX0_load_87 : decode cX0_load 87 = .ok (.iload_n 3, 1) := by decide +kernel
theorem dX0_load_88 : decode cX0_load 88 = .ok (.iload 6, 2) := by decide +kernel
theorem dX0_load_90 : decode cX0_load 90 = .ok (.iadd, 1) := by decide +kernel
theorem dX0_load_91 : decode cX0_load 91 = .ok (.invokevirtual 58, 3) := by decide +kernel
theorem dX0_load_94 : decode cX0_load 94 = .ok (.iastore, 1) := by decide +kernel
theorem dX0_load_95 : decode cX0_load 95 = .ok (.iinc 6 1, 3) := by decide +kernel
theorem dX0_load_98 : decode cX0_load 98 = .ok (.goto (-63), 3) := by decide +kernel
theorem dX0_load_101 : decode cX0_load 101 = .ok (.aload_n 0, 1) := by decide +kernel
theorem dX0_load_102 : decode cX0_load 102 = .ok (.iconst 0, 1) := by decide +kernel
theorem dX0_load_103 : decode cX0_load 103 = .ok (.aload_n 0, 1) := by decide +kernel
theorem dX0_load_104 : decode cX0_load 104 = .ok (.getfield 53, 3) := by decide +kernel
theorem dX0_load_107 : decode cX0_load 107 = .ok (.iconst 1, 1) := by decide +kernel
theorem dX0_load_108 : decode cX0_load 108 = .ok (.isub, 1) := by decide +kernel
theorem dX0_load_109 : decode cX0_load 109 = .ok (.invokestatic 50, 3) := by decide +kernel
theorem dX0_load_112 : decode cX0_load 112 = .ok (.putfield 62, 3) := by decide +kernel
theorem dX0_load_115 : decode cX0_load 115 = .ok (.aload_n 0, 1) := by decide +kernel
theorem dX0_load_116 : decode cX0_load 116 = .ok (.aload_n 0, 1) := by decide +kernel
theorem dX0_load_117 : decode cX0_load 117 = .ok (.getfield 53, 3) := by decide +kernel
theorem dX0_load_120 : decode cX0_load 120 = .ok (.ifCond .le 15, 3) := by decide +kernel
theorem dX0_load_123 : decode cX0_load 123 = .ok (.aload_n 0, 1) := by decide +kernel
theorem dX0_load_124 : decode cX0_load 124 = .ok (.getfield 13, 3) := by decide +kernel
theorem dX0_load_127 : decode cX0_load 127 = .ok (.aload_n 0, 1) := by decide +kernel
theorem dX0_load_128 : decode cX0_load 128 = .ok (.getfield 62, 3) := by decide +kernel
theorem dX0_load_131 : decode cX0_load 131 = .ok (.iaload, 1) := by decide +kernel
theorem dX0_load_132 : decode cX0_load 132 = .ok (.goto 4, 3) := by decide +kernel
theorem dX0_load_135 : decode cX0_load 135 = .ok (.iconst 0, 1) := by decide +kernel
theorem dX0_load_136 : decode cX0_load 136 = .ok (.putfield 65, 3) := by decide +kernel
theorem dX0_load_139 : decode cX0_load 139 = .ok (.aload_n 0, 1) := by decide +kernel
theorem dX0_load_140 : decode cX0_load 140 = .ok (.iload 5, 2) := by decide +kernel
theorem dX0_load_142 : decode cX0_load 142 = .ok (.invokevirtual 68, 3) := by decide +kernel
theorem dX0_load_145 : decode cX0_load 145 = .ok (.aload_n 0, 1) := by decide +kernel
theorem dX0_load_146 : decode cX0_load 146 = .ok (.invokevirtual 72, 3) := by decide +kernel
theorem dX0_load_149 : decode cX0_load 149 = .ok (.iconst 0, 1) := by decide +kernel
theorem dX0_load_150 : decode cX0_load 150 = .ok (.istore 6, 2) := by decide +kernel
theorem dX0_load_152 : decode cX0_load 152 = .ok (.iload 6, 2) := by decide +kernel
theorem dX0_load_154 : decode cX0_load 154 = .ok (.aload_n 0, 1) := by decide +kernel
theorem dX0_load_155 : decode cX0_load 155 = .ok (.getfield 53, 3) := by decide +kernel
theorem dX0_load_158 : decode cX0_load 158 = .ok (.if_icmp .ge 40, 3) := by decide +kernel
theorem dX0_load_161 : decode cX0_load 161 = .ok (.aload_n 0, 1) := by decide +kernel
theorem dX0_load_162 : decode cX0_load 162 = .ok (.getfield 26, 3) := by decide +kernel
theorem dX0_load_165 : decode cX0_load 165 = .ok (.iload 6, 2) := by decide +kernel
theorem dX0_load_167 : decode cX0_load 167 = .ok (.aload_n 0, 1) := by decide +kernel
theorem dX0_load_168 : decode cX0_load 168 = .ok (.getfield 20, 3) := by decide +kernel
theorem dX0_load_171 : decode cX0_load 171 = .ok (.iload 6, 2) := by decide +kernel
theorem dX0_load_173 : decode cX0_load 173 = .ok (.iaload, 1) := by decide +kernel
theorem dX0_load_174 : decode cX0_load 174 = .ok (.aload_n 0, 1) := by decide +kernel
theorem dX0_load_175 : decode cX0_load 175 = .ok (.getfield 23, 3) := by decide +kernel
theorem dX0_load_178 : decode cX0_load 178 = .ok (.iload 6, 2) := by decide +kernel
theorem dX0_load_180 : decode cX0_load 180 = .ok (.iaload, 1) := by decide +kernel
theorem dX0_load_181 : decode cX0_load 181 = .ok (.aload_n 0, 1) := by decide +kernel
theorem dX0_load_182 : decode cX0_load 182 = .ok (.getfield 17, 3) := by decide +kernel
theorem dX0_load_185 : decode cX0_load 185 = .ok (.iload 6, 2) := by decide +kernel
theorem dX0_load_187 : decode cX0_load 187 = .ok (.iaload, 1) := by decide +kernel
theorem dX0_load_188 : decode cX0_load 188 = .ok (.invokestatic 75, 3) := by decide +kernel
theorem dX0_load_191 : decode cX0_load 191 = .ok (.iastore, 1) := by decide +kernel
theorem dX0_load_192 : decode cX0_load 192 = .ok (.iinc 6 1, 3) := by decide +kernel
theorem dX0_load_195 : decode cX0_load 195 = .ok (.goto (-43), 3) := by decide +kernel
theorem dX0_load_198 : decode cX0_load 198 = .ok (.return_, 1) := by decide +kernel
theorem dX0_decideWays_0 : decode cX0_decideWays 0 = .ok (.aload_n 0, 1) := by decide +kernel
theorem dX0_decideWays_1 : decode cX0_decideWays 1 = .ok (.iload_n 1, 1) := by decide +kernel
theorem dX0_decideWays_2 : decode cX0_decideWays 2 = .ok (.invokevirtual 79, 3) := by decide +kernel
theorem dX0_decideWays_5 : decode cX0_decideWays 5 = .ok (.istore_n 2, 1) := by decide +kernel
theorem dX0_decideWays_6 : decode cX0_decideWays 6 = .ok (.aload_n 0, 1) := by decide +kernel
theorem dX0_decideWays_7 : decode cX0_decideWays 7 = .ok (.iload_n 2, 1) := by decide +kernel
theorem dX0_decideWays_8 : decode cX0_decideWays 8 = .ok (.ldc 82, 2) := by decide +kernel
theorem dX0_decideWays_10 : decode cX0_decideWays 10 = .ok (.if_icmp .eq 7, 3) := by decide +kernel
theorem dX0_decideWays_13 : decode cX0_decideWays 13 = .ok (.iconst 1, 1) := by decide +kernel
theorem dX0_decideWays_14 : decode cX0_decideWays 14 = .ok (.goto 4, 3) := by decide +kernel
theorem dX0_decideWays_17 : decode cX0_decideWays 17 = .ok (.iconst 0, 1) := by decide +kernel
theorem dX0_decideWays_18 : decode cX0_decideWays 18 = .ok (.putfield 83, 3) := by decide +kernel
theorem dX0_decideWays_21 : decode cX0_decideWays 21 = .ok (.aload_n 0, 1) := by decide +kernel
theorem dX0_decideWays_22 : decode cX0_decideWays 22 = .ok (.getfield 83, 3) := by decide +kernel
theorem dX0_decideWays_25 : decode cX0_decideWays 25 = .ok (.ifCond .eq 7, 3) := by decide +kernel
theorem dX0_decideWays_28 : decode cX0_decideWays 28 = .ok (.iconst 0, 1) := by decide +kernel
theorem dX0_decideWays_29 : decode cX0_decideWays 29 = .ok (.goto 7, 3) := by decide +kernel
theorem dX0_decideWays_32 : decode cX0_decideWays 32 = .ok (.aload_n 0, 1) := by decide +kernel
theorem dX0_decideWays_33 : decode cX0_decideWays 33 = .ok (.invokevirtual 87, 3) := by decide +kernel
theorem dX0_decideWays_36 : decode cX0_decideWays 36 = .ok (.istore_n 3, 1) := by decide +kernel
theorem dX0_decideWays_37 : decode cX0_decideWays 37 = .ok (.aload_n 0, 1) := by decide +kernel
theorem dX0_decideWays_38 : decode cX0_decideWays 38 = .ok (.iconst 0, 1) := by decide +kernel
theorem dX0_decideWays_39 : decode cX0_decideWays 39 = .ok (.putfield 91, 3) := by decide +kernel
theorem dX0_decideWays_42 : decode cX0_decideWays 42 = .ok (.iconst 0, 1) := by decide +kernel
theorem dX0_decideWays_43 : decode cX0_decideWays 43 = .ok (.istore 4, 2) := by decide +kernel
theorem dX0_decideWays_45 : decode cX0_decideWays 45 = .ok (.iload 4, 2) := by decide +kernel
theorem dX0_decideWays_47 : decode cX0_decideWays 47 = .ok (.aload_n 0, 1) := by decide +kernel
theorem dX0_decideWays_48 : decode cX0_decideWays 48 = .ok (.getfield 53, 3) := by decide +kernel
theorem dX0_decideWays_51 : decode cX0_decideWays 51 = .ok (.if_icmp .ge 63, 3) := by decide +kernel
theorem dX0_decideWays_54 : decode cX0_decideWays 54 = .ok (.aload_n 0, 1) := by decide +kernel
theorem dX0_decideWays_55 : decode cX0_decideWays 55 = .ok (.getfield 17, 3) := by decide +kernel
theorem dX0_decideWays_58 : decode cX0_decideWays 58 = .ok (.iload 4, 2) := by decide +kernel
theorem dX0_decideWays_60 : decode cX0_decideWays 60 = .ok (.iaload, 1) := by decide +kernel
theorem dX0_decideWays_61 : decode cX0_decideWays 61 = .ok (.iload_n 2, 1) := by decide +kernel
theorem dX0_decideWays_62 : decode cX0_decideWays 62 = .ok (.if_icmp .le 7, 3) := by decide +kernel
theorem dX0_decideWays_65 : decode cX0_decideWays 65 = .ok (.iconst (-1), 1) := by decide +kernel
theorem dX0_decideWays_66 : decode cX0_decideWays 66 = .ok (.goto 4, 3) := by decide +kernel
theorem dX0_decideWays_69 : decode cX0_decideWays 69 = .ok (.iconst 1, 1) := by decide +kernel
theorem dX0_decideWays_70 : decode cX0_decideWays 70 = .ok (.istore 5, 2) := by decide +kernel
theorem dX0_decideWays_72 : decode cX0_decideWays 72 = .ok (.aload_n 0, 1) := by decide +kernel
theorem dX0_decideWays_73 : decode cX0_decideWays 73 = .ok (.getfield 23, 3) := by decide +kernel
theorem dX0_decideWays_76 : decode cX0_decideWays 76 = .ok (.iload 4, 2) := by decide +kernel
theorem dX0_decideWays_78 : decode cX0_decideWays 78 = .ok (.aload_n 0, 1) := by decide +kernel
theorem dX0_decideWays_79 : decode cX0_decideWays 79 = .ok (.getfield 83, 3) := by decide +kernel
theorem dX0_decideWays_82 : decode cX0_decideWays 82 = .ok (.ifCond .eq 8, 3) := by decide +kernel
theorem dX0_decideWays_85 : decode cX0_decideWays 85 = .ok (.iload 5, 2) := by decide +kernel
theorem dX0_decideWays_87 : decode cX0_decideWays 87 = .ok (.goto 4, 3) := by decide +kernel
theorem dX0_decideWays_90 : decode cX0_decideWays 90 = .ok (.iload_n 3, 1) := by decide +kernel
theorem dX0_decideWays_91 : decode cX0_decideWays 91 = .ok (.iastore, 1) := by decide +kernel
theorem dX0_decideWays_92 : decode cX0_decideWays 92 = .ok (.aload_n 0, 1) := by decide +kernel
theorem dX0_decideWays_93 : decode cX0_decideWays 93 = .ok (.dup, 1) := by decide +kernel
theorem dX0_decideWays_94 : decode cX0_decideWays 94 = .ok (.getfield 91, 3) := by decide +kernel
theorem dX0_decideWays_97 : decode cX0_decideWays 97 = .ok (.aload_n 0, 1) := by decide +kernel
theorem dX0_decideWays_98 : decode cX0_decideWays 98 = .ok (.getfield 23, 3) := by decide +kernel
theorem dX0_decideWays_101 : decode cX0_decideWays 101 = .ok (.iload 4, 2) := by decide +kernel
theorem dX0_decideWays_103 : decode cX0_decideWays 103 = .ok (.iaload, 1) := by decide +kernel
theorem dX0_decideWays_104 : decode cX0_decideWays 104 = .ok (.iadd, 1) := by decide +kernel
theorem dX0_decideWays_105 : decode cX0_decideWays 105 = .ok (.putfield 91, 3) := by decide +kernel
theorem dX0_decideWays_108 : decode cX0_decideWays 108 = .ok (.iinc 4 1, 3) := by decide +kernel
theorem dX0_decideWays_111 : decode cX0_decideWays 111 = .ok (.goto (-66), 3) := by decide +kernel
theorem dX0_decideWays_114 : decode cX0_decideWays 114 = .ok (.return_, 1) := by decide +kernel
theorem dX0_lowerSideOfKnee_0 : decode cX0_lowerSideOfKnee 0 = .ok (.aload_n 0, 1) := by decide +kernel
theorem dX0_lowerSideOfKnee_1 : decode cX0_lowerSideOfKnee 1 = .ok (.invokevirtual 94, 3) := by decide +kernel
theorem dX0_lowerSideOfKnee_4 : decode cX0_lowerSideOfKnee 4 = .ok (.ldc 82, 2) := by decide +kernel
theorem dX0_lowerSideOfKnee_6 : decode cX0_lowerSideOfKnee 6 = .ok (.istore_n 2, 1) := by decide +kernel
theorem dX0_lowerSideOfKnee_7 : decode cX0_lowerSideOfKnee 7 = .ok (.iload_n 1, 1) := by decide +kernel
theorem dX0_lowerSideOfKnee_8 : decode cX0_lowerSideOfKnee 8 = .ok (.istore_n 3, 1) := by decide +kernel
theorem dX0_lowerSideOfKnee_9 : decode cX0_lowerSideOfKnee 9 = .ok (.ldc 97, 2) := by decide +kernel
theorem dX0_lowerSideOfKnee_11 : decode cX0_lowerSideOfKnee 11 = .ok (.istore 4, 2) := by decide +kernel
theorem dX0_lowerSideOfKnee_13 : decode cX0_lowerSideOfKnee 13 = .ok (.ldc 82, 2) := by decide +kernel
theorem dX0_lowerSideOfKnee_15 : decode cX0_lowerSideOfKnee 15 = .ok (.istore 5, 2) := by decide +kernel
theorem dX0_lowerSideOfKnee_17 : decode cX0_lowerSideOfKnee 17 = .ok (.bipush (-12), 2) := by decide +kernel
theorem dX0_lowerSideOfKnee_19 : decode cX0_lowerSideOfKnee 19 = .ok (.istore 6, 2) := by decide +kernel
theorem dX0_lowerSideOfKnee_21 : decode cX0_lowerSideOfKnee 21 = .ok (.iload 6, 2) := by decide +kernel
theorem dX0_lowerSideOfKnee_23 : decode cX0_lowerSideOfKnee 23 = .ok (.bipush 12, 2) := by decide +kernel
theorem dX0_lowerSideOfKnee_25 : decode cX0_lowerSideOfKnee 25 = .ok (.if_icmp .gt 83, 3) := by decide +kernel
theorem dX0_lowerSideOfKnee_28 : decode cX0_lowerSideOfKnee 28 = .ok (.aload_n 0, 1) := by decide +kernel
theorem dX0_lowerSideOfKnee_29 : decode cX0_lowerSideOfKnee 29 = .ok (.getfield 33, 3) := by decide +kernel
theorem dX0_lowerSideOfKnee_32 : decode cX0_lowerSideOfKnee 32 = .ok (.iload 6, 2) := by decide +kernel
theorem dX0_lowerSideOfKnee_34 : decode cX0_lowerSideOfKnee 34 = .ok (.bipush 12, 2) := by decide +kernel
theorem dX0_lowerSideOfKnee_36 : decode cX0_lowerSideOfKnee 36 = .ok (.iadd, 1) := by decide +kernel
theorem dX0_lowerSideOfKnee_37 : decode cX0_lowerSideOfKnee 37 = .ok (.baload, 1) := by decide +kernel
theorem dX0_lowerSideOfKnee_38 : decode cX0_lowerSideOfKnee 38 = .ok (.ifCond .eq 64, 3) := by decide +kernel
theorem dX0_lowerSideOfKnee_41 : decode cX0_lowerSideOfKnee 41 = .ok (.iload 5, 2) := by decide +kernel
theorem dX0_lowerSideOfKnee_43 : decode cX0_lowerSideOfKnee 43 = .ok (.ldc 82, 2) := by decide +kernel
theorem dX0_lowerSideOfKnee_45 : decode cX0_lowerSideOfKnee 45 = .ok (.if_icmp .ne 7, 3) := by decide +kernel
theorem dX0_lowerSideOfKnee_48 : decode cX0_lowerSideOfKnee 48 = .ok (.iconst 0, 1) := by decide +kernel
theorem dX0_lowerSideOfKnee_49 : decode cX0_lowerSideOfKnee 49 = .ok (.goto 8, 3) := by decide +kernel
theorem dX0_lowerSideOfKnee_52 : decode cX0_lowerSideOfKnee 52 = .ok (.iload 6, 2) := by decide +kernel
theorem dX0_lowerSideOfKnee_54 : decode cX0_lowerSideOfKnee 54 = .ok (.iload 5, 2) := by decide +kernel
theorem dX0_lowerSideOfKnee_56 : decode cX0_lowerSideOfKnee 56 = .ok (.isub, 1) := by decide +kernel
theorem dX0_lowerSideOfKnee_57 : decode cX0_lowerSideOfKnee 57 = .ok (.istore 7, 2) := by decide +kernel
theorem dX0_lowerSideOfKnee_59 : decode cX0_lowerSideOfKnee 59 = .ok (.iload 6, 2) := by decide +kernel
theorem dX0_lowerSideOfKnee_61 : decode cX0_lowerSideOfKnee 61 = .ok (.iload 5, 2) := by decide +kernel
theorem dX0_lowerSideOfKnee_63 : decode cX0_lowerSideOfKnee 63 = .ok (.iadd, 1) := by decide +kernel
theorem dX0_lowerSideOfKnee_64 : decode cX0_lowerSideOfKnee 64 = .ok (.invokestatic 98, 3) := by decide +kernel
theorem dX0_lowerSideOfKnee_67 : decode cX0_lowerSideOfKnee 67 = .ok (.istore 8, 2) := by decide +kernel
theorem dX0_lowerSideOfKnee_69 : decode cX0_lowerSideOfKnee 69 = .ok (.iload 7, 2) := by decide +kernel
theorem dX0_lowerSideOfKnee_71 : decode cX0_lowerSideOfKnee 71 = .ok (.iload_n 3, 1) := by decide +kernel
theorem dX0_lowerSideOfKnee_72 : decode cX0_lowerSideOfKnee 72 = .ok (.if_icmp .gt 16, 3) := by decide +kernel
theorem dX0_lowerSideOfKnee_75 : decode cX0_lowerSideOfKnee 75 = .ok (.iload 7, 2) := by decide +kernel
theorem dX0_lowerSideOfKnee_77 : decode cX0_lowerSideOfKnee 77 = .ok (.iload_n 3, 1) := by decide +kernel
theorem dX0_lowerSideOfKnee_78 : decode cX0_lowerSideOfKnee 78 = .ok (.if_icmp .ne 20, 3) := by decide +kernel
theorem dX0_lowerSideOfKnee_81 : decode cX0_lowerSideOfKnee 81 = .ok (.iload 8, 2) := by decide +kernel
theorem dX0_lowerSideOfKnee_83 : decode cX0_lowerSideOfKnee 83 = .ok (.iload 4, 2) := by decide +kernel
theorem dX0_lowerSideOfKnee_85 : decode cX0_lowerSideOfKnee 85 = .ok (.if_icmp .ge 13, 3) := by decide +kernel
theorem dX0_lowerSideOfKnee_88 : decode cX0_lowerSideOfKnee 88 = .ok (.iload 5, 2) := by decide +kernel
theorem dX0_lowerSideOfKnee_90 : decode cX0_lowerSideOfKnee 90 = .ok (.istore_n 2, 1) := by decide +kernel
theorem dX0_lowerSideOfKnee_91 : decode cX0_lowerSideOfKnee 91 = .ok (.iload 7, 2) := by decide +kernel
theorem dX0_lowerSideOfKnee_93 : decode cX0_lowerSideOfKnee 93 = .ok (.istore_n 3, 1) := by decide +kernel
theorem dX0_lowerSideOfKnee_94 : decode cX0_lowerSideOfKnee 94 = .ok (.iload 8, 2) := by decide +kernel
theorem dX0_lowerSideOfKnee_96 : decode cX0_lowerSideOfKnee 96 = .ok (.istore 4, 2) := by decide +kernel
theorem dX0_lowerSideOfKnee_98 : decode cX0_lowerSideOfKnee 98 = .ok (.iload 6, 2) := by decide +kernel
theorem dX0_lowerSideOfKnee_100 : decode cX0_lowerSideOfKnee 100 = .ok (.istore 5, 2) := by decide +kernel
theorem dX0_lowerSideOfKnee_102 : decode cX0_lowerSideOfKnee 102 = .ok (.iinc 6 1, 3) := by decide +kernel
theorem dX0_lowerSideOfKnee_105 : decode cX0_lowerSideOfKnee 105 = .ok (.goto (-84), 3) := by decide +kernel
theorem dX0_lowerSideOfKnee_108 : decode cX0_lowerSideOfKnee 108 = .ok (.iload_n 2, 1) := by decide +kernel
theorem dX0_lowerSideOfKnee_109 : decode cX0_lowerSideOfKnee 109 = .ok (.ireturn, 1) := by decide +kernel
theorem dX0_markTaken_0 : decode cX0_markTaken 0 = .ok (.iconst 0, 1) := by decide +kernel
theorem dX0_markTaken_1 : decode cX0_markTaken 1 = .ok (.istore_n 1, 1) := by decide +kernel
theorem dX0_markTaken_2 : decode cX0_markTaken 2 = .ok (.iload_n 1, 1) := by decide +kernel
theorem dX0_markTaken_3 : decode cX0_markTaken 3 = .ok (.aload_n 0, 1) := by decide +kernel
theorem dX0_markTaken_4 : decode cX0_markTaken 4 = .ok (.getfield 33, 3) := by decide +kernel
theorem dX0_markTaken_7 : decode cX0_markTaken 7 = .ok (.arraylength, 1) := by decide +kernel
theorem dX0_markTaken_8 : decode cX0_markTaken 8 = .ok (.if_icmp .ge 16, 3) := by decide +kernel
theorem dX0_markTaken_11 : decode cX0_markTaken 11 = .ok (.aload_n 0, 1) := by decide +kernel
theorem dX0_markTaken_12 : decode cX0_markTaken 12 = .ok (.getfield 33, 3) := by decide +kernel
theorem dX0_markTaken_15 : decode cX0_markTaken 15 = .ok (.iload_n 1, 1) := by decide +kernel
theorem dX0_markTaken_16 : decode cX0_markTaken 16 = .ok (.iconst 0, 1) := by decide +kernel
theorem dX0_markTaken_17 : decode cX0_markTaken 17 = .ok (.bastore, 1) := by decide +kernel
theorem dX0_markTaken_18 : decode cX0_markTaken 18 = .ok (.iinc 1 1, 3) := by decide +kernel
theorem dX0_markTaken_21 : decode cX0_markTaken 21 = .ok (.goto (-19), 3) := by decide +kernel
theorem dX0_markTaken_24 : decode cX0_markTaken 24 = .ok (.iconst 0, 1) := by decide +kernel
theorem dX0_markTaken_25 : decode cX0_markTaken 25 = .ok (.istore_n 1, 1) := by decide +kernel
theorem dX0_markTaken_26 : decode cX0_markTaken 26 = .ok (.iload_n 1, 1) := by decide +kernel
theorem dX0_markTaken_27 : decode cX0_markTaken 27 = .ok (.aload_n 0, 1) := by decide +kernel
theorem dX0_markTaken_28 : decode cX0_markTaken 28 = .ok (.getfield 53, 3) := by decide +kernel
theorem dX0_markTaken_31 : decode cX0_markTaken 31 = .ok (.if_icmp .ge 39, 3) := by decide +kernel
theorem dX0_markTaken_34 : decode cX0_markTaken 34 = .ok (.aload_n 0, 1) := by decide +kernel
theorem dX0_markTaken_35 : decode cX0_markTaken 35 = .ok (.getfield 17, 3) := by decide +kernel
theorem dX0_markTaken_38 : decode cX0_markTaken 38 = .ok (.iload_n 1, 1) := by decide +kernel
theorem dX0_markTaken_39 : decode cX0_markTaken 39 = .ok (.iaload, 1) := by decide +kernel
theorem dX0_markTaken_40 : decode cX0_markTaken 40 = .ok (.bipush 12, 2) := by decide +kernel
theorem dX0_markTaken_42 : decode cX0_markTaken 42 = .ok (.iadd, 1) := by decide +kernel
theorem dX0_markTaken_43 : decode cX0_markTaken 43 = .ok (.istore_n 2, 1) := by decide +kernel
theorem dX0_markTaken_44 : decode cX0_markTaken 44 = .ok (.iload_n 2, 1) := by decide +kernel
theorem dX0_markTaken_45 : decode cX0_markTaken 45 = .ok (.ifCond .lt 19, 3) := by decide +kernel
theorem dX0_markTaken_48 : decode cX0_markTaken 48 = .ok (.iload_n 2, 1) := by decide +kernel
theorem dX0_markTaken_49 : decode cX0_markTaken 49 = .ok (.aload_n 0, 1) := by decide +kernel
theorem dX0_markTaken_50 : decode cX0_markTaken 50 = .ok (.getfield 33, 3) := by decide +kernel
theorem dX0_markTaken_53 : decode cX0_markTaken 53 = .ok (.arraylength, 1) := by decide +kernel
theorem dX0_markTaken_54 : decode cX0_markTaken 54 = .ok (.if_icmp .ge 10, 3) := by decide +kernel
theorem dX0_markTaken_57 : decode cX0_markTaken 57 = .ok (.aload_n 0, 1) := by decide +kernel
theorem dX0_markTaken_58 : decode cX0_markTaken 58 = .ok (.getfield 33, 3) := by decide +kernel
theorem dX0_markTaken_61 : decode cX0_markTaken 61 = .ok (.iload_n 2, 1) := by decide +kernel
theorem dX0_markTaken_62 : decode cX0_markTaken 62 = .ok (.iconst 1, 1) := by decide +kernel
theorem dX0_markTaken_63 : decode cX0_markTaken 63 = .ok (.bastore, 1) := by decide +kernel
theorem dX0_markTaken_64 : decode cX0_markTaken 64 = .ok (.iinc 1 1, 3) := by decide +kernel
theorem dX0_markTaken_67 : decode cX0_markTaken 67 = .ok (.goto (-41), 3) := by decide +kernel
theorem dX0_markTaken_70 : decode cX0_markTaken 70 = .ok (.return_, 1) := by decide +kernel
theorem dX0_commonWay_0 : decode cX0_commonWay 0 = .ok (.iconst 0, 1) := by decide +kernel
theorem dX0_commonWay_1 : decode cX0_commonWay 1 = .ok (.istore_n 1, 1) := by decide +kernel
theorem dX0_commonWay_2 : decode cX0_commonWay 2 = .ok (.iconst 0, 1) := by decide +kernel
theorem dX0_commonWay_3 : decode cX0_commonWay 3 = .ok (.istore_n 2, 1) := by decide +kernel
theorem dX0_commonWay_4 : decode cX0_commonWay 4 = .ok (.iconst 0, 1) := by decide +kernel
theorem dX0_commonWay_5 : decode cX0_commonWay 5 = .ok (.istore_n 3, 1) := by decide +kernel
theorem dX0_commonWay_6 : decode cX0_commonWay 6 = .ok (.iconst 0, 1) := by decide +kernel
theorem dX0_commonWay_7 : decode cX0_commonWay 7 = .ok (.istore 4, 2) := by decide +kernel
theorem dX0_commonWay_9 : decode cX0_commonWay 9 = .ok (.iload 4, 2) := by decide +kernel
theorem dX0_commonWay_11 : decode cX0_commonWay 11 = .ok (.aload_n 0, 1) := by decide +kernel
theorem dX0_commonWay_12 : decode cX0_commonWay 12 = .ok (.getfield 53, 3) := by decide +kernel
theorem dX0_commonWay_15 : decode cX0_commonWay 15 = .ok (.if_icmp .ge 44, 3) := by decide +kernel
theorem dX0_commonWay_18 : decode cX0_commonWay 18 = .ok (.iload_n 1, 1) := by decide +kernel
theorem dX0_commonWay_19 : decode cX0_commonWay 19 = .ok (.aload_n 0, 1) := by decide +kernel
theorem dX0_commonWay_20 : decode cX0_commonWay 20 = .ok (.getfield 17, 3) := by decide +kernel
theorem dX0_commonWay_23 : decode cX0_commonWay 23 = .ok (.iload 4, 2) := by decide +kernel
theorem dX0_commonWay_25 : decode cX0_commonWay 25 = .ok (.iaload, 1) := by decide +kernel
theorem dX0_commonWay_26 : decode cX0_commonWay 26 = .ok (.invokestatic 50, 3) := by decide +kernel
theorem dX0_commonWay_29 : decode cX0_commonWay 29 = .ok (.istore_n 1, 1) := by decide +kernel
theorem dX0_commonWay_30 : decode cX0_commonWay 30 = .ok (.iload_n 2, 1) := by decide +kernel
theorem dX0_commonWay_31 : decode cX0_commonWay 31 = .ok (.aload_n 0, 1) := by decide +kernel
theorem dX0_commonWay_32 : decode cX0_commonWay 32 = .ok (.getfield 17, 3) := by decide +kernel
theorem dX0_commonWay_35 : decode cX0_commonWay 35 = .ok (.iload 4, 2) := by decide +kernel
theorem dX0_commonWay_37 : decode cX0_commonWay 37 = .ok (.iaload, 1) := by decide +kernel
theorem dX0_commonWay_38 : decode cX0_commonWay 38 = .ok (.ineg, 1) := by decide +kernel
theorem dX0_commonWay_39 : decode cX0_commonWay 39 = .ok (.invokestatic 50, 3) := by decide +kernel
theorem dX0_commonWay_42 : decode cX0_commonWay 42 = .ok (.istore_n 2, 1) := by decide +kernel
theorem dX0_commonWay_43 : decode cX0_commonWay 43 = .ok (.iload_n 3, 1) := by decide +kernel
theorem dX0_commonWay_44 : decode cX0_commonWay 44 = .ok (.aload_n 0, 1) := by decide +kernel
theorem dX0_commonWay_45 : decode cX0_commonWay 45 = .ok (.getfield 17, 3) := by decide +kernel
theorem dX0_commonWay_48 : decode cX0_commonWay 48 = .ok (.iload 4, 2) := by decide +kernel
theorem dX0_commonWay_50 : decode cX0_commonWay 50 = .ok (.iaload, 1) := by decide +kernel
theorem dX0_commonWay_51 : decode cX0_commonWay 51 = .ok (.iadd, 1) := by decide +kernel
theorem dX0_commonWay_52 : decode cX0_commonWay 52 = .ok (.istore_n 3, 1) := by decide +kernel
theorem dX0_commonWay_53 : decode cX0_commonWay 53 = .ok (.iinc 4 1, 3) := by decide +kernel
theorem dX0_commonWay_56 : decode cX0_commonWay 56 = .ok (.goto (-47), 3) := by decide +kernel
theorem dX0_commonWay_59 : decode cX0_commonWay 59 = .ok (.iload_n 1, 1) := by decide +kernel
theorem dX0_commonWay_60 : decode cX0_commonWay 60 = .ok (.iload_n 2, 1) := by decide +kernel
theorem dX0_commonWay_61 : decode cX0_commonWay 61 = .ok (.if_icmp .eq 9, 3) := by decide +kernel
theorem dX0_commonWay_64 : decode cX0_commonWay 64 = .ok (.iload_n 1, 1) := by decide +kernel
theorem dX0_commonWay_65 : decode cX0_commonWay 65 = .ok (.iload_n 2, 1) := by decide +kernel
theorem dX0_commonWay_66 : decode cX0_commonWay 66 = .ok (.isub, 1) := by decide +kernel
theorem dX0_commonWay_67 : decode cX0_commonWay 67 = .ok (.goto 17, 3) := by decide +kernel
theorem dX0_commonWay_70 : decode cX0_commonWay 70 = .ok (.iload_n 3, 1) := by decide +kernel
theorem dX0_commonWay_71 : decode cX0_commonWay 71 = .ok (.ifCond .eq 7, 3) := by decide +kernel
theorem dX0_commonWay_74 : decode cX0_commonWay 74 = .ok (.iload_n 3, 1) := by decide +kernel
theorem dX0_commonWay_75 : decode cX0_commonWay 75 = .ok (.goto 9, 3) := by decide +kernel
theorem dX0_commonWay_78 : decode cX0_commonWay 78 = .ok (.aload_n 0, 1) := by decide +kernel
theorem dX0_commonWay_79 : decode cX0_commonWay 79 = .ok (.getfield 17, 3) := by decide +kernel
theorem dX0_commonWay_82 : decode cX0_commonWay 82 = .ok (.iconst 0, 1) := by decide +kernel
theorem dX0_commonWay_83 : decode cX0_commonWay 83 = .ok (.iaload, 1) := by decide +kernel
theorem dX0_commonWay_84 : decode cX0_commonWay 84 = .ok (.istore 4, 2) := by decide +kernel
theorem dX0_commonWay_86 : decode cX0_commonWay 86 = .ok (.iload 4, 2) := by decide +kernel
theorem dX0_commonWay_88 : decode cX0_commonWay 88 = .ok (.ifCond .lt 7, 3) := by decide +kernel
theorem dX0_commonWay_91 : decode cX0_commonWay 91 = .ok (.iconst (-1), 1) := by decide +kernel
theorem dX0_commonWay_92 : decode cX0_commonWay 92 = .ok (.goto 4, 3) := by decide +kernel
theorem dX0_commonWay_95 : decode cX0_commonWay 95 = .ok (.iconst 1, 1) := by decide +kernel
theorem dX0_commonWay_96 : decode cX0_commonWay 96 = .ok (.ireturn, 1) := by decide +kernel
theorem dX0_decideWant_0 : decode cX0_decideWant 0 = .ok (.aload_n 0, 1) := by decide +kernel
theorem dX0_decideWant_1 : decode cX0_decideWant 1 = .ok (.getfield 17, 3) := by decide +kernel
theorem dX0_decideWant_4 : decode cX0_decideWant 4 = .ok (.iconst 0, 1) := by decide +kernel
theorem dX0_decideWant_5 : decode cX0_decideWant 5 = .ok (.iaload, 1) := by decide +kernel
theorem dX0_decideWant_6 : decode cX0_decideWant 6 = .ok (.istore_n 1, 1) := by decide +kernel
theorem dX0_decideWant_7 : decode cX0_decideWant 7 = .ok (.aload_n 0, 1) := by decide +kernel
theorem dX0_decideWant_8 : decode cX0_decideWant 8 = .ok (.getfield 17, 3) := by decide +kernel
theorem dX0_decideWant_11 : decode cX0_decideWant 11 = .ok (.aload_n 0, 1) := by decide +kernel
theorem dX0_decideWant_12 : decode cX0_decideWant 12 = .ok (.getfield 62, 3) := by decide +kernel
theorem dX0_decideWant_15 : decode cX0_decideWant 15 = .ok (.iaload, 1) := by decide +kernel
theorem dX0_decideWant_16 : decode cX0_decideWant 16 = .ok (.istore_n 2, 1) := by decide +kernel
theorem dX0_decideWant_17 : decode cX0_decideWant 17 = .ok (.aload_n 0, 1) := by decide +kernel
theorem dX0_decideWant_18 : decode cX0_decideWant 18 = .ok (.bipush (-5), 2) := by decide +kernel
theorem dX0_decideWant_20 : decode cX0_decideWant 20 = .ok (.iconst 5, 1) := by decide +kernel
theorem dX0_decideWant_21 : decode cX0_decideWant 21 = .ok (.iload_n 2, 1) := by decide +kernel
theorem dX0_decideWant_22 : decode cX0_decideWant 22 = .ok (.iload_n 1, 1) := by decide +kernel
theorem dX0_decideWant_23 : decode cX0_decideWant 23 = .ok (.isub, 1) := by decide +kernel
theorem dX0_decideWant_24 : decode cX0_decideWant 24 = .ok (.invokestatic 44, 3) := by decide +kernel
theorem dX0_decideWant_27 : decode cX0_decideWant 27 = .ok (.invokestatic 50, 3) := by decide +kernel
theorem dX0_decideWant_30 : decode cX0_decideWant 30 = .ok (.putfield 101, 3) := by decide +kernel
theorem dX0_decideWant_33 : decode cX0_decideWant 33 = .ok (.iconst 1, 1) := by decide +kernel
theorem dX0_decideWant_34 : decode cX0_decideWant 34 = .ok (.istore_n 3, 1) := by decide +kernel
theorem dX0_decideWant_35 : decode cX0_decideWant 35 = .ok (.iload_n 3, 1) := by decide +kernel
theorem dX0_decideWant_36 : decode cX0_decideWant 36 = .ok (.aload_n 0, 1) := by decide +kernel
theorem dX0_decideWant_37 : decode cX0_decideWant 37 = .ok (.getfield 62, 3) := by decide +kernel
theorem dX0_decideWant_40 : decode cX0_decideWant 40 = .ok (.if_icmp .ge 85, 3) := by decide +kernel
theorem dX0_decideWant_43 : decode cX0_decideWant 43 = .ok (.aload_n 0, 1) := by decide +kernel
theorem dX0_decideWant_44 : decode cX0_decideWant 44 = .ok (.getfield 83, 3) := by decide +kernel
theorem dX0_decideWant_47 : decode cX0_decideWant 47 = .ok (.ifCond .ne 78, 3) := by decide +kernel
theorem dX0_decideWant_50 : decode cX0_decideWant 50 = .ok (.aload_n 0, 1) := by decide +kernel
theorem dX0_decideWant_51 : decode cX0_decideWant 51 = .ok (.getfield 23, 3) := by decide +kernel
theorem dX0_decideWant_54 : decode cX0_decideWant 54 = .ok (.iconst 0, 1) := by decide +kernel
theorem dX0_decideWant_55 : decode cX0_decideWant 55 = .ok (.iaload, 1) := by decide +kernel
theorem dX0_decideWant_56 : decode cX0_decideWant 56 = .ok (.ifCond .le 25, 3) := by decide +kernel
theorem dX0_decideWant_59 : decode cX0_decideWant 59 = .ok (.aload_n 0, 1) := by decide +kernel
theorem dX0_decideWant_60 : decode cX0_decideWant 60 = .ok (.getfield 17, 3) := by decide +kernel
theorem dX0_decideWant_63 : decode cX0_decideWant 63 = .ok (.iload_n 3, 1) := by decide +kernel
theorem dX0_decideWant_64 : decode cX0_decideWant 64 = .ok (.iaload, 1) := by decide +kernel
theorem dX0_decideWant_65 : decode cX0_decideWant 65 = .ok (.iload_n 1, 1) := by decide +kernel
theorem dX0_decideWant_66 : decode cX0_decideWant 66 = .ok (.iload_n 2, 1) := by decide +kernel
theorem dX0_decideWant_67 : decode cX0_decideWant 67 = .ok (.invokestatic 50, 3) := by decide +kernel
theorem dX0_decideWant_70 : decode cX0_decideWant 70 = .ok (.if_icmp .le 7, 3) := by decide +kernel
theorem dX0_decideWant_73 : decode cX0_decideWant 73 = .ok (.iconst 1, 1) := by decide +kernel
theorem dX0_decideWant_74 : decode cX0_decideWant 74 = .ok (.goto 26, 3) := by decide +kernel
theorem dX0_decideWant_77 : decode cX0_decideWant 77 = .ok (.iconst 0, 1) := by decide +kernel
theorem dX0_decideWant_78 : decode cX0_decideWant 78 = .ok (.goto 22, 3) := by decide +kernel
theorem dX0_decideWant_81 : decode cX0_decideWant 81 = .ok (.aload_n 0, 1) := by decide +kernel
theorem dX0_decideWant_82 : decode cX0_decideWant 82 = .ok (.getfield 17, 3) := by decide +kernel
theorem dX0_decideWant_85 : decode cX0_decideWant 85 = .ok (.iload_n 3, 1) := by decide +kernel
theorem dX0_decideWant_86 : decode cX0_decideWant 86 = .ok (.iaload, 1) := by decide +kernel
theorem dX0_decideWant_87 : decode cX0_decideWant 87 = .ok (.iload_n 1, 1) := by decide +kernel
theorem dX0_decideWant_88 : decode cX0_decideWant 88 = .ok (.iload_n 2, 1) := by decide +kernel
theorem dX0_decideWant_89 : decode cX0_decideWant 89 = .ok (.invokestatic 44, 3) := by decide +kernel
theorem dX0_decideWant_92 : decode cX0_decideWant 92 = .ok (.if_icmp .ge 7, 3) := by decide +kernel
theorem dX0_decideWant_95 : decode cX0_decideWant 95 = .ok (.iconst 1, 1) := by decide +kernel
theorem dX0_decideWant_96 : decode cX0_decideWant 96 = .ok (.goto 4, 3) := by decide +kernel
theorem dX0_decideWant_99 : decode cX0_decideWant 99 = .ok (.iconst 0, 1) := by decide +kernel
theorem dX0_decideWant_100 : decode cX0_decideWant 100 = .ok (.istore 4, 2) := by decide +kernel
theorem dX0_decideWant_102 : decode cX0_decideWant 102 = .ok (.aload_n 0, 1) := by decide +kernel
theorem dX0_decideWant_103 : decode cX0_decideWant 103 = .ok (.iload 4, 2) := by decide +kernel
theorem dX0_decideWant_105 : decode cX0_decideWant 105 = .ok (.ifCond .eq 7, 3) := by decide +kernel
theorem dX0_decideWant_108 : decode cX0_decideWant 108 = .ok (.iconst 0, 1) := by decide +kernel
theorem dX0_decideWant_109 : decode cX0_decideWant 109 = .ok (.goto 7, 3) := by decide +kernel
theorem dX0_decideWant_112 : decode cX0_decideWant 112 = .ok (.aload_n 0, 1) := by decide +kernel
theorem dX0_decideWant_113 : decode cX0_decideWant 113 = .ok (.getfield 101, 3) := by decide +kernel
theorem dX0_decideWant_116 : decode cX0_decideWant 116 = .ok (.putfield 101, 3) := by decide +kernel
theorem dX0_decideWant_119 : decode cX0_decideWant 119 = .ok (.iinc 3 1, 3) := by decide +kernel
theorem dX0_decideWant_122 : decode cX0_decideWant 122 = .ok (.goto (-87), 3) := by decide +kernel
theorem dX0_decideWant_125 : decode cX0_decideWant 125 = .ok (.return_, 1) := by decide +kernel
theorem dX0_idealLength_0 : decode cX0_idealLength 0 = .ok (.iload_n 0, 1) := by decide +kernel
theorem dX0_idealLength_1 : decode cX0_idealLength 1 = .ok (.iconst 3, 1) := by decide +kernel
theorem dX0_idealLength_2 : decode cX0_idealLength 2 = .ok (.if_icmp .ne 8, 3) := by decide +kernel
theorem dX0_idealLength_5 : decode cX0_idealLength 5 = .ok (.bipush 17, 2) := by decide +kernel
theorem dX0_idealLength_7 : decode cX0_idealLength 7 = .ok (.goto 15, 3) := by decide +kernel
theorem dX0_idealLength_10 : decode cX0_idealLength 10 = .ok (.iload_n 0, 1) := by decide +kernel
theorem dX0_idealLength_11 : decode cX0_idealLength 11 = .ok (.iconst 2, 1) := by decide +kernel
theorem dX0_idealLength_12 : decode cX0_idealLength 12 = .ok (.if_icmp .ne 8, 3) := by decide +kernel
theorem dX0_idealLength_15 : decode cX0_idealLength 15 = .ok (.bipush 15, 2) := by decide +kernel
theorem dX0_idealLength_17 : decode cX0_idealLength 17 = .ok (.goto 5, 3) := by decide +kernel
theorem dX0_idealLength_20 : decode cX0_idealLength 20 = .ok (.bipush 14, 2) := by decide +kernel
theorem dX0_idealLength_22 : decode cX0_idealLength 22 = .ok (.istore_n 3, 1) := by decide +kernel
theorem dX0_idealLength_23 : decode cX0_idealLength 23 = .ok (.iconst 2, 1) := by decide +kernel
theorem dX0_idealLength_24 : decode cX0_idealLength 24 = .ok (.iload_n 2, 1) := by decide +kernel
theorem dX0_idealLength_25 : decode cX0_idealLength 25 = .ok (.imul, 1) := by decide +kernel
theorem dX0_idealLength_26 : decode cX0_idealLength 26 = .ok (.invokestatic 98, 3) := by decide +kernel
theorem dX0_idealLength_29 : decode cX0_idealLength 29 = .ok (.istore 4, 2) := by decide +kernel
theorem dX0_idealLength_31 : decode cX0_idealLength 31 = .ok (.iload 4, 2) := by decide +kernel
theorem dX0_idealLength_33 : decode cX0_idealLength 33 = .ok (.iload_n 3, 1) := by decide +kernel
theorem dX0_idealLength_34 : decode cX0_idealLength 34 = .ok (.if_icmp .le 14, 3) := by decide +kernel
theorem dX0_idealLength_37 : decode cX0_idealLength 37 = .ok (.iload_n 1, 1) := by decide +kernel
theorem dX0_idealLength_38 : decode cX0_idealLength 38 = .ok (.iload_n 2, 1) := by decide +kernel
theorem dX0_idealLength_39 : decode cX0_idealLength 39 = .ok (.imul, 1) := by decide +kernel
theorem dX0_idealLength_40 : decode cX0_idealLength 40 = .ok (.ifCond .ge 8, 3) := by decide +kernel
theorem dX0_idealLength_43 : decode cX0_idealLength 43 = .ok (.iload 4, 2) := by decide +kernel
theorem dX0_idealLength_45 : decode cX0_idealLength 45 = .ok (.goto 4, 3) := by decide +kernel
theorem dX0_idealLength_48 : decode cX0_idealLength 48 = .ok (.iload_n 3, 1) := by decide +kernel
theorem dX0_idealLength_49 : decode cX0_idealLength 49 = .ok (.ireturn, 1) := by decide +kernel
theorem dX0_shortestLength_0 : decode cX0_shortestLength 0 = .ok (.iload_n 0, 1) := by decide +kernel
theorem dX0_shortestLength_1 : decode cX0_shortestLength 1 = .ok (.iconst 3, 1) := by decide +kernel
theorem dX0_shortestLength_2 : decode cX0_shortestLength 2 = .ok (.if_icmp .ne 8, 3) := by decide +kernel
theorem dX0_shortestLength_5 : decode cX0_shortestLength 5 = .ok (.bipush 13, 2) := by decide +kernel
theorem dX0_shortestLength_7 : decode cX0_shortestLength 7 = .ok (.goto 15, 3) := by decide +kernel
theorem dX0_shortestLength_10 : decode cX0_shortestLength 10 = .ok (.iload_n 0, 1) := by decide +kernel
theorem dX0_shortestLength_11 : decode cX0_shortestLength 11 = .ok (.iconst 2, 1) := by decide +kernel
theorem dX0_shortestLength_12 : decode cX0_shortestLength 12 = .ok (.if_icmp .ne 8, 3) := by decide +kernel
theorem dX0_shortestLength_15 : decode cX0_shortestLength 15 = .ok (.bipush 11, 2) := by decide +kernel
theorem dX0_shortestLength_17 : decode cX0_shortestLength 17 = .ok (.goto 5, 3) := by decide +kernel
theorem dX0_shortestLength_20 : decode cX0_shortestLength 20 = .ok (.bipush 10, 2) := by decide +kernel
theorem dX0_shortestLength_22 : decode cX0_shortestLength 22 = .ok (.ireturn, 1) := by decide +kernel
theorem dX0_isSetting_0 : decode cX0_isSetting 0 = .ok (.iload_n 0, 1) := by decide +kernel
theorem dX0_isSetting_1 : decode cX0_isSetting 1 = .ok (.bipush (-60), 2) := by decide +kernel
theorem dX0_isSetting_3 : decode cX0_isSetting 3 = .ok (.if_icmp .lt 36, 3) := by decide +kernel
theorem dX0_isSetting_6 : decode cX0_isSetting 6 = .ok (.iload_n 0, 1) := by decide +kernel
theorem dX0_isSetting_7 : decode cX0_isSetting 7 = .ok (.bipush 60, 2) := by decide +kernel
theorem dX0_isSetting_9 : decode cX0_isSetting 9 = .ok (.if_icmp .gt 30, 3) := by decide +kernel
theorem dX0_isSetting_12 : decode cX0_isSetting 12 = .ok (.iload_n 1, 1) := by decide +kernel
theorem dX0_isSetting_13 : decode cX0_isSetting 13 = .ok (.bipush (-60), 2) := by decide +kernel
theorem dX0_isSetting_15 : decode cX0_isSetting 15 = .ok (.if_icmp .lt 24, 3) := by decide +kernel
theorem dX0_isSetting_18 : decode cX0_isSetting 18 = .ok (.iload_n 1, 1) := by decide +kernel
theorem dX0_isSetting_19 : decode cX0_isSetting 19 = .ok (.bipush 60, 2) := by decide +kernel
theorem dX0_isSetting_21 : decode cX0_isSetting 21 = .ok (.if_icmp .gt 18, 3) := by decide +kernel
theorem dX0_isSetting_24 : decode cX0_isSetting 24 = .ok (.iload_n 0, 1) := by decide +kernel
theorem dX0_isSetting_25 : decode cX0_isSetting 25 = .ok (.iload_n 1, 1) := by decide +kernel
theorem dX0_isSetting_26 : decode cX0_isSetting 26 = .ok (.isub, 1) := by decide +kernel
theorem dX0_isSetting_27 : decode cX0_isSetting 27 = .ok (.invokestatic 98, 3) := by decide +kernel
theorem dX0_isSetting_30 : decode cX0_isSetting 30 = .ok (.bipush 8, 2) := by decide +kernel
theorem dX0_isSetting_32 : decode cX0_isSetting 32 = .ok (.if_icmp .gt 7, 3) := by decide +kernel
theorem dX0_isSetting_35 : decode cX0_isSetting 35 = .ok (.iconst 1, 1) := by decide +kernel
theorem dX0_isSetting_36 : decode cX0_isSetting 36 = .ok (.goto 4, 3) := by decide +kernel
theorem dX0_isSetting_39 : decode cX0_isSetting 39 = .ok (.iconst 0, 1) := by decide +kernel
theorem dX0_isSetting_40 : decode cX0_isSetting 40 = .ok (.ireturn, 1) := by decide +kernel
theorem dX0_tilt_0 : decode cX0_tilt 0 = .ok (.aload_n 0, 1) := by decide +kernel
theorem dX0_tilt_1 : decode cX0_tilt 1 = .ok (.bipush (-60), 2) := by decide +kernel
theorem dX0_tilt_3 : decode cX0_tilt 3 = .ok (.bipush (-60), 2) := by decide +kernel
theorem dX0_tilt_5 : decode cX0_tilt 5 = .ok (.iload_n 1, 1) := by decide +kernel
theorem dX0_tilt_6 : decode cX0_tilt 6 = .ok (.isub, 1) := by decide +kernel
theorem dX0_tilt_7 : decode cX0_tilt 7 = .ok (.invokestatic 50, 3) := by decide +kernel
theorem dX0_tilt_10 : decode cX0_tilt 10 = .ok (.putfield 104, 3) := by decide +kernel
theorem dX0_tilt_13 : decode cX0_tilt 13 = .ok (.aload_n 0, 1) := by decide +kernel
theorem dX0_tilt_14 : decode cX0_tilt 14 = .ok (.bipush 60, 2) := by decide +kernel
theorem dX0_tilt_16 : decode cX0_tilt 16 = .ok (.bipush 60, 2) := by decide +kernel
theorem dX0_tilt_18 : decode cX0_tilt 18 = .ok (.iload_n 1, 1) := by decide +kernel
theorem dX0_tilt_19 : decode cX0_tilt 19 = .ok (.isub, 1) := by decide +kernel
theorem dX0_tilt_20 : decode cX0_tilt 20 = .ok (.invokestatic 44, 3) := by decide +kernel
theorem dX0_tilt_23 : decode cX0_tilt 23 = .ok (.putfield 107, 3) := by decide +kernel
theorem dX0_tilt_26 : decode cX0_tilt 26 = .ok (.aload_n 0, 1) := by decide +kernel
theorem dX0_tilt_27 : decode cX0_tilt 27 = .ok (.iconst 0, 1) := by decide +kernel
theorem dX0_tilt_28 : decode cX0_tilt 28 = .ok (.putfield 110, 3) := by decide +kernel
theorem dX0_tilt_31 : decode cX0_tilt 31 = .ok (.aload_n 0, 1) := by decide +kernel
theorem dX0_tilt_32 : decode cX0_tilt 32 = .ok (.getfield 65, 3) := by decide +kernel
theorem dX0_tilt_35 : decode cX0_tilt 35 = .ok (.iconst 1, 1) := by decide +kernel
theorem dX0_tilt_36 : decode cX0_tilt 36 = .ok (.if_icmp .ge 14, 3) := by decide +kernel
theorem dX0_tilt_39 : decode cX0_tilt 39 = .ok (.aload_n 0, 1) := by decide +kernel
theorem dX0_tilt_40 : decode cX0_tilt 40 = .ok (.aload_n 0, 1) := by decide +kernel
theorem dX0_tilt_41 : decode cX0_tilt 41 = .ok (.getfield 104, 3) := by decide +kernel
theorem dX0_tilt_44 : decode cX0_tilt 44 = .ok (.iconst 1, 1) := by decide +kernel
theorem dX0_tilt_45 : decode cX0_tilt 45 = .ok (.isub, 1) := by decide +kernel
theorem dX0_tilt_46 : decode cX0_tilt 46 = .ok (.putfield 107, 3) := by decide +kernel
theorem dX0_tilt_49 : decode cX0_tilt 49 = .ok (.return_, 1) := by decide +kernel
theorem dX0_tilt_50 : decode cX0_tilt 50 = .ok (.iconst 0, 1) := by decide +kernel
theorem dX0_tilt_51 : decode cX0_tilt 51 = .ok (.istore_n 2, 1) := by decide +kernel
theorem dX0_tilt_52 : decode cX0_tilt 52 = .ok (.iload_n 2, 1) := by decide +kernel
theorem dX0_tilt_53 : decode cX0_tilt 53 = .ok (.aload_n 0, 1) := by decide +kernel
theorem dX0_tilt_54 : decode cX0_tilt 54 = .ok (.getfield 53, 3) := by decide +kernel
theorem dX0_tilt_57 : decode cX0_tilt 57 = .ok (.if_icmp .ge 160, 3) := by decide +kernel
theorem dX0_tilt_60 : decode cX0_tilt 60 = .ok (.aload_n 0, 1) := by decide +kernel
theorem dX0_tilt_61 : decode cX0_tilt 61 = .ok (.getfield 23, 3) := by decide +kernel
theorem dX0_tilt_64 : decode cX0_tilt 64 = .ok (.iload_n 2, 1) := by decide +kernel
theorem dX0_tilt_65 : decode cX0_tilt 65 = .ok (.iaload, 1) := by decide +kernel
theorem dX0_tilt_66 : decode cX0_tilt 66 = .ok (.iload_n 1, 1) := by decide +kernel
theorem dX0_tilt_67 : decode cX0_tilt 67 = .ok (.aload_n 0, 1) := by decide +kernel
theorem dX0_tilt_68 : decode cX0_tilt 68 = .ok (.getfield 13, 3) := by decide +kernel
theorem dX0_tilt_71 : decode cX0_tilt 71 = .ok (.iload_n 2, 1) := by decide +kernel
theorem dX0_tilt_72 : decode cX0_tilt 72 = .ok (.iaload, 1) := by decide +kernel
theorem dX0_tilt_73 : decode cX0_tilt 73 = .ok (.imul, 1) := by decide +kernel
theorem dX0_tilt_74 : decode cX0_tilt 74 = .ok (.iconst 2, 1) := by decide +kernel
theorem dX0_tilt_75 : decode cX0_tilt 75 = .ok (.aload_n 0, 1) := by decide +kernel
theorem dX0_tilt_76 : decode cX0_tilt 76 = .ok (.getfield 17, 3) := by decide +kernel
theorem dX0_tilt_79 : decode cX0_tilt 79 = .ok (.iload_n 2, 1) := by decide +kernel
theorem dX0_tilt_80 : decode cX0_tilt 80 = .ok (.iaload, 1) := by decide +kernel
theorem dX0_tilt_81 : decode cX0_tilt 81 = .ok (.imul, 1) := by decide +kernel
theorem dX0_tilt_82 : decode cX0_tilt 82 = .ok (.aload_n 0, 1) := by decide +kernel
theorem dX0_tilt_83 : decode cX0_tilt 83 = .ok (.getfield 65, 3) := by decide +kernel
theorem dX0_tilt_86 : decode cX0_tilt 86 = .ok (.imul, 1) := by decide +kernel
theorem dX0_tilt_87 : decode cX0_tilt 87 = .ok (.isub, 1) := by decide +kernel
theorem dX0_tilt_88 : decode cX0_tilt 88 = .ok (.imul, 1) := by decide +kernel
theorem dX0_tilt_89 : decode cX0_tilt 89 = .ok (.istore_n 3, 1) := by decide +kernel
theorem dX0_tilt_90 : decode cX0_tilt 90 = .ok (.iload_n 3, 1) := by decide +kernel
theorem dX0_tilt_91 : decode cX0_tilt 91 = .ok (.aload_n 0, 1) := by decide +kernel
theorem dX0_tilt_92 : decode cX0_tilt 92 = .ok (.getfield 65, 3) := by decide +kernel
theorem dX0_tilt_95 : decode cX0_tilt 95 = .ok (.invokestatic 113, 3) := by decide +kernel
theorem dX0_tilt_98 : decode cX0_tilt 98 = .ok (.aload_n 0, 1) := by decide +kernel
theorem dX0_tilt_99 : decode cX0_tilt 99 = .ok (.getfield 20, 3) := by decide +kernel
theorem dX0_tilt_102 : decode cX0_tilt 102 = .ok (.iload_n 2, 1) := by decide +kernel
theorem dX0_tilt_103 : decode cX0_tilt 103 = .ok (.iaload, 1) := by decide +kernel
theorem dX0_tilt_104 : decode cX0_tilt 104 = .ok (.invokestatic 116, 3) := by decide +kernel
theorem dX0_tilt_107 : decode cX0_tilt 107 = .ok (.isub, 1) := by decide +kernel
theorem dX0_tilt_108 : decode cX0_tilt 108 = .ok (.istore 4, 2) := by decide +kernel
theorem dX0_tilt_110 : decode cX0_tilt 110 = .ok (.bipush 44, 2) := by decide +kernel
theorem dX0_tilt_112 : decode cX0_tilt 112 = .ok (.aload_n 0, 1) := by decide +kernel
theorem dX0_tilt_113 : decode cX0_tilt 113 = .ok (.getfield 65, 3) := by decide +kernel
theorem dX0_tilt_116 : decode cX0_tilt 116 = .ok (.imul, 1) := by decide +kernel
theorem dX0_tilt_117 : decode cX0_tilt 117 = .ok (.iload_n 3, 1) := by decide +kernel
theorem dX0_tilt_118 : decode cX0_tilt 118 = .ok (.isub, 1) := by decide +kernel
theorem dX0_tilt_119 : decode cX0_tilt 119 = .ok (.aload_n 0, 1) := by decide +kernel
theorem dX0_tilt_120 : decode cX0_tilt 120 = .ok (.getfield 65, 3) := by decide +kernel
theorem dX0_tilt_123 : decode cX0_tilt 123 = .ok (.invokestatic 113, 3) := by decide +kernel
theorem dX0_tilt_126 : decode cX0_tilt 126 = .ok (.istore 5, 2) := by decide +kernel
theorem dX0_tilt_128 : decode cX0_tilt 128 = .ok (.aload_n 0, 1) := by decide +kernel
theorem dX0_tilt_129 : decode cX0_tilt 129 = .ok (.getfield 23, 3) := by decide +kernel
theorem dX0_tilt_132 : decode cX0_tilt 132 = .ok (.iload_n 2, 1) := by decide +kernel
theorem dX0_tilt_133 : decode cX0_tilt 133 = .ok (.iaload, 1) := by decide +kernel
theorem dX0_tilt_134 : decode cX0_tilt 134 = .ok (.ifCond .le 33, 3) := by decide +kernel
theorem dX0_tilt_137 : decode cX0_tilt 137 = .ok (.aload_n 0, 1) := by decide +kernel
theorem dX0_tilt_138 : decode cX0_tilt 138 = .ok (.aload_n 0, 1) := by decide +kernel
theorem dX0_tilt_139 : decode cX0_tilt 139 = .ok (.getfield 104, 3) := by decide +kernel
theorem dX0_tilt_142 : decode cX0_tilt 142 = .ok (.iload 4, 2) := by decide +kernel
theorem dX0_tilt_144 : decode cX0_tilt 144 = .ok (.ineg, 1) := by decide +kernel
theorem dX0_tilt_145 : decode cX0_tilt 145 = .ok (.invokestatic 50, 3) := by decide +kernel
theorem dX0_tilt_148 : decode cX0_tilt 148 = .ok (.putfield 104, 3) := by decide +kernel
theorem dX0_tilt_151 : decode cX0_tilt 151 = .ok (.aload_n 0, 1) := by decide +kernel
theorem dX0_tilt_152 : decode cX0_tilt 152 = .ok (.aload_n 0, 1) := by decide +kernel
theorem dX0_tilt_153 : decode cX0_tilt 153 = .ok (.getfield 107, 3) := by decide +kernel
theorem dX0_tilt_156 : decode cX0_tilt 156 = .ok (.iload 5, 2) := by decide +kernel
theorem dX0_tilt_158 : decode cX0_tilt 158 = .ok (.invokestatic 44, 3) := by decide +kernel
theorem dX0_tilt_161 : decode cX0_tilt 161 = .ok (.putfield 107, 3) := by decide +kernel
theorem dX0_tilt_164 : decode cX0_tilt 164 = .ok (.goto 30, 3) := by decide +kernel
theorem dX0_tilt_167 : decode cX0_tilt 167 = .ok (.aload_n 0, 1) := by decide +kernel
theorem dX0_tilt_168 : decode cX0_tilt 168 = .ok (.aload_n 0, 1) := by decide +kernel
theorem dX0_tilt_169 : decode cX0_tilt 169 = .ok (.getfield 104, 3) := by decide +kernel
theorem dX0_tilt_172 : decode cX0_tilt 172 = .ok (.iload 5, 2) := by decide +kernel
theorem dX0_tilt_174 : decode cX0_tilt 174 = .ok (.ineg, 1) := by decide +kernel
theorem dX0_tilt_175 : decode cX0_tilt 175 = .ok (.invokestatic 50, 3) := by decide +kernel
theorem dX0_tilt_178 : decode cX0_tilt 178 = .ok (.putfield 104, 3) := by decide +kernel
theorem dX0_tilt_181 : decode cX0_tilt 181 = .ok (.aload_n 0, 1) := by decide +kernel
theorem dX0_tilt_182 : decode cX0_tilt 182 = .ok (.aload_n 0, 1) := by decide +kernel
theorem dX0_tilt_183 : decode cX0_tilt 183 = .ok (.getfield 107, 3) := by decide +kernel
theorem dX0_tilt_186 : decode cX0_tilt 186 = .ok (.iload 4, 2) := by decide +kernel
theorem dX0_tilt_188 : decode cX0_tilt 188 = .ok (.invokestatic 44, 3) := by decide +kernel
theorem dX0_tilt_191 : decode cX0_tilt 191 = .ok (.putfield 107, 3) := by decide +kernel
theorem dX0_tilt_194 : decode cX0_tilt 194 = .ok (.aload_n 0, 1) := by decide +kernel
theorem dX0_tilt_195 : decode cX0_tilt 195 = .ok (.getfield 37, 3) := by decide +kernel
theorem dX0_tilt_198 : decode cX0_tilt 198 = .ok (.iload_n 2, 1) := by decide +kernel
theorem dX0_tilt_199 : decode cX0_tilt 199 = .ok (.iload_n 3, 1) := by decide +kernel
theorem dX0_tilt_200 : decode cX0_tilt 200 = .ok (.iastore, 1) := by decide +kernel
theorem dX0_tilt_201 : decode cX0_tilt 201 = .ok (.aload_n 0, 1) := by decide +kernel
theorem dX0_tilt_202 : decode cX0_tilt 202 = .ok (.dup, 1) := by decide +kernel
theorem dX0_tilt_203 : decode cX0_tilt 203 = .ok (.getfield 110, 3) := by decide +kernel
theorem dX0_tilt_206 : decode cX0_tilt 206 = .ok (.iload_n 3, 1) := by decide +kernel
theorem dX0_tilt_207 : decode cX0_tilt 207 = .ok (.iadd, 1) := by decide +kernel
theorem dX0_tilt_208 : decode cX0_tilt 208 = .ok (.putfield 110, 3) := by decide +kernel
theorem dX0_tilt_211 : decode cX0_tilt 211 = .ok (.iinc 2 1, 3) := by decide +kernel
theorem dX0_tilt_214 : decode cX0_tilt 214 = .ok (.goto (-162), 3) := by decide +kernel
theorem dX0_tilt_217 : decode cX0_tilt 217 = .ok (.return_, 1) := by decide +kernel
theorem dX0_allows_0 : decode cX0_allows 0 = .ok (.aload_n 0, 1) := by decide +kernel
theorem dX0_allows_1 : decode cX0_allows 1 = .ok (.iload_n 2, 1) := by decide +kernel
theorem dX0_allows_2 : decode cX0_allows 2 = .ok (.iload_n 1, 1) := by decide +kernel
theorem dX0_allows_3 : decode cX0_allows 3 = .ok (.isub, 1) := by decide +kernel
theorem dX0_allows_4 : decode cX0_allows 4 = .ok (.invokevirtual 119, 3) := by decide +kernel
theorem dX0_allows_7 : decode cX0_allows 7 = .ok (.iload_n 1, 1) := by decide +kernel
theorem dX0_allows_8 : decode cX0_allows 8 = .ok (.aload_n 0, 1) := by decide +kernel
theorem dX0_allows_9 : decode cX0_allows 9 = .ok (.getfield 104, 3) := by decide +kernel
theorem dX0_allows_12 : decode cX0_allows 12 = .ok (.if_icmp .lt 15, 3) := by decide +kernel
theorem dX0_allows_15 : decode cX0_allows 15 = .ok (.iload_n 1, 1) := by decide +kernel
theorem dX0_allows_16 : decode cX0_allows 16 = .ok (.aload_n 0, 1) := by decide +kernel
theorem dX0_allows_17 : decode cX0_allows 17 = .ok (.getfield 107, 3) := by decide +kernel
theorem dX0_allows_20 : decode cX0_allows 20 = .ok (.if_icmp .gt 7, 3) := by decide +kernel
theorem dX0_allows_23 : decode cX0_allows 23 = .ok (.iconst 1, 1) := by decide +kernel
theorem dX0_allows_24 : decode cX0_allows 24 = .ok (.goto 4, 3) := by decide +kernel
theorem dX0_allows_27 : decode cX0_allows 27 = .ok (.iconst 0, 1) := by decide +kernel
theorem dX0_allows_28 : decode cX0_allows 28 = .ok (.ireturn, 1) := by decide +kernel
theorem dX0_stemsAt_0 : decode cX0_stemsAt 0 = .ok (.aload_n 0, 1) := by decide +kernel
theorem dX0_stemsAt_1 : decode cX0_stemsAt 1 = .ok (.getfield 65, 3) := by decide +kernel
theorem dX0_stemsAt_4 : decode cX0_stemsAt 4 = .ok (.iconst 1, 1) := by decide +kernel
theorem dX0_stemsAt_5 : decode cX0_stemsAt 5 = .ok (.if_icmp .ge 5, 3) := by decide +kernel
theorem dX0_stemsAt_8 : decode cX0_stemsAt 8 = .ok (.iconst 0, 1) := by decide +kernel
theorem dX0_stemsAt_9 : decode cX0_stemsAt 9 = .ok (.ireturn, 1) := by decide +kernel
theorem dX0_stemsAt_10 : decode cX0_stemsAt 10 = .ok (.iconst 0, 1) := by decide +kernel
theorem dX0_stemsAt_11 : decode cX0_stemsAt 11 = .ok (.istore_n 2, 1) := by decide +kernel
theorem dX0_stemsAt_12 : decode cX0_stemsAt 12 = .ok (.iconst 0, 1) := by decide +kernel
theorem dX0_stemsAt_13 : decode cX0_stemsAt 13 = .ok (.istore_n 3, 1) := by decide +kernel
theorem dX0_stemsAt_14 : decode cX0_stemsAt 14 = .ok (.iload_n 3, 1) := by decide +kernel
theorem dX0_stemsAt_15 : decode cX0_stemsAt 15 = .ok (.aload_n 0, 1) := by decide +kernel
theorem dX0_stemsAt_16 : decode cX0_stemsAt 16 = .ok (.getfield 53, 3) := by decide +kernel
theorem dX0_stemsAt_19 : decode cX0_stemsAt 19 = .ok (.if_icmp .ge 56, 3) := by decide +kernel
theorem dX0_stemsAt_22 : decode cX0_stemsAt 22 = .ok (.aload_n 0, 1) := by decide +kernel
theorem dX0_stemsAt_23 : decode cX0_stemsAt 23 = .ok (.getfield 37, 3) := by decide +kernel
theorem dX0_stemsAt_26 : decode cX0_stemsAt 26 = .ok (.iload_n 3, 1) := by decide +kernel
theorem dX0_stemsAt_27 : decode cX0_stemsAt 27 = .ok (.iaload, 1) := by decide +kernel
theorem dX0_stemsAt_28 : decode cX0_stemsAt 28 = .ok (.aload_n 0, 1) := by decide +kernel
theorem dX0_stemsAt_29 : decode cX0_stemsAt 29 = .ok (.getfield 23, 3) := by decide +kernel
theorem dX0_stemsAt_32 : decode cX0_stemsAt 32 = .ok (.iload_n 3, 1) := by decide +kernel
theorem dX0_stemsAt_33 : decode cX0_stemsAt 33 = .ok (.iaload, 1) := by decide +kernel
theorem dX0_stemsAt_34 : decode cX0_stemsAt 34 = .ok (.iload_n 1, 1) := by decide +kernel
theorem dX0_stemsAt_35 : decode cX0_stemsAt 35 = .ok (.imul, 1) := by decide +kernel
theorem dX0_stemsAt_36 : decode cX0_stemsAt 36 = .ok (.aload_n 0, 1) := by decide +kernel
theorem dX0_stemsAt_37 : decode cX0_stemsAt 37 = .ok (.getfield 26, 3) := by decide +kernel
theorem dX0_stemsAt_40 : decode cX0_stemsAt 40 = .ok (.iload_n 3, 1) := by decide +kernel
theorem dX0_stemsAt_41 : decode cX0_stemsAt 41 = .ok (.iaload, 1) := by decide +kernel
theorem dX0_stemsAt_42 : decode cX0_stemsAt 42 = .ok (.isub, 1) := by decide +kernel
theorem dX0_stemsAt_43 : decode cX0_stemsAt 43 = .ok (.aload_n 0, 1) := by decide +kernel
theorem dX0_stemsAt_44 : decode cX0_stemsAt 44 = .ok (.getfield 65, 3) := by decide +kernel
theorem dX0_stemsAt_47 : decode cX0_stemsAt 47 = .ok (.imul, 1) := by decide +kernel
theorem dX0_stemsAt_48 : decode cX0_stemsAt 48 = .ok (.iadd, 1) := by decide +kernel
theorem dX0_stemsAt_49 : decode cX0_stemsAt 49 = .ok (.istore 4, 2) := by decide +kernel
theorem dX0_stemsAt_51 : decode cX0_stemsAt 51 = .ok (.iload_n 2, 1) := by decide +kernel
theorem dX0_stemsAt_52 : decode cX0_stemsAt 52 = .ok (.iload 4, 2) := by decide +kernel
theorem dX0_stemsAt_54 : decode cX0_stemsAt 54 = .ok (.ifCond .ge 11, 3) := by decide +kernel
theorem dX0_stemsAt_57 : decode cX0_stemsAt 57 = .ok (.bipush (-2), 2) := by decide +kernel
theorem dX0_stemsAt_59 : decode cX0_stemsAt 59 = .ok (.iload 4, 2) := by decide +kernel
theorem dX0_stemsAt_61 : decode cX0_stemsAt 61 = .ok (.imul, 1) := by decide +kernel
theorem dX0_stemsAt_62 : decode cX0_stemsAt 62 = .ok (.goto 5, 3) := by decide +kernel
theorem dX0_stemsAt_65 : decode cX0_stemsAt 65 = .ok (.iload 4, 2) := by decide +kernel
theorem dX0_stemsAt_67 : decode cX0_stemsAt 67 = .ok (.iadd, 1) := by decide +kernel
theorem dX0_stemsAt_68 : decode cX0_stemsAt 68 = .ok (.istore_n 2, 1) := by decide +kernel
theorem dX0_stemsAt_69 : decode cX0_stemsAt 69 = .ok (.iinc 3 1, 3) := by decide +kernel
theorem dX0_stemsAt_72 : decode cX0_stemsAt 72 = .ok (.goto (-58), 3) := by decide +kernel
theorem dX0_stemsAt_75 : decode cX0_stemsAt 75 = .ok (.iload_n 2, 1) := by decide +kernel
theorem dX0_stemsAt_76 : decode cX0_stemsAt 76 = .ok (.aload_n 0, 1) := by decide +kernel
theorem dX0_stemsAt_77 : decode cX0_stemsAt 77 = .ok (.getfield 65, 3) := by decide +kernel
theorem dX0_stemsAt_80 : decode cX0_stemsAt 80 = .ok (.idiv, 1) := by decide +kernel
theorem dX0_stemsAt_81 : decode cX0_stemsAt 81 = .ok (.ireturn, 1) := by decide +kernel
theorem dX0_slopeOf_0 : decode cX0_slopeOf 0 = .ok (.iload_n 1, 1) := by decide +kernel
theorem dX0_slopeOf_1 : decode cX0_slopeOf 1 = .ok (.aload_n 0, 1) := by decide +kernel
theorem dX0_slopeOf_2 : decode cX0_slopeOf 2 = .ok (.getfield 101, 3) := by decide +kernel
theorem dX0_slopeOf_5 : decode cX0_slopeOf 5 = .ok (.imul, 1) := by decide +kernel
theorem dX0_slopeOf_6 : decode cX0_slopeOf 6 = .ok (.ifCond .ge 8, 3) := by decide +kernel
theorem dX0_slopeOf_9 : decode cX0_slopeOf 9 = .ok (.bipush 20, 2) := by decide +kernel
theorem dX0_slopeOf_11 : decode cX0_slopeOf 11 = .ok (.goto 4, 3) := by decide +kernel
theorem dX0_slopeOf_14 : decode cX0_slopeOf 14 = .ok (.iconst 0, 1) := by decide +kernel
theorem dX0_slopeOf_15 : decode cX0_slopeOf 15 = .ok (.istore_n 2, 1) := by decide +kernel
theorem dX0_slopeOf_16 : decode cX0_slopeOf 16 = .ok (.bipush 6, 2) := by decide +kernel
theorem dX0_slopeOf_18 : decode cX0_slopeOf 18 = .ok (.iload_n 1, 1) := by decide +kernel
theorem dX0_slopeOf_19 : decode cX0_slopeOf 19 = .ok (.aload_n 0, 1) := by decide +kernel
theorem dX0_slopeOf_20 : decode cX0_slopeOf 20 = .ok (.getfield 101, 3) := by decide +kernel
theorem dX0_slopeOf_23 : decode cX0_slopeOf 23 = .ok (.isub, 1) := by decide +kernel
theorem dX0_slopeOf_24 : decode cX0_slopeOf 24 = .ok (.invokestatic 98, 3) := by decide +kernel
theorem dX0_slopeOf_27 : decode cX0_slopeOf 27 = .ok (.imul, 1) := by decide +kernel
theorem dX0_slopeOf_28 : decode cX0_slopeOf 28 = .ok (.iload_n 2, 1) := by decide +kernel
theorem dX0_slopeOf_29 : decode cX0_slopeOf 29 = .ok (.iadd, 1) := by decide +kernel
theorem dX0_slopeOf_30 : decode cX0_slopeOf 30 = .ok (.ireturn, 1) := by decide +kernel
theorem dX0_staffAt_0 : decode cX0_staffAt 0 = .ok (.aload_n 0, 1) := by decide +kernel
theorem dX0_staffAt_1 : decode cX0_staffAt 1 = .ok (.iconst 0, 1) := by decide +kernel
theorem dX0_staffAt_2 : decode cX0_staffAt 2 = .ok (.iload_n 1, 1) := by decide +kernel
theorem dX0_staffAt_3 : decode cX0_staffAt 3 = .ok (.iload_n 2, 1) := by decide +kernel
theorem dX0_staffAt_4 : decode cX0_staffAt 4 = .ok (.invokevirtual 122, 3) := by decide +kernel
theorem dX0_staffAt_7 : decode cX0_staffAt 7 = .ok (.aload_n 0, 1) := by decide +kernel
theorem dX0_staffAt_8 : decode cX0_staffAt 8 = .ok (.iconst 1, 1) := by decide +kernel
theorem dX0_staffAt_9 : decode cX0_staffAt 9 = .ok (.iload_n 1, 1) := by decide +kernel
theorem dX0_staffAt_10 : decode cX0_staffAt 10 = .ok (.iload_n 2, 1) := by decide +kernel
theorem dX0_staffAt_11 : decode cX0_staffAt 11 = .ok (.iadd, 1) := by decide +kernel
theorem dX0_staffAt_12 : decode cX0_staffAt 12 = .ok (.iload_n 2, 1) := by decide +kernel
theorem dX0_staffAt_13 : decode cX0_staffAt 13 = .ok (.ineg, 1) := by decide +kernel
theorem dX0_staffAt_14 : decode cX0_staffAt 14 = .ok (.invokevirtual 122, 3) := by decide +kernel
theorem dX0_staffAt_17 : decode cX0_staffAt 17 = .ok (.iadd, 1) := by decide +kernel
theorem dX0_staffAt_18 : decode cX0_staffAt 18 = .ok (.ireturn, 1) := by decide +kernel
theorem dX0_staffAtEnd_0 : decode cX0_staffAtEnd 0 = .ok (.iload_n 1, 1) := by decide +kernel
theorem dX0_staffAtEnd_1 : decode cX0_staffAtEnd 1 = .ok (.ifCond .ne 7, 3) := by decide +kernel
theorem dX0_staffAtEnd_4 : decode cX0_staffAtEnd 4 = .ok (.iconst 0, 1) := by decide +kernel
theorem dX0_staffAtEnd_5 : decode cX0_staffAtEnd 5 = .ok (.goto 7, 3) := by decide +kernel
theorem dX0_staffAtEnd_8 : decode cX0_staffAtEnd 8 = .ok (.aload_n 0, 1) := by decide +kernel
theorem dX0_staffAtEnd_9 : decode cX0_staffAtEnd 9 = .ok (.getfield 62, 3) := by decide +kernel
theorem dX0_staffAtEnd_12 : decode cX0_staffAtEnd 12 = .ok (.istore 4, 2) := by decide +kernel
theorem dX0_staffAtEnd_14 : decode cX0_staffAtEnd 14 = .ok (.iconst 0, 1) := by decide +kernel
theorem dX0_staffAtEnd_15 : decode cX0_staffAtEnd 15 = .ok (.istore 5, 2) := by decide +kernel
theorem dX0_staffAtEnd_17 : decode cX0_staffAtEnd 17 = .ok (.iconst 0, 1) := by decide +kernel
theorem dX0_staffAtEnd_18 : decode cX0_staffAtEnd 18 = .ok (.istore 6, 2) := by decide +kernel
theorem dX0_staffAtEnd_20 : decode cX0_staffAtEnd 20 = .ok (.iload 6, 2) := by decide +kernel
theorem dX0_staffAtEnd_22 : decode cX0_staffAtEnd 22 = .ok (.aload_n 0, 1) := by decide +kernel
theorem dX0_staffAtEnd_23 : decode cX0_staffAtEnd 23 = .ok (.getfield 20, 3) := by decide +kernel
theorem dX0_staffAtEnd_26 : decode cX0_staffAtEnd 26 = .ok (.iload 4, 2) := by decide +kernel
theorem dX0_staffAtEnd_28 : decode cX0_staffAtEnd 28 = .ok (.iaload, 1) := by decide +kernel
theorem dX0_staffAtEnd_29 : decode cX0_staffAtEnd 29 = .ok (.if_icmp .ge 32, 3) := by decide +kernel
theorem dX0_staffAtEnd_32 : decode cX0_staffAtEnd 32 = .ok (.iload 5, 2) := by decide +kernel
theorem dX0_staffAtEnd_34 : decode cX0_staffAtEnd 34 = .ok (.iload_n 2, 1) := by decide +kernel
theorem dX0_staffAtEnd_35 : decode cX0_staffAtEnd 35 = .ok (.aload_n 0, 1) := by decide +kernel
theorem dX0_staffAtEnd_36 : decode cX0_staffAtEnd 36 = .ok (.getfield 23, 3) := by decide +kernel
theorem dX0_staffAtEnd_39 : decode cX0_staffAtEnd 39 = .ok (.iload 4, 2) := by decide +kernel
theorem dX0_staffAtEnd_41 : decode cX0_staffAtEnd 41 = .ok (.iaload, 1) := by decide +kernel
theorem dX0_staffAtEnd_42 : decode cX0_staffAtEnd 42 = .ok (.iconst 3, 1) := by decide +kernel
theorem dX0_staffAtEnd_43 : decode cX0_staffAtEnd 43 = .ok (.imul, 1) := by decide +kernel
theorem dX0_staffAtEnd_44 : decode cX0_staffAtEnd 44 = .ok (.iload 6, 2) := by decide +kernel
theorem dX0_staffAtEnd_46 : decode cX0_staffAtEnd 46 = .ok (.imul, 1) := by decide +kernel
theorem dX0_staffAtEnd_47 : decode cX0_staffAtEnd 47 = .ok (.isub, 1) := by decide +kernel
theorem dX0_staffAtEnd_48 : decode cX0_staffAtEnd 48 = .ok (.iload_n 3, 1) := by decide +kernel
theorem dX0_staffAtEnd_49 : decode cX0_staffAtEnd 49 = .ok (.invokestatic 125, 3) := by decide +kernel
theorem dX0_staffAtEnd_52 : decode cX0_staffAtEnd 52 = .ok (.iadd, 1) := by decide +kernel
theorem dX0_staffAtEnd_53 : decode cX0_staffAtEnd 53 = .ok (.istore 5, 2) := by decide +kernel
theorem dX0_staffAtEnd_55 : decode cX0_staffAtEnd 55 = .ok (.iinc 6 1, 3) := by decide +kernel
theorem dX0_staffAtEnd_58 : decode cX0_staffAtEnd 58 = .ok (.goto (-38), 3) := by decide +kernel
theorem dX0_staffAtEnd_61 : decode cX0_staffAtEnd 61 = .ok (.iload 5, 2) := by decide +kernel
theorem dX0_staffAtEnd_63 : decode cX0_staffAtEnd 63 = .ok (.ireturn, 1) := by decide +kernel
theorem dX0_touchCost_0 : decode cX0_touchCost 0 = .ok (.iload_n 0, 1) := by decide +kernel
theorem dX0_touchCost_1 : decode cX0_touchCost 1 = .ok (.bipush (-9), 2) := by decide +kernel
theorem dX0_touchCost_3 : decode cX0_touchCost 3 = .ok (.if_icmp .lt 9, 3) := by decide +kernel
theorem dX0_touchCost_6 : decode cX0_touchCost 6 = .ok (.iload_n 0, 1) := by decide +kernel
theorem dX0_touchCost_7 : decode cX0_touchCost 7 = .ok (.bipush 9, 2) := by decide +kernel
theorem dX0_touchCost_9 : decode cX0_touchCost 9 = .ok (.if_icmp .le 5, 3) := by decide +kernel
theorem dX0_touchCost_12 : decode cX0_touchCost 12 = .ok (.iconst 0, 1) := by decide +kernel
theorem dX0_touchCost_13 : decode cX0_touchCost 13 = .ok (.ireturn, 1) := by decide +kernel
theorem dX0_touchCost_14 : decode cX0_touchCost 14 = .ok (.iload_n 0, 1) := by decide +kernel
theorem dX0_touchCost_15 : decode cX0_touchCost 15 = .ok (.iconst 3, 1) := by decide +kernel
theorem dX0_touchCost_16 : decode cX0_touchCost 16 = .ok (.iand, 1) := by decide +kernel
theorem dX0_touchCost_17 : decode cX0_touchCost 17 = .ok (.tableswitch 51 0 2 #[27, 37, 48], 27) := by decide +kernel
theorem dX0_touchCost_44 : decode cX0_touchCost 44 = .ok (.iload_n 1, 1) := by decide +kernel
theorem dX0_touchCost_45 : decode cX0_touchCost 45 = .ok (.ifCond .ne 7, 3) := by decide +kernel
theorem dX0_touchCost_48 : decode cX0_touchCost 48 = .ok (.iconst 2, 1) := by decide +kernel
theorem dX0_touchCost_49 : decode cX0_touchCost 49 = .ok (.goto 4, 3) := by decide +kernel
theorem dX0_touchCost_52 : decode cX0_touchCost 52 = .ok (.iconst 1, 1) := by decide +kernel
theorem dX0_touchCost_53 : decode cX0_touchCost 53 = .ok (.ireturn, 1) := by decide +kernel
theorem dX0_touchCost_54 : decode cX0_touchCost 54 = .ok (.iload_n 1, 1) := by decide +kernel
theorem dX0_touchCost_55 : decode cX0_touchCost 55 = .ok (.ifCond .ge 8, 3) := by decide +kernel
theorem dX0_touchCost_58 : decode cX0_touchCost 58 = .ok (.bipush 8, 2) := by decide +kernel
theorem dX0_touchCost_60 : decode cX0_touchCost 60 = .ok (.goto 4, 3) := by decide +kernel
theorem dX0_touchCost_63 : decode cX0_touchCost 63 = .ok (.iconst 0, 1) := by decide +kernel
theorem dX0_touchCost_64 : decode cX0_touchCost 64 = .ok (.ireturn, 1) := by decide +kernel
theorem dX0_touchCost_65 : decode cX0_touchCost 65 = .ok (.bipush 25, 2) := by decide +kernel
theorem dX0_touchCost_67 : decode cX0_touchCost 67 = .ok (.ireturn, 1) := by decide +kernel
theorem dX0_touchCost_68 : decode cX0_touchCost 68 = .ok (.iload_n 1, 1) := by decide +kernel
theorem dX0_touchCost_69 : decode cX0_touchCost 69 = .ok (.ifCond .le 8, 3) := by decide +kernel
theorem dX0_touchCost_72 : decode cX0_touchCost 72 = .ok (.bipush 8, 2) := by decide +kernel
theorem dX0_touchCost_74 : decode cX0_touchCost 74 = .ok (.goto 4, 3) := by decide +kernel
theorem dX0_touchCost_77 : decode cX0_touchCost 77 = .ok (.iconst 0, 1) := by decide +kernel
theorem dX0_touchCost_78 : decode cX0_touchCost 78 = .ok (.ireturn, 1) := by decide +kernel
theorem dX0_mostBeams_0 : decode cX0_mostBeams 0 = .ok (.iconst 0, 1) := by decide +kernel
theorem dX0_mostBeams_1 : decode cX0_mostBeams 1 = .ok (.istore_n 1, 1) := by decide +kernel
theorem dX0_mostBeams_2 : decode cX0_mostBeams 2 = .ok (.iconst 0, 1) := by decide +kernel
theorem dX0_mostBeams_3 : decode cX0_mostBeams 3 = .ok (.istore_n 2, 1) := by decide +kernel
theorem dX0_mostBeams_4 : decode cX0_mostBeams 4 = .ok (.iload_n 2, 1) := by decide +kernel
theorem dX0_mostBeams_5 : decode cX0_mostBeams 5 = .ok (.aload_n 0, 1) := by decide +kernel
theorem dX0_mostBeams_6 : decode cX0_mostBeams 6 = .ok (.getfield 53, 3) := by decide +kernel
theorem dX0_mostBeams_9 : decode cX0_mostBeams 9 = .ok (.if_icmp .ge 20, 3) := by decide +kernel
theorem dX0_mostBeams_12 : decode cX0_mostBeams 12 = .ok (.iload_n 1, 1) := by decide +kernel
theorem dX0_mostBeams_13 : decode cX0_mostBeams 13 = .ok (.aload_n 0, 1) := by decide +kernel
theorem dX0_mostBeams_14 : decode cX0_mostBeams 14 = .ok (.getfield 20, 3) := by decide +kernel
theorem dX0_mostBeams_17 : decode cX0_mostBeams 17 = .ok (.iload_n 2, 1) := by decide +kernel
theorem dX0_mostBeams_18 : decode cX0_mostBeams 18 = .ok (.iaload, 1) := by decide +kernel
theorem dX0_mostBeams_19 : decode cX0_mostBeams 19 = .ok (.invokestatic 50, 3) := by decide +kernel
theorem dX0_mostBeams_22 : decode cX0_mostBeams 22 = .ok (.istore_n 1, 1) := by decide +kernel
theorem dX0_mostBeams_23 : decode cX0_mostBeams 23 = .ok (.iinc 2 1, 3) := by decide +kernel
theorem dX0_mostBeams_26 : decode cX0_mostBeams 26 = .ok (.goto (-22), 3) := by decide +kernel
theorem dX0_mostBeams_29 : decode cX0_mostBeams 29 = .ok (.iload_n 1, 1) := by decide +kernel
theorem dX0_mostBeams_30 : decode cX0_mostBeams 30 = .ok (.ireturn, 1) := by decide +kernel
theorem dX0_howManyUp_0 : decode cX0_howManyUp 0 = .ok (.iconst 0, 1) := by decide +kernel
theorem dX0_howManyUp_1 : decode cX0_howManyUp 1 = .ok (.istore_n 1, 1) := by decide +kernel
theorem dX0_howManyUp_2 : decode cX0_howManyUp 2 = .ok (.iconst 0, 1) := by decide +kernel
theorem dX0_howManyUp_3 : decode cX0_howManyUp 3 = .ok (.istore_n 2, 1) := by decide +kernel
theorem dX0_howManyUp_4 : decode cX0_howManyUp 4 = .ok (.iload_n 2, 1) := by decide +kernel
theorem dX0_howManyUp_5 : decode cX0_howManyUp 5 = .ok (.aload_n 0, 1) := by decide +kernel
theorem dX0_howManyUp_6 : decode cX0_howManyUp 6 = .ok (.getfield 53, 3) := by decide +kernel
theorem dX0_howManyUp_9 : decode cX0_howManyUp 9 = .ok (.if_icmp .ge 26, 3) := by decide +kernel
theorem dX0_howManyUp_12 : decode cX0_howManyUp 12 = .ok (.iload_n 1, 1) := by decide +kernel
theorem dX0_howManyUp_13 : decode cX0_howManyUp 13 = .ok (.aload_n 0, 1) := by decide +kernel
theorem dX0_howManyUp_14 : decode cX0_howManyUp 14 = .ok (.getfield 23, 3) := by decide +kernel
theorem dX0_howManyUp_17 : decode cX0_howManyUp 17 = .ok (.iload_n 2, 1) := by decide +kernel
theorem dX0_howManyUp_18 : decode cX0_howManyUp 18 = .ok (.iaload, 1) := by decide +kernel
theorem dX0_howManyUp_19 : decode cX0_howManyUp 19 = .ok (.ifCond .le 7, 3) := by decide +kernel
theorem dX0_howManyUp_22 : decode cX0_howManyUp 22 = .ok (.iconst 1, 1) := by decide +kernel
theorem dX0_howManyUp_23 : decode cX0_howManyUp 23 = .ok (.goto 4, 3) := by decide +kernel
theorem dX0_howManyUp_26 : decode cX0_howManyUp 26 = .ok (.iconst 0, 1) := by decide +kernel
theorem dX0_howManyUp_27 : decode cX0_howManyUp 27 = .ok (.iadd, 1) := by decide +kernel
theorem dX0_howManyUp_28 : decode cX0_howManyUp 28 = .ok (.istore_n 1, 1) := by decide +kernel
theorem dX0_howManyUp_29 : decode cX0_howManyUp 29 = .ok (.iinc 2 1, 3) := by decide +kernel
theorem dX0_howManyUp_32 : decode cX0_howManyUp 32 = .ok (.goto (-28), 3) := by decide +kernel
theorem dX0_howManyUp_35 : decode cX0_howManyUp 35 = .ok (.iload_n 1, 1) := by decide +kernel
theorem dX0_howManyUp_36 : decode cX0_howManyUp 36 = .ok (.ireturn, 1) := by decide +kernel
theorem dX0_keyAt_0 : decode cX0_keyAt 0 = .ok (.iload_n 3, 1) := by decide +kernel
theorem dX0_keyAt_1 : decode cX0_keyAt 1 = .ok (.i2l, 1) := by decide +kernel
theorem dX0_keyAt_2 : decode cX0_keyAt 2 = .ok (.iconst 4, 1) := by decide +kernel
theorem dX0_keyAt_3 : decode cX0_keyAt 3 = .ok (.lshl, 1) := by decide +kernel
theorem dX0_keyAt_4 : decode cX0_keyAt 4 = .ok (.iload_n 2, 1) := by decide +kernel
theorem dX0_keyAt_5 : decode cX0_keyAt 5 = .ok (.invokestatic 98, 3) := by decide +kernel
theorem dX0_keyAt_8 : decode cX0_keyAt 8 = .ok (.i2l, 1) := by decide +kernel
theorem dX0_keyAt_9 : decode cX0_keyAt 9 = .ok (.ladd, 1) := by decide +kernel
theorem dX0_keyAt_10 : decode cX0_keyAt 10 = .ok (.lstore 4, 2) := by decide +kernel
theorem dX0_keyAt_12 : decode cX0_keyAt 12 = .ok (.lload 4, 2) := by decide +kernel
theorem dX0_keyAt_14 : decode cX0_keyAt 14 = .ok (.bipush 24, 2) := by decide +kernel
theorem dX0_keyAt_16 : decode cX0_keyAt 16 = .ok (.lshl, 1) := by decide +kernel
theorem dX0_keyAt_17 : decode cX0_keyAt 17 = .ok (.aload_n 0, 1) := by decide +kernel
theorem dX0_keyAt_18 : decode cX0_keyAt 18 = .ok (.getfield 110, 3) := by decide +kernel
theorem dX0_keyAt_21 : decode cX0_keyAt 21 = .ok (.i2l, 1) := by decide +kernel
theorem dX0_keyAt_22 : decode cX0_keyAt 22 = .ok (.ladd, 1) := by decide +kernel
theorem dX0_keyAt_23 : decode cX0_keyAt 23 = .ok (.aload_n 0, 1) := by decide +kernel
theorem dX0_keyAt_24 : decode cX0_keyAt 24 = .ok (.getfield 91, 3) := by decide +kernel
theorem dX0_keyAt_27 : decode cX0_keyAt 27 = .ok (.iload_n 1, 1) := by decide +kernel
theorem dX0_keyAt_28 : decode cX0_keyAt 28 = .ok (.imul, 1) := by decide +kernel
theorem dX0_keyAt_29 : decode cX0_keyAt 29 = .ok (.aload_n 0, 1) := by decide +kernel
theorem dX0_keyAt_30 : decode cX0_keyAt 30 = .ok (.getfield 65, 3) := by decide +kernel
theorem dX0_keyAt_33 : decode cX0_keyAt 33 = .ok (.imul, 1) := by decide +kernel
theorem dX0_keyAt_34 : decode cX0_keyAt 34 = .ok (.i2l, 1) := by decide +kernel
theorem dX0_keyAt_35 : decode cX0_keyAt 35 = .ok (.ladd, 1) := by decide +kernel
theorem dX0_keyAt_36 : decode cX0_keyAt 36 = .ok (.lstore 4, 2) := by decide +kernel
theorem dX0_keyAt_38 : decode cX0_keyAt 38 = .ok (.lload 4, 2) := by decide +kernel
theorem dX0_keyAt_40 : decode cX0_keyAt 40 = .ok (.bipush 7, 2) := by decide +kernel
theorem dX0_keyAt_42 : decode cX0_keyAt 42 = .ok (.lshl, 1) := by decide +kernel
theorem dX0_keyAt_43 : decode cX0_keyAt 43 = .ok (.ldc2_w 128, 3) := by decide +kernel
theorem dX0_keyAt_46 : decode cX0_keyAt 46 = .ok (.ladd, 1) := by decide +kernel
theorem dX0_keyAt_47 : decode cX0_keyAt 47 = .ok (.aload_n 0, 1) := by decide +kernel
theorem dX0_keyAt_48 : decode cX0_keyAt 48 = .ok (.getfield 23, 3) := by decide +kernel
theorem dX0_keyAt_51 : decode cX0_keyAt 51 = .ok (.iconst 0, 1) := by decide +kernel
theorem dX0_keyAt_52 : decode cX0_keyAt 52 = .ok (.iaload, 1) := by decide +kernel
theorem dX0_keyAt_53 : decode cX0_keyAt 53 = .ok (.iload_n 1, 1) := by decide +kernel
theorem dX0_keyAt_54 : decode cX0_keyAt 54 = .ok (.imul, 1) := by decide +kernel
theorem dX0_keyAt_55 : decode cX0_keyAt 55 = .ok (.i2l, 1) := by decide +kernel
theorem dX0_keyAt_56 : decode cX0_keyAt 56 = .ok (.ladd, 1) := by decide +kernel
theorem dX0_keyAt_57 : decode cX0_keyAt 57 = .ok (.lstore 4, 2) := by decide +kernel
theorem dX0_keyAt_59 : decode cX0_keyAt 59 = .ok (.lload 4, 2) := by decide +kernel
theorem dX0_keyAt_61 : decode cX0_keyAt 61 = .ok (.bipush 7, 2) := by decide +kernel
theorem dX0_keyAt_63 : decode cX0_keyAt 63 = .ok (.lshl, 1) := by decide +kernel
theorem dX0_keyAt_64 : decode cX0_keyAt 64 = .ok (.ldc2_w 128, 3) := by decide +kernel
theorem dX0_keyAt_67 : decode cX0_keyAt 67 = .ok (.ladd, 1) := by decide +kernel
theorem dX0_keyAt_68 : decode cX0_keyAt 68 = .ok (.aload_n 0, 1) := by decide +kernel
theorem dX0_keyAt_69 : decode cX0_keyAt 69 = .ok (.getfield 23, 3) := by decide +kernel
theorem dX0_keyAt_72 : decode cX0_keyAt 72 = .ok (.iconst 0, 1) := by decide +kernel
theorem dX0_keyAt_73 : decode cX0_keyAt 73 = .ok (.iaload, 1) := by decide +kernel
theorem dX0_keyAt_74 : decode cX0_keyAt 74 = .ok (.iload_n 1, 1) := by decide +kernel
theorem dX0_keyAt_75 : decode cX0_keyAt 75 = .ok (.iload_n 2, 1) := by decide +kernel
theorem dX0_keyAt_76 : decode cX0_keyAt 76 = .ok (.iadd, 1) := by decide +kernel
theorem dX0_keyAt_77 : decode cX0_keyAt 77 = .ok (.imul, 1) := by decide +kernel
theorem dX0_keyAt_78 : decode cX0_keyAt 78 = .ok (.i2l, 1) := by decide +kernel
theorem dX0_keyAt_79 : decode cX0_keyAt 79 = .ok (.ladd, 1) := by decide +kernel
theorem dX0_keyAt_80 : decode cX0_keyAt 80 = .ok (.lreturn, 1) := by decide +kernel
theorem dX0_keyOfSetting_0 : decode cX0_keyOfSetting 0 = .ok (.aload_n 0, 1) := by decide +kernel
theorem dX0_keyOfSetting_1 : decode cX0_keyOfSetting 1 = .ok (.iload_n 2, 1) := by decide +kernel
theorem dX0_keyOfSetting_2 : decode cX0_keyOfSetting 2 = .ok (.iload_n 1, 1) := by decide +kernel
theorem dX0_keyOfSetting_3 : decode cX0_keyOfSetting 3 = .ok (.isub, 1) := by decide +kernel
theorem dX0_keyOfSetting_4 : decode cX0_keyOfSetting 4 = .ok (.invokevirtual 119, 3) := by decide +kernel
theorem dX0_keyOfSetting_7 : decode cX0_keyOfSetting 7 = .ok (.aload_n 0, 1) := by decide +kernel
theorem dX0_keyOfSetting_8 : decode cX0_keyOfSetting 8 = .ok (.iload_n 1, 1) := by decide +kernel
theorem dX0_keyOfSetting_9 : decode cX0_keyOfSetting 9 = .ok (.iload_n 2, 1) := by decide +kernel
theorem dX0_keyOfSetting_10 : decode cX0_keyOfSetting 10 = .ok (.iload_n 1, 1) := by decide +kernel
theorem dX0_keyOfSetting_11 : decode cX0_keyOfSetting 11 = .ok (.isub, 1) := by decide +kernel
theorem dX0_keyOfSetting_12 : decode cX0_keyOfSetting 12 = .ok (.aload_n 0, 1) := by decide +kernel
theorem dX0_keyOfSetting_13 : decode cX0_keyOfSetting 13 = .ok (.iload_n 1, 1) := by decide +kernel
theorem dX0_keyOfSetting_14 : decode cX0_keyOfSetting 14 = .ok (.invokevirtual 130, 3) := by decide +kernel
theorem dX0_keyOfSetting_17 : decode cX0_keyOfSetting 17 = .ok (.aload_n 0, 1) := by decide +kernel
theorem dX0_keyOfSetting_18 : decode cX0_keyOfSetting 18 = .ok (.iload_n 2, 1) := by decide +kernel
theorem dX0_keyOfSetting_19 : decode cX0_keyOfSetting 19 = .ok (.iload_n 1, 1) := by decide +kernel
theorem dX0_keyOfSetting_20 : decode cX0_keyOfSetting 20 = .ok (.isub, 1) := by decide +kernel
theorem dX0_keyOfSetting_21 : decode cX0_keyOfSetting 21 = .ok (.invokevirtual 133, 3) := by decide +kernel
theorem dX0_keyOfSetting_24 : decode cX0_keyOfSetting 24 = .ok (.iadd, 1) := by decide +kernel
theorem dX0_keyOfSetting_25 : decode cX0_keyOfSetting 25 = .ok (.aload_n 0, 1) := by decide +kernel
theorem dX0_keyOfSetting_26 : decode cX0_keyOfSetting 26 = .ok (.iload_n 1, 1) := by decide +kernel
theorem dX0_keyOfSetting_27 : decode cX0_keyOfSetting 27 = .ok (.iload_n 2, 1) := by decide +kernel
theorem dX0_keyOfSetting_28 : decode cX0_keyOfSetting 28 = .ok (.iload_n 1, 1) := by decide +kernel
theorem dX0_keyOfSetting_29 : decode cX0_keyOfSetting 29 = .ok (.isub, 1) := by decide +kernel
theorem dX0_keyOfSetting_30 : decode cX0_keyOfSetting 30 = .ok (.invokevirtual 136, 3) := by decide +kernel
theorem dX0_keyOfSetting_33 : decode cX0_keyOfSetting 33 = .ok (.iadd, 1) := by decide +kernel
theorem dX0_keyOfSetting_34 : decode cX0_keyOfSetting 34 = .ok (.invokevirtual 139, 3) := by decide +kernel
theorem dX0_keyOfSetting_37 : decode cX0_keyOfSetting 37 = .ok (.lreturn, 1) := by decide +kernel
theorem dX0_uglinessOf_0 : decode cX0_uglinessOf 0 = .ok (.lload_n 0, 1) := by decide +kernel
theorem dX0_uglinessOf_1 : decode cX0_uglinessOf 1 = .ok (.bipush 42, 2) := by decide +kernel
theorem dX0_uglinessOf_3 : decode cX0_uglinessOf 3 = .ok (.lshr, 1) := by decide +kernel
theorem dX0_uglinessOf_4 : decode cX0_uglinessOf 4 = .ok (.l2i, 1) := by decide +kernel
theorem dX0_uglinessOf_5 : decode cX0_uglinessOf 5 = .ok (.ireturn, 1) := by decide +kernel
theorem dX0_heightIn_0 : decode cX0_heightIn 0 = .ok (.aload_n 0, 1) := by decide +kernel
theorem dX0_heightIn_1 : decode cX0_heightIn 1 = .ok (.getfield 23, 3) := by decide +kernel
theorem dX0_heightIn_4 : decode cX0_heightIn 4 = .ok (.iconst 0, 1) := by decide +kernel
theorem dX0_heightIn_5 : decode cX0_heightIn 5 = .ok (.iaload, 1) := by decide +kernel
theorem dX0_heightIn_6 : decode cX0_heightIn 6 = .ok (.lload_n 1, 1) := by decide +kernel
theorem dX0_heightIn_7 : decode cX0_heightIn 7 = .ok (.ldc2_w 143, 3) := by decide +kernel
theorem dX0_heightIn_10 : decode cX0_heightIn 10 = .ok (.land, 1) := by decide +kernel
theorem dX0_heightIn_11 : decode cX0_heightIn 11 = .ok (.l2i, 1) := by decide +kernel
theorem dX0_heightIn_12 : decode cX0_heightIn 12 = .ok (.bipush 60, 2) := by decide +kernel
theorem dX0_heightIn_14 : decode cX0_heightIn 14 = .ok (.isub, 1) := by decide +kernel
theorem dX0_heightIn_15 : decode cX0_heightIn 15 = .ok (.imul, 1) := by decide +kernel
theorem dX0_heightIn_16 : decode cX0_heightIn 16 = .ok (.ireturn, 1) := by decide +kernel
theorem dX0_leftOf_0 : decode cX0_leftOf 0 = .ok (.aload_n 0, 1) := by decide +kernel
theorem dX0_leftOf_1 : decode cX0_leftOf 1 = .ok (.lload_n 1, 1) := by decide +kernel
theorem dX0_leftOf_2 : decode cX0_leftOf 2 = .ok (.bipush 7, 2) := by decide +kernel
theorem dX0_leftOf_4 : decode cX0_leftOf 4 = .ok (.lshr, 1) := by decide +kernel
theorem dX0_leftOf_5 : decode cX0_leftOf 5 = .ok (.invokevirtual 145, 3) := by decide +kernel
theorem dX0_leftOf_8 : decode cX0_leftOf 8 = .ok (.ireturn, 1) := by decide +kernel
theorem dX0_rightOf_0 : decode cX0_rightOf 0 = .ok (.aload_n 0, 1) := by decide +kernel
theorem dX0_rightOf_1 : decode cX0_rightOf 1 = .ok (.lload_n 1, 1) := by decide +kernel
theorem dX0_rightOf_2 : decode cX0_rightOf 2 = .ok (.invokevirtual 145, 3) := by decide +kernel
theorem dX0_rightOf_5 : decode cX0_rightOf 5 = .ok (.ireturn, 1) := by decide +kernel
theorem dX0_tell_0 : decode cX0_tell 0 = .ok (.iload_n 3, 1) := by decide +kernel
theorem dX0_tell_1 : decode cX0_tell 1 = .ok (.tableswitch 44 0 2 #[27, 33, 39], 27) := by decide +kernel
theorem dX0_tell_28 : decode cX0_tell 28 = .ok (.aload_n 0, 1) := by decide +kernel
theorem dX0_tell_29 : decode cX0_tell 29 = .ok (.lload_n 1, 1) := by decide +kernel
theorem dX0_tell_30 : decode cX0_tell 30 = .ok (.invokevirtual 149, 3) := by decide +kernel
theorem dX0_tell_33 : decode cX0_tell 33 = .ok (.ireturn, 1) := by decide +kernel
theorem dX0_tell_34 : decode cX0_tell 34 = .ok (.aload_n 0, 1) := by decide +kernel
theorem dX0_tell_35 : decode cX0_tell 35 = .ok (.lload_n 1, 1) := by decide +kernel
theorem dX0_tell_36 : decode cX0_tell 36 = .ok (.invokevirtual 152, 3) := by decide +kernel
theorem dX0_tell_39 : decode cX0_tell 39 = .ok (.ireturn, 1) := by decide +kernel
theorem dX0_tell_40 : decode cX0_tell 40 = .ok (.lload_n 1, 1) := by decide +kernel
theorem dX0_tell_41 : decode cX0_tell 41 = .ok (.invokestatic 155, 3) := by decide +kernel
theorem dX0_tell_44 : decode cX0_tell 44 = .ok (.ireturn, 1) := by decide +kernel
theorem dX0_tell_45 : decode cX0_tell 45 = .ok (.aload_n 0, 1) := by decide +kernel
theorem dX0_tell_46 : decode cX0_tell 46 = .ok (.aload_n 0, 1) := by decide +kernel
theorem dX0_tell_47 : decode cX0_tell 47 = .ok (.lload_n 1, 1) := by decide +kernel
theorem dX0_tell_48 : decode cX0_tell 48 = .ok (.invokevirtual 149, 3) := by decide +kernel
theorem dX0_tell_51 : decode cX0_tell 51 = .ok (.aload_n 0, 1) := by decide +kernel
theorem dX0_tell_52 : decode cX0_tell 52 = .ok (.lload_n 1, 1) := by decide +kernel
theorem dX0_tell_53 : decode cX0_tell 53 = .ok (.invokevirtual 152, 3) := by decide +kernel
theorem dX0_tell_56 : decode cX0_tell 56 = .ok (.iload_n 3, 1) := by decide +kernel
theorem dX0_tell_57 : decode cX0_tell 57 = .ok (.invokevirtual 158, 3) := by decide +kernel
theorem dX0_tell_60 : decode cX0_tell 60 = .ok (.ireturn, 1) := by decide +kernel
theorem dX0_tellSetting_0 : decode cX0_tellSetting 0 = .ok (.iload_n 2, 1) := by decide +kernel
theorem dX0_tellSetting_1 : decode cX0_tellSetting 1 = .ok (.iload_n 1, 1) := by decide +kernel
theorem dX0_tellSetting_2 : decode cX0_tellSetting 2 = .ok (.isub, 1) := by decide +kernel
theorem dX0_tellSetting_3 : decode cX0_tellSetting 3 = .ok (.istore 4, 2) := by decide +kernel
theorem dX0_tellSetting_5 : decode cX0_tellSetting 5 = .ok (.aload_n 0, 1) := by decide +kernel
theorem dX0_tellSetting_6 : decode cX0_tellSetting 6 = .ok (.iload 4, 2) := by decide +kernel
theorem dX0_tellSetting_8 : decode cX0_tellSetting 8 = .ok (.invokevirtual 119, 3) := by decide +kernel
theorem dX0_tellSetting_11 : decode cX0_tellSetting 11 = .ok (.iload_n 3, 1) := by decide +kernel
theorem dX0_tellSetting_12 : decode cX0_tellSetting 12 = .ok (.tableswitch 49 3 5 #[28, 34, 41], 28) := by decide +kernel
theorem dX0_tellSetting_40 : decode cX0_tellSetting 40 = .ok (.aload_n 0, 1) := by decide +kernel
theorem dX0_tellSetting_41 : decode cX0_tellSetting 41 = .ok (.iload_n 1, 1) := by decide +kernel
theorem dX0_tellSetting_42 : decode cX0_tellSetting 42 = .ok (.invokevirtual 130, 3) := by decide +kernel
theorem dX0_tellSetting_45 : decode cX0_tellSetting 45 = .ok (.ireturn, 1) := by decide +kernel
theorem dX0_tellSetting_46 : decode cX0_tellSetting 46 = .ok (.aload_n 0, 1) := by decide +kernel
theorem dX0_tellSetting_47 : decode cX0_tellSetting 47 = .ok (.iload 4, 2) := by decide +kernel
theorem dX0_tellSetting_49 : decode cX0_tellSetting 49 = .ok (.invokevirtual 133, 3) := by decide +kernel
theorem dX0_tellSetting_52 : decode cX0_tellSetting 52 = .ok (.ireturn, 1) := by decide +kernel
theorem dX0_tellSetting_53 : decode cX0_tellSetting 53 = .ok (.aload_n 0, 1) := by decide +kernel
theorem dX0_tellSetting_54 : decode cX0_tellSetting 54 = .ok (.iload_n 1, 1) := by decide +kernel
theorem dX0_tellSetting_55 : decode cX0_tellSetting 55 = .ok (.iload 4, 2) := by decide +kernel
theorem dX0_tellSetting_57 : decode cX0_tellSetting 57 = .ok (.invokevirtual 136, 3) := by decide +kernel
theorem dX0_tellSetting_60 : decode cX0_tellSetting 60 = .ok (.ireturn, 1) := by decide +kernel
theorem dX0_tellSetting_61 : decode cX0_tellSetting 61 = .ok (.aload_n 0, 1) := by decide +kernel
theorem dX0_tellSetting_62 : decode cX0_tellSetting 62 = .ok (.iload_n 1, 1) := by decide +kernel
theorem dX0_tellSetting_63 : decode cX0_tellSetting 63 = .ok (.invokevirtual 130, 3) := by decide +kernel
theorem dX0_tellSetting_66 : decode cX0_tellSetting 66 = .ok (.aload_n 0, 1) := by decide +kernel
theorem dX0_tellSetting_67 : decode cX0_tellSetting 67 = .ok (.iload 4, 2) := by decide +kernel
theorem dX0_tellSetting_69 : decode cX0_tellSetting 69 = .ok (.invokevirtual 133, 3) := by decide +kernel
theorem dX0_tellSetting_72 : decode cX0_tellSetting 72 = .ok (.iadd, 1) := by decide +kernel
theorem dX0_tellSetting_73 : decode cX0_tellSetting 73 = .ok (.aload_n 0, 1) := by decide +kernel
theorem dX0_tellSetting_74 : decode cX0_tellSetting 74 = .ok (.iload_n 1, 1) := by decide +kernel
theorem dX0_tellSetting_75 : decode cX0_tellSetting 75 = .ok (.iload 4, 2) := by decide +kernel
theorem dX0_tellSetting_77 : decode cX0_tellSetting 77 = .ok (.invokevirtual 136, 3) := by decide +kernel
theorem dX0_tellSetting_80 : decode cX0_tellSetting 80 = .ok (.iadd, 1) := by decide +kernel
theorem dX0_tellSetting_81 : decode cX0_tellSetting 81 = .ok (.ireturn, 1) := by decide +kernel
theorem dX0_findBest_0 : decode cX0_findBest 0 = .ok (.ldc2_w 165, 3) := by decide +kernel
theorem dX0_findBest_3 : decode cX0_findBest 3 = .ok (.lstore_n 1, 1) := by decide +kernel
theorem dX0_findBest_4 : decode cX0_findBest 4 = .ok (.iconst 0, 1) := by decide +kernel
theorem dX0_findBest_5 : decode cX0_findBest 5 = .ok (.istore_n 3, 1) := by decide +kernel
theorem dX0_findBest_6 : decode cX0_findBest 6 = .ok (.iload_n 3, 1) := by decide +kernel
theorem dX0_findBest_7 : decode cX0_findBest 7 = .ok (.bipush 13, 2) := by decide +kernel
theorem dX0_findBest_9 : decode cX0_findBest 9 = .ok (.if_icmp .gt 48, 3) := by decide +kernel
theorem dX0_findBest_12 : decode cX0_findBest 12 = .ok (.bipush 6, 2) := by decide +kernel
theorem dX0_findBest_14 : decode cX0_findBest 14 = .ok (.iload_n 3, 1) := by decide +kernel
theorem dX0_findBest_15 : decode cX0_findBest 15 = .ok (.imul, 1) := by decide +kernel
theorem dX0_findBest_16 : decode cX0_findBest 16 = .ok (.lload_n 1, 1) := by decide +kernel
theorem dX0_findBest_17 : decode cX0_findBest 17 = .ok (.invokestatic 155, 3) := by decide +kernel
theorem dX0_findBest_20 : decode cX0_findBest 20 = .ok (.if_icmp .gt 37, 3) := by decide +kernel
theorem dX0_findBest_23 : decode cX0_findBest 23 = .ok (.aload_n 0, 1) := by decide +kernel
theorem dX0_findBest_24 : decode cX0_findBest 24 = .ok (.aload_n 0, 1) := by decide +kernel
theorem dX0_findBest_25 : decode cX0_findBest 25 = .ok (.getfield 101, 3) := by decide +kernel
theorem dX0_findBest_28 : decode cX0_findBest 28 = .ok (.iload_n 3, 1) := by decide +kernel
theorem dX0_findBest_29 : decode cX0_findBest 29 = .ok (.isub, 1) := by decide +kernel
theorem dX0_findBest_30 : decode cX0_findBest 30 = .ok (.lload_n 1, 1) := by decide +kernel
theorem dX0_findBest_31 : decode cX0_findBest 31 = .ok (.invokevirtual 167, 3) := by decide +kernel
theorem dX0_findBest_34 : decode cX0_findBest 34 = .ok (.lstore_n 1, 1) := by decide +kernel
theorem dX0_findBest_35 : decode cX0_findBest 35 = .ok (.iload_n 3, 1) := by decide +kernel
theorem dX0_findBest_36 : decode cX0_findBest 36 = .ok (.ifCond .le 15, 3) := by decide +kernel
theorem dX0_findBest_39 : decode cX0_findBest 39 = .ok (.aload_n 0, 1) := by decide +kernel
theorem dX0_findBest_40 : decode cX0_findBest 40 = .ok (.aload_n 0, 1) := by decide +kernel
theorem dX0_findBest_41 : decode cX0_findBest 41 = .ok (.getfield 101, 3) := by decide +kernel
theorem dX0_findBest_44 : decode cX0_findBest 44 = .ok (.iload_n 3, 1) := by decide +kernel
theorem dX0_findBest_45 : decode cX0_findBest 45 = .ok (.iadd, 1) := by decide +kernel
theorem dX0_findBest_46 : decode cX0_findBest 46 = .ok (.lload_n 1, 1) := by decide +kernel
theorem dX0_findBest_47 : decode cX0_findBest 47 = .ok (.invokevirtual 167, 3) := by decide +kernel
theorem dX0_findBest_50 : decode cX0_findBest 50 = .ok (.lstore_n 1, 1) := by decide +kernel
theorem dX0_findBest_51 : decode cX0_findBest 51 = .ok (.iinc 3 1, 3) := by decide +kernel
theorem dX0_findBest_54 : decode cX0_findBest 54 = .ok (.goto (-48), 3) := by decide +kernel
theorem dX0_findBest_57 : decode cX0_findBest 57 = .ok (.lload_n 1, 1) := by decide +kernel
theorem dX0_findBest_58 : decode cX0_findBest 58 = .ok (.lreturn, 1) := by decide +kernel
theorem dX0_bestSloping_0 : decode cX0_bestSloping 0 = .ok (.iload_n 1, 1) := by decide +kernel
theorem dX0_bestSloping_1 : decode cX0_bestSloping 1 = .ok (.bipush (-8), 2) := by decide +kernel
theorem dX0_bestSloping_3 : decode cX0_bestSloping 3 = .ok (.if_icmp .lt 9, 3) := by decide +kernel
theorem dX0_bestSloping_6 : decode cX0_bestSloping 6 = .ok (.iload_n 1, 1) := by decide +kernel
theorem dX0_bestSloping_7 : decode cX0_bestSloping 7 = .ok (.bipush 8, 2) := by decide +kernel
theorem dX0_bestSloping_9 : decode cX0_bestSloping 9 = .ok (.if_icmp .le 5, 3) := by decide +kernel
theorem dX0_bestSloping_12 : decode cX0_bestSloping 12 = .ok (.lload_n 2, 1) := by decide +kernel
theorem dX0_bestSloping_13 : decode cX0_bestSloping 13 = .ok (.lreturn, 1) := by decide +kernel
theorem dX0_bestSloping_14 : decode cX0_bestSloping 14 = .ok (.aload_n 0, 1) := by decide +kernel
theorem dX0_bestSloping_15 : decode cX0_bestSloping 15 = .ok (.iload_n 1, 1) := by decide +kernel
theorem dX0_bestSloping_16 : decode cX0_bestSloping 16 = .ok (.invokevirtual 119, 3) := by decide +kernel
theorem dX0_bestSloping_19 : decode cX0_bestSloping 19 = .ok (.aload_n 0, 1) := by decide +kernel
theorem dX0_bestSloping_20 : decode cX0_bestSloping 20 = .ok (.iload_n 1, 1) := by decide +kernel
theorem dX0_bestSloping_21 : decode cX0_bestSloping 21 = .ok (.invokevirtual 133, 3) := by decide +kernel
theorem dX0_bestSloping_24 : decode cX0_bestSloping 24 = .ok (.istore 4, 2) := by decide +kernel
theorem dX0_bestSloping_26 : decode cX0_bestSloping 26 = .ok (.lload_n 2, 1) := by decide +kernel
theorem dX0_bestSloping_27 : decode cX0_bestSloping 27 = .ok (.lstore 5, 2) := by decide +kernel
theorem dX0_bestSloping_29 : decode cX0_bestSloping 29 = .ok (.aload_n 0, 1) := by decide +kernel
theorem dX0_bestSloping_30 : decode cX0_bestSloping 30 = .ok (.getfield 104, 3) := by decide +kernel
theorem dX0_bestSloping_33 : decode cX0_bestSloping 33 = .ok (.istore 7, 2) := by decide +kernel
theorem dX0_bestSloping_35 : decode cX0_bestSloping 35 = .ok (.iload 7, 2) := by decide +kernel
theorem dX0_bestSloping_37 : decode cX0_bestSloping 37 = .ok (.aload_n 0, 1) := by decide +kernel
theorem dX0_bestSloping_38 : decode cX0_bestSloping 38 = .ok (.getfield 107, 3) := by decide +kernel
theorem dX0_bestSloping_41 : decode cX0_bestSloping 41 = .ok (.if_icmp .gt 54, 3) := by decide +kernel
theorem dX0_bestSloping_44 : decode cX0_bestSloping 44 = .ok (.iload 4, 2) := by decide +kernel
theorem dX0_bestSloping_46 : decode cX0_bestSloping 46 = .ok (.aload_n 0, 1) := by decide +kernel
theorem dX0_bestSloping_47 : decode cX0_bestSloping 47 = .ok (.iload 7, 2) := by decide +kernel
theorem dX0_bestSloping_49 : decode cX0_bestSloping 49 = .ok (.invokevirtual 130, 3) := by decide +kernel
theorem dX0_bestSloping_52 : decode cX0_bestSloping 52 = .ok (.iadd, 1) := by decide +kernel
theorem dX0_bestSloping_53 : decode cX0_bestSloping 53 = .ok (.istore 8, 2) := by decide +kernel
theorem dX0_bestSloping_55 : decode cX0_bestSloping 55 = .ok (.iload 8, 2) := by decide +kernel
theorem dX0_bestSloping_57 : decode cX0_bestSloping 57 = .ok (.lload 5, 2) := by decide +kernel
theorem dX0_bestSloping_59 : decode cX0_bestSloping 59 = .ok (.invokestatic 155, 3) := by decide +kernel
theorem dX0_bestSloping_62 : decode cX0_bestSloping 62 = .ok (.if_icmp .gt 27, 3) := by decide +kernel
theorem dX0_bestSloping_65 : decode cX0_bestSloping 65 = .ok (.lload 5, 2) := by decide +kernel
theorem dX0_bestSloping_67 : decode cX0_bestSloping 67 = .ok (.aload_n 0, 1) := by decide +kernel
theorem dX0_bestSloping_68 : decode cX0_bestSloping 68 = .ok (.iload 7, 2) := by decide +kernel
theorem dX0_bestSloping_70 : decode cX0_bestSloping 70 = .ok (.iload_n 1, 1) := by decide +kernel
theorem dX0_bestSloping_71 : decode cX0_bestSloping 71 = .ok (.iload 8, 2) := by decide +kernel
theorem dX0_bestSloping_73 : decode cX0_bestSloping 73 = .ok (.aload_n 0, 1) := by decide +kernel
theorem dX0_bestSloping_74 : decode cX0_bestSloping 74 = .ok (.iload 7, 2) := by decide +kernel
theorem dX0_bestSloping_76 : decode cX0_bestSloping 76 = .ok (.iload_n 1, 1) := by decide +kernel
theorem dX0_bestSloping_77 : decode cX0_bestSloping 77 = .ok (.invokevirtual 136, 3) := by decide +kernel
theorem dX0_bestSloping_80 : decode cX0_bestSloping 80 = .ok (.iadd, 1) := by decide +kernel
theorem dX0_bestSloping_81 : decode cX0_bestSloping 81 = .ok (.invokevirtual 139, 3) := by decide +kernel
theorem dX0_bestSloping_84 : decode cX0_bestSloping 84 = .ok (.invokestatic 171, 3) := by decide +kernel
theorem dX0_bestSloping_87 : decode cX0_bestSloping 87 = .ok (.lstore 5, 2) := by decide +kernel
theorem dX0_bestSloping_89 : decode cX0_bestSloping 89 = .ok (.iinc 7 1, 3) := by decide +kernel
theorem dX0_bestSloping_92 : decode cX0_bestSloping 92 = .ok (.goto (-57), 3) := by decide +kernel
theorem dX0_bestSloping_95 : decode cX0_bestSloping 95 = .ok (.lload 5, 2) := by decide +kernel
theorem dX0_bestSloping_97 : decode cX0_bestSloping 97 = .ok (.lreturn, 1) := by decide +kernel
theorem dX0_gather_0 : decode cX0_gather 0 = .ok (.aload_n 0, 1) := by decide +kernel
theorem dX0_gather_1 : decode cX0_gather 1 = .ok (.iconst 0, 1) := by decide +kernel
theorem dX0_gather_2 : decode cX0_gather 2 = .ok (.putfield 54, 3) := by decide +kernel
theorem dX0_gather_5 : decode cX0_gather 5 = .ok (.bipush (-8), 2) := by decide +kernel
theorem dX0_gather_7 : decode cX0_gather 7 = .ok (.istore_n 1, 1) := by decide +kernel
theorem dX0_gather_8 : decode cX0_gather 8 = .ok (.iload_n 1, 1) := by decide +kernel
theorem dX0_gather_9 : decode cX0_gather 9 = .ok (.bipush 8, 2) := by decide +kernel
theorem dX0_gather_11 : decode cX0_gather 11 = .ok (.if_icmp .gt 90, 3) := by decide +kernel
theorem dX0_gather_14 : decode cX0_gather 14 = .ok (.aload_n 0, 1) := by decide +kernel
theorem dX0_gather_15 : decode cX0_gather 15 = .ok (.iload_n 1, 1) := by decide +kernel
theorem dX0_gather_16 : decode cX0_gather 16 = .ok (.invokevirtual 119, 3) := by decide +kernel
theorem dX0_gather_19 : decode cX0_gather 19 = .ok (.aload_n 0, 1) := by decide +kernel
theorem dX0_gather_20 : decode cX0_gather 20 = .ok (.iload_n 1, 1) := by decide +kernel
theorem dX0_gather_21 : decode cX0_gather 21 = .ok (.invokevirtual 133, 3) := by decide +kernel
theorem dX0_gather_24 : decode cX0_gather 24 = .ok (.istore_n 2, 1) := by decide +kernel
theorem dX0_gather_25 : decode cX0_gather 25 = .ok (.aload_n 0, 1) := by decide +kernel
theorem dX0_gather_26 : decode cX0_gather 26 = .ok (.getfield 104, 3) := by decide +kernel
theorem dX0_gather_29 : decode cX0_gather 29 = .ok (.istore_n 3, 1) := by decide +kernel
theorem dX0_gather_30 : decode cX0_gather 30 = .ok (.iload_n 3, 1) := by decide +kernel
theorem dX0_gather_31 : decode cX0_gather 31 = .ok (.aload_n 0, 1) := by decide +kernel
theorem dX0_gather_32 : decode cX0_gather 32 = .ok (.getfield 107, 3) := by decide +kernel
theorem dX0_gather_35 : decode cX0_gather 35 = .ok (.if_icmp .gt 60, 3) := by decide +kernel
theorem dX0_gather_38 : decode cX0_gather 38 = .ok (.aload_n 0, 1) := by decide +kernel
theorem dX0_gather_39 : decode cX0_gather 39 = .ok (.getfield 54, 3) := by decide +kernel
theorem dX0_gather_42 : decode cX0_gather 42 = .ok (.aload_n 0, 1) := by decide +kernel
theorem dX0_gather_43 : decode cX0_gather 43 = .ok (.getfield 29, 3) := by decide +kernel
theorem dX0_gather_46 : decode cX0_gather 46 = .ok (.arraylength, 1) := by decide +kernel
theorem dX0_gather_47 : decode cX0_gather 47 = .ok (.if_icmp .ge 48, 3) := by decide +kernel
theorem dX0_gather_50 : decode cX0_gather 50 = .ok (.aload_n 0, 1) := by decide +kernel
theorem dX0_gather_51 : decode cX0_gather 51 = .ok (.getfield 29, 3) := by decide +kernel
theorem dX0_gather_54 : decode cX0_gather 54 = .ok (.aload_n 0, 1) := by decide +kernel
theorem dX0_gather_55 : decode cX0_gather 55 = .ok (.getfield 54, 3) := by decide +kernel
theorem dX0_gather_58 : decode cX0_gather 58 = .ok (.aload_n 0, 1) := by decide +kernel
theorem dX0_gather_59 : decode cX0_gather 59 = .ok (.iload_n 3, 1) := by decide +kernel
theorem dX0_gather_60 : decode cX0_gather 60 = .ok (.iload_n 1, 1) := by decide +kernel
theorem dX0_gather_61 : decode cX0_gather 61 = .ok (.iload_n 2, 1) := by decide +kernel
theorem dX0_gather_62 : decode cX0_gather 62 = .ok (.aload_n 0, 1) := by decide +kernel
theorem dX0_gather_63 : decode cX0_gather 63 = .ok (.iload_n 3, 1) := by decide +kernel
theorem dX0_gather_64 : decode cX0_gather 64 = .ok (.invokevirtual 130, 3) := by decide +kernel
theorem dX0_gather_67 : decode cX0_gather 67 = .ok (.iadd, 1) := by decide +kernel
theorem dX0_gather_68 : decode cX0_gather 68 = .ok (.aload_n 0, 1) := by decide +kernel
theorem dX0_gather_69 : decode cX0_gather 69 = .ok (.iload_n 3, 1) := by decide +kernel
theorem dX0_gather_70 : decode cX0_gather 70 = .ok (.iload_n 1, 1) := by decide +kernel
theorem dX0_gather_71 : decode cX0_gather 71 = .ok (.invokevirtual 136, 3) := by decide +kernel
theorem dX0_gather_74 : decode cX0_gather 74 = .ok (.iadd, 1) := by decide +kernel
theorem dX0_gather_75 : decode cX0_gather 75 = .ok (.invokevirtual 139, 3) := by decide +kernel
theorem dX0_gather_78 : decode cX0_gather 78 = .ok (.lastore, 1) := by decide +kernel
theorem dX0_gather_79 : decode cX0_gather 79 = .ok (.aload_n 0, 1) := by decide +kernel
theorem dX0_gather_80 : decode cX0_gather 80 = .ok (.dup, 1) := by decide +kernel
theorem dX0_gather_81 : decode cX0_gather 81 = .ok (.getfield 54, 3) := by decide +kernel
theorem dX0_gather_84 : decode cX0_gather 84 = .ok (.iconst 1, 1) := by decide +kernel
theorem dX0_gather_85 : decode cX0_gather 85 = .ok (.iadd, 1) := by decide +kernel
theorem dX0_gather_86 : decode cX0_gather 86 = .ok (.putfield 54, 3) := by decide +kernel
theorem dX0_gather_89 : decode cX0_gather 89 = .ok (.iinc 3 1, 3) := by decide +kernel
theorem dX0_gather_92 : decode cX0_gather 92 = .ok (.goto (-62), 3) := by decide +kernel
theorem dX0_gather_95 : decode cX0_gather 95 = .ok (.iinc 1 1, 3) := by decide +kernel
theorem dX0_gather_98 : decode cX0_gather 98 = .ok (.goto (-90), 3) := by decide +kernel
theorem dX0_gather_101 : decode cX0_gather 101 = .ok (.aload_n 0, 1) := by decide +kernel
theorem dX0_gather_102 : decode cX0_gather 102 = .ok (.getfield 54, 3) := by decide +kernel
theorem dX0_gather_105 : decode cX0_gather 105 = .ok (.ireturn, 1) := by decide +kernel
theorem dX0_rankOf_0 : decode cX0_rankOf 0 = .ok (.aload_n 0, 1) := by decide +kernel
theorem dX0_rankOf_1 : decode cX0_rankOf 1 = .ok (.invokevirtual 174, 3) := by decide +kernel
theorem dX0_rankOf_4 : decode cX0_rankOf 4 = .ok (.istore_n 3, 1) := by decide +kernel
theorem dX0_rankOf_5 : decode cX0_rankOf 5 = .ok (.iconst 0, 1) := by decide +kernel
theorem dX0_rankOf_6 : decode cX0_rankOf 6 = .ok (.istore 4, 2) := by decide +kernel
theorem dX0_rankOf_8 : decode cX0_rankOf 8 = .ok (.iconst 0, 1) := by decide +kernel
theorem dX0_rankOf_9 : decode cX0_rankOf 9 = .ok (.istore 5, 2) := by decide +kernel
theorem dX0_rankOf_11 : decode cX0_rankOf 11 = .ok (.iload 5, 2) := by decide +kernel
theorem dX0_rankOf_13 : decode cX0_rankOf 13 = .ok (.iload_n 3, 1) := by decide +kernel
theorem dX0_rankOf_14 : decode cX0_rankOf 14 = .ok (.if_icmp .ge 31, 3) := by decide +kernel
theorem dX0_rankOf_17 : decode cX0_rankOf 17 = .ok (.iload 4, 2) := by decide +kernel
theorem dX0_rankOf_19 : decode cX0_rankOf 19 = .ok (.aload_n 0, 1) := by decide +kernel
theorem dX0_rankOf_20 : decode cX0_rankOf 20 = .ok (.getfield 29, 3) := by decide +kernel
theorem dX0_rankOf_23 : decode cX0_rankOf 23 = .ok (.iload 5, 2) := by decide +kernel
theorem dX0_rankOf_25 : decode cX0_rankOf 25 = .ok (.laload, 1) := by decide +kernel
theorem dX0_rankOf_26 : decode cX0_rankOf 26 = .ok (.lload_n 1, 1) := by decide +kernel
theorem dX0_rankOf_27 : decode cX0_rankOf 27 = .ok (.lcmp, 1) := by decide +kernel
theorem dX0_rankOf_28 : decode cX0_rankOf 28 = .ok (.ifCond .ge 7, 3) := by decide +kernel
theorem dX0_rankOf_31 : decode cX0_rankOf 31 = .ok (.iconst 1, 1) := by decide +kernel
theorem dX0_rankOf_32 : decode cX0_rankOf 32 = .ok (.goto 4, 3) := by decide +kernel
theorem dX0_rankOf_35 : decode cX0_rankOf 35 = .ok (.iconst 0, 1) := by decide +kernel
theorem dX0_rankOf_36 : decode cX0_rankOf 36 = .ok (.iadd, 1) := by decide +kernel
theorem dX0_rankOf_37 : decode cX0_rankOf 37 = .ok (.istore 4, 2) := by decide +kernel
theorem dX0_rankOf_39 : decode cX0_rankOf 39 = .ok (.iinc 5 1, 3) := by decide +kernel
theorem dX0_rankOf_42 : decode cX0_rankOf 42 = .ok (.goto (-31), 3) := by decide +kernel
theorem dX0_rankOf_45 : decode cX0_rankOf 45 = .ok (.iload 4, 2) := by decide +kernel
theorem dX0_rankOf_47 : decode cX0_rankOf 47 = .ok (.ireturn, 1) := by decide +kernel
theorem dX0_sortKeys_0 : decode cX0_sortKeys 0 = .ok (.aload_n 0, 1) := by decide +kernel
theorem dX0_sortKeys_1 : decode cX0_sortKeys 1 = .ok (.getfield 54, 3) := by decide +kernel
theorem dX0_sortKeys_4 : decode cX0_sortKeys 4 = .ok (.iconst 2, 1) := by decide +kernel
theorem dX0_sortKeys_5 : decode cX0_sortKeys 5 = .ok (.idiv, 1) := by decide +kernel
theorem dX0_sortKeys_6 : decode cX0_sortKeys 6 = .ok (.istore_n 1, 1) := by decide +kernel
theorem dX0_sortKeys_7 : decode cX0_sortKeys 7 = .ok (.iload_n 1, 1) := by decide +kernel
theorem dX0_sortKeys_8 : decode cX0_sortKeys 8 = .ok (.ifCond .le 89, 3) := by decide +kernel
theorem dX0_sortKeys_11 : decode cX0_sortKeys 11 = .ok (.iload_n 1, 1) := by decide +kernel
theorem dX0_sortKeys_12 : decode cX0_sortKeys 12 = .ok (.istore_n 2, 1) := by decide +kernel
theorem dX0_sortKeys_13 : decode cX0_sortKeys 13 = .ok (.iload_n 2, 1) := by decide +kernel
theorem dX0_sortKeys_14 : decode cX0_sortKeys 14 = .ok (.aload_n 0, 1) := by decide +kernel
theorem dX0_sortKeys_15 : decode cX0_sortKeys 15 = .ok (.getfield 54, 3) := by decide +kernel
theorem dX0_sortKeys_18 : decode cX0_sortKeys 18 = .ok (.if_icmp .ge 72, 3) := by decide +kernel
theorem dX0_sortKeys_21 : decode cX0_sortKeys 21 = .ok (.aload_n 0, 1) := by decide +kernel
theorem dX0_sortKeys_22 : decode cX0_sortKeys 22 = .ok (.getfield 29, 3) := by decide +kernel
theorem dX0_sortKeys_25 : decode cX0_sortKeys 25 = .ok (.iload_n 2, 1) := by decide +kernel
theorem dX0_sortKeys_26 : decode cX0_sortKeys 26 = .ok (.laload, 1) := by decide +kernel
theorem dX0_sortKeys_27 : decode cX0_sortKeys 27 = .ok (.lstore_n 3, 1) := by decide +kernel
theorem dX0_sortKeys_28 : decode cX0_sortKeys 28 = .ok (.iload_n 2, 1) := by decide +kernel
theorem dX0_sortKeys_29 : decode cX0_sortKeys 29 = .ok (.istore 5, 2) := by decide +kernel
theorem dX0_sortKeys_31 : decode cX0_sortKeys 31 = .ok (.iload 5, 2) := by decide +kernel
theorem dX0_sortKeys_33 : decode cX0_sortKeys 33 = .ok (.iload_n 1, 1) := by decide +kernel
theorem dX0_sortKeys_34 : decode cX0_sortKeys 34 = .ok (.if_icmp .lt 42, 3) := by decide +kernel
theorem dX0_sortKeys_37 : decode cX0_sortKeys 37 = .ok (.aload_n 0, 1) := by decide +kernel
theorem dX0_sortKeys_38 : decode cX0_sortKeys 38 = .ok (.getfield 29, 3) := by decide +kernel
theorem dX0_sortKeys_41 : decode cX0_sortKeys 41 = .ok (.iload 5, 2) := by decide +kernel
theorem dX0_sortKeys_43 : decode cX0_sortKeys 43 = .ok (.iload_n 1, 1) := by decide +kernel
theorem dX0_sortKeys_44 : decode cX0_sortKeys 44 = .ok (.isub, 1) := by decide +kernel
theorem dX0_sortKeys_45 : decode cX0_sortKeys 45 = .ok (.laload, 1) := by decide +kernel
theorem dX0_sortKeys_46 : decode cX0_sortKeys 46 = .ok (.lload_n 3, 1) := by decide +kernel
theorem dX0_sortKeys_47 : decode cX0_sortKeys 47 = .ok (.lcmp, 1) := by decide +kernel
theorem dX0_sortKeys_48 : decode cX0_sortKeys 48 = .ok (.ifCond .le 28, 3) := by decide +kernel
theorem dX0_sortKeys_51 : decode cX0_sortKeys 51 = .ok (.aload_n 0, 1) := by decide +kernel
theorem dX0_sortKeys_52 : decode cX0_sortKeys 52 = .ok (.getfield 29, 3) := by decide +kernel
theorem dX0_sortKeys_55 : decode cX0_sortKeys 55 = .ok (.iload 5, 2) := by decide +kernel
theorem dX0_sortKeys_57 : decode cX0_sortKeys 57 = .ok (.aload_n 0, 1) := by decide +kernel
theorem dX0_sortKeys_58 : decode cX0_sortKeys 58 = .ok (.getfield 29, 3) := by decide +kernel
theorem dX0_sortKeys_61 : decode cX0_sortKeys 61 = .ok (.iload 5, 2) := by decide +kernel
theorem dX0_sortKeys_63 : decode cX0_sortKeys 63 = .ok (.iload_n 1, 1) := by decide +kernel
theorem dX0_sortKeys_64 : decode cX0_sortKeys 64 = .ok (.isub, 1) := by decide +kernel
theorem dX0_sortKeys_65 : decode cX0_sortKeys 65 = .ok (.laload, 1) := by decide +kernel
theorem dX0_sortKeys_66 : decode cX0_sortKeys 66 = .ok (.lastore, 1) := by decide +kernel
theorem dX0_sortKeys_67 : decode cX0_sortKeys 67 = .ok (.iload 5, 2) := by decide +kernel
theorem dX0_sortKeys_69 : decode cX0_sortKeys 69 = .ok (.iload_n 1, 1) := by decide +kernel
theorem dX0_sortKeys_70 : decode cX0_sortKeys 70 = .ok (.isub, 1) := by decide +kernel
theorem dX0_sortKeys_71 : decode cX0_sortKeys 71 = .ok (.istore 5, 2) := by decide +kernel
theorem dX0_sortKeys_73 : decode cX0_sortKeys 73 = .ok (.goto (-42), 3) := by decide +kernel
theorem dX0_sortKeys_76 : decode cX0_sortKeys 76 = .ok (.aload_n 0, 1) := by decide +kernel
theorem dX0_sortKeys_77 : decode cX0_sortKeys 77 = .ok (.getfield 29, 3) := by decide +kernel
theorem dX0_sortKeys_80 : decode cX0_sortKeys 80 = .ok (.iload 5, 2) := by decide +kernel
theorem dX0_sortKeys_82 : decode cX0_sortKeys 82 = .ok (.lload_n 3, 1) := by decide +kernel
theorem dX0_sortKeys_83 : decode cX0_sortKeys 83 = .ok (.lastore, 1) := by decide +kernel
theorem dX0_sortKeys_84 : decode cX0_sortKeys 84 = .ok (.iinc 2 1, 3) := by decide +kernel
theorem dX0_sortKeys_87 : decode cX0_sortKeys 87 = .ok (.goto (-74), 3) := by decide +kernel
theorem dX0_sortKeys_90 : decode cX0_sortKeys 90 = .ok (.iload_n 1, 1) := by decide +kernel
theorem dX0_sortKeys_91 : decode cX0_sortKeys 91 = .ok (.iconst 2, 1) := by decide +kernel
theorem dX0_sortKeys_92 : decode cX0_sortKeys 92 = .ok (.idiv, 1) := by decide +kernel
theorem dX0_sortKeys_93 : decode cX0_sortKeys 93 = .ok (.istore_n 1, 1) := by decide +kernel
theorem dX0_sortKeys_94 : decode cX0_sortKeys 94 = .ok (.goto (-87), 3) := by decide +kernel
theorem dX0_sortKeys_97 : decode cX0_sortKeys 97 = .ok (.return_, 1) := by decide +kernel
theorem dX1_init_0 : decode cX1_init 0 = .ok (.aload_n 0, 1) := by decide +kernel
theorem dX1_init_1 : decode cX1_init 1 = .ok (.invokespecial 3, 3) := by decide +kernel
theorem dX1_init_4 : decode cX1_init 4 = .ok (.aload_n 0, 1) := by decide +kernel
theorem dX1_init_5 : decode cX1_init 5 = .ok (.bipush 20, 2) := by decide +kernel
theorem dX1_init_7 : decode cX1_init 7 = .ok (.newarray .int, 2) := by decide +kernel
theorem dX1_init_9 : decode cX1_init 9 = .ok (.putfield 11, 3) := by decide +kernel
theorem dX1_init_12 : decode cX1_init 12 = .ok (.aload_n 0, 1) := by decide +kernel
theorem dX1_init_13 : decode cX1_init 13 = .ok (.bipush 20, 2) := by decide +kernel
theorem dX1_init_15 : decode cX1_init 15 = .ok (.newarray .int, 2) := by decide +kernel
theorem dX1_init_17 : decode cX1_init 17 = .ok (.putfield 15, 3) := by decide +kernel
theorem dX1_init_20 : decode cX1_init 20 = .ok (.return_, 1) := by decide +kernel
theorem dX1_remember_0 : decode cX1_remember 0 = .ok (.aload_n 0, 1) := by decide +kernel
theorem dX1_remember_1 : decode cX1_remember 1 = .ok (.getfield 18, 3) := by decide +kernel
theorem dX1_remember_4 : decode cX1_remember 4 = .ok (.bipush 20, 2) := by decide +kernel
theorem dX1_remember_6 : decode cX1_remember 6 = .ok (.if_icmp .ne 43, 3) := by decide +kernel
theorem dX1_remember_9 : decode cX1_remember 9 = .ok (.aload_n 0, 1) := by decide +kernel
theorem dX1_remember_10 : decode cX1_remember 10 = .ok (.getfield 11, 3) := by decide +kernel
theorem dX1_remember_13 : decode cX1_remember 13 = .ok (.iconst 1, 1) := by decide +kernel
theorem dX1_remember_14 : decode cX1_remember 14 = .ok (.aload_n 0, 1) := by decide +kernel
theorem dX1_remember_15 : decode cX1_remember 15 = .ok (.getfield 11, 3) := by decide +kernel
theorem dX1_remember_18 : decode cX1_remember 18 = .ok (.iconst 0, 1) := by decide +kernel
theorem dX1_remember_19 : decode cX1_remember 19 = .ok (.bipush 19, 2) := by decide +kernel
theorem dX1_remember_21 : decode cX1_remember 21 = .ok (.invokestatic 22, 3) := by decide +kernel
theorem dX1_remember_24 : decode cX1_remember 24 = .ok (.aload_n 0, 1) := by decide +kernel
theorem dX1_remember_25 : decode cX1_remember 25 = .ok (.getfield 15, 3) := by decide +kernel
theorem dX1_remember_28 : decode cX1_remember 28 = .ok (.iconst 1, 1) := by decide +kernel
theorem dX1_remember_29 : decode cX1_remember 29 = .ok (.aload_n 0, 1) := by decide +kernel
theorem dX1_remember_30 : decode cX1_remember 30 = .ok (.getfield 15, 3) := by decide +kernel
theorem dX1_remember_33 : decode cX1_remember 33 = .ok (.iconst 0, 1) := by decide +kernel
theorem dX1_remember_34 : decode cX1_remember 34 = .ok (.bipush 19, 2) := by decide +kernel
theorem dX1_remember_36 : decode cX1_remember 36 = .ok (.invokestatic 22, 3) := by decide +kernel
theorem dX1_remember_39 : decode cX1_remember 39 = .ok (.aload_n 0, 1) := by decide +kernel
theorem dX1_remember_40 : decode cX1_remember 40 = .ok (.dup, 1) := by decide +kernel
theorem dX1_remember_41 : decode cX1_remember 41 = .ok (.getfield 18, 3) := by decide +kernel
theorem dX1_remember_44 : decode cX1_remember 44 = .ok (.iconst 1, 1) := by decide +kernel
theorem dX1_remember_45 : decode cX1_remember 45 = .ok (.isub, 1) := by decide +kernel
theorem dX1_remember_46 : decode cX1_remember 46 = .ok (.putfield 18, 3) := by decide +kernel
theorem dX1_remember_49 : decode cX1_remember 49 = .ok (.aload_n 0, 1) := by decide +kernel
theorem dX1_remember_50 : decode cX1_remember 50 = .ok (.getfield 11, 3) := by decide +kernel
theorem dX1_remember_53 : decode cX1_remember 53 = .ok (.aload_n 0, 1) := by decide +kernel
theorem dX1_remember_54 : decode cX1_remember 54 = .ok (.getfield 18, 3) := by decide +kernel
theorem dX1_remember_57 : decode cX1_remember 57 = .ok (.iload_n 1, 1) := by decide +kernel
theorem dX1_remember_58 : decode cX1_remember 58 = .ok (.iastore, 1) := by decide +kernel
theorem dX1_remember_59 : decode cX1_remember 59 = .ok (.aload_n 0, 1) := by decide +kernel
theorem dX1_remember_60 : decode cX1_remember 60 = .ok (.getfield 15, 3) := by decide +kernel
theorem dX1_remember_63 : decode cX1_remember 63 = .ok (.aload_n 0, 1) := by decide +kernel
theorem dX1_remember_64 : decode cX1_remember 64 = .ok (.getfield 18, 3) := by decide +kernel
theorem dX1_remember_67 : decode cX1_remember 67 = .ok (.iload_n 2, 1) := by decide +kernel
theorem dX1_remember_68 : decode cX1_remember 68 = .ok (.iastore, 1) := by decide +kernel
theorem dX1_remember_69 : decode cX1_remember 69 = .ok (.aload_n 0, 1) := by decide +kernel
theorem dX1_remember_70 : decode cX1_remember 70 = .ok (.dup, 1) := by decide +kernel
theorem dX1_remember_71 : decode cX1_remember 71 = .ok (.getfield 18, 3) := by decide +kernel
theorem dX1_remember_74 : decode cX1_remember 74 = .ok (.iconst 1, 1) := by decide +kernel
theorem dX1_remember_75 : decode cX1_remember 75 = .ok (.iadd, 1) := by decide +kernel
theorem dX1_remember_76 : decode cX1_remember 76 = .ok (.putfield 18, 3) := by decide +kernel
theorem dX1_remember_79 : decode cX1_remember 79 = .ok (.return_, 1) := by decide +kernel
theorem dX1_latestElement_0 : decode cX1_latestElement 0 = .ok (.aload_n 0, 1) := by decide +kernel
theorem dX1_latestElement_1 : decode cX1_latestElement 1 = .ok (.getfield 18, 3) := by decide +kernel
theorem dX1_latestElement_4 : decode cX1_latestElement 4 = .ok (.ifCond .le 17, 3) := by decide +kernel
theorem dX1_latestElement_7 : decode cX1_latestElement 7 = .ok (.aload_n 0, 1) := by decide +kernel
theorem dX1_latestElement_8 : decode cX1_latestElement 8 = .ok (.getfield 11, 3) := by decide +kernel
theorem dX1_latestElement_11 : decode cX1_latestElement 11 = .ok (.aload_n 0, 1) := by decide +kernel
theorem dX1_latestElement_12 : decode cX1_latestElement 12 = .ok (.getfield 18, 3) := by decide +kernel
theorem dX1_latestElement_15 : decode cX1_latestElement 15 = .ok (.iconst 1, 1) := by decide +kernel
theorem dX1_latestElement_16 : decode cX1_latestElement 16 = .ok (.isub, 1) := by decide +kernel
theorem dX1_latestElement_17 : decode cX1_latestElement 17 = .ok (.iaload, 1) := by decide +kernel
theorem dX1_latestElement_18 : decode cX1_latestElement 18 = .ok (.goto 4, 3) := by decide +kernel
theorem dX1_latestElement_21 : decode cX1_latestElement 21 = .ok (.iconst (-1), 1) := by decide +kernel
theorem dX1_latestElement_22 : decode cX1_latestElement 22 = .ok (.ireturn, 1) := by decide +kernel
theorem dX1_latestPosition_0 : decode cX1_latestPosition 0 = .ok (.aload_n 0, 1) := by decide +kernel
theorem dX1_latestPosition_1 : decode cX1_latestPosition 1 = .ok (.getfield 18, 3) := by decide +kernel
theorem dX1_latestPosition_4 : decode cX1_latestPosition 4 = .ok (.ifCond .le 17, 3) := by decide +kernel
theorem dX1_latestPosition_7 : decode cX1_latestPosition 7 = .ok (.aload_n 0, 1) := by decide +kernel
theorem dX1_latestPosition_8 : decode cX1_latestPosition 8 = .ok (.getfield 15, 3) := by decide +kernel
theorem dX1_latestPosition_11 : decode cX1_latestPosition 11 = .ok (.aload_n 0, 1) := by decide +kernel
theorem dX1_latestPosition_12 : decode cX1_latestPosition 12 = .ok (.getfield 18, 3) := by decide +kernel
theorem dX1_latestPosition_15 : decode cX1_latestPosition 15 = .ok (.iconst 1, 1) := by decide +kernel
theorem dX1_latestPosition_16 : decode cX1_latestPosition 16 = .ok (.isub, 1) := by decide +kernel
theorem dX1_latestPosition_17 : decode cX1_latestPosition 17 = .ok (.iaload, 1) := by decide +kernel
theorem dX1_latestPosition_18 : decode cX1_latestPosition 18 = .ok (.goto 4, 3) := by decide +kernel
theorem dX1_latestPosition_21 : decode cX1_latestPosition 21 = .ok (.iconst 0, 1) := by decide +kernel
theorem dX1_latestPosition_22 : decode cX1_latestPosition 22 = .ok (.ireturn, 1) := by decide +kernel
theorem dX1_forgetLatest_0 : decode cX1_forgetLatest 0 = .ok (.aload_n 0, 1) := by decide +kernel
theorem dX1_forgetLatest_1 : decode cX1_forgetLatest 1 = .ok (.iconst 0, 1) := by decide +kernel
theorem dX1_forgetLatest_2 : decode cX1_forgetLatest 2 = .ok (.aload_n 0, 1) := by decide +kernel
theorem dX1_forgetLatest_3 : decode cX1_forgetLatest 3 = .ok (.getfield 18, 3) := by decide +kernel
theorem dX1_forgetLatest_6 : decode cX1_forgetLatest 6 = .ok (.iconst 1, 1) := by decide +kernel
theorem dX1_forgetLatest_7 : decode cX1_forgetLatest 7 = .ok (.isub, 1) := by decide +kernel
theorem dX1_forgetLatest_8 : decode cX1_forgetLatest 8 = .ok (.invokestatic 28, 3) := by decide +kernel
theorem dX1_forgetLatest_11 : decode cX1_forgetLatest 11 = .ok (.putfield 18, 3) := by decide +kernel
theorem dX1_forgetLatest_14 : decode cX1_forgetLatest 14 = .ok (.return_, 1) := by decide +kernel
theorem dX2_init_0 : decode cX2_init 0 = .ok (.aload_n 0, 1) := by decide +kernel
theorem dX2_init_1 : decode cX2_init 1 = .ok (.invokespecial 3, 3) := by decide +kernel
theorem dX2_init_4 : decode cX2_init 4 = .ok (.aload_n 0, 1) := by decide +kernel
theorem dX2_init_5 : decode cX2_init 5 = .ok (.bipush 12, 2) := by decide +kernel
theorem dX2_init_7 : decode cX2_init 7 = .ok (.newarray .int, 2) := by decide +kernel
theorem dX2_init_9 : decode cX2_init 9 = .ok (.putfield 9, 3) := by decide +kernel
theorem dX2_init_12 : decode cX2_init 12 = .ok (.aload_n 0, 1) := by decide +kernel
theorem dX2_init_13 : decode cX2_init 13 = .ok (.iconst 4, 1) := by decide +kernel
theorem dX2_init_14 : decode cX2_init 14 = .ok (.newarray .int, 2) := by decide +kernel
theorem dX2_init_16 : decode cX2_init 16 = .ok (.putfield 15, 3) := by decide +kernel
theorem dX2_init_19 : decode cX2_init 19 = .ok (.aload_n 0, 1) := by decide +kernel
theorem dX2_init_20 : decode cX2_init 20 = .ok (.bipush 64, 2) := by decide +kernel
theorem dX2_init_22 : decode cX2_init 22 = .ok (.newarray .int, 2) := by decide +kernel
theorem dX2_init_24 : decode cX2_init 24 = .ok (.putfield 18, 3) := by decide +kernel
theorem dX2_init_27 : decode cX2_init 27 = .ok (.aload_n 0, 1) := by decide +kernel
theorem dX2_init_28 : decode cX2_init 28 = .ok (.bipush 64, 2) := by decide +kernel
theorem dX2_init_30 : decode cX2_init 30 = .ok (.newarray .boolean, 2) := by decide +kernel
theorem dX2_init_32 : decode cX2_init 32 = .ok (.putfield 21, 3) := by decide +kernel
theorem dX2_init_35 : decode cX2_init 35 = .ok (.aload_n 0, 1) := by decide +kernel
theorem dX2_init_36 : decode cX2_init 36 = .ok (.bipush 64, 2) := by decide +kernel
theorem dX2_init_38 : decode cX2_init 38 = .ok (.newarray .int, 2) := by decide +kernel
theorem dX2_init_40 : decode cX2_init 40 = .ok (.putfield 25, 3) := by decide +kernel
theorem dX2_init_43 : decode cX2_init 43 = .ok (.aload_n 0, 1) := by decide +kernel
theorem dX2_init_44 : decode cX2_init 44 = .ok (.bipush 64, 2) := by decide +kernel
theorem dX2_init_46 : decode cX2_init 46 = .ok (.newarray .int, 2) := by decide +kernel
theorem dX2_init_48 : decode cX2_init 48 = .ok (.putfield 28, 3) := by decide +kernel
theorem dX2_init_51 : decode cX2_init 51 = .ok (.aload_n 0, 1) := by decide +kernel
theorem dX2_init_52 : decode cX2_init 52 = .ok (.bipush 64, 2) := by decide +kernel
theorem dX2_init_54 : decode cX2_init 54 = .ok (.newarray .int, 2) := by decide +kernel
theorem dX2_init_56 : decode cX2_init 56 = .ok (.putfield 31, 3) := by decide +kernel
theorem dX2_init_59 : decode cX2_init 59 = .ok (.aload_n 0, 1) := by decide +kernel
theorem dX2_init_60 : decode cX2_init 60 = .ok (.bipush 64, 2) := by decide +kernel
theorem dX2_init_62 : decode cX2_init 62 = .ok (.newarray .int, 2) := by decide +kernel
theorem dX2_init_64 : decode cX2_init 64 = .ok (.putfield 34, 3) := by decide +kernel
theorem dX2_init_67 : decode cX2_init 67 = .ok (.aload_n 0, 1) := by decide +kernel
theorem dX2_init_68 : decode cX2_init 68 = .ok (.bipush 32, 2) := by decide +kernel
theorem dX2_init_70 : decode cX2_init 70 = .ok (.newarray .int, 2) := by decide +kernel
theorem dX2_init_72 : decode cX2_init 72 = .ok (.putfield 37, 3) := by decide +kernel
theorem dX2_init_75 : decode cX2_init 75 = .ok (.aload_n 0, 1) := by decide +kernel
theorem dX2_init_76 : decode cX2_init 76 = .ok (.bipush 32, 2) := by decide +kernel
theorem dX2_init_78 : decode cX2_init 78 = .ok (.newarray .int, 2) := by decide +kernel
theorem dX2_init_80 : decode cX2_init 80 = .ok (.putfield 40, 3) := by decide +kernel
theorem dX2_init_83 : decode cX2_init 83 = .ok (.aload_n 0, 1) := by decide +kernel
theorem dX2_init_84 : decode cX2_init 84 = .ok (.invokevirtual 43, 3) := by decide +kernel
theorem dX2_init_87 : decode cX2_init 87 = .ok (.return_, 1) := by decide +kernel
theorem dX2_clear_0 : decode cX2_clear 0 = .ok (.aload_n 0, 1) := by decide +kernel
theorem dX2_clear_1 : decode cX2_clear 1 = .ok (.iconst 0, 1) := by decide +kernel
theorem dX2_clear_2 : decode cX2_clear 2 = .ok (.putfield 46, 3) := by decide +kernel
theorem dX2_clear_5 : decode cX2_clear 5 = .ok (.aload_n 0, 1) := by decide +kernel
theorem dX2_clear_6 : decode cX2_clear 6 = .ok (.iconst 0, 1) := by decide +kernel
theorem dX2_clear_7 : decode cX2_clear 7 = .ok (.putfield 50, 3) := by decide +kernel
theorem dX2_clear_10 : decode cX2_clear 10 = .ok (.aload_n 0, 1) := by decide +kernel
theorem dX2_clear_11 : decode cX2_clear 11 = .ok (.iconst 0, 1) := by decide +kernel
theorem dX2_clear_12 : decode cX2_clear 12 = .ok (.putfield 53, 3) := by decide +kernel
theorem dX2_clear_15 : decode cX2_clear 15 = .ok (.aload_n 0, 1) := by decide +kernel
theorem dX2_clear_16 : decode cX2_clear 16 = .ok (.bipush 9, 2) := by decide +kernel
theorem dX2_clear_18 : decode cX2_clear 18 = .ok (.putfield 56, 3) := by decide +kernel
theorem dX2_clear_21 : decode cX2_clear 21 = .ok (.aload_n 0, 1) := by decide +kernel
theorem dX2_clear_22 : decode cX2_clear 22 = .ok (.getfield 15, 3) := by decide +kernel
theorem dX2_clear_25 : decode cX2_clear 25 = .ok (.iconst 0, 1) := by decide +kernel
theorem dX2_clear_26 : decode cX2_clear 26 = .ok (.bipush 24, 2) := by decide +kernel
theorem dX2_clear_28 : decode cX2_clear 28 = .ok (.iastore, 1) := by decide +kernel
theorem dX2_clear_29 : decode cX2_clear 29 = .ok (.aload_n 0, 1) := by decide +kernel
theorem dX2_clear_30 : decode cX2_clear 30 = .ok (.getfield 15, 3) := by decide +kernel
theorem dX2_clear_33 : decode cX2_clear 33 = .ok (.iconst 1, 1) := by decide +kernel
theorem dX2_clear_34 : decode cX2_clear 34 = .ok (.bipush 16, 2) := by decide +kernel
theorem dX2_clear_36 : decode cX2_clear 36 = .ok (.iastore, 1) := by decide +kernel
theorem dX2_clear_37 : decode cX2_clear 37 = .ok (.aload_n 0, 1) := by decide +kernel
theorem dX2_clear_38 : decode cX2_clear 38 = .ok (.getfield 15, 3) := by decide +kernel
theorem dX2_clear_41 : decode cX2_clear 41 = .ok (.iconst 2, 1) := by decide +kernel
theorem dX2_clear_42 : decode cX2_clear 42 = .ok (.bipush 12, 2) := by decide +kernel
theorem dX2_clear_44 : decode cX2_clear 44 = .ok (.iastore, 1) := by decide +kernel
theorem dX2_clear_45 : decode cX2_clear 45 = .ok (.aload_n 0, 1) := by decide +kernel
theorem dX2_clear_46 : decode cX2_clear 46 = .ok (.getfield 15, 3) := by decide +kernel
theorem dX2_clear_49 : decode cX2_clear 49 = .ok (.iconst 3, 1) := by decide +kernel
theorem dX2_clear_50 : decode cX2_clear 50 = .ok (.bipush 9, 2) := by decide +kernel
theorem dX2_clear_52 : decode cX2_clear 52 = .ok (.iastore, 1) := by decide +kernel
theorem dX2_clear_53 : decode cX2_clear 53 = .ok (.aload_n 0, 1) := by decide +kernel
theorem dX2_clear_54 : decode cX2_clear 54 = .ok (.iconst 4, 1) := by decide +kernel
theorem dX2_clear_55 : decode cX2_clear 55 = .ok (.iconst 4, 1) := by decide +kernel
theorem dX2_clear_56 : decode cX2_clear 56 = .ok (.invokevirtual 59, 3) := by decide +kernel
theorem dX2_clear_59 : decode cX2_clear 59 = .ok (.return_, 1) := by decide +kernel
theorem dX2_setMetre_0 : decode cX2_setMetre 0 = .ok (.aload_n 0, 1) := by decide +kernel
theorem dX2_setMetre_1 : decode cX2_setMetre 1 = .ok (.iload_n 1, 1) := by decide +kernel
theorem dX2_setMetre_2 : decode cX2_setMetre 2 = .ok (.bipush 12, 2) := by decide +kernel
theorem dX2_setMetre_4 : decode cX2_setMetre 4 = .ok (.invokestatic 63, 3) := by decide +kernel
theorem dX2_setMetre_7 : decode cX2_setMetre 7 = .ok (.putfield 69, 3) := by decide +kernel
theorem dX2_setMetre_10 : decode cX2_setMetre 10 = .ok (.aload_n 0, 1) := by decide +kernel
theorem dX2_setMetre_11 : decode cX2_setMetre 11 = .ok (.iload_n 2, 1) := by decide +kernel
theorem dX2_setMetre_12 : decode cX2_setMetre 12 = .ok (.putfield 72, 3) := by decide +kernel
theorem dX2_setMetre_15 : decode cX2_setMetre 15 = .ok (.iload_n 2, 1) := by decide +kernel
theorem dX2_setMetre_16 : decode cX2_setMetre 16 = .ok (.bipush 8, 2) := by decide +kernel
theorem dX2_setMetre_18 : decode cX2_setMetre 18 = .ok (.if_icmp .ne 13, 3) := by decide +kernel
theorem dX2_setMetre_21 : decode cX2_setMetre 21 = .ok (.iload_n 1, 1) := by decide +kernel
theorem dX2_setMetre_22 : decode cX2_setMetre 22 = .ok (.iconst 3, 1) := by decide +kernel
theorem dX2_setMetre_23 : decode cX2_setMetre 23 = .ok (.irem, 1) := by decide +kernel
theorem dX2_setMetre_24 : decode cX2_setMetre 24 = .ok (.ifCond .ne 7, 3) := by decide +kernel
theorem dX2_setMetre_27 : decode cX2_setMetre 27 = .ok (.iconst 3, 1) := by decide +kernel
theorem dX2_setMetre_28 : decode cX2_setMetre 28 = .ok (.goto 4, 3) := by decide +kernel
theorem dX2_setMetre_31 : decode cX2_setMetre 31 = .ok (.iconst 1, 1) := by decide +kernel
theorem dX2_setMetre_32 : decode cX2_setMetre 32 = .ok (.istore_n 3, 1) := by decide +kernel
theorem dX2_setMetre_33 : decode cX2_setMetre 33 = .ok (.aload_n 0, 1) := by decide +kernel
theorem dX2_setMetre_34 : decode cX2_setMetre 34 = .ok (.iconst 0, 1) := by decide +kernel
theorem dX2_setMetre_35 : decode cX2_setMetre 35 = .ok (.putfield 75, 3) := by decide +kernel
theorem dX2_setMetre_38 : decode cX2_setMetre 38 = .ok (.iconst 0, 1) := by decide +kernel
theorem dX2_setMetre_39 : decode cX2_setMetre 39 = .ok (.istore 4, 2) := by decide +kernel
theorem dX2_setMetre_41 : decode cX2_setMetre 41 = .ok (.iload 4, 2) := by decide +kernel
theorem dX2_setMetre_43 : decode cX2_setMetre 43 = .ok (.aload_n 0, 1) := by decide +kernel
theorem dX2_setMetre_44 : decode cX2_setMetre 44 = .ok (.getfield 69, 3) := by decide +kernel
theorem dX2_setMetre_47 : decode cX2_setMetre 47 = .ok (.if_icmp .ge 32, 3) := by decide +kernel
theorem dX2_setMetre_50 : decode cX2_setMetre 50 = .ok (.aload_n 0, 1) := by decide +kernel
theorem dX2_setMetre_51 : decode cX2_setMetre 51 = .ok (.getfield 9, 3) := by decide +kernel
theorem dX2_setMetre_54 : decode cX2_setMetre 54 = .ok (.aload_n 0, 1) := by decide +kernel
theorem dX2_setMetre_55 : decode cX2_setMetre 55 = .ok (.getfield 75, 3) := by decide +kernel
theorem dX2_setMetre_58 : decode cX2_setMetre 58 = .ok (.iload_n 3, 1) := by decide +kernel
theorem dX2_setMetre_59 : decode cX2_setMetre 59 = .ok (.iastore, 1) := by decide +kernel
theorem dX2_setMetre_60 : decode cX2_setMetre 60 = .ok (.aload_n 0, 1) := by decide +kernel
theorem dX2_setMetre_61 : decode cX2_setMetre 61 = .ok (.dup, 1) := by decide +kernel
theorem dX2_setMetre_62 : decode cX2_setMetre 62 = .ok (.getfield 75, 3) := by decide +kernel
theorem dX2_setMetre_65 : decode cX2_setMetre 65 = .ok (.iconst 1, 1) := by decide +kernel
theorem dX2_setMetre_66 : decode cX2_setMetre 66 = .ok (.iadd, 1) := by decide +kernel
theorem dX2_setMetre_67 : decode cX2_setMetre 67 = .ok (.putfield 75, 3) := by decide +kernel
theorem dX2_setMetre_70 : decode cX2_setMetre 70 = .ok (.iload 4, 2) := by decide +kernel
theorem dX2_setMetre_72 : decode cX2_setMetre 72 = .ok (.iload_n 3, 1) := by decide +kernel
theorem dX2_setMetre_73 : decode cX2_setMetre 73 = .ok (.iadd, 1) := by decide +kernel
theorem dX2_setMetre_74 : decode cX2_setMetre 74 = .ok (.istore 4, 2) := by decide +kernel
theorem dX2_setMetre_76 : decode cX2_setMetre 76 = .ok (.goto (-35), 3) := by decide +kernel
theorem dX2_setMetre_79 : decode cX2_setMetre 79 = .ok (.return_, 1) := by decide +kernel
theorem dX2_isKind_0 : decode cX2_isKind 0 = .ok (.iload_n 0, 1) := by decide +kernel
theorem dX2_isKind_1 : decode cX2_isKind 1 = .ok (.iconst 4, 1) := by decide +kernel
theorem dX2_isKind_2 : decode cX2_isKind 2 = .ok (.if_icmp .eq 21, 3) := by decide +kernel
theorem dX2_isKind_5 : decode cX2_isKind 5 = .ok (.iload_n 0, 1) := by decide +kernel
theorem dX2_isKind_6 : decode cX2_isKind 6 = .ok (.bipush 8, 2) := by decide +kernel
theorem dX2_isKind_8 : decode cX2_isKind 8 = .ok (.if_icmp .eq 15, 3) := by decide +kernel
theorem dX2_isKind_11 : decode cX2_isKind 11 = .ok (.iload_n 0, 1) := by decide +kernel
theorem dX2_isKind_12 : decode cX2_isKind 12 = .ok (.bipush 16, 2) := by decide +kernel
theorem dX2_isKind_14 : decode cX2_isKind 14 = .ok (.if_icmp .eq 9, 3) := by decide +kernel
theorem dX2_isKind_17 : decode cX2_isKind 17 = .ok (.iload_n 0, 1) := by decide +kernel
theorem dX2_isKind_18 : decode cX2_isKind 18 = .ok (.bipush 32, 2) := by decide +kernel
theorem dX2_isKind_20 : decode cX2_isKind 20 = .ok (.if_icmp .ne 7, 3) := by decide +kernel
theorem dX2_isKind_23 : decode cX2_isKind 23 = .ok (.iconst 1, 1) := by decide +kernel
theorem dX2_isKind_24 : decode cX2_isKind 24 = .ok (.goto 4, 3) := by decide +kernel
theorem dX2_isKind_27 : decode cX2_isKind 27 = .ok (.iconst 0, 1) := by decide +kernel
theorem dX2_isKind_28 : decode cX2_isKind 28 = .ok (.ireturn, 1) := by decide +kernel
theorem dX2_beamsOfKind_0 : decode cX2_beamsOfKind 0 = .ok (.iload_n 0, 1) := by decide +kernel
theorem dX2_beamsOfKind_1 : decode cX2_beamsOfKind 1 = .ok (.lookupswitch 41 #[(8, 35), (16, 37), (32, 39)], 35) := by decide +kernel
theorem dX2_beamsOfKind_36 : decode cX2_beamsOfKind 36 = .ok (.iconst 1, 1) := by decide +kernel
theorem dX2_beamsOfKind_37 : decode cX2_beamsOfKind 37 = .ok (.ireturn, 1) := by decide +kernel
theorem dX2_beamsOfKind_38 : decode cX2_beamsOfKind 38 = .ok (.iconst 2, 1) := by decide +kernel
theorem dX2_beamsOfKind_39 : decode cX2_beamsOfKind 39 = .ok (.ireturn, 1) := by decide +kernel
theorem dX2_beamsOfKind_40 : decode cX2_beamsOfKind 40 = .ok (.iconst 3, 1) := by decide +kernel
theorem dX2_beamsOfKind_41 : decode cX2_beamsOfKind 41 = .ok (.ireturn, 1) := by decide +kernel
theorem dX2_beamsOfKind_42 : decode cX2_beamsOfKind 42 = .ok (.iconst 0, 1) := by decide +kernel
theorem dX2_beamsOfKind_43 : decode cX2_beamsOfKind 43 = .ok (.ireturn, 1) := by decide +kernel
theorem dX2_longOfKind_0 : decode cX2_longOfKind 0 = .ok (.bipush 8, 2) := by decide +kernel
theorem dX2_longOfKind_2 : decode cX2_longOfKind 2 = .ok (.iload_n 0, 1) := by decide +kernel
theorem dX2_longOfKind_3 : decode cX2_longOfKind 3 = .ok (.invokestatic 78, 3) := by decide +kernel
theorem dX2_longOfKind_6 : decode cX2_longOfKind 6 = .ok (.ishr, 1) := by decide +kernel
theorem dX2_longOfKind_7 : decode cX2_longOfKind 7 = .ok (.ireturn, 1) := by decide +kernel
theorem dX2_beatLong_0 : decode cX2_beatLong 0 = .ok (.aload_n 0, 1) := by decide +kernel
theorem dX2_beatLong_1 : decode cX2_beatLong 1 = .ok (.getfield 72, 3) := by decide +kernel
theorem dX2_beatLong_4 : decode cX2_beatLong 4 = .ok (.lookupswitch 33 #[(2, 28), (8, 31)], 28) := by decide +kernel
theorem dX2_beatLong_32 : decode cX2_beatLong 32 = .ok (.bipush 16, 2) := by decide +kernel
theorem dX2_beatLong_34 : decode cX2_beatLong 34 = .ok (.ireturn, 1) := by decide +kernel
theorem dX2_beatLong_35 : decode cX2_beatLong 35 = .ok (.iconst 4, 1) := by decide +kernel
theorem dX2_beatLong_36 : decode cX2_beatLong 36 = .ok (.ireturn, 1) := by decide +kernel
theorem dX2_beatLong_37 : decode cX2_beatLong 37 = .ok (.bipush 8, 2) := by decide +kernel
theorem dX2_beatLong_39 : decode cX2_beatLong 39 = .ok (.ireturn, 1) := by decide +kernel
theorem dX2_measureLong_0 : decode cX2_measureLong 0 = .ok (.iconst 1, 1) := by decide +kernel
theorem dX2_measureLong_1 : decode cX2_measureLong 1 = .ok (.aload_n 0, 1) := by decide +kernel
theorem dX2_measureLong_2 : decode cX2_measureLong 2 = .ok (.getfield 69, 3) := by decide +kernel
theorem dX2_measureLong_5 : decode cX2_measureLong 5 = .ok (.aload_n 0, 1) := by decide +kernel
theorem dX2_measureLong_6 : decode cX2_measureLong 6 = .ok (.invokevirtual 82, 3) := by decide +kernel
theorem dX2_measureLong_9 : decode cX2_measureLong 9 = .ok (.imul, 1) := by decide +kernel
theorem dX2_measureLong_10 : decode cX2_measureLong 10 = .ok (.invokestatic 86, 3) := by decide +kernel
theorem dX2_measureLong_13 : decode cX2_measureLong 13 = .ok (.ireturn, 1) := by decide +kernel
theorem dX2_timeOfNext_0 : decode cX2_timeOfNext 0 = .ok (.aload_n 0, 1) := by decide +kernel
theorem dX2_timeOfNext_1 : decode cX2_timeOfNext 1 = .ok (.getfield 50, 3) := by decide +kernel
theorem dX2_timeOfNext_4 : decode cX2_timeOfNext 4 = .ok (.ifCond .ne 7, 3) := by decide +kernel
theorem dX2_timeOfNext_7 : decode cX2_timeOfNext 7 = .ok (.iconst 0, 1) := by decide +kernel
theorem dX2_timeOfNext_8 : decode cX2_timeOfNext 8 = .ok (.goto 29, 3) := by decide +kernel
theorem dX2_timeOfNext_11 : decode cX2_timeOfNext 11 = .ok (.aload_n 0, 1) := by decide +kernel
theorem dX2_timeOfNext_12 : decode cX2_timeOfNext 12 = .ok (.getfield 28, 3) := by decide +kernel
theorem dX2_timeOfNext_15 : decode cX2_timeOfNext 15 = .ok (.aload_n 0, 1) := by decide +kernel
theorem dX2_timeOfNext_16 : decode cX2_timeOfNext 16 = .ok (.getfield 50, 3) := by decide +kernel
theorem dX2_timeOfNext_19 : decode cX2_timeOfNext 19 = .ok (.iconst 1, 1) := by decide +kernel
theorem dX2_timeOfNext_20 : decode cX2_timeOfNext 20 = .ok (.isub, 1) := by decide +kernel
theorem dX2_timeOfNext_21 : decode cX2_timeOfNext 21 = .ok (.iaload, 1) := by decide +kernel
theorem dX2_timeOfNext_22 : decode cX2_timeOfNext 22 = .ok (.aload_n 0, 1) := by decide +kernel
theorem dX2_timeOfNext_23 : decode cX2_timeOfNext 23 = .ok (.getfield 18, 3) := by decide +kernel
theorem dX2_timeOfNext_26 : decode cX2_timeOfNext 26 = .ok (.aload_n 0, 1) := by decide +kernel
theorem dX2_timeOfNext_27 : decode cX2_timeOfNext 27 = .ok (.getfield 50, 3) := by decide +kernel
theorem dX2_timeOfNext_30 : decode cX2_timeOfNext 30 = .ok (.iconst 1, 1) := by decide +kernel
theorem dX2_timeOfNext_31 : decode cX2_timeOfNext 31 = .ok (.isub, 1) := by decide +kernel
theorem dX2_timeOfNext_32 : decode cX2_timeOfNext 32 = .ok (.iaload, 1) := by decide +kernel
theorem dX2_timeOfNext_33 : decode cX2_timeOfNext 33 = .ok (.invokestatic 89, 3) := by decide +kernel
theorem dX2_timeOfNext_36 : decode cX2_timeOfNext 36 = .ok (.iadd, 1) := by decide +kernel
theorem dX2_timeOfNext_37 : decode cX2_timeOfNext 37 = .ok (.ireturn, 1) := by decide +kernel
theorem dX2_xOfNext_0 : decode cX2_xOfNext 0 = .ok (.aload_n 0, 1) := by decide +kernel
theorem dX2_xOfNext_1 : decode cX2_xOfNext 1 = .ok (.getfield 50, 3) := by decide +kernel
theorem dX2_xOfNext_4 : decode cX2_xOfNext 4 = .ok (.ifCond .ne 7, 3) := by decide +kernel
theorem dX2_xOfNext_7 : decode cX2_xOfNext 7 = .ok (.iconst 0, 1) := by decide +kernel
theorem dX2_xOfNext_8 : decode cX2_xOfNext 8 = .ok (.goto 34, 3) := by decide +kernel
theorem dX2_xOfNext_11 : decode cX2_xOfNext 11 = .ok (.aload_n 0, 1) := by decide +kernel
theorem dX2_xOfNext_12 : decode cX2_xOfNext 12 = .ok (.getfield 31, 3) := by decide +kernel
theorem dX2_xOfNext_15 : decode cX2_xOfNext 15 = .ok (.aload_n 0, 1) := by decide +kernel
theorem dX2_xOfNext_16 : decode cX2_xOfNext 16 = .ok (.getfield 50, 3) := by decide +kernel
theorem dX2_xOfNext_19 : decode cX2_xOfNext 19 = .ok (.iconst 1, 1) := by decide +kernel
theorem dX2_xOfNext_20 : decode cX2_xOfNext 20 = .ok (.isub, 1) := by decide +kernel
theorem dX2_xOfNext_21 : decode cX2_xOfNext 21 = .ok (.iaload, 1) := by decide +kernel
theorem dX2_xOfNext_22 : decode cX2_xOfNext 22 = .ok (.aload_n 0, 1) := by decide +kernel
theorem dX2_xOfNext_23 : decode cX2_xOfNext 23 = .ok (.getfield 15, 3) := by decide +kernel
theorem dX2_xOfNext_26 : decode cX2_xOfNext 26 = .ok (.aload_n 0, 1) := by decide +kernel
theorem dX2_xOfNext_27 : decode cX2_xOfNext 27 = .ok (.getfield 18, 3) := by decide +kernel
theorem dX2_xOfNext_30 : decode cX2_xOfNext 30 = .ok (.aload_n 0, 1) := by decide +kernel
theorem dX2_xOfNext_31 : decode cX2_xOfNext 31 = .ok (.getfield 50, 3) := by decide +kernel
theorem dX2_xOfNext_34 : decode cX2_xOfNext 34 = .ok (.iconst 1, 1) := by decide +kernel
theorem dX2_xOfNext_35 : decode cX2_xOfNext 35 = .ok (.isub, 1) := by decide +kernel
theorem dX2_xOfNext_36 : decode cX2_xOfNext 36 = .ok (.iaload, 1) := by decide +kernel
theorem dX2_xOfNext_37 : decode cX2_xOfNext 37 = .ok (.invokestatic 78, 3) := by decide +kernel
theorem dX2_xOfNext_40 : decode cX2_xOfNext 40 = .ok (.iaload, 1) := by decide +kernel
theorem dX2_xOfNext_41 : decode cX2_xOfNext 41 = .ok (.iadd, 1) := by decide +kernel
theorem dX2_xOfNext_42 : decode cX2_xOfNext 42 = .ok (.ireturn, 1) := by decide +kernel
theorem dX2_fits_0 : decode cX2_fits 0 = .ok (.aload_n 0, 1) := by decide +kernel
theorem dX2_fits_1 : decode cX2_fits 1 = .ok (.invokevirtual 92, 3) := by decide +kernel
theorem dX2_fits_4 : decode cX2_fits 4 = .ok (.aload_n 0, 1) := by decide +kernel
theorem dX2_fits_5 : decode cX2_fits 5 = .ok (.invokevirtual 95, 3) := by decide +kernel
theorem dX2_fits_8 : decode cX2_fits 8 = .ok (.irem, 1) := by decide +kernel
theorem dX2_fits_9 : decode cX2_fits 9 = .ok (.iload_n 1, 1) := by decide +kernel
theorem dX2_fits_10 : decode cX2_fits 10 = .ok (.invokestatic 89, 3) := by decide +kernel
theorem dX2_fits_13 : decode cX2_fits 13 = .ok (.iadd, 1) := by decide +kernel
theorem dX2_fits_14 : decode cX2_fits 14 = .ok (.aload_n 0, 1) := by decide +kernel
theorem dX2_fits_15 : decode cX2_fits 15 = .ok (.invokevirtual 95, 3) := by decide +kernel
theorem dX2_fits_18 : decode cX2_fits 18 = .ok (.if_icmp .gt 7, 3) := by decide +kernel
theorem dX2_fits_21 : decode cX2_fits 21 = .ok (.iconst 1, 1) := by decide +kernel
theorem dX2_fits_22 : decode cX2_fits 22 = .ok (.goto 4, 3) := by decide +kernel
theorem dX2_fits_25 : decode cX2_fits 25 = .ok (.iconst 0, 1) := by decide +kernel
theorem dX2_fits_26 : decode cX2_fits 26 = .ok (.ireturn, 1) := by decide +kernel
theorem dX2_add_0 : decode cX2_add 0 = .ok (.aload_n 0, 1) := by decide +kernel
theorem dX2_add_1 : decode cX2_add 1 = .ok (.getfield 50, 3) := by decide +kernel
theorem dX2_add_4 : decode cX2_add 4 = .ok (.bipush 64, 2) := by decide +kernel
theorem dX2_add_6 : decode cX2_add 6 = .ok (.if_icmp .lt 4, 3) := by decide +kernel
theorem dX2_add_9 : decode cX2_add 9 = .ok (.return_, 1) := by decide +kernel
theorem dX2_add_10 : decode cX2_add 10 = .ok (.aload_n 0, 1) := by decide +kernel
theorem dX2_add_11 : decode cX2_add 11 = .ok (.invokevirtual 92, 3) := by decide +kernel
theorem dX2_add_14 : decode cX2_add 14 = .ok (.istore 4, 2) := by decide +kernel
theorem dX2_add_16 : decode cX2_add 16 = .ok (.aload_n 0, 1) := by decide +kernel
theorem dX2_add_17 : decode cX2_add 17 = .ok (.invokevirtual 98, 3) := by decide +kernel
theorem dX2_add_20 : decode cX2_add 20 = .ok (.istore 5, 2) := by decide +kernel
theorem dX2_add_22 : decode cX2_add 22 = .ok (.aload_n 0, 1) := by decide +kernel
theorem dX2_add_23 : decode cX2_add 23 = .ok (.getfield 18, 3) := by decide +kernel
theorem dX2_add_26 : decode cX2_add 26 = .ok (.aload_n 0, 1) := by decide +kernel
theorem dX2_add_27 : decode cX2_add 27 = .ok (.getfield 50, 3) := by decide +kernel
theorem dX2_add_30 : decode cX2_add 30 = .ok (.iload_n 2, 1) := by decide +kernel
theorem dX2_add_31 : decode cX2_add 31 = .ok (.iastore, 1) := by decide +kernel
theorem dX2_add_32 : decode cX2_add 32 = .ok (.aload_n 0, 1) := by decide +kernel
theorem dX2_add_33 : decode cX2_add 33 = .ok (.getfield 21, 3) := by decide +kernel
theorem dX2_add_36 : decode cX2_add 36 = .ok (.aload_n 0, 1) := by decide +kernel
theorem dX2_add_37 : decode cX2_add 37 = .ok (.getfield 50, 3) := by decide +kernel
theorem dX2_add_40 : decode cX2_add 40 = .ok (.iload_n 1, 1) := by decide +kernel
theorem dX2_add_41 : decode cX2_add 41 = .ok (.bastore, 1) := by decide +kernel
theorem dX2_add_42 : decode cX2_add 42 = .ok (.aload_n 0, 1) := by decide +kernel
theorem dX2_add_43 : decode cX2_add 43 = .ok (.getfield 25, 3) := by decide +kernel
theorem dX2_add_46 : decode cX2_add 46 = .ok (.aload_n 0, 1) := by decide +kernel
theorem dX2_add_47 : decode cX2_add 47 = .ok (.getfield 50, 3) := by decide +kernel
theorem dX2_add_50 : decode cX2_add 50 = .ok (.iload_n 3, 1) := by decide +kernel
theorem dX2_add_51 : decode cX2_add 51 = .ok (.iastore, 1) := by decide +kernel
theorem dX2_add_52 : decode cX2_add 52 = .ok (.aload_n 0, 1) := by decide +kernel
theorem dX2_add_53 : decode cX2_add 53 = .ok (.getfield 28, 3) := by decide +kernel
theorem dX2_add_56 : decode cX2_add 56 = .ok (.aload_n 0, 1) := by decide +kernel
theorem dX2_add_57 : decode cX2_add 57 = .ok (.getfield 50, 3) := by decide +kernel
theorem dX2_add_60 : decode cX2_add 60 = .ok (.iload 4, 2) := by decide +kernel
theorem dX2_add_62 : decode cX2_add 62 = .ok (.iastore, 1) := by decide +kernel
theorem dX2_add_63 : decode cX2_add 63 = .ok (.aload_n 0, 1) := by decide +kernel
theorem dX2_add_64 : decode cX2_add 64 = .ok (.getfield 31, 3) := by decide +kernel
theorem dX2_add_67 : decode cX2_add 67 = .ok (.aload_n 0, 1) := by decide +kernel
theorem dX2_add_68 : decode cX2_add 68 = .ok (.getfield 50, 3) := by decide +kernel
theorem dX2_add_71 : decode cX2_add 71 = .ok (.iload 5, 2) := by decide +kernel
theorem dX2_add_73 : decode cX2_add 73 = .ok (.iastore, 1) := by decide +kernel
theorem dX2_add_74 : decode cX2_add 74 = .ok (.aload_n 0, 1) := by decide +kernel
theorem dX2_add_75 : decode cX2_add 75 = .ok (.getfield 34, 3) := by decide +kernel
theorem dX2_add_78 : decode cX2_add 78 = .ok (.aload_n 0, 1) := by decide +kernel
theorem dX2_add_79 : decode cX2_add 79 = .ok (.getfield 50, 3) := by decide +kernel
theorem dX2_add_82 : decode cX2_add 82 = .ok (.iconst (-1), 1) := by decide +kernel
theorem dX2_add_83 : decode cX2_add 83 = .ok (.iastore, 1) := by decide +kernel
theorem dX2_add_84 : decode cX2_add 84 = .ok (.aload_n 0, 1) := by decide +kernel
theorem dX2_add_85 : decode cX2_add 85 = .ok (.dup, 1) := by decide +kernel
theorem dX2_add_86 : decode cX2_add 86 = .ok (.getfield 50, 3) := by decide +kernel
theorem dX2_add_89 : decode cX2_add 89 = .ok (.iconst 1, 1) := by decide +kernel
theorem dX2_add_90 : decode cX2_add 90 = .ok (.iadd, 1) := by decide +kernel
theorem dX2_add_91 : decode cX2_add 91 = .ok (.putfield 50, 3) := by decide +kernel
theorem dX2_add_94 : decode cX2_add 94 = .ok (.return_, 1) := by decide +kernel
theorem dX2_timeWithin_0 : decode cX2_timeWithin 0 = .ok (.aload_n 0, 1) := by decide +kernel
theorem dX2_timeWithin_1 : decode cX2_timeWithin 1 = .ok (.getfield 28, 3) := by decide +kernel
theorem dX2_timeWithin_4 : decode cX2_timeWithin 4 = .ok (.iload_n 1, 1) := by decide +kernel
theorem dX2_timeWithin_5 : decode cX2_timeWithin 5 = .ok (.iaload, 1) := by decide +kernel
theorem dX2_timeWithin_6 : decode cX2_timeWithin 6 = .ok (.aload_n 0, 1) := by decide +kernel
theorem dX2_timeWithin_7 : decode cX2_timeWithin 7 = .ok (.invokevirtual 95, 3) := by decide +kernel
theorem dX2_timeWithin_10 : decode cX2_timeWithin 10 = .ok (.irem, 1) := by decide +kernel
theorem dX2_timeWithin_11 : decode cX2_timeWithin 11 = .ok (.ireturn, 1) := by decide +kernel
theorem dX2_measureOf_0 : decode cX2_measureOf 0 = .ok (.aload_n 0, 1) := by decide +kernel
theorem dX2_measureOf_1 : decode cX2_measureOf 1 = .ok (.getfield 28, 3) := by decide +kernel
theorem dX2_measureOf_4 : decode cX2_measureOf 4 = .ok (.iload_n 1, 1) := by decide +kernel
theorem dX2_measureOf_5 : decode cX2_measureOf 5 = .ok (.iaload, 1) := by decide +kernel
theorem dX2_measureOf_6 : decode cX2_measureOf 6 = .ok (.aload_n 0, 1) := by decide +kernel
theorem dX2_measureOf_7 : decode cX2_measureOf 7 = .ok (.invokevirtual 95, 3) := by decide +kernel
theorem dX2_measureOf_10 : decode cX2_measureOf 10 = .ok (.idiv, 1) := by decide +kernel
theorem dX2_measureOf_11 : decode cX2_measureOf 11 = .ok (.ireturn, 1) := by decide +kernel
theorem dX2_partOf_0 : decode cX2_partOf 0 = .ok (.aload_n 0, 1) := by decide +kernel
theorem dX2_partOf_1 : decode cX2_partOf 1 = .ok (.iload_n 1, 1) := by decide +kernel
theorem dX2_partOf_2 : decode cX2_partOf 2 = .ok (.invokevirtual 101, 3) := by decide +kernel
theorem dX2_partOf_5 : decode cX2_partOf 5 = .ok (.aload_n 0, 1) := by decide +kernel
theorem dX2_partOf_6 : decode cX2_partOf 6 = .ok (.invokevirtual 82, 3) := by decide +kernel
theorem dX2_partOf_9 : decode cX2_partOf 9 = .ok (.idiv, 1) := by decide +kernel
theorem dX2_partOf_10 : decode cX2_partOf 10 = .ok (.istore_n 3, 1) := by decide +kernel
theorem dX2_partOf_11 : decode cX2_partOf 11 = .ok (.iload_n 2, 1) := by decide +kernel
theorem dX2_partOf_12 : decode cX2_partOf 12 = .ok (.ifCond .le 7, 3) := by decide +kernel
theorem dX2_partOf_15 : decode cX2_partOf 15 = .ok (.iload_n 3, 1) := by decide +kernel
theorem dX2_partOf_16 : decode cX2_partOf 16 = .ok (.iload_n 2, 1) := by decide +kernel
theorem dX2_partOf_17 : decode cX2_partOf 17 = .ok (.idiv, 1) := by decide +kernel
theorem dX2_partOf_18 : decode cX2_partOf 18 = .ok (.ireturn, 1) := by decide +kernel
theorem dX2_partOf_19 : decode cX2_partOf 19 = .ok (.iconst 0, 1) := by decide +kernel
theorem dX2_partOf_20 : decode cX2_partOf 20 = .ok (.istore 4, 2) := by decide +kernel
theorem dX2_partOf_22 : decode cX2_partOf 22 = .ok (.aload_n 0, 1) := by decide +kernel
theorem dX2_partOf_23 : decode cX2_partOf 23 = .ok (.getfield 9, 3) := by decide +kernel
theorem dX2_partOf_26 : decode cX2_partOf 26 = .ok (.iconst 0, 1) := by decide +kernel
theorem dX2_partOf_27 : decode cX2_partOf 27 = .ok (.iaload, 1) := by decide +kernel
theorem dX2_partOf_28 : decode cX2_partOf 28 = .ok (.istore 5, 2) := by decide +kernel
theorem dX2_partOf_30 : decode cX2_partOf 30 = .ok (.iload 4, 2) := by decide +kernel
theorem dX2_partOf_32 : decode cX2_partOf 32 = .ok (.aload_n 0, 1) := by decide +kernel
theorem dX2_partOf_33 : decode cX2_partOf 33 = .ok (.getfield 75, 3) := by decide +kernel
theorem dX2_partOf_36 : decode cX2_partOf 36 = .ok (.iconst 1, 1) := by decide +kernel
theorem dX2_partOf_37 : decode cX2_partOf 37 = .ok (.isub, 1) := by decide +kernel
theorem dX2_partOf_38 : decode cX2_partOf 38 = .ok (.if_icmp .ge 27, 3) := by decide +kernel
theorem dX2_partOf_41 : decode cX2_partOf 41 = .ok (.iload_n 3, 1) := by decide +kernel
theorem dX2_partOf_42 : decode cX2_partOf 42 = .ok (.iload 5, 2) := by decide +kernel
theorem dX2_partOf_44 : decode cX2_partOf 44 = .ok (.if_icmp .lt 21, 3) := by decide +kernel
theorem dX2_partOf_47 : decode cX2_partOf 47 = .ok (.iinc 4 1, 3) := by decide +kernel
theorem dX2_partOf_50 : decode cX2_partOf 50 = .ok (.iload 5, 2) := by decide +kernel
theorem dX2_partOf_52 : decode cX2_partOf 52 = .ok (.aload_n 0, 1) := by decide +kernel
theorem dX2_partOf_53 : decode cX2_partOf 53 = .ok (.getfield 9, 3) := by decide +kernel
theorem dX2_partOf_56 : decode cX2_partOf 56 = .ok (.iload 4, 2) := by decide +kernel
theorem dX2_partOf_58 : decode cX2_partOf 58 = .ok (.iaload, 1) := by decide +kernel
theorem dX2_partOf_59 : decode cX2_partOf 59 = .ok (.iadd, 1) := by decide +kernel
theorem dX2_partOf_60 : decode cX2_partOf 60 = .ok (.istore 5, 2) := by decide +kernel
theorem dX2_partOf_62 : decode cX2_partOf 62 = .ok (.goto (-32), 3) := by decide +kernel
theorem dX2_partOf_65 : decode cX2_partOf 65 = .ok (.iload 4, 2) := by decide +kernel
theorem dX2_partOf_67 : decode cX2_partOf 67 = .ok (.ireturn, 1) := by decide +kernel
theorem dX2_beamsOf_0 : decode cX2_beamsOf 0 = .ok (.aload_n 0, 1) := by decide +kernel
theorem dX2_beamsOf_1 : decode cX2_beamsOf 1 = .ok (.getfield 21, 3) := by decide +kernel
theorem dX2_beamsOf_4 : decode cX2_beamsOf 4 = .ok (.iload_n 1, 1) := by decide +kernel
theorem dX2_beamsOf_5 : decode cX2_beamsOf 5 = .ok (.baload, 1) := by decide +kernel
theorem dX2_beamsOf_6 : decode cX2_beamsOf 6 = .ok (.ifCond .eq 15, 3) := by decide +kernel
theorem dX2_beamsOf_9 : decode cX2_beamsOf 9 = .ok (.aload_n 0, 1) := by decide +kernel
theorem dX2_beamsOf_10 : decode cX2_beamsOf 10 = .ok (.getfield 18, 3) := by decide +kernel
theorem dX2_beamsOf_13 : decode cX2_beamsOf 13 = .ok (.iload_n 1, 1) := by decide +kernel
theorem dX2_beamsOf_14 : decode cX2_beamsOf 14 = .ok (.iaload, 1) := by decide +kernel
theorem dX2_beamsOf_15 : decode cX2_beamsOf 15 = .ok (.invokestatic 78, 3) := by decide +kernel
theorem dX2_beamsOf_18 : decode cX2_beamsOf 18 = .ok (.goto 4, 3) := by decide +kernel
theorem dX2_beamsOf_21 : decode cX2_beamsOf 21 = .ok (.iconst 0, 1) := by decide +kernel
theorem dX2_beamsOf_22 : decode cX2_beamsOf 22 = .ok (.ireturn, 1) := by decide +kernel
theorem dX2_runFrom_0 : decode cX2_runFrom 0 = .ok (.iconst 0, 1) := by decide +kernel
theorem dX2_runFrom_1 : decode cX2_runFrom 1 = .ok (.istore_n 3, 1) := by decide +kernel
theorem dX2_runFrom_2 : decode cX2_runFrom 2 = .ok (.iload_n 1, 1) := by decide +kernel
theorem dX2_runFrom_3 : decode cX2_runFrom 3 = .ok (.iload_n 3, 1) := by decide +kernel
theorem dX2_runFrom_4 : decode cX2_runFrom 4 = .ok (.iadd, 1) := by decide +kernel
theorem dX2_runFrom_5 : decode cX2_runFrom 5 = .ok (.aload_n 0, 1) := by decide +kernel
theorem dX2_runFrom_6 : decode cX2_runFrom 6 = .ok (.getfield 50, 3) := by decide +kernel
theorem dX2_runFrom_9 : decode cX2_runFrom 9 = .ok (.if_icmp .ge 51, 3) := by decide +kernel
theorem dX2_runFrom_12 : decode cX2_runFrom 12 = .ok (.aload_n 0, 1) := by decide +kernel
theorem dX2_runFrom_13 : decode cX2_runFrom 13 = .ok (.iload_n 1, 1) := by decide +kernel
theorem dX2_runFrom_14 : decode cX2_runFrom 14 = .ok (.iload_n 3, 1) := by decide +kernel
theorem dX2_runFrom_15 : decode cX2_runFrom 15 = .ok (.iadd, 1) := by decide +kernel
theorem dX2_runFrom_16 : decode cX2_runFrom 16 = .ok (.invokevirtual 104, 3) := by decide +kernel
theorem dX2_runFrom_19 : decode cX2_runFrom 19 = .ok (.ifCond .le 41, 3) := by decide +kernel
theorem dX2_runFrom_22 : decode cX2_runFrom 22 = .ok (.aload_n 0, 1) := by decide +kernel
theorem dX2_runFrom_23 : decode cX2_runFrom 23 = .ok (.iload_n 1, 1) := by decide +kernel
theorem dX2_runFrom_24 : decode cX2_runFrom 24 = .ok (.iload_n 3, 1) := by decide +kernel
theorem dX2_runFrom_25 : decode cX2_runFrom 25 = .ok (.iadd, 1) := by decide +kernel
theorem dX2_runFrom_26 : decode cX2_runFrom 26 = .ok (.invokevirtual 107, 3) := by decide +kernel
theorem dX2_runFrom_29 : decode cX2_runFrom 29 = .ok (.aload_n 0, 1) := by decide +kernel
theorem dX2_runFrom_30 : decode cX2_runFrom 30 = .ok (.iload_n 1, 1) := by decide +kernel
theorem dX2_runFrom_31 : decode cX2_runFrom 31 = .ok (.invokevirtual 107, 3) := by decide +kernel
theorem dX2_runFrom_34 : decode cX2_runFrom 34 = .ok (.if_icmp .ne 26, 3) := by decide +kernel
theorem dX2_runFrom_37 : decode cX2_runFrom 37 = .ok (.aload_n 0, 1) := by decide +kernel
theorem dX2_runFrom_38 : decode cX2_runFrom 38 = .ok (.iload_n 1, 1) := by decide +kernel
theorem dX2_runFrom_39 : decode cX2_runFrom 39 = .ok (.iload_n 3, 1) := by decide +kernel
theorem dX2_runFrom_40 : decode cX2_runFrom 40 = .ok (.iadd, 1) := by decide +kernel
theorem dX2_runFrom_41 : decode cX2_runFrom 41 = .ok (.iload_n 2, 1) := by decide +kernel
theorem dX2_runFrom_42 : decode cX2_runFrom 42 = .ok (.invokevirtual 110, 3) := by decide +kernel
theorem dX2_runFrom_45 : decode cX2_runFrom 45 = .ok (.aload_n 0, 1) := by decide +kernel
theorem dX2_runFrom_46 : decode cX2_runFrom 46 = .ok (.iload_n 1, 1) := by decide +kernel
theorem dX2_runFrom_47 : decode cX2_runFrom 47 = .ok (.iload_n 2, 1) := by decide +kernel
theorem dX2_runFrom_48 : decode cX2_runFrom 48 = .ok (.invokevirtual 110, 3) := by decide +kernel
theorem dX2_runFrom_51 : decode cX2_runFrom 51 = .ok (.if_icmp .ne 9, 3) := by decide +kernel
theorem dX2_runFrom_54 : decode cX2_runFrom 54 = .ok (.iinc 3 1, 3) := by decide +kernel
theorem dX2_runFrom_57 : decode cX2_runFrom 57 = .ok (.goto (-55), 3) := by decide +kernel
theorem dX2_runFrom_60 : decode cX2_runFrom 60 = .ok (.iload_n 3, 1) := by decide +kernel
theorem dX2_runFrom_61 : decode cX2_runFrom 61 = .ok (.ireturn, 1) := by decide +kernel
theorem dX2_findGroups_0 : decode cX2_findGroups 0 = .ok (.aload_n 0, 1) := by decide +kernel
theorem dX2_findGroups_1 : decode cX2_findGroups 1 = .ok (.iconst 0, 1) := by decide +kernel
theorem dX2_findGroups_2 : decode cX2_findGroups 2 = .ok (.putfield 53, 3) := by decide +kernel
theorem dX2_findGroups_5 : decode cX2_findGroups 5 = .ok (.iconst 0, 1) := by decide +kernel
theorem dX2_findGroups_6 : decode cX2_findGroups 6 = .ok (.istore_n 1, 1) := by decide +kernel
theorem dX2_findGroups_7 : decode cX2_findGroups 7 = .ok (.iload_n 1, 1) := by decide +kernel
theorem dX2_findGroups_8 : decode cX2_findGroups 8 = .ok (.aload_n 0, 1) := by decide +kernel
theorem dX2_findGroups_9 : decode cX2_findGroups 9 = .ok (.getfield 50, 3) := by decide +kernel
theorem dX2_findGroups_12 : decode cX2_findGroups 12 = .ok (.if_icmp .ge 94, 3) := by decide +kernel
theorem dX2_findGroups_15 : decode cX2_findGroups 15 = .ok (.aload_n 0, 1) := by decide +kernel
theorem dX2_findGroups_16 : decode cX2_findGroups 16 = .ok (.iload_n 1, 1) := by decide +kernel
theorem dX2_findGroups_17 : decode cX2_findGroups 17 = .ok (.iconst 0, 1) := by decide +kernel
theorem dX2_findGroups_18 : decode cX2_findGroups 18 = .ok (.invokevirtual 113, 3) := by decide +kernel
theorem dX2_findGroups_21 : decode cX2_findGroups 21 = .ok (.istore_n 2, 1) := by decide +kernel
theorem dX2_findGroups_22 : decode cX2_findGroups 22 = .ok (.iload_n 2, 1) := by decide +kernel
theorem dX2_findGroups_23 : decode cX2_findGroups 23 = .ok (.iconst 1, 1) := by decide +kernel
theorem dX2_findGroups_24 : decode cX2_findGroups 24 = .ok (.if_icmp .le 76, 3) := by decide +kernel
theorem dX2_findGroups_27 : decode cX2_findGroups 27 = .ok (.aload_n 0, 1) := by decide +kernel
theorem dX2_findGroups_28 : decode cX2_findGroups 28 = .ok (.getfield 53, 3) := by decide +kernel
theorem dX2_findGroups_31 : decode cX2_findGroups 31 = .ok (.aload_n 0, 1) := by decide +kernel
theorem dX2_findGroups_32 : decode cX2_findGroups 32 = .ok (.getfield 37, 3) := by decide +kernel
theorem dX2_findGroups_35 : decode cX2_findGroups 35 = .ok (.arraylength, 1) := by decide +kernel
theorem dX2_findGroups_36 : decode cX2_findGroups 36 = .ok (.if_icmp .ge 64, 3) := by decide +kernel
theorem dX2_findGroups_39 : decode cX2_findGroups 39 = .ok (.aload_n 0, 1) := by decide +kernel
theorem dX2_findGroups_40 : decode cX2_findGroups 40 = .ok (.getfield 37, 3) := by decide +kernel
theorem dX2_findGroups_43 : decode cX2_findGroups 43 = .ok (.aload_n 0, 1) := by decide +kernel
theorem dX2_findGroups_44 : decode cX2_findGroups 44 = .ok (.getfield 53, 3) := by decide +kernel
theorem dX2_findGroups_47 : decode cX2_findGroups 47 = .ok (.iload_n 1, 1) := by decide +kernel
theorem dX2_findGroups_48 : decode cX2_findGroups 48 = .ok (.iastore, 1) := by decide +kernel
theorem dX2_findGroups_49 : decode cX2_findGroups 49 = .ok (.aload_n 0, 1) := by decide +kernel
theorem dX2_findGroups_50 : decode cX2_findGroups 50 = .ok (.getfield 40, 3) := by decide +kernel
theorem dX2_findGroups_53 : decode cX2_findGroups 53 = .ok (.aload_n 0, 1) := by decide +kernel
theorem dX2_findGroups_54 : decode cX2_findGroups 54 = .ok (.getfield 53, 3) := by decide +kernel
theorem dX2_findGroups_57 : decode cX2_findGroups 57 = .ok (.iload_n 2, 1) := by decide +kernel
theorem dX2_findGroups_58 : decode cX2_findGroups 58 = .ok (.iastore, 1) := by decide +kernel
theorem dX2_findGroups_59 : decode cX2_findGroups 59 = .ok (.iload_n 1, 1) := by decide +kernel
theorem dX2_findGroups_60 : decode cX2_findGroups 60 = .ok (.istore_n 3, 1) := by decide +kernel
theorem dX2_findGroups_61 : decode cX2_findGroups 61 = .ok (.iload_n 3, 1) := by decide +kernel
theorem dX2_findGroups_62 : decode cX2_findGroups 62 = .ok (.iload_n 1, 1) := by decide +kernel
theorem dX2_findGroups_63 : decode cX2_findGroups 63 = .ok (.iload_n 2, 1) := by decide +kernel
theorem dX2_findGroups_64 : decode cX2_findGroups 64 = .ok (.iadd, 1) := by decide +kernel
theorem dX2_findGroups_65 : decode cX2_findGroups 65 = .ok (.if_icmp .ge 19, 3) := by decide +kernel
theorem dX2_findGroups_68 : decode cX2_findGroups 68 = .ok (.aload_n 0, 1) := by decide +kernel
theorem dX2_findGroups_69 : decode cX2_findGroups 69 = .ok (.getfield 34, 3) := by decide +kernel
theorem dX2_findGroups_72 : decode cX2_findGroups 72 = .ok (.iload_n 3, 1) := by decide +kernel
theorem dX2_findGroups_73 : decode cX2_findGroups 73 = .ok (.aload_n 0, 1) := by decide +kernel
theorem dX2_findGroups_74 : decode cX2_findGroups 74 = .ok (.getfield 53, 3) := by decide +kernel
theorem dX2_findGroups_77 : decode cX2_findGroups 77 = .ok (.iastore, 1) := by decide +kernel
theorem dX2_findGroups_78 : decode cX2_findGroups 78 = .ok (.iinc 3 1, 3) := by decide +kernel
theorem dX2_findGroups_81 : decode cX2_findGroups 81 = .ok (.goto (-20), 3) := by decide +kernel
theorem dX2_findGroups_84 : decode cX2_findGroups 84 = .ok (.aload_n 0, 1) := by decide +kernel
theorem dX2_findGroups_85 : decode cX2_findGroups 85 = .ok (.dup, 1) := by decide +kernel
theorem dX2_findGroups_86 : decode cX2_findGroups 86 = .ok (.getfield 53, 3) := by decide +kernel
theorem dX2_findGroups_89 : decode cX2_findGroups 89 = .ok (.iconst 1, 1) := by decide +kernel
theorem dX2_findGroups_90 : decode cX2_findGroups 90 = .ok (.iadd, 1) := by decide +kernel
theorem dX2_findGroups_91 : decode cX2_findGroups 91 = .ok (.putfield 53, 3) := by decide +kernel
theorem dX2_findGroups_94 : decode cX2_findGroups 94 = .ok (.iload_n 1, 1) := by decide +kernel
theorem dX2_findGroups_95 : decode cX2_findGroups 95 = .ok (.iload_n 2, 1) := by decide +kernel
theorem dX2_findGroups_96 : decode cX2_findGroups 96 = .ok (.iconst 1, 1) := by decide +kernel
theorem dX2_findGroups_97 : decode cX2_findGroups 97 = .ok (.isub, 1) := by decide +kernel
theorem dX2_findGroups_98 : decode cX2_findGroups 98 = .ok (.iadd, 1) := by decide +kernel
theorem dX2_findGroups_99 : decode cX2_findGroups 99 = .ok (.istore_n 1, 1) := by decide +kernel
theorem dX2_findGroups_100 : decode cX2_findGroups 100 = .ok (.iinc 1 1, 3) := by decide +kernel
theorem dX2_findGroups_103 : decode cX2_findGroups 103 = .ok (.goto (-96), 3) := by decide +kernel
theorem dX2_findGroups_106 : decode cX2_findGroups 106 = .ok (.return_, 1) := by decide +kernel
theorem dX2_countNotes_0 : decode cX2_countNotes 0 = .ok (.iconst 0, 1) := by decide +kernel
theorem dX2_countNotes_1 : decode cX2_countNotes 1 = .ok (.istore_n 1, 1) := by decide +kernel
theorem dX2_countNotes_2 : decode cX2_countNotes 2 = .ok (.iconst 0, 1) := by decide +kernel
theorem dX2_countNotes_3 : decode cX2_countNotes 3 = .ok (.istore_n 2, 1) := by decide +kernel
theorem dX2_countNotes_4 : decode cX2_countNotes 4 = .ok (.iload_n 2, 1) := by decide +kernel
theorem dX2_countNotes_5 : decode cX2_countNotes 5 = .ok (.aload_n 0, 1) := by decide +kernel
theorem dX2_countNotes_6 : decode cX2_countNotes 6 = .ok (.getfield 50, 3) := by decide +kernel
theorem dX2_countNotes_9 : decode cX2_countNotes 9 = .ok (.if_icmp .ge 26, 3) := by decide +kernel
theorem dX2_countNotes_12 : decode cX2_countNotes 12 = .ok (.iload_n 1, 1) := by decide +kernel
theorem dX2_countNotes_13 : decode cX2_countNotes 13 = .ok (.aload_n 0, 1) := by decide +kernel
theorem dX2_countNotes_14 : decode cX2_countNotes 14 = .ok (.getfield 21, 3) := by decide +kernel
theorem dX2_countNotes_17 : decode cX2_countNotes 17 = .ok (.iload_n 2, 1) := by decide +kernel
theorem dX2_countNotes_18 : decode cX2_countNotes 18 = .ok (.baload, 1) := by decide +kernel
theorem dX2_countNotes_19 : decode cX2_countNotes 19 = .ok (.ifCond .eq 7, 3) := by decide +kernel
theorem dX2_countNotes_22 : decode cX2_countNotes 22 = .ok (.iconst 1, 1) := by decide +kernel
theorem dX2_countNotes_23 : decode cX2_countNotes 23 = .ok (.goto 4, 3) := by decide +kernel
theorem dX2_countNotes_26 : decode cX2_countNotes 26 = .ok (.iconst 0, 1) := by decide +kernel
theorem dX2_countNotes_27 : decode cX2_countNotes 27 = .ok (.iadd, 1) := by decide +kernel
theorem dX2_countNotes_28 : decode cX2_countNotes 28 = .ok (.istore_n 1, 1) := by decide +kernel
theorem dX2_countNotes_29 : decode cX2_countNotes 29 = .ok (.iinc 2 1, 3) := by decide +kernel
theorem dX2_countNotes_32 : decode cX2_countNotes 32 = .ok (.goto (-28), 3) := by decide +kernel
theorem dX2_countNotes_35 : decode cX2_countNotes 35 = .ok (.iload_n 1, 1) := by decide +kernel
theorem dX2_countNotes_36 : decode cX2_countNotes 36 = .ok (.ireturn, 1) := by decide +kernel
theorem dX2_countMeasures_0 : decode cX2_countMeasures 0 = .ok (.aload_n 0, 1) := by decide +kernel
theorem dX2_countMeasures_1 : decode cX2_countMeasures 1 = .ok (.getfield 50, 3) := by decide +kernel
theorem dX2_countMeasures_4 : decode cX2_countMeasures 4 = .ok (.ifCond .ne 7, 3) := by decide +kernel
theorem dX2_countMeasures_7 : decode cX2_countMeasures 7 = .ok (.iconst 0, 1) := by decide +kernel
theorem dX2_countMeasures_8 : decode cX2_countMeasures 8 = .ok (.goto 15, 3) := by decide +kernel
theorem dX2_countMeasures_11 : decode cX2_countMeasures 11 = .ok (.aload_n 0, 1) := by decide +kernel
theorem dX2_countMeasures_12 : decode cX2_countMeasures 12 = .ok (.aload_n 0, 1) := by decide +kernel
theorem dX2_countMeasures_13 : decode cX2_countMeasures 13 = .ok (.getfield 50, 3) := by decide +kernel
theorem dX2_countMeasures_16 : decode cX2_countMeasures 16 = .ok (.iconst 1, 1) := by decide +kernel
theorem dX2_countMeasures_17 : decode cX2_countMeasures 17 = .ok (.isub, 1) := by decide +kernel
theorem dX2_countMeasures_18 : decode cX2_countMeasures 18 = .ok (.invokevirtual 107, 3) := by decide +kernel
theorem dX2_countMeasures_21 : decode cX2_countMeasures 21 = .ok (.iconst 1, 1) := by decide +kernel
theorem dX2_countMeasures_22 : decode cX2_countMeasures 22 = .ok (.iadd, 1) := by decide +kernel
theorem dX2_countMeasures_23 : decode cX2_countMeasures 23 = .ok (.ireturn, 1) := by decide +kernel
theorem dX3_init_0 : decode cX3_init 0 = .ok (.aload_n 0, 1) := by decide +kernel
theorem dX3_init_1 : decode cX3_init 1 = .ok (.invokespecial 3, 3) := by decide +kernel
theorem dX3_init_4 : decode cX3_init 4 = .ok (.aload_n 0, 1) := by decide +kernel
theorem dX3_init_5 : decode cX3_init 5 = .ok (.iconst (-1), 1) := by decide +kernel
theorem dX3_init_6 : decode cX3_init 6 = .ok (.putfield 9, 3) := by decide +kernel
