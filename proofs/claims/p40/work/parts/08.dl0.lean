theorem dL_cell_0 : decode cL_cell 0 = .ok (.iload_n 1, 1) := by decide +kernel
theorem dL_cell_1 : decode cL_cell 1 = .ok (.aload_n 0, 1) := by decide +kernel
theorem dL_cell_2 : decode cL_cell 2 = .ok (.arraylength, 1) := by decide +kernel
theorem dL_cell_3 : decode cL_cell 3 = .ok (.if_icmp .ge 9, 3) := by decide +kernel
theorem dL_cell_6 : decode cL_cell 6 = .ok (.aload_n 0, 1) := by decide +kernel
theorem dL_cell_7 : decode cL_cell 7 = .ok (.iload_n 1, 1) := by decide +kernel
theorem dL_cell_8 : decode cL_cell 8 = .ok (.iaload, 1) := by decide +kernel
theorem dL_cell_9 : decode cL_cell 9 = .ok (.goto 4, 3) := by decide +kernel
theorem dL_cell_12 : decode cL_cell 12 = .ok (.iconst 0, 1) := by decide +kernel
theorem dL_cell_13 : decode cL_cell 13 = .ok (.ireturn, 1) := by decide +kernel
theorem dL_in_0 : decode cL_in 0 = .ok (.iload_n 0, 1) := by decide +kernel
theorem dL_in_1 : decode cL_in 1 = .ok (.ldc 7, 2) := by decide +kernel
theorem dL_in_3 : decode cL_in 3 = .ok (.iand, 1) := by decide +kernel
theorem dL_in_4 : decode cL_in 4 = .ok (.iload_n 1, 1) := by decide +kernel
theorem dL_in_5 : decode cL_in 5 = .ok (.irem, 1) := by decide +kernel
theorem dL_in_6 : decode cL_in 6 = .ok (.ireturn, 1) := by decide +kernel
theorem dL_put_0 : decode cL_put 0 = .ok (.aload_n 1, 1) := by decide +kernel
theorem dL_put_1 : decode cL_put 1 = .ok (.astore_n 2, 1) := by decide +kernel
theorem dL_put_2 : decode cL_put 2 = .ok (.aload_n 2, 1) := by decide +kernel
theorem dL_put_3 : decode cL_put 3 = .ok (.invokevirtual 8, 3) := by decide +kernel
theorem dL_put_6 : decode cL_put 6 = .ok (.bipush 20, 2) := by decide +kernel
theorem dL_put_8 : decode cL_put 8 = .ok (.irem, 1) := by decide +kernel
theorem dL_put_9 : decode cL_put 9 = .ok (.ifCond .eq 26, 3) := by decide +kernel
theorem dL_put_12 : decode cL_put 12 = .ok (.new 14, 3) := by decide +kernel
theorem dL_put_15 : decode cL_put 15 = .ok (.dup, 1) := by decide +kernel
theorem dL_put_16 : decode cL_put 16 = .ok (.invokespecial 16, 3) := by decide +kernel
theorem dL_put_19 : decode cL_put 19 = .ok (.aload_n 2, 1) := by decide +kernel
theorem dL_put_20 : decode cL_put 20 = .ok (.invokevirtual 17, 3) := by decide +kernel
theorem dL_put_23 : decode cL_put 23 = .ok (.ldc 21, 2) := by decide +kernel
theorem dL_put_25 : decode cL_put 25 = .ok (.invokevirtual 17, 3) := by decide +kernel
theorem dL_put_28 : decode cL_put 28 = .ok (.invokevirtual 23, 3) := by decide +kernel
theorem dL_put_31 : decode cL_put 31 = .ok (.astore_n 2, 1) := by decide +kernel
theorem dL_put_32 : decode cL_put 32 = .ok (.goto (-30), 3) := by decide +kernel
theorem dL_put_35 : decode cL_put 35 = .ok (.iconst 0, 1) := by decide +kernel
theorem dL_put_36 : decode cL_put 36 = .ok (.istore_n 3, 1) := by decide +kernel
theorem dL_put_37 : decode cL_put 37 = .ok (.iload_n 3, 1) := by decide +kernel
theorem dL_put_38 : decode cL_put 38 = .ok (.aload_n 2, 1) := by decide +kernel
theorem dL_put_39 : decode cL_put 39 = .ok (.invokevirtual 8, 3) := by decide +kernel
theorem dL_put_42 : decode cL_put 42 = .ok (.if_icmp .ge 84, 3) := by decide +kernel
theorem dL_put_45 : decode cL_put 45 = .ok (.iconst 5, 1) := by decide +kernel
theorem dL_put_46 : decode cL_put 46 = .ok (.newarray .int, 2) := by decide +kernel
theorem dL_put_48 : decode cL_put 48 = .ok (.astore 4, 2) := by decide +kernel
theorem dL_put_50 : decode cL_put 50 = .ok (.iconst 0, 1) := by decide +kernel
theorem dL_put_51 : decode cL_put 51 = .ok (.istore 5, 2) := by decide +kernel
theorem dL_put_53 : decode cL_put 53 = .ok (.iload 5, 2) := by decide +kernel
theorem dL_put_55 : decode cL_put 55 = .ok (.bipush 20, 2) := by decide +kernel
theorem dL_put_57 : decode cL_put 57 = .ok (.if_icmp .ge 38, 3) := by decide +kernel
theorem dL_put_60 : decode cL_put 60 = .ok (.aload 4, 2) := by decide +kernel
theorem dL_put_62 : decode cL_put 62 = .ok (.iload 5, 2) := by decide +kernel
theorem dL_put_64 : decode cL_put 64 = .ok (.iconst 4, 1) := by decide +kernel
theorem dL_put_65 : decode cL_put 65 = .ok (.idiv, 1) := by decide +kernel
theorem dL_put_66 : decode cL_put 66 = .ok (.dup2, 1) := by decide +kernel
theorem dL_put_67 : decode cL_put 67 = .ok (.iaload, 1) := by decide +kernel
theorem dL_put_68 : decode cL_put 68 = .ok (.aload_n 2, 1) := by decide +kernel
theorem dL_put_69 : decode cL_put 69 = .ok (.iload_n 3, 1) := by decide +kernel
theorem dL_put_70 : decode cL_put 70 = .ok (.iload 5, 2) := by decide +kernel
theorem dL_put_72 : decode cL_put 72 = .ok (.iadd, 1) := by decide +kernel
theorem dL_put_73 : decode cL_put 73 = .ok (.invokevirtual 27, 3) := by decide +kernel
theorem dL_put_76 : decode cL_put 76 = .ok (.bipush 24, 2) := by decide +kernel
theorem dL_put_78 : decode cL_put 78 = .ok (.bipush 8, 2) := by decide +kernel
theorem dL_put_80 : decode cL_put 80 = .ok (.iload 5, 2) := by decide +kernel
theorem dL_put_82 : decode cL_put 82 = .ok (.iconst 4, 1) := by decide +kernel
theorem dL_put_83 : decode cL_put 83 = .ok (.irem, 1) := by decide +kernel
theorem dL_put_84 : decode cL_put 84 = .ok (.imul, 1) := by decide +kernel
theorem dL_put_85 : decode cL_put 85 = .ok (.isub, 1) := by decide +kernel
theorem dL_put_86 : decode cL_put 86 = .ok (.ishl, 1) := by decide +kernel
theorem dL_put_87 : decode cL_put 87 = .ok (.ior, 1) := by decide +kernel
theorem dL_put_88 : decode cL_put 88 = .ok (.iastore, 1) := by decide +kernel
theorem dL_put_89 : decode cL_put 89 = .ok (.iinc 5 1, 3) := by decide +kernel
theorem dL_put_92 : decode cL_put 92 = .ok (.goto (-39), 3) := by decide +kernel
theorem dL_put_95 : decode cL_put 95 = .ok (.aload_n 0, 1) := by decide +kernel
theorem dL_put_96 : decode cL_put 96 = .ok (.aload 4, 2) := by decide +kernel
theorem dL_put_98 : decode cL_put 98 = .ok (.iconst 0, 1) := by decide +kernel
theorem dL_put_99 : decode cL_put 99 = .ok (.iaload, 1) := by decide +kernel
theorem dL_put_100 : decode cL_put 100 = .ok (.aload 4, 2) := by decide +kernel
theorem dL_put_102 : decode cL_put 102 = .ok (.iconst 1, 1) := by decide +kernel
theorem dL_put_103 : decode cL_put 103 = .ok (.iaload, 1) := by decide +kernel
theorem dL_put_104 : decode cL_put 104 = .ok (.aload 4, 2) := by decide +kernel
theorem dL_put_106 : decode cL_put 106 = .ok (.iconst 2, 1) := by decide +kernel
theorem dL_put_107 : decode cL_put 107 = .ok (.iaload, 1) := by decide +kernel
theorem dL_put_108 : decode cL_put 108 = .ok (.aload 4, 2) := by decide +kernel
theorem dL_put_110 : decode cL_put 110 = .ok (.iconst 3, 1) := by decide +kernel
theorem dL_put_111 : decode cL_put 111 = .ok (.iaload, 1) := by decide +kernel
theorem dL_put_112 : decode cL_put 112 = .ok (.aload 4, 2) := by decide +kernel
theorem dL_put_114 : decode cL_put 114 = .ok (.iconst 4, 1) := by decide +kernel
theorem dL_put_115 : decode cL_put 115 = .ok (.iaload, 1) := by decide +kernel
theorem dL_put_116 : decode cL_put 116 = .ok (.invokevirtual 31, 3) := by decide +kernel
theorem dL_put_119 : decode cL_put 119 = .ok (.pop, 1) := by decide +kernel
theorem dL_put_120 : decode cL_put 120 = .ok (.iinc 3 20, 3) := by decide +kernel
theorem dL_put_123 : decode cL_put 123 = .ok (.goto (-86), 3) := by decide +kernel
theorem dL_put_126 : decode cL_put 126 = .ok (.return_, 1) := by decide +kernel
theorem dL_kind_0 : decode cL_kind 0 = .ok (.iconst 1, 1) := by decide +kernel
theorem dL_kind_1 : decode cL_kind 1 = .ok (.aload_n 0, 1) := by decide +kernel
theorem dL_kind_2 : decode cL_kind 2 = .ok (.iconst 2, 1) := by decide +kernel
theorem dL_kind_3 : decode cL_kind 3 = .ok (.iload_n 1, 1) := by decide +kernel
theorem dL_kind_4 : decode cL_kind 4 = .ok (.imul, 1) := by decide +kernel
theorem dL_kind_5 : decode cL_kind 5 = .ok (.invokestatic 37, 3) := by decide +kernel
theorem dL_kind_8 : decode cL_kind 8 = .ok (.iconst 3, 1) := by decide +kernel
theorem dL_kind_9 : decode cL_kind 9 = .ok (.invokestatic 43, 3) := by decide +kernel
theorem dL_kind_12 : decode cL_kind 12 = .ok (.iadd, 1) := by decide +kernel
theorem dL_kind_13 : decode cL_kind 13 = .ok (.ireturn, 1) := by decide +kernel
theorem dL_position_0 : decode cL_position 0 = .ok (.aload_n 0, 1) := by decide +kernel
theorem dL_position_1 : decode cL_position 1 = .ok (.iconst 2, 1) := by decide +kernel
theorem dL_position_2 : decode cL_position 2 = .ok (.iload_n 1, 1) := by decide +kernel
theorem dL_position_3 : decode cL_position 3 = .ok (.imul, 1) := by decide +kernel
theorem dL_position_4 : decode cL_position 4 = .ok (.iconst 1, 1) := by decide +kernel
theorem dL_position_5 : decode cL_position 5 = .ok (.iadd, 1) := by decide +kernel
theorem dL_position_6 : decode cL_position 6 = .ok (.invokestatic 37, 3) := by decide +kernel
theorem dL_position_9 : decode cL_position 9 = .ok (.aload_n 0, 1) := by decide +kernel
theorem dL_position_10 : decode cL_position 10 = .ok (.iconst 2, 1) := by decide +kernel
theorem dL_position_11 : decode cL_position 11 = .ok (.iload_n 1, 1) := by decide +kernel
theorem dL_position_12 : decode cL_position 12 = .ok (.imul, 1) := by decide +kernel
theorem dL_position_13 : decode cL_position 13 = .ok (.invokestatic 37, 3) := by decide +kernel
theorem dL_position_16 : decode cL_position 16 = .ok (.bipush 8, 2) := by decide +kernel
theorem dL_position_18 : decode cL_position 18 = .ok (.idiv, 1) := by decide +kernel
theorem dL_position_19 : decode cL_position 19 = .ok (.iconst 4, 1) := by decide +kernel
theorem dL_position_20 : decode cL_position 20 = .ok (.invokestatic 43, 3) := by decide +kernel
theorem dL_position_23 : decode cL_position 23 = .ok (.ifCond .ne 8, 3) := by decide +kernel
theorem dL_position_26 : decode cL_position 26 = .ok (.bipush 25, 2) := by decide +kernel
theorem dL_position_28 : decode cL_position 28 = .ok (.goto 5, 3) := by decide +kernel
theorem dL_position_31 : decode cL_position 31 = .ok (.bipush 13, 2) := by decide +kernel
theorem dL_position_33 : decode cL_position 33 = .ok (.invokestatic 43, 3) := by decide +kernel
theorem dL_position_36 : decode cL_position 36 = .ok (.bipush 6, 2) := by decide +kernel
theorem dL_position_38 : decode cL_position 38 = .ok (.isub, 1) := by decide +kernel
theorem dL_position_39 : decode cL_position 39 = .ok (.ireturn, 1) := by decide +kernel
theorem dL_many_0 : decode cL_many 0 = .ok (.iconst 0, 1) := by decide +kernel
theorem dL_many_1 : decode cL_many 1 = .ok (.istore_n 1, 1) := by decide +kernel
theorem dL_many_2 : decode cL_many 2 = .ok (.iconst 0, 1) := by decide +kernel
theorem dL_many_3 : decode cL_many 3 = .ok (.istore_n 2, 1) := by decide +kernel
theorem dL_many_4 : decode cL_many 4 = .ok (.iload_n 2, 1) := by decide +kernel
theorem dL_many_5 : decode cL_many 5 = .ok (.bipush 8, 2) := by decide +kernel
theorem dL_many_7 : decode cL_many 7 = .ok (.if_icmp .ge 52, 3) := by decide +kernel
theorem dL_many_10 : decode cL_many 10 = .ok (.iload_n 2, 1) := by decide +kernel
theorem dL_many_11 : decode cL_many 11 = .ok (.iconst 2, 1) := by decide +kernel
theorem dL_many_12 : decode cL_many 12 = .ok (.aload_n 0, 1) := by decide +kernel
theorem dL_many_13 : decode cL_many 13 = .ok (.bipush 20, 2) := by decide +kernel
theorem dL_many_15 : decode cL_many 15 = .ok (.invokestatic 37, 3) := by decide +kernel
theorem dL_many_18 : decode cL_many 18 = .ok (.bipush 7, 2) := by decide +kernel
theorem dL_many_20 : decode cL_many 20 = .ok (.invokestatic 43, 3) := by decide +kernel
theorem dL_many_23 : decode cL_many 23 = .ok (.iadd, 1) := by decide +kernel
theorem dL_many_24 : decode cL_many 24 = .ok (.if_icmp .ge 35, 3) := by decide +kernel
theorem dL_many_27 : decode cL_many 27 = .ok (.iload_n 1, 1) := by decide +kernel
theorem dL_many_28 : decode cL_many 28 = .ok (.bipush 8, 2) := by decide +kernel
theorem dL_many_30 : decode cL_many 30 = .ok (.aload_n 0, 1) := by decide +kernel
theorem dL_many_31 : decode cL_many 31 = .ok (.iload_n 2, 1) := by decide +kernel
theorem dL_many_32 : decode cL_many 32 = .ok (.invokestatic 47, 3) := by decide +kernel
theorem dL_many_35 : decode cL_many 35 = .ok (.ishr, 1) := by decide +kernel
theorem dL_many_36 : decode cL_many 36 = .ok (.iadd, 1) := by decide +kernel
theorem dL_many_37 : decode cL_many 37 = .ok (.bipush 16, 2) := by decide +kernel
theorem dL_many_39 : decode cL_many 39 = .ok (.if_icmp .gt 20, 3) := by decide +kernel
theorem dL_many_42 : decode cL_many 42 = .ok (.iload_n 1, 1) := by decide +kernel
theorem dL_many_43 : decode cL_many 43 = .ok (.bipush 8, 2) := by decide +kernel
theorem dL_many_45 : decode cL_many 45 = .ok (.aload_n 0, 1) := by decide +kernel
theorem dL_many_46 : decode cL_many 46 = .ok (.iload_n 2, 1) := by decide +kernel
theorem dL_many_47 : decode cL_many 47 = .ok (.invokestatic 47, 3) := by decide +kernel
theorem dL_many_50 : decode cL_many 50 = .ok (.ishr, 1) := by decide +kernel
theorem dL_many_51 : decode cL_many 51 = .ok (.iadd, 1) := by decide +kernel
theorem dL_many_52 : decode cL_many 52 = .ok (.istore_n 1, 1) := by decide +kernel
theorem dL_many_53 : decode cL_many 53 = .ok (.iinc 2 1, 3) := by decide +kernel
theorem dL_many_56 : decode cL_many 56 = .ok (.goto (-52), 3) := by decide +kernel
theorem dL_many_59 : decode cL_many 59 = .ok (.iload_n 2, 1) := by decide +kernel
theorem dL_many_60 : decode cL_many 60 = .ok (.ireturn, 1) := by decide +kernel
theorem dL_place_0 : decode cL_place 0 = .ok (.bipush 12, 2) := by decide +kernel
theorem dL_place_2 : decode cL_place 2 = .ok (.aload_n 0, 1) := by decide +kernel
theorem dL_place_3 : decode cL_place 3 = .ok (.iload_n 1, 1) := by decide +kernel
theorem dL_place_4 : decode cL_place 4 = .ok (.invokestatic 50, 3) := by decide +kernel
theorem dL_place_7 : decode cL_place 7 = .ok (.invokestatic 53, 3) := by decide +kernel
theorem dL_place_10 : decode cL_place 10 = .ok (.ireturn, 1) := by decide +kernel
theorem dL_knee_0 : decode cL_knee 0 = .ok (.iconst 4, 1) := by decide +kernel
theorem dL_knee_1 : decode cL_knee 1 = .ok (.aload_n 0, 1) := by decide +kernel
theorem dL_knee_2 : decode cL_knee 2 = .ok (.bipush 21, 2) := by decide +kernel
theorem dL_knee_4 : decode cL_knee 4 = .ok (.invokestatic 37, 3) := by decide +kernel
theorem dL_knee_7 : decode cL_knee 7 = .ok (.bipush 21, 2) := by decide +kernel
theorem dL_knee_9 : decode cL_knee 9 = .ok (.invokestatic 43, 3) := by decide +kernel
theorem dL_knee_12 : decode cL_knee 12 = .ok (.iadd, 1) := by decide +kernel
theorem dL_knee_13 : decode cL_knee 13 = .ok (.ireturn, 1) := by decide +kernel
theorem dL_wide_0 : decode cL_wide 0 = .ok (.iconst 4, 1) := by decide +kernel
theorem dL_wide_1 : decode cL_wide 1 = .ok (.aload_n 0, 1) := by decide +kernel
theorem dL_wide_2 : decode cL_wide 2 = .ok (.bipush 22, 2) := by decide +kernel
theorem dL_wide_4 : decode cL_wide 4 = .ok (.invokestatic 37, 3) := by decide +kernel
theorem dL_wide_7 : decode cL_wide 7 = .ok (.iconst 5, 1) := by decide +kernel
theorem dL_wide_8 : decode cL_wide 8 = .ok (.iload_n 1, 1) := by decide +kernel
theorem dL_wide_9 : decode cL_wide 9 = .ok (.imul, 1) := by decide +kernel
theorem dL_wide_10 : decode cL_wide 10 = .ok (.ishr, 1) := by decide +kernel
theorem dL_wide_11 : decode cL_wide 11 = .ok (.bipush 31, 2) := by decide +kernel
theorem dL_wide_13 : decode cL_wide 13 = .ok (.invokestatic 43, 3) := by decide +kernel
theorem dL_wide_16 : decode cL_wide 16 = .ok (.iadd, 1) := by decide +kernel
theorem dL_wide_17 : decode cL_wide 17 = .ok (.ireturn, 1) := by decide +kernel
theorem dL_text_0 : decode cL_text 0 = .ok (.new 14, 3) := by decide +kernel
theorem dL_text_3 : decode cL_text 3 = .ok (.dup, 1) := by decide +kernel
theorem dL_text_4 : decode cL_text 4 = .ok (.invokespecial 16, 3) := by decide +kernel
theorem dL_text_7 : decode cL_text 7 = .ok (.ldc 58, 2) := by decide +kernel
theorem dL_text_9 : decode cL_text 9 = .ok (.invokevirtual 17, 3) := by decide +kernel
theorem dL_text_12 : decode cL_text 12 = .ok (.aload_n 0, 1) := by decide +kernel
theorem dL_text_13 : decode cL_text 13 = .ok (.invokestatic 60, 3) := by decide +kernel
theorem dL_text_16 : decode cL_text 16 = .ok (.invokevirtual 64, 3) := by decide +kernel
theorem dL_text_19 : decode cL_text 19 = .ok (.ldc 67, 2) := by decide +kernel
theorem dL_text_21 : decode cL_text 21 = .ok (.invokevirtual 17, 3) := by decide +kernel
theorem dL_text_24 : decode cL_text 24 = .ok (.aload_n 0, 1) := by decide +kernel
theorem dL_text_25 : decode cL_text 25 = .ok (.iconst 1, 1) := by decide +kernel
theorem dL_text_26 : decode cL_text 26 = .ok (.invokestatic 69, 3) := by decide +kernel
theorem dL_text_29 : decode cL_text 29 = .ok (.invokevirtual 64, 3) := by decide +kernel
theorem dL_text_32 : decode cL_text 32 = .ok (.ldc 72, 2) := by decide +kernel
theorem dL_text_34 : decode cL_text 34 = .ok (.invokevirtual 17, 3) := by decide +kernel
theorem dL_text_37 : decode cL_text 37 = .ok (.aload_n 0, 1) := by decide +kernel
theorem dL_text_38 : decode cL_text 38 = .ok (.iconst 2, 1) := by decide +kernel
theorem dL_text_39 : decode cL_text 39 = .ok (.invokestatic 69, 3) := by decide +kernel
theorem dL_text_42 : decode cL_text 42 = .ok (.invokevirtual 64, 3) := by decide +kernel
theorem dL_text_45 : decode cL_text 45 = .ok (.ldc 74, 2) := by decide +kernel
theorem dL_text_47 : decode cL_text 47 = .ok (.invokevirtual 17, 3) := by decide +kernel
theorem dL_text_50 : decode cL_text 50 = .ok (.aload_n 0, 1) := by decide +kernel
theorem dL_text_51 : decode cL_text 51 = .ok (.iconst 3, 1) := by decide +kernel
theorem dL_text_52 : decode cL_text 52 = .ok (.invokestatic 69, 3) := by decide +kernel
theorem dL_text_55 : decode cL_text 55 = .ok (.invokevirtual 64, 3) := by decide +kernel
theorem dL_text_58 : decode cL_text 58 = .ok (.ldc 76, 2) := by decide +kernel
theorem dL_text_60 : decode cL_text 60 = .ok (.invokevirtual 17, 3) := by decide +kernel
theorem dL_text_63 : decode cL_text 63 = .ok (.invokevirtual 23, 3) := by decide +kernel
theorem dL_text_66 : decode cL_text 66 = .ok (.astore_n 1, 1) := by decide +kernel
theorem dL_text_67 : decode cL_text 67 = .ok (.iconst 0, 1) := by decide +kernel
theorem dL_text_68 : decode cL_text 68 = .ok (.istore_n 2, 1) := by decide +kernel
theorem dL_text_69 : decode cL_text 69 = .ok (.iload_n 2, 1) := by decide +kernel
theorem dL_text_70 : decode cL_text 70 = .ok (.aload_n 0, 1) := by decide +kernel
theorem dL_text_71 : decode cL_text 71 = .ok (.invokestatic 78, 3) := by decide +kernel
theorem dL_text_74 : decode cL_text 74 = .ok (.if_icmp .ge 78, 3) := by decide +kernel
theorem dL_text_77 : decode cL_text 77 = .ok (.new 14, 3) := by decide +kernel
theorem dL_text_80 : decode cL_text 80 = .ok (.dup, 1) := by decide +kernel
theorem dL_text_81 : decode cL_text 81 = .ok (.invokespecial 16, 3) := by decide +kernel
theorem dL_text_84 : decode cL_text 84 = .ok (.aload_n 1, 1) := by decide +kernel
theorem dL_text_85 : decode cL_text 85 = .ok (.invokevirtual 17, 3) := by decide +kernel
theorem dL_text_88 : decode cL_text 88 = .ok (.ldc 81, 2) := by decide +kernel
theorem dL_text_90 : decode cL_text 90 = .ok (.invokevirtual 17, 3) := by decide +kernel
theorem dL_text_93 : decode cL_text 93 = .ok (.iconst 4, 1) := by decide +kernel
theorem dL_text_94 : decode cL_text 94 = .ok (.aload_n 0, 1) := by decide +kernel
theorem dL_text_95 : decode cL_text 95 = .ok (.iload_n 2, 1) := by decide +kernel
theorem dL_text_96 : decode cL_text 96 = .ok (.invokestatic 47, 3) := by decide +kernel
theorem dL_text_99 : decode cL_text 99 = .ok (.ishl, 1) := by decide +kernel
theorem dL_text_100 : decode cL_text 100 = .ok (.invokevirtual 64, 3) := by decide +kernel
theorem dL_text_103 : decode cL_text 103 = .ok (.ldc 21, 2) := by decide +kernel
theorem dL_text_105 : decode cL_text 105 = .ok (.invokevirtual 17, 3) := by decide +kernel
theorem dL_text_108 : decode cL_text 108 = .ok (.aload_n 0, 1) := by decide +kernel
theorem dL_text_109 : decode cL_text 109 = .ok (.iload_n 2, 1) := by decide +kernel
theorem dL_text_110 : decode cL_text 110 = .ok (.invokestatic 83, 3) := by decide +kernel
theorem dL_text_113 : decode cL_text 113 = .ok (.ifCond .ge 8, 3) := by decide +kernel
theorem dL_text_116 : decode cL_text 116 = .ok (.ldc 86, 2) := by decide +kernel
theorem dL_text_118 : decode cL_text 118 = .ok (.goto 5, 3) := by decide +kernel
theorem dL_text_121 : decode cL_text 121 = .ok (.ldc 88, 2) := by decide +kernel
theorem dL_text_123 : decode cL_text 123 = .ok (.invokevirtual 17, 3) := by decide +kernel
theorem dL_text_126 : decode cL_text 126 = .ok (.aload_n 0, 1) := by decide +kernel
theorem dL_text_127 : decode cL_text 127 = .ok (.iload_n 2, 1) := by decide +kernel
theorem dL_text_128 : decode cL_text 128 = .ok (.invokestatic 83, 3) := by decide +kernel
theorem dL_text_131 : decode cL_text 131 = .ok (.invokestatic 90, 3) := by decide +kernel
theorem dL_text_134 : decode cL_text 134 = .ok (.invokevirtual 64, 3) := by decide +kernel
theorem dL_text_137 : decode cL_text 137 = .ok (.ldc 76, 2) := by decide +kernel
theorem dL_text_139 : decode cL_text 139 = .ok (.invokevirtual 17, 3) := by decide +kernel
theorem dL_text_142 : decode cL_text 142 = .ok (.invokevirtual 23, 3) := by decide +kernel
theorem dL_text_145 : decode cL_text 145 = .ok (.astore_n 1, 1) := by decide +kernel
theorem dL_text_146 : decode cL_text 146 = .ok (.iinc 2 1, 3) := by decide +kernel
theorem dL_text_149 : decode cL_text 149 = .ok (.goto (-80), 3) := by decide +kernel
theorem dL_text_152 : decode cL_text 152 = .ok (.aload_n 1, 1) := by decide +kernel
theorem dL_text_153 : decode cL_text 153 = .ok (.areturn, 1) := by decide +kernel
theorem dL_ways_0 : decode cL_ways 0 = .ok (.aload_n 1, 1) := by decide +kernel
theorem dL_ways_1 : decode cL_ways 1 = .ok (.arraylength, 1) := by decide +kernel
theorem dL_ways_2 : decode cL_ways 2 = .ok (.istore_n 2, 1) := by decide +kernel
theorem dL_ways_3 : decode cL_ways 3 = .ok (.iconst 0, 1) := by decide +kernel
theorem dL_ways_4 : decode cL_ways 4 = .ok (.istore_n 3, 1) := by decide +kernel
theorem dL_ways_5 : decode cL_ways 5 = .ok (.iconst 0, 1) := by decide +kernel
theorem dL_ways_6 : decode cL_ways 6 = .ok (.istore 4, 2) := by decide +kernel
theorem dL_ways_8 : decode cL_ways 8 = .ok (.iconst 0, 1) := by decide +kernel
theorem dL_ways_9 : decode cL_ways 9 = .ok (.istore 5, 2) := by decide +kernel
theorem dL_ways_11 : decode cL_ways 11 = .ok (.iconst 0, 1) := by decide +kernel
theorem dL_ways_12 : decode cL_ways 12 = .ok (.istore 6, 2) := by decide +kernel
theorem dL_ways_14 : decode cL_ways 14 = .ok (.iload 6, 2) := by decide +kernel
theorem dL_ways_16 : decode cL_ways 16 = .ok (.iload_n 2, 1) := by decide +kernel
theorem dL_ways_17 : decode cL_ways 17 = .ok (.if_icmp .ge 138, 3) := by decide +kernel
theorem dL_ways_20 : decode cL_ways 20 = .ok (.bipush 99, 2) := by decide +kernel
theorem dL_ways_22 : decode cL_ways 22 = .ok (.istore 7, 2) := by decide +kernel
theorem dL_ways_24 : decode cL_ways 24 = .ok (.iconst 0, 1) := by decide +kernel
theorem dL_ways_25 : decode cL_ways 25 = .ok (.istore 8, 2) := by decide +kernel
theorem dL_ways_27 : decode cL_ways 27 = .ok (.iload 8, 2) := by decide +kernel
theorem dL_ways_29 : decode cL_ways 29 = .ok (.iload_n 2, 1) := by decide +kernel
theorem dL_ways_30 : decode cL_ways 30 = .ok (.if_icmp .ge 31, 3) := by decide +kernel
theorem dL_ways_33 : decode cL_ways 33 = .ok (.aload_n 1, 1) := by decide +kernel
theorem dL_ways_34 : decode cL_ways 34 = .ok (.iload 8, 2) := by decide +kernel
theorem dL_ways_36 : decode cL_ways 36 = .ok (.iaload, 1) := by decide +kernel
theorem dL_ways_37 : decode cL_ways 37 = .ok (.aload_n 1, 1) := by decide +kernel
theorem dL_ways_38 : decode cL_ways 38 = .ok (.iload 6, 2) := by decide +kernel
theorem dL_ways_40 : decode cL_ways 40 = .ok (.iaload, 1) := by decide +kernel
theorem dL_ways_41 : decode cL_ways 41 = .ok (.if_icmp .le 14, 3) := by decide +kernel
theorem dL_ways_44 : decode cL_ways 44 = .ok (.iload 7, 2) := by decide +kernel
theorem dL_ways_46 : decode cL_ways 46 = .ok (.aload_n 1, 1) := by decide +kernel
theorem dL_ways_47 : decode cL_ways 47 = .ok (.iload 8, 2) := by decide +kernel
theorem dL_ways_49 : decode cL_ways 49 = .ok (.iaload, 1) := by decide +kernel
theorem dL_ways_50 : decode cL_ways 50 = .ok (.invokestatic 53, 3) := by decide +kernel
theorem dL_ways_53 : decode cL_ways 53 = .ok (.istore 7, 2) := by decide +kernel
theorem dL_ways_55 : decode cL_ways 55 = .ok (.iinc 8 1, 3) := by decide +kernel
theorem dL_ways_58 : decode cL_ways 58 = .ok (.goto (-31), 3) := by decide +kernel
theorem dL_ways_61 : decode cL_ways 61 = .ok (.iload 7, 2) := by decide +kernel
theorem dL_ways_63 : decode cL_ways 63 = .ok (.aload_n 1, 1) := by decide +kernel
theorem dL_ways_64 : decode cL_ways 64 = .ok (.iload 6, 2) := by decide +kernel
theorem dL_ways_66 : decode cL_ways 66 = .ok (.iaload, 1) := by decide +kernel
theorem dL_ways_67 : decode cL_ways 67 = .ok (.isub, 1) := by decide +kernel
theorem dL_ways_68 : decode cL_ways 68 = .ok (.istore 8, 2) := by decide +kernel
theorem dL_ways_70 : decode cL_ways 70 = .ok (.iload 7, 2) := by decide +kernel
theorem dL_ways_72 : decode cL_ways 72 = .ok (.aload_n 1, 1) := by decide +kernel
theorem dL_ways_73 : decode cL_ways 73 = .ok (.iload 6, 2) := by decide +kernel
theorem dL_ways_75 : decode cL_ways 75 = .ok (.iaload, 1) := by decide +kernel
theorem dL_ways_76 : decode cL_ways 76 = .ok (.iadd, 1) := by decide +kernel
theorem dL_ways_77 : decode cL_ways 77 = .ok (.invokestatic 90, 3) := by decide +kernel
theorem dL_ways_80 : decode cL_ways 80 = .ok (.istore 9, 2) := by decide +kernel
theorem dL_ways_82 : decode cL_ways 82 = .ok (.iload 7, 2) := by decide +kernel
theorem dL_ways_84 : decode cL_ways 84 = .ok (.bipush 99, 2) := by decide +kernel
theorem dL_ways_86 : decode cL_ways 86 = .ok (.if_icmp .eq 63, 3) := by decide +kernel
theorem dL_ways_89 : decode cL_ways 89 = .ok (.iload 8, 2) := by decide +kernel
theorem dL_ways_91 : decode cL_ways 91 = .ok (.aload_n 0, 1) := by decide +kernel
theorem dL_ways_92 : decode cL_ways 92 = .ok (.invokestatic 60, 3) := by decide +kernel
theorem dL_ways_95 : decode cL_ways 95 = .ok (.if_icmp .lt 54, 3) := by decide +kernel
theorem dL_ways_98 : decode cL_ways 98 = .ok (.iload 8, 2) := by decide +kernel
theorem dL_ways_100 : decode cL_ways 100 = .ok (.iload_n 3, 1) := by decide +kernel
theorem dL_ways_101 : decode cL_ways 101 = .ok (.if_icmp .ge 6, 3) := by decide +kernel
theorem dL_ways_104 : decode cL_ways 104 = .ok (.goto 45, 3) := by decide +kernel
theorem dL_ways_107 : decode cL_ways 107 = .ok (.iload 8, 2) := by decide +kernel
theorem dL_ways_109 : decode cL_ways 109 = .ok (.iload_n 3, 1) := by decide +kernel
theorem dL_ways_110 : decode cL_ways 110 = .ok (.if_icmp .gt 26, 3) := by decide +kernel
theorem dL_ways_113 : decode cL_ways 113 = .ok (.iload 9, 2) := by decide +kernel
theorem dL_ways_115 : decode cL_ways 115 = .ok (.iload 5, 2) := by decide +kernel
theorem dL_ways_117 : decode cL_ways 117 = .ok (.if_icmp .lt 19, 3) := by decide +kernel
theorem dL_ways_120 : decode cL_ways 120 = .ok (.iload 9, 2) := by decide +kernel
theorem dL_ways_122 : decode cL_ways 122 = .ok (.iload 5, 2) := by decide +kernel
theorem dL_ways_124 : decode cL_ways 124 = .ok (.if_icmp .ne 25, 3) := by decide +kernel
theorem dL_ways_127 : decode cL_ways 127 = .ok (.aload_n 1, 1) := by decide +kernel
theorem dL_ways_128 : decode cL_ways 128 = .ok (.iload 6, 2) := by decide +kernel
theorem dL_ways_130 : decode cL_ways 130 = .ok (.iaload, 1) := by decide +kernel
theorem dL_ways_131 : decode cL_ways 131 = .ok (.iload 4, 2) := by decide +kernel
theorem dL_ways_133 : decode cL_ways 133 = .ok (.if_icmp .ge 16, 3) := by decide +kernel
theorem dL_ways_136 : decode cL_ways 136 = .ok (.iload 8, 2) := by decide +kernel
theorem dL_ways_138 : decode cL_ways 138 = .ok (.istore_n 3, 1) := by decide +kernel
theorem dL_ways_139 : decode cL_ways 139 = .ok (.aload_n 1, 1) := by decide +kernel
theorem dL_ways_140 : decode cL_ways 140 = .ok (.iload 6, 2) := by decide +kernel
theorem dL_ways_142 : decode cL_ways 142 = .ok (.iaload, 1) := by decide +kernel
theorem dL_ways_143 : decode cL_ways 143 = .ok (.istore 4, 2) := by decide +kernel
theorem dL_ways_145 : decode cL_ways 145 = .ok (.iload 9, 2) := by decide +kernel
theorem dL_ways_147 : decode cL_ways 147 = .ok (.istore 5, 2) := by decide +kernel
theorem dL_ways_149 : decode cL_ways 149 = .ok (.iinc 6 1, 3) := by decide +kernel
theorem dL_ways_152 : decode cL_ways 152 = .ok (.goto (-138), 3) := by decide +kernel
theorem dL_ways_155 : decode cL_ways 155 = .ok (.iload_n 2, 1) := by decide +kernel
theorem dL_ways_156 : decode cL_ways 156 = .ok (.newarray .int, 2) := by decide +kernel
theorem dL_ways_158 : decode cL_ways 158 = .ok (.astore 6, 2) := by decide +kernel
theorem dL_ways_160 : decode cL_ways 160 = .ok (.iconst 0, 1) := by decide +kernel
theorem dL_ways_161 : decode cL_ways 161 = .ok (.istore 7, 2) := by decide +kernel
theorem dL_ways_163 : decode cL_ways 163 = .ok (.iconst 0, 1) := by decide +kernel
theorem dL_ways_164 : decode cL_ways 164 = .ok (.istore 8, 2) := by decide +kernel
theorem dL_ways_166 : decode cL_ways 166 = .ok (.iconst 0, 1) := by decide +kernel
theorem dL_ways_167 : decode cL_ways 167 = .ok (.istore 9, 2) := by decide +kernel
theorem dL_ways_169 : decode cL_ways 169 = .ok (.aload_n 1, 1) := by decide +kernel
theorem dL_ways_170 : decode cL_ways 170 = .ok (.astore 10, 2) := by decide +kernel
theorem dL_ways_172 : decode cL_ways 172 = .ok (.aload 10, 2) := by decide +kernel
theorem dL_ways_174 : decode cL_ways 174 = .ok (.arraylength, 1) := by decide +kernel
theorem dL_ways_175 : decode cL_ways 175 = .ok (.istore 11, 2) := by decide +kernel
theorem dL_ways_177 : decode cL_ways 177 = .ok (.iconst 0, 1) := by decide +kernel
theorem dL_ways_178 : decode cL_ways 178 = .ok (.istore 12, 2) := by decide +kernel
theorem dL_ways_180 : decode cL_ways 180 = .ok (.iload 12, 2) := by decide +kernel
theorem dL_ways_182 : decode cL_ways 182 = .ok (.iload 11, 2) := by decide +kernel
theorem dL_ways_184 : decode cL_ways 184 = .ok (.if_icmp .ge 42, 3) := by decide +kernel
theorem dL_ways_187 : decode cL_ways 187 = .ok (.aload 10, 2) := by decide +kernel
theorem dL_ways_189 : decode cL_ways 189 = .ok (.iload 12, 2) := by decide +kernel
theorem dL_ways_191 : decode cL_ways 191 = .ok (.iaload, 1) := by decide +kernel
theorem dL_ways_192 : decode cL_ways 192 = .ok (.istore 13, 2) := by decide +kernel
theorem dL_ways_194 : decode cL_ways 194 = .ok (.iload 7, 2) := by decide +kernel
theorem dL_ways_196 : decode cL_ways 196 = .ok (.iload 13, 2) := by decide +kernel
theorem dL_ways_198 : decode cL_ways 198 = .ok (.invokestatic 94, 3) := by decide +kernel
theorem dL_ways_201 : decode cL_ways 201 = .ok (.istore 7, 2) := by decide +kernel
theorem dL_ways_203 : decode cL_ways 203 = .ok (.iload 8, 2) := by decide +kernel
theorem dL_ways_205 : decode cL_ways 205 = .ok (.iload 13, 2) := by decide +kernel
theorem dL_ways_207 : decode cL_ways 207 = .ok (.ineg, 1) := by decide +kernel
theorem dL_ways_208 : decode cL_ways 208 = .ok (.invokestatic 94, 3) := by decide +kernel
theorem dL_ways_211 : decode cL_ways 211 = .ok (.istore 8, 2) := by decide +kernel
theorem dL_ways_213 : decode cL_ways 213 = .ok (.iload 9, 2) := by decide +kernel
theorem dL_ways_215 : decode cL_ways 215 = .ok (.iload 13, 2) := by decide +kernel
theorem dL_ways_217 : decode cL_ways 217 = .ok (.iadd, 1) := by decide +kernel
theorem dL_ways_218 : decode cL_ways 218 = .ok (.istore 9, 2) := by decide +kernel
theorem dL_ways_220 : decode cL_ways 220 = .ok (.iinc 12 1, 3) := by decide +kernel
theorem dL_ways_223 : decode cL_ways 223 = .ok (.goto (-43), 3) := by decide +kernel
theorem dL_ways_226 : decode cL_ways 226 = .ok (.iload 7, 2) := by decide +kernel
theorem dL_ways_228 : decode cL_ways 228 = .ok (.iload 8, 2) := by decide +kernel
theorem dL_ways_230 : decode cL_ways 230 = .ok (.if_icmp .eq 18, 3) := by decide +kernel
theorem dL_ways_233 : decode cL_ways 233 = .ok (.iload 7, 2) := by decide +kernel
theorem dL_ways_235 : decode cL_ways 235 = .ok (.iload 8, 2) := by decide +kernel
theorem dL_ways_237 : decode cL_ways 237 = .ok (.if_icmp .le 7, 3) := by decide +kernel
theorem dL_ways_240 : decode cL_ways 240 = .ok (.iconst (-1), 1) := by decide +kernel
theorem dL_ways_241 : decode cL_ways 241 = .ok (.goto 36, 3) := by decide +kernel
theorem dL_ways_244 : decode cL_ways 244 = .ok (.iconst 1, 1) := by decide +kernel
theorem dL_ways_245 : decode cL_ways 245 = .ok (.goto 32, 3) := by decide +kernel
theorem dL_ways_248 : decode cL_ways 248 = .ok (.iload 9, 2) := by decide +kernel
theorem dL_ways_250 : decode cL_ways 250 = .ok (.ifCond .eq 16, 3) := by decide +kernel
theorem dL_ways_253 : decode cL_ways 253 = .ok (.iload 9, 2) := by decide +kernel
theorem dL_ways_255 : decode cL_ways 255 = .ok (.ifCond .le 7, 3) := by decide +kernel
theorem dL_ways_258 : decode cL_ways 258 = .ok (.iconst (-1), 1) := by decide +kernel
theorem dL_ways_259 : decode cL_ways 259 = .ok (.goto 18, 3) := by decide +kernel
theorem dL_ways_262 : decode cL_ways 262 = .ok (.iconst 1, 1) := by decide +kernel
theorem dL_ways_263 : decode cL_ways 263 = .ok (.goto 14, 3) := by decide +kernel
theorem dL_ways_266 : decode cL_ways 266 = .ok (.aload_n 1, 1) := by decide +kernel
theorem dL_ways_267 : decode cL_ways 267 = .ok (.iconst 0, 1) := by decide +kernel
theorem dL_ways_268 : decode cL_ways 268 = .ok (.iaload, 1) := by decide +kernel
theorem dL_ways_269 : decode cL_ways 269 = .ok (.ifCond .lt 7, 3) := by decide +kernel
theorem dL_ways_272 : decode cL_ways 272 = .ok (.iconst (-1), 1) := by decide +kernel
theorem dL_ways_273 : decode cL_ways 273 = .ok (.goto 4, 3) := by decide +kernel
theorem dL_ways_276 : decode cL_ways 276 = .ok (.iconst 1, 1) := by decide +kernel
theorem dL_ways_277 : decode cL_ways 277 = .ok (.istore 10, 2) := by decide +kernel
theorem dL_ways_279 : decode cL_ways 279 = .ok (.iconst 0, 1) := by decide +kernel
theorem dL_ways_280 : decode cL_ways 280 = .ok (.istore 11, 2) := by decide +kernel
theorem dL_ways_282 : decode cL_ways 282 = .ok (.iload 11, 2) := by decide +kernel
theorem dL_ways_284 : decode cL_ways 284 = .ok (.iload_n 2, 1) := by decide +kernel
theorem dL_ways_285 : decode cL_ways 285 = .ok (.if_icmp .ge 37, 3) := by decide +kernel
theorem dL_ways_288 : decode cL_ways 288 = .ok (.aload 6, 2) := by decide +kernel
theorem dL_ways_290 : decode cL_ways 290 = .ok (.iload 11, 2) := by decide +kernel
theorem dL_ways_292 : decode cL_ways 292 = .ok (.iload_n 3, 1) := by decide +kernel
theorem dL_ways_293 : decode cL_ways 293 = .ok (.ifCond .ne 8, 3) := by decide +kernel
theorem dL_ways_296 : decode cL_ways 296 = .ok (.iload 10, 2) := by decide +kernel
theorem dL_ways_298 : decode cL_ways 298 = .ok (.goto 17, 3) := by decide +kernel
theorem dL_ways_301 : decode cL_ways 301 = .ok (.aload_n 1, 1) := by decide +kernel
theorem dL_ways_302 : decode cL_ways 302 = .ok (.iload 11, 2) := by decide +kernel
theorem dL_ways_304 : decode cL_ways 304 = .ok (.iaload, 1) := by decide +kernel
theorem dL_ways_305 : decode cL_ways 305 = .ok (.iload 4, 2) := by decide +kernel
theorem dL_ways_307 : decode cL_ways 307 = .ok (.if_icmp .le 7, 3) := by decide +kernel
theorem dL_ways_310 : decode cL_ways 310 = .ok (.iconst (-1), 1) := by decide +kernel
theorem dL_ways_311 : decode cL_ways 311 = .ok (.goto 4, 3) := by decide +kernel
theorem dL_ways_314 : decode cL_ways 314 = .ok (.iconst 1, 1) := by decide +kernel
theorem dL_ways_315 : decode cL_ways 315 = .ok (.iastore, 1) := by decide +kernel
theorem dL_ways_316 : decode cL_ways 316 = .ok (.iinc 11 1, 3) := by decide +kernel
theorem dL_ways_319 : decode cL_ways 319 = .ok (.goto (-37), 3) := by decide +kernel
theorem dL_ways_322 : decode cL_ways 322 = .ok (.aload 6, 2) := by decide +kernel
theorem dL_ways_324 : decode cL_ways 324 = .ok (.areturn, 1) := by decide +kernel
theorem dL_isKneed_0 : decode cL_isKneed 0 = .ok (.aload_n 0, 1) := by decide +kernel
theorem dL_isKneed_1 : decode cL_isKneed 1 = .ok (.astore_n 1, 1) := by decide +kernel
theorem dL_isKneed_2 : decode cL_isKneed 2 = .ok (.aload_n 1, 1) := by decide +kernel
theorem dL_isKneed_3 : decode cL_isKneed 3 = .ok (.arraylength, 1) := by decide +kernel
theorem dL_isKneed_4 : decode cL_isKneed 4 = .ok (.istore_n 2, 1) := by decide +kernel
theorem dL_isKneed_5 : decode cL_isKneed 5 = .ok (.iconst 0, 1) := by decide +kernel
theorem dL_isKneed_6 : decode cL_isKneed 6 = .ok (.istore_n 3, 1) := by decide +kernel
theorem dL_isKneed_7 : decode cL_isKneed 7 = .ok (.iload_n 3, 1) := by decide +kernel
theorem dL_isKneed_8 : decode cL_isKneed 8 = .ok (.iload_n 2, 1) := by decide +kernel
theorem dL_isKneed_9 : decode cL_isKneed 9 = .ok (.if_icmp .ge 24, 3) := by decide +kernel
theorem dL_isKneed_12 : decode cL_isKneed 12 = .ok (.aload_n 1, 1) := by decide +kernel
theorem dL_isKneed_13 : decode cL_isKneed 13 = .ok (.iload_n 3, 1) := by decide +kernel
theorem dL_isKneed_14 : decode cL_isKneed 14 = .ok (.iaload, 1) := by decide +kernel
theorem dL_isKneed_15 : decode cL_isKneed 15 = .ok (.istore 4, 2) := by decide +kernel
theorem dL_isKneed_17 : decode cL_isKneed 17 = .ok (.iload 4, 2) := by decide +kernel
theorem dL_isKneed_19 : decode cL_isKneed 19 = .ok (.aload_n 0, 1) := by decide +kernel
theorem dL_isKneed_20 : decode cL_isKneed 20 = .ok (.iconst 0, 1) := by decide +kernel
theorem dL_isKneed_21 : decode cL_isKneed 21 = .ok (.iaload, 1) := by decide +kernel
theorem dL_isKneed_22 : decode cL_isKneed 22 = .ok (.if_icmp .eq 5, 3) := by decide +kernel
theorem dL_isKneed_25 : decode cL_isKneed 25 = .ok (.iconst 1, 1) := by decide +kernel
theorem dL_isKneed_26 : decode cL_isKneed 26 = .ok (.ireturn, 1) := by decide +kernel
theorem dL_isKneed_27 : decode cL_isKneed 27 = .ok (.iinc 3 1, 3) := by decide +kernel
theorem dL_isKneed_30 : decode cL_isKneed 30 = .ok (.goto (-23), 3) := by decide +kernel
theorem dL_isKneed_33 : decode cL_isKneed 33 = .ok (.iconst 0, 1) := by decide +kernel
theorem dL_isKneed_34 : decode cL_isKneed 34 = .ok (.ireturn, 1) := by decide +kernel
theorem dL_judged_0 : decode cL_judged 0 = .ok (.aload_n 1, 1) := by decide +kernel
theorem dL_judged_1 : decode cL_judged 1 = .ok (.arraylength, 1) := by decide +kernel
theorem dL_judged_2 : decode cL_judged 2 = .ok (.istore 6, 2) := by decide +kernel
theorem dL_judged_4 : decode cL_judged 4 = .ok (.aload_n 3, 1) := by decide +kernel
theorem dL_judged_5 : decode cL_judged 5 = .ok (.iload 6, 2) := by decide +kernel
theorem dL_judged_7 : decode cL_judged 7 = .ok (.iconst 1, 1) := by decide +kernel
theorem dL_judged_8 : decode cL_judged 8 = .ok (.isub, 1) := by decide +kernel
theorem dL_judged_9 : decode cL_judged 9 = .ok (.iaload, 1) := by decide +kernel
theorem dL_judged_10 : decode cL_judged 10 = .ok (.i2l, 1) := by decide +kernel
theorem dL_judged_11 : decode cL_judged 11 = .ok (.lstore 7, 2) := by decide +kernel
theorem dL_judged_13 : decode cL_judged 13 = .ok (.lconst 0, 1) := by decide +kernel
theorem dL_judged_14 : decode cL_judged 14 = .ok (.lstore 9, 2) := by decide +kernel
theorem dL_judged_16 : decode cL_judged 16 = .ok (.lconst 0, 1) := by decide +kernel
theorem dL_judged_17 : decode cL_judged 17 = .ok (.lstore 11, 2) := by decide +kernel
theorem dL_judged_19 : decode cL_judged 19 = .ok (.iconst 0, 1) := by decide +kernel
theorem dL_judged_20 : decode cL_judged 20 = .ok (.istore 13, 2) := by decide +kernel
theorem dL_judged_22 : decode cL_judged 22 = .ok (.iload 13, 2) := by decide +kernel
theorem dL_judged_24 : decode cL_judged 24 = .ok (.iload 6, 2) := by decide +kernel
theorem dL_judged_26 : decode cL_judged 26 = .ok (.if_icmp .ge 218, 3) := by decide +kernel
theorem dL_judged_29 : decode cL_judged 29 = .ok (.iload 4, 2) := by decide +kernel
theorem dL_judged_31 : decode cL_judged 31 = .ok (.i2l, 1) := by decide +kernel
theorem dL_judged_32 : decode cL_judged 32 = .ok (.lload 7, 2) := by decide +kernel
theorem dL_judged_34 : decode cL_judged 34 = .ok (.aload_n 3, 1) := by decide +kernel
theorem dL_judged_35 : decode cL_judged 35 = .ok (.iload 13, 2) := by decide +kernel
theorem dL_judged_37 : decode cL_judged 37 = .ok (.iaload, 1) := by decide +kernel
theorem dL_judged_38 : decode cL_judged 38 = .ok (.i2l, 1) := by decide +kernel
theorem dL_judged_39 : decode cL_judged 39 = .ok (.lsub, 1) := by decide +kernel
theorem dL_judged_40 : decode cL_judged 40 = .ok (.lmul, 1) := by decide +kernel
theorem dL_judged_41 : decode cL_judged 41 = .ok (.iload 5, 2) := by decide +kernel
theorem dL_judged_43 : decode cL_judged 43 = .ok (.i2l, 1) := by decide +kernel
theorem dL_judged_44 : decode cL_judged 44 = .ok (.aload_n 3, 1) := by decide +kernel
theorem dL_judged_45 : decode cL_judged 45 = .ok (.iload 13, 2) := by decide +kernel
theorem dL_judged_47 : decode cL_judged 47 = .ok (.iaload, 1) := by decide +kernel
theorem dL_judged_48 : decode cL_judged 48 = .ok (.i2l, 1) := by decide +kernel
theorem dL_judged_49 : decode cL_judged 49 = .ok (.lmul, 1) := by decide +kernel
theorem dL_judged_50 : decode cL_judged 50 = .ok (.ladd, 1) := by decide +kernel
theorem dL_judged_51 : decode cL_judged 51 = .ok (.ldc2_w 97, 3) := by decide +kernel
theorem dL_judged_54 : decode cL_judged 54 = .ok (.aload_n 1, 1) := by decide +kernel
theorem dL_judged_55 : decode cL_judged 55 = .ok (.iload 13, 2) := by decide +kernel
theorem dL_judged_57 : decode cL_judged 57 = .ok (.iaload, 1) := by decide +kernel
theorem dL_judged_58 : decode cL_judged 58 = .ok (.i2l, 1) := by decide +kernel
theorem dL_judged_59 : decode cL_judged 59 = .ok (.lmul, 1) := by decide +kernel
theorem dL_judged_60 : decode cL_judged 60 = .ok (.lload 7, 2) := by decide +kernel
theorem dL_judged_62 : decode cL_judged 62 = .ok (.lmul, 1) := by decide +kernel
theorem dL_judged_63 : decode cL_judged 63 = .ok (.lsub, 1) := by decide +kernel
theorem dL_judged_64 : decode cL_judged 64 = .ok (.lstore 14, 2) := by decide +kernel
theorem dL_judged_66 : decode cL_judged 66 = .ok (.aload_n 2, 1) := by decide +kernel
theorem dL_judged_67 : decode cL_judged 67 = .ok (.iload 13, 2) := by decide +kernel
theorem dL_judged_69 : decode cL_judged 69 = .ok (.iaload, 1) := by decide +kernel
theorem dL_judged_70 : decode cL_judged 70 = .ok (.ifCond .le 8, 3) := by decide +kernel
theorem dL_judged_73 : decode cL_judged 73 = .ok (.lload 14, 2) := by decide +kernel
theorem dL_judged_75 : decode cL_judged 75 = .ok (.goto 6, 3) := by decide +kernel
theorem dL_judged_78 : decode cL_judged 78 = .ok (.lload 14, 2) := by decide +kernel
theorem dL_judged_80 : decode cL_judged 80 = .ok (.lneg, 1) := by decide +kernel
theorem dL_judged_81 : decode cL_judged 81 = .ok (.lstore 16, 2) := by decide +kernel
theorem dL_judged_83 : decode cL_judged 83 = .ok (.aload_n 0, 1) := by decide +kernel
theorem dL_judged_84 : decode cL_judged 84 = .ok (.iload 13, 2) := by decide +kernel
theorem dL_judged_86 : decode cL_judged 86 = .ok (.invokestatic 47, 3) := by decide +kernel
theorem dL_judged_89 : decode cL_judged 89 = .ok (.istore 18, 2) := by decide +kernel
theorem dL_judged_91 : decode cL_judged 91 = .ok (.lload 16, 2) := by decide +kernel
theorem dL_judged_93 : decode cL_judged 93 = .ok (.lload 7, 2) := by decide +kernel
theorem dL_judged_95 : decode cL_judged 95 = .ok (.iload 18, 2) := by decide +kernel
theorem dL_judged_97 : decode cL_judged 97 = .ok (.iconst 1, 1) := by decide +kernel
theorem dL_judged_98 : decode cL_judged 98 = .ok (.if_icmp .ne 8, 3) := by decide +kernel
theorem dL_judged_101 : decode cL_judged 101 = .ok (.bipush 10, 2) := by decide +kernel
theorem dL_judged_103 : decode cL_judged 103 = .ok (.goto 16, 3) := by decide +kernel
theorem dL_judged_106 : decode cL_judged 106 = .ok (.iload 18, 2) := by decide +kernel
theorem dL_judged_108 : decode cL_judged 108 = .ok (.iconst 2, 1) := by decide +kernel
theorem dL_judged_109 : decode cL_judged 109 = .ok (.if_icmp .ne 8, 3) := by decide +kernel
theorem dL_judged_112 : decode cL_judged 112 = .ok (.bipush 11, 2) := by decide +kernel
theorem dL_judged_114 : decode cL_judged 114 = .ok (.goto 5, 3) := by decide +kernel
theorem dL_judged_117 : decode cL_judged 117 = .ok (.bipush 13, 2) := by decide +kernel
theorem dL_judged_119 : decode cL_judged 119 = .ok (.i2l, 1) := by decide +kernel
theorem dL_judged_120 : decode cL_judged 120 = .ok (.lmul, 1) := by decide +kernel
theorem dL_judged_121 : decode cL_judged 121 = .ok (.lcmp, 1) := by decide +kernel
theorem dL_judged_122 : decode cL_judged 122 = .ok (.ifCond .lt 15, 3) := by decide +kernel
theorem dL_judged_125 : decode cL_judged 125 = .ok (.lload 16, 2) := by decide +kernel
theorem dL_judged_127 : decode cL_judged 127 = .ok (.ldc2_w 99, 3) := by decide +kernel
theorem dL_judged_130 : decode cL_judged 130 = .ok (.lload 7, 2) := by decide +kernel
theorem dL_judged_132 : decode cL_judged 132 = .ok (.lmul, 1) := by decide +kernel
theorem dL_judged_133 : decode cL_judged 133 = .ok (.lcmp, 1) := by decide +kernel
theorem dL_judged_134 : decode cL_judged 134 = .ok (.ifCond .le 5, 3) := by decide +kernel
theorem dL_judged_137 : decode cL_judged 137 = .ok (.aconst_null, 1) := by decide +kernel
theorem dL_judged_138 : decode cL_judged 138 = .ok (.areturn, 1) := by decide +kernel
theorem dL_judged_139 : decode cL_judged 139 = .ok (.iload 18, 2) := by decide +kernel
theorem dL_judged_141 : decode cL_judged 141 = .ok (.iconst 1, 1) := by decide +kernel
theorem dL_judged_142 : decode cL_judged 142 = .ok (.if_icmp .ne 8, 3) := by decide +kernel
theorem dL_judged_145 : decode cL_judged 145 = .ok (.bipush 14, 2) := by decide +kernel
theorem dL_judged_147 : decode cL_judged 147 = .ok (.goto 16, 3) := by decide +kernel
theorem dL_judged_150 : decode cL_judged 150 = .ok (.iload 18, 2) := by decide +kernel
theorem dL_judged_152 : decode cL_judged 152 = .ok (.iconst 2, 1) := by decide +kernel
theorem dL_judged_153 : decode cL_judged 153 = .ok (.if_icmp .ne 8, 3) := by decide +kernel
theorem dL_judged_156 : decode cL_judged 156 = .ok (.bipush 15, 2) := by decide +kernel
theorem dL_judged_158 : decode cL_judged 158 = .ok (.goto 5, 3) := by decide +kernel
theorem dL_judged_161 : decode cL_judged 161 = .ok (.bipush 17, 2) := by decide +kernel
theorem dL_judged_163 : decode cL_judged 163 = .ok (.aload_n 2, 1) := by decide +kernel
theorem dL_judged_164 : decode cL_judged 164 = .ok (.iload 13, 2) := by decide +kernel
theorem dL_judged_166 : decode cL_judged 166 = .ok (.iaload, 1) := by decide +kernel
theorem dL_judged_167 : decode cL_judged 167 = .ok (.ifCond .le 13, 3) := by decide +kernel
theorem dL_judged_170 : decode cL_judged 170 = .ok (.bipush (-2), 2) := by decide +kernel
theorem dL_judged_172 : decode cL_judged 172 = .ok (.aload_n 1, 1) := by decide +kernel
theorem dL_judged_173 : decode cL_judged 173 = .ok (.iload 13, 2) := by decide +kernel
theorem dL_judged_175 : decode cL_judged 175 = .ok (.iaload, 1) := by decide +kernel
theorem dL_judged_176 : decode cL_judged 176 = .ok (.imul, 1) := by decide +kernel
theorem dL_judged_177 : decode cL_judged 177 = .ok (.goto 9, 3) := by decide +kernel
theorem dL_judged_180 : decode cL_judged 180 = .ok (.iconst 2, 1) := by decide +kernel
theorem dL_judged_181 : decode cL_judged 181 = .ok (.aload_n 1, 1) := by decide +kernel
theorem dL_judged_182 : decode cL_judged 182 = .ok (.iload 13, 2) := by decide +kernel
theorem dL_judged_184 : decode cL_judged 184 = .ok (.iaload, 1) := by decide +kernel
theorem dL_judged_185 : decode cL_judged 185 = .ok (.imul, 1) := by decide +kernel
theorem dL_judged_186 : decode cL_judged 186 = .ok (.invokestatic 94, 3) := by decide +kernel
theorem dL_judged_189 : decode cL_judged 189 = .ok (.i2l, 1) := by decide +kernel
theorem dL_judged_190 : decode cL_judged 190 = .ok (.lstore 19, 2) := by decide +kernel
theorem dL_judged_192 : decode cL_judged 192 = .ok (.lload 9, 2) := by decide +kernel
theorem dL_judged_194 : decode cL_judged 194 = .ok (.lload 16, 2) := by decide +kernel
theorem dL_judged_196 : decode cL_judged 196 = .ok (.lload 19, 2) := by decide +kernel
theorem dL_judged_198 : decode cL_judged 198 = .ok (.lload 7, 2) := by decide +kernel
theorem dL_judged_200 : decode cL_judged 200 = .ok (.lmul, 1) := by decide +kernel
theorem dL_judged_201 : decode cL_judged 201 = .ok (.lcmp, 1) := by decide +kernel
theorem dL_judged_202 : decode cL_judged 202 = .ok (.ifCond .ge 18, 3) := by decide +kernel
theorem dL_judged_205 : decode cL_judged 205 = .ok (.ldc2_w 97, 3) := by decide +kernel
theorem dL_judged_208 : decode cL_judged 208 = .ok (.lload 19, 2) := by decide +kernel
theorem dL_judged_210 : decode cL_judged 210 = .ok (.lload 7, 2) := by decide +kernel
theorem dL_judged_212 : decode cL_judged 212 = .ok (.lmul, 1) := by decide +kernel
theorem dL_judged_213 : decode cL_judged 213 = .ok (.lload 16, 2) := by decide +kernel
theorem dL_judged_215 : decode cL_judged 215 = .ok (.lsub, 1) := by decide +kernel
theorem dL_judged_216 : decode cL_judged 216 = .ok (.lmul, 1) := by decide +kernel
theorem dL_judged_217 : decode cL_judged 217 = .ok (.goto 11, 3) := by decide +kernel
theorem dL_judged_220 : decode cL_judged 220 = .ok (.lload 16, 2) := by decide +kernel
theorem dL_judged_222 : decode cL_judged 222 = .ok (.lload 19, 2) := by decide +kernel
theorem dL_judged_224 : decode cL_judged 224 = .ok (.lload 7, 2) := by decide +kernel
theorem dL_judged_226 : decode cL_judged 226 = .ok (.lmul, 1) := by decide +kernel
theorem dL_judged_227 : decode cL_judged 227 = .ok (.lsub, 1) := by decide +kernel
theorem dL_judged_228 : decode cL_judged 228 = .ok (.ladd, 1) := by decide +kernel
theorem dL_judged_229 : decode cL_judged 229 = .ok (.lstore 9, 2) := by decide +kernel
theorem dL_judged_231 : decode cL_judged 231 = .ok (.lload 11, 2) := by decide +kernel
theorem dL_judged_233 : decode cL_judged 233 = .ok (.lload 16, 2) := by decide +kernel
theorem dL_judged_235 : decode cL_judged 235 = .ok (.ladd, 1) := by decide +kernel
theorem dL_judged_236 : decode cL_judged 236 = .ok (.lstore 11, 2) := by decide +kernel
theorem dL_judged_238 : decode cL_judged 238 = .ok (.iinc 13 1, 3) := by decide +kernel
theorem dL_judged_241 : decode cL_judged 241 = .ok (.goto (-219), 3) := by decide +kernel
theorem dL_judged_244 : decode cL_judged 244 = .ok (.bipush (-5), 2) := by decide +kernel
theorem dL_judged_246 : decode cL_judged 246 = .ok (.iconst 5, 1) := by decide +kernel
theorem dL_judged_247 : decode cL_judged 247 = .ok (.aload_n 1, 1) := by decide +kernel
theorem dL_judged_248 : decode cL_judged 248 = .ok (.iload 6, 2) := by decide +kernel
theorem dL_judged_250 : decode cL_judged 250 = .ok (.iconst 1, 1) := by decide +kernel
theorem dL_judged_251 : decode cL_judged 251 = .ok (.isub, 1) := by decide +kernel
theorem dL_judged_252 : decode cL_judged 252 = .ok (.iaload, 1) := by decide +kernel
theorem dL_judged_253 : decode cL_judged 253 = .ok (.aload_n 1, 1) := by decide +kernel
theorem dL_judged_254 : decode cL_judged 254 = .ok (.iconst 0, 1) := by decide +kernel
theorem dL_judged_255 : decode cL_judged 255 = .ok (.iaload, 1) := by decide +kernel
theorem dL_judged_256 : decode cL_judged 256 = .ok (.isub, 1) := by decide +kernel
theorem dL_judged_257 : decode cL_judged 257 = .ok (.invokestatic 53, 3) := by decide +kernel
theorem dL_judged_260 : decode cL_judged 260 = .ok (.invokestatic 94, 3) := by decide +kernel
theorem dL_judged_263 : decode cL_judged 263 = .ok (.istore 13, 2) := by decide +kernel
theorem dL_judged_265 : decode cL_judged 265 = .ok (.iconst 1, 1) := by decide +kernel
theorem dL_judged_266 : decode cL_judged 266 = .ok (.istore 14, 2) := by decide +kernel
theorem dL_judged_268 : decode cL_judged 268 = .ok (.iload 14, 2) := by decide +kernel
theorem dL_judged_270 : decode cL_judged 270 = .ok (.iload 6, 2) := by decide +kernel
theorem dL_judged_272 : decode cL_judged 272 = .ok (.iconst 1, 1) := by decide +kernel
theorem dL_judged_273 : decode cL_judged 273 = .ok (.isub, 1) := by decide +kernel
theorem dL_judged_274 : decode cL_judged 274 = .ok (.if_icmp .ge 66, 3) := by decide +kernel
theorem dL_judged_277 : decode cL_judged 277 = .ok (.aload_n 2, 1) := by decide +kernel
theorem dL_judged_278 : decode cL_judged 278 = .ok (.invokestatic 101, 3) := by decide +kernel
theorem dL_judged_281 : decode cL_judged 281 = .ok (.ifCond .ne 59, 3) := by decide +kernel
theorem dL_judged_284 : decode cL_judged 284 = .ok (.aload_n 2, 1) := by decide +kernel
theorem dL_judged_285 : decode cL_judged 285 = .ok (.iconst 0, 1) := by decide +kernel
theorem dL_judged_286 : decode cL_judged 286 = .ok (.iaload, 1) := by decide +kernel
theorem dL_judged_287 : decode cL_judged 287 = .ok (.ifCond .le 25, 3) := by decide +kernel
theorem dL_judged_290 : decode cL_judged 290 = .ok (.aload_n 1, 1) := by decide +kernel
theorem dL_judged_291 : decode cL_judged 291 = .ok (.iload 14, 2) := by decide +kernel
theorem dL_judged_293 : decode cL_judged 293 = .ok (.iaload, 1) := by decide +kernel
theorem dL_judged_294 : decode cL_judged 294 = .ok (.aload_n 1, 1) := by decide +kernel
theorem dL_judged_295 : decode cL_judged 295 = .ok (.iconst 0, 1) := by decide +kernel
theorem dL_judged_296 : decode cL_judged 296 = .ok (.iaload, 1) := by decide +kernel
theorem dL_judged_297 : decode cL_judged 297 = .ok (.aload_n 1, 1) := by decide +kernel
theorem dL_judged_298 : decode cL_judged 298 = .ok (.iload 6, 2) := by decide +kernel
theorem dL_judged_300 : decode cL_judged 300 = .ok (.iconst 1, 1) := by decide +kernel
theorem dL_judged_301 : decode cL_judged 301 = .ok (.isub, 1) := by decide +kernel
theorem dL_judged_302 : decode cL_judged 302 = .ok (.iaload, 1) := by decide +kernel
theorem dL_judged_303 : decode cL_judged 303 = .ok (.invokestatic 94, 3) := by decide +kernel
theorem dL_judged_306 : decode cL_judged 306 = .ok (.if_icmp .le 28, 3) := by decide +kernel
theorem dL_judged_309 : decode cL_judged 309 = .ok (.goto 22, 3) := by decide +kernel
theorem dL_judged_312 : decode cL_judged 312 = .ok (.aload_n 1, 1) := by decide +kernel
theorem dL_judged_313 : decode cL_judged 313 = .ok (.iload 14, 2) := by decide +kernel
theorem dL_judged_315 : decode cL_judged 315 = .ok (.iaload, 1) := by decide +kernel
theorem dL_judged_316 : decode cL_judged 316 = .ok (.aload_n 1, 1) := by decide +kernel
theorem dL_judged_317 : decode cL_judged 317 = .ok (.iconst 0, 1) := by decide +kernel
theorem dL_judged_318 : decode cL_judged 318 = .ok (.iaload, 1) := by decide +kernel
theorem dL_judged_319 : decode cL_judged 319 = .ok (.aload_n 1, 1) := by decide +kernel
theorem dL_judged_320 : decode cL_judged 320 = .ok (.iload 6, 2) := by decide +kernel
theorem dL_judged_322 : decode cL_judged 322 = .ok (.iconst 1, 1) := by decide +kernel
theorem dL_judged_323 : decode cL_judged 323 = .ok (.isub, 1) := by decide +kernel
theorem dL_judged_324 : decode cL_judged 324 = .ok (.iaload, 1) := by decide +kernel
theorem dL_judged_325 : decode cL_judged 325 = .ok (.invokestatic 53, 3) := by decide +kernel
theorem dL_judged_328 : decode cL_judged 328 = .ok (.if_icmp .ge 6, 3) := by decide +kernel
theorem dL_judged_331 : decode cL_judged 331 = .ok (.iconst 0, 1) := by decide +kernel
theorem dL_judged_332 : decode cL_judged 332 = .ok (.istore 13, 2) := by decide +kernel
theorem dL_judged_334 : decode cL_judged 334 = .ok (.iinc 14 1, 3) := by decide +kernel
theorem dL_judged_337 : decode cL_judged 337 = .ok (.goto (-69), 3) := by decide +kernel
theorem dL_judged_340 : decode cL_judged 340 = .ok (.bipush 6, 2) := by decide +kernel
theorem dL_judged_342 : decode cL_judged 342 = .ok (.iload 5, 2) := by decide +kernel
theorem dL_judged_344 : decode cL_judged 344 = .ok (.iload 4, 2) := by decide +kernel
theorem dL_judged_346 : decode cL_judged 346 = .ok (.isub, 1) := by decide +kernel
theorem dL_judged_347 : decode cL_judged 347 = .ok (.iload 13, 2) := by decide +kernel
theorem dL_judged_349 : decode cL_judged 349 = .ok (.isub, 1) := by decide +kernel
theorem dL_judged_350 : decode cL_judged 350 = .ok (.invokestatic 90, 3) := by decide +kernel
theorem dL_judged_353 : decode cL_judged 353 = .ok (.imul, 1) := by decide +kernel
theorem dL_judged_354 : decode cL_judged 354 = .ok (.iload 5, 2) := by decide +kernel
theorem dL_judged_356 : decode cL_judged 356 = .ok (.iload 4, 2) := by decide +kernel
theorem dL_judged_358 : decode cL_judged 358 = .ok (.isub, 1) := by decide +kernel
theorem dL_judged_359 : decode cL_judged 359 = .ok (.invokestatic 105, 3) := by decide +kernel
theorem dL_judged_362 : decode cL_judged 362 = .ok (.iload 13, 2) := by decide +kernel
theorem dL_judged_364 : decode cL_judged 364 = .ok (.invokestatic 105, 3) := by decide +kernel
theorem dL_judged_367 : decode cL_judged 367 = .ok (.imul, 1) := by decide +kernel
theorem dL_judged_368 : decode cL_judged 368 = .ok (.ifCond .ge 8, 3) := by decide +kernel
theorem dL_judged_371 : decode cL_judged 371 = .ok (.bipush 20, 2) := by decide +kernel
theorem dL_judged_373 : decode cL_judged 373 = .ok (.goto 4, 3) := by decide +kernel
theorem dL_judged_376 : decode cL_judged 376 = .ok (.iconst 0, 1) := by decide +kernel
theorem dL_judged_377 : decode cL_judged 377 = .ok (.iadd, 1) := by decide +kernel
theorem dL_judged_378 : decode cL_judged 378 = .ok (.i2l, 1) := by decide +kernel
theorem dL_judged_379 : decode cL_judged 379 = .ok (.lstore 14, 2) := by decide +kernel
theorem dL_judged_381 : decode cL_judged 381 = .ok (.lconst 0, 1) := by decide +kernel
theorem dL_judged_382 : decode cL_judged 382 = .ok (.lstore 16, 2) := by decide +kernel
theorem dL_judged_384 : decode cL_judged 384 = .ok (.iconst 0, 1) := by decide +kernel
theorem dL_judged_385 : decode cL_judged 385 = .ok (.istore 18, 2) := by decide +kernel
theorem dL_judged_387 : decode cL_judged 387 = .ok (.iload 18, 2) := by decide +kernel
theorem dL_judged_389 : decode cL_judged 389 = .ok (.iconst 2, 1) := by decide +kernel
theorem dL_judged_390 : decode cL_judged 390 = .ok (.if_icmp .ge 187, 3) := by decide +kernel
theorem dL_judged_393 : decode cL_judged 393 = .ok (.iload 18, 2) := by decide +kernel
theorem dL_judged_395 : decode cL_judged 395 = .ok (.ifCond .ne 7, 3) := by decide +kernel
theorem dL_judged_398 : decode cL_judged 398 = .ok (.iconst 0, 1) := by decide +kernel
theorem dL_judged_399 : decode cL_judged 399 = .ok (.goto 7, 3) := by decide +kernel
theorem dL_judged_402 : decode cL_judged 402 = .ok (.iload 6, 2) := by decide +kernel
theorem dL_judged_404 : decode cL_judged 404 = .ok (.iconst 1, 1) := by decide +kernel
theorem dL_judged_405 : decode cL_judged 405 = .ok (.isub, 1) := by decide +kernel
theorem dL_judged_406 : decode cL_judged 406 = .ok (.istore 19, 2) := by decide +kernel
theorem dL_judged_408 : decode cL_judged 408 = .ok (.iload 18, 2) := by decide +kernel
theorem dL_judged_410 : decode cL_judged 410 = .ok (.ifCond .ne 8, 3) := by decide +kernel
theorem dL_judged_413 : decode cL_judged 413 = .ok (.iload 4, 2) := by decide +kernel
theorem dL_judged_415 : decode cL_judged 415 = .ok (.goto 5, 3) := by decide +kernel
theorem dL_judged_418 : decode cL_judged 418 = .ok (.iload 5, 2) := by decide +kernel
theorem dL_judged_420 : decode cL_judged 420 = .ok (.istore 20, 2) := by decide +kernel
theorem dL_judged_422 : decode cL_judged 422 = .ok (.iload 18, 2) := by decide +kernel
theorem dL_judged_424 : decode cL_judged 424 = .ok (.ifCond .ne 8, 3) := by decide +kernel
theorem dL_judged_427 : decode cL_judged 427 = .ok (.iload 5, 2) := by decide +kernel
theorem dL_judged_429 : decode cL_judged 429 = .ok (.goto 5, 3) := by decide +kernel
theorem dL_judged_432 : decode cL_judged 432 = .ok (.iload 4, 2) := by decide +kernel
theorem dL_judged_434 : decode cL_judged 434 = .ok (.istore 21, 2) := by decide +kernel
theorem dL_judged_436 : decode cL_judged 436 = .ok (.iconst 0, 1) := by decide +kernel
theorem dL_judged_437 : decode cL_judged 437 = .ok (.istore 22, 2) := by decide +kernel
theorem dL_judged_439 : decode cL_judged 439 = .ok (.iload 22, 2) := by decide +kernel
theorem dL_judged_441 : decode cL_judged 441 = .ok (.aload_n 0, 1) := by decide +kernel
theorem dL_judged_442 : decode cL_judged 442 = .ok (.iload 19, 2) := by decide +kernel
theorem dL_judged_444 : decode cL_judged 444 = .ok (.invokestatic 47, 3) := by decide +kernel
theorem dL_judged_447 : decode cL_judged 447 = .ok (.if_icmp .ge 124, 3) := by decide +kernel
theorem dL_judged_450 : decode cL_judged 450 = .ok (.iload 20, 2) := by decide +kernel
theorem dL_judged_452 : decode cL_judged 452 = .ok (.iconst 3, 1) := by decide +kernel
theorem dL_judged_453 : decode cL_judged 453 = .ok (.iload 22, 2) := by decide +kernel
theorem dL_judged_455 : decode cL_judged 455 = .ok (.imul, 1) := by decide +kernel
theorem dL_judged_456 : decode cL_judged 456 = .ok (.aload_n 2, 1) := by decide +kernel
theorem dL_judged_457 : decode cL_judged 457 = .ok (.iload 19, 2) := by decide +kernel
theorem dL_judged_459 : decode cL_judged 459 = .ok (.iaload, 1) := by decide +kernel
theorem dL_judged_460 : decode cL_judged 460 = .ok (.imul, 1) := by decide +kernel
theorem dL_judged_461 : decode cL_judged 461 = .ok (.isub, 1) := by decide +kernel
theorem dL_judged_462 : decode cL_judged 462 = .ok (.istore 23, 2) := by decide +kernel
theorem dL_judged_464 : decode cL_judged 464 = .ok (.iload 23, 2) := by decide +kernel
theorem dL_judged_466 : decode cL_judged 466 = .ok (.bipush (-9), 2) := by decide +kernel
theorem dL_judged_468 : decode cL_judged 468 = .ok (.if_icmp .lt 97, 3) := by decide +kernel
theorem dL_judged_471 : decode cL_judged 471 = .ok (.iload 23, 2) := by decide +kernel
theorem dL_judged_473 : decode cL_judged 473 = .ok (.bipush 9, 2) := by decide +kernel
theorem dL_judged_475 : decode cL_judged 475 = .ok (.if_icmp .le 6, 3) := by decide +kernel
theorem dL_judged_478 : decode cL_judged 478 = .ok (.goto 87, 3) := by decide +kernel
theorem dL_judged_481 : decode cL_judged 481 = .ok (.iload 23, 2) := by decide +kernel
theorem dL_judged_483 : decode cL_judged 483 = .ok (.iconst 4, 1) := by decide +kernel
theorem dL_judged_484 : decode cL_judged 484 = .ok (.invokestatic 110, 3) := by decide +kernel
theorem dL_judged_487 : decode cL_judged 487 = .ok (.istore 24, 2) := by decide +kernel
theorem dL_judged_489 : decode cL_judged 489 = .ok (.lload 16, 2) := by decide +kernel
theorem dL_judged_491 : decode cL_judged 491 = .ok (.iload 24, 2) := by decide +kernel
theorem dL_judged_493 : decode cL_judged 493 = .ok (.iconst 2, 1) := by decide +kernel
theorem dL_judged_494 : decode cL_judged 494 = .ok (.if_icmp .ne 9, 3) := by decide +kernel
theorem dL_judged_497 : decode cL_judged 497 = .ok (.ldc2_w 113, 3) := by decide +kernel
theorem dL_judged_500 : decode cL_judged 500 = .ok (.goto 62, 3) := by decide +kernel
theorem dL_judged_503 : decode cL_judged 503 = .ok (.iload 24, 2) := by decide +kernel
theorem dL_judged_505 : decode cL_judged 505 = .ok (.ifCond .ne 20, 3) := by decide +kernel
theorem dL_judged_508 : decode cL_judged 508 = .ok (.iload 4, 2) := by decide +kernel
theorem dL_judged_510 : decode cL_judged 510 = .ok (.iload 5, 2) := by decide +kernel
theorem dL_judged_512 : decode cL_judged 512 = .ok (.if_icmp .ne 9, 3) := by decide +kernel
theorem dL_judged_515 : decode cL_judged 515 = .ok (.ldc2_w 97, 3) := by decide +kernel
theorem dL_judged_518 : decode cL_judged 518 = .ok (.goto 44, 3) := by decide +kernel
theorem dL_judged_521 : decode cL_judged 521 = .ok (.lconst 1, 1) := by decide +kernel
theorem dL_judged_522 : decode cL_judged 522 = .ok (.goto 40, 3) := by decide +kernel
theorem dL_judged_525 : decode cL_judged 525 = .ok (.iload 24, 2) := by decide +kernel
theorem dL_judged_527 : decode cL_judged 527 = .ok (.iconst 1, 1) := by decide +kernel
theorem dL_judged_528 : decode cL_judged 528 = .ok (.if_icmp .ne 20, 3) := by decide +kernel
theorem dL_judged_531 : decode cL_judged 531 = .ok (.iload 21, 2) := by decide +kernel
theorem dL_judged_533 : decode cL_judged 533 = .ok (.iload 20, 2) := by decide +kernel
theorem dL_judged_535 : decode cL_judged 535 = .ok (.if_icmp .ge 9, 3) := by decide +kernel
theorem dL_judged_538 : decode cL_judged 538 = .ok (.ldc2_w 115, 3) := by decide +kernel
theorem dL_judged_541 : decode cL_judged 541 = .ok (.goto 21, 3) := by decide +kernel
theorem dL_judged_544 : decode cL_judged 544 = .ok (.lconst 0, 1) := by decide +kernel
theorem dL_judged_545 : decode cL_judged 545 = .ok (.goto 17, 3) := by decide +kernel
theorem dL_judged_548 : decode cL_judged 548 = .ok (.iload 21, 2) := by decide +kernel
theorem dL_judged_550 : decode cL_judged 550 = .ok (.iload 20, 2) := by decide +kernel
theorem dL_judged_552 : decode cL_judged 552 = .ok (.if_icmp .le 9, 3) := by decide +kernel
theorem dL_judged_555 : decode cL_judged 555 = .ok (.ldc2_w 115, 3) := by decide +kernel
theorem dL_judged_558 : decode cL_judged 558 = .ok (.goto 4, 3) := by decide +kernel
theorem dL_judged_561 : decode cL_judged 561 = .ok (.lconst 0, 1) := by decide +kernel
theorem dL_judged_562 : decode cL_judged 562 = .ok (.ladd, 1) := by decide +kernel
theorem dL_judged_563 : decode cL_judged 563 = .ok (.lstore 16, 2) := by decide +kernel
theorem dL_judged_565 : decode cL_judged 565 = .ok (.iinc 22 1, 3) := by decide +kernel
theorem dL_judged_568 : decode cL_judged 568 = .ok (.goto (-129), 3) := by decide +kernel
theorem dL_judged_571 : decode cL_judged 571 = .ok (.iinc 18 1, 3) := by decide +kernel
theorem dL_judged_574 : decode cL_judged 574 = .ok (.goto (-187), 3) := by decide +kernel
theorem dL_judged_577 : decode cL_judged 577 = .ok (.iconst 4, 1) := by decide +kernel
theorem dL_judged_578 : decode cL_judged 578 = .ok (.newarray .long, 2) := by decide +kernel
theorem dL_judged_580 : decode cL_judged 580 = .ok (.dup, 1) := by decide +kernel
theorem dL_judged_581 : decode cL_judged 581 = .ok (.iconst 0, 1) := by decide +kernel
theorem dL_judged_582 : decode cL_judged 582 = .ok (.lload 9, 2) := by decide +kernel
theorem dL_judged_584 : decode cL_judged 584 = .ok (.lload 7, 2) := by decide +kernel
theorem dL_judged_586 : decode cL_judged 586 = .ok (.ldiv, 1) := by decide +kernel
theorem dL_judged_587 : decode cL_judged 587 = .ok (.lastore, 1) := by decide +kernel
theorem dL_judged_588 : decode cL_judged 588 = .ok (.dup, 1) := by decide +kernel
theorem dL_judged_589 : decode cL_judged 589 = .ok (.iconst 1, 1) := by decide +kernel
theorem dL_judged_590 : decode cL_judged 590 = .ok (.lload 14, 2) := by decide +kernel
theorem dL_judged_592 : decode cL_judged 592 = .ok (.lastore, 1) := by decide +kernel
theorem dL_judged_593 : decode cL_judged 593 = .ok (.dup, 1) := by decide +kernel
theorem dL_judged_594 : decode cL_judged 594 = .ok (.iconst 2, 1) := by decide +kernel
theorem dL_judged_595 : decode cL_judged 595 = .ok (.lload 16, 2) := by decide +kernel
theorem dL_judged_597 : decode cL_judged 597 = .ok (.lastore, 1) := by decide +kernel
theorem dL_judged_598 : decode cL_judged 598 = .ok (.dup, 1) := by decide +kernel
theorem dL_judged_599 : decode cL_judged 599 = .ok (.iconst 3, 1) := by decide +kernel
theorem dL_judged_600 : decode cL_judged 600 = .ok (.lload 11, 2) := by decide +kernel
theorem dL_judged_602 : decode cL_judged 602 = .ok (.lastore, 1) := by decide +kernel
theorem dL_judged_603 : decode cL_judged 603 = .ok (.areturn, 1) := by decide +kernel
theorem dL_isAhead_0 : decode cL_isAhead 0 = .ok (.aload_n 0, 1) := by decide +kernel
theorem dL_isAhead_1 : decode cL_isAhead 1 = .ok (.iconst 0, 1) := by decide +kernel
theorem dL_isAhead_2 : decode cL_isAhead 2 = .ok (.laload, 1) := by decide +kernel
theorem dL_isAhead_3 : decode cL_isAhead 3 = .ok (.aload_n 0, 1) := by decide +kernel
theorem dL_isAhead_4 : decode cL_isAhead 4 = .ok (.iconst 1, 1) := by decide +kernel
theorem dL_isAhead_5 : decode cL_isAhead 5 = .ok (.laload, 1) := by decide +kernel
theorem dL_isAhead_6 : decode cL_isAhead 6 = .ok (.ladd, 1) := by decide +kernel
theorem dL_isAhead_7 : decode cL_isAhead 7 = .ok (.aload_n 0, 1) := by decide +kernel
theorem dL_isAhead_8 : decode cL_isAhead 8 = .ok (.iconst 2, 1) := by decide +kernel
theorem dL_isAhead_9 : decode cL_isAhead 9 = .ok (.laload, 1) := by decide +kernel
theorem dL_isAhead_10 : decode cL_isAhead 10 = .ok (.ladd, 1) := by decide +kernel
theorem dL_isAhead_11 : decode cL_isAhead 11 = .ok (.lstore 7, 2) := by decide +kernel
theorem dL_isAhead_13 : decode cL_isAhead 13 = .ok (.aload_n 3, 1) := by decide +kernel
theorem dL_isAhead_14 : decode cL_isAhead 14 = .ok (.iconst 0, 1) := by decide +kernel
theorem dL_isAhead_15 : decode cL_isAhead 15 = .ok (.laload, 1) := by decide +kernel
theorem dL_isAhead_16 : decode cL_isAhead 16 = .ok (.aload_n 3, 1) := by decide +kernel
theorem dL_isAhead_17 : decode cL_isAhead 17 = .ok (.iconst 1, 1) := by decide +kernel
theorem dL_isAhead_18 : decode cL_isAhead 18 = .ok (.laload, 1) := by decide +kernel
theorem dL_isAhead_19 : decode cL_isAhead 19 = .ok (.ladd, 1) := by decide +kernel
theorem dL_isAhead_20 : decode cL_isAhead 20 = .ok (.aload_n 3, 1) := by decide +kernel
theorem dL_isAhead_21 : decode cL_isAhead 21 = .ok (.iconst 2, 1) := by decide +kernel
theorem dL_isAhead_22 : decode cL_isAhead 22 = .ok (.laload, 1) := by decide +kernel
theorem dL_isAhead_23 : decode cL_isAhead 23 = .ok (.ladd, 1) := by decide +kernel
theorem dL_isAhead_24 : decode cL_isAhead 24 = .ok (.lstore 9, 2) := by decide +kernel
theorem dL_isAhead_26 : decode cL_isAhead 26 = .ok (.lload 7, 2) := by decide +kernel
theorem dL_isAhead_28 : decode cL_isAhead 28 = .ok (.lload 9, 2) := by decide +kernel
theorem dL_isAhead_30 : decode cL_isAhead 30 = .ok (.lcmp, 1) := by decide +kernel
theorem dL_isAhead_31 : decode cL_isAhead 31 = .ok (.ifCond .eq 17, 3) := by decide +kernel
theorem dL_isAhead_34 : decode cL_isAhead 34 = .ok (.lload 7, 2) := by decide +kernel
theorem dL_isAhead_36 : decode cL_isAhead 36 = .ok (.lload 9, 2) := by decide +kernel
theorem dL_isAhead_38 : decode cL_isAhead 38 = .ok (.lcmp, 1) := by decide +kernel
theorem dL_isAhead_39 : decode cL_isAhead 39 = .ok (.ifCond .ge 7, 3) := by decide +kernel
theorem dL_isAhead_42 : decode cL_isAhead 42 = .ok (.iconst 1, 1) := by decide +kernel
theorem dL_isAhead_43 : decode cL_isAhead 43 = .ok (.goto 4, 3) := by decide +kernel
theorem dL_isAhead_46 : decode cL_isAhead 46 = .ok (.iconst 0, 1) := by decide +kernel
theorem dL_isAhead_47 : decode cL_isAhead 47 = .ok (.ireturn, 1) := by decide +kernel
theorem dL_isAhead_48 : decode cL_isAhead 48 = .ok (.iload_n 2, 1) := by decide +kernel
theorem dL_isAhead_49 : decode cL_isAhead 49 = .ok (.iload_n 1, 1) := by decide +kernel
theorem dL_isAhead_50 : decode cL_isAhead 50 = .ok (.isub, 1) := by decide +kernel
theorem dL_isAhead_51 : decode cL_isAhead 51 = .ok (.invokestatic 90, 3) := by decide +kernel
theorem dL_isAhead_54 : decode cL_isAhead 54 = .ok (.iload 5, 2) := by decide +kernel
theorem dL_isAhead_56 : decode cL_isAhead 56 = .ok (.iload 4, 2) := by decide +kernel
theorem dL_isAhead_58 : decode cL_isAhead 58 = .ok (.isub, 1) := by decide +kernel
theorem dL_isAhead_59 : decode cL_isAhead 59 = .ok (.invokestatic 90, 3) := by decide +kernel
theorem dL_isAhead_62 : decode cL_isAhead 62 = .ok (.if_icmp .eq 26, 3) := by decide +kernel
theorem dL_isAhead_65 : decode cL_isAhead 65 = .ok (.iload_n 2, 1) := by decide +kernel
theorem dL_isAhead_66 : decode cL_isAhead 66 = .ok (.iload_n 1, 1) := by decide +kernel
theorem dL_isAhead_67 : decode cL_isAhead 67 = .ok (.isub, 1) := by decide +kernel
theorem dL_isAhead_68 : decode cL_isAhead 68 = .ok (.invokestatic 90, 3) := by decide +kernel
theorem dL_isAhead_71 : decode cL_isAhead 71 = .ok (.iload 5, 2) := by decide +kernel
theorem dL_isAhead_73 : decode cL_isAhead 73 = .ok (.iload 4, 2) := by decide +kernel
theorem dL_isAhead_75 : decode cL_isAhead 75 = .ok (.isub, 1) := by decide +kernel
theorem dL_isAhead_76 : decode cL_isAhead 76 = .ok (.invokestatic 90, 3) := by decide +kernel
theorem dL_isAhead_79 : decode cL_isAhead 79 = .ok (.if_icmp .ge 7, 3) := by decide +kernel
theorem dL_isAhead_82 : decode cL_isAhead 82 = .ok (.iconst 1, 1) := by decide +kernel
theorem dL_isAhead_83 : decode cL_isAhead 83 = .ok (.goto 4, 3) := by decide +kernel
theorem dL_isAhead_86 : decode cL_isAhead 86 = .ok (.iconst 0, 1) := by decide +kernel
theorem dL_isAhead_87 : decode cL_isAhead 87 = .ok (.ireturn, 1) := by decide +kernel
theorem dL_isAhead_88 : decode cL_isAhead 88 = .ok (.aload_n 0, 1) := by decide +kernel
theorem dL_isAhead_89 : decode cL_isAhead 89 = .ok (.iconst 3, 1) := by decide +kernel
theorem dL_isAhead_90 : decode cL_isAhead 90 = .ok (.laload, 1) := by decide +kernel
theorem dL_isAhead_91 : decode cL_isAhead 91 = .ok (.aload_n 3, 1) := by decide +kernel
theorem dL_isAhead_92 : decode cL_isAhead 92 = .ok (.iconst 3, 1) := by decide +kernel
theorem dL_isAhead_93 : decode cL_isAhead 93 = .ok (.laload, 1) := by decide +kernel
theorem dL_isAhead_94 : decode cL_isAhead 94 = .ok (.lcmp, 1) := by decide +kernel
theorem dL_isAhead_95 : decode cL_isAhead 95 = .ok (.ifCond .eq 19, 3) := by decide +kernel
theorem dL_isAhead_98 : decode cL_isAhead 98 = .ok (.aload_n 0, 1) := by decide +kernel
theorem dL_isAhead_99 : decode cL_isAhead 99 = .ok (.iconst 3, 1) := by decide +kernel
theorem dL_isAhead_100 : decode cL_isAhead 100 = .ok (.laload, 1) := by decide +kernel
theorem dL_isAhead_101 : decode cL_isAhead 101 = .ok (.aload_n 3, 1) := by decide +kernel
theorem dL_isAhead_102 : decode cL_isAhead 102 = .ok (.iconst 3, 1) := by decide +kernel
theorem dL_isAhead_103 : decode cL_isAhead 103 = .ok (.laload, 1) := by decide +kernel
theorem dL_isAhead_104 : decode cL_isAhead 104 = .ok (.lcmp, 1) := by decide +kernel
theorem dL_isAhead_105 : decode cL_isAhead 105 = .ok (.ifCond .ge 7, 3) := by decide +kernel
theorem dL_isAhead_108 : decode cL_isAhead 108 = .ok (.iconst 1, 1) := by decide +kernel
theorem dL_isAhead_109 : decode cL_isAhead 109 = .ok (.goto 4, 3) := by decide +kernel
theorem dL_isAhead_112 : decode cL_isAhead 112 = .ok (.iconst 0, 1) := by decide +kernel
theorem dL_isAhead_113 : decode cL_isAhead 113 = .ok (.ireturn, 1) := by decide +kernel
theorem dL_isAhead_114 : decode cL_isAhead 114 = .ok (.iload_n 1, 1) := by decide +kernel
theorem dL_isAhead_115 : decode cL_isAhead 115 = .ok (.iload 4, 2) := by decide +kernel
theorem dL_isAhead_117 : decode cL_isAhead 117 = .ok (.if_icmp .eq 23, 3) := by decide +kernel
theorem dL_isAhead_120 : decode cL_isAhead 120 = .ok (.iload 6, 2) := by decide +kernel
theorem dL_isAhead_122 : decode cL_isAhead 122 = .ok (.iload_n 1, 1) := by decide +kernel
theorem dL_isAhead_123 : decode cL_isAhead 123 = .ok (.imul, 1) := by decide +kernel
theorem dL_isAhead_124 : decode cL_isAhead 124 = .ok (.iload 6, 2) := by decide +kernel
theorem dL_isAhead_126 : decode cL_isAhead 126 = .ok (.iload 4, 2) := by decide +kernel
theorem dL_isAhead_128 : decode cL_isAhead 128 = .ok (.imul, 1) := by decide +kernel
theorem dL_isAhead_129 : decode cL_isAhead 129 = .ok (.if_icmp .ge 7, 3) := by decide +kernel
theorem dL_isAhead_132 : decode cL_isAhead 132 = .ok (.iconst 1, 1) := by decide +kernel
theorem dL_isAhead_133 : decode cL_isAhead 133 = .ok (.goto 24, 3) := by decide +kernel
theorem dL_isAhead_136 : decode cL_isAhead 136 = .ok (.iconst 0, 1) := by decide +kernel
theorem dL_isAhead_137 : decode cL_isAhead 137 = .ok (.goto 20, 3) := by decide +kernel
theorem dL_isAhead_140 : decode cL_isAhead 140 = .ok (.iload 6, 2) := by decide +kernel
theorem dL_isAhead_142 : decode cL_isAhead 142 = .ok (.iload_n 2, 1) := by decide +kernel
theorem dL_isAhead_143 : decode cL_isAhead 143 = .ok (.imul, 1) := by decide +kernel
theorem dL_isAhead_144 : decode cL_isAhead 144 = .ok (.iload 6, 2) := by decide +kernel
theorem dL_isAhead_146 : decode cL_isAhead 146 = .ok (.iload 5, 2) := by decide +kernel
theorem dL_isAhead_148 : decode cL_isAhead 148 = .ok (.imul, 1) := by decide +kernel
theorem dL_isAhead_149 : decode cL_isAhead 149 = .ok (.if_icmp .ge 7, 3) := by decide +kernel
theorem dL_isAhead_152 : decode cL_isAhead 152 = .ok (.iconst 1, 1) := by decide +kernel
theorem dL_isAhead_153 : decode cL_isAhead 153 = .ok (.goto 4, 3) := by decide +kernel
theorem dL_isAhead_156 : decode cL_isAhead 156 = .ok (.iconst 0, 1) := by decide +kernel
theorem dL_isAhead_157 : decode cL_isAhead 157 = .ok (.ireturn, 1) := by decide +kernel
theorem dL_isBest_0 : decode cL_isBest 0 = .ok (.aload_n 2, 1) := by decide +kernel
theorem dL_isBest_1 : decode cL_isBest 1 = .ok (.arraylength, 1) := by decide +kernel
theorem dL_isBest_2 : decode cL_isBest 2 = .ok (.istore_n 3, 1) := by decide +kernel
theorem dL_isBest_3 : decode cL_isBest 3 = .ok (.iload_n 3, 1) := by decide +kernel
theorem dL_isBest_4 : decode cL_isBest 4 = .ok (.newarray .int, 2) := by decide +kernel
theorem dL_isBest_6 : decode cL_isBest 6 = .ok (.astore 4, 2) := by decide +kernel
theorem dL_isBest_8 : decode cL_isBest 8 = .ok (.iconst 1, 1) := by decide +kernel
theorem dL_isBest_9 : decode cL_isBest 9 = .ok (.istore 5, 2) := by decide +kernel
theorem dL_isBest_11 : decode cL_isBest 11 = .ok (.iload 5, 2) := by decide +kernel
theorem dL_isBest_13 : decode cL_isBest 13 = .ok (.iload_n 3, 1) := by decide +kernel
theorem dL_isBest_14 : decode cL_isBest 14 = .ok (.if_icmp .ge 34, 3) := by decide +kernel
theorem dL_isBest_17 : decode cL_isBest 17 = .ok (.aload 4, 2) := by decide +kernel
theorem dL_isBest_19 : decode cL_isBest 19 = .ok (.iload 5, 2) := by decide +kernel
theorem dL_isBest_21 : decode cL_isBest 21 = .ok (.aload 4, 2) := by decide +kernel
theorem dL_isBest_23 : decode cL_isBest 23 = .ok (.iload 5, 2) := by decide +kernel
theorem dL_isBest_25 : decode cL_isBest 25 = .ok (.iconst 1, 1) := by decide +kernel
theorem dL_isBest_26 : decode cL_isBest 26 = .ok (.isub, 1) := by decide +kernel
theorem dL_isBest_27 : decode cL_isBest 27 = .ok (.iaload, 1) := by decide +kernel
theorem dL_isBest_28 : decode cL_isBest 28 = .ok (.aload_n 1, 1) := by decide +kernel
theorem dL_isBest_29 : decode cL_isBest 29 = .ok (.aload_n 1, 1) := by decide +kernel
theorem dL_isBest_30 : decode cL_isBest 30 = .ok (.iload 5, 2) := by decide +kernel
theorem dL_isBest_32 : decode cL_isBest 32 = .ok (.iconst 1, 1) := by decide +kernel
theorem dL_isBest_33 : decode cL_isBest 33 = .ok (.isub, 1) := by decide +kernel
theorem dL_isBest_34 : decode cL_isBest 34 = .ok (.invokestatic 47, 3) := by decide +kernel
theorem dL_isBest_37 : decode cL_isBest 37 = .ok (.invokestatic 69, 3) := by decide +kernel
theorem dL_isBest_40 : decode cL_isBest 40 = .ok (.iadd, 1) := by decide +kernel
theorem dL_isBest_41 : decode cL_isBest 41 = .ok (.iastore, 1) := by decide +kernel
theorem dL_isBest_42 : decode cL_isBest 42 = .ok (.iinc 5 1, 3) := by decide +kernel
theorem dL_isBest_45 : decode cL_isBest 45 = .ok (.goto (-34), 3) := by decide +kernel
theorem dL_isBest_48 : decode cL_isBest 48 = .ok (.aload_n 1, 1) := by decide +kernel
theorem dL_isBest_49 : decode cL_isBest 49 = .ok (.aload_n 2, 1) := by decide +kernel
theorem dL_isBest_50 : decode cL_isBest 50 = .ok (.invokestatic 117, 3) := by decide +kernel
theorem dL_isBest_53 : decode cL_isBest 53 = .ok (.astore 5, 2) := by decide +kernel
theorem dL_isBest_55 : decode cL_isBest 55 = .ok (.iconst 0, 1) := by decide +kernel
theorem dL_isBest_56 : decode cL_isBest 56 = .ok (.istore 6, 2) := by decide +kernel
theorem dL_isBest_58 : decode cL_isBest 58 = .ok (.iconst 0, 1) := by decide +kernel
theorem dL_isBest_59 : decode cL_isBest 59 = .ok (.istore 7, 2) := by decide +kernel
theorem dL_isBest_61 : decode cL_isBest 61 = .ok (.iconst 0, 1) := by decide +kernel
theorem dL_isBest_62 : decode cL_isBest 62 = .ok (.istore 8, 2) := by decide +kernel
theorem dL_isBest_64 : decode cL_isBest 64 = .ok (.aconst_null, 1) := by decide +kernel
theorem dL_isBest_65 : decode cL_isBest 65 = .ok (.astore 9, 2) := by decide +kernel
theorem dL_isBest_67 : decode cL_isBest 67 = .ok (.bipush (-60), 2) := by decide +kernel
theorem dL_isBest_69 : decode cL_isBest 69 = .ok (.istore 10, 2) := by decide +kernel
theorem dL_isBest_71 : decode cL_isBest 71 = .ok (.iload 10, 2) := by decide +kernel
theorem dL_isBest_73 : decode cL_isBest 73 = .ok (.bipush 60, 2) := by decide +kernel
theorem dL_isBest_75 : decode cL_isBest 75 = .ok (.if_icmp .gt 110, 3) := by decide +kernel
theorem dL_isBest_78 : decode cL_isBest 78 = .ok (.bipush (-60), 2) := by decide +kernel
theorem dL_isBest_80 : decode cL_isBest 80 = .ok (.iload 10, 2) := by decide +kernel
theorem dL_isBest_82 : decode cL_isBest 82 = .ok (.bipush 8, 2) := by decide +kernel
theorem dL_isBest_84 : decode cL_isBest 84 = .ok (.isub, 1) := by decide +kernel
theorem dL_isBest_85 : decode cL_isBest 85 = .ok (.invokestatic 94, 3) := by decide +kernel
theorem dL_isBest_88 : decode cL_isBest 88 = .ok (.istore 11, 2) := by decide +kernel
theorem dL_isBest_90 : decode cL_isBest 90 = .ok (.iload 11, 2) := by decide +kernel
theorem dL_isBest_92 : decode cL_isBest 92 = .ok (.bipush 60, 2) := by decide +kernel
theorem dL_isBest_94 : decode cL_isBest 94 = .ok (.iload 10, 2) := by decide +kernel
theorem dL_isBest_96 : decode cL_isBest 96 = .ok (.bipush 8, 2) := by decide +kernel
theorem dL_isBest_98 : decode cL_isBest 98 = .ok (.iadd, 1) := by decide +kernel
theorem dL_isBest_99 : decode cL_isBest 99 = .ok (.invokestatic 53, 3) := by decide +kernel
theorem dL_isBest_102 : decode cL_isBest 102 = .ok (.if_icmp .gt 77, 3) := by decide +kernel
theorem dL_isBest_105 : decode cL_isBest 105 = .ok (.aload_n 1, 1) := by decide +kernel
theorem dL_isBest_106 : decode cL_isBest 106 = .ok (.aload_n 2, 1) := by decide +kernel
theorem dL_isBest_107 : decode cL_isBest 107 = .ok (.aload 5, 2) := by decide +kernel
theorem dL_isBest_109 : decode cL_isBest 109 = .ok (.aload 4, 2) := by decide +kernel
theorem dL_isBest_111 : decode cL_isBest 111 = .ok (.iload 10, 2) := by decide +kernel
theorem dL_isBest_113 : decode cL_isBest 113 = .ok (.iload 11, 2) := by decide +kernel
theorem dL_isBest_115 : decode cL_isBest 115 = .ok (.invokestatic 121, 3) := by decide +kernel
theorem dL_isBest_118 : decode cL_isBest 118 = .ok (.astore 12, 2) := by decide +kernel
theorem dL_isBest_120 : decode cL_isBest 120 = .ok (.aload 12, 2) := by decide +kernel
theorem dL_isBest_122 : decode cL_isBest 122 = .ok (.ifnonnull 6, 3) := by decide +kernel
theorem dL_isBest_125 : decode cL_isBest 125 = .ok (.goto 48, 3) := by decide +kernel
theorem dL_isBest_128 : decode cL_isBest 128 = .ok (.iinc 8 1, 3) := by decide +kernel
theorem dL_isBest_131 : decode cL_isBest 131 = .ok (.aload 9, 2) := by decide +kernel
theorem dL_isBest_133 : decode cL_isBest 133 = .ok (.ifnull 28, 3) := by decide +kernel
theorem dL_isBest_136 : decode cL_isBest 136 = .ok (.aload 12, 2) := by decide +kernel
theorem dL_isBest_138 : decode cL_isBest 138 = .ok (.iload 10, 2) := by decide +kernel
theorem dL_isBest_140 : decode cL_isBest 140 = .ok (.iload 11, 2) := by decide +kernel
theorem dL_isBest_142 : decode cL_isBest 142 = .ok (.aload 9, 2) := by decide +kernel
theorem dL_isBest_144 : decode cL_isBest 144 = .ok (.iload 6, 2) := by decide +kernel
theorem dL_isBest_146 : decode cL_isBest 146 = .ok (.iload 7, 2) := by decide +kernel
theorem dL_isBest_148 : decode cL_isBest 148 = .ok (.aload 5, 2) := by decide +kernel
theorem dL_isBest_150 : decode cL_isBest 150 = .ok (.iconst 0, 1) := by decide +kernel
theorem dL_isBest_151 : decode cL_isBest 151 = .ok (.iaload, 1) := by decide +kernel
theorem dL_isBest_152 : decode cL_isBest 152 = .ok (.invokestatic 125, 3) := by decide +kernel
theorem dL_isBest_155 : decode cL_isBest 155 = .ok (.ifCond .ne 6, 3) := by decide +kernel
theorem dL_isBest_158 : decode cL_isBest 158 = .ok (.goto 15, 3) := by decide +kernel
theorem dL_isBest_161 : decode cL_isBest 161 = .ok (.aload 12, 2) := by decide +kernel
theorem dL_isBest_163 : decode cL_isBest 163 = .ok (.astore 9, 2) := by decide +kernel
theorem dL_isBest_165 : decode cL_isBest 165 = .ok (.iload 10, 2) := by decide +kernel
theorem dL_isBest_167 : decode cL_isBest 167 = .ok (.istore 6, 2) := by decide +kernel
theorem dL_isBest_169 : decode cL_isBest 169 = .ok (.iload 11, 2) := by decide +kernel
theorem dL_isBest_171 : decode cL_isBest 171 = .ok (.istore 7, 2) := by decide +kernel
theorem dL_isBest_173 : decode cL_isBest 173 = .ok (.iinc 11 1, 3) := by decide +kernel
theorem dL_isBest_176 : decode cL_isBest 176 = .ok (.goto (-86), 3) := by decide +kernel
theorem dL_isBest_179 : decode cL_isBest 179 = .ok (.iinc 10 1, 3) := by decide +kernel
theorem dL_isBest_182 : decode cL_isBest 182 = .ok (.goto (-111), 3) := by decide +kernel
theorem dL_isBest_185 : decode cL_isBest 185 = .ok (.iconst 0, 1) := by decide +kernel
theorem dL_isBest_186 : decode cL_isBest 186 = .ok (.istore 10, 2) := by decide +kernel
theorem dL_isBest_188 : decode cL_isBest 188 = .ok (.iload 10, 2) := by decide +kernel
theorem dL_isBest_190 : decode cL_isBest 190 = .ok (.iload_n 3, 1) := by decide +kernel
theorem dL_isBest_191 : decode cL_isBest 191 = .ok (.if_icmp .ge 38, 3) := by decide +kernel
theorem dL_isBest_194 : decode cL_isBest 194 = .ok (.aload_n 0, 1) := by decide +kernel
theorem dL_isBest_195 : decode cL_isBest 195 = .ok (.iload 10, 2) := by decide +kernel
theorem dL_isBest_197 : decode cL_isBest 197 = .ok (.invokevirtual 129, 3) := by decide +kernel
theorem dL_isBest_200 : decode cL_isBest 200 = .ok (.aload 5, 2) := by decide +kernel
theorem dL_isBest_202 : decode cL_isBest 202 = .ok (.iload 10, 2) := by decide +kernel
theorem dL_isBest_204 : decode cL_isBest 204 = .ok (.iaload, 1) := by decide +kernel
theorem dL_isBest_205 : decode cL_isBest 205 = .ok (.if_icmp .ne 16, 3) := by decide +kernel
theorem dL_isBest_208 : decode cL_isBest 208 = .ok (.aload_n 0, 1) := by decide +kernel
theorem dL_isBest_209 : decode cL_isBest 209 = .ok (.iload 10, 2) := by decide +kernel
theorem dL_isBest_211 : decode cL_isBest 211 = .ok (.invokevirtual 132, 3) := by decide +kernel
theorem dL_isBest_214 : decode cL_isBest 214 = .ok (.aload_n 2, 1) := by decide +kernel
theorem dL_isBest_215 : decode cL_isBest 215 = .ok (.iload 10, 2) := by decide +kernel
theorem dL_isBest_217 : decode cL_isBest 217 = .ok (.iaload, 1) := by decide +kernel
theorem dL_isBest_218 : decode cL_isBest 218 = .ok (.if_icmp .eq 5, 3) := by decide +kernel
theorem dL_isBest_221 : decode cL_isBest 221 = .ok (.iconst 0, 1) := by decide +kernel
theorem dL_isBest_222 : decode cL_isBest 222 = .ok (.ireturn, 1) := by decide +kernel
theorem dL_isBest_223 : decode cL_isBest 223 = .ok (.iinc 10 1, 3) := by decide +kernel
theorem dL_isBest_226 : decode cL_isBest 226 = .ok (.goto (-38), 3) := by decide +kernel
theorem dL_isBest_229 : decode cL_isBest 229 = .ok (.aload_n 0, 1) := by decide +kernel
theorem dL_isBest_230 : decode cL_isBest 230 = .ok (.iconst 0, 1) := by decide +kernel
theorem dL_isBest_231 : decode cL_isBest 231 = .ok (.iconst 2, 1) := by decide +kernel
theorem dL_isBest_232 : decode cL_isBest 232 = .ok (.invokevirtual 134, 3) := by decide +kernel
theorem dL_isBest_235 : decode cL_isBest 235 = .ok (.aload 5, 2) := by decide +kernel
theorem dL_isBest_237 : decode cL_isBest 237 = .ok (.invokestatic 101, 3) := by decide +kernel
theorem dL_isBest_240 : decode cL_isBest 240 = .ok (.ifCond .eq 7, 3) := by decide +kernel
theorem dL_isBest_243 : decode cL_isBest 243 = .ok (.iconst 1, 1) := by decide +kernel
theorem dL_isBest_244 : decode cL_isBest 244 = .ok (.goto 4, 3) := by decide +kernel
theorem dL_isBest_247 : decode cL_isBest 247 = .ok (.iconst 0, 1) := by decide +kernel
theorem dL_isBest_248 : decode cL_isBest 248 = .ok (.if_icmp .ne 29, 3) := by decide +kernel
theorem dL_isBest_251 : decode cL_isBest 251 = .ok (.aload_n 0, 1) := by decide +kernel
theorem dL_isBest_252 : decode cL_isBest 252 = .ok (.iconst 0, 1) := by decide +kernel
theorem dL_isBest_253 : decode cL_isBest 253 = .ok (.iconst 3, 1) := by decide +kernel
theorem dL_isBest_254 : decode cL_isBest 254 = .ok (.invokevirtual 134, 3) := by decide +kernel
theorem dL_isBest_257 : decode cL_isBest 257 = .ok (.aload 4, 2) := by decide +kernel
theorem dL_isBest_259 : decode cL_isBest 259 = .ok (.iload_n 3, 1) := by decide +kernel
theorem dL_isBest_260 : decode cL_isBest 260 = .ok (.iconst 1, 1) := by decide +kernel
theorem dL_isBest_261 : decode cL_isBest 261 = .ok (.isub, 1) := by decide +kernel
theorem dL_isBest_262 : decode cL_isBest 262 = .ok (.iaload, 1) := by decide +kernel
theorem dL_isBest_263 : decode cL_isBest 263 = .ok (.if_icmp .ne 14, 3) := by decide +kernel
theorem dL_isBest_266 : decode cL_isBest 266 = .ok (.aload_n 0, 1) := by decide +kernel
theorem dL_isBest_267 : decode cL_isBest 267 = .ok (.iconst 0, 1) := by decide +kernel
theorem dL_isBest_268 : decode cL_isBest 268 = .ok (.iconst 5, 1) := by decide +kernel
theorem dL_isBest_269 : decode cL_isBest 269 = .ok (.invokevirtual 134, 3) := by decide +kernel
theorem dL_isBest_272 : decode cL_isBest 272 = .ok (.iload 8, 2) := by decide +kernel
theorem dL_isBest_274 : decode cL_isBest 274 = .ok (.if_icmp .eq 5, 3) := by decide +kernel
theorem dL_isBest_277 : decode cL_isBest 277 = .ok (.iconst 0, 1) := by decide +kernel
theorem dL_isBest_278 : decode cL_isBest 278 = .ok (.ireturn, 1) := by decide +kernel
theorem dL_isBest_279 : decode cL_isBest 279 = .ok (.aload 9, 2) := by decide +kernel
theorem dL_isBest_281 : decode cL_isBest 281 = .ok (.ifnonnull 29, 3) := by decide +kernel
theorem dL_isBest_284 : decode cL_isBest 284 = .ok (.aload_n 0, 1) := by decide +kernel
theorem dL_isBest_285 : decode cL_isBest 285 = .ok (.iconst 0, 1) := by decide +kernel
theorem dL_isBest_286 : decode cL_isBest 286 = .ok (.iconst 0, 1) := by decide +kernel
theorem dL_isBest_287 : decode cL_isBest 287 = .ok (.invokevirtual 137, 3) := by decide +kernel
theorem dL_isBest_290 : decode cL_isBest 290 = .ok (.ldc 140, 2) := by decide +kernel
theorem dL_isBest_292 : decode cL_isBest 292 = .ok (.if_icmp .ne 16, 3) := by decide +kernel
theorem dL_isBest_295 : decode cL_isBest 295 = .ok (.aload_n 0, 1) := by decide +kernel
theorem dL_isBest_296 : decode cL_isBest 296 = .ok (.iconst 1, 1) := by decide +kernel
theorem dL_isBest_297 : decode cL_isBest 297 = .ok (.invokevirtual 141, 3) := by decide +kernel
theorem dL_isBest_300 : decode cL_isBest 300 = .ok (.iconst 1, 1) := by decide +kernel
theorem dL_isBest_301 : decode cL_isBest 301 = .ok (.if_icmp .ne 7, 3) := by decide +kernel
theorem dL_isBest_304 : decode cL_isBest 304 = .ok (.iconst 1, 1) := by decide +kernel
theorem dL_isBest_305 : decode cL_isBest 305 = .ok (.goto 4, 3) := by decide +kernel
theorem dL_isBest_308 : decode cL_isBest 308 = .ok (.iconst 0, 1) := by decide +kernel
theorem dL_isBest_309 : decode cL_isBest 309 = .ok (.ireturn, 1) := by decide +kernel
theorem dL_isBest_310 : decode cL_isBest 310 = .ok (.aload_n 0, 1) := by decide +kernel
theorem dL_isBest_311 : decode cL_isBest 311 = .ok (.iconst 0, 1) := by decide +kernel
theorem dL_isBest_312 : decode cL_isBest 312 = .ok (.iconst 0, 1) := by decide +kernel
theorem dL_isBest_313 : decode cL_isBest 313 = .ok (.invokevirtual 137, 3) := by decide +kernel
theorem dL_isBest_316 : decode cL_isBest 316 = .ok (.iload 6, 2) := by decide +kernel
theorem dL_isBest_318 : decode cL_isBest 318 = .ok (.if_icmp .ne 84, 3) := by decide +kernel
theorem dL_isBest_321 : decode cL_isBest 321 = .ok (.aload_n 0, 1) := by decide +kernel
theorem dL_isBest_322 : decode cL_isBest 322 = .ok (.iconst 0, 1) := by decide +kernel
theorem dL_isBest_323 : decode cL_isBest 323 = .ok (.iconst 1, 1) := by decide +kernel
theorem dL_isBest_324 : decode cL_isBest 324 = .ok (.invokevirtual 137, 3) := by decide +kernel
theorem dL_isBest_327 : decode cL_isBest 327 = .ok (.iload 7, 2) := by decide +kernel
theorem dL_isBest_329 : decode cL_isBest 329 = .ok (.if_icmp .ne 73, 3) := by decide +kernel
theorem dL_isBest_332 : decode cL_isBest 332 = .ok (.aload_n 0, 1) := by decide +kernel
theorem dL_isBest_333 : decode cL_isBest 333 = .ok (.iconst 0, 1) := by decide +kernel
theorem dL_isBest_334 : decode cL_isBest 334 = .ok (.iconst 3, 1) := by decide +kernel
theorem dL_isBest_335 : decode cL_isBest 335 = .ok (.invokevirtual 137, 3) := by decide +kernel
theorem dL_isBest_338 : decode cL_isBest 338 = .ok (.i2l, 1) := by decide +kernel
theorem dL_isBest_339 : decode cL_isBest 339 = .ok (.aload 9, 2) := by decide +kernel
theorem dL_isBest_341 : decode cL_isBest 341 = .ok (.iconst 0, 1) := by decide +kernel
theorem dL_isBest_342 : decode cL_isBest 342 = .ok (.laload, 1) := by decide +kernel
theorem dL_isBest_343 : decode cL_isBest 343 = .ok (.lcmp, 1) := by decide +kernel
theorem dL_isBest_344 : decode cL_isBest 344 = .ok (.ifCond .ne 58, 3) := by decide +kernel
theorem dL_isBest_347 : decode cL_isBest 347 = .ok (.aload_n 0, 1) := by decide +kernel
theorem dL_isBest_348 : decode cL_isBest 348 = .ok (.iconst 0, 1) := by decide +kernel
theorem dL_isBest_349 : decode cL_isBest 349 = .ok (.iconst 4, 1) := by decide +kernel
theorem dL_isBest_350 : decode cL_isBest 350 = .ok (.invokevirtual 137, 3) := by decide +kernel
theorem dL_isBest_353 : decode cL_isBest 353 = .ok (.i2l, 1) := by decide +kernel
theorem dL_isBest_354 : decode cL_isBest 354 = .ok (.aload 9, 2) := by decide +kernel
theorem dL_isBest_356 : decode cL_isBest 356 = .ok (.iconst 1, 1) := by decide +kernel
theorem dL_isBest_357 : decode cL_isBest 357 = .ok (.laload, 1) := by decide +kernel
theorem dL_isBest_358 : decode cL_isBest 358 = .ok (.lcmp, 1) := by decide +kernel
theorem dL_isBest_359 : decode cL_isBest 359 = .ok (.ifCond .ne 43, 3) := by decide +kernel
theorem dL_isBest_362 : decode cL_isBest 362 = .ok (.aload_n 0, 1) := by decide +kernel
theorem dL_isBest_363 : decode cL_isBest 363 = .ok (.iconst 0, 1) := by decide +kernel
theorem dL_isBest_364 : decode cL_isBest 364 = .ok (.iconst 5, 1) := by decide +kernel
theorem dL_isBest_365 : decode cL_isBest 365 = .ok (.invokevirtual 137, 3) := by decide +kernel
theorem dL_isBest_368 : decode cL_isBest 368 = .ok (.i2l, 1) := by decide +kernel
theorem dL_isBest_369 : decode cL_isBest 369 = .ok (.aload 9, 2) := by decide +kernel
theorem dL_isBest_371 : decode cL_isBest 371 = .ok (.iconst 2, 1) := by decide +kernel
theorem dL_isBest_372 : decode cL_isBest 372 = .ok (.laload, 1) := by decide +kernel
theorem dL_isBest_373 : decode cL_isBest 373 = .ok (.lcmp, 1) := by decide +kernel
theorem dL_isBest_374 : decode cL_isBest 374 = .ok (.ifCond .ne 28, 3) := by decide +kernel
theorem dL_isBest_377 : decode cL_isBest 377 = .ok (.aload_n 0, 1) := by decide +kernel
theorem dL_isBest_378 : decode cL_isBest 378 = .ok (.iconst 0, 1) := by decide +kernel
theorem dL_isBest_379 : decode cL_isBest 379 = .ok (.iconst 2, 1) := by decide +kernel
theorem dL_isBest_380 : decode cL_isBest 380 = .ok (.invokevirtual 137, 3) := by decide +kernel
theorem dL_isBest_383 : decode cL_isBest 383 = .ok (.i2l, 1) := by decide +kernel
theorem dL_isBest_384 : decode cL_isBest 384 = .ok (.aload 9, 2) := by decide +kernel
theorem dL_isBest_386 : decode cL_isBest 386 = .ok (.iconst 0, 1) := by decide +kernel
theorem dL_isBest_387 : decode cL_isBest 387 = .ok (.laload, 1) := by decide +kernel
theorem dL_isBest_388 : decode cL_isBest 388 = .ok (.aload 9, 2) := by decide +kernel
theorem dL_isBest_390 : decode cL_isBest 390 = .ok (.iconst 1, 1) := by decide +kernel
theorem dL_isBest_391 : decode cL_isBest 391 = .ok (.laload, 1) := by decide +kernel
theorem dL_isBest_392 : decode cL_isBest 392 = .ok (.ladd, 1) := by decide +kernel
theorem dL_isBest_393 : decode cL_isBest 393 = .ok (.aload 9, 2) := by decide +kernel
theorem dL_isBest_395 : decode cL_isBest 395 = .ok (.iconst 2, 1) := by decide +kernel
theorem dL_isBest_396 : decode cL_isBest 396 = .ok (.laload, 1) := by decide +kernel
theorem dL_isBest_397 : decode cL_isBest 397 = .ok (.ladd, 1) := by decide +kernel
theorem dL_isBest_398 : decode cL_isBest 398 = .ok (.lcmp, 1) := by decide +kernel
theorem dL_isBest_399 : decode cL_isBest 399 = .ok (.ifCond .eq 5, 3) := by decide +kernel
theorem dL_isBest_402 : decode cL_isBest 402 = .ok (.iconst 0, 1) := by decide +kernel
theorem dL_isBest_403 : decode cL_isBest 403 = .ok (.ireturn, 1) := by decide +kernel
theorem dL_isBest_404 : decode cL_isBest 404 = .ok (.iconst 0, 1) := by decide +kernel
theorem dL_isBest_405 : decode cL_isBest 405 = .ok (.istore 10, 2) := by decide +kernel
theorem dL_isBest_407 : decode cL_isBest 407 = .ok (.iload 10, 2) := by decide +kernel
theorem dL_isBest_409 : decode cL_isBest 409 = .ok (.iconst 4, 1) := by decide +kernel
theorem dL_isBest_410 : decode cL_isBest 410 = .ok (.if_icmp .ge 316, 3) := by decide +kernel
theorem dL_isBest_413 : decode cL_isBest 413 = .ok (.iload 6, 2) := by decide +kernel
theorem dL_isBest_415 : decode cL_isBest 415 = .ok (.aload_n 1, 1) := by decide +kernel
theorem dL_isBest_416 : decode cL_isBest 416 = .ok (.bipush 24, 2) := by decide +kernel
theorem dL_isBest_418 : decode cL_isBest 418 = .ok (.iload 10, 2) := by decide +kernel
theorem dL_isBest_420 : decode cL_isBest 420 = .ok (.iadd, 1) := by decide +kernel
theorem dL_isBest_421 : decode cL_isBest 421 = .ok (.invokestatic 37, 3) := by decide +kernel
theorem dL_isBest_424 : decode cL_isBest 424 = .ok (.bipush 9, 2) := by decide +kernel
theorem dL_isBest_426 : decode cL_isBest 426 = .ok (.invokestatic 43, 3) := by decide +kernel
theorem dL_isBest_429 : decode cL_isBest 429 = .ok (.iadd, 1) := by decide +kernel
theorem dL_isBest_430 : decode cL_isBest 430 = .ok (.iconst 4, 1) := by decide +kernel
theorem dL_isBest_431 : decode cL_isBest 431 = .ok (.isub, 1) := by decide +kernel
theorem dL_isBest_432 : decode cL_isBest 432 = .ok (.istore 11, 2) := by decide +kernel
theorem dL_isBest_434 : decode cL_isBest 434 = .ok (.iload 11, 2) := by decide +kernel
theorem dL_isBest_436 : decode cL_isBest 436 = .ok (.aload_n 1, 1) := by decide +kernel
theorem dL_isBest_437 : decode cL_isBest 437 = .ok (.bipush 24, 2) := by decide +kernel
theorem dL_isBest_439 : decode cL_isBest 439 = .ok (.iload 10, 2) := by decide +kernel
theorem dL_isBest_441 : decode cL_isBest 441 = .ok (.iadd, 1) := by decide +kernel
theorem dL_isBest_442 : decode cL_isBest 442 = .ok (.invokestatic 37, 3) := by decide +kernel
theorem dL_isBest_445 : decode cL_isBest 445 = .ok (.bipush 16, 2) := by decide +kernel
theorem dL_isBest_447 : decode cL_isBest 447 = .ok (.idiv, 1) := by decide +kernel
theorem dL_isBest_448 : decode cL_isBest 448 = .ok (.bipush 9, 2) := by decide +kernel
theorem dL_isBest_450 : decode cL_isBest 450 = .ok (.invokestatic 43, 3) := by decide +kernel
theorem dL_isBest_453 : decode cL_isBest 453 = .ok (.iadd, 1) := by decide +kernel
theorem dL_isBest_454 : decode cL_isBest 454 = .ok (.iconst 4, 1) := by decide +kernel
theorem dL_isBest_455 : decode cL_isBest 455 = .ok (.isub, 1) := by decide +kernel
theorem dL_isBest_456 : decode cL_isBest 456 = .ok (.istore 12, 2) := by decide +kernel
theorem dL_isBest_458 : decode cL_isBest 458 = .ok (.iload 11, 2) := by decide +kernel
theorem dL_isBest_460 : decode cL_isBest 460 = .ok (.invokestatic 90, 3) := by decide +kernel
theorem dL_isBest_463 : decode cL_isBest 463 = .ok (.bipush 60, 2) := by decide +kernel
theorem dL_isBest_465 : decode cL_isBest 465 = .ok (.if_icmp .gt 255, 3) := by decide +kernel
theorem dL_isBest_468 : decode cL_isBest 468 = .ok (.iload 12, 2) := by decide +kernel
theorem dL_isBest_470 : decode cL_isBest 470 = .ok (.invokestatic 90, 3) := by decide +kernel
theorem dL_isBest_473 : decode cL_isBest 473 = .ok (.bipush 60, 2) := by decide +kernel
theorem dL_isBest_475 : decode cL_isBest 475 = .ok (.if_icmp .le 6, 3) := by decide +kernel
theorem dL_isBest_478 : decode cL_isBest 478 = .ok (.goto 242, 3) := by decide +kernel
theorem dL_isBest_481 : decode cL_isBest 481 = .ok (.aload_n 1, 1) := by decide +kernel
theorem dL_isBest_482 : decode cL_isBest 482 = .ok (.aload_n 2, 1) := by decide +kernel
theorem dL_isBest_483 : decode cL_isBest 483 = .ok (.aload 5, 2) := by decide +kernel
theorem dL_isBest_485 : decode cL_isBest 485 = .ok (.aload 4, 2) := by decide +kernel
theorem dL_isBest_487 : decode cL_isBest 487 = .ok (.iload 11, 2) := by decide +kernel
theorem dL_isBest_489 : decode cL_isBest 489 = .ok (.iload 12, 2) := by decide +kernel
theorem dL_isBest_491 : decode cL_isBest 491 = .ok (.invokestatic 121, 3) := by decide +kernel
theorem dL_isBest_494 : decode cL_isBest 494 = .ok (.astore 13, 2) := by decide +kernel
theorem dL_isBest_496 : decode cL_isBest 496 = .ok (.aload_n 0, 1) := by decide +kernel
theorem dL_isBest_497 : decode cL_isBest 497 = .ok (.iconst 0, 1) := by decide +kernel
theorem dL_isBest_498 : decode cL_isBest 498 = .ok (.iload 11, 2) := by decide +kernel
theorem dL_isBest_500 : decode cL_isBest 500 = .ok (.iload 12, 2) := by decide +kernel
theorem dL_isBest_502 : decode cL_isBest 502 = .ok (.iconst 0, 1) := by decide +kernel
theorem dL_isBest_503 : decode cL_isBest 503 = .ok (.invokevirtual 144, 3) := by decide +kernel
theorem dL_isBest_506 : decode cL_isBest 506 = .ok (.i2l, 1) := by decide +kernel
theorem dL_isBest_507 : decode cL_isBest 507 = .ok (.aload 13, 2) := by decide +kernel
theorem dL_isBest_509 : decode cL_isBest 509 = .ok (.ifnonnull 9, 3) := by decide +kernel
theorem dL_isBest_512 : decode cL_isBest 512 = .ok (.ldc2_w 148, 3) := by decide +kernel
theorem dL_isBest_515 : decode cL_isBest 515 = .ok (.goto 17, 3) := by decide +kernel
theorem dL_isBest_518 : decode cL_isBest 518 = .ok (.aload 13, 2) := by decide +kernel
theorem dL_isBest_520 : decode cL_isBest 520 = .ok (.iconst 0, 1) := by decide +kernel
theorem dL_isBest_521 : decode cL_isBest 521 = .ok (.laload, 1) := by decide +kernel
theorem dL_isBest_522 : decode cL_isBest 522 = .ok (.aload 13, 2) := by decide +kernel
theorem dL_isBest_524 : decode cL_isBest 524 = .ok (.iconst 1, 1) := by decide +kernel
theorem dL_isBest_525 : decode cL_isBest 525 = .ok (.laload, 1) := by decide +kernel
theorem dL_isBest_526 : decode cL_isBest 526 = .ok (.ladd, 1) := by decide +kernel
theorem dL_isBest_527 : decode cL_isBest 527 = .ok (.aload 13, 2) := by decide +kernel
theorem dL_isBest_529 : decode cL_isBest 529 = .ok (.iconst 2, 1) := by decide +kernel
theorem dL_isBest_530 : decode cL_isBest 530 = .ok (.laload, 1) := by decide +kernel
theorem dL_isBest_531 : decode cL_isBest 531 = .ok (.ladd, 1) := by decide +kernel
theorem dL_isBest_532 : decode cL_isBest 532 = .ok (.lcmp, 1) := by decide +kernel
theorem dL_isBest_533 : decode cL_isBest 533 = .ok (.ifCond .eq 5, 3) := by decide +kernel
theorem dL_isBest_536 : decode cL_isBest 536 = .ok (.iconst 0, 1) := by decide +kernel
theorem dL_isBest_537 : decode cL_isBest 537 = .ok (.ireturn, 1) := by decide +kernel
theorem dL_isBest_538 : decode cL_isBest 538 = .ok (.aload 13, 2) := by decide +kernel
theorem dL_isBest_540 : decode cL_isBest 540 = .ok (.ifnonnull 19, 3) := by decide +kernel
theorem dL_isBest_543 : decode cL_isBest 543 = .ok (.aload_n 0, 1) := by decide +kernel
theorem dL_isBest_544 : decode cL_isBest 544 = .ok (.iconst 0, 1) := by decide +kernel
theorem dL_isBest_545 : decode cL_isBest 545 = .ok (.iload 11, 2) := by decide +kernel
theorem dL_isBest_547 : decode cL_isBest 547 = .ok (.iload 12, 2) := by decide +kernel
theorem dL_isBest_549 : decode cL_isBest 549 = .ok (.invokevirtual 150, 3) := by decide +kernel
theorem dL_isBest_552 : decode cL_isBest 552 = .ok (.bipush (-2), 2) := by decide +kernel
theorem dL_isBest_554 : decode cL_isBest 554 = .ok (.if_icmp .eq 166, 3) := by decide +kernel
theorem dL_isBest_557 : decode cL_isBest 557 = .ok (.iconst 0, 1) := by decide +kernel
theorem dL_isBest_558 : decode cL_isBest 558 = .ok (.ireturn, 1) := by decide +kernel
theorem dL_isBest_559 : decode cL_isBest 559 = .ok (.iconst 0, 1) := by decide +kernel
theorem dL_isBest_560 : decode cL_isBest 560 = .ok (.istore 14, 2) := by decide +kernel
theorem dL_isBest_562 : decode cL_isBest 562 = .ok (.bipush (-60), 2) := by decide +kernel
theorem dL_isBest_564 : decode cL_isBest 564 = .ok (.istore 15, 2) := by decide +kernel
theorem dL_isBest_566 : decode cL_isBest 566 = .ok (.iload 15, 2) := by decide +kernel
theorem dL_isBest_568 : decode cL_isBest 568 = .ok (.bipush 60, 2) := by decide +kernel
theorem dL_isBest_570 : decode cL_isBest 570 = .ok (.if_icmp .gt 108, 3) := by decide +kernel
theorem dL_isBest_573 : decode cL_isBest 573 = .ok (.bipush (-60), 2) := by decide +kernel
theorem dL_isBest_575 : decode cL_isBest 575 = .ok (.iload 15, 2) := by decide +kernel
theorem dL_isBest_577 : decode cL_isBest 577 = .ok (.bipush 8, 2) := by decide +kernel
theorem dL_isBest_579 : decode cL_isBest 579 = .ok (.isub, 1) := by decide +kernel
theorem dL_isBest_580 : decode cL_isBest 580 = .ok (.invokestatic 94, 3) := by decide +kernel
theorem dL_isBest_583 : decode cL_isBest 583 = .ok (.istore 16, 2) := by decide +kernel
theorem dL_isBest_585 : decode cL_isBest 585 = .ok (.iload 16, 2) := by decide +kernel
theorem dL_isBest_587 : decode cL_isBest 587 = .ok (.bipush 60, 2) := by decide +kernel
theorem dL_isBest_589 : decode cL_isBest 589 = .ok (.iload 15, 2) := by decide +kernel
theorem dL_isBest_591 : decode cL_isBest 591 = .ok (.bipush 8, 2) := by decide +kernel
theorem dL_isBest_593 : decode cL_isBest 593 = .ok (.iadd, 1) := by decide +kernel
theorem dL_isBest_594 : decode cL_isBest 594 = .ok (.invokestatic 53, 3) := by decide +kernel
theorem dL_isBest_597 : decode cL_isBest 597 = .ok (.if_icmp .gt 75, 3) := by decide +kernel
theorem dL_isBest_600 : decode cL_isBest 600 = .ok (.aload_n 1, 1) := by decide +kernel
theorem dL_isBest_601 : decode cL_isBest 601 = .ok (.aload_n 2, 1) := by decide +kernel
theorem dL_isBest_602 : decode cL_isBest 602 = .ok (.aload 5, 2) := by decide +kernel
theorem dL_isBest_604 : decode cL_isBest 604 = .ok (.aload 4, 2) := by decide +kernel
theorem dL_isBest_606 : decode cL_isBest 606 = .ok (.iload 15, 2) := by decide +kernel
theorem dL_isBest_608 : decode cL_isBest 608 = .ok (.iload 16, 2) := by decide +kernel
theorem dL_isBest_610 : decode cL_isBest 610 = .ok (.invokestatic 121, 3) := by decide +kernel
theorem dL_isBest_613 : decode cL_isBest 613 = .ok (.astore 17, 2) := by decide +kernel
theorem dL_isBest_615 : decode cL_isBest 615 = .ok (.iload 14, 2) := by decide +kernel
theorem dL_isBest_617 : decode cL_isBest 617 = .ok (.aload 17, 2) := by decide +kernel
theorem dL_isBest_619 : decode cL_isBest 619 = .ok (.ifnull 43, 3) := by decide +kernel
theorem dL_isBest_622 : decode cL_isBest 622 = .ok (.iload 15, 2) := by decide +kernel
theorem dL_isBest_624 : decode cL_isBest 624 = .ok (.iload 11, 2) := by decide +kernel
theorem dL_isBest_626 : decode cL_isBest 626 = .ok (.if_icmp .ne 10, 3) := by decide +kernel
theorem dL_isBest_629 : decode cL_isBest 629 = .ok (.iload 16, 2) := by decide +kernel
theorem dL_isBest_631 : decode cL_isBest 631 = .ok (.iload 12, 2) := by decide +kernel
theorem dL_isBest_633 : decode cL_isBest 633 = .ok (.if_icmp .eq 29, 3) := by decide +kernel
theorem dL_isBest_636 : decode cL_isBest 636 = .ok (.aload 17, 2) := by decide +kernel
theorem dL_isBest_638 : decode cL_isBest 638 = .ok (.iload 15, 2) := by decide +kernel
theorem dL_isBest_640 : decode cL_isBest 640 = .ok (.iload 16, 2) := by decide +kernel
theorem dL_isBest_642 : decode cL_isBest 642 = .ok (.aload 13, 2) := by decide +kernel
theorem dL_isBest_644 : decode cL_isBest 644 = .ok (.iload 11, 2) := by decide +kernel
theorem dL_isBest_646 : decode cL_isBest 646 = .ok (.iload 12, 2) := by decide +kernel
theorem dL_isBest_648 : decode cL_isBest 648 = .ok (.aload 5, 2) := by decide +kernel
theorem dL_isBest_650 : decode cL_isBest 650 = .ok (.iconst 0, 1) := by decide +kernel
theorem dL_isBest_651 : decode cL_isBest 651 = .ok (.iaload, 1) := by decide +kernel
theorem dL_isBest_652 : decode cL_isBest 652 = .ok (.invokestatic 125, 3) := by decide +kernel
theorem dL_isBest_655 : decode cL_isBest 655 = .ok (.ifCond .eq 7, 3) := by decide +kernel
theorem dL_isBest_658 : decode cL_isBest 658 = .ok (.iconst 1, 1) := by decide +kernel
theorem dL_isBest_659 : decode cL_isBest 659 = .ok (.goto 4, 3) := by decide +kernel
theorem dL_isBest_662 : decode cL_isBest 662 = .ok (.iconst 0, 1) := by decide +kernel
theorem dL_isBest_663 : decode cL_isBest 663 = .ok (.iadd, 1) := by decide +kernel
theorem dL_isBest_664 : decode cL_isBest 664 = .ok (.istore 14, 2) := by decide +kernel
theorem dL_isBest_666 : decode cL_isBest 666 = .ok (.iinc 16 1, 3) := by decide +kernel
theorem dL_isBest_669 : decode cL_isBest 669 = .ok (.goto (-84), 3) := by decide +kernel
theorem dL_isBest_672 : decode cL_isBest 672 = .ok (.iinc 15 1, 3) := by decide +kernel
theorem dL_isBest_675 : decode cL_isBest 675 = .ok (.goto (-109), 3) := by decide +kernel
theorem dL_isBest_678 : decode cL_isBest 678 = .ok (.aload_n 0, 1) := by decide +kernel
theorem dL_isBest_679 : decode cL_isBest 679 = .ok (.iconst 0, 1) := by decide +kernel
theorem dL_isBest_680 : decode cL_isBest 680 = .ok (.iload 11, 2) := by decide +kernel
theorem dL_isBest_682 : decode cL_isBest 682 = .ok (.iload 12, 2) := by decide +kernel
theorem dL_isBest_684 : decode cL_isBest 684 = .ok (.invokevirtual 150, 3) := by decide +kernel
theorem dL_isBest_687 : decode cL_isBest 687 = .ok (.iload 14, 2) := by decide +kernel
theorem dL_isBest_689 : decode cL_isBest 689 = .ok (.if_icmp .ne 29, 3) := by decide +kernel
theorem dL_isBest_692 : decode cL_isBest 692 = .ok (.aload_n 0, 1) := by decide +kernel
theorem dL_isBest_693 : decode cL_isBest 693 = .ok (.iconst 0, 1) := by decide +kernel
theorem dL_isBest_694 : decode cL_isBest 694 = .ok (.iload 14, 2) := by decide +kernel
theorem dL_isBest_696 : decode cL_isBest 696 = .ok (.iconst 0, 1) := by decide +kernel
theorem dL_isBest_697 : decode cL_isBest 697 = .ok (.invokevirtual 154, 3) := by decide +kernel
theorem dL_isBest_700 : decode cL_isBest 700 = .ok (.iload 11, 2) := by decide +kernel
theorem dL_isBest_702 : decode cL_isBest 702 = .ok (.if_icmp .ne 16, 3) := by decide +kernel
theorem dL_isBest_705 : decode cL_isBest 705 = .ok (.aload_n 0, 1) := by decide +kernel
theorem dL_isBest_706 : decode cL_isBest 706 = .ok (.iconst 0, 1) := by decide +kernel
theorem dL_isBest_707 : decode cL_isBest 707 = .ok (.iload 14, 2) := by decide +kernel
theorem dL_isBest_709 : decode cL_isBest 709 = .ok (.iconst 1, 1) := by decide +kernel
theorem dL_isBest_710 : decode cL_isBest 710 = .ok (.invokevirtual 154, 3) := by decide +kernel
theorem dL_isBest_713 : decode cL_isBest 713 = .ok (.iload 12, 2) := by decide +kernel
theorem dL_isBest_715 : decode cL_isBest 715 = .ok (.if_icmp .eq 5, 3) := by decide +kernel
theorem dL_isBest_718 : decode cL_isBest 718 = .ok (.iconst 0, 1) := by decide +kernel
theorem dL_isBest_719 : decode cL_isBest 719 = .ok (.ireturn, 1) := by decide +kernel
theorem dL_isBest_720 : decode cL_isBest 720 = .ok (.iinc 10 1, 3) := by decide +kernel
theorem dL_isBest_723 : decode cL_isBest 723 = .ok (.goto (-316), 3) := by decide +kernel
theorem dL_isBest_726 : decode cL_isBest 726 = .ok (.aload_n 0, 1) := by decide +kernel
theorem dL_isBest_727 : decode cL_isBest 727 = .ok (.iconst 0, 1) := by decide +kernel
theorem dL_isBest_728 : decode cL_isBest 728 = .ok (.iload 8, 2) := by decide +kernel
theorem dL_isBest_730 : decode cL_isBest 730 = .ok (.iconst 0, 1) := by decide +kernel
theorem dL_isBest_731 : decode cL_isBest 731 = .ok (.invokevirtual 154, 3) := by decide +kernel
theorem dL_isBest_734 : decode cL_isBest 734 = .ok (.ldc 140, 2) := by decide +kernel
theorem dL_isBest_736 : decode cL_isBest 736 = .ok (.if_icmp .ne 7, 3) := by decide +kernel
theorem dL_isBest_739 : decode cL_isBest 739 = .ok (.iconst 1, 1) := by decide +kernel
theorem dL_isBest_740 : decode cL_isBest 740 = .ok (.goto 4, 3) := by decide +kernel
theorem dL_isBest_743 : decode cL_isBest 743 = .ok (.iconst 0, 1) := by decide +kernel
theorem dL_isBest_744 : decode cL_isBest 744 = .ok (.ireturn, 1) := by decide +kernel
theorem dL_law_0 : decode cL_law 0 = .ok (.new 32, 3) := by decide +kernel
theorem dL_law_3 : decode cL_law 3 = .ok (.dup, 1) := by decide +kernel
theorem dL_law_4 : decode cL_law 4 = .ok (.invokespecial 157, 3) := by decide +kernel
theorem dL_law_7 : decode cL_law 7 = .ok (.astore_n 1, 1) := by decide +kernel
theorem dL_law_8 : decode cL_law 8 = .ok (.aload_n 0, 1) := by decide +kernel
theorem dL_law_9 : decode cL_law 9 = .ok (.invokestatic 158, 3) := by decide +kernel
theorem dL_law_12 : decode cL_law 12 = .ok (.astore_n 2, 1) := by decide +kernel
theorem dL_law_13 : decode cL_law 13 = .ok (.aload_n 0, 1) := by decide +kernel
theorem dL_law_14 : decode cL_law 14 = .ok (.invokestatic 78, 3) := by decide +kernel
theorem dL_law_17 : decode cL_law 17 = .ok (.istore_n 3, 1) := by decide +kernel
theorem dL_law_18 : decode cL_law 18 = .ok (.aload_n 1, 1) := by decide +kernel
theorem dL_law_19 : decode cL_law 19 = .ok (.aload_n 2, 1) := by decide +kernel
theorem dL_law_20 : decode cL_law 20 = .ok (.invokestatic 162, 3) := by decide +kernel
theorem dL_law_23 : decode cL_law 23 = .ok (.aload_n 1, 1) := by decide +kernel
theorem dL_law_24 : decode cL_law 24 = .ok (.aload_n 2, 1) := by decide +kernel
theorem dL_law_25 : decode cL_law 25 = .ok (.invokevirtual 8, 3) := by decide +kernel
theorem dL_law_28 : decode cL_law 28 = .ok (.invokevirtual 166, 3) := by decide +kernel
theorem dL_law_31 : decode cL_law 31 = .ok (.iconst 5, 1) := by decide +kernel
theorem dL_law_32 : decode cL_law 32 = .ok (.iload_n 3, 1) := by decide +kernel
theorem dL_law_33 : decode cL_law 33 = .ok (.iadd, 1) := by decide +kernel
theorem dL_law_34 : decode cL_law 34 = .ok (.if_icmp .ne 30, 3) := by decide +kernel
theorem dL_law_37 : decode cL_law 37 = .ok (.aload_n 1, 1) := by decide +kernel
theorem dL_law_38 : decode cL_law 38 = .ok (.iconst 1, 1) := by decide +kernel
theorem dL_law_39 : decode cL_law 39 = .ok (.invokevirtual 168, 3) := by decide +kernel
theorem dL_law_42 : decode cL_law 42 = .ok (.iload_n 3, 1) := by decide +kernel
theorem dL_law_43 : decode cL_law 43 = .ok (.if_icmp .ne 21, 3) := by decide +kernel
theorem dL_law_46 : decode cL_law 46 = .ok (.aload_n 1, 1) := by decide +kernel
theorem dL_law_47 : decode cL_law 47 = .ok (.iconst 3, 1) := by decide +kernel
theorem dL_law_48 : decode cL_law 48 = .ok (.invokevirtual 168, 3) := by decide +kernel
theorem dL_law_51 : decode cL_law 51 = .ok (.iload_n 3, 1) := by decide +kernel
theorem dL_law_52 : decode cL_law 52 = .ok (.iconst 1, 1) := by decide +kernel
theorem dL_law_53 : decode cL_law 53 = .ok (.if_icmp .le 7, 3) := by decide +kernel
theorem dL_law_56 : decode cL_law 56 = .ok (.iconst 1, 1) := by decide +kernel
theorem dL_law_57 : decode cL_law 57 = .ok (.goto 4, 3) := by decide +kernel
theorem dL_law_60 : decode cL_law 60 = .ok (.iconst 0, 1) := by decide +kernel
theorem dL_law_61 : decode cL_law 61 = .ok (.if_icmp .eq 5, 3) := by decide +kernel
theorem dL_law_64 : decode cL_law 64 = .ok (.iconst 0, 1) := by decide +kernel
theorem dL_law_65 : decode cL_law 65 = .ok (.ireturn, 1) := by decide +kernel
theorem dL_law_66 : decode cL_law 66 = .ok (.iload_n 3, 1) := by decide +kernel
theorem dL_law_67 : decode cL_law 67 = .ok (.iconst 2, 1) := by decide +kernel
theorem dL_law_68 : decode cL_law 68 = .ok (.if_icmp .ge 29, 3) := by decide +kernel
theorem dL_law_71 : decode cL_law 71 = .ok (.aload_n 1, 1) := by decide +kernel
theorem dL_law_72 : decode cL_law 72 = .ok (.iconst 0, 1) := by decide +kernel
theorem dL_law_73 : decode cL_law 73 = .ok (.iconst 0, 1) := by decide +kernel
theorem dL_law_74 : decode cL_law 74 = .ok (.invokevirtual 137, 3) := by decide +kernel
theorem dL_law_77 : decode cL_law 77 = .ok (.ldc 140, 2) := by decide +kernel
theorem dL_law_79 : decode cL_law 79 = .ok (.if_icmp .ne 16, 3) := by decide +kernel
theorem dL_law_82 : decode cL_law 82 = .ok (.aload_n 1, 1) := by decide +kernel
theorem dL_law_83 : decode cL_law 83 = .ok (.iconst 0, 1) := by decide +kernel
theorem dL_law_84 : decode cL_law 84 = .ok (.invokevirtual 171, 3) := by decide +kernel
theorem dL_law_87 : decode cL_law 87 = .ok (.iload_n 3, 1) := by decide +kernel
theorem dL_law_88 : decode cL_law 88 = .ok (.if_icmp .ne 7, 3) := by decide +kernel
theorem dL_law_91 : decode cL_law 91 = .ok (.iconst 1, 1) := by decide +kernel
theorem dL_law_92 : decode cL_law 92 = .ok (.goto 4, 3) := by decide +kernel
theorem dL_law_95 : decode cL_law 95 = .ok (.iconst 0, 1) := by decide +kernel
theorem dL_law_96 : decode cL_law 96 = .ok (.ireturn, 1) := by decide +kernel
theorem dL_law_97 : decode cL_law 97 = .ok (.iload_n 3, 1) := by decide +kernel
theorem dL_law_98 : decode cL_law 98 = .ok (.newarray .int, 2) := by decide +kernel
theorem dL_law_100 : decode cL_law 100 = .ok (.astore 4, 2) := by decide +kernel
theorem dL_law_102 : decode cL_law 102 = .ok (.iconst 0, 1) := by decide +kernel
theorem dL_law_103 : decode cL_law 103 = .ok (.istore 5, 2) := by decide +kernel
theorem dL_law_105 : decode cL_law 105 = .ok (.iload 5, 2) := by decide +kernel
theorem dL_law_107 : decode cL_law 107 = .ok (.iload_n 3, 1) := by decide +kernel
theorem dL_law_108 : decode cL_law 108 = .ok (.if_icmp .ge 20, 3) := by decide +kernel
theorem dL_law_111 : decode cL_law 111 = .ok (.aload 4, 2) := by decide +kernel
theorem dL_law_113 : decode cL_law 113 = .ok (.iload 5, 2) := by decide +kernel
theorem dL_law_115 : decode cL_law 115 = .ok (.aload_n 0, 1) := by decide +kernel
theorem dL_law_116 : decode cL_law 116 = .ok (.iload 5, 2) := by decide +kernel
theorem dL_law_118 : decode cL_law 118 = .ok (.invokestatic 83, 3) := by decide +kernel
theorem dL_law_121 : decode cL_law 121 = .ok (.iastore, 1) := by decide +kernel
theorem dL_law_122 : decode cL_law 122 = .ok (.iinc 5 1, 3) := by decide +kernel
theorem dL_law_125 : decode cL_law 125 = .ok (.goto (-20), 3) := by decide +kernel
theorem dL_law_128 : decode cL_law 128 = .ok (.aload_n 1, 1) := by decide +kernel
theorem dL_law_129 : decode cL_law 129 = .ok (.aload_n 0, 1) := by decide +kernel
theorem dL_law_130 : decode cL_law 130 = .ok (.aload 4, 2) := by decide +kernel
theorem dL_law_132 : decode cL_law 132 = .ok (.invokestatic 174, 3) := by decide +kernel
theorem dL_law_135 : decode cL_law 135 = .ok (.ifCond .ne 5, 3) := by decide +kernel
theorem dL_law_138 : decode cL_law 138 = .ok (.iconst 0, 1) := by decide +kernel
theorem dL_law_139 : decode cL_law 139 = .ok (.ireturn, 1) := by decide +kernel
theorem dL_law_140 : decode cL_law 140 = .ok (.aload_n 0, 1) := by decide +kernel
theorem dL_law_141 : decode cL_law 141 = .ok (.bipush 30, 2) := by decide +kernel
theorem dL_law_143 : decode cL_law 143 = .ok (.invokestatic 37, 3) := by decide +kernel
theorem dL_law_146 : decode cL_law 146 = .ok (.iload_n 3, 1) := by decide +kernel
theorem dL_law_147 : decode cL_law 147 = .ok (.invokestatic 43, 3) := by decide +kernel
theorem dL_law_150 : decode cL_law 150 = .ok (.istore 5, 2) := by decide +kernel
theorem dL_law_152 : decode cL_law 152 = .ok (.aload 4, 2) := by decide +kernel
theorem dL_law_154 : decode cL_law 154 = .ok (.iload 5, 2) := by decide +kernel
theorem dL_law_156 : decode cL_law 156 = .ok (.iaload, 1) := by decide +kernel
theorem dL_law_157 : decode cL_law 157 = .ok (.istore 6, 2) := by decide +kernel
theorem dL_law_159 : decode cL_law 159 = .ok (.aload 4, 2) := by decide +kernel
theorem dL_law_161 : decode cL_law 161 = .ok (.iload 5, 2) := by decide +kernel
theorem dL_law_163 : decode cL_law 163 = .ok (.aload_n 0, 1) := by decide +kernel
theorem dL_law_164 : decode cL_law 164 = .ok (.bipush 31, 2) := by decide +kernel
theorem dL_law_166 : decode cL_law 166 = .ok (.invokestatic 37, 3) := by decide +kernel
theorem dL_law_169 : decode cL_law 169 = .ok (.bipush 25, 2) := by decide +kernel
theorem dL_law_171 : decode cL_law 171 = .ok (.invokestatic 43, 3) := by decide +kernel
theorem dL_law_174 : decode cL_law 174 = .ok (.bipush 12, 2) := by decide +kernel
theorem dL_law_176 : decode cL_law 176 = .ok (.isub, 1) := by decide +kernel
theorem dL_law_177 : decode cL_law 177 = .ok (.iastore, 1) := by decide +kernel
theorem dL_law_178 : decode cL_law 178 = .ok (.aload_n 1, 1) := by decide +kernel
theorem dL_law_179 : decode cL_law 179 = .ok (.iload 5, 2) := by decide +kernel
theorem dL_law_181 : decode cL_law 181 = .ok (.aload 4, 2) := by decide +kernel
theorem dL_law_183 : decode cL_law 183 = .ok (.iload 5, 2) := by decide +kernel
theorem dL_law_185 : decode cL_law 185 = .ok (.iaload, 1) := by decide +kernel
theorem dL_law_186 : decode cL_law 186 = .ok (.iconst 2, 1) := by decide +kernel
theorem dL_law_187 : decode cL_law 187 = .ok (.invokevirtual 178, 3) := by decide +kernel
theorem dL_law_190 : decode cL_law 190 = .ok (.istore 7, 2) := by decide +kernel
theorem dL_law_192 : decode cL_law 192 = .ok (.aload_n 1, 1) := by decide +kernel
theorem dL_law_193 : decode cL_law 193 = .ok (.iload 5, 2) := by decide +kernel
theorem dL_law_195 : decode cL_law 195 = .ok (.aload 4, 2) := by decide +kernel
theorem dL_law_197 : decode cL_law 197 = .ok (.iload 5, 2) := by decide +kernel
theorem dL_law_199 : decode cL_law 199 = .ok (.iaload, 1) := by decide +kernel
theorem dL_law_200 : decode cL_law 200 = .ok (.invokevirtual 181, 3) := by decide +kernel
theorem dL_law_203 : decode cL_law 203 = .ok (.iload 6, 2) := by decide +kernel
theorem dL_law_205 : decode cL_law 205 = .ok (.if_icmp .ne 24, 3) := by decide +kernel
theorem dL_law_208 : decode cL_law 208 = .ok (.aload_n 1, 1) := by decide +kernel
theorem dL_law_209 : decode cL_law 209 = .ok (.aload_n 0, 1) := by decide +kernel
theorem dL_law_210 : decode cL_law 210 = .ok (.aload 4, 2) := by decide +kernel
theorem dL_law_212 : decode cL_law 212 = .ok (.invokestatic 174, 3) := by decide +kernel
theorem dL_law_215 : decode cL_law 215 = .ok (.ifCond .eq 14, 3) := by decide +kernel
theorem dL_law_218 : decode cL_law 218 = .ok (.aload_n 1, 1) := by decide +kernel
theorem dL_law_219 : decode cL_law 219 = .ok (.iconst 0, 1) := by decide +kernel
theorem dL_law_220 : decode cL_law 220 = .ok (.iconst 2, 1) := by decide +kernel
theorem dL_law_221 : decode cL_law 221 = .ok (.invokevirtual 137, 3) := by decide +kernel
theorem dL_law_224 : decode cL_law 224 = .ok (.iload 7, 2) := by decide +kernel
theorem dL_law_226 : decode cL_law 226 = .ok (.if_icmp .eq 5, 3) := by decide +kernel
theorem dL_law_229 : decode cL_law 229 = .ok (.iconst 0, 1) := by decide +kernel
theorem dL_law_230 : decode cL_law 230 = .ok (.ireturn, 1) := by decide +kernel
theorem dL_law_231 : decode cL_law 231 = .ok (.aload 4, 2) := by decide +kernel
theorem dL_law_233 : decode cL_law 233 = .ok (.iload 5, 2) := by decide +kernel
theorem dL_law_235 : decode cL_law 235 = .ok (.iload 6, 2) := by decide +kernel
theorem dL_law_237 : decode cL_law 237 = .ok (.iastore, 1) := by decide +kernel
theorem dL_law_238 : decode cL_law 238 = .ok (.aload_n 1, 1) := by decide +kernel
theorem dL_law_239 : decode cL_law 239 = .ok (.invokevirtual 183, 3) := by decide +kernel
theorem dL_law_242 : decode cL_law 242 = .ok (.ifCond .ne 48, 3) := by decide +kernel
theorem dL_law_245 : decode cL_law 245 = .ok (.aload_n 1, 1) := by decide +kernel
theorem dL_law_246 : decode cL_law 246 = .ok (.invokevirtual 183, 3) := by decide +kernel
theorem dL_law_249 : decode cL_law 249 = .ok (.iconst (-1), 1) := by decide +kernel
theorem dL_law_250 : decode cL_law 250 = .ok (.if_icmp .ne 40, 3) := by decide +kernel
theorem dL_law_253 : decode cL_law 253 = .ok (.aload_n 1, 1) := by decide +kernel
theorem dL_law_254 : decode cL_law 254 = .ok (.iload 5, 2) := by decide +kernel
theorem dL_law_256 : decode cL_law 256 = .ok (.invokevirtual 132, 3) := by decide +kernel
theorem dL_law_259 : decode cL_law 259 = .ok (.iload 6, 2) := by decide +kernel
theorem dL_law_261 : decode cL_law 261 = .ok (.if_icmp .ne 29, 3) := by decide +kernel
theorem dL_law_264 : decode cL_law 264 = .ok (.aload_n 1, 1) := by decide +kernel
theorem dL_law_265 : decode cL_law 265 = .ok (.iconst 1, 1) := by decide +kernel
theorem dL_law_266 : decode cL_law 266 = .ok (.iconst 0, 1) := by decide +kernel
theorem dL_law_267 : decode cL_law 267 = .ok (.invokevirtual 137, 3) := by decide +kernel
theorem dL_law_270 : decode cL_law 270 = .ok (.ldc 140, 2) := by decide +kernel
theorem dL_law_272 : decode cL_law 272 = .ok (.if_icmp .ne 18, 3) := by decide +kernel
theorem dL_law_275 : decode cL_law 275 = .ok (.aload_n 1, 1) := by decide +kernel
theorem dL_law_276 : decode cL_law 276 = .ok (.iload_n 3, 1) := by decide +kernel
theorem dL_law_277 : decode cL_law 277 = .ok (.iconst 0, 1) := by decide +kernel
theorem dL_law_278 : decode cL_law 278 = .ok (.invokevirtual 181, 3) := by decide +kernel
theorem dL_law_281 : decode cL_law 281 = .ok (.ldc 140, 2) := by decide +kernel
theorem dL_law_283 : decode cL_law 283 = .ok (.if_icmp .ne 7, 3) := by decide +kernel
theorem dL_law_286 : decode cL_law 286 = .ok (.iconst 1, 1) := by decide +kernel
theorem dL_law_287 : decode cL_law 287 = .ok (.goto 4, 3) := by decide +kernel
theorem dL_law_290 : decode cL_law 290 = .ok (.iconst 0, 1) := by decide +kernel
theorem dL_law_291 : decode cL_law 291 = .ok (.ireturn, 1) := by decide +kernel
