theorem dL_many_5 : decode cL_many 5 = .ok (.bipush 8, 2) := by decide +kernel
theorem dL_many_7 : decode cL_many 7 = .ok (.if_icmp .ge 52, 3) := by decide +kernel
theorem dL_many_10 : decode cL_many 10 = .ok (.iload_n 2, 1) := by decide +kernel
theorem dL_many_11 : decode cL_many 11 = .ok (.iconst 2, 1) := by decide +kernel
theorem dL_many_12 : decode cL_many 12 = .ok (.aload_n 0, 1) := by decide +kernel
theorem dL_many_13 : decode cL_many 13 = .ok (.bipush 20, 2) := by decide +kernel
theorem dL_many_15 : decode cL_many 15 = .ok (.invokestatic 37, 3) := by decide +kernel
theorem dL_many_18 : decode cL_many 18 = .ok (.bipush 7, 2) := by decide +kernel
theorem dL_many_20 : decode cL_many 20 = .ok (.invokestatic 43, 3) := by decide +kernel
theorem dL_many_23 : decode cL_many 23 = .ok (.iadd, 1) := by decide +kernel
theorem dL_many_24 : decode cL_many 24 = .ok (.if_icmp .ge 35, 3) := by decide +kernel
theorem dL_many_27 : decode cL_many 27 = .ok (.iload_n 1, 1) := by decide +kernel
theorem dL_many_28 : decode cL_many 28 = .ok (.bipush 8, 2) := by decide +kernel
theorem dL_many_30 : decode cL_many 30 = .ok (.aload_n 0, 1) := by decide +kernel
theorem dL_many_31 : decode cL_many 31 = .ok (.iload_n 2, 1) := by decide +kernel
theorem dL_many_32 : decode cL_many 32 = .ok (.invokestatic 47, 3) := by decide +kernel
theorem dL_many_35 : decode cL_many 35 = .ok (.ishr, 1) := by decide +kernel
theorem dL_many_36 : decode cL_many 36 = .ok (.iadd, 1) := by decide +kernel
theorem dL_many_37 : decode cL_many 37 = .ok (.bipush 16, 2) := by decide +kernel
theorem dL_many_39 : decode cL_many 39 = .ok (.if_icmp .gt 20, 3) := by decide +kernel
theorem dL_many_42 : decode cL_many 42 = .ok (.iload_n 1, 1) := by decide +kernel
theorem dL_many_43 : decode cL_many 43 = .ok (.bipush 8, 2) := by decide +kernel
theorem dL_many_45 : decode cL_many 45 = .ok (.aload_n 0, 1) := by decide +kernel
theorem dL_many_46 : decode cL_many 46 = .ok (.iload_n 2, 1) := by decide +kernel
theorem dL_many_47 : decode cL_many 47 = .ok (.invokestatic 47, 3) := by decide +kernel
theorem dL_many_50 : decode cL_many 50 = .ok (.ishr, 1) := by decide +kernel
theorem dL_many_51 : decode cL_many 51 = .ok (.iadd, 1) := by decide +kernel
theorem dL_many_52 : decode cL_many 52 = .ok (.istore_n 1, 1) := by decide +kernel
theorem dL_many_53 : decode cL_many 53 = .ok (.iinc 2 1, 3) := by decide +kernel
theorem dL_many_56 : decode cL_many 56 = .ok (.goto (-52), 3) := by decide +kernel
theorem dL_many_59 : decode cL_many 59 = .ok (.iload_n 2, 1) := by decide +kernel
theorem dL_many_60 : decode cL_many 60 = .ok (.ireturn, 1) := by decide +kernel
theorem dL_place_0 : decode cL_place 0 = .ok (.bipush 12, 2) := by decide +kernel
theorem dL_place_2 : decode cL_place 2 = .ok (.aload_n 0, 1) := by decide +kernel
theorem dL_place_3 : decode cL_place 3 = .ok (.iload_n 1, 1) := by decide +kernel
theorem dL_place_4 : decode cL_place 4 = .ok (.invokestatic 50, 3) := by decide +kernel
theorem dL_place_7 : decode cL_place 7 = .ok (.invokestatic 53, 3) := by decide +kernel
theorem dL_place_10 : decode cL_place 10 = .ok (.ireturn, 1) := by decide +kernel
theorem dL_knee_0 : decode cL_knee 0 = .ok (.iconst 4, 1) := by decide +kernel
theorem dL_knee_1 : decode cL_knee 1 = .ok (.aload_n 0, 1) := by decide +kernel
theorem dL_knee_2 : decode cL_knee 2 = .ok (.bipush 21, 2) := by decide +kernel
theorem dL_knee_4 : decode cL_knee 4 = .ok (.invokestatic 37, 3) := by decide +kernel
theorem dL_knee_7 : decode cL_knee 7 = .ok (.bipush 21, 2) := by decide +kernel
theorem dL_knee_9 : decode cL_knee 9 = .ok (.invokestatic 43, 3) := by decide +kernel
theorem dL_knee_12 : decode cL_knee 12 = .ok (.iadd, 1) := by decide +kernel
theorem dL_knee_13 : decode cL_knee 13 = .ok (.ireturn, 1) := by decide +kernel
theorem dL_wide_0 : decode cL_wide 0 = .ok (.iconst 4, 1) := by decide +kernel
theorem dL_wide_1 : decode cL_wide 1 = .ok (.aload_n 0, 1) := by decide +kernel
theorem dL_wide_2 : decode cL_wide 2 = .ok (.bipush 22, 2) := by decide +kernel
theorem dL_wide_4 : decode cL_wide 4 = .ok (.invokestatic 37, 3) := by decide +kernel
theorem dL_wide_7 : decode cL_wide 7 = .ok (.iconst 5, 1) := by decide +kernel
theorem dL_wide_8 : decode cL_wide 8 = .ok (.iload_n 1, 1) := by decide +kernel
theorem dL_wide_9 : decode cL_wide 9 = .ok (.imul, 1) := by decide +kernel
theorem dL_wide_10 : decode cL_wide 10 = .ok (.ishr, 1) := by decide +kernel
theorem dL_wide_11 : decode cL_wide 11 = .ok (.bipush 31, 2) := by decide +kernel
theorem dL_wide_13 : decode cL_wide 13 = .ok (.invokestatic 43, 3) := by decide +kernel
theorem dL_wide_16 : decode cL_wide 16 = .ok (.iadd, 1) := by decide +kernel
theorem dL_wide_17 : decode cL_wide 17 = .ok (.ireturn, 1) := by decide +kernel
theorem dL_text_0 : decode cL_text 0 = .ok (.new 14, 3) := by decide +kernel
theorem dL_text_3 : decode cL_text 3 = .ok (.dup, 1) := by decide +kernel
theorem dL_text_4 : decode cL_text 4 = .ok (.invokespecial 16, 3) := by decide +kernel
theorem dL_text_7 : decode cL_text 7 = .ok (.ldc 58, 2) := by decide +kernel
theorem dL_text_9 : decode cL_text 9 = .ok (.invokevirtual 17, 3) := by decide +kernel
theorem dL_text_12 : decode cL_text 12 = .ok (.aload_n 0, 1) := by decide +kernel
theorem dL_text_13 : decode cL_text 13 = .ok (.invokestatic 60, 3) := by decide +kernel
theorem dL_text_16 : decode cL_text 16 = .ok (.invokevirtual 64, 3) := by decide +kernel
theorem dL_text_19 : decode cL_text 19 = .ok (.ldc 67, 2) := by decide +kernel
theorem dL_text_21 : decode cL_text 21 = .ok (.invokevirtual 17, 3) := by decide +kernel
theorem dL_text_24 : decode cL_text 24 = .ok (.aload_n 0, 1) := by decide +kernel
theorem dL_text_25 : decode cL_text 25 = .ok (.iconst 1, 1) := by decide +kernel
theorem dL_text_26 : decode cL_text 26 = .ok (.invokestatic 69, 3) := by decide +kernel
theorem dL_text_29 : decode cL_text 29 = .ok (.invokevirtual 64, 3) := by decide +kernel
theorem dL_text_32 : decode cL_text 32 = .ok (.ldc 72, 2) := by decide +kernel
theorem dL_text_34 : decode cL_text 34 = .ok (.invokevirtual 17, 3) := by decide +kernel
theorem dL_text_37 : decode cL_text 37 = .ok (.aload_n 0, 1) := by decide +kernel
theorem dL_text_38 : decode cL_text 38 = .ok (.iconst 2, 1) := by decide +kernel
theorem dL_text_39 : decode cL_text 39 = .ok (.invokestatic 69, 3) := by decide +kernel
theorem dL_text_42 : decode cL_text 42 = .ok (.invokevirtual 64, 3) := by decide +kernel
theorem dL_text_45 : decode cL_text 45 = .ok (.ldc 74, 2) := by decide +kernel
theorem dL_text_47 : decode cL_text 47 = .ok (.invokevirtual 17, 3) := by decide +kernel
theorem dL_text_50 : decode cL_text 50 = .ok (.aload_n 0, 1) := by decide +kernel
theorem dL_text_51 : decode cL_text 51 = .ok (.iconst 3, 1) := by decide +kernel
theorem dL_text_52 : decode cL_text 52 = .ok (.invokestatic 69, 3) := by decide +kernel
theorem dL_text_55 : decode cL_text 55 = .ok (.invokevirtual 64, 3) := by decide +kernel
theorem dL_text_58 : decode cL_text 58 = .ok (.ldc 76, 2) := by decide +kernel
theorem dL_text_60 : decode cL_text 60 = .ok (.invokevirtual 17, 3) := by decide +kernel
theorem dL_text_63 : decode cL_text 63 = .ok (.invokevirtual 23, 3) := by decide +kernel
theorem dL_text_66 : decode cL_text 66 = .ok (.astore_n 1, 1) := by decide +kernel
theorem dL_text_67 : decode cL_text 67 = .ok (.iconst 0, 1) := by decide +kernel
theorem dL_text_68 : decode cL_text 68 = .ok (.istore_n 2, 1) := by decide +kernel
theorem dL_text_69 : decode cL_text 69 = .ok (.iload_n 2, 1) := by decide +kernel
theorem dL_text_70 : decode cL_text 70 = .ok (.aload_n 0, 1) := by decide +kernel
theorem dL_text_71 : decode cL_text 71 = .ok (.invokestatic 78, 3) := by decide +kernel
theorem dL_text_74 : decode cL_text 74 = .ok (.if_icmp .ge 78, 3) := by decide +kernel
theorem dL_text_77 : decode cL_text 77 = .ok (.new 14, 3) := by decide +kernel
theorem dL_text_80 : decode cL_text 80 = .ok (.dup, 1) := by decide +kernel
theorem dL_text_81 : decode cL_text 81 = .ok (.invokespecial 16, 3) := by decide +kernel
theorem dL_text_84 : decode cL_text 84 = .ok (.aload_n 1, 1) := by decide +kernel
theorem dL_text_85 : decode cL_text 85 = .ok (.invokevirtual 17, 3) := by decide +kernel
theorem dL_text_88 : decode cL_text 88 = .ok (.ldc 81, 2) := by decide +kernel
theorem dL_text_90 : decode cL_text 90 = .ok (.invokevirtual 17, 3) := by decide +kernel
theorem dL_text_93 : decode cL_text 93 = .ok (.iconst 4, 1) := by decide +kernel
theorem dL_text_94 : decode cL_text 94 = .ok (.aload_n 0, 1) := by decide +kernel
theorem dL_text_95 : decode cL_text 95 = .ok (.iload_n 2, 1) := by decide +kernel
theorem dL_text_96 : decode cL_text 96 = .ok (.invokestatic 47, 3) := by decide +kernel
theorem dL_text_99 : decode cL_text 99 = .ok (.ishl, 1) := by decide +kernel
theorem dL_text_100 : decode cL_text 100 = .ok (.invokevirtual 64, 3) := by decide +kernel
theorem dL_text_103 : decode cL_text 103 = .ok (.ldc 21, 2) := by decide +kernel
theorem dL_text_105 : decode cL_text 105 = .ok (.invokevirtual 17, 3) := by decide +kernel
theorem dL_text_108 : decode cL_text 108 = .ok (.aload_n 0, 1) := by decide +kernel
theorem dL_text_109 : decode cL_text 109 = .ok (.iload_n 2, 1) := by decide +kernel
theorem dL_text_110 : decode cL_text 110 = .ok (.invokestatic 83, 3) := by decide +kernel
theorem dL_text_113 : decode cL_text 113 = .ok (.ifCond .ge 8, 3) := by decide +kernel
theorem dL_text_116 : decode cL_text 116 = .ok (.ldc 86, 2) := by decide +kernel
theorem dL_text_118 : decode cL_text 118 = .ok (.goto 5, 3) := by decide +kernel
theorem dL_text_121 : decode cL_text 121 = .ok (.ldc 88, 2) := by decide +kernel
theorem dL_text_123 : decode cL_text 123 = .ok (.invokevirtual 17, 3) := by decide +kernel
theorem dL_text_126 : decode cL_text 126 = .ok (.aload_n 0, 1) := by decide +kernel
theorem dL_text_127 : decode cL_text 127 = .ok (.iload_n 2, 1) := by decide +kernel
theorem dL_text_128 : decode cL_text 128 = .ok (.invokestatic 83, 3) := by decide +kernel
theorem dL_text_131 : decode cL_text 131 = .ok (.invokestatic 90, 3) := by decide +kernel
theorem dL_text_134 : decode cL_text 134 = .ok (.invokevirtual 64, 3) := by decide +kernel
theorem dL_text_137 : decode cL_text 137 = .ok (.ldc 76, 2) := by decide +kernel
theorem dL_text_139 : decode cL_text 139 = .ok (.invokevirtual 17, 3) := by decide +kernel
theorem dL_text_142 : decode cL_text 142 = .ok (.invokevirtual 23, 3) := by decide +kernel
theorem dL_text_145 : decode cL_text 145 = .ok (.astore_n 1, 1) := by decide +kernel
theorem dL_text_146 : decode cL_text 146 = .ok (.iinc 2 1, 3) := by decide +kernel
theorem dL_text_149 : decode cL_text 149 = .ok (.goto (-80), 3) := by decide +kernel
theorem dL_text_152 : decode cL_text 152 = .ok (.aload_n 1, 1) := by decide +kernel
theorem dL_text_153 : decode cL_text 153 = .ok (.areturn, 1) := by decide +kernel
