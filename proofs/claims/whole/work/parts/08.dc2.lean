theorem dX8_shift_71 : decode cX8_shift 71 = .ok (.aload_n 0, 1) := by decide +kernel
theorem dX8_shift_72 : decode cX8_shift 72 = .ok (.getfield 255, 3) := by decide +kernel
theorem dX8_shift_75 : decode cX8_shift 75 = .ok (.iload_n 3, 1) := by decide +kernel
theorem dX8_shift_76 : decode cX8_shift 76 = .ok (.if_icmp .ge 7, 3) := by decide +kernel
theorem dX8_shift_79 : decode cX8_shift 79 = .ok (.iconst 1, 1) := by decide +kernel
theorem dX8_shift_80 : decode cX8_shift 80 = .ok (.goto 4, 3) := by decide +kernel
theorem dX8_shift_83 : decode cX8_shift 83 = .ok (.iconst 0, 1) := by decide +kernel
theorem dX8_shift_84 : decode cX8_shift 84 = .ok (.istore 5, 2) := by decide +kernel
theorem dX8_shift_86 : decode cX8_shift 86 = .ok (.iload_n 1, 1) := by decide +kernel
theorem dX8_shift_87 : decode cX8_shift 87 = .ok (.ldc 251, 2) := by decide +kernel
theorem dX8_shift_89 : decode cX8_shift 89 = .ok (.if_icmp .eq 35, 3) := by decide +kernel
theorem dX8_shift_92 : decode cX8_shift 92 = .ok (.aload_n 0, 1) := by decide +kernel
theorem dX8_shift_93 : decode cX8_shift 93 = .ok (.getfield 258, 3) := by decide +kernel
theorem dX8_shift_96 : decode cX8_shift 96 = .ok (.iload_n 2, 1) := by decide +kernel
theorem dX8_shift_97 : decode cX8_shift 97 = .ok (.if_icmp .ne 27, 3) := by decide +kernel
theorem dX8_shift_100 : decode cX8_shift 100 = .ok (.aload_n 0, 1) := by decide +kernel
theorem dX8_shift_101 : decode cX8_shift 101 = .ok (.getfield 255, 3) := by decide +kernel
theorem dX8_shift_104 : decode cX8_shift 104 = .ok (.iload_n 3, 1) := by decide +kernel
theorem dX8_shift_105 : decode cX8_shift 105 = .ok (.if_icmp .ne 19, 3) := by decide +kernel
theorem dX8_shift_108 : decode cX8_shift 108 = .ok (.iload 4, 2) := by decide +kernel
theorem dX8_shift_110 : decode cX8_shift 110 = .ok (.invokestatic 156, 3) := by decide +kernel
theorem dX8_shift_113 : decode cX8_shift 113 = .ok (.iload_n 1, 1) := by decide +kernel
theorem dX8_shift_114 : decode cX8_shift 114 = .ok (.invokestatic 156, 3) := by decide +kernel
theorem dX8_shift_117 : decode cX8_shift 117 = .ok (.if_icmp .ge 7, 3) := by decide +kernel
theorem dX8_shift_120 : decode cX8_shift 120 = .ok (.iconst 1, 1) := by decide +kernel
theorem dX8_shift_121 : decode cX8_shift 121 = .ok (.goto 4, 3) := by decide +kernel
theorem dX8_shift_124 : decode cX8_shift 124 = .ok (.iconst 0, 1) := by decide +kernel
theorem dX8_shift_125 : decode cX8_shift 125 = .ok (.istore 6, 2) := by decide +kernel
theorem dX8_shift_127 : decode cX8_shift 127 = .ok (.iload 5, 2) := by decide +kernel
theorem dX8_shift_129 : decode cX8_shift 129 = .ok (.ifCond .ne 11, 3) := by decide +kernel
theorem dX8_shift_132 : decode cX8_shift 132 = .ok (.iload 6, 2) := by decide +kernel
theorem dX8_shift_134 : decode cX8_shift 134 = .ok (.ifCond .ne 6, 3) := by decide +kernel
theorem dX8_shift_137 : decode cX8_shift 137 = .ok (.goto 16, 3) := by decide +kernel
theorem dX8_shift_140 : decode cX8_shift 140 = .ok (.iload 4, 2) := by decide +kernel
theorem dX8_shift_142 : decode cX8_shift 142 = .ok (.istore_n 1, 1) := by decide +kernel
theorem dX8_shift_143 : decode cX8_shift 143 = .ok (.aload_n 0, 1) := by decide +kernel
theorem dX8_shift_144 : decode cX8_shift 144 = .ok (.getfield 258, 3) := by decide +kernel
theorem dX8_shift_147 : decode cX8_shift 147 = .ok (.istore_n 2, 1) := by decide +kernel
theorem dX8_shift_148 : decode cX8_shift 148 = .ok (.aload_n 0, 1) := by decide +kernel
theorem dX8_shift_149 : decode cX8_shift 149 = .ok (.getfield 255, 3) := by decide +kernel
theorem dX8_shift_152 : decode cX8_shift 152 = .ok (.istore_n 3, 1) := by decide +kernel
theorem dX8_shift_153 : decode cX8_shift 153 = .ok (.iinc 4 1, 3) := by decide +kernel
theorem dX8_shift_156 : decode cX8_shift 156 = .ok (.goto (-130), 3) := by decide +kernel
theorem dX8_shift_159 : decode cX8_shift 159 = .ok (.aload_n 0, 1) := by decide +kernel
theorem dX8_shift_160 : decode cX8_shift 160 = .ok (.invokevirtual 380, 3) := by decide +kernel
theorem dX8_shift_163 : decode cX8_shift 163 = .ok (.iload_n 1, 1) := by decide +kernel
theorem dX8_shift_164 : decode cX8_shift 164 = .ok (.ireturn, 1) := by decide +kernel
theorem dX8_mirrored_0 : decode cX8_mirrored 0 = .ok (.aload_n 0, 1) := by decide +kernel
theorem dX8_mirrored_1 : decode cX8_mirrored 1 = .ok (.iconst 0, 1) := by decide +kernel
theorem dX8_mirrored_2 : decode cX8_mirrored 2 = .ok (.putfield 112, 3) := by decide +kernel
theorem dX8_mirrored_5 : decode cX8_mirrored 5 = .ok (.aload_n 0, 1) := by decide +kernel
theorem dX8_mirrored_6 : decode cX8_mirrored 6 = .ok (.iload_n 1, 1) := by decide +kernel
theorem dX8_mirrored_7 : decode cX8_mirrored 7 = .ok (.invokevirtual 392, 3) := by decide +kernel
theorem dX8_mirrored_10 : decode cX8_mirrored 10 = .ok (.ifCond .ne 5, 3) := by decide +kernel
theorem dX8_mirrored_13 : decode cX8_mirrored 13 = .ok (.iconst (-1), 1) := by decide +kernel
theorem dX8_mirrored_14 : decode cX8_mirrored 14 = .ok (.ireturn, 1) := by decide +kernel
theorem dX8_mirrored_15 : decode cX8_mirrored 15 = .ok (.aload_n 0, 1) := by decide +kernel
theorem dX8_mirrored_16 : decode cX8_mirrored 16 = .ok (.iload_n 1, 1) := by decide +kernel
theorem dX8_mirrored_17 : decode cX8_mirrored 17 = .ok (.invokevirtual 245, 3) := by decide +kernel
theorem dX8_mirrored_20 : decode cX8_mirrored 20 = .ok (.aload_n 0, 1) := by decide +kernel
theorem dX8_mirrored_21 : decode cX8_mirrored 21 = .ok (.invokevirtual 248, 3) := by decide +kernel
theorem dX8_mirrored_24 : decode cX8_mirrored 24 = .ok (.istore_n 2, 1) := by decide +kernel
theorem dX8_mirrored_25 : decode cX8_mirrored 25 = .ok (.iload_n 2, 1) := by decide +kernel
theorem dX8_mirrored_26 : decode cX8_mirrored 26 = .ok (.iconst (-1), 1) := by decide +kernel
theorem dX8_mirrored_27 : decode cX8_mirrored 27 = .ok (.if_icmp .ne 6, 3) := by decide +kernel
theorem dX8_mirrored_30 : decode cX8_mirrored 30 = .ok (.bipush (-2), 2) := by decide +kernel
theorem dX8_mirrored_32 : decode cX8_mirrored 32 = .ok (.ireturn, 1) := by decide +kernel
theorem dX8_mirrored_33 : decode cX8_mirrored 33 = .ok (.aload_n 0, 1) := by decide +kernel
theorem dX8_mirrored_34 : decode cX8_mirrored 34 = .ok (.getfield 60, 3) := by decide +kernel
theorem dX8_mirrored_37 : decode cX8_mirrored 37 = .ok (.iload_n 2, 1) := by decide +kernel
theorem dX8_mirrored_38 : decode cX8_mirrored 38 = .ok (.iaload, 1) := by decide +kernel
theorem dX8_mirrored_39 : decode cX8_mirrored 39 = .ok (.istore_n 3, 1) := by decide +kernel
theorem dX8_mirrored_40 : decode cX8_mirrored 40 = .ok (.aload_n 0, 1) := by decide +kernel
theorem dX8_mirrored_41 : decode cX8_mirrored 41 = .ok (.getfield 63, 3) := by decide +kernel
theorem dX8_mirrored_44 : decode cX8_mirrored 44 = .ok (.iload_n 2, 1) := by decide +kernel
theorem dX8_mirrored_45 : decode cX8_mirrored 45 = .ok (.iaload, 1) := by decide +kernel
theorem dX8_mirrored_46 : decode cX8_mirrored 46 = .ok (.istore 4, 2) := by decide +kernel
theorem dX8_mirrored_48 : decode cX8_mirrored 48 = .ok (.iconst 0, 1) := by decide +kernel
theorem dX8_mirrored_49 : decode cX8_mirrored 49 = .ok (.istore 5, 2) := by decide +kernel
theorem dX8_mirrored_51 : decode cX8_mirrored 51 = .ok (.iload 5, 2) := by decide +kernel
theorem dX8_mirrored_53 : decode cX8_mirrored 53 = .ok (.aload_n 0, 1) := by decide +kernel
theorem dX8_mirrored_54 : decode cX8_mirrored 54 = .ok (.getfield 48, 3) := by decide +kernel
theorem dX8_mirrored_57 : decode cX8_mirrored 57 = .ok (.iload_n 1, 1) := by decide +kernel
theorem dX8_mirrored_58 : decode cX8_mirrored 58 = .ok (.iaload, 1) := by decide +kernel
theorem dX8_mirrored_59 : decode cX8_mirrored 59 = .ok (.if_icmp .ge 38, 3) := by decide +kernel
theorem dX8_mirrored_62 : decode cX8_mirrored 62 = .ok (.aload_n 0, 1) := by decide +kernel
theorem dX8_mirrored_63 : decode cX8_mirrored 63 = .ok (.getfield 51, 3) := by decide +kernel
theorem dX8_mirrored_66 : decode cX8_mirrored 66 = .ok (.aload_n 0, 1) := by decide +kernel
theorem dX8_mirrored_67 : decode cX8_mirrored 67 = .ok (.getfield 45, 3) := by decide +kernel
theorem dX8_mirrored_70 : decode cX8_mirrored 70 = .ok (.iload_n 1, 1) := by decide +kernel
theorem dX8_mirrored_71 : decode cX8_mirrored 71 = .ok (.iaload, 1) := by decide +kernel
theorem dX8_mirrored_72 : decode cX8_mirrored 72 = .ok (.iload 5, 2) := by decide +kernel
theorem dX8_mirrored_74 : decode cX8_mirrored 74 = .ok (.iadd, 1) := by decide +kernel
theorem dX8_mirrored_75 : decode cX8_mirrored 75 = .ok (.aload_n 0, 1) := by decide +kernel
theorem dX8_mirrored_76 : decode cX8_mirrored 76 = .ok (.getfield 33, 3) := by decide +kernel
theorem dX8_mirrored_79 : decode cX8_mirrored 79 = .ok (.aload_n 0, 1) := by decide +kernel
theorem dX8_mirrored_80 : decode cX8_mirrored 80 = .ok (.getfield 45, 3) := by decide +kernel
theorem dX8_mirrored_83 : decode cX8_mirrored 83 = .ok (.iload_n 1, 1) := by decide +kernel
theorem dX8_mirrored_84 : decode cX8_mirrored 84 = .ok (.iaload, 1) := by decide +kernel
theorem dX8_mirrored_85 : decode cX8_mirrored 85 = .ok (.iload 5, 2) := by decide +kernel
theorem dX8_mirrored_87 : decode cX8_mirrored 87 = .ok (.iadd, 1) := by decide +kernel
theorem dX8_mirrored_88 : decode cX8_mirrored 88 = .ok (.iaload, 1) := by decide +kernel
theorem dX8_mirrored_89 : decode cX8_mirrored 89 = .ok (.ineg, 1) := by decide +kernel
theorem dX8_mirrored_90 : decode cX8_mirrored 90 = .ok (.iastore, 1) := by decide +kernel
theorem dX8_mirrored_91 : decode cX8_mirrored 91 = .ok (.iinc 5 1, 3) := by decide +kernel
theorem dX8_mirrored_94 : decode cX8_mirrored 94 = .ok (.goto (-43), 3) := by decide +kernel
theorem dX8_mirrored_97 : decode cX8_mirrored 97 = .ok (.aload_n 0, 1) := by decide +kernel
theorem dX8_mirrored_98 : decode cX8_mirrored 98 = .ok (.iload_n 1, 1) := by decide +kernel
theorem dX8_mirrored_99 : decode cX8_mirrored 99 = .ok (.invokevirtual 245, 3) := by decide +kernel
theorem dX8_mirrored_102 : decode cX8_mirrored 102 = .ok (.aload_n 0, 1) := by decide +kernel
theorem dX8_mirrored_103 : decode cX8_mirrored 103 = .ok (.invokevirtual 248, 3) := by decide +kernel
theorem dX8_mirrored_106 : decode cX8_mirrored 106 = .ok (.istore 5, 2) := by decide +kernel
theorem dX8_mirrored_108 : decode cX8_mirrored 108 = .ok (.aload_n 0, 1) := by decide +kernel
theorem dX8_mirrored_109 : decode cX8_mirrored 109 = .ok (.invokevirtual 380, 3) := by decide +kernel
theorem dX8_mirrored_112 : decode cX8_mirrored 112 = .ok (.iload 5, 2) := by decide +kernel
theorem dX8_mirrored_114 : decode cX8_mirrored 114 = .ok (.iconst (-1), 1) := by decide +kernel
theorem dX8_mirrored_115 : decode cX8_mirrored 115 = .ok (.if_icmp .ne 6, 3) := by decide +kernel
theorem dX8_mirrored_118 : decode cX8_mirrored 118 = .ok (.bipush (-2), 2) := by decide +kernel
theorem dX8_mirrored_120 : decode cX8_mirrored 120 = .ok (.ireturn, 1) := by decide +kernel
theorem dX8_mirrored_121 : decode cX8_mirrored 121 = .ok (.aload_n 0, 1) := by decide +kernel
theorem dX8_mirrored_122 : decode cX8_mirrored 122 = .ok (.getfield 60, 3) := by decide +kernel
theorem dX8_mirrored_125 : decode cX8_mirrored 125 = .ok (.iload 5, 2) := by decide +kernel
theorem dX8_mirrored_127 : decode cX8_mirrored 127 = .ok (.iaload, 1) := by decide +kernel
theorem dX8_mirrored_128 : decode cX8_mirrored 128 = .ok (.iload_n 3, 1) := by decide +kernel
theorem dX8_mirrored_129 : decode cX8_mirrored 129 = .ok (.ineg, 1) := by decide +kernel
theorem dX8_mirrored_130 : decode cX8_mirrored 130 = .ok (.if_icmp .ne 20, 3) := by decide +kernel
theorem dX8_mirrored_133 : decode cX8_mirrored 133 = .ok (.aload_n 0, 1) := by decide +kernel
theorem dX8_mirrored_134 : decode cX8_mirrored 134 = .ok (.getfield 63, 3) := by decide +kernel
theorem dX8_mirrored_137 : decode cX8_mirrored 137 = .ok (.iload 5, 2) := by decide +kernel
theorem dX8_mirrored_139 : decode cX8_mirrored 139 = .ok (.iaload, 1) := by decide +kernel
theorem dX8_mirrored_140 : decode cX8_mirrored 140 = .ok (.iload 4, 2) := by decide +kernel
theorem dX8_mirrored_142 : decode cX8_mirrored 142 = .ok (.ineg, 1) := by decide +kernel
theorem dX8_mirrored_143 : decode cX8_mirrored 143 = .ok (.if_icmp .ne 7, 3) := by decide +kernel
theorem dX8_mirrored_146 : decode cX8_mirrored 146 = .ok (.iconst 1, 1) := by decide +kernel
theorem dX8_mirrored_147 : decode cX8_mirrored 147 = .ok (.goto 4, 3) := by decide +kernel
theorem dX8_mirrored_150 : decode cX8_mirrored 150 = .ok (.iconst 0, 1) := by decide +kernel
theorem dX8_mirrored_151 : decode cX8_mirrored 151 = .ok (.ireturn, 1) := by decide +kernel
theorem dX8_ifKnee_0 : decode cX8_ifKnee 0 = .ok (.aload_n 0, 1) := by decide +kernel
theorem dX8_ifKnee_1 : decode cX8_ifKnee 1 = .ok (.iconst 0, 1) := by decide +kernel
theorem dX8_ifKnee_2 : decode cX8_ifKnee 2 = .ok (.putfield 112, 3) := by decide +kernel
theorem dX8_ifKnee_5 : decode cX8_ifKnee 5 = .ok (.iload_n 1, 1) := by decide +kernel
theorem dX8_ifKnee_6 : decode cX8_ifKnee 6 = .ok (.iconst 4, 1) := by decide +kernel
theorem dX8_ifKnee_7 : decode cX8_ifKnee 7 = .ok (.bipush 24, 2) := by decide +kernel
theorem dX8_ifKnee_9 : decode cX8_ifKnee 9 = .ok (.invokestatic 189, 3) := by decide +kernel
theorem dX8_ifKnee_12 : decode cX8_ifKnee 12 = .ok (.ifCond .eq 12, 3) := by decide +kernel
theorem dX8_ifKnee_15 : decode cX8_ifKnee 15 = .ok (.iload_n 2, 1) := by decide +kernel
theorem dX8_ifKnee_16 : decode cX8_ifKnee 16 = .ok (.iconst 0, 1) := by decide +kernel
theorem dX8_ifKnee_17 : decode cX8_ifKnee 17 = .ok (.iconst 3, 1) := by decide +kernel
theorem dX8_ifKnee_18 : decode cX8_ifKnee 18 = .ok (.invokestatic 189, 3) := by decide +kernel
theorem dX8_ifKnee_21 : decode cX8_ifKnee 21 = .ok (.ifCond .ne 5, 3) := by decide +kernel
theorem dX8_ifKnee_24 : decode cX8_ifKnee 24 = .ok (.iconst (-1), 1) := by decide +kernel
theorem dX8_ifKnee_25 : decode cX8_ifKnee 25 = .ok (.ireturn, 1) := by decide +kernel
theorem dX8_ifKnee_26 : decode cX8_ifKnee 26 = .ok (.aload_n 0, 1) := by decide +kernel
theorem dX8_ifKnee_27 : decode cX8_ifKnee 27 = .ok (.iload_n 1, 1) := by decide +kernel
theorem dX8_ifKnee_28 : decode cX8_ifKnee 28 = .ok (.putfield 54, 3) := by decide +kernel
theorem dX8_ifKnee_31 : decode cX8_ifKnee 31 = .ok (.aload_n 0, 1) := by decide +kernel
theorem dX8_ifKnee_32 : decode cX8_ifKnee 32 = .ok (.iload_n 2, 1) := by decide +kernel
theorem dX8_ifKnee_33 : decode cX8_ifKnee 33 = .ok (.invokevirtual 428, 3) := by decide +kernel
theorem dX8_ifKnee_36 : decode cX8_ifKnee 36 = .ok (.istore_n 3, 1) := by decide +kernel
theorem dX8_ifKnee_37 : decode cX8_ifKnee 37 = .ok (.aload_n 0, 1) := by decide +kernel
theorem dX8_ifKnee_38 : decode cX8_ifKnee 38 = .ok (.aload_n 0, 1) := by decide +kernel
theorem dX8_ifKnee_39 : decode cX8_ifKnee 39 = .ok (.getfield 20, 3) := by decide +kernel
theorem dX8_ifKnee_42 : decode cX8_ifKnee 42 = .ok (.putfield 54, 3) := by decide +kernel
theorem dX8_ifKnee_45 : decode cX8_ifKnee 45 = .ok (.iload_n 3, 1) := by decide +kernel
theorem dX8_ifKnee_46 : decode cX8_ifKnee 46 = .ok (.ireturn, 1) := by decide +kernel
theorem dX8_ifParts_0 : decode cX8_ifParts 0 = .ok (.aload_n 0, 1) := by decide +kernel
theorem dX8_ifParts_1 : decode cX8_ifParts 1 = .ok (.iconst 0, 1) := by decide +kernel
theorem dX8_ifParts_2 : decode cX8_ifParts 2 = .ok (.putfield 112, 3) := by decide +kernel
theorem dX8_ifParts_5 : decode cX8_ifParts 5 = .ok (.iload_n 1, 1) := by decide +kernel
theorem dX8_ifParts_6 : decode cX8_ifParts 6 = .ok (.iconst 1, 1) := by decide +kernel
theorem dX8_ifParts_7 : decode cX8_ifParts 7 = .ok (.bipush 12, 2) := by decide +kernel
theorem dX8_ifParts_9 : decode cX8_ifParts 9 = .ok (.invokestatic 189, 3) := by decide +kernel
theorem dX8_ifParts_12 : decode cX8_ifParts 12 = .ok (.ifCond .eq 11, 3) := by decide +kernel
theorem dX8_ifParts_15 : decode cX8_ifParts 15 = .ok (.aload_n 0, 1) := by decide +kernel
theorem dX8_ifParts_16 : decode cX8_ifParts 16 = .ok (.iload_n 1, 1) := by decide +kernel
theorem dX8_ifParts_17 : decode cX8_ifParts 17 = .ok (.invokevirtual 434, 3) := by decide +kernel
theorem dX8_ifParts_20 : decode cX8_ifParts 20 = .ok (.goto 4, 3) := by decide +kernel
theorem dX8_ifParts_23 : decode cX8_ifParts 23 = .ok (.iconst (-1), 1) := by decide +kernel
theorem dX8_ifParts_24 : decode cX8_ifParts 24 = .ok (.ireturn, 1) := by decide +kernel
theorem dX8_goesOn_0 : decode cX8_goesOn 0 = .ok (.iload_n 2, 1) := by decide +kernel
theorem dX8_goesOn_1 : decode cX8_goesOn 1 = .ok (.iconst 1, 1) := by decide +kernel
theorem dX8_goesOn_2 : decode cX8_goesOn 2 = .ok (.iadd, 1) := by decide +kernel
theorem dX8_goesOn_3 : decode cX8_goesOn 3 = .ok (.aload_n 0, 1) := by decide +kernel
theorem dX8_goesOn_4 : decode cX8_goesOn 4 = .ok (.getfield 45, 3) := by decide +kernel
theorem dX8_goesOn_7 : decode cX8_goesOn 7 = .ok (.iload_n 1, 1) := by decide +kernel
theorem dX8_goesOn_8 : decode cX8_goesOn 8 = .ok (.iaload, 1) := by decide +kernel
theorem dX8_goesOn_9 : decode cX8_goesOn 9 = .ok (.aload_n 0, 1) := by decide +kernel
theorem dX8_goesOn_10 : decode cX8_goesOn 10 = .ok (.getfield 48, 3) := by decide +kernel
theorem dX8_goesOn_13 : decode cX8_goesOn 13 = .ok (.iload_n 1, 1) := by decide +kernel
theorem dX8_goesOn_14 : decode cX8_goesOn 14 = .ok (.iaload, 1) := by decide +kernel
theorem dX8_goesOn_15 : decode cX8_goesOn 15 = .ok (.iadd, 1) := by decide +kernel
theorem dX8_goesOn_16 : decode cX8_goesOn 16 = .ok (.if_icmp .ge 34, 3) := by decide +kernel
theorem dX8_goesOn_19 : decode cX8_goesOn 19 = .ok (.aload_n 0, 1) := by decide +kernel
theorem dX8_goesOn_20 : decode cX8_goesOn 20 = .ok (.getfield 26, 3) := by decide +kernel
theorem dX8_goesOn_23 : decode cX8_goesOn 23 = .ok (.iload_n 2, 1) := by decide +kernel
theorem dX8_goesOn_24 : decode cX8_goesOn 24 = .ok (.iaload, 1) := by decide +kernel
theorem dX8_goesOn_25 : decode cX8_goesOn 25 = .ok (.invokestatic 203, 3) := by decide +kernel
theorem dX8_goesOn_28 : decode cX8_goesOn 28 = .ok (.aload_n 0, 1) := by decide +kernel
theorem dX8_goesOn_29 : decode cX8_goesOn 29 = .ok (.getfield 26, 3) := by decide +kernel
theorem dX8_goesOn_32 : decode cX8_goesOn 32 = .ok (.iload_n 2, 1) := by decide +kernel
theorem dX8_goesOn_33 : decode cX8_goesOn 33 = .ok (.iconst 1, 1) := by decide +kernel
theorem dX8_goesOn_34 : decode cX8_goesOn 34 = .ok (.iadd, 1) := by decide +kernel
theorem dX8_goesOn_35 : decode cX8_goesOn 35 = .ok (.iaload, 1) := by decide +kernel
theorem dX8_goesOn_36 : decode cX8_goesOn 36 = .ok (.invokestatic 203, 3) := by decide +kernel
theorem dX8_goesOn_39 : decode cX8_goesOn 39 = .ok (.invokestatic 422, 3) := by decide +kernel
theorem dX8_goesOn_42 : decode cX8_goesOn 42 = .ok (.iload_n 3, 1) := by decide +kernel
theorem dX8_goesOn_43 : decode cX8_goesOn 43 = .ok (.if_icmp .lt 7, 3) := by decide +kernel
theorem dX8_goesOn_46 : decode cX8_goesOn 46 = .ok (.iconst 1, 1) := by decide +kernel
theorem dX8_goesOn_47 : decode cX8_goesOn 47 = .ok (.goto 4, 3) := by decide +kernel
theorem dX8_goesOn_50 : decode cX8_goesOn 50 = .ok (.iconst 0, 1) := by decide +kernel
theorem dX8_goesOn_51 : decode cX8_goesOn 51 = .ok (.ireturn, 1) := by decide +kernel
theorem dX8_stretchFrom_0 : decode cX8_stretchFrom 0 = .ok (.aload_n 0, 1) := by decide +kernel
theorem dX8_stretchFrom_1 : decode cX8_stretchFrom 1 = .ok (.getfield 45, 3) := by decide +kernel
theorem dX8_stretchFrom_4 : decode cX8_stretchFrom 4 = .ok (.iload_n 1, 1) := by decide +kernel
theorem dX8_stretchFrom_5 : decode cX8_stretchFrom 5 = .ok (.iaload, 1) := by decide +kernel
theorem dX8_stretchFrom_6 : decode cX8_stretchFrom 6 = .ok (.aload_n 0, 1) := by decide +kernel
theorem dX8_stretchFrom_7 : decode cX8_stretchFrom 7 = .ok (.getfield 48, 3) := by decide +kernel
theorem dX8_stretchFrom_10 : decode cX8_stretchFrom 10 = .ok (.iload_n 1, 1) := by decide +kernel
theorem dX8_stretchFrom_11 : decode cX8_stretchFrom 11 = .ok (.iaload, 1) := by decide +kernel
theorem dX8_stretchFrom_12 : decode cX8_stretchFrom 12 = .ok (.iadd, 1) := by decide +kernel
theorem dX8_stretchFrom_13 : decode cX8_stretchFrom 13 = .ok (.istore 4, 2) := by decide +kernel
theorem dX8_stretchFrom_15 : decode cX8_stretchFrom 15 = .ok (.iload_n 2, 1) := by decide +kernel
theorem dX8_stretchFrom_16 : decode cX8_stretchFrom 16 = .ok (.istore 5, 2) := by decide +kernel
theorem dX8_stretchFrom_18 : decode cX8_stretchFrom 18 = .ok (.iload 5, 2) := by decide +kernel
theorem dX8_stretchFrom_20 : decode cX8_stretchFrom 20 = .ok (.iload 4, 2) := by decide +kernel
theorem dX8_stretchFrom_22 : decode cX8_stretchFrom 22 = .ok (.if_icmp .ge 20, 3) := by decide +kernel
theorem dX8_stretchFrom_25 : decode cX8_stretchFrom 25 = .ok (.aload_n 0, 1) := by decide +kernel
theorem dX8_stretchFrom_26 : decode cX8_stretchFrom 26 = .ok (.iload_n 1, 1) := by decide +kernel
theorem dX8_stretchFrom_27 : decode cX8_stretchFrom 27 = .ok (.iload 5, 2) := by decide +kernel
theorem dX8_stretchFrom_29 : decode cX8_stretchFrom 29 = .ok (.iload_n 3, 1) := by decide +kernel
theorem dX8_stretchFrom_30 : decode cX8_stretchFrom 30 = .ok (.invokevirtual 437, 3) := by decide +kernel
theorem dX8_stretchFrom_33 : decode cX8_stretchFrom 33 = .ok (.ifCond .ne 9, 3) := by decide +kernel
theorem dX8_stretchFrom_36 : decode cX8_stretchFrom 36 = .ok (.iinc 5 1, 3) := by decide +kernel
theorem dX8_stretchFrom_39 : decode cX8_stretchFrom 39 = .ok (.goto (-21), 3) := by decide +kernel
theorem dX8_stretchFrom_42 : decode cX8_stretchFrom 42 = .ok (.iload 5, 2) := by decide +kernel
theorem dX8_stretchFrom_44 : decode cX8_stretchFrom 44 = .ok (.iload 4, 2) := by decide +kernel
theorem dX8_stretchFrom_46 : decode cX8_stretchFrom 46 = .ok (.if_icmp .ge 8, 3) := by decide +kernel
theorem dX8_stretchFrom_49 : decode cX8_stretchFrom 49 = .ok (.iload 5, 2) := by decide +kernel
theorem dX8_stretchFrom_51 : decode cX8_stretchFrom 51 = .ok (.goto 4, 3) := by decide +kernel
theorem dX8_stretchFrom_54 : decode cX8_stretchFrom 54 = .ok (.iconst (-1), 1) := by decide +kernel
theorem dX8_stretchFrom_55 : decode cX8_stretchFrom 55 = .ok (.ireturn, 1) := by decide +kernel
theorem dX8_stretchEnd_0 : decode cX8_stretchEnd 0 = .ok (.iload_n 2, 1) := by decide +kernel
theorem dX8_stretchEnd_1 : decode cX8_stretchEnd 1 = .ok (.istore 4, 2) := by decide +kernel
theorem dX8_stretchEnd_3 : decode cX8_stretchEnd 3 = .ok (.aload_n 0, 1) := by decide +kernel
theorem dX8_stretchEnd_4 : decode cX8_stretchEnd 4 = .ok (.iload_n 1, 1) := by decide +kernel
theorem dX8_stretchEnd_5 : decode cX8_stretchEnd 5 = .ok (.iload 4, 2) := by decide +kernel
theorem dX8_stretchEnd_7 : decode cX8_stretchEnd 7 = .ok (.iload_n 3, 1) := by decide +kernel
theorem dX8_stretchEnd_8 : decode cX8_stretchEnd 8 = .ok (.invokevirtual 437, 3) := by decide +kernel
theorem dX8_stretchEnd_11 : decode cX8_stretchEnd 11 = .ok (.ifCond .eq 9, 3) := by decide +kernel
theorem dX8_stretchEnd_14 : decode cX8_stretchEnd 14 = .ok (.iinc 4 1, 3) := by decide +kernel
theorem dX8_stretchEnd_17 : decode cX8_stretchEnd 17 = .ok (.goto (-14), 3) := by decide +kernel
theorem dX8_stretchEnd_20 : decode cX8_stretchEnd 20 = .ok (.iload 4, 2) := by decide +kernel
theorem dX8_stretchEnd_22 : decode cX8_stretchEnd 22 = .ok (.ireturn, 1) := by decide +kernel
theorem dX8_stretchAt_0 : decode cX8_stretchAt 0 = .ok (.aload_n 0, 1) := by decide +kernel
theorem dX8_stretchAt_1 : decode cX8_stretchAt 1 = .ok (.iload_n 1, 1) := by decide +kernel
theorem dX8_stretchAt_2 : decode cX8_stretchAt 2 = .ok (.aload_n 0, 1) := by decide +kernel
theorem dX8_stretchAt_3 : decode cX8_stretchAt 3 = .ok (.getfield 45, 3) := by decide +kernel
theorem dX8_stretchAt_6 : decode cX8_stretchAt 6 = .ok (.iload_n 1, 1) := by decide +kernel
theorem dX8_stretchAt_7 : decode cX8_stretchAt 7 = .ok (.iaload, 1) := by decide +kernel
theorem dX8_stretchAt_8 : decode cX8_stretchAt 8 = .ok (.iload_n 2, 1) := by decide +kernel
theorem dX8_stretchAt_9 : decode cX8_stretchAt 9 = .ok (.invokevirtual 440, 3) := by decide +kernel
theorem dX8_stretchAt_12 : decode cX8_stretchAt 12 = .ok (.istore 4, 2) := by decide +kernel
theorem dX8_stretchAt_14 : decode cX8_stretchAt 14 = .ok (.iconst 0, 1) := by decide +kernel
theorem dX8_stretchAt_15 : decode cX8_stretchAt 15 = .ok (.istore 5, 2) := by decide +kernel
theorem dX8_stretchAt_17 : decode cX8_stretchAt 17 = .ok (.iload 5, 2) := by decide +kernel
theorem dX8_stretchAt_19 : decode cX8_stretchAt 19 = .ok (.iload_n 3, 1) := by decide +kernel
theorem dX8_stretchAt_20 : decode cX8_stretchAt 20 = .ok (.if_icmp .ge 31, 3) := by decide +kernel
theorem dX8_stretchAt_23 : decode cX8_stretchAt 23 = .ok (.iload 4, 2) := by decide +kernel
theorem dX8_stretchAt_25 : decode cX8_stretchAt 25 = .ok (.iconst (-1), 1) := by decide +kernel
theorem dX8_stretchAt_26 : decode cX8_stretchAt 26 = .ok (.if_icmp .eq 25, 3) := by decide +kernel
theorem dX8_stretchAt_29 : decode cX8_stretchAt 29 = .ok (.aload_n 0, 1) := by decide +kernel
theorem dX8_stretchAt_30 : decode cX8_stretchAt 30 = .ok (.iload_n 1, 1) := by decide +kernel
theorem dX8_stretchAt_31 : decode cX8_stretchAt 31 = .ok (.aload_n 0, 1) := by decide +kernel
theorem dX8_stretchAt_32 : decode cX8_stretchAt 32 = .ok (.iload_n 1, 1) := by decide +kernel
theorem dX8_stretchAt_33 : decode cX8_stretchAt 33 = .ok (.iload 4, 2) := by decide +kernel
theorem dX8_stretchAt_35 : decode cX8_stretchAt 35 = .ok (.iload_n 2, 1) := by decide +kernel
theorem dX8_stretchAt_36 : decode cX8_stretchAt 36 = .ok (.invokevirtual 443, 3) := by decide +kernel
theorem dX8_stretchAt_39 : decode cX8_stretchAt 39 = .ok (.iload_n 2, 1) := by decide +kernel
theorem dX8_stretchAt_40 : decode cX8_stretchAt 40 = .ok (.invokevirtual 440, 3) := by decide +kernel
theorem dX8_stretchAt_43 : decode cX8_stretchAt 43 = .ok (.istore 4, 2) := by decide +kernel
theorem dX8_stretchAt_45 : decode cX8_stretchAt 45 = .ok (.iinc 5 1, 3) := by decide +kernel
theorem dX8_stretchAt_48 : decode cX8_stretchAt 48 = .ok (.goto (-31), 3) := by decide +kernel
theorem dX8_stretchAt_51 : decode cX8_stretchAt 51 = .ok (.iload 4, 2) := by decide +kernel
theorem dX8_stretchAt_53 : decode cX8_stretchAt 53 = .ok (.ireturn, 1) := by decide +kernel
theorem dX8_stretches_0 : decode cX8_stretches 0 = .ok (.aload_n 0, 1) := by decide +kernel
theorem dX8_stretches_1 : decode cX8_stretches 1 = .ok (.iconst 0, 1) := by decide +kernel
theorem dX8_stretches_2 : decode cX8_stretches 2 = .ok (.putfield 112, 3) := by decide +kernel
theorem dX8_stretches_5 : decode cX8_stretches 5 = .ok (.aload_n 0, 1) := by decide +kernel
theorem dX8_stretches_6 : decode cX8_stretches 6 = .ok (.iload_n 1, 1) := by decide +kernel
theorem dX8_stretches_7 : decode cX8_stretches 7 = .ok (.invokevirtual 392, 3) := by decide +kernel
theorem dX8_stretches_10 : decode cX8_stretches 10 = .ok (.ifCond .eq 12, 3) := by decide +kernel
theorem dX8_stretches_13 : decode cX8_stretches 13 = .ok (.iload_n 2, 1) := by decide +kernel
theorem dX8_stretches_14 : decode cX8_stretches 14 = .ok (.iconst 1, 1) := by decide +kernel
theorem dX8_stretches_15 : decode cX8_stretches 15 = .ok (.iconst 3, 1) := by decide +kernel
theorem dX8_stretches_16 : decode cX8_stretches 16 = .ok (.invokestatic 189, 3) := by decide +kernel
theorem dX8_stretches_19 : decode cX8_stretches 19 = .ok (.ifCond .ne 5, 3) := by decide +kernel
theorem dX8_stretches_22 : decode cX8_stretches 22 = .ok (.iconst (-1), 1) := by decide +kernel
theorem dX8_stretches_23 : decode cX8_stretches 23 = .ok (.ireturn, 1) := by decide +kernel
theorem dX8_stretches_24 : decode cX8_stretches 24 = .ok (.iconst 0, 1) := by decide +kernel
theorem dX8_stretches_25 : decode cX8_stretches 25 = .ok (.istore_n 3, 1) := by decide +kernel
theorem dX8_stretches_26 : decode cX8_stretches 26 = .ok (.aload_n 0, 1) := by decide +kernel
theorem dX8_stretches_27 : decode cX8_stretches 27 = .ok (.iload_n 1, 1) := by decide +kernel
theorem dX8_stretches_28 : decode cX8_stretches 28 = .ok (.iload_n 2, 1) := by decide +kernel
theorem dX8_stretches_29 : decode cX8_stretches 29 = .ok (.iload_n 3, 1) := by decide +kernel
theorem dX8_stretches_30 : decode cX8_stretches 30 = .ok (.invokevirtual 446, 3) := by decide +kernel
theorem dX8_stretches_33 : decode cX8_stretches 33 = .ok (.iconst (-1), 1) := by decide +kernel
theorem dX8_stretches_34 : decode cX8_stretches 34 = .ok (.if_icmp .eq 9, 3) := by decide +kernel
theorem dX8_stretches_37 : decode cX8_stretches 37 = .ok (.iinc 3 1, 3) := by decide +kernel
theorem dX8_stretches_40 : decode cX8_stretches 40 = .ok (.goto (-14), 3) := by decide +kernel
theorem dX8_stretches_43 : decode cX8_stretches 43 = .ok (.iload_n 3, 1) := by decide +kernel
theorem dX8_stretches_44 : decode cX8_stretches 44 = .ok (.ireturn, 1) := by decide +kernel
theorem dX8_stretch_0 : decode cX8_stretch 0 = .ok (.aload_n 0, 1) := by decide +kernel
theorem dX8_stretch_1 : decode cX8_stretch 1 = .ok (.iconst 0, 1) := by decide +kernel
theorem dX8_stretch_2 : decode cX8_stretch 2 = .ok (.putfield 112, 3) := by decide +kernel
theorem dX8_stretch_5 : decode cX8_stretch 5 = .ok (.aload_n 0, 1) := by decide +kernel
theorem dX8_stretch_6 : decode cX8_stretch 6 = .ok (.iload_n 1, 1) := by decide +kernel
theorem dX8_stretch_7 : decode cX8_stretch 7 = .ok (.invokevirtual 392, 3) := by decide +kernel
theorem dX8_stretch_10 : decode cX8_stretch 10 = .ok (.ifCond .eq 26, 3) := by decide +kernel
theorem dX8_stretch_13 : decode cX8_stretch 13 = .ok (.iload_n 2, 1) := by decide +kernel
theorem dX8_stretch_14 : decode cX8_stretch 14 = .ok (.iconst 1, 1) := by decide +kernel
theorem dX8_stretch_15 : decode cX8_stretch 15 = .ok (.iconst 3, 1) := by decide +kernel
theorem dX8_stretch_16 : decode cX8_stretch 16 = .ok (.invokestatic 189, 3) := by decide +kernel
theorem dX8_stretch_19 : decode cX8_stretch 19 = .ok (.ifCond .eq 17, 3) := by decide +kernel
theorem dX8_stretch_22 : decode cX8_stretch 22 = .ok (.iload_n 3, 1) := by decide +kernel
theorem dX8_stretch_23 : decode cX8_stretch 23 = .ok (.ifCond .lt 13, 3) := by decide +kernel
theorem dX8_stretch_26 : decode cX8_stretch 26 = .ok (.iload 4, 2) := by decide +kernel
theorem dX8_stretch_28 : decode cX8_stretch 28 = .ok (.iconst 0, 1) := by decide +kernel
theorem dX8_stretch_29 : decode cX8_stretch 29 = .ok (.iconst 2, 1) := by decide +kernel
theorem dX8_stretch_30 : decode cX8_stretch 30 = .ok (.invokestatic 189, 3) := by decide +kernel
theorem dX8_stretch_33 : decode cX8_stretch 33 = .ok (.ifCond .ne 5, 3) := by decide +kernel
theorem dX8_stretch_36 : decode cX8_stretch 36 = .ok (.iconst (-1), 1) := by decide +kernel
theorem dX8_stretch_37 : decode cX8_stretch 37 = .ok (.ireturn, 1) := by decide +kernel
theorem dX8_stretch_38 : decode cX8_stretch 38 = .ok (.aload_n 0, 1) := by decide +kernel
theorem dX8_stretch_39 : decode cX8_stretch 39 = .ok (.iload_n 1, 1) := by decide +kernel
theorem dX8_stretch_40 : decode cX8_stretch 40 = .ok (.iload_n 2, 1) := by decide +kernel
theorem dX8_stretch_41 : decode cX8_stretch 41 = .ok (.iload_n 3, 1) := by decide +kernel
theorem dX8_stretch_42 : decode cX8_stretch 42 = .ok (.invokevirtual 446, 3) := by decide +kernel
theorem dX8_stretch_45 : decode cX8_stretch 45 = .ok (.istore 5, 2) := by decide +kernel
theorem dX8_stretch_47 : decode cX8_stretch 47 = .ok (.iload 5, 2) := by decide +kernel
theorem dX8_stretch_49 : decode cX8_stretch 49 = .ok (.iconst (-1), 1) := by decide +kernel
theorem dX8_stretch_50 : decode cX8_stretch 50 = .ok (.if_icmp .ne 6, 3) := by decide +kernel
theorem dX8_stretch_53 : decode cX8_stretch 53 = .ok (.bipush (-2), 2) := by decide +kernel
theorem dX8_stretch_55 : decode cX8_stretch 55 = .ok (.ireturn, 1) := by decide +kernel
theorem dX8_stretch_56 : decode cX8_stretch 56 = .ok (.aload_n 0, 1) := by decide +kernel
theorem dX8_stretch_57 : decode cX8_stretch 57 = .ok (.iload_n 1, 1) := by decide +kernel
theorem dX8_stretch_58 : decode cX8_stretch 58 = .ok (.iload 5, 2) := by decide +kernel
theorem dX8_stretch_60 : decode cX8_stretch 60 = .ok (.iload_n 2, 1) := by decide +kernel
theorem dX8_stretch_61 : decode cX8_stretch 61 = .ok (.invokevirtual 443, 3) := by decide +kernel
theorem dX8_stretch_64 : decode cX8_stretch 64 = .ok (.istore 6, 2) := by decide +kernel
theorem dX8_stretch_66 : decode cX8_stretch 66 = .ok (.iload 4, 2) := by decide +kernel
theorem dX8_stretch_68 : decode cX8_stretch 68 = .ok (.ifCond .ne 8, 3) := by decide +kernel
theorem dX8_stretch_71 : decode cX8_stretch 71 = .ok (.iload 5, 2) := by decide +kernel
theorem dX8_stretch_73 : decode cX8_stretch 73 = .ok (.goto 29, 3) := by decide +kernel
theorem dX8_stretch_76 : decode cX8_stretch 76 = .ok (.iload 4, 2) := by decide +kernel
theorem dX8_stretch_78 : decode cX8_stretch 78 = .ok (.iconst 1, 1) := by decide +kernel
theorem dX8_stretch_79 : decode cX8_stretch 79 = .ok (.if_icmp .ne 8, 3) := by decide +kernel
theorem dX8_stretch_82 : decode cX8_stretch 82 = .ok (.iload 6, 2) := by decide +kernel
theorem dX8_stretch_84 : decode cX8_stretch 84 = .ok (.goto 18, 3) := by decide +kernel
theorem dX8_stretch_87 : decode cX8_stretch 87 = .ok (.aload_n 0, 1) := by decide +kernel
theorem dX8_stretch_88 : decode cX8_stretch 88 = .ok (.getfield 39, 3) := by decide +kernel
theorem dX8_stretch_91 : decode cX8_stretch 91 = .ok (.iload 6, 2) := by decide +kernel
theorem dX8_stretch_93 : decode cX8_stretch 93 = .ok (.iaload, 1) := by decide +kernel
theorem dX8_stretch_94 : decode cX8_stretch 94 = .ok (.aload_n 0, 1) := by decide +kernel
theorem dX8_stretch_95 : decode cX8_stretch 95 = .ok (.getfield 39, 3) := by decide +kernel
theorem dX8_stretch_98 : decode cX8_stretch 98 = .ok (.iload 5, 2) := by decide +kernel
theorem dX8_stretch_100 : decode cX8_stretch 100 = .ok (.iaload, 1) := by decide +kernel
theorem dX8_stretch_101 : decode cX8_stretch 101 = .ok (.isub, 1) := by decide +kernel
theorem dX8_stretch_102 : decode cX8_stretch 102 = .ok (.ireturn, 1) := by decide +kernel
theorem dX8_level_0 : decode cX8_level 0 = .ok (.aload_n 0, 1) := by decide +kernel
theorem dX8_level_1 : decode cX8_level 1 = .ok (.iconst 0, 1) := by decide +kernel
theorem dX8_level_2 : decode cX8_level 2 = .ok (.putfield 112, 3) := by decide +kernel
theorem dX8_level_5 : decode cX8_level 5 = .ok (.aload_n 0, 1) := by decide +kernel
theorem dX8_level_6 : decode cX8_level 6 = .ok (.iload_n 1, 1) := by decide +kernel
theorem dX8_level_7 : decode cX8_level 7 = .ok (.invokevirtual 392, 3) := by decide +kernel
theorem dX8_level_10 : decode cX8_level 10 = .ok (.ifCond .eq 12, 3) := by decide +kernel
theorem dX8_level_13 : decode cX8_level 13 = .ok (.iload_n 2, 1) := by decide +kernel
theorem dX8_level_14 : decode cX8_level 14 = .ok (.iconst 0, 1) := by decide +kernel
theorem dX8_level_15 : decode cX8_level 15 = .ok (.iconst 2, 1) := by decide +kernel
theorem dX8_level_16 : decode cX8_level 16 = .ok (.invokestatic 189, 3) := by decide +kernel
theorem dX8_level_19 : decode cX8_level 19 = .ok (.ifCond .ne 6, 3) := by decide +kernel
theorem dX8_level_22 : decode cX8_level 22 = .ok (.ldc 251, 2) := by decide +kernel
theorem dX8_level_24 : decode cX8_level 24 = .ok (.ireturn, 1) := by decide +kernel
theorem dX8_level_25 : decode cX8_level 25 = .ok (.aload_n 0, 1) := by decide +kernel
theorem dX8_level_26 : decode cX8_level 26 = .ok (.iload_n 1, 1) := by decide +kernel
theorem dX8_level_27 : decode cX8_level 27 = .ok (.invokevirtual 245, 3) := by decide +kernel
theorem dX8_level_30 : decode cX8_level 30 = .ok (.iconst (-1), 1) := by decide +kernel
theorem dX8_level_31 : decode cX8_level 31 = .ok (.istore_n 3, 1) := by decide +kernel
theorem dX8_level_32 : decode cX8_level 32 = .ok (.iconst 0, 1) := by decide +kernel
theorem dX8_level_33 : decode cX8_level 33 = .ok (.istore 4, 2) := by decide +kernel
theorem dX8_level_35 : decode cX8_level 35 = .ok (.iload 4, 2) := by decide +kernel
theorem dX8_level_37 : decode cX8_level 37 = .ok (.aload_n 0, 1) := by decide +kernel
theorem dX8_level_38 : decode cX8_level 38 = .ok (.getfield 227, 3) := by decide +kernel
theorem dX8_level_41 : decode cX8_level 41 = .ok (.if_icmp .ge 44, 3) := by decide +kernel
theorem dX8_level_44 : decode cX8_level 44 = .ok (.aload_n 0, 1) := by decide +kernel
theorem dX8_level_45 : decode cX8_level 45 = .ok (.getfield 60, 3) := by decide +kernel
theorem dX8_level_48 : decode cX8_level 48 = .ok (.iload 4, 2) := by decide +kernel
theorem dX8_level_50 : decode cX8_level 50 = .ok (.iaload, 1) := by decide +kernel
theorem dX8_level_51 : decode cX8_level 51 = .ok (.aload_n 0, 1) := by decide +kernel
theorem dX8_level_52 : decode cX8_level 52 = .ok (.getfield 63, 3) := by decide +kernel
theorem dX8_level_55 : decode cX8_level 55 = .ok (.iload 4, 2) := by decide +kernel
theorem dX8_level_57 : decode cX8_level 57 = .ok (.iaload, 1) := by decide +kernel
theorem dX8_level_58 : decode cX8_level 58 = .ok (.if_icmp .ne 21, 3) := by decide +kernel
theorem dX8_level_61 : decode cX8_level 61 = .ok (.iload_n 3, 1) := by decide +kernel
theorem dX8_level_62 : decode cX8_level 62 = .ok (.iconst (-1), 1) := by decide +kernel
theorem dX8_level_63 : decode cX8_level 63 = .ok (.if_icmp .eq 13, 3) := by decide +kernel
theorem dX8_level_66 : decode cX8_level 66 = .ok (.aload_n 0, 1) := by decide +kernel
theorem dX8_level_67 : decode cX8_level 67 = .ok (.iload 4, 2) := by decide +kernel
theorem dX8_level_69 : decode cX8_level 69 = .ok (.iload_n 3, 1) := by decide +kernel
theorem dX8_level_70 : decode cX8_level 70 = .ok (.invokevirtual 242, 3) := by decide +kernel
theorem dX8_level_73 : decode cX8_level 73 = .ok (.ifCond .eq 6, 3) := by decide +kernel
theorem dX8_level_76 : decode cX8_level 76 = .ok (.iload 4, 2) := by decide +kernel
theorem dX8_level_78 : decode cX8_level 78 = .ok (.istore_n 3, 1) := by decide +kernel
theorem dX8_level_79 : decode cX8_level 79 = .ok (.iinc 4 1, 3) := by decide +kernel
theorem dX8_level_82 : decode cX8_level 82 = .ok (.goto (-47), 3) := by decide +kernel
theorem dX8_level_85 : decode cX8_level 85 = .ok (.iload_n 3, 1) := by decide +kernel
theorem dX8_level_86 : decode cX8_level 86 = .ok (.iconst (-1), 1) := by decide +kernel
theorem dX8_level_87 : decode cX8_level 87 = .ok (.if_icmp .ne 6, 3) := by decide +kernel
theorem dX8_level_90 : decode cX8_level 90 = .ok (.ldc 251, 2) := by decide +kernel
theorem dX8_level_92 : decode cX8_level 92 = .ok (.ireturn, 1) := by decide +kernel
theorem dX8_level_93 : decode cX8_level 93 = .ok (.iload_n 2, 1) := by decide +kernel
theorem dX8_level_94 : decode cX8_level 94 = .ok (.ifCond .ne 12, 3) := by decide +kernel
theorem dX8_level_97 : decode cX8_level 97 = .ok (.aload_n 0, 1) := by decide +kernel
theorem dX8_level_98 : decode cX8_level 98 = .ok (.getfield 60, 3) := by decide +kernel
theorem dX8_level_101 : decode cX8_level 101 = .ok (.iload_n 3, 1) := by decide +kernel
theorem dX8_level_102 : decode cX8_level 102 = .ok (.iaload, 1) := by decide +kernel
theorem dX8_level_103 : decode cX8_level 103 = .ok (.goto 33, 3) := by decide +kernel
theorem dX8_level_106 : decode cX8_level 106 = .ok (.iload_n 2, 1) := by decide +kernel
theorem dX8_level_107 : decode cX8_level 107 = .ok (.iconst 1, 1) := by decide +kernel
theorem dX8_level_108 : decode cX8_level 108 = .ok (.if_icmp .ne 12, 3) := by decide +kernel
theorem dX8_level_111 : decode cX8_level 111 = .ok (.aload_n 0, 1) := by decide +kernel
theorem dX8_level_112 : decode cX8_level 112 = .ok (.getfield 66, 3) := by decide +kernel
theorem dX8_level_115 : decode cX8_level 115 = .ok (.iload_n 3, 1) := by decide +kernel
theorem dX8_level_116 : decode cX8_level 116 = .ok (.iaload, 1) := by decide +kernel
theorem dX8_level_117 : decode cX8_level 117 = .ok (.goto 19, 3) := by decide +kernel
theorem dX8_level_120 : decode cX8_level 120 = .ok (.aload_n 0, 1) := by decide +kernel
theorem dX8_level_121 : decode cX8_level 121 = .ok (.getfield 66, 3) := by decide +kernel
theorem dX8_level_124 : decode cX8_level 124 = .ok (.iload_n 3, 1) := by decide +kernel
theorem dX8_level_125 : decode cX8_level 125 = .ok (.iaload, 1) := by decide +kernel
theorem dX8_level_126 : decode cX8_level 126 = .ok (.aload_n 0, 1) := by decide +kernel
theorem dX8_level_127 : decode cX8_level 127 = .ok (.getfield 66, 3) := by decide +kernel
theorem dX8_level_130 : decode cX8_level 130 = .ok (.aload_n 0, 1) := by decide +kernel
theorem dX8_level_131 : decode cX8_level 131 = .ok (.invokevirtual 248, 3) := by decide +kernel
theorem dX8_level_134 : decode cX8_level 134 = .ok (.iaload, 1) := by decide +kernel
theorem dX8_level_135 : decode cX8_level 135 = .ok (.isub, 1) := by decide +kernel
theorem dX8_level_136 : decode cX8_level 136 = .ok (.ireturn, 1) := by decide +kernel
theorem dX8_uglyOf_0 : decode cX8_uglyOf 0 = .ok (.iload_n 2, 1) := by decide +kernel
theorem dX8_uglyOf_1 : decode cX8_uglyOf 1 = .ok (.iconst 1, 1) := by decide +kernel
theorem dX8_uglyOf_2 : decode cX8_uglyOf 2 = .ok (.if_icmp .ne 5, 3) := by decide +kernel
theorem dX8_uglyOf_5 : decode cX8_uglyOf 5 = .ok (.iconst 0, 1) := by decide +kernel
theorem dX8_uglyOf_6 : decode cX8_uglyOf 6 = .ok (.ireturn, 1) := by decide +kernel
theorem dX8_uglyOf_7 : decode cX8_uglyOf 7 = .ok (.aload_n 0, 1) := by decide +kernel
theorem dX8_uglyOf_8 : decode cX8_uglyOf 8 = .ok (.getfield 45, 3) := by decide +kernel
theorem dX8_uglyOf_11 : decode cX8_uglyOf 11 = .ok (.bipush 32, 2) := by decide +kernel
theorem dX8_uglyOf_13 : decode cX8_uglyOf 13 = .ok (.iload_n 1, 1) := by decide +kernel
theorem dX8_uglyOf_14 : decode cX8_uglyOf 14 = .ok (.iastore, 1) := by decide +kernel
theorem dX8_uglyOf_15 : decode cX8_uglyOf 15 = .ok (.aload_n 0, 1) := by decide +kernel
theorem dX8_uglyOf_16 : decode cX8_uglyOf 16 = .ok (.getfield 48, 3) := by decide +kernel
theorem dX8_uglyOf_19 : decode cX8_uglyOf 19 = .ok (.bipush 32, 2) := by decide +kernel
theorem dX8_uglyOf_21 : decode cX8_uglyOf 21 = .ok (.iload_n 2, 1) := by decide +kernel
theorem dX8_uglyOf_22 : decode cX8_uglyOf 22 = .ok (.iastore, 1) := by decide +kernel
theorem dX8_uglyOf_23 : decode cX8_uglyOf 23 = .ok (.aload_n 0, 1) := by decide +kernel
theorem dX8_uglyOf_24 : decode cX8_uglyOf 24 = .ok (.bipush 32, 2) := by decide +kernel
theorem dX8_uglyOf_26 : decode cX8_uglyOf 26 = .ok (.iconst 2, 1) := by decide +kernel
theorem dX8_uglyOf_27 : decode cX8_uglyOf 27 = .ok (.invokevirtual 267, 3) := by decide +kernel
theorem dX8_uglyOf_30 : decode cX8_uglyOf 30 = .ok (.ireturn, 1) := by decide +kernel
theorem dX8_cutAt_0 : decode cX8_cutAt 0 = .ok (.aload_n 0, 1) := by decide +kernel
theorem dX8_cutAt_1 : decode cX8_cutAt 1 = .ok (.aload_n 0, 1) := by decide +kernel
theorem dX8_cutAt_2 : decode cX8_cutAt 2 = .ok (.getfield 45, 3) := by decide +kernel
theorem dX8_cutAt_5 : decode cX8_cutAt 5 = .ok (.iload_n 1, 1) := by decide +kernel
theorem dX8_cutAt_6 : decode cX8_cutAt 6 = .ok (.iaload, 1) := by decide +kernel
theorem dX8_cutAt_7 : decode cX8_cutAt 7 = .ok (.iload_n 2, 1) := by decide +kernel
theorem dX8_cutAt_8 : decode cX8_cutAt 8 = .ok (.invokevirtual 449, 3) := by decide +kernel
theorem dX8_cutAt_11 : decode cX8_cutAt 11 = .ok (.istore_n 3, 1) := by decide +kernel
theorem dX8_cutAt_12 : decode cX8_cutAt 12 = .ok (.aload_n 0, 1) := by decide +kernel
theorem dX8_cutAt_13 : decode cX8_cutAt 13 = .ok (.aload_n 0, 1) := by decide +kernel
theorem dX8_cutAt_14 : decode cX8_cutAt 14 = .ok (.getfield 45, 3) := by decide +kernel
theorem dX8_cutAt_17 : decode cX8_cutAt 17 = .ok (.iload_n 1, 1) := by decide +kernel
theorem dX8_cutAt_18 : decode cX8_cutAt 18 = .ok (.iaload, 1) := by decide +kernel
theorem dX8_cutAt_19 : decode cX8_cutAt 19 = .ok (.iload_n 2, 1) := by decide +kernel
theorem dX8_cutAt_20 : decode cX8_cutAt 20 = .ok (.iadd, 1) := by decide +kernel
theorem dX8_cutAt_21 : decode cX8_cutAt 21 = .ok (.aload_n 0, 1) := by decide +kernel
theorem dX8_cutAt_22 : decode cX8_cutAt 22 = .ok (.getfield 48, 3) := by decide +kernel
theorem dX8_cutAt_25 : decode cX8_cutAt 25 = .ok (.iload_n 1, 1) := by decide +kernel
theorem dX8_cutAt_26 : decode cX8_cutAt 26 = .ok (.iaload, 1) := by decide +kernel
theorem dX8_cutAt_27 : decode cX8_cutAt 27 = .ok (.iload_n 2, 1) := by decide +kernel
theorem dX8_cutAt_28 : decode cX8_cutAt 28 = .ok (.isub, 1) := by decide +kernel
theorem dX8_cutAt_29 : decode cX8_cutAt 29 = .ok (.invokevirtual 449, 3) := by decide +kernel
theorem dX8_cutAt_32 : decode cX8_cutAt 32 = .ok (.istore 4, 2) := by decide +kernel
theorem dX8_cutAt_34 : decode cX8_cutAt 34 = .ok (.iload_n 3, 1) := by decide +kernel
theorem dX8_cutAt_35 : decode cX8_cutAt 35 = .ok (.ldc 251, 2) := by decide +kernel
theorem dX8_cutAt_37 : decode cX8_cutAt 37 = .ok (.if_icmp .eq 10, 3) := by decide +kernel
theorem dX8_cutAt_40 : decode cX8_cutAt 40 = .ok (.iload 4, 2) := by decide +kernel
theorem dX8_cutAt_42 : decode cX8_cutAt 42 = .ok (.ldc 251, 2) := by decide +kernel
theorem dX8_cutAt_44 : decode cX8_cutAt 44 = .ok (.if_icmp .ne 8, 3) := by decide +kernel
theorem dX8_cutAt_47 : decode cX8_cutAt 47 = .ok (.bipush (-2), 2) := by decide +kernel
theorem dX8_cutAt_49 : decode cX8_cutAt 49 = .ok (.goto 7, 3) := by decide +kernel
theorem dX8_cutAt_52 : decode cX8_cutAt 52 = .ok (.iload_n 3, 1) := by decide +kernel
theorem dX8_cutAt_53 : decode cX8_cutAt 53 = .ok (.iload 4, 2) := by decide +kernel
theorem dX8_cutAt_55 : decode cX8_cutAt 55 = .ok (.iadd, 1) := by decide +kernel
theorem dX8_cutAt_56 : decode cX8_cutAt 56 = .ok (.ireturn, 1) := by decide +kernel
theorem dX8_ifCut_0 : decode cX8_ifCut 0 = .ok (.aload_n 0, 1) := by decide +kernel
theorem dX8_ifCut_1 : decode cX8_ifCut 1 = .ok (.iconst 0, 1) := by decide +kernel
theorem dX8_ifCut_2 : decode cX8_ifCut 2 = .ok (.putfield 112, 3) := by decide +kernel
theorem dX8_ifCut_5 : decode cX8_ifCut 5 = .ok (.aload_n 0, 1) := by decide +kernel
theorem dX8_ifCut_6 : decode cX8_ifCut 6 = .ok (.iload_n 1, 1) := by decide +kernel
theorem dX8_ifCut_7 : decode cX8_ifCut 7 = .ok (.invokevirtual 392, 3) := by decide +kernel
theorem dX8_ifCut_10 : decode cX8_ifCut 10 = .ok (.ifCond .eq 28, 3) := by decide +kernel
theorem dX8_ifCut_13 : decode cX8_ifCut 13 = .ok (.iload_n 2, 1) := by decide +kernel
theorem dX8_ifCut_14 : decode cX8_ifCut 14 = .ok (.iconst 1, 1) := by decide +kernel
theorem dX8_ifCut_15 : decode cX8_ifCut 15 = .ok (.aload_n 0, 1) := by decide +kernel
theorem dX8_ifCut_16 : decode cX8_ifCut 16 = .ok (.getfield 48, 3) := by decide +kernel
theorem dX8_ifCut_19 : decode cX8_ifCut 19 = .ok (.iload_n 1, 1) := by decide +kernel
theorem dX8_ifCut_20 : decode cX8_ifCut 20 = .ok (.iaload, 1) := by decide +kernel
theorem dX8_ifCut_21 : decode cX8_ifCut 21 = .ok (.iconst 1, 1) := by decide +kernel
theorem dX8_ifCut_22 : decode cX8_ifCut 22 = .ok (.isub, 1) := by decide +kernel
theorem dX8_ifCut_23 : decode cX8_ifCut 23 = .ok (.invokestatic 189, 3) := by decide +kernel
theorem dX8_ifCut_26 : decode cX8_ifCut 26 = .ok (.ifCond .eq 12, 3) := by decide +kernel
theorem dX8_ifCut_29 : decode cX8_ifCut 29 = .ok (.aload_n 0, 1) := by decide +kernel
theorem dX8_ifCut_30 : decode cX8_ifCut 30 = .ok (.iload_n 1, 1) := by decide +kernel
theorem dX8_ifCut_31 : decode cX8_ifCut 31 = .ok (.iload_n 2, 1) := by decide +kernel
theorem dX8_ifCut_32 : decode cX8_ifCut 32 = .ok (.invokevirtual 452, 3) := by decide +kernel
theorem dX8_ifCut_35 : decode cX8_ifCut 35 = .ok (.goto 4, 3) := by decide +kernel
theorem dX8_ifCut_38 : decode cX8_ifCut 38 = .ok (.iconst (-1), 1) := by decide +kernel
theorem dX8_ifCut_39 : decode cX8_ifCut 39 = .ok (.ireturn, 1) := by decide +kernel
theorem dX8_cut_0 : decode cX8_cut 0 = .ok (.aload_n 0, 1) := by decide +kernel
theorem dX8_cut_1 : decode cX8_cut 1 = .ok (.iconst 0, 1) := by decide +kernel
theorem dX8_cut_2 : decode cX8_cut 2 = .ok (.putfield 112, 3) := by decide +kernel
theorem dX8_cut_5 : decode cX8_cut 5 = .ok (.aload_n 0, 1) := by decide +kernel
theorem dX8_cut_6 : decode cX8_cut 6 = .ok (.iload_n 1, 1) := by decide +kernel
theorem dX8_cut_7 : decode cX8_cut 7 = .ok (.invokevirtual 392, 3) := by decide +kernel
theorem dX8_cut_10 : decode cX8_cut 10 = .ok (.ifCond .ne 5, 3) := by decide +kernel
theorem dX8_cut_13 : decode cX8_cut 13 = .ok (.iconst (-1), 1) := by decide +kernel
theorem dX8_cut_14 : decode cX8_cut 14 = .ok (.ireturn, 1) := by decide +kernel
theorem dX8_cut_15 : decode cX8_cut 15 = .ok (.bipush (-2), 2) := by decide +kernel
theorem dX8_cut_17 : decode cX8_cut 17 = .ok (.istore_n 2, 1) := by decide +kernel
theorem dX8_cut_18 : decode cX8_cut 18 = .ok (.iconst 0, 1) := by decide +kernel
theorem dX8_cut_19 : decode cX8_cut 19 = .ok (.istore_n 3, 1) := by decide +kernel
theorem dX8_cut_20 : decode cX8_cut 20 = .ok (.iconst 1, 1) := by decide +kernel
theorem dX8_cut_21 : decode cX8_cut 21 = .ok (.istore 4, 2) := by decide +kernel
theorem dX8_cut_23 : decode cX8_cut 23 = .ok (.iload 4, 2) := by decide +kernel
theorem dX8_cut_25 : decode cX8_cut 25 = .ok (.aload_n 0, 1) := by decide +kernel
theorem dX8_cut_26 : decode cX8_cut 26 = .ok (.getfield 48, 3) := by decide +kernel
theorem dX8_cut_29 : decode cX8_cut 29 = .ok (.iload_n 1, 1) := by decide +kernel
theorem dX8_cut_30 : decode cX8_cut 30 = .ok (.iaload, 1) := by decide +kernel
theorem dX8_cut_31 : decode cX8_cut 31 = .ok (.if_icmp .ge 46, 3) := by decide +kernel
theorem dX8_cut_34 : decode cX8_cut 34 = .ok (.aload_n 0, 1) := by decide +kernel
theorem dX8_cut_35 : decode cX8_cut 35 = .ok (.iload_n 1, 1) := by decide +kernel
theorem dX8_cut_36 : decode cX8_cut 36 = .ok (.iload 4, 2) := by decide +kernel
theorem dX8_cut_38 : decode cX8_cut 38 = .ok (.invokevirtual 452, 3) := by decide +kernel
theorem dX8_cut_41 : decode cX8_cut 41 = .ok (.istore 5, 2) := by decide +kernel
theorem dX8_cut_43 : decode cX8_cut 43 = .ok (.iload 5, 2) := by decide +kernel
theorem dX8_cut_45 : decode cX8_cut 45 = .ok (.bipush (-2), 2) := by decide +kernel
theorem dX8_cut_47 : decode cX8_cut 47 = .ok (.if_icmp .eq 24, 3) := by decide +kernel
theorem dX8_cut_50 : decode cX8_cut 50 = .ok (.iload_n 2, 1) := by decide +kernel
theorem dX8_cut_51 : decode cX8_cut 51 = .ok (.bipush (-2), 2) := by decide +kernel
theorem dX8_cut_53 : decode cX8_cut 53 = .ok (.if_icmp .eq 12, 3) := by decide +kernel
theorem dX8_cut_56 : decode cX8_cut 56 = .ok (.iload 5, 2) := by decide +kernel
theorem dX8_cut_58 : decode cX8_cut 58 = .ok (.iload_n 3, 1) := by decide +kernel
theorem dX8_cut_59 : decode cX8_cut 59 = .ok (.if_icmp .lt 6, 3) := by decide +kernel
theorem dX8_cut_62 : decode cX8_cut 62 = .ok (.goto 9, 3) := by decide +kernel
theorem dX8_cut_65 : decode cX8_cut 65 = .ok (.iload 4, 2) := by decide +kernel
theorem dX8_cut_67 : decode cX8_cut 67 = .ok (.istore_n 2, 1) := by decide +kernel
theorem dX8_cut_68 : decode cX8_cut 68 = .ok (.iload 5, 2) := by decide +kernel
theorem dX8_cut_70 : decode cX8_cut 70 = .ok (.istore_n 3, 1) := by decide +kernel
theorem dX8_cut_71 : decode cX8_cut 71 = .ok (.iinc 4 1, 3) := by decide +kernel
theorem dX8_cut_74 : decode cX8_cut 74 = .ok (.goto (-51), 3) := by decide +kernel
theorem dX8_cut_77 : decode cX8_cut 77 = .ok (.iload_n 2, 1) := by decide +kernel
theorem dX8_cut_78 : decode cX8_cut 78 = .ok (.ireturn, 1) := by decide +kernel
theorem dX8_leastOn_0 : decode cX8_leastOn 0 = .ok (.iload_n 1, 1) := by decide +kernel
theorem dX8_leastOn_1 : decode cX8_leastOn 1 = .ok (.aload_n 0, 1) := by decide +kernel
theorem dX8_leastOn_2 : decode cX8_leastOn 2 = .ok (.getfield 149, 3) := by decide +kernel
theorem dX8_leastOn_5 : decode cX8_leastOn 5 = .ok (.if_icmp .ne 5, 3) := by decide +kernel
theorem dX8_leastOn_8 : decode cX8_leastOn 8 = .ok (.iconst 0, 1) := by decide +kernel
theorem dX8_leastOn_9 : decode cX8_leastOn 9 = .ok (.ireturn, 1) := by decide +kernel
theorem dX8_leastOn_10 : decode cX8_leastOn 10 = .ok (.ldc_w 455, 3) := by decide +kernel
theorem dX8_leastOn_13 : decode cX8_leastOn 13 = .ok (.istore 4, 2) := by decide +kernel
theorem dX8_leastOn_15 : decode cX8_leastOn 15 = .ok (.bipush (-60), 2) := by decide +kernel
theorem dX8_leastOn_17 : decode cX8_leastOn 17 = .ok (.istore 5, 2) := by decide +kernel
theorem dX8_leastOn_19 : decode cX8_leastOn 19 = .ok (.iload 5, 2) := by decide +kernel
theorem dX8_leastOn_21 : decode cX8_leastOn 21 = .ok (.bipush 60, 2) := by decide +kernel
theorem dX8_leastOn_23 : decode cX8_leastOn 23 = .ok (.if_icmp .gt 57, 3) := by decide +kernel
theorem dX8_leastOn_26 : decode cX8_leastOn 26 = .ok (.iload 5, 2) := by decide +kernel
theorem dX8_leastOn_28 : decode cX8_leastOn 28 = .ok (.iload_n 2, 1) := by decide +kernel
theorem dX8_leastOn_29 : decode cX8_leastOn 29 = .ok (.isub, 1) := by decide +kernel
theorem dX8_leastOn_30 : decode cX8_leastOn 30 = .ok (.invokestatic 156, 3) := by decide +kernel
theorem dX8_leastOn_33 : decode cX8_leastOn 33 = .ok (.iload_n 3, 1) := by decide +kernel
theorem dX8_leastOn_34 : decode cX8_leastOn 34 = .ok (.if_icmp .gt 40, 3) := by decide +kernel
theorem dX8_leastOn_37 : decode cX8_leastOn 37 = .ok (.aload_n 0, 1) := by decide +kernel
theorem dX8_leastOn_38 : decode cX8_leastOn 38 = .ok (.getfield 103, 3) := by decide +kernel
theorem dX8_leastOn_41 : decode cX8_leastOn 41 = .ok (.bipush 121, 2) := by decide +kernel
theorem dX8_leastOn_43 : decode cX8_leastOn 43 = .ok (.iload_n 1, 1) := by decide +kernel
theorem dX8_leastOn_44 : decode cX8_leastOn 44 = .ok (.imul, 1) := by decide +kernel
theorem dX8_leastOn_45 : decode cX8_leastOn 45 = .ok (.iload 5, 2) := by decide +kernel
theorem dX8_leastOn_47 : decode cX8_leastOn 47 = .ok (.iadd, 1) := by decide +kernel
theorem dX8_leastOn_48 : decode cX8_leastOn 48 = .ok (.bipush 60, 2) := by decide +kernel
theorem dX8_leastOn_50 : decode cX8_leastOn 50 = .ok (.iadd, 1) := by decide +kernel
theorem dX8_leastOn_51 : decode cX8_leastOn 51 = .ok (.iaload, 1) := by decide +kernel
theorem dX8_leastOn_52 : decode cX8_leastOn 52 = .ok (.iload 4, 2) := by decide +kernel
theorem dX8_leastOn_54 : decode cX8_leastOn 54 = .ok (.if_icmp .ge 20, 3) := by decide +kernel
theorem dX8_leastOn_57 : decode cX8_leastOn 57 = .ok (.aload_n 0, 1) := by decide +kernel
theorem dX8_leastOn_58 : decode cX8_leastOn 58 = .ok (.getfield 103, 3) := by decide +kernel
theorem dX8_leastOn_61 : decode cX8_leastOn 61 = .ok (.bipush 121, 2) := by decide +kernel
theorem dX8_leastOn_63 : decode cX8_leastOn 63 = .ok (.iload_n 1, 1) := by decide +kernel
theorem dX8_leastOn_64 : decode cX8_leastOn 64 = .ok (.imul, 1) := by decide +kernel
theorem dX8_leastOn_65 : decode cX8_leastOn 65 = .ok (.iload 5, 2) := by decide +kernel
theorem dX8_leastOn_67 : decode cX8_leastOn 67 = .ok (.iadd, 1) := by decide +kernel
theorem dX8_leastOn_68 : decode cX8_leastOn 68 = .ok (.bipush 60, 2) := by decide +kernel
theorem dX8_leastOn_70 : decode cX8_leastOn 70 = .ok (.iadd, 1) := by decide +kernel
theorem dX8_leastOn_71 : decode cX8_leastOn 71 = .ok (.iaload, 1) := by decide +kernel
theorem dX8_leastOn_72 : decode cX8_leastOn 72 = .ok (.istore 4, 2) := by decide +kernel
theorem dX8_leastOn_74 : decode cX8_leastOn 74 = .ok (.iinc 5 1, 3) := by decide +kernel
theorem dX8_leastOn_77 : decode cX8_leastOn 77 = .ok (.goto (-58), 3) := by decide +kernel
theorem dX8_leastOn_80 : decode cX8_leastOn 80 = .ok (.iload 4, 2) := by decide +kernel
theorem dX8_leastOn_82 : decode cX8_leastOn 82 = .ok (.ireturn, 1) := by decide +kernel
theorem dX8_laysOnward_0 : decode cX8_laysOnward 0 = .ok (.iconst 0, 1) := by decide +kernel
theorem dX8_laysOnward_1 : decode cX8_laysOnward 1 = .ok (.istore_n 3, 1) := by decide +kernel
theorem dX8_laysOnward_2 : decode cX8_laysOnward 2 = .ok (.iload_n 3, 1) := by decide +kernel
theorem dX8_laysOnward_3 : decode cX8_laysOnward 3 = .ok (.bipush 120, 2) := by decide +kernel
theorem dX8_laysOnward_5 : decode cX8_laysOnward 5 = .ok (.if_icmp .gt 23, 3) := by decide +kernel
theorem dX8_laysOnward_8 : decode cX8_laysOnward 8 = .ok (.aload_n 0, 1) := by decide +kernel
theorem dX8_laysOnward_9 : decode cX8_laysOnward 9 = .ok (.getfield 103, 3) := by decide +kernel
theorem dX8_laysOnward_12 : decode cX8_laysOnward 12 = .ok (.bipush 121, 2) := by decide +kernel
theorem dX8_laysOnward_14 : decode cX8_laysOnward 14 = .ok (.iload_n 1, 1) := by decide +kernel
theorem dX8_laysOnward_15 : decode cX8_laysOnward 15 = .ok (.imul, 1) := by decide +kernel
theorem dX8_laysOnward_16 : decode cX8_laysOnward 16 = .ok (.iload_n 3, 1) := by decide +kernel
theorem dX8_laysOnward_17 : decode cX8_laysOnward 17 = .ok (.iadd, 1) := by decide +kernel
theorem dX8_laysOnward_18 : decode cX8_laysOnward 18 = .ok (.ldc_w 455, 3) := by decide +kernel
theorem dX8_laysOnward_21 : decode cX8_laysOnward 21 = .ok (.iastore, 1) := by decide +kernel
theorem dX8_laysOnward_22 : decode cX8_laysOnward 22 = .ok (.iinc 3 1, 3) := by decide +kernel
theorem dX8_laysOnward_25 : decode cX8_laysOnward 25 = .ok (.goto (-23), 3) := by decide +kernel
theorem dX8_laysOnward_28 : decode cX8_laysOnward 28 = .ok (.aload_n 0, 1) := by decide +kernel
theorem dX8_laysOnward_29 : decode cX8_laysOnward 29 = .ok (.iload_n 1, 1) := by decide +kernel
theorem dX8_laysOnward_30 : decode cX8_laysOnward 30 = .ok (.invokevirtual 245, 3) := by decide +kernel
theorem dX8_laysOnward_33 : decode cX8_laysOnward 33 = .ok (.iconst 0, 1) := by decide +kernel
theorem dX8_laysOnward_34 : decode cX8_laysOnward 34 = .ok (.istore_n 3, 1) := by decide +kernel
theorem dX8_laysOnward_35 : decode cX8_laysOnward 35 = .ok (.iload_n 3, 1) := by decide +kernel
theorem dX8_laysOnward_36 : decode cX8_laysOnward 36 = .ok (.aload_n 0, 1) := by decide +kernel
theorem dX8_laysOnward_37 : decode cX8_laysOnward 37 = .ok (.getfield 227, 3) := by decide +kernel
theorem dX8_laysOnward_40 : decode cX8_laysOnward 40 = .ok (.if_icmp .ge 79, 3) := by decide +kernel
theorem dX8_laysOnward_43 : decode cX8_laysOnward 43 = .ok (.bipush 121, 2) := by decide +kernel
theorem dX8_laysOnward_45 : decode cX8_laysOnward 45 = .ok (.iload_n 1, 1) := by decide +kernel
theorem dX8_laysOnward_46 : decode cX8_laysOnward 46 = .ok (.imul, 1) := by decide +kernel
theorem dX8_laysOnward_47 : decode cX8_laysOnward 47 = .ok (.aload_n 0, 1) := by decide +kernel
theorem dX8_laysOnward_48 : decode cX8_laysOnward 48 = .ok (.getfield 60, 3) := by decide +kernel
theorem dX8_laysOnward_51 : decode cX8_laysOnward 51 = .ok (.iload_n 3, 1) := by decide +kernel
theorem dX8_laysOnward_52 : decode cX8_laysOnward 52 = .ok (.iaload, 1) := by decide +kernel
theorem dX8_laysOnward_53 : decode cX8_laysOnward 53 = .ok (.iadd, 1) := by decide +kernel
theorem dX8_laysOnward_54 : decode cX8_laysOnward 54 = .ok (.bipush 60, 2) := by decide +kernel
theorem dX8_laysOnward_56 : decode cX8_laysOnward 56 = .ok (.iadd, 1) := by decide +kernel
theorem dX8_laysOnward_57 : decode cX8_laysOnward 57 = .ok (.istore 4, 2) := by decide +kernel
theorem dX8_laysOnward_59 : decode cX8_laysOnward 59 = .ok (.aload_n 0, 1) := by decide +kernel
theorem dX8_laysOnward_60 : decode cX8_laysOnward 60 = .ok (.getfield 66, 3) := by decide +kernel
theorem dX8_laysOnward_63 : decode cX8_laysOnward 63 = .ok (.iload_n 3, 1) := by decide +kernel
theorem dX8_laysOnward_64 : decode cX8_laysOnward 64 = .ok (.iaload, 1) := by decide +kernel
theorem dX8_laysOnward_65 : decode cX8_laysOnward 65 = .ok (.aload_n 0, 1) := by decide +kernel
theorem dX8_laysOnward_66 : decode cX8_laysOnward 66 = .ok (.iload_n 1, 1) := by decide +kernel
theorem dX8_laysOnward_67 : decode cX8_laysOnward 67 = .ok (.iconst 1, 1) := by decide +kernel
theorem dX8_laysOnward_68 : decode cX8_laysOnward 68 = .ok (.iadd, 1) := by decide +kernel
theorem dX8_laysOnward_69 : decode cX8_laysOnward 69 = .ok (.aload_n 0, 1) := by decide +kernel
theorem dX8_laysOnward_70 : decode cX8_laysOnward 70 = .ok (.getfield 63, 3) := by decide +kernel
theorem dX8_laysOnward_73 : decode cX8_laysOnward 73 = .ok (.iload_n 3, 1) := by decide +kernel
theorem dX8_laysOnward_74 : decode cX8_laysOnward 74 = .ok (.iaload, 1) := by decide +kernel
theorem dX8_laysOnward_75 : decode cX8_laysOnward 75 = .ok (.iload_n 2, 1) := by decide +kernel
theorem dX8_laysOnward_76 : decode cX8_laysOnward 76 = .ok (.invokevirtual 456, 3) := by decide +kernel
theorem dX8_laysOnward_79 : decode cX8_laysOnward 79 = .ok (.iadd, 1) := by decide +kernel
theorem dX8_laysOnward_80 : decode cX8_laysOnward 80 = .ok (.istore 5, 2) := by decide +kernel
theorem dX8_laysOnward_82 : decode cX8_laysOnward 82 = .ok (.aload_n 0, 1) := by decide +kernel
theorem dX8_laysOnward_83 : decode cX8_laysOnward 83 = .ok (.getfield 103, 3) := by decide +kernel
theorem dX8_laysOnward_86 : decode cX8_laysOnward 86 = .ok (.iload 4, 2) := by decide +kernel
theorem dX8_laysOnward_88 : decode cX8_laysOnward 88 = .ok (.iload 5, 2) := by decide +kernel
theorem dX8_laysOnward_90 : decode cX8_laysOnward 90 = .ok (.aload_n 0, 1) := by decide +kernel
theorem dX8_laysOnward_91 : decode cX8_laysOnward 91 = .ok (.getfield 103, 3) := by decide +kernel
theorem dX8_laysOnward_94 : decode cX8_laysOnward 94 = .ok (.iload 4, 2) := by decide +kernel
theorem dX8_laysOnward_96 : decode cX8_laysOnward 96 = .ok (.iaload, 1) := by decide +kernel
theorem dX8_laysOnward_97 : decode cX8_laysOnward 97 = .ok (.if_icmp .ge 8, 3) := by decide +kernel
theorem dX8_laysOnward_100 : decode cX8_laysOnward 100 = .ok (.iload 5, 2) := by decide +kernel
theorem dX8_laysOnward_102 : decode cX8_laysOnward 102 = .ok (.goto 10, 3) := by decide +kernel
theorem dX8_laysOnward_105 : decode cX8_laysOnward 105 = .ok (.aload_n 0, 1) := by decide +kernel
theorem dX8_laysOnward_106 : decode cX8_laysOnward 106 = .ok (.getfield 103, 3) := by decide +kernel
theorem dX8_laysOnward_109 : decode cX8_laysOnward 109 = .ok (.iload 4, 2) := by decide +kernel
theorem dX8_laysOnward_111 : decode cX8_laysOnward 111 = .ok (.iaload, 1) := by decide +kernel
theorem dX8_laysOnward_112 : decode cX8_laysOnward 112 = .ok (.iastore, 1) := by decide +kernel
theorem dX8_laysOnward_113 : decode cX8_laysOnward 113 = .ok (.iinc 3 1, 3) := by decide +kernel
theorem dX8_laysOnward_116 : decode cX8_laysOnward 116 = .ok (.goto (-81), 3) := by decide +kernel
theorem dX8_laysOnward_119 : decode cX8_laysOnward 119 = .ok (.return_, 1) := by decide +kernel
theorem dX8_laysSmooth_0 : decode cX8_laysSmooth 0 = .ok (.aload_n 0, 1) := by decide +kernel
theorem dX8_laysSmooth_1 : decode cX8_laysSmooth 1 = .ok (.getfield 149, 3) := by decide +kernel
theorem dX8_laysSmooth_4 : decode cX8_laysSmooth 4 = .ok (.iconst 1, 1) := by decide +kernel
theorem dX8_laysSmooth_5 : decode cX8_laysSmooth 5 = .ok (.isub, 1) := by decide +kernel
theorem dX8_laysSmooth_6 : decode cX8_laysSmooth 6 = .ok (.istore_n 2, 1) := by decide +kernel
theorem dX8_laysSmooth_7 : decode cX8_laysSmooth 7 = .ok (.iload_n 2, 1) := by decide +kernel
theorem dX8_laysSmooth_8 : decode cX8_laysSmooth 8 = .ok (.ifCond .lt 15, 3) := by decide +kernel
theorem dX8_laysSmooth_11 : decode cX8_laysSmooth 11 = .ok (.aload_n 0, 1) := by decide +kernel
theorem dX8_laysSmooth_12 : decode cX8_laysSmooth 12 = .ok (.iload_n 2, 1) := by decide +kernel
theorem dX8_laysSmooth_13 : decode cX8_laysSmooth 13 = .ok (.iload_n 1, 1) := by decide +kernel
theorem dX8_laysSmooth_14 : decode cX8_laysSmooth 14 = .ok (.invokevirtual 459, 3) := by decide +kernel
theorem dX8_laysSmooth_17 : decode cX8_laysSmooth 17 = .ok (.iinc 2 (-1), 3) := by decide +kernel
theorem dX8_laysSmooth_20 : decode cX8_laysSmooth 20 = .ok (.goto (-13), 3) := by decide +kernel
theorem dX8_laysSmooth_23 : decode cX8_laysSmooth 23 = .ok (.aload_n 0, 1) := by decide +kernel
theorem dX8_laysSmooth_24 : decode cX8_laysSmooth 24 = .ok (.aload_n 0, 1) := by decide +kernel
theorem dX8_laysSmooth_25 : decode cX8_laysSmooth 25 = .ok (.iconst 0, 1) := by decide +kernel
theorem dX8_laysSmooth_26 : decode cX8_laysSmooth 26 = .ok (.iconst 0, 1) := by decide +kernel
theorem dX8_laysSmooth_27 : decode cX8_laysSmooth 27 = .ok (.bipush 120, 2) := by decide +kernel
theorem dX8_laysSmooth_29 : decode cX8_laysSmooth 29 = .ok (.invokevirtual 456, 3) := by decide +kernel
theorem dX8_laysSmooth_32 : decode cX8_laysSmooth 32 = .ok (.putfield 463, 3) := by decide +kernel
theorem dX8_laysSmooth_35 : decode cX8_laysSmooth 35 = .ok (.aload_n 0, 1) := by decide +kernel
theorem dX8_laysSmooth_36 : decode cX8_laysSmooth 36 = .ok (.getfield 463, 3) := by decide +kernel
theorem dX8_laysSmooth_39 : decode cX8_laysSmooth 39 = .ok (.ldc_w 455, 3) := by decide +kernel
theorem dX8_laysSmooth_42 : decode cX8_laysSmooth 42 = .ok (.if_icmp .lt 5, 3) := by decide +kernel
theorem dX8_laysSmooth_45 : decode cX8_laysSmooth 45 = .ok (.iconst 0, 1) := by decide +kernel
theorem dX8_laysSmooth_46 : decode cX8_laysSmooth 46 = .ok (.ireturn, 1) := by decide +kernel
theorem dX8_laysSmooth_47 : decode cX8_laysSmooth 47 = .ok (.aload_n 0, 1) := by decide +kernel
theorem dX8_laysSmooth_48 : decode cX8_laysSmooth 48 = .ok (.getfield 463, 3) := by decide +kernel
theorem dX8_laysSmooth_51 : decode cX8_laysSmooth 51 = .ok (.istore_n 2, 1) := by decide +kernel
theorem dX8_laysSmooth_52 : decode cX8_laysSmooth 52 = .ok (.iconst 0, 1) := by decide +kernel
theorem dX8_laysSmooth_53 : decode cX8_laysSmooth 53 = .ok (.istore_n 3, 1) := by decide +kernel
theorem dX8_laysSmooth_54 : decode cX8_laysSmooth 54 = .ok (.iload_n 3, 1) := by decide +kernel
theorem dX8_laysSmooth_55 : decode cX8_laysSmooth 55 = .ok (.aload_n 0, 1) := by decide +kernel
theorem dX8_laysSmooth_56 : decode cX8_laysSmooth 56 = .ok (.getfield 149, 3) := by decide +kernel
theorem dX8_laysSmooth_59 : decode cX8_laysSmooth 59 = .ok (.if_icmp .ge 166, 3) := by decide +kernel
theorem dX8_laysSmooth_62 : decode cX8_laysSmooth 62 = .ok (.aload_n 0, 1) := by decide +kernel
theorem dX8_laysSmooth_63 : decode cX8_laysSmooth 63 = .ok (.iload_n 3, 1) := by decide +kernel
theorem dX8_laysSmooth_64 : decode cX8_laysSmooth 64 = .ok (.invokevirtual 245, 3) := by decide +kernel
theorem dX8_laysSmooth_67 : decode cX8_laysSmooth 67 = .ok (.iconst (-1), 1) := by decide +kernel
theorem dX8_laysSmooth_68 : decode cX8_laysSmooth 68 = .ok (.istore 4, 2) := by decide +kernel
theorem dX8_laysSmooth_70 : decode cX8_laysSmooth 70 = .ok (.iconst 0, 1) := by decide +kernel
theorem dX8_laysSmooth_71 : decode cX8_laysSmooth 71 = .ok (.istore 5, 2) := by decide +kernel
theorem dX8_laysSmooth_73 : decode cX8_laysSmooth 73 = .ok (.iload 5, 2) := by decide +kernel
theorem dX8_laysSmooth_75 : decode cX8_laysSmooth 75 = .ok (.aload_n 0, 1) := by decide +kernel
theorem dX8_laysSmooth_76 : decode cX8_laysSmooth 76 = .ok (.getfield 227, 3) := by decide +kernel
theorem dX8_laysSmooth_79 : decode cX8_laysSmooth 79 = .ok (.if_icmp .ge 104, 3) := by decide +kernel
theorem dX8_laysSmooth_82 : decode cX8_laysSmooth 82 = .ok (.iload_n 3, 1) := by decide +kernel
theorem dX8_laysSmooth_83 : decode cX8_laysSmooth 83 = .ok (.ifCond .eq 26, 3) := by decide +kernel
theorem dX8_laysSmooth_86 : decode cX8_laysSmooth 86 = .ok (.aload_n 0, 1) := by decide +kernel
theorem dX8_laysSmooth_87 : decode cX8_laysSmooth 87 = .ok (.getfield 60, 3) := by decide +kernel
theorem dX8_laysSmooth_90 : decode cX8_laysSmooth 90 = .ok (.iload 5, 2) := by decide +kernel
theorem dX8_laysSmooth_92 : decode cX8_laysSmooth 92 = .ok (.iaload, 1) := by decide +kernel
theorem dX8_laysSmooth_93 : decode cX8_laysSmooth 93 = .ok (.aload_n 0, 1) := by decide +kernel
theorem dX8_laysSmooth_94 : decode cX8_laysSmooth 94 = .ok (.getfield 109, 3) := by decide +kernel
theorem dX8_laysSmooth_97 : decode cX8_laysSmooth 97 = .ok (.iload_n 3, 1) := by decide +kernel
theorem dX8_laysSmooth_98 : decode cX8_laysSmooth 98 = .ok (.iconst 1, 1) := by decide +kernel
theorem dX8_laysSmooth_99 : decode cX8_laysSmooth 99 = .ok (.isub, 1) := by decide +kernel
theorem dX8_laysSmooth_100 : decode cX8_laysSmooth 100 = .ok (.iaload, 1) := by decide +kernel
theorem dX8_laysSmooth_101 : decode cX8_laysSmooth 101 = .ok (.isub, 1) := by decide +kernel
theorem dX8_laysSmooth_102 : decode cX8_laysSmooth 102 = .ok (.invokestatic 156, 3) := by decide +kernel
theorem dX8_laysSmooth_105 : decode cX8_laysSmooth 105 = .ok (.iload_n 1, 1) := by decide +kernel
theorem dX8_laysSmooth_106 : decode cX8_laysSmooth 106 = .ok (.if_icmp .gt 7, 3) := by decide +kernel
theorem dX8_laysSmooth_109 : decode cX8_laysSmooth 109 = .ok (.iconst 1, 1) := by decide +kernel
theorem dX8_laysSmooth_110 : decode cX8_laysSmooth 110 = .ok (.goto 4, 3) := by decide +kernel
theorem dX8_laysSmooth_113 : decode cX8_laysSmooth 113 = .ok (.iconst 0, 1) := by decide +kernel
theorem dX8_laysSmooth_114 : decode cX8_laysSmooth 114 = .ok (.istore 6, 2) := by decide +kernel
theorem dX8_laysSmooth_116 : decode cX8_laysSmooth 116 = .ok (.iload 6, 2) := by decide +kernel
theorem dX8_laysSmooth_118 : decode cX8_laysSmooth 118 = .ok (.ifCond .eq 59, 3) := by decide +kernel
theorem dX8_laysSmooth_121 : decode cX8_laysSmooth 121 = .ok (.aload_n 0, 1) := by decide +kernel
theorem dX8_laysSmooth_122 : decode cX8_laysSmooth 122 = .ok (.getfield 66, 3) := by decide +kernel
theorem dX8_laysSmooth_125 : decode cX8_laysSmooth 125 = .ok (.iload 5, 2) := by decide +kernel
theorem dX8_laysSmooth_127 : decode cX8_laysSmooth 127 = .ok (.iaload, 1) := by decide +kernel
theorem dX8_laysSmooth_128 : decode cX8_laysSmooth 128 = .ok (.aload_n 0, 1) := by decide +kernel
theorem dX8_laysSmooth_129 : decode cX8_laysSmooth 129 = .ok (.iload_n 3, 1) := by decide +kernel
theorem dX8_laysSmooth_130 : decode cX8_laysSmooth 130 = .ok (.iconst 1, 1) := by decide +kernel
theorem dX8_laysSmooth_131 : decode cX8_laysSmooth 131 = .ok (.iadd, 1) := by decide +kernel
theorem dX8_laysSmooth_132 : decode cX8_laysSmooth 132 = .ok (.aload_n 0, 1) := by decide +kernel
theorem dX8_laysSmooth_133 : decode cX8_laysSmooth 133 = .ok (.getfield 63, 3) := by decide +kernel
theorem dX8_laysSmooth_136 : decode cX8_laysSmooth 136 = .ok (.iload 5, 2) := by decide +kernel
theorem dX8_laysSmooth_138 : decode cX8_laysSmooth 138 = .ok (.iaload, 1) := by decide +kernel
theorem dX8_laysSmooth_139 : decode cX8_laysSmooth 139 = .ok (.iload_n 1, 1) := by decide +kernel
theorem dX8_laysSmooth_140 : decode cX8_laysSmooth 140 = .ok (.invokevirtual 456, 3) := by decide +kernel
theorem dX8_laysSmooth_143 : decode cX8_laysSmooth 143 = .ok (.iadd, 1) := by decide +kernel
theorem dX8_laysSmooth_144 : decode cX8_laysSmooth 144 = .ok (.iload_n 2, 1) := by decide +kernel
theorem dX8_laysSmooth_145 : decode cX8_laysSmooth 145 = .ok (.if_icmp .eq 6, 3) := by decide +kernel
theorem dX8_laysSmooth_148 : decode cX8_laysSmooth 148 = .ok (.goto 29, 3) := by decide +kernel
theorem dX8_laysSmooth_151 : decode cX8_laysSmooth 151 = .ok (.iload 4, 2) := by decide +kernel
theorem dX8_laysSmooth_153 : decode cX8_laysSmooth 153 = .ok (.iconst (-1), 1) := by decide +kernel
theorem dX8_laysSmooth_154 : decode cX8_laysSmooth 154 = .ok (.if_icmp .eq 14, 3) := by decide +kernel
theorem dX8_laysSmooth_157 : decode cX8_laysSmooth 157 = .ok (.aload_n 0, 1) := by decide +kernel
theorem dX8_laysSmooth_158 : decode cX8_laysSmooth 158 = .ok (.iload 5, 2) := by decide +kernel
theorem dX8_laysSmooth_160 : decode cX8_laysSmooth 160 = .ok (.iload 4, 2) := by decide +kernel
theorem dX8_laysSmooth_162 : decode cX8_laysSmooth 162 = .ok (.invokevirtual 242, 3) := by decide +kernel
theorem dX8_laysSmooth_165 : decode cX8_laysSmooth 165 = .ok (.ifCond .eq 8, 3) := by decide +kernel
theorem dX8_laysSmooth_168 : decode cX8_laysSmooth 168 = .ok (.iload 5, 2) := by decide +kernel
theorem dX8_laysSmooth_170 : decode cX8_laysSmooth 170 = .ok (.goto 5, 3) := by decide +kernel
theorem dX8_laysSmooth_173 : decode cX8_laysSmooth 173 = .ok (.iload 4, 2) := by decide +kernel
theorem dX8_laysSmooth_175 : decode cX8_laysSmooth 175 = .ok (.istore 4, 2) := by decide +kernel
theorem dX8_laysSmooth_177 : decode cX8_laysSmooth 177 = .ok (.iinc 5 1, 3) := by decide +kernel
theorem dX8_laysSmooth_180 : decode cX8_laysSmooth 180 = .ok (.goto (-107), 3) := by decide +kernel
theorem dX8_laysSmooth_183 : decode cX8_laysSmooth 183 = .ok (.aload_n 0, 1) := by decide +kernel
theorem dX8_laysSmooth_184 : decode cX8_laysSmooth 184 = .ok (.getfield 106, 3) := by decide +kernel
theorem dX8_laysSmooth_187 : decode cX8_laysSmooth 187 = .ok (.iload_n 3, 1) := by decide +kernel
theorem dX8_laysSmooth_188 : decode cX8_laysSmooth 188 = .ok (.aload_n 0, 1) := by decide +kernel
theorem dX8_laysSmooth_189 : decode cX8_laysSmooth 189 = .ok (.getfield 60, 3) := by decide +kernel
theorem dX8_laysSmooth_192 : decode cX8_laysSmooth 192 = .ok (.iload 4, 2) := by decide +kernel
theorem dX8_laysSmooth_194 : decode cX8_laysSmooth 194 = .ok (.iaload, 1) := by decide +kernel
theorem dX8_laysSmooth_195 : decode cX8_laysSmooth 195 = .ok (.iastore, 1) := by decide +kernel
theorem dX8_laysSmooth_196 : decode cX8_laysSmooth 196 = .ok (.aload_n 0, 1) := by decide +kernel
theorem dX8_laysSmooth_197 : decode cX8_laysSmooth 197 = .ok (.getfield 109, 3) := by decide +kernel
theorem dX8_laysSmooth_200 : decode cX8_laysSmooth 200 = .ok (.iload_n 3, 1) := by decide +kernel
theorem dX8_laysSmooth_201 : decode cX8_laysSmooth 201 = .ok (.aload_n 0, 1) := by decide +kernel
theorem dX8_laysSmooth_202 : decode cX8_laysSmooth 202 = .ok (.getfield 63, 3) := by decide +kernel
theorem dX8_laysSmooth_205 : decode cX8_laysSmooth 205 = .ok (.iload 4, 2) := by decide +kernel
theorem dX8_laysSmooth_207 : decode cX8_laysSmooth 207 = .ok (.iaload, 1) := by decide +kernel
theorem dX8_laysSmooth_208 : decode cX8_laysSmooth 208 = .ok (.iastore, 1) := by decide +kernel
theorem dX8_laysSmooth_209 : decode cX8_laysSmooth 209 = .ok (.iload_n 2, 1) := by decide +kernel
theorem dX8_laysSmooth_210 : decode cX8_laysSmooth 210 = .ok (.aload_n 0, 1) := by decide +kernel
theorem dX8_laysSmooth_211 : decode cX8_laysSmooth 211 = .ok (.getfield 66, 3) := by decide +kernel
theorem dX8_laysSmooth_214 : decode cX8_laysSmooth 214 = .ok (.iload 4, 2) := by decide +kernel
theorem dX8_laysSmooth_216 : decode cX8_laysSmooth 216 = .ok (.iaload, 1) := by decide +kernel
theorem dX8_laysSmooth_217 : decode cX8_laysSmooth 217 = .ok (.isub, 1) := by decide +kernel
theorem dX8_laysSmooth_218 : decode cX8_laysSmooth 218 = .ok (.istore_n 2, 1) := by decide +kernel
theorem dX8_laysSmooth_219 : decode cX8_laysSmooth 219 = .ok (.iinc 3 1, 3) := by decide +kernel
theorem dX8_laysSmooth_222 : decode cX8_laysSmooth 222 = .ok (.goto (-168), 3) := by decide +kernel
theorem dX8_laysSmooth_225 : decode cX8_laysSmooth 225 = .ok (.iconst 1, 1) := by decide +kernel
theorem dX8_laysSmooth_226 : decode cX8_laysSmooth 226 = .ok (.ireturn, 1) := by decide +kernel
theorem dX8_smooth_0 : decode cX8_smooth 0 = .ok (.aload_n 0, 1) := by decide +kernel
theorem dX8_smooth_1 : decode cX8_smooth 1 = .ok (.iconst 0, 1) := by decide +kernel
theorem dX8_smooth_2 : decode cX8_smooth 2 = .ok (.putfield 112, 3) := by decide +kernel
theorem dX8_smooth_5 : decode cX8_smooth 5 = .ok (.iload_n 1, 1) := by decide +kernel
theorem dX8_smooth_6 : decode cX8_smooth 6 = .ok (.iconst 0, 1) := by decide +kernel
theorem dX8_smooth_7 : decode cX8_smooth 7 = .ok (.bipush 120, 2) := by decide +kernel
theorem dX8_smooth_9 : decode cX8_smooth 9 = .ok (.invokestatic 189, 3) := by decide +kernel
theorem dX8_smooth_12 : decode cX8_smooth 12 = .ok (.ifCond .eq 12, 3) := by decide +kernel
theorem dX8_smooth_15 : decode cX8_smooth 15 = .ok (.iload_n 2, 1) := by decide +kernel
theorem dX8_smooth_16 : decode cX8_smooth 16 = .ok (.iconst 0, 1) := by decide +kernel
theorem dX8_smooth_17 : decode cX8_smooth 17 = .ok (.iconst 1, 1) := by decide +kernel
theorem dX8_smooth_18 : decode cX8_smooth 18 = .ok (.invokestatic 189, 3) := by decide +kernel
theorem dX8_smooth_21 : decode cX8_smooth 21 = .ok (.ifCond .ne 5, 3) := by decide +kernel
theorem dX8_smooth_24 : decode cX8_smooth 24 = .ok (.iconst (-1), 1) := by decide +kernel
theorem dX8_smooth_25 : decode cX8_smooth 25 = .ok (.ireturn, 1) := by decide +kernel
theorem dX8_smooth_26 : decode cX8_smooth 26 = .ok (.aload_n 0, 1) := by decide +kernel
theorem dX8_smooth_27 : decode cX8_smooth 27 = .ok (.iload_n 1, 1) := by decide +kernel
theorem dX8_smooth_28 : decode cX8_smooth 28 = .ok (.invokevirtual 466, 3) := by decide +kernel
theorem dX8_smooth_31 : decode cX8_smooth 31 = .ok (.ifCond .ne 6, 3) := by decide +kernel
theorem dX8_smooth_34 : decode cX8_smooth 34 = .ok (.bipush (-2), 2) := by decide +kernel
theorem dX8_smooth_36 : decode cX8_smooth 36 = .ok (.ireturn, 1) := by decide +kernel
theorem dX8_smooth_37 : decode cX8_smooth 37 = .ok (.aload_n 0, 1) := by decide +kernel
theorem dX8_smooth_38 : decode cX8_smooth 38 = .ok (.getfield 463, 3) := by decide +kernel
theorem dX8_smooth_41 : decode cX8_smooth 41 = .ok (.istore_n 3, 1) := by decide +kernel
theorem dX8_smooth_42 : decode cX8_smooth 42 = .ok (.iload_n 2, 1) := by decide +kernel
theorem dX8_smooth_43 : decode cX8_smooth 43 = .ok (.ifCond .ne 7, 3) := by decide +kernel
theorem dX8_smooth_46 : decode cX8_smooth 46 = .ok (.iload_n 3, 1) := by decide +kernel
theorem dX8_smooth_47 : decode cX8_smooth 47 = .ok (.goto 10, 3) := by decide +kernel
theorem dX8_smooth_50 : decode cX8_smooth 50 = .ok (.iload_n 3, 1) := by decide +kernel
theorem dX8_smooth_51 : decode cX8_smooth 51 = .ok (.aload_n 0, 1) := by decide +kernel
theorem dX8_smooth_52 : decode cX8_smooth 52 = .ok (.iconst 0, 1) := by decide +kernel
theorem dX8_smooth_53 : decode cX8_smooth 53 = .ok (.invokevirtual 428, 3) := by decide +kernel
theorem dX8_smooth_56 : decode cX8_smooth 56 = .ok (.isub, 1) := by decide +kernel
theorem dX8_smooth_57 : decode cX8_smooth 57 = .ok (.ireturn, 1) := by decide +kernel
theorem dX8_smoothed_0 : decode cX8_smoothed 0 = .ok (.aload_n 0, 1) := by decide +kernel
theorem dX8_smoothed_1 : decode cX8_smoothed 1 = .ok (.iconst 0, 1) := by decide +kernel
theorem dX8_smoothed_2 : decode cX8_smoothed 2 = .ok (.putfield 112, 3) := by decide +kernel
theorem dX8_smoothed_5 : decode cX8_smoothed 5 = .ok (.iload_n 1, 1) := by decide +kernel
theorem dX8_smoothed_6 : decode cX8_smoothed 6 = .ok (.iconst 0, 1) := by decide +kernel
theorem dX8_smoothed_7 : decode cX8_smoothed 7 = .ok (.bipush 120, 2) := by decide +kernel
theorem dX8_smoothed_9 : decode cX8_smoothed 9 = .ok (.invokestatic 189, 3) := by decide +kernel
theorem dX8_smoothed_12 : decode cX8_smoothed 12 = .ok (.ifCond .eq 28, 3) := by decide +kernel
theorem dX8_smoothed_15 : decode cX8_smoothed 15 = .ok (.aload_n 0, 1) := by decide +kernel
theorem dX8_smoothed_16 : decode cX8_smoothed 16 = .ok (.iload_n 2, 1) := by decide +kernel
theorem dX8_smoothed_17 : decode cX8_smoothed 17 = .ok (.invokevirtual 392, 3) := by decide +kernel
theorem dX8_smoothed_20 : decode cX8_smoothed 20 = .ok (.ifCond .eq 20, 3) := by decide +kernel
theorem dX8_smoothed_23 : decode cX8_smoothed 23 = .ok (.iload_n 3, 1) := by decide +kernel
theorem dX8_smoothed_24 : decode cX8_smoothed 24 = .ok (.iconst 0, 1) := by decide +kernel
theorem dX8_smoothed_25 : decode cX8_smoothed 25 = .ok (.iconst 3, 1) := by decide +kernel
theorem dX8_smoothed_26 : decode cX8_smoothed 26 = .ok (.invokestatic 189, 3) := by decide +kernel
theorem dX8_smoothed_29 : decode cX8_smoothed 29 = .ok (.ifCond .eq 11, 3) := by decide +kernel
theorem dX8_smoothed_32 : decode cX8_smoothed 32 = .ok (.aload_n 0, 1) := by decide +kernel
theorem dX8_smoothed_33 : decode cX8_smoothed 33 = .ok (.iload_n 1, 1) := by decide +kernel
theorem dX8_smoothed_34 : decode cX8_smoothed 34 = .ok (.invokevirtual 466, 3) := by decide +kernel
theorem dX8_smoothed_37 : decode cX8_smoothed 37 = .ok (.ifCond .ne 6, 3) := by decide +kernel
theorem dX8_smoothed_40 : decode cX8_smoothed 40 = .ok (.ldc 251, 2) := by decide +kernel
theorem dX8_smoothed_42 : decode cX8_smoothed 42 = .ok (.ireturn, 1) := by decide +kernel
theorem dX8_smoothed_43 : decode cX8_smoothed 43 = .ok (.iload_n 3, 1) := by decide +kernel
theorem dX8_smoothed_44 : decode cX8_smoothed 44 = .ok (.iconst 2, 1) := by decide +kernel
theorem dX8_smoothed_45 : decode cX8_smoothed 45 = .ok (.if_icmp .ge 23, 3) := by decide +kernel
theorem dX8_smoothed_48 : decode cX8_smoothed 48 = .ok (.iload_n 3, 1) := by decide +kernel
theorem dX8_smoothed_49 : decode cX8_smoothed 49 = .ok (.ifCond .ne 12, 3) := by decide +kernel
theorem dX8_smoothed_52 : decode cX8_smoothed 52 = .ok (.aload_n 0, 1) := by decide +kernel
theorem dX8_smoothed_53 : decode cX8_smoothed 53 = .ok (.getfield 106, 3) := by decide +kernel
theorem dX8_smoothed_56 : decode cX8_smoothed 56 = .ok (.iload_n 2, 1) := by decide +kernel
theorem dX8_smoothed_57 : decode cX8_smoothed 57 = .ok (.iaload, 1) := by decide +kernel
theorem dX8_smoothed_58 : decode cX8_smoothed 58 = .ok (.goto 9, 3) := by decide +kernel
theorem dX8_smoothed_61 : decode cX8_smoothed 61 = .ok (.aload_n 0, 1) := by decide +kernel
theorem dX8_smoothed_62 : decode cX8_smoothed 62 = .ok (.getfield 109, 3) := by decide +kernel
theorem dX8_smoothed_65 : decode cX8_smoothed 65 = .ok (.iload_n 2, 1) := by decide +kernel
theorem dX8_smoothed_66 : decode cX8_smoothed 66 = .ok (.iaload, 1) := by decide +kernel
theorem dX8_smoothed_67 : decode cX8_smoothed 67 = .ok (.ireturn, 1) := by decide +kernel
theorem dX8_smoothed_68 : decode cX8_smoothed 68 = .ok (.aload_n 0, 1) := by decide +kernel
theorem dX8_smoothed_69 : decode cX8_smoothed 69 = .ok (.iload_n 2, 1) := by decide +kernel
theorem dX8_smoothed_70 : decode cX8_smoothed 70 = .ok (.invokevirtual 245, 3) := by decide +kernel
theorem dX8_smoothed_73 : decode cX8_smoothed 73 = .ok (.iconst 0, 1) := by decide +kernel
theorem dX8_smoothed_74 : decode cX8_smoothed 74 = .ok (.istore 4, 2) := by decide +kernel
theorem dX8_smoothed_76 : decode cX8_smoothed 76 = .ok (.aload_n 0, 1) := by decide +kernel
theorem dX8_smoothed_77 : decode cX8_smoothed 77 = .ok (.getfield 60, 3) := by decide +kernel
theorem dX8_smoothed_80 : decode cX8_smoothed 80 = .ok (.iload 4, 2) := by decide +kernel
theorem dX8_smoothed_82 : decode cX8_smoothed 82 = .ok (.iaload, 1) := by decide +kernel
theorem dX8_smoothed_83 : decode cX8_smoothed 83 = .ok (.aload_n 0, 1) := by decide +kernel
theorem dX8_smoothed_84 : decode cX8_smoothed 84 = .ok (.getfield 106, 3) := by decide +kernel
theorem dX8_smoothed_87 : decode cX8_smoothed 87 = .ok (.iload_n 2, 1) := by decide +kernel
theorem dX8_smoothed_88 : decode cX8_smoothed 88 = .ok (.iaload, 1) := by decide +kernel
theorem dX8_smoothed_89 : decode cX8_smoothed 89 = .ok (.if_icmp .ne 19, 3) := by decide +kernel
theorem dX8_smoothed_92 : decode cX8_smoothed 92 = .ok (.aload_n 0, 1) := by decide +kernel
theorem dX8_smoothed_93 : decode cX8_smoothed 93 = .ok (.getfield 63, 3) := by decide +kernel
theorem dX8_smoothed_96 : decode cX8_smoothed 96 = .ok (.iload 4, 2) := by decide +kernel
theorem dX8_smoothed_98 : decode cX8_smoothed 98 = .ok (.iaload, 1) := by decide +kernel
theorem dX8_smoothed_99 : decode cX8_smoothed 99 = .ok (.aload_n 0, 1) := by decide +kernel
theorem dX8_smoothed_100 : decode cX8_smoothed 100 = .ok (.getfield 109, 3) := by decide +kernel
theorem dX8_smoothed_103 : decode cX8_smoothed 103 = .ok (.iload_n 2, 1) := by decide +kernel
theorem dX8_smoothed_104 : decode cX8_smoothed 104 = .ok (.iaload, 1) := by decide +kernel
theorem dX8_smoothed_105 : decode cX8_smoothed 105 = .ok (.if_icmp .eq 9, 3) := by decide +kernel
theorem dX8_smoothed_108 : decode cX8_smoothed 108 = .ok (.iinc 4 1, 3) := by decide +kernel
theorem dX8_smoothed_111 : decode cX8_smoothed 111 = .ok (.goto (-35), 3) := by decide +kernel
theorem dX8_smoothed_114 : decode cX8_smoothed 114 = .ok (.iload_n 3, 1) := by decide +kernel
theorem dX8_smoothed_115 : decode cX8_smoothed 115 = .ok (.iconst 2, 1) := by decide +kernel
theorem dX8_smoothed_116 : decode cX8_smoothed 116 = .ok (.if_icmp .ne 13, 3) := by decide +kernel
theorem dX8_smoothed_119 : decode cX8_smoothed 119 = .ok (.aload_n 0, 1) := by decide +kernel
theorem dX8_smoothed_120 : decode cX8_smoothed 120 = .ok (.getfield 66, 3) := by decide +kernel
theorem dX8_smoothed_123 : decode cX8_smoothed 123 = .ok (.iload 4, 2) := by decide +kernel
theorem dX8_smoothed_125 : decode cX8_smoothed 125 = .ok (.iaload, 1) := by decide +kernel
theorem dX8_smoothed_126 : decode cX8_smoothed 126 = .ok (.goto 9, 3) := by decide +kernel
theorem dX8_smoothed_129 : decode cX8_smoothed 129 = .ok (.aload_n 0, 1) := by decide +kernel
theorem dX8_smoothed_130 : decode cX8_smoothed 130 = .ok (.iload 4, 2) := by decide +kernel
theorem dX8_smoothed_132 : decode cX8_smoothed 132 = .ok (.invokevirtual 410, 3) := by decide +kernel
theorem dX8_smoothed_135 : decode cX8_smoothed 135 = .ok (.ireturn, 1) := by decide +kernel
theorem dX8_single_0 : decode cX8_single 0 = .ok (.aload_n 0, 1) := by decide +kernel
theorem dX8_single_1 : decode cX8_single 1 = .ok (.iconst 0, 1) := by decide +kernel
theorem dX8_single_2 : decode cX8_single 2 = .ok (.putfield 112, 3) := by decide +kernel
theorem dX8_single_5 : decode cX8_single 5 = .ok (.aload_n 0, 1) := by decide +kernel
theorem dX8_single_6 : decode cX8_single 6 = .ok (.iload_n 1, 1) := by decide +kernel
theorem dX8_single_7 : decode cX8_single 7 = .ok (.invokevirtual 389, 3) := by decide +kernel
theorem dX8_single_10 : decode cX8_single 10 = .ok (.ifCond .eq 21, 3) := by decide +kernel
theorem dX8_single_13 : decode cX8_single 13 = .ok (.aload_n 0, 1) := by decide +kernel
theorem dX8_single_14 : decode cX8_single 14 = .ok (.getfield 42, 3) := by decide +kernel
theorem dX8_single_17 : decode cX8_single 17 = .ok (.iload_n 1, 1) := by decide +kernel
theorem dX8_single_18 : decode cX8_single 18 = .ok (.iaload, 1) := by decide +kernel
theorem dX8_single_19 : decode cX8_single 19 = .ok (.ifCond .ge 12, 3) := by decide +kernel
theorem dX8_single_22 : decode cX8_single 22 = .ok (.iload_n 2, 1) := by decide +kernel
theorem dX8_single_23 : decode cX8_single 23 = .ok (.iconst 0, 1) := by decide +kernel
theorem dX8_single_24 : decode cX8_single 24 = .ok (.iconst 2, 1) := by decide +kernel
theorem dX8_single_25 : decode cX8_single 25 = .ok (.invokestatic 189, 3) := by decide +kernel
theorem dX8_single_28 : decode cX8_single 28 = .ok (.ifCond .ne 6, 3) := by decide +kernel
theorem dX8_single_31 : decode cX8_single 31 = .ok (.ldc 251, 2) := by decide +kernel
theorem dX8_single_33 : decode cX8_single 33 = .ok (.ireturn, 1) := by decide +kernel
theorem dX8_single_34 : decode cX8_single 34 = .ok (.aload_n 0, 1) := by decide +kernel
theorem dX8_single_35 : decode cX8_single 35 = .ok (.getfield 33, 3) := by decide +kernel
theorem dX8_single_38 : decode cX8_single 38 = .ok (.iload_n 1, 1) := by decide +kernel
theorem dX8_single_39 : decode cX8_single 39 = .ok (.iaload, 1) := by decide +kernel
theorem dX8_single_40 : decode cX8_single 40 = .ok (.ifCond .lt 7, 3) := by decide +kernel
theorem dX8_single_43 : decode cX8_single 43 = .ok (.iconst (-1), 1) := by decide +kernel
theorem dX8_single_44 : decode cX8_single 44 = .ok (.goto 4, 3) := by decide +kernel
theorem dX8_single_47 : decode cX8_single 47 = .ok (.iconst 1, 1) := by decide +kernel
theorem dX8_single_48 : decode cX8_single 48 = .ok (.istore_n 3, 1) := by decide +kernel
theorem dX8_single_49 : decode cX8_single 49 = .ok (.aload_n 0, 1) := by decide +kernel
theorem dX8_single_50 : decode cX8_single 50 = .ok (.getfield 26, 3) := by decide +kernel
theorem dX8_single_53 : decode cX8_single 53 = .ok (.iload_n 1, 1) := by decide +kernel
theorem dX8_single_54 : decode cX8_single 54 = .ok (.iaload, 1) := by decide +kernel
theorem dX8_single_55 : decode cX8_single 55 = .ok (.iconst 2, 1) := by decide +kernel
theorem dX8_single_56 : decode cX8_single 56 = .ok (.if_icmp .ge 8, 3) := by decide +kernel
theorem dX8_single_59 : decode cX8_single 59 = .ok (.bipush 14, 2) := by decide +kernel
theorem dX8_single_61 : decode cX8_single 61 = .ok (.goto 20, 3) := by decide +kernel
theorem dX8_single_64 : decode cX8_single 64 = .ok (.aload_n 0, 1) := by decide +kernel
theorem dX8_single_65 : decode cX8_single 65 = .ok (.getfield 26, 3) := by decide +kernel
theorem dX8_single_68 : decode cX8_single 68 = .ok (.iload_n 1, 1) := by decide +kernel
theorem dX8_single_69 : decode cX8_single 69 = .ok (.iaload, 1) := by decide +kernel
theorem dX8_single_70 : decode cX8_single 70 = .ok (.iconst 2, 1) := by decide +kernel
theorem dX8_single_71 : decode cX8_single 71 = .ok (.if_icmp .ne 8, 3) := by decide +kernel
theorem dX8_single_74 : decode cX8_single 74 = .ok (.bipush 15, 2) := by decide +kernel
theorem dX8_single_76 : decode cX8_single 76 = .ok (.goto 5, 3) := by decide +kernel
theorem dX8_single_79 : decode cX8_single 79 = .ok (.bipush 17, 2) := by decide +kernel
theorem dX8_single_81 : decode cX8_single 81 = .ok (.istore 4, 2) := by decide +kernel
theorem dX8_single_83 : decode cX8_single 83 = .ok (.bipush (-2), 2) := by decide +kernel
theorem dX8_single_85 : decode cX8_single 85 = .ok (.aload_n 0, 1) := by decide +kernel
theorem dX8_single_86 : decode cX8_single 86 = .ok (.getfield 33, 3) := by decide +kernel
theorem dX8_single_89 : decode cX8_single 89 = .ok (.iload_n 1, 1) := by decide +kernel
theorem dX8_single_90 : decode cX8_single 90 = .ok (.iaload, 1) := by decide +kernel
theorem dX8_single_91 : decode cX8_single 91 = .ok (.imul, 1) := by decide +kernel
theorem dX8_single_92 : decode cX8_single 92 = .ok (.iload_n 3, 1) := by decide +kernel
theorem dX8_single_93 : decode cX8_single 93 = .ok (.imul, 1) := by decide +kernel
theorem dX8_single_94 : decode cX8_single 94 = .ok (.istore 5, 2) := by decide +kernel
theorem dX8_single_96 : decode cX8_single 96 = .ok (.iload 5, 2) := by decide +kernel
theorem dX8_single_98 : decode cX8_single 98 = .ok (.iload 4, 2) := by decide +kernel
theorem dX8_single_100 : decode cX8_single 100 = .ok (.if_icmp .le 8, 3) := by decide +kernel
theorem dX8_single_103 : decode cX8_single 103 = .ok (.iload 5, 2) := by decide +kernel
theorem dX8_single_105 : decode cX8_single 105 = .ok (.goto 5, 3) := by decide +kernel
theorem dX8_single_108 : decode cX8_single 108 = .ok (.iload 4, 2) := by decide +kernel
theorem dX8_single_110 : decode cX8_single 110 = .ok (.istore 6, 2) := by decide +kernel
theorem dX8_single_112 : decode cX8_single 112 = .ok (.iload_n 2, 1) := by decide +kernel
theorem dX8_single_113 : decode cX8_single 113 = .ok (.ifCond .ne 7, 3) := by decide +kernel
theorem dX8_single_116 : decode cX8_single 116 = .ok (.iload_n 3, 1) := by decide +kernel
theorem dX8_single_117 : decode cX8_single 117 = .ok (.goto 26, 3) := by decide +kernel
theorem dX8_single_120 : decode cX8_single 120 = .ok (.iload_n 2, 1) := by decide +kernel
theorem dX8_single_121 : decode cX8_single 121 = .ok (.iconst 1, 1) := by decide +kernel
theorem dX8_single_122 : decode cX8_single 122 = .ok (.if_icmp .ne 8, 3) := by decide +kernel
theorem dX8_single_125 : decode cX8_single 125 = .ok (.iload 6, 2) := by decide +kernel
theorem dX8_single_127 : decode cX8_single 127 = .ok (.goto 16, 3) := by decide +kernel
theorem dX8_single_130 : decode cX8_single 130 = .ok (.iconst 2, 1) := by decide +kernel
theorem dX8_single_131 : decode cX8_single 131 = .ok (.aload_n 0, 1) := by decide +kernel
theorem dX8_single_132 : decode cX8_single 132 = .ok (.getfield 33, 3) := by decide +kernel
theorem dX8_single_135 : decode cX8_single 135 = .ok (.iload_n 1, 1) := by decide +kernel
theorem dX8_single_136 : decode cX8_single 136 = .ok (.iaload, 1) := by decide +kernel
theorem dX8_single_137 : decode cX8_single 137 = .ok (.imul, 1) := by decide +kernel
theorem dX8_single_138 : decode cX8_single 138 = .ok (.iload_n 3, 1) := by decide +kernel
theorem dX8_single_139 : decode cX8_single 139 = .ok (.iload 6, 2) := by decide +kernel
theorem dX8_single_141 : decode cX8_single 141 = .ok (.imul, 1) := by decide +kernel
theorem dX8_single_142 : decode cX8_single 142 = .ok (.iadd, 1) := by decide +kernel
theorem dX8_single_143 : decode cX8_single 143 = .ok (.ireturn, 1) := by decide +kernel
theorem dX8_extreme_0 : decode cX8_extreme 0 = .ok (.aload_n 0, 1) := by decide +kernel
theorem dX8_extreme_1 : decode cX8_extreme 1 = .ok (.iconst 0, 1) := by decide +kernel
theorem dX8_extreme_2 : decode cX8_extreme 2 = .ok (.putfield 112, 3) := by decide +kernel
theorem dX8_extreme_5 : decode cX8_extreme 5 = .ok (.aload_n 0, 1) := by decide +kernel
theorem dX8_extreme_6 : decode cX8_extreme 6 = .ok (.iload_n 1, 1) := by decide +kernel
theorem dX8_extreme_7 : decode cX8_extreme 7 = .ok (.invokevirtual 392, 3) := by decide +kernel
theorem dX8_extreme_10 : decode cX8_extreme 10 = .ok (.ifCond .eq 12, 3) := by decide +kernel
theorem dX8_extreme_13 : decode cX8_extreme 13 = .ok (.iload_n 2, 1) := by decide +kernel
theorem dX8_extreme_14 : decode cX8_extreme 14 = .ok (.iconst 0, 1) := by decide +kernel
theorem dX8_extreme_15 : decode cX8_extreme 15 = .ok (.iconst 1, 1) := by decide +kernel
theorem dX8_extreme_16 : decode cX8_extreme 16 = .ok (.invokestatic 189, 3) := by decide +kernel
theorem dX8_extreme_19 : decode cX8_extreme 19 = .ok (.ifCond .ne 5, 3) := by decide +kernel
theorem dX8_extreme_22 : decode cX8_extreme 22 = .ok (.iconst (-1), 1) := by decide +kernel
theorem dX8_extreme_23 : decode cX8_extreme 23 = .ok (.ireturn, 1) := by decide +kernel
theorem dX8_extreme_24 : decode cX8_extreme 24 = .ok (.aload_n 0, 1) := by decide +kernel
theorem dX8_extreme_25 : decode cX8_extreme 25 = .ok (.iload_n 1, 1) := by decide +kernel
theorem dX8_extreme_26 : decode cX8_extreme 26 = .ok (.invokevirtual 245, 3) := by decide +kernel
theorem dX8_extreme_29 : decode cX8_extreme 29 = .ok (.aload_n 0, 1) := by decide +kernel
theorem dX8_extreme_30 : decode cX8_extreme 30 = .ok (.invokevirtual 248, 3) := by decide +kernel
theorem dX8_extreme_33 : decode cX8_extreme 33 = .ok (.istore_n 3, 1) := by decide +kernel
theorem dX8_extreme_34 : decode cX8_extreme 34 = .ok (.iload_n 3, 1) := by decide +kernel
theorem dX8_extreme_35 : decode cX8_extreme 35 = .ok (.iconst (-1), 1) := by decide +kernel
theorem dX8_extreme_36 : decode cX8_extreme 36 = .ok (.if_icmp .ne 6, 3) := by decide +kernel
theorem dX8_extreme_39 : decode cX8_extreme 39 = .ok (.bipush (-2), 2) := by decide +kernel
theorem dX8_extreme_41 : decode cX8_extreme 41 = .ok (.ireturn, 1) := by decide +kernel
theorem dX8_extreme_42 : decode cX8_extreme 42 = .ok (.aload_n 0, 1) := by decide +kernel
theorem dX8_extreme_43 : decode cX8_extreme 43 = .ok (.getfield 173, 3) := by decide +kernel
theorem dX8_extreme_46 : decode cX8_extreme 46 = .ok (.istore 4, 2) := by decide +kernel
theorem dX8_extreme_48 : decode cX8_extreme 48 = .ok (.aload_n 0, 1) := by decide +kernel
theorem dX8_extreme_49 : decode cX8_extreme 49 = .ok (.getfield 173, 3) := by decide +kernel
theorem dX8_extreme_52 : decode cX8_extreme 52 = .ok (.iconst 1, 1) := by decide +kernel
theorem dX8_extreme_53 : decode cX8_extreme 53 = .ok (.iadd, 1) := by decide +kernel
theorem dX8_extreme_54 : decode cX8_extreme 54 = .ok (.istore 5, 2) := by decide +kernel
theorem dX8_extreme_56 : decode cX8_extreme 56 = .ok (.iload 5, 2) := by decide +kernel
theorem dX8_extreme_58 : decode cX8_extreme 58 = .ok (.aload_n 0, 1) := by decide +kernel
theorem dX8_extreme_59 : decode cX8_extreme 59 = .ok (.getfield 176, 3) := by decide +kernel
theorem dX8_extreme_62 : decode cX8_extreme 62 = .ok (.if_icmp .gt 69, 3) := by decide +kernel
theorem dX8_extreme_65 : decode cX8_extreme 65 = .ok (.aload_n 0, 1) := by decide +kernel
theorem dX8_extreme_66 : decode cX8_extreme 66 = .ok (.iload 5, 2) := by decide +kernel
theorem dX8_extreme_68 : decode cX8_extreme 68 = .ok (.aload_n 0, 1) := by decide +kernel
theorem dX8_extreme_69 : decode cX8_extreme 69 = .ok (.getfield 60, 3) := by decide +kernel
theorem dX8_extreme_72 : decode cX8_extreme 72 = .ok (.iload_n 3, 1) := by decide +kernel
theorem dX8_extreme_73 : decode cX8_extreme 73 = .ok (.iaload, 1) := by decide +kernel
theorem dX8_extreme_74 : decode cX8_extreme 74 = .ok (.aload_n 0, 1) := by decide +kernel
theorem dX8_extreme_75 : decode cX8_extreme 75 = .ok (.getfield 63, 3) := by decide +kernel
theorem dX8_extreme_78 : decode cX8_extreme 78 = .ok (.iload_n 3, 1) := by decide +kernel
theorem dX8_extreme_79 : decode cX8_extreme 79 = .ok (.iaload, 1) := by decide +kernel
theorem dX8_extreme_80 : decode cX8_extreme 80 = .ok (.invokevirtual 186, 3) := by decide +kernel
theorem dX8_extreme_83 : decode cX8_extreme 83 = .ok (.aload_n 0, 1) := by decide +kernel
theorem dX8_extreme_84 : decode cX8_extreme 84 = .ok (.iload 4, 2) := by decide +kernel
theorem dX8_extreme_86 : decode cX8_extreme 86 = .ok (.aload_n 0, 1) := by decide +kernel
theorem dX8_extreme_87 : decode cX8_extreme 87 = .ok (.getfield 60, 3) := by decide +kernel
theorem dX8_extreme_90 : decode cX8_extreme 90 = .ok (.iload_n 3, 1) := by decide +kernel
theorem dX8_extreme_91 : decode cX8_extreme 91 = .ok (.iaload, 1) := by decide +kernel
theorem dX8_extreme_92 : decode cX8_extreme 92 = .ok (.aload_n 0, 1) := by decide +kernel
theorem dX8_extreme_93 : decode cX8_extreme 93 = .ok (.getfield 63, 3) := by decide +kernel
theorem dX8_extreme_96 : decode cX8_extreme 96 = .ok (.iload_n 3, 1) := by decide +kernel
theorem dX8_extreme_97 : decode cX8_extreme 97 = .ok (.iaload, 1) := by decide +kernel
theorem dX8_extreme_98 : decode cX8_extreme 98 = .ok (.invokevirtual 186, 3) := by decide +kernel
theorem dX8_extreme_101 : decode cX8_extreme 101 = .ok (.isub, 1) := by decide +kernel
theorem dX8_extreme_102 : decode cX8_extreme 102 = .ok (.istore 6, 2) := by decide +kernel
theorem dX8_extreme_104 : decode cX8_extreme 104 = .ok (.iload_n 2, 1) := by decide +kernel
theorem dX8_extreme_105 : decode cX8_extreme 105 = .ok (.ifCond .ne 11, 3) := by decide +kernel
theorem dX8_extreme_108 : decode cX8_extreme 108 = .ok (.iload 6, 2) := by decide +kernel
theorem dX8_extreme_110 : decode cX8_extreme 110 = .ok (.ifCond .ge 15, 3) := by decide +kernel
theorem dX8_extreme_113 : decode cX8_extreme 113 = .ok (.goto 8, 3) := by decide +kernel
theorem dX8_extreme_116 : decode cX8_extreme 116 = .ok (.iload 6, 2) := by decide +kernel
theorem dX8_extreme_118 : decode cX8_extreme 118 = .ok (.ifCond .le 7, 3) := by decide +kernel
theorem dX8_extreme_121 : decode cX8_extreme 121 = .ok (.iload 5, 2) := by decide +kernel
theorem dX8_extreme_123 : decode cX8_extreme 123 = .ok (.istore 4, 2) := by decide +kernel
theorem dX8_extreme_125 : decode cX8_extreme 125 = .ok (.iinc 5 1, 3) := by decide +kernel
theorem dX8_extreme_128 : decode cX8_extreme 128 = .ok (.goto (-72), 3) := by decide +kernel
theorem dX8_extreme_131 : decode cX8_extreme 131 = .ok (.iload 4, 2) := by decide +kernel
theorem dX8_extreme_133 : decode cX8_extreme 133 = .ok (.ireturn, 1) := by decide +kernel
theorem dX8_alone_0 : decode cX8_alone 0 = .ok (.aload_n 0, 1) := by decide +kernel
theorem dX8_alone_1 : decode cX8_alone 1 = .ok (.iconst 0, 1) := by decide +kernel
theorem dX8_alone_2 : decode cX8_alone 2 = .ok (.putfield 112, 3) := by decide +kernel
theorem dX8_alone_5 : decode cX8_alone 5 = .ok (.iload_n 1, 1) := by decide +kernel
theorem dX8_alone_6 : decode cX8_alone 6 = .ok (.iconst 0, 1) := by decide +kernel
theorem dX8_alone_7 : decode cX8_alone 7 = .ok (.iconst 1, 1) := by decide +kernel
theorem dX8_alone_8 : decode cX8_alone 8 = .ok (.invokestatic 189, 3) := by decide +kernel
theorem dX8_alone_11 : decode cX8_alone 11 = .ok (.ifCond .ne 5, 3) := by decide +kernel
theorem dX8_alone_14 : decode cX8_alone 14 = .ok (.iconst (-1), 1) := by decide +kernel
theorem dX8_alone_15 : decode cX8_alone 15 = .ok (.ireturn, 1) := by decide +kernel
theorem dX8_alone_16 : decode cX8_alone 16 = .ok (.iconst 0, 1) := by decide +kernel
theorem dX8_alone_17 : decode cX8_alone 17 = .ok (.istore_n 2, 1) := by decide +kernel
theorem dX8_alone_18 : decode cX8_alone 18 = .ok (.bipush (-2), 2) := by decide +kernel
theorem dX8_alone_20 : decode cX8_alone 20 = .ok (.istore_n 3, 1) := by decide +kernel
theorem dX8_alone_21 : decode cX8_alone 21 = .ok (.iconst 0, 1) := by decide +kernel
theorem dX8_alone_22 : decode cX8_alone 22 = .ok (.istore 4, 2) := by decide +kernel
theorem dX8_alone_24 : decode cX8_alone 24 = .ok (.iload 4, 2) := by decide +kernel
theorem dX8_alone_26 : decode cX8_alone 26 = .ok (.aload_n 0, 1) := by decide +kernel
theorem dX8_alone_27 : decode cX8_alone 27 = .ok (.getfield 133, 3) := by decide +kernel
theorem dX8_alone_30 : decode cX8_alone 30 = .ok (.if_icmp .ge 47, 3) := by decide +kernel
theorem dX8_alone_33 : decode cX8_alone 33 = .ok (.aload_n 0, 1) := by decide +kernel
theorem dX8_alone_34 : decode cX8_alone 34 = .ok (.iload 4, 2) := by decide +kernel
theorem dX8_alone_36 : decode cX8_alone 36 = .ok (.invokevirtual 136, 3) := by decide +kernel
theorem dX8_alone_39 : decode cX8_alone 39 = .ok (.ifCond .eq 32, 3) := by decide +kernel
theorem dX8_alone_42 : decode cX8_alone 42 = .ok (.aload_n 0, 1) := by decide +kernel
theorem dX8_alone_43 : decode cX8_alone 43 = .ok (.getfield 42, 3) := by decide +kernel
theorem dX8_alone_46 : decode cX8_alone 46 = .ok (.iload 4, 2) := by decide +kernel
theorem dX8_alone_48 : decode cX8_alone 48 = .ok (.iaload, 1) := by decide +kernel
theorem dX8_alone_49 : decode cX8_alone 49 = .ok (.ifCond .lt 6, 3) := by decide +kernel
theorem dX8_alone_52 : decode cX8_alone 52 = .ok (.goto 19, 3) := by decide +kernel
theorem dX8_alone_55 : decode cX8_alone 55 = .ok (.iinc 2 1, 3) := by decide +kernel
theorem dX8_alone_58 : decode cX8_alone 58 = .ok (.iload_n 3, 1) := by decide +kernel
theorem dX8_alone_59 : decode cX8_alone 59 = .ok (.bipush (-2), 2) := by decide +kernel
theorem dX8_alone_61 : decode cX8_alone 61 = .ok (.if_icmp .ne 8, 3) := by decide +kernel
theorem dX8_alone_64 : decode cX8_alone 64 = .ok (.iload 4, 2) := by decide +kernel
theorem dX8_alone_66 : decode cX8_alone 66 = .ok (.goto 4, 3) := by decide +kernel
theorem dX8_alone_69 : decode cX8_alone 69 = .ok (.iload_n 3, 1) := by decide +kernel
theorem dX8_alone_70 : decode cX8_alone 70 = .ok (.istore_n 3, 1) := by decide +kernel
theorem dX8_alone_71 : decode cX8_alone 71 = .ok (.iinc 4 1, 3) := by decide +kernel
theorem dX8_alone_74 : decode cX8_alone 74 = .ok (.goto (-50), 3) := by decide +kernel
theorem dX8_alone_77 : decode cX8_alone 77 = .ok (.iload_n 1, 1) := by decide +kernel
theorem dX8_alone_78 : decode cX8_alone 78 = .ok (.ifCond .ne 7, 3) := by decide +kernel
theorem dX8_alone_81 : decode cX8_alone 81 = .ok (.iload_n 2, 1) := by decide +kernel
theorem dX8_alone_82 : decode cX8_alone 82 = .ok (.goto 4, 3) := by decide +kernel
theorem dX8_alone_85 : decode cX8_alone 85 = .ok (.iload_n 3, 1) := by decide +kernel
theorem dX8_alone_86 : decode cX8_alone 86 = .ok (.ireturn, 1) := by decide +kernel
theorem dX8_noteMany_0 : decode cX8_noteMany 0 = .ok (.iconst 0, 1) := by decide +kernel
theorem dX8_noteMany_1 : decode cX8_noteMany 1 = .ok (.istore_n 1, 1) := by decide +kernel
theorem dX8_noteMany_2 : decode cX8_noteMany 2 = .ok (.iconst 0, 1) := by decide +kernel
theorem dX8_noteMany_3 : decode cX8_noteMany 3 = .ok (.istore_n 2, 1) := by decide +kernel
theorem dX8_noteMany_4 : decode cX8_noteMany 4 = .ok (.iload_n 2, 1) := by decide +kernel
theorem dX8_noteMany_5 : decode cX8_noteMany 5 = .ok (.aload_n 0, 1) := by decide +kernel
theorem dX8_noteMany_6 : decode cX8_noteMany 6 = .ok (.getfield 133, 3) := by decide +kernel
theorem dX8_noteMany_9 : decode cX8_noteMany 9 = .ok (.if_icmp .ge 26, 3) := by decide +kernel
theorem dX8_noteMany_12 : decode cX8_noteMany 12 = .ok (.iload_n 1, 1) := by decide +kernel
theorem dX8_noteMany_13 : decode cX8_noteMany 13 = .ok (.aload_n 0, 1) := by decide +kernel
theorem dX8_noteMany_14 : decode cX8_noteMany 14 = .ok (.getfield 29, 3) := by decide +kernel
theorem dX8_noteMany_17 : decode cX8_noteMany 17 = .ok (.iload_n 2, 1) := by decide +kernel
theorem dX8_noteMany_18 : decode cX8_noteMany 18 = .ok (.baload, 1) := by decide +kernel
theorem dX8_noteMany_19 : decode cX8_noteMany 19 = .ok (.ifCond .eq 7, 3) := by decide +kernel
theorem dX8_noteMany_22 : decode cX8_noteMany 22 = .ok (.iconst 1, 1) := by decide +kernel
theorem dX8_noteMany_23 : decode cX8_noteMany 23 = .ok (.goto 4, 3) := by decide +kernel
theorem dX8_noteMany_26 : decode cX8_noteMany 26 = .ok (.iconst 0, 1) := by decide +kernel
theorem dX8_noteMany_27 : decode cX8_noteMany 27 = .ok (.iadd, 1) := by decide +kernel
theorem dX8_noteMany_28 : decode cX8_noteMany 28 = .ok (.istore_n 1, 1) := by decide +kernel
theorem dX8_noteMany_29 : decode cX8_noteMany 29 = .ok (.iinc 2 1, 3) := by decide +kernel
theorem dX8_noteMany_32 : decode cX8_noteMany 32 = .ok (.goto (-28), 3) := by decide +kernel
theorem dX8_noteMany_35 : decode cX8_noteMany 35 = .ok (.iload_n 1, 1) := by decide +kernel
theorem dX8_noteMany_36 : decode cX8_noteMany 36 = .ok (.ireturn, 1) := by decide +kernel
theorem dX8_partsTold_0 : decode cX8_partsTold 0 = .ok (.aload_n 0, 1) := by decide +kernel
theorem dX8_partsTold_1 : decode cX8_partsTold 1 = .ok (.getfield 119, 3) := by decide +kernel
theorem dX8_partsTold_4 : decode cX8_partsTold 4 = .ok (.ifCond .le 10, 3) := by decide +kernel
theorem dX8_partsTold_7 : decode cX8_partsTold 7 = .ok (.aload_n 0, 1) := by decide +kernel
theorem dX8_partsTold_8 : decode cX8_partsTold 8 = .ok (.getfield 119, 3) := by decide +kernel
theorem dX8_partsTold_11 : decode cX8_partsTold 11 = .ok (.goto 34, 3) := by decide +kernel
theorem dX8_partsTold_14 : decode cX8_partsTold 14 = .ok (.aload_n 0, 1) := by decide +kernel
theorem dX8_partsTold_15 : decode cX8_partsTold 15 = .ok (.getfield 13, 3) := by decide +kernel
theorem dX8_partsTold_18 : decode cX8_partsTold 18 = .ok (.bipush 8, 2) := by decide +kernel
theorem dX8_partsTold_20 : decode cX8_partsTold 20 = .ok (.if_icmp .ne 21, 3) := by decide +kernel
theorem dX8_partsTold_23 : decode cX8_partsTold 23 = .ok (.aload_n 0, 1) := by decide +kernel
theorem dX8_partsTold_24 : decode cX8_partsTold 24 = .ok (.getfield 7, 3) := by decide +kernel
theorem dX8_partsTold_27 : decode cX8_partsTold 27 = .ok (.iconst 3, 1) := by decide +kernel
theorem dX8_partsTold_28 : decode cX8_partsTold 28 = .ok (.irem, 1) := by decide +kernel
theorem dX8_partsTold_29 : decode cX8_partsTold 29 = .ok (.ifCond .ne 12, 3) := by decide +kernel
theorem dX8_partsTold_32 : decode cX8_partsTold 32 = .ok (.aload_n 0, 1) := by decide +kernel
theorem dX8_partsTold_33 : decode cX8_partsTold 33 = .ok (.getfield 7, 3) := by decide +kernel
theorem dX8_partsTold_36 : decode cX8_partsTold 36 = .ok (.iconst 3, 1) := by decide +kernel
theorem dX8_partsTold_37 : decode cX8_partsTold 37 = .ok (.idiv, 1) := by decide +kernel
theorem dX8_partsTold_38 : decode cX8_partsTold 38 = .ok (.goto 7, 3) := by decide +kernel
theorem dX8_partsTold_41 : decode cX8_partsTold 41 = .ok (.aload_n 0, 1) := by decide +kernel
theorem dX8_partsTold_42 : decode cX8_partsTold 42 = .ok (.getfield 7, 3) := by decide +kernel
theorem dX8_partsTold_45 : decode cX8_partsTold 45 = .ok (.ireturn, 1) := by decide +kernel
theorem dX8_count_0 : decode cX8_count 0 = .ok (.aload_n 0, 1) := by decide +kernel
theorem dX8_count_1 : decode cX8_count 1 = .ok (.iconst 0, 1) := by decide +kernel
theorem dX8_count_2 : decode cX8_count 2 = .ok (.putfield 112, 3) := by decide +kernel
theorem dX8_count_5 : decode cX8_count 5 = .ok (.iload_n 1, 1) := by decide +kernel
theorem dX8_count_6 : decode cX8_count 6 = .ok (.tableswitch 138 0 10 #[58, 63, 68, 73, 78, 108, 113, 118, 123, 128, 133], 58) := by decide +kernel
theorem dX8_count_64 : decode cX8_count 64 = .ok (.aload_n 0, 1) := by decide +kernel
theorem dX8_count_65 : decode cX8_count 65 = .ok (.getfield 371, 3) := by decide +kernel
theorem dX8_count_68 : decode cX8_count 68 = .ok (.ireturn, 1) := by decide +kernel
theorem dX8_count_69 : decode cX8_count 69 = .ok (.aload_n 0, 1) := by decide +kernel
theorem dX8_count_70 : decode cX8_count 70 = .ok (.getfield 133, 3) := by decide +kernel
theorem dX8_count_73 : decode cX8_count 73 = .ok (.ireturn, 1) := by decide +kernel
theorem dX8_count_74 : decode cX8_count 74 = .ok (.aload_n 0, 1) := by decide +kernel
theorem dX8_count_75 : decode cX8_count 75 = .ok (.invokevirtual 469, 3) := by decide +kernel
theorem dX8_count_78 : decode cX8_count 78 = .ok (.ireturn, 1) := by decide +kernel
theorem dX8_count_79 : decode cX8_count 79 = .ok (.aload_n 0, 1) := by decide +kernel
theorem dX8_count_80 : decode cX8_count 80 = .ok (.getfield 149, 3) := by decide +kernel
theorem dX8_count_83 : decode cX8_count 83 = .ok (.ireturn, 1) := by decide +kernel
theorem dX8_count_84 : decode cX8_count 84 = .ok (.aload_n 0, 1) := by decide +kernel
theorem dX8_count_85 : decode cX8_count 85 = .ok (.getfield 133, 3) := by decide +kernel
theorem dX8_count_88 : decode cX8_count 88 = .ok (.ifCond .ne 7, 3) := by decide +kernel
theorem dX8_count_91 : decode cX8_count 91 = .ok (.iconst 0, 1) := by decide +kernel
theorem dX8_count_92 : decode cX8_count 92 = .ok (.goto 21, 3) := by decide +kernel
theorem dX8_count_95 : decode cX8_count 95 = .ok (.aload_n 0, 1) := by decide +kernel
theorem dX8_count_96 : decode cX8_count 96 = .ok (.getfield 36, 3) := by decide +kernel
theorem dX8_count_99 : decode cX8_count 99 = .ok (.aload_n 0, 1) := by decide +kernel
theorem dX8_count_100 : decode cX8_count 100 = .ok (.getfield 133, 3) := by decide +kernel
theorem dX8_count_103 : decode cX8_count 103 = .ok (.iconst 1, 1) := by decide +kernel
theorem dX8_count_104 : decode cX8_count 104 = .ok (.isub, 1) := by decide +kernel
theorem dX8_count_105 : decode cX8_count 105 = .ok (.iaload, 1) := by decide +kernel
theorem dX8_count_106 : decode cX8_count 106 = .ok (.aload_n 0, 1) := by decide +kernel
theorem dX8_count_107 : decode cX8_count 107 = .ok (.invokevirtual 126, 3) := by decide +kernel
theorem dX8_count_110 : decode cX8_count 110 = .ok (.idiv, 1) := by decide +kernel
theorem dX8_count_111 : decode cX8_count 111 = .ok (.iconst 1, 1) := by decide +kernel
theorem dX8_count_112 : decode cX8_count 112 = .ok (.iadd, 1) := by decide +kernel
theorem dX8_count_113 : decode cX8_count 113 = .ok (.ireturn, 1) := by decide +kernel
theorem dX8_count_114 : decode cX8_count 114 = .ok (.aload_n 0, 1) := by decide +kernel
theorem dX8_count_115 : decode cX8_count 115 = .ok (.getfield 7, 3) := by decide +kernel
theorem dX8_count_118 : decode cX8_count 118 = .ok (.ireturn, 1) := by decide +kernel
theorem dX8_count_119 : decode cX8_count 119 = .ok (.aload_n 0, 1) := by decide +kernel
theorem dX8_count_120 : decode cX8_count 120 = .ok (.getfield 13, 3) := by decide +kernel
theorem dX8_count_123 : decode cX8_count 123 = .ok (.ireturn, 1) := by decide +kernel
theorem dX8_count_124 : decode cX8_count 124 = .ok (.aload_n 0, 1) := by decide +kernel
theorem dX8_count_125 : decode cX8_count 125 = .ok (.getfield 20, 3) := by decide +kernel
theorem dX8_count_128 : decode cX8_count 128 = .ok (.ireturn, 1) := by decide +kernel
theorem dX8_count_129 : decode cX8_count 129 = .ok (.aload_n 0, 1) := by decide +kernel
theorem dX8_count_130 : decode cX8_count 130 = .ok (.invokevirtual 472, 3) := by decide +kernel
theorem dX8_count_133 : decode cX8_count 133 = .ok (.ireturn, 1) := by decide +kernel
theorem dX8_count_134 : decode cX8_count 134 = .ok (.aload_n 0, 1) := by decide +kernel
theorem dX8_count_135 : decode cX8_count 135 = .ok (.getfield 374, 3) := by decide +kernel
theorem dX8_count_138 : decode cX8_count 138 = .ok (.ireturn, 1) := by decide +kernel
theorem dX8_count_139 : decode cX8_count 139 = .ok (.aload_n 0, 1) := by decide +kernel
theorem dX8_count_140 : decode cX8_count 140 = .ok (.getfield 273, 3) := by decide +kernel
theorem dX8_count_143 : decode cX8_count 143 = .ok (.ireturn, 1) := by decide +kernel
theorem dX8_count_144 : decode cX8_count 144 = .ok (.iload_n 1, 1) := by decide +kernel
theorem dX8_count_145 : decode cX8_count 145 = .ok (.bipush 11, 2) := by decide +kernel
theorem dX8_count_147 : decode cX8_count 147 = .ok (.bipush 14, 2) := by decide +kernel
theorem dX8_count_149 : decode cX8_count 149 = .ok (.invokestatic 189, 3) := by decide +kernel
theorem dX8_count_152 : decode cX8_count 152 = .ok (.ifCond .eq 15, 3) := by decide +kernel
theorem dX8_count_155 : decode cX8_count 155 = .ok (.aload_n 0, 1) := by decide +kernel
theorem dX8_count_156 : decode cX8_count 156 = .ok (.getfield 23, 3) := by decide +kernel
theorem dX8_count_159 : decode cX8_count 159 = .ok (.iload_n 1, 1) := by decide +kernel
theorem dX8_count_160 : decode cX8_count 160 = .ok (.bipush 11, 2) := by decide +kernel
theorem dX8_count_162 : decode cX8_count 162 = .ok (.isub, 1) := by decide +kernel
theorem dX8_count_163 : decode cX8_count 163 = .ok (.iaload, 1) := by decide +kernel
theorem dX8_count_164 : decode cX8_count 164 = .ok (.goto 4, 3) := by decide +kernel
theorem dX8_count_167 : decode cX8_count 167 = .ok (.iconst (-1), 1) := by decide +kernel
theorem dX8_count_168 : decode cX8_count 168 = .ok (.ireturn, 1) := by decide +kernel
