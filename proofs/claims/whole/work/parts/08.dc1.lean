theorem dX8_metreHere_116 : decode cX8_metreHere 116 = .ok (.aload_n 0, 1) := by decide +kernel
theorem dX8_metreHere_117 : decode cX8_metreHere 117 = .ok (.getfield 297, 3) := by decide +kernel
theorem dX8_metreHere_120 : decode cX8_metreHere 120 = .ok (.ifCond .eq 4, 3) := by decide +kernel
theorem dX8_metreHere_123 : decode cX8_metreHere 123 = .ok (.return_, 1) := by decide +kernel
theorem dX8_metreHere_124 : decode cX8_metreHere 124 = .ok (.aload_n 0, 1) := by decide +kernel
theorem dX8_metreHere_125 : decode cX8_metreHere 125 = .ok (.aload_n 0, 1) := by decide +kernel
theorem dX8_metreHere_126 : decode cX8_metreHere 126 = .ok (.getfield 291, 3) := by decide +kernel
theorem dX8_metreHere_129 : decode cX8_metreHere 129 = .ok (.putfield 325, 3) := by decide +kernel
theorem dX8_metreHere_132 : decode cX8_metreHere 132 = .ok (.aload_n 0, 1) := by decide +kernel
theorem dX8_metreHere_133 : decode cX8_metreHere 133 = .ok (.iconst 1, 1) := by decide +kernel
theorem dX8_metreHere_134 : decode cX8_metreHere 134 = .ok (.putfield 316, 3) := by decide +kernel
theorem dX8_metreHere_137 : decode cX8_metreHere 137 = .ok (.aload_n 0, 1) := by decide +kernel
theorem dX8_metreHere_138 : decode cX8_metreHere 138 = .ok (.invokevirtual 307, 3) := by decide +kernel
theorem dX8_metreHere_141 : decode cX8_metreHere 141 = .ok (.return_, 1) := by decide +kernel
theorem dX8_splitHere_0 : decode cX8_splitHere 0 = .ok (.aload_n 0, 1) := by decide +kernel
theorem dX8_splitHere_1 : decode cX8_splitHere 1 = .ok (.aload_n 0, 1) := by decide +kernel
theorem dX8_splitHere_2 : decode cX8_splitHere 2 = .ok (.getfield 310, 3) := by decide +kernel
theorem dX8_splitHere_5 : decode cX8_splitHere 5 = .ok (.ifCond .ne 7, 3) := by decide +kernel
theorem dX8_splitHere_8 : decode cX8_splitHere 8 = .ok (.iconst 1, 1) := by decide +kernel
theorem dX8_splitHere_9 : decode cX8_splitHere 9 = .ok (.goto 4, 3) := by decide +kernel
theorem dX8_splitHere_12 : decode cX8_splitHere 12 = .ok (.iconst 0, 1) := by decide +kernel
theorem dX8_splitHere_13 : decode cX8_splitHere 13 = .ok (.iconst 1, 1) := by decide +kernel
theorem dX8_splitHere_14 : decode cX8_splitHere 14 = .ok (.invokevirtual 303, 3) := by decide +kernel
theorem dX8_splitHere_17 : decode cX8_splitHere 17 = .ok (.aload_n 0, 1) := by decide +kernel
theorem dX8_splitHere_18 : decode cX8_splitHere 18 = .ok (.aload_n 0, 1) := by decide +kernel
theorem dX8_splitHere_19 : decode cX8_splitHere 19 = .ok (.getfield 313, 3) := by decide +kernel
theorem dX8_splitHere_22 : decode cX8_splitHere 22 = .ok (.ifCond .ne 7, 3) := by decide +kernel
theorem dX8_splitHere_25 : decode cX8_splitHere 25 = .ok (.iconst 1, 1) := by decide +kernel
theorem dX8_splitHere_26 : decode cX8_splitHere 26 = .ok (.goto 4, 3) := by decide +kernel
theorem dX8_splitHere_29 : decode cX8_splitHere 29 = .ok (.iconst 0, 1) := by decide +kernel
theorem dX8_splitHere_30 : decode cX8_splitHere 30 = .ok (.iconst 3, 1) := by decide +kernel
theorem dX8_splitHere_31 : decode cX8_splitHere 31 = .ok (.invokevirtual 303, 3) := by decide +kernel
theorem dX8_splitHere_34 : decode cX8_splitHere 34 = .ok (.aload_n 0, 1) := by decide +kernel
theorem dX8_splitHere_35 : decode cX8_splitHere 35 = .ok (.getfield 297, 3) := by decide +kernel
theorem dX8_splitHere_38 : decode cX8_splitHere 38 = .ok (.ifCond .ne 7, 3) := by decide +kernel
theorem dX8_splitHere_41 : decode cX8_splitHere 41 = .ok (.aload_n 0, 1) := by decide +kernel
theorem dX8_splitHere_42 : decode cX8_splitHere 42 = .ok (.invokevirtual 307, 3) := by decide +kernel
theorem dX8_splitHere_45 : decode cX8_splitHere 45 = .ok (.aload_n 0, 1) := by decide +kernel
theorem dX8_splitHere_46 : decode cX8_splitHere 46 = .ok (.aload_n 0, 1) := by decide +kernel
theorem dX8_splitHere_47 : decode cX8_splitHere 47 = .ok (.getfield 294, 3) := by decide +kernel
theorem dX8_splitHere_50 : decode cX8_splitHere 50 = .ok (.iconst 2, 1) := by decide +kernel
theorem dX8_splitHere_51 : decode cX8_splitHere 51 = .ok (.if_icmp .ne 7, 3) := by decide +kernel
theorem dX8_splitHere_54 : decode cX8_splitHere 54 = .ok (.iconst 1, 1) := by decide +kernel
theorem dX8_splitHere_55 : decode cX8_splitHere 55 = .ok (.goto 4, 3) := by decide +kernel
theorem dX8_splitHere_58 : decode cX8_splitHere 58 = .ok (.iconst 0, 1) := by decide +kernel
theorem dX8_splitHere_59 : decode cX8_splitHere 59 = .ok (.iconst 1, 1) := by decide +kernel
theorem dX8_splitHere_60 : decode cX8_splitHere 60 = .ok (.invokevirtual 303, 3) := by decide +kernel
theorem dX8_splitHere_63 : decode cX8_splitHere 63 = .ok (.iconst 0, 1) := by decide +kernel
theorem dX8_splitHere_64 : decode cX8_splitHere 64 = .ok (.istore_n 1, 1) := by decide +kernel
theorem dX8_splitHere_65 : decode cX8_splitHere 65 = .ok (.iconst 0, 1) := by decide +kernel
theorem dX8_splitHere_66 : decode cX8_splitHere 66 = .ok (.istore_n 2, 1) := by decide +kernel
theorem dX8_splitHere_67 : decode cX8_splitHere 67 = .ok (.aload_n 0, 1) := by decide +kernel
theorem dX8_splitHere_68 : decode cX8_splitHere 68 = .ok (.getfield 297, 3) := by decide +kernel
theorem dX8_splitHere_71 : decode cX8_splitHere 71 = .ok (.ifCond .ne 88, 3) := by decide +kernel
theorem dX8_splitHere_74 : decode cX8_splitHere 74 = .ok (.aload_n 0, 1) := by decide +kernel
theorem dX8_splitHere_75 : decode cX8_splitHere 75 = .ok (.getfield 294, 3) := by decide +kernel
theorem dX8_splitHere_78 : decode cX8_splitHere 78 = .ok (.iconst 2, 1) := by decide +kernel
theorem dX8_splitHere_79 : decode cX8_splitHere 79 = .ok (.if_icmp .ne 80, 3) := by decide +kernel
theorem dX8_splitHere_82 : decode cX8_splitHere 82 = .ok (.aload_n 0, 1) := by decide +kernel
theorem dX8_splitHere_83 : decode cX8_splitHere 83 = .ok (.aload_n 0, 1) := by decide +kernel
theorem dX8_splitHere_84 : decode cX8_splitHere 84 = .ok (.getfield 291, 3) := by decide +kernel
theorem dX8_splitHere_87 : decode cX8_splitHere 87 = .ok (.iconst 1, 1) := by decide +kernel
theorem dX8_splitHere_88 : decode cX8_splitHere 88 = .ok (.bipush 12, 2) := by decide +kernel
theorem dX8_splitHere_90 : decode cX8_splitHere 90 = .ok (.invokestatic 189, 3) := by decide +kernel
theorem dX8_splitHere_93 : decode cX8_splitHere 93 = .ok (.ifCond .eq 26, 3) := by decide +kernel
theorem dX8_splitHere_96 : decode cX8_splitHere 96 = .ok (.iload_n 1, 1) := by decide +kernel
theorem dX8_splitHere_97 : decode cX8_splitHere 97 = .ok (.aload_n 0, 1) := by decide +kernel
theorem dX8_splitHere_98 : decode cX8_splitHere 98 = .ok (.getfield 291, 3) := by decide +kernel
theorem dX8_splitHere_101 : decode cX8_splitHere 101 = .ok (.iadd, 1) := by decide +kernel
theorem dX8_splitHere_102 : decode cX8_splitHere 102 = .ok (.aload_n 0, 1) := by decide +kernel
theorem dX8_splitHere_103 : decode cX8_splitHere 103 = .ok (.getfield 322, 3) := by decide +kernel
theorem dX8_splitHere_106 : decode cX8_splitHere 106 = .ok (.if_icmp .gt 13, 3) := by decide +kernel
theorem dX8_splitHere_109 : decode cX8_splitHere 109 = .ok (.iload_n 2, 1) := by decide +kernel
theorem dX8_splitHere_110 : decode cX8_splitHere 110 = .ok (.bipush 6, 2) := by decide +kernel
theorem dX8_splitHere_112 : decode cX8_splitHere 112 = .ok (.if_icmp .ge 7, 3) := by decide +kernel
theorem dX8_splitHere_115 : decode cX8_splitHere 115 = .ok (.iconst 1, 1) := by decide +kernel
theorem dX8_splitHere_116 : decode cX8_splitHere 116 = .ok (.goto 4, 3) := by decide +kernel
theorem dX8_splitHere_119 : decode cX8_splitHere 119 = .ok (.iconst 0, 1) := by decide +kernel
theorem dX8_splitHere_120 : decode cX8_splitHere 120 = .ok (.iconst 2, 1) := by decide +kernel
theorem dX8_splitHere_121 : decode cX8_splitHere 121 = .ok (.invokevirtual 303, 3) := by decide +kernel
theorem dX8_splitHere_124 : decode cX8_splitHere 124 = .ok (.aload_n 0, 1) := by decide +kernel
theorem dX8_splitHere_125 : decode cX8_splitHere 125 = .ok (.getfield 297, 3) := by decide +kernel
theorem dX8_splitHere_128 : decode cX8_splitHere 128 = .ok (.ifCond .eq 4, 3) := by decide +kernel
theorem dX8_splitHere_131 : decode cX8_splitHere 131 = .ok (.return_, 1) := by decide +kernel
theorem dX8_splitHere_132 : decode cX8_splitHere 132 = .ok (.aload_n 0, 1) := by decide +kernel
theorem dX8_splitHere_133 : decode cX8_splitHere 133 = .ok (.getfield 79, 3) := by decide +kernel
theorem dX8_splitHere_136 : decode cX8_splitHere 136 = .ok (.iload_n 2, 1) := by decide +kernel
theorem dX8_splitHere_137 : decode cX8_splitHere 137 = .ok (.aload_n 0, 1) := by decide +kernel
theorem dX8_splitHere_138 : decode cX8_splitHere 138 = .ok (.getfield 291, 3) := by decide +kernel
theorem dX8_splitHere_141 : decode cX8_splitHere 141 = .ok (.iastore, 1) := by decide +kernel
theorem dX8_splitHere_142 : decode cX8_splitHere 142 = .ok (.iinc 2 1, 3) := by decide +kernel
theorem dX8_splitHere_145 : decode cX8_splitHere 145 = .ok (.iload_n 1, 1) := by decide +kernel
theorem dX8_splitHere_146 : decode cX8_splitHere 146 = .ok (.aload_n 0, 1) := by decide +kernel
theorem dX8_splitHere_147 : decode cX8_splitHere 147 = .ok (.getfield 291, 3) := by decide +kernel
theorem dX8_splitHere_150 : decode cX8_splitHere 150 = .ok (.iadd, 1) := by decide +kernel
theorem dX8_splitHere_151 : decode cX8_splitHere 151 = .ok (.istore_n 1, 1) := by decide +kernel
theorem dX8_splitHere_152 : decode cX8_splitHere 152 = .ok (.aload_n 0, 1) := by decide +kernel
theorem dX8_splitHere_153 : decode cX8_splitHere 153 = .ok (.invokevirtual 307, 3) := by decide +kernel
theorem dX8_splitHere_156 : decode cX8_splitHere 156 = .ok (.goto (-89), 3) := by decide +kernel
theorem dX8_splitHere_159 : decode cX8_splitHere 159 = .ok (.aload_n 0, 1) := by decide +kernel
theorem dX8_splitHere_160 : decode cX8_splitHere 160 = .ok (.aload_n 0, 1) := by decide +kernel
theorem dX8_splitHere_161 : decode cX8_splitHere 161 = .ok (.bipush 59, 2) := by decide +kernel
theorem dX8_splitHere_163 : decode cX8_splitHere 163 = .ok (.invokevirtual 328, 3) := by decide +kernel
theorem dX8_splitHere_166 : decode cX8_splitHere 166 = .ok (.ifCond .eq 11, 3) := by decide +kernel
theorem dX8_splitHere_169 : decode cX8_splitHere 169 = .ok (.iload_n 1, 1) := by decide +kernel
theorem dX8_splitHere_170 : decode cX8_splitHere 170 = .ok (.aload_n 0, 1) := by decide +kernel
theorem dX8_splitHere_171 : decode cX8_splitHere 171 = .ok (.getfield 322, 3) := by decide +kernel
theorem dX8_splitHere_174 : decode cX8_splitHere 174 = .ok (.if_icmp .ne 7, 3) := by decide +kernel
theorem dX8_splitHere_177 : decode cX8_splitHere 177 = .ok (.iconst 1, 1) := by decide +kernel
theorem dX8_splitHere_178 : decode cX8_splitHere 178 = .ok (.goto 4, 3) := by decide +kernel
theorem dX8_splitHere_181 : decode cX8_splitHere 181 = .ok (.iconst 0, 1) := by decide +kernel
theorem dX8_splitHere_182 : decode cX8_splitHere 182 = .ok (.iconst 5, 1) := by decide +kernel
theorem dX8_splitHere_183 : decode cX8_splitHere 183 = .ok (.invokevirtual 303, 3) := by decide +kernel
theorem dX8_splitHere_186 : decode cX8_splitHere 186 = .ok (.aload_n 0, 1) := by decide +kernel
theorem dX8_splitHere_187 : decode cX8_splitHere 187 = .ok (.iload_n 2, 1) := by decide +kernel
theorem dX8_splitHere_188 : decode cX8_splitHere 188 = .ok (.putfield 313, 3) := by decide +kernel
theorem dX8_splitHere_191 : decode cX8_splitHere 191 = .ok (.return_, 1) := by decide +kernel
theorem dX8_kneeHere_0 : decode cX8_kneeHere 0 = .ok (.aload_n 0, 1) := by decide +kernel
theorem dX8_kneeHere_1 : decode cX8_kneeHere 1 = .ok (.aload_n 0, 1) := by decide +kernel
theorem dX8_kneeHere_2 : decode cX8_kneeHere 2 = .ok (.getfield 310, 3) := by decide +kernel
theorem dX8_kneeHere_5 : decode cX8_kneeHere 5 = .ok (.ifCond .ne 7, 3) := by decide +kernel
theorem dX8_kneeHere_8 : decode cX8_kneeHere 8 = .ok (.iconst 1, 1) := by decide +kernel
theorem dX8_kneeHere_9 : decode cX8_kneeHere 9 = .ok (.goto 4, 3) := by decide +kernel
theorem dX8_kneeHere_12 : decode cX8_kneeHere 12 = .ok (.iconst 0, 1) := by decide +kernel
theorem dX8_kneeHere_13 : decode cX8_kneeHere 13 = .ok (.iconst 1, 1) := by decide +kernel
theorem dX8_kneeHere_14 : decode cX8_kneeHere 14 = .ok (.invokevirtual 303, 3) := by decide +kernel
theorem dX8_kneeHere_17 : decode cX8_kneeHere 17 = .ok (.aload_n 0, 1) := by decide +kernel
theorem dX8_kneeHere_18 : decode cX8_kneeHere 18 = .ok (.aload_n 0, 1) := by decide +kernel
theorem dX8_kneeHere_19 : decode cX8_kneeHere 19 = .ok (.getfield 331, 3) := by decide +kernel
theorem dX8_kneeHere_22 : decode cX8_kneeHere 22 = .ok (.ifCond .ne 7, 3) := by decide +kernel
theorem dX8_kneeHere_25 : decode cX8_kneeHere 25 = .ok (.iconst 1, 1) := by decide +kernel
theorem dX8_kneeHere_26 : decode cX8_kneeHere 26 = .ok (.goto 4, 3) := by decide +kernel
theorem dX8_kneeHere_29 : decode cX8_kneeHere 29 = .ok (.iconst 0, 1) := by decide +kernel
theorem dX8_kneeHere_30 : decode cX8_kneeHere 30 = .ok (.iconst 3, 1) := by decide +kernel
theorem dX8_kneeHere_31 : decode cX8_kneeHere 31 = .ok (.invokevirtual 303, 3) := by decide +kernel
theorem dX8_kneeHere_34 : decode cX8_kneeHere 34 = .ok (.aload_n 0, 1) := by decide +kernel
theorem dX8_kneeHere_35 : decode cX8_kneeHere 35 = .ok (.getfield 297, 3) := by decide +kernel
theorem dX8_kneeHere_38 : decode cX8_kneeHere 38 = .ok (.ifCond .ne 7, 3) := by decide +kernel
theorem dX8_kneeHere_41 : decode cX8_kneeHere 41 = .ok (.aload_n 0, 1) := by decide +kernel
theorem dX8_kneeHere_42 : decode cX8_kneeHere 42 = .ok (.invokevirtual 307, 3) := by decide +kernel
theorem dX8_kneeHere_45 : decode cX8_kneeHere 45 = .ok (.aload_n 0, 1) := by decide +kernel
theorem dX8_kneeHere_46 : decode cX8_kneeHere 46 = .ok (.aload_n 0, 1) := by decide +kernel
theorem dX8_kneeHere_47 : decode cX8_kneeHere 47 = .ok (.iconst 4, 1) := by decide +kernel
theorem dX8_kneeHere_48 : decode cX8_kneeHere 48 = .ok (.bipush 24, 2) := by decide +kernel
theorem dX8_kneeHere_50 : decode cX8_kneeHere 50 = .ok (.invokevirtual 319, 3) := by decide +kernel
theorem dX8_kneeHere_53 : decode cX8_kneeHere 53 = .ok (.putfield 334, 3) := by decide +kernel
theorem dX8_kneeHere_56 : decode cX8_kneeHere 56 = .ok (.aload_n 0, 1) := by decide +kernel
theorem dX8_kneeHere_57 : decode cX8_kneeHere 57 = .ok (.iconst 1, 1) := by decide +kernel
theorem dX8_kneeHere_58 : decode cX8_kneeHere 58 = .ok (.putfield 331, 3) := by decide +kernel
theorem dX8_kneeHere_61 : decode cX8_kneeHere 61 = .ok (.return_, 1) := by decide +kernel
theorem dX8_wideHere_0 : decode cX8_wideHere 0 = .ok (.aload_n 0, 1) := by decide +kernel
theorem dX8_wideHere_1 : decode cX8_wideHere 1 = .ok (.aload_n 0, 1) := by decide +kernel
theorem dX8_wideHere_2 : decode cX8_wideHere 2 = .ok (.getfield 310, 3) := by decide +kernel
theorem dX8_wideHere_5 : decode cX8_wideHere 5 = .ok (.ifCond .ne 7, 3) := by decide +kernel
theorem dX8_wideHere_8 : decode cX8_wideHere 8 = .ok (.iconst 1, 1) := by decide +kernel
theorem dX8_wideHere_9 : decode cX8_wideHere 9 = .ok (.goto 4, 3) := by decide +kernel
theorem dX8_wideHere_12 : decode cX8_wideHere 12 = .ok (.iconst 0, 1) := by decide +kernel
theorem dX8_wideHere_13 : decode cX8_wideHere 13 = .ok (.iconst 1, 1) := by decide +kernel
theorem dX8_wideHere_14 : decode cX8_wideHere 14 = .ok (.invokevirtual 303, 3) := by decide +kernel
theorem dX8_wideHere_17 : decode cX8_wideHere 17 = .ok (.aload_n 0, 1) := by decide +kernel
theorem dX8_wideHere_18 : decode cX8_wideHere 18 = .ok (.getfield 297, 3) := by decide +kernel
theorem dX8_wideHere_21 : decode cX8_wideHere 21 = .ok (.ifCond .ne 7, 3) := by decide +kernel
theorem dX8_wideHere_24 : decode cX8_wideHere 24 = .ok (.aload_n 0, 1) := by decide +kernel
theorem dX8_wideHere_25 : decode cX8_wideHere 25 = .ok (.invokevirtual 307, 3) := by decide +kernel
theorem dX8_wideHere_28 : decode cX8_wideHere 28 = .ok (.aload_n 0, 1) := by decide +kernel
theorem dX8_wideHere_29 : decode cX8_wideHere 29 = .ok (.aload_n 0, 1) := by decide +kernel
theorem dX8_wideHere_30 : decode cX8_wideHere 30 = .ok (.getfield 294, 3) := by decide +kernel
theorem dX8_wideHere_33 : decode cX8_wideHere 33 = .ok (.iconst 2, 1) := by decide +kernel
theorem dX8_wideHere_34 : decode cX8_wideHere 34 = .ok (.if_icmp .ne 7, 3) := by decide +kernel
theorem dX8_wideHere_37 : decode cX8_wideHere 37 = .ok (.iconst 1, 1) := by decide +kernel
theorem dX8_wideHere_38 : decode cX8_wideHere 38 = .ok (.goto 4, 3) := by decide +kernel
theorem dX8_wideHere_41 : decode cX8_wideHere 41 = .ok (.iconst 0, 1) := by decide +kernel
theorem dX8_wideHere_42 : decode cX8_wideHere 42 = .ok (.iconst 1, 1) := by decide +kernel
theorem dX8_wideHere_43 : decode cX8_wideHere 43 = .ok (.invokevirtual 303, 3) := by decide +kernel
theorem dX8_wideHere_46 : decode cX8_wideHere 46 = .ok (.aload_n 0, 1) := by decide +kernel
theorem dX8_wideHere_47 : decode cX8_wideHere 47 = .ok (.getfield 291, 3) := by decide +kernel
theorem dX8_wideHere_50 : decode cX8_wideHere 50 = .ok (.invokestatic 337, 3) := by decide +kernel
theorem dX8_wideHere_53 : decode cX8_wideHere 53 = .ok (.istore_n 1, 1) := by decide +kernel
theorem dX8_wideHere_54 : decode cX8_wideHere 54 = .ok (.aload_n 0, 1) := by decide +kernel
theorem dX8_wideHere_55 : decode cX8_wideHere 55 = .ok (.iload_n 1, 1) := by decide +kernel
theorem dX8_wideHere_56 : decode cX8_wideHere 56 = .ok (.iconst (-1), 1) := by decide +kernel
theorem dX8_wideHere_57 : decode cX8_wideHere 57 = .ok (.if_icmp .eq 7, 3) := by decide +kernel
theorem dX8_wideHere_60 : decode cX8_wideHere 60 = .ok (.iconst 1, 1) := by decide +kernel
theorem dX8_wideHere_61 : decode cX8_wideHere 61 = .ok (.goto 4, 3) := by decide +kernel
theorem dX8_wideHere_64 : decode cX8_wideHere 64 = .ok (.iconst 0, 1) := by decide +kernel
theorem dX8_wideHere_65 : decode cX8_wideHere 65 = .ok (.iconst 2, 1) := by decide +kernel
theorem dX8_wideHere_66 : decode cX8_wideHere 66 = .ok (.invokevirtual 303, 3) := by decide +kernel
theorem dX8_wideHere_69 : decode cX8_wideHere 69 = .ok (.aload_n 0, 1) := by decide +kernel
theorem dX8_wideHere_70 : decode cX8_wideHere 70 = .ok (.aload_n 0, 1) := by decide +kernel
theorem dX8_wideHere_71 : decode cX8_wideHere 71 = .ok (.getfield 297, 3) := by decide +kernel
theorem dX8_wideHere_74 : decode cX8_wideHere 74 = .ok (.ifCond .ne 12, 3) := by decide +kernel
theorem dX8_wideHere_77 : decode cX8_wideHere 77 = .ok (.aload_n 0, 1) := by decide +kernel
theorem dX8_wideHere_78 : decode cX8_wideHere 78 = .ok (.getfield 94, 3) := by decide +kernel
theorem dX8_wideHere_81 : decode cX8_wideHere 81 = .ok (.iload_n 1, 1) := by decide +kernel
theorem dX8_wideHere_82 : decode cX8_wideHere 82 = .ok (.baload, 1) := by decide +kernel
theorem dX8_wideHere_83 : decode cX8_wideHere 83 = .ok (.ifCond .ne 7, 3) := by decide +kernel
theorem dX8_wideHere_86 : decode cX8_wideHere 86 = .ok (.iconst 1, 1) := by decide +kernel
theorem dX8_wideHere_87 : decode cX8_wideHere 87 = .ok (.goto 4, 3) := by decide +kernel
theorem dX8_wideHere_90 : decode cX8_wideHere 90 = .ok (.iconst 0, 1) := by decide +kernel
theorem dX8_wideHere_91 : decode cX8_wideHere 91 = .ok (.iconst 3, 1) := by decide +kernel
theorem dX8_wideHere_92 : decode cX8_wideHere 92 = .ok (.invokevirtual 303, 3) := by decide +kernel
theorem dX8_wideHere_95 : decode cX8_wideHere 95 = .ok (.aload_n 0, 1) := by decide +kernel
theorem dX8_wideHere_96 : decode cX8_wideHere 96 = .ok (.getfield 297, 3) := by decide +kernel
theorem dX8_wideHere_99 : decode cX8_wideHere 99 = .ok (.ifCond .eq 4, 3) := by decide +kernel
theorem dX8_wideHere_102 : decode cX8_wideHere 102 = .ok (.return_, 1) := by decide +kernel
theorem dX8_wideHere_103 : decode cX8_wideHere 103 = .ok (.aload_n 0, 1) := by decide +kernel
theorem dX8_wideHere_104 : decode cX8_wideHere 104 = .ok (.invokevirtual 307, 3) := by decide +kernel
theorem dX8_wideHere_107 : decode cX8_wideHere 107 = .ok (.aload_n 0, 1) := by decide +kernel
theorem dX8_wideHere_108 : decode cX8_wideHere 108 = .ok (.getfield 82, 3) := by decide +kernel
theorem dX8_wideHere_111 : decode cX8_wideHere 111 = .ok (.iload_n 1, 1) := by decide +kernel
theorem dX8_wideHere_112 : decode cX8_wideHere 112 = .ok (.aload_n 0, 1) := by decide +kernel
theorem dX8_wideHere_113 : decode cX8_wideHere 113 = .ok (.iconst 4, 1) := by decide +kernel
theorem dX8_wideHere_114 : decode cX8_wideHere 114 = .ok (.bipush 40, 2) := by decide +kernel
theorem dX8_wideHere_116 : decode cX8_wideHere 116 = .ok (.invokevirtual 319, 3) := by decide +kernel
theorem dX8_wideHere_119 : decode cX8_wideHere 119 = .ok (.iastore, 1) := by decide +kernel
theorem dX8_wideHere_120 : decode cX8_wideHere 120 = .ok (.aload_n 0, 1) := by decide +kernel
theorem dX8_wideHere_121 : decode cX8_wideHere 121 = .ok (.getfield 94, 3) := by decide +kernel
theorem dX8_wideHere_124 : decode cX8_wideHere 124 = .ok (.iload_n 1, 1) := by decide +kernel
theorem dX8_wideHere_125 : decode cX8_wideHere 125 = .ok (.iconst 1, 1) := by decide +kernel
theorem dX8_wideHere_126 : decode cX8_wideHere 126 = .ok (.bastore, 1) := by decide +kernel
theorem dX8_wideHere_127 : decode cX8_wideHere 127 = .ok (.return_, 1) := by decide +kernel
theorem dX8_positionHere_0 : decode cX8_positionHere 0 = .ok (.aload_n 0, 1) := by decide +kernel
theorem dX8_positionHere_1 : decode cX8_positionHere 1 = .ok (.getfield 288, 3) := by decide +kernel
theorem dX8_positionHere_4 : decode cX8_positionHere 4 = .ok (.istore_n 1, 1) := by decide +kernel
theorem dX8_positionHere_5 : decode cX8_positionHere 5 = .ok (.aload_n 0, 1) := by decide +kernel
theorem dX8_positionHere_6 : decode cX8_positionHere 6 = .ok (.bipush 45, 2) := by decide +kernel
theorem dX8_positionHere_8 : decode cX8_positionHere 8 = .ok (.invokevirtual 328, 3) := by decide +kernel
theorem dX8_positionHere_11 : decode cX8_positionHere 11 = .ok (.istore_n 2, 1) := by decide +kernel
theorem dX8_positionHere_12 : decode cX8_positionHere 12 = .ok (.iload_n 2, 1) := by decide +kernel
theorem dX8_positionHere_13 : decode cX8_positionHere 13 = .ok (.ifCond .eq 7, 3) := by decide +kernel
theorem dX8_positionHere_16 : decode cX8_positionHere 16 = .ok (.aload_n 0, 1) := by decide +kernel
theorem dX8_positionHere_17 : decode cX8_positionHere 17 = .ok (.invokevirtual 307, 3) := by decide +kernel
theorem dX8_positionHere_20 : decode cX8_positionHere 20 = .ok (.aload_n 0, 1) := by decide +kernel
theorem dX8_positionHere_21 : decode cX8_positionHere 21 = .ok (.aload_n 0, 1) := by decide +kernel
theorem dX8_positionHere_22 : decode cX8_positionHere 22 = .ok (.getfield 294, 3) := by decide +kernel
theorem dX8_positionHere_25 : decode cX8_positionHere 25 = .ok (.iconst 2, 1) := by decide +kernel
theorem dX8_positionHere_26 : decode cX8_positionHere 26 = .ok (.if_icmp .ne 7, 3) := by decide +kernel
theorem dX8_positionHere_29 : decode cX8_positionHere 29 = .ok (.iconst 1, 1) := by decide +kernel
theorem dX8_positionHere_30 : decode cX8_positionHere 30 = .ok (.goto 4, 3) := by decide +kernel
theorem dX8_positionHere_33 : decode cX8_positionHere 33 = .ok (.iconst 0, 1) := by decide +kernel
theorem dX8_positionHere_34 : decode cX8_positionHere 34 = .ok (.iconst 1, 1) := by decide +kernel
theorem dX8_positionHere_35 : decode cX8_positionHere 35 = .ok (.invokevirtual 303, 3) := by decide +kernel
theorem dX8_positionHere_38 : decode cX8_positionHere 38 = .ok (.aload_n 0, 1) := by decide +kernel
theorem dX8_positionHere_39 : decode cX8_positionHere 39 = .ok (.getfield 297, 3) := by decide +kernel
theorem dX8_positionHere_42 : decode cX8_positionHere 42 = .ok (.ifCond .ne 27, 3) := by decide +kernel
theorem dX8_positionHere_45 : decode cX8_positionHere 45 = .ok (.aload_n 0, 1) := by decide +kernel
theorem dX8_positionHere_46 : decode cX8_positionHere 46 = .ok (.getfield 291, 3) := by decide +kernel
theorem dX8_positionHere_49 : decode cX8_positionHere 49 = .ok (.bipush 12, 2) := by decide +kernel
theorem dX8_positionHere_51 : decode cX8_positionHere 51 = .ok (.if_icmp .le 18, 3) := by decide +kernel
theorem dX8_positionHere_54 : decode cX8_positionHere 54 = .ok (.aload_n 0, 1) := by decide +kernel
theorem dX8_positionHere_55 : decode cX8_positionHere 55 = .ok (.iconst 1, 1) := by decide +kernel
theorem dX8_positionHere_56 : decode cX8_positionHere 56 = .ok (.putfield 297, 3) := by decide +kernel
theorem dX8_positionHere_59 : decode cX8_positionHere 59 = .ok (.aload_n 0, 1) := by decide +kernel
theorem dX8_positionHere_60 : decode cX8_positionHere 60 = .ok (.iconst 2, 1) := by decide +kernel
theorem dX8_positionHere_61 : decode cX8_positionHere 61 = .ok (.putfield 300, 3) := by decide +kernel
theorem dX8_positionHere_64 : decode cX8_positionHere 64 = .ok (.aload_n 0, 1) := by decide +kernel
theorem dX8_positionHere_65 : decode cX8_positionHere 65 = .ok (.iload_n 1, 1) := by decide +kernel
theorem dX8_positionHere_66 : decode cX8_positionHere 66 = .ok (.putfield 76, 3) := by decide +kernel
theorem dX8_positionHere_69 : decode cX8_positionHere 69 = .ok (.iload_n 2, 1) := by decide +kernel
theorem dX8_positionHere_70 : decode cX8_positionHere 70 = .ok (.ifCond .eq 11, 3) := by decide +kernel
theorem dX8_positionHere_73 : decode cX8_positionHere 73 = .ok (.aload_n 0, 1) := by decide +kernel
theorem dX8_positionHere_74 : decode cX8_positionHere 74 = .ok (.getfield 291, 3) := by decide +kernel
theorem dX8_positionHere_77 : decode cX8_positionHere 77 = .ok (.ineg, 1) := by decide +kernel
theorem dX8_positionHere_78 : decode cX8_positionHere 78 = .ok (.goto 7, 3) := by decide +kernel
theorem dX8_positionHere_81 : decode cX8_positionHere 81 = .ok (.aload_n 0, 1) := by decide +kernel
theorem dX8_positionHere_82 : decode cX8_positionHere 82 = .ok (.getfield 291, 3) := by decide +kernel
theorem dX8_positionHere_85 : decode cX8_positionHere 85 = .ok (.istore_n 3, 1) := by decide +kernel
theorem dX8_positionHere_86 : decode cX8_positionHere 86 = .ok (.aload_n 0, 1) := by decide +kernel
theorem dX8_positionHere_87 : decode cX8_positionHere 87 = .ok (.getfield 297, 3) := by decide +kernel
theorem dX8_positionHere_90 : decode cX8_positionHere 90 = .ok (.ifCond .ne 7, 3) := by decide +kernel
theorem dX8_positionHere_93 : decode cX8_positionHere 93 = .ok (.aload_n 0, 1) := by decide +kernel
theorem dX8_positionHere_94 : decode cX8_positionHere 94 = .ok (.invokevirtual 307, 3) := by decide +kernel
theorem dX8_positionHere_97 : decode cX8_positionHere 97 = .ok (.iload_n 3, 1) := by decide +kernel
theorem dX8_positionHere_98 : decode cX8_positionHere 98 = .ok (.ireturn, 1) := by decide +kernel
theorem dX8_elementHere_0 : decode cX8_elementHere 0 = .ok (.aload_n 0, 1) := by decide +kernel
theorem dX8_elementHere_1 : decode cX8_elementHere 1 = .ok (.aload_n 0, 1) := by decide +kernel
theorem dX8_elementHere_2 : decode cX8_elementHere 2 = .ok (.getfield 310, 3) := by decide +kernel
theorem dX8_elementHere_5 : decode cX8_elementHere 5 = .ok (.bipush 64, 2) := by decide +kernel
theorem dX8_elementHere_7 : decode cX8_elementHere 7 = .ok (.if_icmp .ge 7, 3) := by decide +kernel
theorem dX8_elementHere_10 : decode cX8_elementHere 10 = .ok (.iconst 1, 1) := by decide +kernel
theorem dX8_elementHere_11 : decode cX8_elementHere 11 = .ok (.goto 4, 3) := by decide +kernel
theorem dX8_elementHere_14 : decode cX8_elementHere 14 = .ok (.iconst 0, 1) := by decide +kernel
theorem dX8_elementHere_15 : decode cX8_elementHere 15 = .ok (.iconst 4, 1) := by decide +kernel
theorem dX8_elementHere_16 : decode cX8_elementHere 16 = .ok (.invokevirtual 303, 3) := by decide +kernel
theorem dX8_elementHere_19 : decode cX8_elementHere 19 = .ok (.aload_n 0, 1) := by decide +kernel
theorem dX8_elementHere_20 : decode cX8_elementHere 20 = .ok (.getfield 297, 3) := by decide +kernel
theorem dX8_elementHere_23 : decode cX8_elementHere 23 = .ok (.ifCond .ne 7, 3) := by decide +kernel
theorem dX8_elementHere_26 : decode cX8_elementHere 26 = .ok (.aload_n 0, 1) := by decide +kernel
theorem dX8_elementHere_27 : decode cX8_elementHere 27 = .ok (.invokevirtual 307, 3) := by decide +kernel
theorem dX8_elementHere_30 : decode cX8_elementHere 30 = .ok (.aload_n 0, 1) := by decide +kernel
theorem dX8_elementHere_31 : decode cX8_elementHere 31 = .ok (.aload_n 0, 1) := by decide +kernel
theorem dX8_elementHere_32 : decode cX8_elementHere 32 = .ok (.getfield 294, 3) := by decide +kernel
theorem dX8_elementHere_35 : decode cX8_elementHere 35 = .ok (.iconst 2, 1) := by decide +kernel
theorem dX8_elementHere_36 : decode cX8_elementHere 36 = .ok (.if_icmp .ne 7, 3) := by decide +kernel
theorem dX8_elementHere_39 : decode cX8_elementHere 39 = .ok (.iconst 1, 1) := by decide +kernel
theorem dX8_elementHere_40 : decode cX8_elementHere 40 = .ok (.goto 4, 3) := by decide +kernel
theorem dX8_elementHere_43 : decode cX8_elementHere 43 = .ok (.iconst 0, 1) := by decide +kernel
theorem dX8_elementHere_44 : decode cX8_elementHere 44 = .ok (.iconst 1, 1) := by decide +kernel
theorem dX8_elementHere_45 : decode cX8_elementHere 45 = .ok (.invokevirtual 303, 3) := by decide +kernel
theorem dX8_elementHere_48 : decode cX8_elementHere 48 = .ok (.aload_n 0, 1) := by decide +kernel
theorem dX8_elementHere_49 : decode cX8_elementHere 49 = .ok (.getfield 291, 3) := by decide +kernel
theorem dX8_elementHere_52 : decode cX8_elementHere 52 = .ok (.invokestatic 337, 3) := by decide +kernel
theorem dX8_elementHere_55 : decode cX8_elementHere 55 = .ok (.istore_n 2, 1) := by decide +kernel
theorem dX8_elementHere_56 : decode cX8_elementHere 56 = .ok (.aload_n 0, 1) := by decide +kernel
theorem dX8_elementHere_57 : decode cX8_elementHere 57 = .ok (.iload_n 2, 1) := by decide +kernel
theorem dX8_elementHere_58 : decode cX8_elementHere 58 = .ok (.iconst (-1), 1) := by decide +kernel
theorem dX8_elementHere_59 : decode cX8_elementHere 59 = .ok (.if_icmp .eq 7, 3) := by decide +kernel
theorem dX8_elementHere_62 : decode cX8_elementHere 62 = .ok (.iconst 1, 1) := by decide +kernel
theorem dX8_elementHere_63 : decode cX8_elementHere 63 = .ok (.goto 4, 3) := by decide +kernel
theorem dX8_elementHere_66 : decode cX8_elementHere 66 = .ok (.iconst 0, 1) := by decide +kernel
theorem dX8_elementHere_67 : decode cX8_elementHere 67 = .ok (.iconst 2, 1) := by decide +kernel
theorem dX8_elementHere_68 : decode cX8_elementHere 68 = .ok (.invokevirtual 303, 3) := by decide +kernel
theorem dX8_elementHere_71 : decode cX8_elementHere 71 = .ok (.aload_n 0, 1) := by decide +kernel
theorem dX8_elementHere_72 : decode cX8_elementHere 72 = .ok (.getfield 322, 3) := by decide +kernel
theorem dX8_elementHere_75 : decode cX8_elementHere 75 = .ok (.aload_n 0, 1) := by decide +kernel
theorem dX8_elementHere_76 : decode cX8_elementHere 76 = .ok (.getfield 325, 3) := by decide +kernel
theorem dX8_elementHere_79 : decode cX8_elementHere 79 = .ok (.invokestatic 115, 3) := by decide +kernel
theorem dX8_elementHere_82 : decode cX8_elementHere 82 = .ok (.istore_n 3, 1) := by decide +kernel
theorem dX8_elementHere_83 : decode cX8_elementHere 83 = .ok (.aload_n 0, 1) := by decide +kernel
theorem dX8_elementHere_84 : decode cX8_elementHere 84 = .ok (.aload_n 0, 1) := by decide +kernel
theorem dX8_elementHere_85 : decode cX8_elementHere 85 = .ok (.getfield 297, 3) := by decide +kernel
theorem dX8_elementHere_88 : decode cX8_elementHere 88 = .ok (.ifCond .ne 18, 3) := by decide +kernel
theorem dX8_elementHere_91 : decode cX8_elementHere 91 = .ok (.aload_n 0, 1) := by decide +kernel
theorem dX8_elementHere_92 : decode cX8_elementHere 92 = .ok (.getfield 340, 3) := by decide +kernel
theorem dX8_elementHere_95 : decode cX8_elementHere 95 = .ok (.iload_n 3, 1) := by decide +kernel
theorem dX8_elementHere_96 : decode cX8_elementHere 96 = .ok (.irem, 1) := by decide +kernel
theorem dX8_elementHere_97 : decode cX8_elementHere 97 = .ok (.iload_n 2, 1) := by decide +kernel
theorem dX8_elementHere_98 : decode cX8_elementHere 98 = .ok (.invokestatic 146, 3) := by decide +kernel
theorem dX8_elementHere_101 : decode cX8_elementHere 101 = .ok (.iadd, 1) := by decide +kernel
theorem dX8_elementHere_102 : decode cX8_elementHere 102 = .ok (.iload_n 3, 1) := by decide +kernel
theorem dX8_elementHere_103 : decode cX8_elementHere 103 = .ok (.if_icmp .gt 7, 3) := by decide +kernel
theorem dX8_elementHere_106 : decode cX8_elementHere 106 = .ok (.iconst 1, 1) := by decide +kernel
theorem dX8_elementHere_107 : decode cX8_elementHere 107 = .ok (.goto 4, 3) := by decide +kernel
theorem dX8_elementHere_110 : decode cX8_elementHere 110 = .ok (.iconst 0, 1) := by decide +kernel
theorem dX8_elementHere_111 : decode cX8_elementHere 111 = .ok (.iconst 5, 1) := by decide +kernel
theorem dX8_elementHere_112 : decode cX8_elementHere 112 = .ok (.invokevirtual 303, 3) := by decide +kernel
theorem dX8_elementHere_115 : decode cX8_elementHere 115 = .ok (.aload_n 0, 1) := by decide +kernel
theorem dX8_elementHere_116 : decode cX8_elementHere 116 = .ok (.getfield 297, 3) := by decide +kernel
theorem dX8_elementHere_119 : decode cX8_elementHere 119 = .ok (.ifCond .eq 4, 3) := by decide +kernel
theorem dX8_elementHere_122 : decode cX8_elementHere 122 = .ok (.return_, 1) := by decide +kernel
theorem dX8_elementHere_123 : decode cX8_elementHere 123 = .ok (.aload_n 0, 1) := by decide +kernel
theorem dX8_elementHere_124 : decode cX8_elementHere 124 = .ok (.invokevirtual 307, 3) := by decide +kernel
theorem dX8_elementHere_127 : decode cX8_elementHere 127 = .ok (.aload_n 0, 1) := by decide +kernel
theorem dX8_elementHere_128 : decode cX8_elementHere 128 = .ok (.getfield 85, 3) := by decide +kernel
theorem dX8_elementHere_131 : decode cX8_elementHere 131 = .ok (.aload_n 0, 1) := by decide +kernel
theorem dX8_elementHere_132 : decode cX8_elementHere 132 = .ok (.getfield 310, 3) := by decide +kernel
theorem dX8_elementHere_135 : decode cX8_elementHere 135 = .ok (.iload_n 2, 1) := by decide +kernel
theorem dX8_elementHere_136 : decode cX8_elementHere 136 = .ok (.iastore, 1) := by decide +kernel
theorem dX8_elementHere_137 : decode cX8_elementHere 137 = .ok (.aload_n 0, 1) := by decide +kernel
theorem dX8_elementHere_138 : decode cX8_elementHere 138 = .ok (.getfield 88, 3) := by decide +kernel
theorem dX8_elementHere_141 : decode cX8_elementHere 141 = .ok (.aload_n 0, 1) := by decide +kernel
theorem dX8_elementHere_142 : decode cX8_elementHere 142 = .ok (.getfield 310, 3) := by decide +kernel
theorem dX8_elementHere_145 : decode cX8_elementHere 145 = .ok (.iload_n 1, 1) := by decide +kernel
theorem dX8_elementHere_146 : decode cX8_elementHere 146 = .ok (.bastore, 1) := by decide +kernel
theorem dX8_elementHere_147 : decode cX8_elementHere 147 = .ok (.aload_n 0, 1) := by decide +kernel
theorem dX8_elementHere_148 : decode cX8_elementHere 148 = .ok (.getfield 91, 3) := by decide +kernel
theorem dX8_elementHere_151 : decode cX8_elementHere 151 = .ok (.aload_n 0, 1) := by decide +kernel
theorem dX8_elementHere_152 : decode cX8_elementHere 152 = .ok (.getfield 310, 3) := by decide +kernel
theorem dX8_elementHere_155 : decode cX8_elementHere 155 = .ok (.iload_n 1, 1) := by decide +kernel
theorem dX8_elementHere_156 : decode cX8_elementHere 156 = .ok (.ifCond .eq 10, 3) := by decide +kernel
theorem dX8_elementHere_159 : decode cX8_elementHere 159 = .ok (.aload_n 0, 1) := by decide +kernel
theorem dX8_elementHere_160 : decode cX8_elementHere 160 = .ok (.invokevirtual 343, 3) := by decide +kernel
theorem dX8_elementHere_163 : decode cX8_elementHere 163 = .ok (.goto 4, 3) := by decide +kernel
theorem dX8_elementHere_166 : decode cX8_elementHere 166 = .ok (.iconst 0, 1) := by decide +kernel
theorem dX8_elementHere_167 : decode cX8_elementHere 167 = .ok (.iastore, 1) := by decide +kernel
theorem dX8_elementHere_168 : decode cX8_elementHere 168 = .ok (.aload_n 0, 1) := by decide +kernel
theorem dX8_elementHere_169 : decode cX8_elementHere 169 = .ok (.dup, 1) := by decide +kernel
theorem dX8_elementHere_170 : decode cX8_elementHere 170 = .ok (.getfield 340, 3) := by decide +kernel
theorem dX8_elementHere_173 : decode cX8_elementHere 173 = .ok (.iload_n 2, 1) := by decide +kernel
theorem dX8_elementHere_174 : decode cX8_elementHere 174 = .ok (.invokestatic 146, 3) := by decide +kernel
theorem dX8_elementHere_177 : decode cX8_elementHere 177 = .ok (.iadd, 1) := by decide +kernel
theorem dX8_elementHere_178 : decode cX8_elementHere 178 = .ok (.putfield 340, 3) := by decide +kernel
theorem dX8_elementHere_181 : decode cX8_elementHere 181 = .ok (.aload_n 0, 1) := by decide +kernel
theorem dX8_elementHere_182 : decode cX8_elementHere 182 = .ok (.dup, 1) := by decide +kernel
theorem dX8_elementHere_183 : decode cX8_elementHere 183 = .ok (.getfield 310, 3) := by decide +kernel
theorem dX8_elementHere_186 : decode cX8_elementHere 186 = .ok (.iconst 1, 1) := by decide +kernel
theorem dX8_elementHere_187 : decode cX8_elementHere 187 = .ok (.iadd, 1) := by decide +kernel
theorem dX8_elementHere_188 : decode cX8_elementHere 188 = .ok (.putfield 310, 3) := by decide +kernel
theorem dX8_elementHere_191 : decode cX8_elementHere 191 = .ok (.return_, 1) := by decide +kernel
theorem dX8_lineHere_0 : decode cX8_lineHere 0 = .ok (.aload_n 0, 1) := by decide +kernel
theorem dX8_lineHere_1 : decode cX8_lineHere 1 = .ok (.aload_n 0, 1) := by decide +kernel
theorem dX8_lineHere_2 : decode cX8_lineHere 2 = .ok (.getfield 294, 3) := by decide +kernel
theorem dX8_lineHere_5 : decode cX8_lineHere 5 = .ok (.iconst 1, 1) := by decide +kernel
theorem dX8_lineHere_6 : decode cX8_lineHere 6 = .ok (.if_icmp .ne 7, 3) := by decide +kernel
theorem dX8_lineHere_9 : decode cX8_lineHere 9 = .ok (.iconst 1, 1) := by decide +kernel
theorem dX8_lineHere_10 : decode cX8_lineHere 10 = .ok (.goto 4, 3) := by decide +kernel
theorem dX8_lineHere_13 : decode cX8_lineHere 13 = .ok (.iconst 0, 1) := by decide +kernel
theorem dX8_lineHere_14 : decode cX8_lineHere 14 = .ok (.iconst 1, 1) := by decide +kernel
theorem dX8_lineHere_15 : decode cX8_lineHere 15 = .ok (.invokevirtual 303, 3) := by decide +kernel
theorem dX8_lineHere_18 : decode cX8_lineHere 18 = .ok (.aload_n 0, 1) := by decide +kernel
theorem dX8_lineHere_19 : decode cX8_lineHere 19 = .ok (.getfield 297, 3) := by decide +kernel
theorem dX8_lineHere_22 : decode cX8_lineHere 22 = .ok (.ifCond .eq 4, 3) := by decide +kernel
theorem dX8_lineHere_25 : decode cX8_lineHere 25 = .ok (.return_, 1) := by decide +kernel
theorem dX8_lineHere_26 : decode cX8_lineHere 26 = .ok (.aload_n 0, 1) := by decide +kernel
theorem dX8_lineHere_27 : decode cX8_lineHere 27 = .ok (.getfield 291, 3) := by decide +kernel
theorem dX8_lineHere_30 : decode cX8_lineHere 30 = .ok (.istore_n 1, 1) := by decide +kernel
theorem dX8_lineHere_31 : decode cX8_lineHere 31 = .ok (.iload_n 1, 1) := by decide +kernel
theorem dX8_lineHere_32 : decode cX8_lineHere 32 = .ok (.ldc_w 346, 3) := by decide +kernel
theorem dX8_lineHere_35 : decode cX8_lineHere 35 = .ok (.if_icmp .ne 10, 3) := by decide +kernel
theorem dX8_lineHere_38 : decode cX8_lineHere 38 = .ok (.aload_n 0, 1) := by decide +kernel
theorem dX8_lineHere_39 : decode cX8_lineHere 39 = .ok (.invokevirtual 347, 3) := by decide +kernel
theorem dX8_lineHere_42 : decode cX8_lineHere 42 = .ok (.goto 84, 3) := by decide +kernel
theorem dX8_lineHere_45 : decode cX8_lineHere 45 = .ok (.iload_n 1, 1) := by decide +kernel
theorem dX8_lineHere_46 : decode cX8_lineHere 46 = .ok (.ldc_w 350, 3) := by decide +kernel
theorem dX8_lineHere_49 : decode cX8_lineHere 49 = .ok (.if_icmp .ne 10, 3) := by decide +kernel
theorem dX8_lineHere_52 : decode cX8_lineHere 52 = .ok (.aload_n 0, 1) := by decide +kernel
theorem dX8_lineHere_53 : decode cX8_lineHere 53 = .ok (.invokevirtual 351, 3) := by decide +kernel
theorem dX8_lineHere_56 : decode cX8_lineHere 56 = .ok (.goto 70, 3) := by decide +kernel
theorem dX8_lineHere_59 : decode cX8_lineHere 59 = .ok (.iload_n 1, 1) := by decide +kernel
theorem dX8_lineHere_60 : decode cX8_lineHere 60 = .ok (.ldc_w 354, 3) := by decide +kernel
theorem dX8_lineHere_63 : decode cX8_lineHere 63 = .ok (.if_icmp .ne 10, 3) := by decide +kernel
theorem dX8_lineHere_66 : decode cX8_lineHere 66 = .ok (.aload_n 0, 1) := by decide +kernel
theorem dX8_lineHere_67 : decode cX8_lineHere 67 = .ok (.invokevirtual 355, 3) := by decide +kernel
theorem dX8_lineHere_70 : decode cX8_lineHere 70 = .ok (.goto 56, 3) := by decide +kernel
theorem dX8_lineHere_73 : decode cX8_lineHere 73 = .ok (.iload_n 1, 1) := by decide +kernel
theorem dX8_lineHere_74 : decode cX8_lineHere 74 = .ok (.ldc_w 358, 3) := by decide +kernel
theorem dX8_lineHere_77 : decode cX8_lineHere 77 = .ok (.if_icmp .ne 10, 3) := by decide +kernel
theorem dX8_lineHere_80 : decode cX8_lineHere 80 = .ok (.aload_n 0, 1) := by decide +kernel
theorem dX8_lineHere_81 : decode cX8_lineHere 81 = .ok (.invokevirtual 359, 3) := by decide +kernel
theorem dX8_lineHere_84 : decode cX8_lineHere 84 = .ok (.goto 42, 3) := by decide +kernel
theorem dX8_lineHere_87 : decode cX8_lineHere 87 = .ok (.iload_n 1, 1) := by decide +kernel
theorem dX8_lineHere_88 : decode cX8_lineHere 88 = .ok (.ldc_w 362, 3) := by decide +kernel
theorem dX8_lineHere_91 : decode cX8_lineHere 91 = .ok (.if_icmp .eq 10, 3) := by decide +kernel
theorem dX8_lineHere_94 : decode cX8_lineHere 94 = .ok (.iload_n 1, 1) := by decide +kernel
theorem dX8_lineHere_95 : decode cX8_lineHere 95 = .ok (.ldc_w 363, 3) := by decide +kernel
theorem dX8_lineHere_98 : decode cX8_lineHere 98 = .ok (.if_icmp .ne 22, 3) := by decide +kernel
theorem dX8_lineHere_101 : decode cX8_lineHere 101 = .ok (.aload_n 0, 1) := by decide +kernel
theorem dX8_lineHere_102 : decode cX8_lineHere 102 = .ok (.iload_n 1, 1) := by decide +kernel
theorem dX8_lineHere_103 : decode cX8_lineHere 103 = .ok (.ldc_w 362, 3) := by decide +kernel
theorem dX8_lineHere_106 : decode cX8_lineHere 106 = .ok (.if_icmp .ne 7, 3) := by decide +kernel
theorem dX8_lineHere_109 : decode cX8_lineHere 109 = .ok (.iconst 1, 1) := by decide +kernel
theorem dX8_lineHere_110 : decode cX8_lineHere 110 = .ok (.goto 4, 3) := by decide +kernel
theorem dX8_lineHere_113 : decode cX8_lineHere 113 = .ok (.iconst 0, 1) := by decide +kernel
theorem dX8_lineHere_114 : decode cX8_lineHere 114 = .ok (.invokevirtual 364, 3) := by decide +kernel
theorem dX8_lineHere_117 : decode cX8_lineHere 117 = .ok (.goto 9, 3) := by decide +kernel
theorem dX8_lineHere_120 : decode cX8_lineHere 120 = .ok (.aload_n 0, 1) := by decide +kernel
theorem dX8_lineHere_121 : decode cX8_lineHere 121 = .ok (.iconst 0, 1) := by decide +kernel
theorem dX8_lineHere_122 : decode cX8_lineHere 122 = .ok (.iconst 1, 1) := by decide +kernel
theorem dX8_lineHere_123 : decode cX8_lineHere 123 = .ok (.invokevirtual 303, 3) := by decide +kernel
theorem dX8_lineHere_126 : decode cX8_lineHere 126 = .ok (.aload_n 0, 1) := by decide +kernel
theorem dX8_lineHere_127 : decode cX8_lineHere 127 = .ok (.aload_n 0, 1) := by decide +kernel
theorem dX8_lineHere_128 : decode cX8_lineHere 128 = .ok (.bipush 59, 2) := by decide +kernel
theorem dX8_lineHere_130 : decode cX8_lineHere 130 = .ok (.invokevirtual 328, 3) := by decide +kernel
theorem dX8_lineHere_133 : decode cX8_lineHere 133 = .ok (.iconst 1, 1) := by decide +kernel
theorem dX8_lineHere_134 : decode cX8_lineHere 134 = .ok (.invokevirtual 303, 3) := by decide +kernel
theorem dX8_lineHere_137 : decode cX8_lineHere 137 = .ok (.aload_n 0, 1) := by decide +kernel
theorem dX8_lineHere_138 : decode cX8_lineHere 138 = .ok (.getfield 297, 3) := by decide +kernel
theorem dX8_lineHere_141 : decode cX8_lineHere 141 = .ok (.ifCond .ne 7, 3) := by decide +kernel
theorem dX8_lineHere_144 : decode cX8_lineHere 144 = .ok (.aload_n 0, 1) := by decide +kernel
theorem dX8_lineHere_145 : decode cX8_lineHere 145 = .ok (.invokevirtual 307, 3) := by decide +kernel
theorem dX8_lineHere_148 : decode cX8_lineHere 148 = .ok (.return_, 1) := by decide +kernel
theorem dX8_text_0 : decode cX8_text 0 = .ok (.aload_n 0, 1) := by decide +kernel
theorem dX8_text_1 : decode cX8_text 1 = .ok (.iconst 0, 1) := by decide +kernel
theorem dX8_text_2 : decode cX8_text 2 = .ok (.putfield 112, 3) := by decide +kernel
theorem dX8_text_5 : decode cX8_text 5 = .ok (.iload_n 1, 1) := by decide +kernel
theorem dX8_text_6 : decode cX8_text 6 = .ok (.iconst 0, 1) := by decide +kernel
theorem dX8_text_7 : decode cX8_text 7 = .ok (.aload_n 0, 1) := by decide +kernel
theorem dX8_text_8 : decode cX8_text 8 = .ok (.getfield 273, 3) := by decide +kernel
theorem dX8_text_11 : decode cX8_text 11 = .ok (.invokestatic 189, 3) := by decide +kernel
theorem dX8_text_14 : decode cX8_text 14 = .ok (.ifCond .ne 6, 3) := by decide +kernel
theorem dX8_text_17 : decode cX8_text 17 = .ok (.bipush (-2), 2) := by decide +kernel
theorem dX8_text_19 : decode cX8_text 19 = .ok (.ireturn, 1) := by decide +kernel
theorem dX8_text_20 : decode cX8_text 20 = .ok (.aload_n 0, 1) := by decide +kernel
theorem dX8_text_21 : decode cX8_text 21 = .ok (.iconst 0, 1) := by decide +kernel
theorem dX8_text_22 : decode cX8_text 22 = .ok (.putfield 273, 3) := by decide +kernel
theorem dX8_text_25 : decode cX8_text 25 = .ok (.aload_n 0, 1) := by decide +kernel
theorem dX8_text_26 : decode cX8_text 26 = .ok (.iload_n 1, 1) := by decide +kernel
theorem dX8_text_27 : decode cX8_text 27 = .ok (.putfield 282, 3) := by decide +kernel
theorem dX8_text_30 : decode cX8_text 30 = .ok (.aload_n 0, 1) := by decide +kernel
theorem dX8_text_31 : decode cX8_text 31 = .ok (.iconst 0, 1) := by decide +kernel
theorem dX8_text_32 : decode cX8_text 32 = .ok (.putfield 279, 3) := by decide +kernel
theorem dX8_text_35 : decode cX8_text 35 = .ok (.aload_n 0, 1) := by decide +kernel
theorem dX8_text_36 : decode cX8_text 36 = .ok (.iconst 0, 1) := by decide +kernel
theorem dX8_text_37 : decode cX8_text 37 = .ok (.putfield 297, 3) := by decide +kernel
theorem dX8_text_40 : decode cX8_text 40 = .ok (.aload_n 0, 1) := by decide +kernel
theorem dX8_text_41 : decode cX8_text 41 = .ok (.iconst 0, 1) := by decide +kernel
theorem dX8_text_42 : decode cX8_text 42 = .ok (.putfield 300, 3) := by decide +kernel
theorem dX8_text_45 : decode cX8_text 45 = .ok (.aload_n 0, 1) := by decide +kernel
theorem dX8_text_46 : decode cX8_text 46 = .ok (.iconst (-1), 1) := by decide +kernel
theorem dX8_text_47 : decode cX8_text 47 = .ok (.putfield 76, 3) := by decide +kernel
theorem dX8_text_50 : decode cX8_text 50 = .ok (.aload_n 0, 1) := by decide +kernel
theorem dX8_text_51 : decode cX8_text 51 = .ok (.iconst 4, 1) := by decide +kernel
theorem dX8_text_52 : decode cX8_text 52 = .ok (.putfield 322, 3) := by decide +kernel
theorem dX8_text_55 : decode cX8_text 55 = .ok (.aload_n 0, 1) := by decide +kernel
theorem dX8_text_56 : decode cX8_text 56 = .ok (.iconst 4, 1) := by decide +kernel
theorem dX8_text_57 : decode cX8_text 57 = .ok (.putfield 325, 3) := by decide +kernel
theorem dX8_text_60 : decode cX8_text 60 = .ok (.aload_n 0, 1) := by decide +kernel
theorem dX8_text_61 : decode cX8_text 61 = .ok (.iconst 0, 1) := by decide +kernel
theorem dX8_text_62 : decode cX8_text 62 = .ok (.putfield 313, 3) := by decide +kernel
theorem dX8_text_65 : decode cX8_text 65 = .ok (.aload_n 0, 1) := by decide +kernel
theorem dX8_text_66 : decode cX8_text 66 = .ok (.bipush 9, 2) := by decide +kernel
theorem dX8_text_68 : decode cX8_text 68 = .ok (.putfield 334, 3) := by decide +kernel
theorem dX8_text_71 : decode cX8_text 71 = .ok (.aload_n 0, 1) := by decide +kernel
theorem dX8_text_72 : decode cX8_text 72 = .ok (.getfield 82, 3) := by decide +kernel
theorem dX8_text_75 : decode cX8_text 75 = .ok (.iconst 0, 1) := by decide +kernel
theorem dX8_text_76 : decode cX8_text 76 = .ok (.bipush 24, 2) := by decide +kernel
theorem dX8_text_78 : decode cX8_text 78 = .ok (.iastore, 1) := by decide +kernel
theorem dX8_text_79 : decode cX8_text 79 = .ok (.aload_n 0, 1) := by decide +kernel
theorem dX8_text_80 : decode cX8_text 80 = .ok (.getfield 82, 3) := by decide +kernel
theorem dX8_text_83 : decode cX8_text 83 = .ok (.iconst 1, 1) := by decide +kernel
theorem dX8_text_84 : decode cX8_text 84 = .ok (.bipush 16, 2) := by decide +kernel
theorem dX8_text_86 : decode cX8_text 86 = .ok (.iastore, 1) := by decide +kernel
theorem dX8_text_87 : decode cX8_text 87 = .ok (.aload_n 0, 1) := by decide +kernel
theorem dX8_text_88 : decode cX8_text 88 = .ok (.getfield 82, 3) := by decide +kernel
theorem dX8_text_91 : decode cX8_text 91 = .ok (.iconst 2, 1) := by decide +kernel
theorem dX8_text_92 : decode cX8_text 92 = .ok (.bipush 12, 2) := by decide +kernel
theorem dX8_text_94 : decode cX8_text 94 = .ok (.iastore, 1) := by decide +kernel
theorem dX8_text_95 : decode cX8_text 95 = .ok (.aload_n 0, 1) := by decide +kernel
theorem dX8_text_96 : decode cX8_text 96 = .ok (.getfield 82, 3) := by decide +kernel
theorem dX8_text_99 : decode cX8_text 99 = .ok (.iconst 3, 1) := by decide +kernel
theorem dX8_text_100 : decode cX8_text 100 = .ok (.bipush 9, 2) := by decide +kernel
theorem dX8_text_102 : decode cX8_text 102 = .ok (.iastore, 1) := by decide +kernel
theorem dX8_text_103 : decode cX8_text 103 = .ok (.iconst 0, 1) := by decide +kernel
theorem dX8_text_104 : decode cX8_text 104 = .ok (.istore_n 2, 1) := by decide +kernel
theorem dX8_text_105 : decode cX8_text 105 = .ok (.iload_n 2, 1) := by decide +kernel
theorem dX8_text_106 : decode cX8_text 106 = .ok (.iconst 4, 1) := by decide +kernel
theorem dX8_text_107 : decode cX8_text 107 = .ok (.if_icmp .ge 16, 3) := by decide +kernel
theorem dX8_text_110 : decode cX8_text 110 = .ok (.aload_n 0, 1) := by decide +kernel
theorem dX8_text_111 : decode cX8_text 111 = .ok (.getfield 94, 3) := by decide +kernel
theorem dX8_text_114 : decode cX8_text 114 = .ok (.iload_n 2, 1) := by decide +kernel
theorem dX8_text_115 : decode cX8_text 115 = .ok (.iconst 0, 1) := by decide +kernel
theorem dX8_text_116 : decode cX8_text 116 = .ok (.bastore, 1) := by decide +kernel
theorem dX8_text_117 : decode cX8_text 117 = .ok (.iinc 2 1, 3) := by decide +kernel
theorem dX8_text_120 : decode cX8_text 120 = .ok (.goto (-15), 3) := by decide +kernel
theorem dX8_text_123 : decode cX8_text 123 = .ok (.aload_n 0, 1) := by decide +kernel
theorem dX8_text_124 : decode cX8_text 124 = .ok (.iconst 0, 1) := by decide +kernel
theorem dX8_text_125 : decode cX8_text 125 = .ok (.putfield 316, 3) := by decide +kernel
theorem dX8_text_128 : decode cX8_text 128 = .ok (.aload_n 0, 1) := by decide +kernel
theorem dX8_text_129 : decode cX8_text 129 = .ok (.iconst 0, 1) := by decide +kernel
theorem dX8_text_130 : decode cX8_text 130 = .ok (.putfield 331, 3) := by decide +kernel
theorem dX8_text_133 : decode cX8_text 133 = .ok (.aload_n 0, 1) := by decide +kernel
theorem dX8_text_134 : decode cX8_text 134 = .ok (.iconst 0, 1) := by decide +kernel
theorem dX8_text_135 : decode cX8_text 135 = .ok (.putfield 310, 3) := by decide +kernel
theorem dX8_text_138 : decode cX8_text 138 = .ok (.aload_n 0, 1) := by decide +kernel
theorem dX8_text_139 : decode cX8_text 139 = .ok (.iconst 0, 1) := by decide +kernel
theorem dX8_text_140 : decode cX8_text 140 = .ok (.putfield 340, 3) := by decide +kernel
theorem dX8_text_143 : decode cX8_text 143 = .ok (.iconst 0, 1) := by decide +kernel
theorem dX8_text_144 : decode cX8_text 144 = .ok (.istore_n 2, 1) := by decide +kernel
theorem dX8_text_145 : decode cX8_text 145 = .ok (.aload_n 0, 1) := by decide +kernel
theorem dX8_text_146 : decode cX8_text 146 = .ok (.invokevirtual 307, 3) := by decide +kernel
theorem dX8_text_149 : decode cX8_text 149 = .ok (.aload_n 0, 1) := by decide +kernel
theorem dX8_text_150 : decode cX8_text 150 = .ok (.getfield 297, 3) := by decide +kernel
theorem dX8_text_153 : decode cX8_text 153 = .ok (.ifCond .ne 20, 3) := by decide +kernel
theorem dX8_text_156 : decode cX8_text 156 = .ok (.aload_n 0, 1) := by decide +kernel
theorem dX8_text_157 : decode cX8_text 157 = .ok (.getfield 294, 3) := by decide +kernel
theorem dX8_text_160 : decode cX8_text 160 = .ok (.ifCond .eq 13, 3) := by decide +kernel
theorem dX8_text_163 : decode cX8_text 163 = .ok (.aload_n 0, 1) := by decide +kernel
theorem dX8_text_164 : decode cX8_text 164 = .ok (.invokevirtual 368, 3) := by decide +kernel
theorem dX8_text_167 : decode cX8_text 167 = .ok (.iinc 2 1, 3) := by decide +kernel
theorem dX8_text_170 : decode cX8_text 170 = .ok (.goto (-21), 3) := by decide +kernel
theorem dX8_text_173 : decode cX8_text 173 = .ok (.aload_n 0, 1) := by decide +kernel
theorem dX8_text_174 : decode cX8_text 174 = .ok (.getfield 297, 3) := by decide +kernel
theorem dX8_text_177 : decode cX8_text 177 = .ok (.ifCond .eq 5, 3) := by decide +kernel
theorem dX8_text_180 : decode cX8_text 180 = .ok (.iconst (-1), 1) := by decide +kernel
theorem dX8_text_181 : decode cX8_text 181 = .ok (.ireturn, 1) := by decide +kernel
theorem dX8_text_182 : decode cX8_text 182 = .ok (.aload_n 0, 1) := by decide +kernel
theorem dX8_text_183 : decode cX8_text 183 = .ok (.iload_n 2, 1) := by decide +kernel
theorem dX8_text_184 : decode cX8_text 184 = .ok (.putfield 371, 3) := by decide +kernel
theorem dX8_text_187 : decode cX8_text 187 = .ok (.aload_n 0, 1) := by decide +kernel
theorem dX8_text_188 : decode cX8_text 188 = .ok (.aload_n 0, 1) := by decide +kernel
theorem dX8_text_189 : decode cX8_text 189 = .ok (.getfield 322, 3) := by decide +kernel
theorem dX8_text_192 : decode cX8_text 192 = .ok (.putfield 7, 3) := by decide +kernel
theorem dX8_text_195 : decode cX8_text 195 = .ok (.aload_n 0, 1) := by decide +kernel
theorem dX8_text_196 : decode cX8_text 196 = .ok (.aload_n 0, 1) := by decide +kernel
theorem dX8_text_197 : decode cX8_text 197 = .ok (.getfield 325, 3) := by decide +kernel
theorem dX8_text_200 : decode cX8_text 200 = .ok (.putfield 13, 3) := by decide +kernel
theorem dX8_text_203 : decode cX8_text 203 = .ok (.aload_n 0, 1) := by decide +kernel
theorem dX8_text_204 : decode cX8_text 204 = .ok (.aload_n 0, 1) := by decide +kernel
theorem dX8_text_205 : decode cX8_text 205 = .ok (.getfield 313, 3) := by decide +kernel
theorem dX8_text_208 : decode cX8_text 208 = .ok (.putfield 119, 3) := by decide +kernel
theorem dX8_text_211 : decode cX8_text 211 = .ok (.aload_n 0, 1) := by decide +kernel
theorem dX8_text_212 : decode cX8_text 212 = .ok (.aload_n 0, 1) := by decide +kernel
theorem dX8_text_213 : decode cX8_text 213 = .ok (.getfield 334, 3) := by decide +kernel
theorem dX8_text_216 : decode cX8_text 216 = .ok (.putfield 20, 3) := by decide +kernel
theorem dX8_text_219 : decode cX8_text 219 = .ok (.aload_n 0, 1) := by decide +kernel
theorem dX8_text_220 : decode cX8_text 220 = .ok (.aload_n 0, 1) := by decide +kernel
theorem dX8_text_221 : decode cX8_text 221 = .ok (.getfield 310, 3) := by decide +kernel
theorem dX8_text_224 : decode cX8_text 224 = .ok (.putfield 133, 3) := by decide +kernel
theorem dX8_text_227 : decode cX8_text 227 = .ok (.iconst 0, 1) := by decide +kernel
theorem dX8_text_228 : decode cX8_text 228 = .ok (.istore_n 3, 1) := by decide +kernel
theorem dX8_text_229 : decode cX8_text 229 = .ok (.iload_n 3, 1) := by decide +kernel
theorem dX8_text_230 : decode cX8_text 230 = .ok (.bipush 6, 2) := by decide +kernel
theorem dX8_text_232 : decode cX8_text 232 = .ok (.if_icmp .ge 21, 3) := by decide +kernel
theorem dX8_text_235 : decode cX8_text 235 = .ok (.aload_n 0, 1) := by decide +kernel
theorem dX8_text_236 : decode cX8_text 236 = .ok (.getfield 16, 3) := by decide +kernel
theorem dX8_text_239 : decode cX8_text 239 = .ok (.iload_n 3, 1) := by decide +kernel
theorem dX8_text_240 : decode cX8_text 240 = .ok (.aload_n 0, 1) := by decide +kernel
theorem dX8_text_241 : decode cX8_text 241 = .ok (.getfield 79, 3) := by decide +kernel
theorem dX8_text_244 : decode cX8_text 244 = .ok (.iload_n 3, 1) := by decide +kernel
theorem dX8_text_245 : decode cX8_text 245 = .ok (.iaload, 1) := by decide +kernel
theorem dX8_text_246 : decode cX8_text 246 = .ok (.iastore, 1) := by decide +kernel
theorem dX8_text_247 : decode cX8_text 247 = .ok (.iinc 3 1, 3) := by decide +kernel
theorem dX8_text_250 : decode cX8_text 250 = .ok (.goto (-21), 3) := by decide +kernel
theorem dX8_text_253 : decode cX8_text 253 = .ok (.iconst 0, 1) := by decide +kernel
theorem dX8_text_254 : decode cX8_text 254 = .ok (.istore_n 3, 1) := by decide +kernel
theorem dX8_text_255 : decode cX8_text 255 = .ok (.iload_n 3, 1) := by decide +kernel
theorem dX8_text_256 : decode cX8_text 256 = .ok (.iconst 4, 1) := by decide +kernel
theorem dX8_text_257 : decode cX8_text 257 = .ok (.if_icmp .ge 21, 3) := by decide +kernel
theorem dX8_text_260 : decode cX8_text 260 = .ok (.aload_n 0, 1) := by decide +kernel
theorem dX8_text_261 : decode cX8_text 261 = .ok (.getfield 23, 3) := by decide +kernel
theorem dX8_text_264 : decode cX8_text 264 = .ok (.iload_n 3, 1) := by decide +kernel
theorem dX8_text_265 : decode cX8_text 265 = .ok (.aload_n 0, 1) := by decide +kernel
theorem dX8_text_266 : decode cX8_text 266 = .ok (.getfield 82, 3) := by decide +kernel
theorem dX8_text_269 : decode cX8_text 269 = .ok (.iload_n 3, 1) := by decide +kernel
theorem dX8_text_270 : decode cX8_text 270 = .ok (.iaload, 1) := by decide +kernel
theorem dX8_text_271 : decode cX8_text 271 = .ok (.iastore, 1) := by decide +kernel
theorem dX8_text_272 : decode cX8_text 272 = .ok (.iinc 3 1, 3) := by decide +kernel
theorem dX8_text_275 : decode cX8_text 275 = .ok (.goto (-20), 3) := by decide +kernel
theorem dX8_text_278 : decode cX8_text 278 = .ok (.iconst 0, 1) := by decide +kernel
theorem dX8_text_279 : decode cX8_text 279 = .ok (.istore_n 3, 1) := by decide +kernel
theorem dX8_text_280 : decode cX8_text 280 = .ok (.iload_n 3, 1) := by decide +kernel
theorem dX8_text_281 : decode cX8_text 281 = .ok (.bipush 64, 2) := by decide +kernel
theorem dX8_text_283 : decode cX8_text 283 = .ok (.if_icmp .ge 45, 3) := by decide +kernel
theorem dX8_text_286 : decode cX8_text 286 = .ok (.aload_n 0, 1) := by decide +kernel
theorem dX8_text_287 : decode cX8_text 287 = .ok (.getfield 26, 3) := by decide +kernel
theorem dX8_text_290 : decode cX8_text 290 = .ok (.iload_n 3, 1) := by decide +kernel
theorem dX8_text_291 : decode cX8_text 291 = .ok (.aload_n 0, 1) := by decide +kernel
theorem dX8_text_292 : decode cX8_text 292 = .ok (.getfield 85, 3) := by decide +kernel
theorem dX8_text_295 : decode cX8_text 295 = .ok (.iload_n 3, 1) := by decide +kernel
theorem dX8_text_296 : decode cX8_text 296 = .ok (.iaload, 1) := by decide +kernel
theorem dX8_text_297 : decode cX8_text 297 = .ok (.iastore, 1) := by decide +kernel
theorem dX8_text_298 : decode cX8_text 298 = .ok (.aload_n 0, 1) := by decide +kernel
theorem dX8_text_299 : decode cX8_text 299 = .ok (.getfield 29, 3) := by decide +kernel
theorem dX8_text_302 : decode cX8_text 302 = .ok (.iload_n 3, 1) := by decide +kernel
theorem dX8_text_303 : decode cX8_text 303 = .ok (.aload_n 0, 1) := by decide +kernel
theorem dX8_text_304 : decode cX8_text 304 = .ok (.getfield 88, 3) := by decide +kernel
theorem dX8_text_307 : decode cX8_text 307 = .ok (.iload_n 3, 1) := by decide +kernel
theorem dX8_text_308 : decode cX8_text 308 = .ok (.baload, 1) := by decide +kernel
theorem dX8_text_309 : decode cX8_text 309 = .ok (.bastore, 1) := by decide +kernel
theorem dX8_text_310 : decode cX8_text 310 = .ok (.aload_n 0, 1) := by decide +kernel
theorem dX8_text_311 : decode cX8_text 311 = .ok (.getfield 33, 3) := by decide +kernel
theorem dX8_text_314 : decode cX8_text 314 = .ok (.iload_n 3, 1) := by decide +kernel
theorem dX8_text_315 : decode cX8_text 315 = .ok (.aload_n 0, 1) := by decide +kernel
theorem dX8_text_316 : decode cX8_text 316 = .ok (.getfield 91, 3) := by decide +kernel
theorem dX8_text_319 : decode cX8_text 319 = .ok (.iload_n 3, 1) := by decide +kernel
theorem dX8_text_320 : decode cX8_text 320 = .ok (.iaload, 1) := by decide +kernel
theorem dX8_text_321 : decode cX8_text 321 = .ok (.iastore, 1) := by decide +kernel
theorem dX8_text_322 : decode cX8_text 322 = .ok (.iinc 3 1, 3) := by decide +kernel
theorem dX8_text_325 : decode cX8_text 325 = .ok (.goto (-45), 3) := by decide +kernel
theorem dX8_text_328 : decode cX8_text 328 = .ok (.aload_n 0, 1) := by decide +kernel
theorem dX8_text_329 : decode cX8_text 329 = .ok (.iconst 0, 1) := by decide +kernel
theorem dX8_text_330 : decode cX8_text 330 = .ok (.putfield 374, 3) := by decide +kernel
theorem dX8_text_333 : decode cX8_text 333 = .ok (.aload_n 0, 1) := by decide +kernel
theorem dX8_text_334 : decode cX8_text 334 = .ok (.invokevirtual 377, 3) := by decide +kernel
theorem dX8_text_337 : decode cX8_text 337 = .ok (.aload_n 0, 1) := by decide +kernel
theorem dX8_text_338 : decode cX8_text 338 = .ok (.invokevirtual 380, 3) := by decide +kernel
theorem dX8_text_341 : decode cX8_text 341 = .ok (.aload_n 0, 1) := by decide +kernel
theorem dX8_text_342 : decode cX8_text 342 = .ok (.getfield 371, 3) := by decide +kernel
theorem dX8_text_345 : decode cX8_text 345 = .ok (.ireturn, 1) := by decide +kernel
theorem dX8_fault_0 : decode cX8_fault 0 = .ok (.aload_n 0, 1) := by decide +kernel
theorem dX8_fault_1 : decode cX8_fault 1 = .ok (.iconst 0, 1) := by decide +kernel
theorem dX8_fault_2 : decode cX8_fault 2 = .ok (.putfield 112, 3) := by decide +kernel
theorem dX8_fault_5 : decode cX8_fault 5 = .ok (.iload_n 1, 1) := by decide +kernel
theorem dX8_fault_6 : decode cX8_fault 6 = .ok (.ifCond .ne 10, 3) := by decide +kernel
theorem dX8_fault_9 : decode cX8_fault 9 = .ok (.aload_n 0, 1) := by decide +kernel
theorem dX8_fault_10 : decode cX8_fault 10 = .ok (.getfield 300, 3) := by decide +kernel
theorem dX8_fault_13 : decode cX8_fault 13 = .ok (.goto 16, 3) := by decide +kernel
theorem dX8_fault_16 : decode cX8_fault 16 = .ok (.iload_n 1, 1) := by decide +kernel
theorem dX8_fault_17 : decode cX8_fault 17 = .ok (.iconst 1, 1) := by decide +kernel
theorem dX8_fault_18 : decode cX8_fault 18 = .ok (.if_icmp .ne 10, 3) := by decide +kernel
theorem dX8_fault_21 : decode cX8_fault 21 = .ok (.aload_n 0, 1) := by decide +kernel
theorem dX8_fault_22 : decode cX8_fault 22 = .ok (.getfield 76, 3) := by decide +kernel
theorem dX8_fault_25 : decode cX8_fault 25 = .ok (.goto 4, 3) := by decide +kernel
theorem dX8_fault_28 : decode cX8_fault 28 = .ok (.iconst (-1), 1) := by decide +kernel
theorem dX8_fault_29 : decode cX8_fault 29 = .ok (.ireturn, 1) := by decide +kernel
theorem dX8_isElement_0 : decode cX8_isElement 0 = .ok (.iload_n 1, 1) := by decide +kernel
theorem dX8_isElement_1 : decode cX8_isElement 1 = .ok (.iconst 0, 1) := by decide +kernel
theorem dX8_isElement_2 : decode cX8_isElement 2 = .ok (.aload_n 0, 1) := by decide +kernel
theorem dX8_isElement_3 : decode cX8_isElement 3 = .ok (.getfield 133, 3) := by decide +kernel
theorem dX8_isElement_6 : decode cX8_isElement 6 = .ok (.iconst 1, 1) := by decide +kernel
theorem dX8_isElement_7 : decode cX8_isElement 7 = .ok (.isub, 1) := by decide +kernel
theorem dX8_isElement_8 : decode cX8_isElement 8 = .ok (.invokestatic 189, 3) := by decide +kernel
theorem dX8_isElement_11 : decode cX8_isElement 11 = .ok (.ireturn, 1) := by decide +kernel
theorem dX8_isOfGroup_0 : decode cX8_isOfGroup 0 = .ok (.aload_n 0, 1) := by decide +kernel
theorem dX8_isOfGroup_1 : decode cX8_isOfGroup 1 = .ok (.iload_n 1, 1) := by decide +kernel
theorem dX8_isOfGroup_2 : decode cX8_isOfGroup 2 = .ok (.invokevirtual 383, 3) := by decide +kernel
theorem dX8_isOfGroup_5 : decode cX8_isOfGroup 5 = .ok (.ifCond .eq 16, 3) := by decide +kernel
theorem dX8_isOfGroup_8 : decode cX8_isOfGroup 8 = .ok (.aload_n 0, 1) := by decide +kernel
theorem dX8_isOfGroup_9 : decode cX8_isOfGroup 9 = .ok (.getfield 42, 3) := by decide +kernel
theorem dX8_isOfGroup_12 : decode cX8_isOfGroup 12 = .ok (.iload_n 1, 1) := by decide +kernel
theorem dX8_isOfGroup_13 : decode cX8_isOfGroup 13 = .ok (.iaload, 1) := by decide +kernel
theorem dX8_isOfGroup_14 : decode cX8_isOfGroup 14 = .ok (.ifCond .lt 7, 3) := by decide +kernel
theorem dX8_isOfGroup_17 : decode cX8_isOfGroup 17 = .ok (.iconst 1, 1) := by decide +kernel
theorem dX8_isOfGroup_18 : decode cX8_isOfGroup 18 = .ok (.goto 4, 3) := by decide +kernel
theorem dX8_isOfGroup_21 : decode cX8_isOfGroup 21 = .ok (.iconst 0, 1) := by decide +kernel
theorem dX8_isOfGroup_22 : decode cX8_isOfGroup 22 = .ok (.ireturn, 1) := by decide +kernel
theorem dX8_isGroup_0 : decode cX8_isGroup 0 = .ok (.iload_n 1, 1) := by decide +kernel
theorem dX8_isGroup_1 : decode cX8_isGroup 1 = .ok (.iconst 0, 1) := by decide +kernel
theorem dX8_isGroup_2 : decode cX8_isGroup 2 = .ok (.aload_n 0, 1) := by decide +kernel
theorem dX8_isGroup_3 : decode cX8_isGroup 3 = .ok (.getfield 149, 3) := by decide +kernel
theorem dX8_isGroup_6 : decode cX8_isGroup 6 = .ok (.iconst 1, 1) := by decide +kernel
theorem dX8_isGroup_7 : decode cX8_isGroup 7 = .ok (.isub, 1) := by decide +kernel
theorem dX8_isGroup_8 : decode cX8_isGroup 8 = .ok (.invokestatic 189, 3) := by decide +kernel
theorem dX8_isGroup_11 : decode cX8_isGroup 11 = .ok (.ireturn, 1) := by decide +kernel
theorem dX8_element_0 : decode cX8_element 0 = .ok (.aload_n 0, 1) := by decide +kernel
theorem dX8_element_1 : decode cX8_element 1 = .ok (.iconst 0, 1) := by decide +kernel
theorem dX8_element_2 : decode cX8_element 2 = .ok (.putfield 112, 3) := by decide +kernel
theorem dX8_element_5 : decode cX8_element 5 = .ok (.aload_n 0, 1) := by decide +kernel
theorem dX8_element_6 : decode cX8_element 6 = .ok (.iload_n 1, 1) := by decide +kernel
theorem dX8_element_7 : decode cX8_element 7 = .ok (.invokevirtual 383, 3) := by decide +kernel
theorem dX8_element_10 : decode cX8_element 10 = .ok (.ifCond .ne 9, 3) := by decide +kernel
theorem dX8_element_13 : decode cX8_element 13 = .ok (.aload_n 0, 1) := by decide +kernel
theorem dX8_element_14 : decode cX8_element 14 = .ok (.iconst 1, 1) := by decide +kernel
theorem dX8_element_15 : decode cX8_element 15 = .ok (.invokevirtual 386, 3) := by decide +kernel
theorem dX8_element_18 : decode cX8_element 18 = .ok (.ireturn, 1) := by decide +kernel
theorem dX8_element_19 : decode cX8_element 19 = .ok (.iload_n 2, 1) := by decide +kernel
theorem dX8_element_20 : decode cX8_element 20 = .ok (.tableswitch 149 0 7 #[48, 57, 72, 84, 96, 112, 119, 126], 48) := by decide +kernel
theorem dX8_element_68 : decode cX8_element 68 = .ok (.iconst 4, 1) := by decide +kernel
theorem dX8_element_69 : decode cX8_element 69 = .ok (.aload_n 0, 1) := by decide +kernel
theorem dX8_element_70 : decode cX8_element 70 = .ok (.getfield 26, 3) := by decide +kernel
theorem dX8_element_73 : decode cX8_element 73 = .ok (.iload_n 1, 1) := by decide +kernel
theorem dX8_element_74 : decode cX8_element 74 = .ok (.iaload, 1) := by decide +kernel
theorem dX8_element_75 : decode cX8_element 75 = .ok (.ishl, 1) := by decide +kernel
theorem dX8_element_76 : decode cX8_element 76 = .ok (.ireturn, 1) := by decide +kernel
theorem dX8_element_77 : decode cX8_element 77 = .ok (.aload_n 0, 1) := by decide +kernel
theorem dX8_element_78 : decode cX8_element 78 = .ok (.getfield 29, 3) := by decide +kernel
theorem dX8_element_81 : decode cX8_element 81 = .ok (.iload_n 1, 1) := by decide +kernel
theorem dX8_element_82 : decode cX8_element 82 = .ok (.baload, 1) := by decide +kernel
theorem dX8_element_83 : decode cX8_element 83 = .ok (.ifCond .eq 7, 3) := by decide +kernel
theorem dX8_element_86 : decode cX8_element 86 = .ok (.iconst 1, 1) := by decide +kernel
theorem dX8_element_87 : decode cX8_element 87 = .ok (.goto 4, 3) := by decide +kernel
theorem dX8_element_90 : decode cX8_element 90 = .ok (.iconst 0, 1) := by decide +kernel
theorem dX8_element_91 : decode cX8_element 91 = .ok (.ireturn, 1) := by decide +kernel
theorem dX8_element_92 : decode cX8_element 92 = .ok (.aload_n 0, 1) := by decide +kernel
theorem dX8_element_93 : decode cX8_element 93 = .ok (.getfield 36, 3) := by decide +kernel
theorem dX8_element_96 : decode cX8_element 96 = .ok (.iload_n 1, 1) := by decide +kernel
theorem dX8_element_97 : decode cX8_element 97 = .ok (.iaload, 1) := by decide +kernel
theorem dX8_element_98 : decode cX8_element 98 = .ok (.aload_n 0, 1) := by decide +kernel
theorem dX8_element_99 : decode cX8_element 99 = .ok (.invokevirtual 126, 3) := by decide +kernel
theorem dX8_element_102 : decode cX8_element 102 = .ok (.irem, 1) := by decide +kernel
theorem dX8_element_103 : decode cX8_element 103 = .ok (.ireturn, 1) := by decide +kernel
theorem dX8_element_104 : decode cX8_element 104 = .ok (.aload_n 0, 1) := by decide +kernel
theorem dX8_element_105 : decode cX8_element 105 = .ok (.getfield 36, 3) := by decide +kernel
theorem dX8_element_108 : decode cX8_element 108 = .ok (.iload_n 1, 1) := by decide +kernel
theorem dX8_element_109 : decode cX8_element 109 = .ok (.iaload, 1) := by decide +kernel
theorem dX8_element_110 : decode cX8_element 110 = .ok (.aload_n 0, 1) := by decide +kernel
theorem dX8_element_111 : decode cX8_element 111 = .ok (.invokevirtual 126, 3) := by decide +kernel
theorem dX8_element_114 : decode cX8_element 114 = .ok (.idiv, 1) := by decide +kernel
theorem dX8_element_115 : decode cX8_element 115 = .ok (.ireturn, 1) := by decide +kernel
theorem dX8_element_116 : decode cX8_element 116 = .ok (.aload_n 0, 1) := by decide +kernel
theorem dX8_element_117 : decode cX8_element 117 = .ok (.aload_n 0, 1) := by decide +kernel
theorem dX8_element_118 : decode cX8_element 118 = .ok (.getfield 36, 3) := by decide +kernel
theorem dX8_element_121 : decode cX8_element 121 = .ok (.iload_n 1, 1) := by decide +kernel
theorem dX8_element_122 : decode cX8_element 122 = .ok (.iaload, 1) := by decide +kernel
theorem dX8_element_123 : decode cX8_element 123 = .ok (.aload_n 0, 1) := by decide +kernel
theorem dX8_element_124 : decode cX8_element 124 = .ok (.invokevirtual 126, 3) := by decide +kernel
theorem dX8_element_127 : decode cX8_element 127 = .ok (.irem, 1) := by decide +kernel
theorem dX8_element_128 : decode cX8_element 128 = .ok (.invokevirtual 129, 3) := by decide +kernel
theorem dX8_element_131 : decode cX8_element 131 = .ok (.ireturn, 1) := by decide +kernel
theorem dX8_element_132 : decode cX8_element 132 = .ok (.aload_n 0, 1) := by decide +kernel
theorem dX8_element_133 : decode cX8_element 133 = .ok (.getfield 39, 3) := by decide +kernel
theorem dX8_element_136 : decode cX8_element 136 = .ok (.iload_n 1, 1) := by decide +kernel
theorem dX8_element_137 : decode cX8_element 137 = .ok (.iaload, 1) := by decide +kernel
theorem dX8_element_138 : decode cX8_element 138 = .ok (.ireturn, 1) := by decide +kernel
theorem dX8_element_139 : decode cX8_element 139 = .ok (.aload_n 0, 1) := by decide +kernel
theorem dX8_element_140 : decode cX8_element 140 = .ok (.getfield 42, 3) := by decide +kernel
theorem dX8_element_143 : decode cX8_element 143 = .ok (.iload_n 1, 1) := by decide +kernel
theorem dX8_element_144 : decode cX8_element 144 = .ok (.iaload, 1) := by decide +kernel
theorem dX8_element_145 : decode cX8_element 145 = .ok (.ireturn, 1) := by decide +kernel
theorem dX8_element_146 : decode cX8_element 146 = .ok (.aload_n 0, 1) := by decide +kernel
theorem dX8_element_147 : decode cX8_element 147 = .ok (.getfield 29, 3) := by decide +kernel
theorem dX8_element_150 : decode cX8_element 150 = .ok (.iload_n 1, 1) := by decide +kernel
theorem dX8_element_151 : decode cX8_element 151 = .ok (.baload, 1) := by decide +kernel
theorem dX8_element_152 : decode cX8_element 152 = .ok (.ifCond .eq 15, 3) := by decide +kernel
theorem dX8_element_155 : decode cX8_element 155 = .ok (.aload_n 0, 1) := by decide +kernel
theorem dX8_element_156 : decode cX8_element 156 = .ok (.getfield 26, 3) := by decide +kernel
theorem dX8_element_159 : decode cX8_element 159 = .ok (.iload_n 1, 1) := by decide +kernel
theorem dX8_element_160 : decode cX8_element 160 = .ok (.iaload, 1) := by decide +kernel
theorem dX8_element_161 : decode cX8_element 161 = .ok (.invokestatic 203, 3) := by decide +kernel
theorem dX8_element_164 : decode cX8_element 164 = .ok (.goto 4, 3) := by decide +kernel
theorem dX8_element_167 : decode cX8_element 167 = .ok (.iconst 0, 1) := by decide +kernel
theorem dX8_element_168 : decode cX8_element 168 = .ok (.ireturn, 1) := by decide +kernel
theorem dX8_element_169 : decode cX8_element 169 = .ok (.aload_n 0, 1) := by decide +kernel
theorem dX8_element_170 : decode cX8_element 170 = .ok (.iconst 2, 1) := by decide +kernel
theorem dX8_element_171 : decode cX8_element 171 = .ok (.invokevirtual 386, 3) := by decide +kernel
theorem dX8_element_174 : decode cX8_element 174 = .ok (.ireturn, 1) := by decide +kernel
theorem dX8_isNoteAt_0 : decode cX8_isNoteAt 0 = .ok (.aload_n 0, 1) := by decide +kernel
theorem dX8_isNoteAt_1 : decode cX8_isNoteAt 1 = .ok (.iload_n 1, 1) := by decide +kernel
theorem dX8_isNoteAt_2 : decode cX8_isNoteAt 2 = .ok (.invokevirtual 383, 3) := by decide +kernel
theorem dX8_isNoteAt_5 : decode cX8_isNoteAt 5 = .ok (.ifCond .eq 16, 3) := by decide +kernel
theorem dX8_isNoteAt_8 : decode cX8_isNoteAt 8 = .ok (.aload_n 0, 1) := by decide +kernel
theorem dX8_isNoteAt_9 : decode cX8_isNoteAt 9 = .ok (.getfield 29, 3) := by decide +kernel
theorem dX8_isNoteAt_12 : decode cX8_isNoteAt 12 = .ok (.iload_n 1, 1) := by decide +kernel
theorem dX8_isNoteAt_13 : decode cX8_isNoteAt 13 = .ok (.baload, 1) := by decide +kernel
theorem dX8_isNoteAt_14 : decode cX8_isNoteAt 14 = .ok (.ifCond .eq 7, 3) := by decide +kernel
theorem dX8_isNoteAt_17 : decode cX8_isNoteAt 17 = .ok (.iconst 1, 1) := by decide +kernel
theorem dX8_isNoteAt_18 : decode cX8_isNoteAt 18 = .ok (.goto 4, 3) := by decide +kernel
theorem dX8_isNoteAt_21 : decode cX8_isNoteAt 21 = .ok (.iconst 0, 1) := by decide +kernel
theorem dX8_isNoteAt_22 : decode cX8_isNoteAt 22 = .ok (.ireturn, 1) := by decide +kernel
theorem dX8_position_0 : decode cX8_position 0 = .ok (.aload_n 0, 1) := by decide +kernel
theorem dX8_position_1 : decode cX8_position 1 = .ok (.iconst 0, 1) := by decide +kernel
theorem dX8_position_2 : decode cX8_position 2 = .ok (.putfield 112, 3) := by decide +kernel
theorem dX8_position_5 : decode cX8_position 5 = .ok (.aload_n 0, 1) := by decide +kernel
theorem dX8_position_6 : decode cX8_position 6 = .ok (.iload_n 1, 1) := by decide +kernel
theorem dX8_position_7 : decode cX8_position 7 = .ok (.invokevirtual 389, 3) := by decide +kernel
theorem dX8_position_10 : decode cX8_position 10 = .ok (.ifCond .eq 12, 3) := by decide +kernel
theorem dX8_position_13 : decode cX8_position 13 = .ok (.aload_n 0, 1) := by decide +kernel
theorem dX8_position_14 : decode cX8_position 14 = .ok (.getfield 33, 3) := by decide +kernel
theorem dX8_position_17 : decode cX8_position 17 = .ok (.iload_n 1, 1) := by decide +kernel
theorem dX8_position_18 : decode cX8_position 18 = .ok (.iaload, 1) := by decide +kernel
theorem dX8_position_19 : decode cX8_position 19 = .ok (.goto 5, 3) := by decide +kernel
theorem dX8_position_22 : decode cX8_position 22 = .ok (.ldc 251, 2) := by decide +kernel
theorem dX8_position_24 : decode cX8_position 24 = .ok (.ireturn, 1) := by decide +kernel
theorem dX8_direction_0 : decode cX8_direction 0 = .ok (.aload_n 0, 1) := by decide +kernel
theorem dX8_direction_1 : decode cX8_direction 1 = .ok (.iconst 0, 1) := by decide +kernel
theorem dX8_direction_2 : decode cX8_direction 2 = .ok (.putfield 112, 3) := by decide +kernel
theorem dX8_direction_5 : decode cX8_direction 5 = .ok (.aload_n 0, 1) := by decide +kernel
theorem dX8_direction_6 : decode cX8_direction 6 = .ok (.iload_n 1, 1) := by decide +kernel
theorem dX8_direction_7 : decode cX8_direction 7 = .ok (.invokevirtual 383, 3) := by decide +kernel
theorem dX8_direction_10 : decode cX8_direction 10 = .ok (.ifCond .ne 6, 3) := by decide +kernel
theorem dX8_direction_13 : decode cX8_direction 13 = .ok (.ldc 251, 2) := by decide +kernel
theorem dX8_direction_15 : decode cX8_direction 15 = .ok (.ireturn, 1) := by decide +kernel
theorem dX8_direction_16 : decode cX8_direction 16 = .ok (.aload_n 0, 1) := by decide +kernel
theorem dX8_direction_17 : decode cX8_direction 17 = .ok (.getfield 42, 3) := by decide +kernel
theorem dX8_direction_20 : decode cX8_direction 20 = .ok (.iload_n 1, 1) := by decide +kernel
theorem dX8_direction_21 : decode cX8_direction 21 = .ok (.iaload, 1) := by decide +kernel
theorem dX8_direction_22 : decode cX8_direction 22 = .ok (.ifCond .ge 5, 3) := by decide +kernel
theorem dX8_direction_25 : decode cX8_direction 25 = .ok (.iconst 0, 1) := by decide +kernel
theorem dX8_direction_26 : decode cX8_direction 26 = .ok (.ireturn, 1) := by decide +kernel
theorem dX8_direction_27 : decode cX8_direction 27 = .ok (.aload_n 0, 1) := by decide +kernel
theorem dX8_direction_28 : decode cX8_direction 28 = .ok (.aload_n 0, 1) := by decide +kernel
theorem dX8_direction_29 : decode cX8_direction 29 = .ok (.getfield 42, 3) := by decide +kernel
theorem dX8_direction_32 : decode cX8_direction 32 = .ok (.iload_n 1, 1) := by decide +kernel
theorem dX8_direction_33 : decode cX8_direction 33 = .ok (.iaload, 1) := by decide +kernel
theorem dX8_direction_34 : decode cX8_direction 34 = .ok (.invokevirtual 169, 3) := by decide +kernel
theorem dX8_direction_37 : decode cX8_direction 37 = .ok (.aload_n 0, 1) := by decide +kernel
theorem dX8_direction_38 : decode cX8_direction 38 = .ok (.getfield 57, 3) := by decide +kernel
theorem dX8_direction_41 : decode cX8_direction 41 = .ok (.iload_n 1, 1) := by decide +kernel
theorem dX8_direction_42 : decode cX8_direction 42 = .ok (.iaload, 1) := by decide +kernel
theorem dX8_direction_43 : decode cX8_direction 43 = .ok (.ireturn, 1) := by decide +kernel
theorem dX8_put_0 : decode cX8_put 0 = .ok (.aload_n 0, 1) := by decide +kernel
theorem dX8_put_1 : decode cX8_put 1 = .ok (.iconst 0, 1) := by decide +kernel
theorem dX8_put_2 : decode cX8_put 2 = .ok (.putfield 112, 3) := by decide +kernel
theorem dX8_put_5 : decode cX8_put 5 = .ok (.aload_n 0, 1) := by decide +kernel
theorem dX8_put_6 : decode cX8_put 6 = .ok (.iload_n 1, 1) := by decide +kernel
theorem dX8_put_7 : decode cX8_put 7 = .ok (.invokevirtual 389, 3) := by decide +kernel
theorem dX8_put_10 : decode cX8_put 10 = .ok (.ifCond .eq 14, 3) := by decide +kernel
theorem dX8_put_13 : decode cX8_put 13 = .ok (.iload_n 2, 1) := by decide +kernel
theorem dX8_put_14 : decode cX8_put 14 = .ok (.bipush (-12), 2) := by decide +kernel
theorem dX8_put_16 : decode cX8_put 16 = .ok (.bipush 12, 2) := by decide +kernel
theorem dX8_put_18 : decode cX8_put 18 = .ok (.invokestatic 189, 3) := by decide +kernel
theorem dX8_put_21 : decode cX8_put 21 = .ok (.ifCond .ne 6, 3) := by decide +kernel
theorem dX8_put_24 : decode cX8_put 24 = .ok (.ldc 251, 2) := by decide +kernel
theorem dX8_put_26 : decode cX8_put 26 = .ok (.ireturn, 1) := by decide +kernel
theorem dX8_put_27 : decode cX8_put 27 = .ok (.aload_n 0, 1) := by decide +kernel
theorem dX8_put_28 : decode cX8_put 28 = .ok (.getfield 374, 3) := by decide +kernel
theorem dX8_put_31 : decode cX8_put 31 = .ok (.bipush 20, 2) := by decide +kernel
theorem dX8_put_33 : decode cX8_put 33 = .ok (.if_icmp .ne 55, 3) := by decide +kernel
theorem dX8_put_36 : decode cX8_put 36 = .ok (.iconst 1, 1) := by decide +kernel
theorem dX8_put_37 : decode cX8_put 37 = .ok (.istore_n 3, 1) := by decide +kernel
theorem dX8_put_38 : decode cX8_put 38 = .ok (.iload_n 3, 1) := by decide +kernel
theorem dX8_put_39 : decode cX8_put 39 = .ok (.bipush 20, 2) := by decide +kernel
theorem dX8_put_41 : decode cX8_put 41 = .ok (.if_icmp .ge 37, 3) := by decide +kernel
theorem dX8_put_44 : decode cX8_put 44 = .ok (.aload_n 0, 1) := by decide +kernel
theorem dX8_put_45 : decode cX8_put 45 = .ok (.getfield 97, 3) := by decide +kernel
theorem dX8_put_48 : decode cX8_put 48 = .ok (.iload_n 3, 1) := by decide +kernel
theorem dX8_put_49 : decode cX8_put 49 = .ok (.iconst 1, 1) := by decide +kernel
theorem dX8_put_50 : decode cX8_put 50 = .ok (.isub, 1) := by decide +kernel
theorem dX8_put_51 : decode cX8_put 51 = .ok (.aload_n 0, 1) := by decide +kernel
theorem dX8_put_52 : decode cX8_put 52 = .ok (.getfield 97, 3) := by decide +kernel
theorem dX8_put_55 : decode cX8_put 55 = .ok (.iload_n 3, 1) := by decide +kernel
theorem dX8_put_56 : decode cX8_put 56 = .ok (.iaload, 1) := by decide +kernel
theorem dX8_put_57 : decode cX8_put 57 = .ok (.iastore, 1) := by decide +kernel
theorem dX8_put_58 : decode cX8_put 58 = .ok (.aload_n 0, 1) := by decide +kernel
theorem dX8_put_59 : decode cX8_put 59 = .ok (.getfield 100, 3) := by decide +kernel
theorem dX8_put_62 : decode cX8_put 62 = .ok (.iload_n 3, 1) := by decide +kernel
theorem dX8_put_63 : decode cX8_put 63 = .ok (.iconst 1, 1) := by decide +kernel
theorem dX8_put_64 : decode cX8_put 64 = .ok (.isub, 1) := by decide +kernel
theorem dX8_put_65 : decode cX8_put 65 = .ok (.aload_n 0, 1) := by decide +kernel
theorem dX8_put_66 : decode cX8_put 66 = .ok (.getfield 100, 3) := by decide +kernel
theorem dX8_put_69 : decode cX8_put 69 = .ok (.iload_n 3, 1) := by decide +kernel
theorem dX8_put_70 : decode cX8_put 70 = .ok (.iaload, 1) := by decide +kernel
theorem dX8_put_71 : decode cX8_put 71 = .ok (.iastore, 1) := by decide +kernel
theorem dX8_put_72 : decode cX8_put 72 = .ok (.iinc 3 1, 3) := by decide +kernel
theorem dX8_put_75 : decode cX8_put 75 = .ok (.goto (-37), 3) := by decide +kernel
theorem dX8_put_78 : decode cX8_put 78 = .ok (.aload_n 0, 1) := by decide +kernel
theorem dX8_put_79 : decode cX8_put 79 = .ok (.dup, 1) := by decide +kernel
theorem dX8_put_80 : decode cX8_put 80 = .ok (.getfield 374, 3) := by decide +kernel
theorem dX8_put_83 : decode cX8_put 83 = .ok (.iconst 1, 1) := by decide +kernel
theorem dX8_put_84 : decode cX8_put 84 = .ok (.isub, 1) := by decide +kernel
theorem dX8_put_85 : decode cX8_put 85 = .ok (.putfield 374, 3) := by decide +kernel
theorem dX8_put_88 : decode cX8_put 88 = .ok (.aload_n 0, 1) := by decide +kernel
theorem dX8_put_89 : decode cX8_put 89 = .ok (.getfield 33, 3) := by decide +kernel
theorem dX8_put_92 : decode cX8_put 92 = .ok (.iload_n 1, 1) := by decide +kernel
theorem dX8_put_93 : decode cX8_put 93 = .ok (.iaload, 1) := by decide +kernel
theorem dX8_put_94 : decode cX8_put 94 = .ok (.istore_n 3, 1) := by decide +kernel
theorem dX8_put_95 : decode cX8_put 95 = .ok (.aload_n 0, 1) := by decide +kernel
theorem dX8_put_96 : decode cX8_put 96 = .ok (.getfield 97, 3) := by decide +kernel
theorem dX8_put_99 : decode cX8_put 99 = .ok (.aload_n 0, 1) := by decide +kernel
theorem dX8_put_100 : decode cX8_put 100 = .ok (.getfield 374, 3) := by decide +kernel
theorem dX8_put_103 : decode cX8_put 103 = .ok (.iload_n 1, 1) := by decide +kernel
theorem dX8_put_104 : decode cX8_put 104 = .ok (.iastore, 1) := by decide +kernel
theorem dX8_put_105 : decode cX8_put 105 = .ok (.aload_n 0, 1) := by decide +kernel
theorem dX8_put_106 : decode cX8_put 106 = .ok (.getfield 100, 3) := by decide +kernel
theorem dX8_put_109 : decode cX8_put 109 = .ok (.aload_n 0, 1) := by decide +kernel
theorem dX8_put_110 : decode cX8_put 110 = .ok (.getfield 374, 3) := by decide +kernel
theorem dX8_put_113 : decode cX8_put 113 = .ok (.iload_n 3, 1) := by decide +kernel
theorem dX8_put_114 : decode cX8_put 114 = .ok (.iastore, 1) := by decide +kernel
theorem dX8_put_115 : decode cX8_put 115 = .ok (.aload_n 0, 1) := by decide +kernel
theorem dX8_put_116 : decode cX8_put 116 = .ok (.dup, 1) := by decide +kernel
theorem dX8_put_117 : decode cX8_put 117 = .ok (.getfield 374, 3) := by decide +kernel
theorem dX8_put_120 : decode cX8_put 120 = .ok (.iconst 1, 1) := by decide +kernel
theorem dX8_put_121 : decode cX8_put 121 = .ok (.iadd, 1) := by decide +kernel
theorem dX8_put_122 : decode cX8_put 122 = .ok (.putfield 374, 3) := by decide +kernel
theorem dX8_put_125 : decode cX8_put 125 = .ok (.aload_n 0, 1) := by decide +kernel
theorem dX8_put_126 : decode cX8_put 126 = .ok (.getfield 33, 3) := by decide +kernel
theorem dX8_put_129 : decode cX8_put 129 = .ok (.iload_n 1, 1) := by decide +kernel
theorem dX8_put_130 : decode cX8_put 130 = .ok (.iload_n 2, 1) := by decide +kernel
theorem dX8_put_131 : decode cX8_put 131 = .ok (.iastore, 1) := by decide +kernel
theorem dX8_put_132 : decode cX8_put 132 = .ok (.aload_n 0, 1) := by decide +kernel
theorem dX8_put_133 : decode cX8_put 133 = .ok (.invokevirtual 380, 3) := by decide +kernel
theorem dX8_put_136 : decode cX8_put 136 = .ok (.iload_n 3, 1) := by decide +kernel
theorem dX8_put_137 : decode cX8_put 137 = .ok (.ireturn, 1) := by decide +kernel
theorem dX8_undo_0 : decode cX8_undo 0 = .ok (.aload_n 0, 1) := by decide +kernel
theorem dX8_undo_1 : decode cX8_undo 1 = .ok (.iconst 0, 1) := by decide +kernel
theorem dX8_undo_2 : decode cX8_undo 2 = .ok (.putfield 112, 3) := by decide +kernel
theorem dX8_undo_5 : decode cX8_undo 5 = .ok (.aload_n 0, 1) := by decide +kernel
theorem dX8_undo_6 : decode cX8_undo 6 = .ok (.getfield 374, 3) := by decide +kernel
theorem dX8_undo_9 : decode cX8_undo 9 = .ok (.ifCond .ne 5, 3) := by decide +kernel
theorem dX8_undo_12 : decode cX8_undo 12 = .ok (.iconst (-1), 1) := by decide +kernel
theorem dX8_undo_13 : decode cX8_undo 13 = .ok (.ireturn, 1) := by decide +kernel
theorem dX8_undo_14 : decode cX8_undo 14 = .ok (.aload_n 0, 1) := by decide +kernel
theorem dX8_undo_15 : decode cX8_undo 15 = .ok (.dup, 1) := by decide +kernel
theorem dX8_undo_16 : decode cX8_undo 16 = .ok (.getfield 374, 3) := by decide +kernel
theorem dX8_undo_19 : decode cX8_undo 19 = .ok (.iconst 1, 1) := by decide +kernel
theorem dX8_undo_20 : decode cX8_undo 20 = .ok (.isub, 1) := by decide +kernel
theorem dX8_undo_21 : decode cX8_undo 21 = .ok (.putfield 374, 3) := by decide +kernel
theorem dX8_undo_24 : decode cX8_undo 24 = .ok (.aload_n 0, 1) := by decide +kernel
theorem dX8_undo_25 : decode cX8_undo 25 = .ok (.getfield 33, 3) := by decide +kernel
theorem dX8_undo_28 : decode cX8_undo 28 = .ok (.aload_n 0, 1) := by decide +kernel
theorem dX8_undo_29 : decode cX8_undo 29 = .ok (.getfield 97, 3) := by decide +kernel
theorem dX8_undo_32 : decode cX8_undo 32 = .ok (.aload_n 0, 1) := by decide +kernel
theorem dX8_undo_33 : decode cX8_undo 33 = .ok (.getfield 374, 3) := by decide +kernel
theorem dX8_undo_36 : decode cX8_undo 36 = .ok (.iaload, 1) := by decide +kernel
theorem dX8_undo_37 : decode cX8_undo 37 = .ok (.aload_n 0, 1) := by decide +kernel
theorem dX8_undo_38 : decode cX8_undo 38 = .ok (.getfield 100, 3) := by decide +kernel
theorem dX8_undo_41 : decode cX8_undo 41 = .ok (.aload_n 0, 1) := by decide +kernel
theorem dX8_undo_42 : decode cX8_undo 42 = .ok (.getfield 374, 3) := by decide +kernel
theorem dX8_undo_45 : decode cX8_undo 45 = .ok (.iaload, 1) := by decide +kernel
theorem dX8_undo_46 : decode cX8_undo 46 = .ok (.iastore, 1) := by decide +kernel
theorem dX8_undo_47 : decode cX8_undo 47 = .ok (.aload_n 0, 1) := by decide +kernel
theorem dX8_undo_48 : decode cX8_undo 48 = .ok (.invokevirtual 380, 3) := by decide +kernel
theorem dX8_undo_51 : decode cX8_undo 51 = .ok (.aload_n 0, 1) := by decide +kernel
theorem dX8_undo_52 : decode cX8_undo 52 = .ok (.getfield 374, 3) := by decide +kernel
theorem dX8_undo_55 : decode cX8_undo 55 = .ok (.ireturn, 1) := by decide +kernel
theorem dX8_mostBeams_0 : decode cX8_mostBeams 0 = .ok (.iconst 0, 1) := by decide +kernel
theorem dX8_mostBeams_1 : decode cX8_mostBeams 1 = .ok (.istore_n 2, 1) := by decide +kernel
theorem dX8_mostBeams_2 : decode cX8_mostBeams 2 = .ok (.iconst 0, 1) := by decide +kernel
theorem dX8_mostBeams_3 : decode cX8_mostBeams 3 = .ok (.istore_n 3, 1) := by decide +kernel
theorem dX8_mostBeams_4 : decode cX8_mostBeams 4 = .ok (.iload_n 3, 1) := by decide +kernel
theorem dX8_mostBeams_5 : decode cX8_mostBeams 5 = .ok (.aload_n 0, 1) := by decide +kernel
theorem dX8_mostBeams_6 : decode cX8_mostBeams 6 = .ok (.getfield 48, 3) := by decide +kernel
theorem dX8_mostBeams_9 : decode cX8_mostBeams 9 = .ok (.iload_n 1, 1) := by decide +kernel
theorem dX8_mostBeams_10 : decode cX8_mostBeams 10 = .ok (.iaload, 1) := by decide +kernel
theorem dX8_mostBeams_11 : decode cX8_mostBeams 11 = .ok (.if_icmp .ge 50, 3) := by decide +kernel
theorem dX8_mostBeams_14 : decode cX8_mostBeams 14 = .ok (.aload_n 0, 1) := by decide +kernel
theorem dX8_mostBeams_15 : decode cX8_mostBeams 15 = .ok (.getfield 26, 3) := by decide +kernel
theorem dX8_mostBeams_18 : decode cX8_mostBeams 18 = .ok (.aload_n 0, 1) := by decide +kernel
theorem dX8_mostBeams_19 : decode cX8_mostBeams 19 = .ok (.getfield 45, 3) := by decide +kernel
theorem dX8_mostBeams_22 : decode cX8_mostBeams 22 = .ok (.iload_n 1, 1) := by decide +kernel
theorem dX8_mostBeams_23 : decode cX8_mostBeams 23 = .ok (.iaload, 1) := by decide +kernel
theorem dX8_mostBeams_24 : decode cX8_mostBeams 24 = .ok (.iload_n 3, 1) := by decide +kernel
theorem dX8_mostBeams_25 : decode cX8_mostBeams 25 = .ok (.iadd, 1) := by decide +kernel
theorem dX8_mostBeams_26 : decode cX8_mostBeams 26 = .ok (.iaload, 1) := by decide +kernel
theorem dX8_mostBeams_27 : decode cX8_mostBeams 27 = .ok (.invokestatic 203, 3) := by decide +kernel
theorem dX8_mostBeams_30 : decode cX8_mostBeams 30 = .ok (.iload_n 2, 1) := by decide +kernel
theorem dX8_mostBeams_31 : decode cX8_mostBeams 31 = .ok (.if_icmp .le 22, 3) := by decide +kernel
theorem dX8_mostBeams_34 : decode cX8_mostBeams 34 = .ok (.aload_n 0, 1) := by decide +kernel
theorem dX8_mostBeams_35 : decode cX8_mostBeams 35 = .ok (.getfield 26, 3) := by decide +kernel
theorem dX8_mostBeams_38 : decode cX8_mostBeams 38 = .ok (.aload_n 0, 1) := by decide +kernel
theorem dX8_mostBeams_39 : decode cX8_mostBeams 39 = .ok (.getfield 45, 3) := by decide +kernel
theorem dX8_mostBeams_42 : decode cX8_mostBeams 42 = .ok (.iload_n 1, 1) := by decide +kernel
theorem dX8_mostBeams_43 : decode cX8_mostBeams 43 = .ok (.iaload, 1) := by decide +kernel
theorem dX8_mostBeams_44 : decode cX8_mostBeams 44 = .ok (.iload_n 3, 1) := by decide +kernel
theorem dX8_mostBeams_45 : decode cX8_mostBeams 45 = .ok (.iadd, 1) := by decide +kernel
theorem dX8_mostBeams_46 : decode cX8_mostBeams 46 = .ok (.iaload, 1) := by decide +kernel
theorem dX8_mostBeams_47 : decode cX8_mostBeams 47 = .ok (.invokestatic 203, 3) := by decide +kernel
theorem dX8_mostBeams_50 : decode cX8_mostBeams 50 = .ok (.goto 4, 3) := by decide +kernel
theorem dX8_mostBeams_53 : decode cX8_mostBeams 53 = .ok (.iload_n 2, 1) := by decide +kernel
theorem dX8_mostBeams_54 : decode cX8_mostBeams 54 = .ok (.istore_n 2, 1) := by decide +kernel
theorem dX8_mostBeams_55 : decode cX8_mostBeams 55 = .ok (.iinc 3 1, 3) := by decide +kernel
theorem dX8_mostBeams_58 : decode cX8_mostBeams 58 = .ok (.goto (-54), 3) := by decide +kernel
theorem dX8_mostBeams_61 : decode cX8_mostBeams 61 = .ok (.iload_n 2, 1) := by decide +kernel
theorem dX8_mostBeams_62 : decode cX8_mostBeams 62 = .ok (.ireturn, 1) := by decide +kernel
theorem dX8_upMany_0 : decode cX8_upMany 0 = .ok (.aload_n 0, 1) := by decide +kernel
theorem dX8_upMany_1 : decode cX8_upMany 1 = .ok (.iload_n 1, 1) := by decide +kernel
theorem dX8_upMany_2 : decode cX8_upMany 2 = .ok (.invokevirtual 169, 3) := by decide +kernel
theorem dX8_upMany_5 : decode cX8_upMany 5 = .ok (.iconst 0, 1) := by decide +kernel
theorem dX8_upMany_6 : decode cX8_upMany 6 = .ok (.istore_n 2, 1) := by decide +kernel
theorem dX8_upMany_7 : decode cX8_upMany 7 = .ok (.iconst 0, 1) := by decide +kernel
theorem dX8_upMany_8 : decode cX8_upMany 8 = .ok (.istore_n 3, 1) := by decide +kernel
theorem dX8_upMany_9 : decode cX8_upMany 9 = .ok (.iload_n 3, 1) := by decide +kernel
theorem dX8_upMany_10 : decode cX8_upMany 10 = .ok (.aload_n 0, 1) := by decide +kernel
theorem dX8_upMany_11 : decode cX8_upMany 11 = .ok (.getfield 48, 3) := by decide +kernel
theorem dX8_upMany_14 : decode cX8_upMany 14 = .ok (.iload_n 1, 1) := by decide +kernel
theorem dX8_upMany_15 : decode cX8_upMany 15 = .ok (.iaload, 1) := by decide +kernel
theorem dX8_upMany_16 : decode cX8_upMany 16 = .ok (.if_icmp .ge 33, 3) := by decide +kernel
theorem dX8_upMany_19 : decode cX8_upMany 19 = .ok (.iload_n 2, 1) := by decide +kernel
theorem dX8_upMany_20 : decode cX8_upMany 20 = .ok (.aload_n 0, 1) := by decide +kernel
theorem dX8_upMany_21 : decode cX8_upMany 21 = .ok (.getfield 57, 3) := by decide +kernel
theorem dX8_upMany_24 : decode cX8_upMany 24 = .ok (.aload_n 0, 1) := by decide +kernel
theorem dX8_upMany_25 : decode cX8_upMany 25 = .ok (.getfield 45, 3) := by decide +kernel
theorem dX8_upMany_28 : decode cX8_upMany 28 = .ok (.iload_n 1, 1) := by decide +kernel
theorem dX8_upMany_29 : decode cX8_upMany 29 = .ok (.iaload, 1) := by decide +kernel
theorem dX8_upMany_30 : decode cX8_upMany 30 = .ok (.iload_n 3, 1) := by decide +kernel
theorem dX8_upMany_31 : decode cX8_upMany 31 = .ok (.iadd, 1) := by decide +kernel
theorem dX8_upMany_32 : decode cX8_upMany 32 = .ok (.iaload, 1) := by decide +kernel
theorem dX8_upMany_33 : decode cX8_upMany 33 = .ok (.ifCond .le 7, 3) := by decide +kernel
theorem dX8_upMany_36 : decode cX8_upMany 36 = .ok (.iconst 1, 1) := by decide +kernel
theorem dX8_upMany_37 : decode cX8_upMany 37 = .ok (.goto 4, 3) := by decide +kernel
theorem dX8_upMany_40 : decode cX8_upMany 40 = .ok (.iconst 0, 1) := by decide +kernel
theorem dX8_upMany_41 : decode cX8_upMany 41 = .ok (.iadd, 1) := by decide +kernel
theorem dX8_upMany_42 : decode cX8_upMany 42 = .ok (.istore_n 2, 1) := by decide +kernel
theorem dX8_upMany_43 : decode cX8_upMany 43 = .ok (.iinc 3 1, 3) := by decide +kernel
theorem dX8_upMany_46 : decode cX8_upMany 46 = .ok (.goto (-37), 3) := by decide +kernel
theorem dX8_upMany_49 : decode cX8_upMany 49 = .ok (.iload_n 2, 1) := by decide +kernel
theorem dX8_upMany_50 : decode cX8_upMany 50 = .ok (.ireturn, 1) := by decide +kernel
theorem dX8_allowedMany_0 : decode cX8_allowedMany 0 = .ok (.aload_n 0, 1) := by decide +kernel
theorem dX8_allowedMany_1 : decode cX8_allowedMany 1 = .ok (.iload_n 1, 1) := by decide +kernel
theorem dX8_allowedMany_2 : decode cX8_allowedMany 2 = .ok (.invokevirtual 245, 3) := by decide +kernel
theorem dX8_allowedMany_5 : decode cX8_allowedMany 5 = .ok (.aload_n 0, 1) := by decide +kernel
theorem dX8_allowedMany_6 : decode cX8_allowedMany 6 = .ok (.getfield 227, 3) := by decide +kernel
theorem dX8_allowedMany_9 : decode cX8_allowedMany 9 = .ok (.ireturn, 1) := by decide +kernel
theorem dX8_isKneedNow_0 : decode cX8_isKneedNow 0 = .ok (.aload_n 0, 1) := by decide +kernel
theorem dX8_isKneedNow_1 : decode cX8_isKneedNow 1 = .ok (.iload_n 1, 1) := by decide +kernel
theorem dX8_isKneedNow_2 : decode cX8_isKneedNow 2 = .ok (.invokevirtual 169, 3) := by decide +kernel
theorem dX8_isKneedNow_5 : decode cX8_isKneedNow 5 = .ok (.aload_n 0, 1) := by decide +kernel
theorem dX8_isKneedNow_6 : decode cX8_isKneedNow 6 = .ok (.getfield 162, 3) := by decide +kernel
theorem dX8_isKneedNow_9 : decode cX8_isKneedNow 9 = .ok (.ireturn, 1) := by decide +kernel
theorem dX8_group_0 : decode cX8_group 0 = .ok (.aload_n 0, 1) := by decide +kernel
theorem dX8_group_1 : decode cX8_group 1 = .ok (.iconst 0, 1) := by decide +kernel
theorem dX8_group_2 : decode cX8_group 2 = .ok (.putfield 112, 3) := by decide +kernel
theorem dX8_group_5 : decode cX8_group 5 = .ok (.aload_n 0, 1) := by decide +kernel
theorem dX8_group_6 : decode cX8_group 6 = .ok (.iload_n 1, 1) := by decide +kernel
theorem dX8_group_7 : decode cX8_group 7 = .ok (.invokevirtual 392, 3) := by decide +kernel
theorem dX8_group_10 : decode cX8_group 10 = .ok (.ifCond .ne 9, 3) := by decide +kernel
theorem dX8_group_13 : decode cX8_group 13 = .ok (.aload_n 0, 1) := by decide +kernel
theorem dX8_group_14 : decode cX8_group 14 = .ok (.iconst 1, 1) := by decide +kernel
theorem dX8_group_15 : decode cX8_group 15 = .ok (.invokevirtual 386, 3) := by decide +kernel
theorem dX8_group_18 : decode cX8_group 18 = .ok (.ireturn, 1) := by decide +kernel
theorem dX8_group_19 : decode cX8_group 19 = .ok (.iload_n 2, 1) := by decide +kernel
theorem dX8_group_20 : decode cX8_group 20 = .ok (.tableswitch 123 0 6 #[44, 51, 58, 72, 105, 111, 117], 44) := by decide +kernel
theorem dX8_group_64 : decode cX8_group 64 = .ok (.aload_n 0, 1) := by decide +kernel
theorem dX8_group_65 : decode cX8_group 65 = .ok (.getfield 45, 3) := by decide +kernel
theorem dX8_group_68 : decode cX8_group 68 = .ok (.iload_n 1, 1) := by decide +kernel
theorem dX8_group_69 : decode cX8_group 69 = .ok (.iaload, 1) := by decide +kernel
theorem dX8_group_70 : decode cX8_group 70 = .ok (.ireturn, 1) := by decide +kernel
theorem dX8_group_71 : decode cX8_group 71 = .ok (.aload_n 0, 1) := by decide +kernel
theorem dX8_group_72 : decode cX8_group 72 = .ok (.getfield 48, 3) := by decide +kernel
theorem dX8_group_75 : decode cX8_group 75 = .ok (.iload_n 1, 1) := by decide +kernel
theorem dX8_group_76 : decode cX8_group 76 = .ok (.iaload, 1) := by decide +kernel
theorem dX8_group_77 : decode cX8_group 77 = .ok (.ireturn, 1) := by decide +kernel
theorem dX8_group_78 : decode cX8_group 78 = .ok (.aload_n 0, 1) := by decide +kernel
theorem dX8_group_79 : decode cX8_group 79 = .ok (.iload_n 1, 1) := by decide +kernel
theorem dX8_group_80 : decode cX8_group 80 = .ok (.invokevirtual 395, 3) := by decide +kernel
theorem dX8_group_83 : decode cX8_group 83 = .ok (.ifCond .eq 7, 3) := by decide +kernel
theorem dX8_group_86 : decode cX8_group 86 = .ok (.iconst 1, 1) := by decide +kernel
theorem dX8_group_87 : decode cX8_group 87 = .ok (.goto 4, 3) := by decide +kernel
theorem dX8_group_90 : decode cX8_group 90 = .ok (.iconst 0, 1) := by decide +kernel
theorem dX8_group_91 : decode cX8_group 91 = .ok (.ireturn, 1) := by decide +kernel
theorem dX8_group_92 : decode cX8_group 92 = .ok (.aload_n 0, 1) := by decide +kernel
theorem dX8_group_93 : decode cX8_group 93 = .ok (.getfield 39, 3) := by decide +kernel
theorem dX8_group_96 : decode cX8_group 96 = .ok (.aload_n 0, 1) := by decide +kernel
theorem dX8_group_97 : decode cX8_group 97 = .ok (.getfield 45, 3) := by decide +kernel
theorem dX8_group_100 : decode cX8_group 100 = .ok (.iload_n 1, 1) := by decide +kernel
theorem dX8_group_101 : decode cX8_group 101 = .ok (.iaload, 1) := by decide +kernel
theorem dX8_group_102 : decode cX8_group 102 = .ok (.aload_n 0, 1) := by decide +kernel
theorem dX8_group_103 : decode cX8_group 103 = .ok (.getfield 48, 3) := by decide +kernel
theorem dX8_group_106 : decode cX8_group 106 = .ok (.iload_n 1, 1) := by decide +kernel
theorem dX8_group_107 : decode cX8_group 107 = .ok (.iaload, 1) := by decide +kernel
theorem dX8_group_108 : decode cX8_group 108 = .ok (.iadd, 1) := by decide +kernel
theorem dX8_group_109 : decode cX8_group 109 = .ok (.iconst 1, 1) := by decide +kernel
theorem dX8_group_110 : decode cX8_group 110 = .ok (.isub, 1) := by decide +kernel
theorem dX8_group_111 : decode cX8_group 111 = .ok (.iaload, 1) := by decide +kernel
theorem dX8_group_112 : decode cX8_group 112 = .ok (.aload_n 0, 1) := by decide +kernel
theorem dX8_group_113 : decode cX8_group 113 = .ok (.getfield 39, 3) := by decide +kernel
theorem dX8_group_116 : decode cX8_group 116 = .ok (.aload_n 0, 1) := by decide +kernel
theorem dX8_group_117 : decode cX8_group 117 = .ok (.getfield 45, 3) := by decide +kernel
theorem dX8_group_120 : decode cX8_group 120 = .ok (.iload_n 1, 1) := by decide +kernel
theorem dX8_group_121 : decode cX8_group 121 = .ok (.iaload, 1) := by decide +kernel
theorem dX8_group_122 : decode cX8_group 122 = .ok (.iaload, 1) := by decide +kernel
theorem dX8_group_123 : decode cX8_group 123 = .ok (.isub, 1) := by decide +kernel
theorem dX8_group_124 : decode cX8_group 124 = .ok (.ireturn, 1) := by decide +kernel
theorem dX8_group_125 : decode cX8_group 125 = .ok (.aload_n 0, 1) := by decide +kernel
theorem dX8_group_126 : decode cX8_group 126 = .ok (.iload_n 1, 1) := by decide +kernel
theorem dX8_group_127 : decode cX8_group 127 = .ok (.invokevirtual 398, 3) := by decide +kernel
theorem dX8_group_130 : decode cX8_group 130 = .ok (.ireturn, 1) := by decide +kernel
theorem dX8_group_131 : decode cX8_group 131 = .ok (.aload_n 0, 1) := by decide +kernel
theorem dX8_group_132 : decode cX8_group 132 = .ok (.iload_n 1, 1) := by decide +kernel
theorem dX8_group_133 : decode cX8_group 133 = .ok (.invokevirtual 401, 3) := by decide +kernel
theorem dX8_group_136 : decode cX8_group 136 = .ok (.ireturn, 1) := by decide +kernel
theorem dX8_group_137 : decode cX8_group 137 = .ok (.aload_n 0, 1) := by decide +kernel
theorem dX8_group_138 : decode cX8_group 138 = .ok (.iload_n 1, 1) := by decide +kernel
theorem dX8_group_139 : decode cX8_group 139 = .ok (.invokevirtual 404, 3) := by decide +kernel
theorem dX8_group_142 : decode cX8_group 142 = .ok (.ireturn, 1) := by decide +kernel
theorem dX8_group_143 : decode cX8_group 143 = .ok (.aload_n 0, 1) := by decide +kernel
theorem dX8_group_144 : decode cX8_group 144 = .ok (.iconst 2, 1) := by decide +kernel
theorem dX8_group_145 : decode cX8_group 145 = .ok (.invokevirtual 386, 3) := by decide +kernel
theorem dX8_group_148 : decode cX8_group 148 = .ok (.ireturn, 1) := by decide +kernel
theorem dX8_want_0 : decode cX8_want 0 = .ok (.aload_n 0, 1) := by decide +kernel
theorem dX8_want_1 : decode cX8_want 1 = .ok (.iconst 0, 1) := by decide +kernel
theorem dX8_want_2 : decode cX8_want 2 = .ok (.putfield 112, 3) := by decide +kernel
theorem dX8_want_5 : decode cX8_want 5 = .ok (.aload_n 0, 1) := by decide +kernel
theorem dX8_want_6 : decode cX8_want 6 = .ok (.iload_n 1, 1) := by decide +kernel
theorem dX8_want_7 : decode cX8_want 7 = .ok (.invokevirtual 392, 3) := by decide +kernel
theorem dX8_want_10 : decode cX8_want 10 = .ok (.ifCond .ne 6, 3) := by decide +kernel
theorem dX8_want_13 : decode cX8_want 13 = .ok (.ldc 251, 2) := by decide +kernel
theorem dX8_want_15 : decode cX8_want 15 = .ok (.ireturn, 1) := by decide +kernel
theorem dX8_want_16 : decode cX8_want 16 = .ok (.aload_n 0, 1) := by decide +kernel
theorem dX8_want_17 : decode cX8_want 17 = .ok (.iload_n 1, 1) := by decide +kernel
theorem dX8_want_18 : decode cX8_want 18 = .ok (.invokevirtual 224, 3) := by decide +kernel
theorem dX8_want_21 : decode cX8_want 21 = .ok (.aload_n 0, 1) := by decide +kernel
theorem dX8_want_22 : decode cX8_want 22 = .ok (.invokevirtual 200, 3) := by decide +kernel
theorem dX8_want_25 : decode cX8_want 25 = .ok (.ireturn, 1) := by decide +kernel
theorem dX8_ideal_0 : decode cX8_ideal 0 = .ok (.aload_n 0, 1) := by decide +kernel
theorem dX8_ideal_1 : decode cX8_ideal 1 = .ok (.iconst 0, 1) := by decide +kernel
theorem dX8_ideal_2 : decode cX8_ideal 2 = .ok (.putfield 112, 3) := by decide +kernel
theorem dX8_ideal_5 : decode cX8_ideal 5 = .ok (.aload_n 0, 1) := by decide +kernel
theorem dX8_ideal_6 : decode cX8_ideal 6 = .ok (.iload_n 1, 1) := by decide +kernel
theorem dX8_ideal_7 : decode cX8_ideal 7 = .ok (.invokevirtual 383, 3) := by decide +kernel
theorem dX8_ideal_10 : decode cX8_ideal 10 = .ok (.ifCond .ne 5, 3) := by decide +kernel
theorem dX8_ideal_13 : decode cX8_ideal 13 = .ok (.iconst (-1), 1) := by decide +kernel
theorem dX8_ideal_14 : decode cX8_ideal 14 = .ok (.ireturn, 1) := by decide +kernel
theorem dX8_ideal_15 : decode cX8_ideal 15 = .ok (.aload_n 0, 1) := by decide +kernel
theorem dX8_ideal_16 : decode cX8_ideal 16 = .ok (.getfield 42, 3) := by decide +kernel
theorem dX8_ideal_19 : decode cX8_ideal 19 = .ok (.iload_n 1, 1) := by decide +kernel
theorem dX8_ideal_20 : decode cX8_ideal 20 = .ok (.iaload, 1) := by decide +kernel
theorem dX8_ideal_21 : decode cX8_ideal 21 = .ok (.ifCond .ge 6, 3) := by decide +kernel
theorem dX8_ideal_24 : decode cX8_ideal 24 = .ok (.bipush (-2), 2) := by decide +kernel
theorem dX8_ideal_26 : decode cX8_ideal 26 = .ok (.ireturn, 1) := by decide +kernel
theorem dX8_ideal_27 : decode cX8_ideal 27 = .ok (.aload_n 0, 1) := by decide +kernel
theorem dX8_ideal_28 : decode cX8_ideal 28 = .ok (.aload_n 0, 1) := by decide +kernel
theorem dX8_ideal_29 : decode cX8_ideal 29 = .ok (.getfield 42, 3) := by decide +kernel
theorem dX8_ideal_32 : decode cX8_ideal 32 = .ok (.iload_n 1, 1) := by decide +kernel
theorem dX8_ideal_33 : decode cX8_ideal 33 = .ok (.iaload, 1) := by decide +kernel
theorem dX8_ideal_34 : decode cX8_ideal 34 = .ok (.invokevirtual 169, 3) := by decide +kernel
theorem dX8_ideal_37 : decode cX8_ideal 37 = .ok (.aload_n 0, 1) := by decide +kernel
theorem dX8_ideal_38 : decode cX8_ideal 38 = .ok (.iload_n 1, 1) := by decide +kernel
theorem dX8_ideal_39 : decode cX8_ideal 39 = .ok (.invokevirtual 193, 3) := by decide +kernel
theorem dX8_ideal_42 : decode cX8_ideal 42 = .ok (.ireturn, 1) := by decide +kernel
theorem dX8_isSetting_0 : decode cX8_isSetting 0 = .ok (.iload_n 0, 1) := by decide +kernel
theorem dX8_isSetting_1 : decode cX8_isSetting 1 = .ok (.bipush (-60), 2) := by decide +kernel
theorem dX8_isSetting_3 : decode cX8_isSetting 3 = .ok (.bipush 60, 2) := by decide +kernel
theorem dX8_isSetting_5 : decode cX8_isSetting 5 = .ok (.invokestatic 189, 3) := by decide +kernel
theorem dX8_isSetting_8 : decode cX8_isSetting 8 = .ok (.ifCond .eq 29, 3) := by decide +kernel
theorem dX8_isSetting_11 : decode cX8_isSetting 11 = .ok (.iload_n 1, 1) := by decide +kernel
theorem dX8_isSetting_12 : decode cX8_isSetting 12 = .ok (.bipush (-60), 2) := by decide +kernel
theorem dX8_isSetting_14 : decode cX8_isSetting 14 = .ok (.bipush 60, 2) := by decide +kernel
theorem dX8_isSetting_16 : decode cX8_isSetting 16 = .ok (.invokestatic 189, 3) := by decide +kernel
theorem dX8_isSetting_19 : decode cX8_isSetting 19 = .ok (.ifCond .eq 18, 3) := by decide +kernel
theorem dX8_isSetting_22 : decode cX8_isSetting 22 = .ok (.iload_n 1, 1) := by decide +kernel
theorem dX8_isSetting_23 : decode cX8_isSetting 23 = .ok (.iload_n 0, 1) := by decide +kernel
theorem dX8_isSetting_24 : decode cX8_isSetting 24 = .ok (.isub, 1) := by decide +kernel
theorem dX8_isSetting_25 : decode cX8_isSetting 25 = .ok (.invokestatic 156, 3) := by decide +kernel
theorem dX8_isSetting_28 : decode cX8_isSetting 28 = .ok (.bipush 8, 2) := by decide +kernel
theorem dX8_isSetting_30 : decode cX8_isSetting 30 = .ok (.if_icmp .gt 7, 3) := by decide +kernel
theorem dX8_isSetting_33 : decode cX8_isSetting 33 = .ok (.iconst 1, 1) := by decide +kernel
theorem dX8_isSetting_34 : decode cX8_isSetting 34 = .ok (.goto 4, 3) := by decide +kernel
theorem dX8_isSetting_37 : decode cX8_isSetting 37 = .ok (.iconst 0, 1) := by decide +kernel
theorem dX8_isSetting_38 : decode cX8_isSetting 38 = .ok (.ireturn, 1) := by decide +kernel
theorem dX8_ugliness_0 : decode cX8_ugliness 0 = .ok (.aload_n 0, 1) := by decide +kernel
theorem dX8_ugliness_1 : decode cX8_ugliness 1 = .ok (.iconst 0, 1) := by decide +kernel
theorem dX8_ugliness_2 : decode cX8_ugliness 2 = .ok (.putfield 112, 3) := by decide +kernel
theorem dX8_ugliness_5 : decode cX8_ugliness 5 = .ok (.aload_n 0, 1) := by decide +kernel
theorem dX8_ugliness_6 : decode cX8_ugliness 6 = .ok (.iload_n 1, 1) := by decide +kernel
theorem dX8_ugliness_7 : decode cX8_ugliness 7 = .ok (.invokevirtual 392, 3) := by decide +kernel
theorem dX8_ugliness_10 : decode cX8_ugliness 10 = .ok (.ifCond .eq 21, 3) := by decide +kernel
theorem dX8_ugliness_13 : decode cX8_ugliness 13 = .ok (.iload_n 2, 1) := by decide +kernel
theorem dX8_ugliness_14 : decode cX8_ugliness 14 = .ok (.iload_n 3, 1) := by decide +kernel
theorem dX8_ugliness_15 : decode cX8_ugliness 15 = .ok (.invokestatic 407, 3) := by decide +kernel
theorem dX8_ugliness_18 : decode cX8_ugliness 18 = .ok (.ifCond .eq 13, 3) := by decide +kernel
theorem dX8_ugliness_21 : decode cX8_ugliness 21 = .ok (.iload 4, 2) := by decide +kernel
theorem dX8_ugliness_23 : decode cX8_ugliness 23 = .ok (.iconst 0, 1) := by decide +kernel
theorem dX8_ugliness_24 : decode cX8_ugliness 24 = .ok (.iconst 3, 1) := by decide +kernel
theorem dX8_ugliness_25 : decode cX8_ugliness 25 = .ok (.invokestatic 189, 3) := by decide +kernel
theorem dX8_ugliness_28 : decode cX8_ugliness 28 = .ok (.ifCond .ne 5, 3) := by decide +kernel
theorem dX8_ugliness_31 : decode cX8_ugliness 31 = .ok (.iconst (-1), 1) := by decide +kernel
theorem dX8_ugliness_32 : decode cX8_ugliness 32 = .ok (.ireturn, 1) := by decide +kernel
theorem dX8_ugliness_33 : decode cX8_ugliness 33 = .ok (.aload_n 0, 1) := by decide +kernel
theorem dX8_ugliness_34 : decode cX8_ugliness 34 = .ok (.iload_n 1, 1) := by decide +kernel
theorem dX8_ugliness_35 : decode cX8_ugliness 35 = .ok (.invokevirtual 224, 3) := by decide +kernel
theorem dX8_ugliness_38 : decode cX8_ugliness 38 = .ok (.aload_n 0, 1) := by decide +kernel
theorem dX8_ugliness_39 : decode cX8_ugliness 39 = .ok (.iload_n 2, 1) := by decide +kernel
theorem dX8_ugliness_40 : decode cX8_ugliness 40 = .ok (.iload_n 3, 1) := by decide +kernel
theorem dX8_ugliness_41 : decode cX8_ugliness 41 = .ok (.invokevirtual 230, 3) := by decide +kernel
theorem dX8_ugliness_44 : decode cX8_ugliness 44 = .ok (.ifCond .ne 6, 3) := by decide +kernel
theorem dX8_ugliness_47 : decode cX8_ugliness 47 = .ok (.bipush (-2), 2) := by decide +kernel
theorem dX8_ugliness_49 : decode cX8_ugliness 49 = .ok (.ireturn, 1) := by decide +kernel
theorem dX8_ugliness_50 : decode cX8_ugliness 50 = .ok (.iload 4, 2) := by decide +kernel
theorem dX8_ugliness_52 : decode cX8_ugliness 52 = .ok (.ifCond .ne 12, 3) := by decide +kernel
theorem dX8_ugliness_55 : decode cX8_ugliness 55 = .ok (.aload_n 0, 1) := by decide +kernel
theorem dX8_ugliness_56 : decode cX8_ugliness 56 = .ok (.iload_n 2, 1) := by decide +kernel
theorem dX8_ugliness_57 : decode cX8_ugliness 57 = .ok (.iload_n 3, 1) := by decide +kernel
theorem dX8_ugliness_58 : decode cX8_ugliness 58 = .ok (.invokevirtual 233, 3) := by decide +kernel
theorem dX8_ugliness_61 : decode cX8_ugliness 61 = .ok (.goto 39, 3) := by decide +kernel
theorem dX8_ugliness_64 : decode cX8_ugliness 64 = .ok (.iload 4, 2) := by decide +kernel
theorem dX8_ugliness_66 : decode cX8_ugliness 66 = .ok (.iconst 1, 1) := by decide +kernel
theorem dX8_ugliness_67 : decode cX8_ugliness 67 = .ok (.if_icmp .ne 12, 3) := by decide +kernel
theorem dX8_ugliness_70 : decode cX8_ugliness 70 = .ok (.aload_n 0, 1) := by decide +kernel
theorem dX8_ugliness_71 : decode cX8_ugliness 71 = .ok (.iload_n 2, 1) := by decide +kernel
theorem dX8_ugliness_72 : decode cX8_ugliness 72 = .ok (.iload_n 3, 1) := by decide +kernel
theorem dX8_ugliness_73 : decode cX8_ugliness 73 = .ok (.invokevirtual 215, 3) := by decide +kernel
theorem dX8_ugliness_76 : decode cX8_ugliness 76 = .ok (.goto 24, 3) := by decide +kernel
theorem dX8_ugliness_79 : decode cX8_ugliness 79 = .ok (.iload 4, 2) := by decide +kernel
theorem dX8_ugliness_81 : decode cX8_ugliness 81 = .ok (.iconst 2, 1) := by decide +kernel
theorem dX8_ugliness_82 : decode cX8_ugliness 82 = .ok (.if_icmp .ne 12, 3) := by decide +kernel
theorem dX8_ugliness_85 : decode cX8_ugliness 85 = .ok (.aload_n 0, 1) := by decide +kernel
theorem dX8_ugliness_86 : decode cX8_ugliness 86 = .ok (.iload_n 2, 1) := by decide +kernel
theorem dX8_ugliness_87 : decode cX8_ugliness 87 = .ok (.iload_n 3, 1) := by decide +kernel
theorem dX8_ugliness_88 : decode cX8_ugliness 88 = .ok (.invokevirtual 218, 3) := by decide +kernel
theorem dX8_ugliness_91 : decode cX8_ugliness 91 = .ok (.goto 9, 3) := by decide +kernel
theorem dX8_ugliness_94 : decode cX8_ugliness 94 = .ok (.aload_n 0, 1) := by decide +kernel
theorem dX8_ugliness_95 : decode cX8_ugliness 95 = .ok (.iload_n 2, 1) := by decide +kernel
theorem dX8_ugliness_96 : decode cX8_ugliness 96 = .ok (.iload_n 3, 1) := by decide +kernel
theorem dX8_ugliness_97 : decode cX8_ugliness 97 = .ok (.invokevirtual 221, 3) := by decide +kernel
theorem dX8_ugliness_100 : decode cX8_ugliness 100 = .ok (.ireturn, 1) := by decide +kernel
theorem dX8_best_0 : decode cX8_best 0 = .ok (.aload_n 0, 1) := by decide +kernel
theorem dX8_best_1 : decode cX8_best 1 = .ok (.iconst 0, 1) := by decide +kernel
theorem dX8_best_2 : decode cX8_best 2 = .ok (.putfield 112, 3) := by decide +kernel
theorem dX8_best_5 : decode cX8_best 5 = .ok (.aload_n 0, 1) := by decide +kernel
theorem dX8_best_6 : decode cX8_best 6 = .ok (.iload_n 1, 1) := by decide +kernel
theorem dX8_best_7 : decode cX8_best 7 = .ok (.invokevirtual 392, 3) := by decide +kernel
theorem dX8_best_10 : decode cX8_best 10 = .ok (.ifCond .eq 21, 3) := by decide +kernel
theorem dX8_best_13 : decode cX8_best 13 = .ok (.iload_n 2, 1) := by decide +kernel
theorem dX8_best_14 : decode cX8_best 14 = .ok (.iconst 0, 1) := by decide +kernel
theorem dX8_best_15 : decode cX8_best 15 = .ok (.iconst 5, 1) := by decide +kernel
theorem dX8_best_16 : decode cX8_best 16 = .ok (.invokestatic 189, 3) := by decide +kernel
theorem dX8_best_19 : decode cX8_best 19 = .ok (.ifCond .eq 12, 3) := by decide +kernel
theorem dX8_best_22 : decode cX8_best 22 = .ok (.aload_n 0, 1) := by decide +kernel
theorem dX8_best_23 : decode cX8_best 23 = .ok (.iload_n 1, 1) := by decide +kernel
theorem dX8_best_24 : decode cX8_best 24 = .ok (.iload_n 2, 1) := by decide +kernel
theorem dX8_best_25 : decode cX8_best 25 = .ok (.invokevirtual 267, 3) := by decide +kernel
theorem dX8_best_28 : decode cX8_best 28 = .ok (.goto 5, 3) := by decide +kernel
theorem dX8_best_31 : decode cX8_best 31 = .ok (.ldc 251, 2) := by decide +kernel
theorem dX8_best_33 : decode cX8_best 33 = .ok (.ireturn, 1) := by decide +kernel
theorem dX8_ranked_0 : decode cX8_ranked 0 = .ok (.aload_n 0, 1) := by decide +kernel
theorem dX8_ranked_1 : decode cX8_ranked 1 = .ok (.iconst 0, 1) := by decide +kernel
theorem dX8_ranked_2 : decode cX8_ranked 2 = .ok (.putfield 112, 3) := by decide +kernel
theorem dX8_ranked_5 : decode cX8_ranked 5 = .ok (.aload_n 0, 1) := by decide +kernel
theorem dX8_ranked_6 : decode cX8_ranked 6 = .ok (.iload_n 1, 1) := by decide +kernel
theorem dX8_ranked_7 : decode cX8_ranked 7 = .ok (.invokevirtual 392, 3) := by decide +kernel
theorem dX8_ranked_10 : decode cX8_ranked 10 = .ok (.ifCond .eq 16, 3) := by decide +kernel
theorem dX8_ranked_13 : decode cX8_ranked 13 = .ok (.iload_n 3, 1) := by decide +kernel
theorem dX8_ranked_14 : decode cX8_ranked 14 = .ok (.iconst 0, 1) := by decide +kernel
theorem dX8_ranked_15 : decode cX8_ranked 15 = .ok (.iconst 5, 1) := by decide +kernel
theorem dX8_ranked_16 : decode cX8_ranked 16 = .ok (.invokestatic 189, 3) := by decide +kernel
theorem dX8_ranked_19 : decode cX8_ranked 19 = .ok (.ifCond .eq 7, 3) := by decide +kernel
theorem dX8_ranked_22 : decode cX8_ranked 22 = .ok (.iload_n 2, 1) := by decide +kernel
theorem dX8_ranked_23 : decode cX8_ranked 23 = .ok (.ifCond .ge 6, 3) := by decide +kernel
theorem dX8_ranked_26 : decode cX8_ranked 26 = .ok (.ldc 251, 2) := by decide +kernel
theorem dX8_ranked_28 : decode cX8_ranked 28 = .ok (.ireturn, 1) := by decide +kernel
theorem dX8_ranked_29 : decode cX8_ranked 29 = .ok (.aload_n 0, 1) := by decide +kernel
theorem dX8_ranked_30 : decode cX8_ranked 30 = .ok (.iload_n 1, 1) := by decide +kernel
theorem dX8_ranked_31 : decode cX8_ranked 31 = .ok (.invokevirtual 245, 3) := by decide +kernel
theorem dX8_ranked_34 : decode cX8_ranked 34 = .ok (.iconst 0, 1) := by decide +kernel
theorem dX8_ranked_35 : decode cX8_ranked 35 = .ok (.istore 4, 2) := by decide +kernel
theorem dX8_ranked_37 : decode cX8_ranked 37 = .ok (.iload 4, 2) := by decide +kernel
theorem dX8_ranked_39 : decode cX8_ranked 39 = .ok (.aload_n 0, 1) := by decide +kernel
theorem dX8_ranked_40 : decode cX8_ranked 40 = .ok (.getfield 227, 3) := by decide +kernel
theorem dX8_ranked_43 : decode cX8_ranked 43 = .ok (.if_icmp .ge 35, 3) := by decide +kernel
theorem dX8_ranked_46 : decode cX8_ranked 46 = .ok (.iload_n 2, 1) := by decide +kernel
theorem dX8_ranked_47 : decode cX8_ranked 47 = .ok (.aload_n 0, 1) := by decide +kernel
theorem dX8_ranked_48 : decode cX8_ranked 48 = .ok (.getfield 227, 3) := by decide +kernel
theorem dX8_ranked_51 : decode cX8_ranked 51 = .ok (.if_icmp .ge 27, 3) := by decide +kernel
theorem dX8_ranked_54 : decode cX8_ranked 54 = .ok (.aload_n 0, 1) := by decide +kernel
theorem dX8_ranked_55 : decode cX8_ranked 55 = .ok (.iload 4, 2) := by decide +kernel
theorem dX8_ranked_57 : decode cX8_ranked 57 = .ok (.invokevirtual 410, 3) := by decide +kernel
theorem dX8_ranked_60 : decode cX8_ranked 60 = .ok (.iload_n 2, 1) := by decide +kernel
theorem dX8_ranked_61 : decode cX8_ranked 61 = .ok (.if_icmp .ne 11, 3) := by decide +kernel
theorem dX8_ranked_64 : decode cX8_ranked 64 = .ok (.aload_n 0, 1) := by decide +kernel
theorem dX8_ranked_65 : decode cX8_ranked 65 = .ok (.iload 4, 2) := by decide +kernel
theorem dX8_ranked_67 : decode cX8_ranked 67 = .ok (.iload_n 3, 1) := by decide +kernel
theorem dX8_ranked_68 : decode cX8_ranked 68 = .ok (.invokevirtual 252, 3) := by decide +kernel
theorem dX8_ranked_71 : decode cX8_ranked 71 = .ok (.ireturn, 1) := by decide +kernel
theorem dX8_ranked_72 : decode cX8_ranked 72 = .ok (.iinc 4 1, 3) := by decide +kernel
theorem dX8_ranked_75 : decode cX8_ranked 75 = .ok (.goto (-38), 3) := by decide +kernel
theorem dX8_ranked_78 : decode cX8_ranked 78 = .ok (.ldc 251, 2) := by decide +kernel
theorem dX8_ranked_80 : decode cX8_ranked 80 = .ok (.ireturn, 1) := by decide +kernel
theorem dX8_rank_0 : decode cX8_rank 0 = .ok (.aload_n 0, 1) := by decide +kernel
theorem dX8_rank_1 : decode cX8_rank 1 = .ok (.iconst 0, 1) := by decide +kernel
theorem dX8_rank_2 : decode cX8_rank 2 = .ok (.putfield 112, 3) := by decide +kernel
theorem dX8_rank_5 : decode cX8_rank 5 = .ok (.aload_n 0, 1) := by decide +kernel
theorem dX8_rank_6 : decode cX8_rank 6 = .ok (.iload_n 1, 1) := by decide +kernel
theorem dX8_rank_7 : decode cX8_rank 7 = .ok (.invokevirtual 392, 3) := by decide +kernel
theorem dX8_rank_10 : decode cX8_rank 10 = .ok (.ifCond .eq 11, 3) := by decide +kernel
theorem dX8_rank_13 : decode cX8_rank 13 = .ok (.iload_n 2, 1) := by decide +kernel
theorem dX8_rank_14 : decode cX8_rank 14 = .ok (.iload_n 3, 1) := by decide +kernel
theorem dX8_rank_15 : decode cX8_rank 15 = .ok (.invokestatic 407, 3) := by decide +kernel
theorem dX8_rank_18 : decode cX8_rank 18 = .ok (.ifCond .ne 5, 3) := by decide +kernel
theorem dX8_rank_21 : decode cX8_rank 21 = .ok (.iconst (-1), 1) := by decide +kernel
theorem dX8_rank_22 : decode cX8_rank 22 = .ok (.ireturn, 1) := by decide +kernel
theorem dX8_rank_23 : decode cX8_rank 23 = .ok (.aload_n 0, 1) := by decide +kernel
theorem dX8_rank_24 : decode cX8_rank 24 = .ok (.iload_n 1, 1) := by decide +kernel
theorem dX8_rank_25 : decode cX8_rank 25 = .ok (.invokevirtual 245, 3) := by decide +kernel
theorem dX8_rank_28 : decode cX8_rank 28 = .ok (.iconst 0, 1) := by decide +kernel
theorem dX8_rank_29 : decode cX8_rank 29 = .ok (.istore 4, 2) := by decide +kernel
theorem dX8_rank_31 : decode cX8_rank 31 = .ok (.iload 4, 2) := by decide +kernel
theorem dX8_rank_33 : decode cX8_rank 33 = .ok (.aload_n 0, 1) := by decide +kernel
theorem dX8_rank_34 : decode cX8_rank 34 = .ok (.getfield 227, 3) := by decide +kernel
theorem dX8_rank_37 : decode cX8_rank 37 = .ok (.if_icmp .ge 38, 3) := by decide +kernel
theorem dX8_rank_40 : decode cX8_rank 40 = .ok (.aload_n 0, 1) := by decide +kernel
theorem dX8_rank_41 : decode cX8_rank 41 = .ok (.getfield 60, 3) := by decide +kernel
theorem dX8_rank_44 : decode cX8_rank 44 = .ok (.iload 4, 2) := by decide +kernel
theorem dX8_rank_46 : decode cX8_rank 46 = .ok (.iaload, 1) := by decide +kernel
theorem dX8_rank_47 : decode cX8_rank 47 = .ok (.iload_n 2, 1) := by decide +kernel
theorem dX8_rank_48 : decode cX8_rank 48 = .ok (.if_icmp .ne 21, 3) := by decide +kernel
theorem dX8_rank_51 : decode cX8_rank 51 = .ok (.aload_n 0, 1) := by decide +kernel
theorem dX8_rank_52 : decode cX8_rank 52 = .ok (.getfield 63, 3) := by decide +kernel
theorem dX8_rank_55 : decode cX8_rank 55 = .ok (.iload 4, 2) := by decide +kernel
theorem dX8_rank_57 : decode cX8_rank 57 = .ok (.iaload, 1) := by decide +kernel
theorem dX8_rank_58 : decode cX8_rank 58 = .ok (.iload_n 3, 1) := by decide +kernel
theorem dX8_rank_59 : decode cX8_rank 59 = .ok (.if_icmp .ne 10, 3) := by decide +kernel
theorem dX8_rank_62 : decode cX8_rank 62 = .ok (.aload_n 0, 1) := by decide +kernel
theorem dX8_rank_63 : decode cX8_rank 63 = .ok (.iload 4, 2) := by decide +kernel
theorem dX8_rank_65 : decode cX8_rank 65 = .ok (.invokevirtual 410, 3) := by decide +kernel
theorem dX8_rank_68 : decode cX8_rank 68 = .ok (.ireturn, 1) := by decide +kernel
theorem dX8_rank_69 : decode cX8_rank 69 = .ok (.iinc 4 1, 3) := by decide +kernel
theorem dX8_rank_72 : decode cX8_rank 72 = .ok (.goto (-41), 3) := by decide +kernel
theorem dX8_rank_75 : decode cX8_rank 75 = .ok (.bipush (-2), 2) := by decide +kernel
theorem dX8_rank_77 : decode cX8_rank 77 = .ok (.ireturn, 1) := by decide +kernel
theorem dX8_dividing_0 : decode cX8_dividing 0 = .ok (.iload_n 0, 1) := by decide +kernel
theorem dX8_dividing_1 : decode cX8_dividing 1 = .ok (.invokestatic 156, 3) := by decide +kernel
theorem dX8_dividing_4 : decode cX8_dividing 4 = .ok (.istore_n 2, 1) := by decide +kernel
theorem dX8_dividing_5 : decode cX8_dividing 5 = .ok (.iload_n 1, 1) := by decide +kernel
theorem dX8_dividing_6 : decode cX8_dividing 6 = .ok (.invokestatic 156, 3) := by decide +kernel
theorem dX8_dividing_9 : decode cX8_dividing 9 = .ok (.istore_n 3, 1) := by decide +kernel
theorem dX8_dividing_10 : decode cX8_dividing 10 = .ok (.iload_n 3, 1) := by decide +kernel
theorem dX8_dividing_11 : decode cX8_dividing 11 = .ok (.ifCond .le 16, 3) := by decide +kernel
theorem dX8_dividing_14 : decode cX8_dividing 14 = .ok (.iload_n 2, 1) := by decide +kernel
theorem dX8_dividing_15 : decode cX8_dividing 15 = .ok (.iload_n 3, 1) := by decide +kernel
theorem dX8_dividing_16 : decode cX8_dividing 16 = .ok (.irem, 1) := by decide +kernel
theorem dX8_dividing_17 : decode cX8_dividing 17 = .ok (.istore 4, 2) := by decide +kernel
theorem dX8_dividing_19 : decode cX8_dividing 19 = .ok (.iload_n 3, 1) := by decide +kernel
theorem dX8_dividing_20 : decode cX8_dividing 20 = .ok (.istore_n 2, 1) := by decide +kernel
theorem dX8_dividing_21 : decode cX8_dividing 21 = .ok (.iload 4, 2) := by decide +kernel
theorem dX8_dividing_23 : decode cX8_dividing 23 = .ok (.istore_n 3, 1) := by decide +kernel
theorem dX8_dividing_24 : decode cX8_dividing 24 = .ok (.goto (-14), 3) := by decide +kernel
theorem dX8_dividing_27 : decode cX8_dividing 27 = .ok (.iload_n 2, 1) := by decide +kernel
theorem dX8_dividing_28 : decode cX8_dividing 28 = .ok (.ireturn, 1) := by decide +kernel
theorem dX8_stem_0 : decode cX8_stem 0 = .ok (.aload_n 0, 1) := by decide +kernel
theorem dX8_stem_1 : decode cX8_stem 1 = .ok (.iconst 0, 1) := by decide +kernel
theorem dX8_stem_2 : decode cX8_stem 2 = .ok (.putfield 112, 3) := by decide +kernel
theorem dX8_stem_5 : decode cX8_stem 5 = .ok (.aload_n 0, 1) := by decide +kernel
theorem dX8_stem_6 : decode cX8_stem 6 = .ok (.iload_n 1, 1) := by decide +kernel
theorem dX8_stem_7 : decode cX8_stem 7 = .ok (.invokevirtual 413, 3) := by decide +kernel
theorem dX8_stem_10 : decode cX8_stem 10 = .ok (.ifCond .eq 12, 3) := by decide +kernel
theorem dX8_stem_13 : decode cX8_stem 13 = .ok (.iload_n 2, 1) := by decide +kernel
theorem dX8_stem_14 : decode cX8_stem 14 = .ok (.iconst 0, 1) := by decide +kernel
theorem dX8_stem_15 : decode cX8_stem 15 = .ok (.iconst 3, 1) := by decide +kernel
theorem dX8_stem_16 : decode cX8_stem 16 = .ok (.invokestatic 189, 3) := by decide +kernel
theorem dX8_stem_19 : decode cX8_stem 19 = .ok (.ifCond .ne 6, 3) := by decide +kernel
theorem dX8_stem_22 : decode cX8_stem 22 = .ok (.ldc 251, 2) := by decide +kernel
theorem dX8_stem_24 : decode cX8_stem 24 = .ok (.ireturn, 1) := by decide +kernel
theorem dX8_stem_25 : decode cX8_stem 25 = .ok (.aload_n 0, 1) := by decide +kernel
theorem dX8_stem_26 : decode cX8_stem 26 = .ok (.aload_n 0, 1) := by decide +kernel
theorem dX8_stem_27 : decode cX8_stem 27 = .ok (.getfield 42, 3) := by decide +kernel
theorem dX8_stem_30 : decode cX8_stem 30 = .ok (.iload_n 1, 1) := by decide +kernel
theorem dX8_stem_31 : decode cX8_stem 31 = .ok (.iaload, 1) := by decide +kernel
theorem dX8_stem_32 : decode cX8_stem 32 = .ok (.invokevirtual 245, 3) := by decide +kernel
theorem dX8_stem_35 : decode cX8_stem 35 = .ok (.aload_n 0, 1) := by decide +kernel
theorem dX8_stem_36 : decode cX8_stem 36 = .ok (.invokevirtual 248, 3) := by decide +kernel
theorem dX8_stem_39 : decode cX8_stem 39 = .ok (.istore_n 3, 1) := by decide +kernel
theorem dX8_stem_40 : decode cX8_stem 40 = .ok (.iload_n 3, 1) := by decide +kernel
theorem dX8_stem_41 : decode cX8_stem 41 = .ok (.iconst (-1), 1) := by decide +kernel
theorem dX8_stem_42 : decode cX8_stem 42 = .ok (.if_icmp .ne 6, 3) := by decide +kernel
theorem dX8_stem_45 : decode cX8_stem 45 = .ok (.ldc 251, 2) := by decide +kernel
theorem dX8_stem_47 : decode cX8_stem 47 = .ok (.ireturn, 1) := by decide +kernel
theorem dX8_stem_48 : decode cX8_stem 48 = .ok (.iload_n 2, 1) := by decide +kernel
theorem dX8_stem_49 : decode cX8_stem 49 = .ok (.iconst 2, 1) := by decide +kernel
theorem dX8_stem_50 : decode cX8_stem 50 = .ok (.if_icmp .ge 23, 3) := by decide +kernel
theorem dX8_stem_53 : decode cX8_stem 53 = .ok (.aload_n 0, 1) := by decide +kernel
theorem dX8_stem_54 : decode cX8_stem 54 = .ok (.iload_n 1, 1) := by decide +kernel
theorem dX8_stem_55 : decode cX8_stem 55 = .ok (.aload_n 0, 1) := by decide +kernel
theorem dX8_stem_56 : decode cX8_stem 56 = .ok (.getfield 60, 3) := by decide +kernel
theorem dX8_stem_59 : decode cX8_stem 59 = .ok (.iload_n 3, 1) := by decide +kernel
theorem dX8_stem_60 : decode cX8_stem 60 = .ok (.iaload, 1) := by decide +kernel
theorem dX8_stem_61 : decode cX8_stem 61 = .ok (.aload_n 0, 1) := by decide +kernel
theorem dX8_stem_62 : decode cX8_stem 62 = .ok (.getfield 63, 3) := by decide +kernel
theorem dX8_stem_65 : decode cX8_stem 65 = .ok (.iload_n 3, 1) := by decide +kernel
theorem dX8_stem_66 : decode cX8_stem 66 = .ok (.iaload, 1) := by decide +kernel
theorem dX8_stem_67 : decode cX8_stem 67 = .ok (.invokevirtual 186, 3) := by decide +kernel
theorem dX8_stem_70 : decode cX8_stem 70 = .ok (.goto 20, 3) := by decide +kernel
theorem dX8_stem_73 : decode cX8_stem 73 = .ok (.aload_n 0, 1) := by decide +kernel
theorem dX8_stem_74 : decode cX8_stem 74 = .ok (.iload_n 1, 1) := by decide +kernel
theorem dX8_stem_75 : decode cX8_stem 75 = .ok (.aload_n 0, 1) := by decide +kernel
theorem dX8_stem_76 : decode cX8_stem 76 = .ok (.getfield 60, 3) := by decide +kernel
theorem dX8_stem_79 : decode cX8_stem 79 = .ok (.iload_n 3, 1) := by decide +kernel
theorem dX8_stem_80 : decode cX8_stem 80 = .ok (.iaload, 1) := by decide +kernel
theorem dX8_stem_81 : decode cX8_stem 81 = .ok (.aload_n 0, 1) := by decide +kernel
theorem dX8_stem_82 : decode cX8_stem 82 = .ok (.getfield 63, 3) := by decide +kernel
theorem dX8_stem_85 : decode cX8_stem 85 = .ok (.iload_n 3, 1) := by decide +kernel
theorem dX8_stem_86 : decode cX8_stem 86 = .ok (.iaload, 1) := by decide +kernel
theorem dX8_stem_87 : decode cX8_stem 87 = .ok (.invokevirtual 182, 3) := by decide +kernel
theorem dX8_stem_90 : decode cX8_stem 90 = .ok (.istore 4, 2) := by decide +kernel
theorem dX8_stem_92 : decode cX8_stem 92 = .ok (.iload 4, 2) := by decide +kernel
theorem dX8_stem_94 : decode cX8_stem 94 = .ok (.aload_n 0, 1) := by decide +kernel
theorem dX8_stem_95 : decode cX8_stem 95 = .ok (.getfield 179, 3) := by decide +kernel
theorem dX8_stem_98 : decode cX8_stem 98 = .ok (.invokestatic 416, 3) := by decide +kernel
theorem dX8_stem_101 : decode cX8_stem 101 = .ok (.istore 5, 2) := by decide +kernel
theorem dX8_stem_103 : decode cX8_stem 103 = .ok (.iload_n 2, 1) := by decide +kernel
theorem dX8_stem_104 : decode cX8_stem 104 = .ok (.iconst 2, 1) := by decide +kernel
theorem dX8_stem_105 : decode cX8_stem 105 = .ok (.irem, 1) := by decide +kernel
theorem dX8_stem_106 : decode cX8_stem 106 = .ok (.ifCond .ne 11, 3) := by decide +kernel
theorem dX8_stem_109 : decode cX8_stem 109 = .ok (.iload 4, 2) := by decide +kernel
theorem dX8_stem_111 : decode cX8_stem 111 = .ok (.iload 5, 2) := by decide +kernel
theorem dX8_stem_113 : decode cX8_stem 113 = .ok (.idiv, 1) := by decide +kernel
theorem dX8_stem_114 : decode cX8_stem 114 = .ok (.goto 10, 3) := by decide +kernel
theorem dX8_stem_117 : decode cX8_stem 117 = .ok (.aload_n 0, 1) := by decide +kernel
theorem dX8_stem_118 : decode cX8_stem 118 = .ok (.getfield 179, 3) := by decide +kernel
theorem dX8_stem_121 : decode cX8_stem 121 = .ok (.iload 5, 2) := by decide +kernel
theorem dX8_stem_123 : decode cX8_stem 123 = .ok (.idiv, 1) := by decide +kernel
theorem dX8_stem_124 : decode cX8_stem 124 = .ok (.ireturn, 1) := by decide +kernel
theorem dX8_touch_0 : decode cX8_touch 0 = .ok (.aload_n 0, 1) := by decide +kernel
theorem dX8_touch_1 : decode cX8_touch 1 = .ok (.iconst 0, 1) := by decide +kernel
theorem dX8_touch_2 : decode cX8_touch 2 = .ok (.putfield 112, 3) := by decide +kernel
theorem dX8_touch_5 : decode cX8_touch 5 = .ok (.aload_n 0, 1) := by decide +kernel
theorem dX8_touch_6 : decode cX8_touch 6 = .ok (.iload_n 1, 1) := by decide +kernel
theorem dX8_touch_7 : decode cX8_touch 7 = .ok (.invokevirtual 392, 3) := by decide +kernel
theorem dX8_touch_10 : decode cX8_touch 10 = .ok (.ifCond .eq 16, 3) := by decide +kernel
theorem dX8_touch_13 : decode cX8_touch 13 = .ok (.iload_n 2, 1) := by decide +kernel
theorem dX8_touch_14 : decode cX8_touch 14 = .ok (.iconst 0, 1) := by decide +kernel
theorem dX8_touch_15 : decode cX8_touch 15 = .ok (.iconst 1, 1) := by decide +kernel
theorem dX8_touch_16 : decode cX8_touch 16 = .ok (.invokestatic 189, 3) := by decide +kernel
theorem dX8_touch_19 : decode cX8_touch 19 = .ok (.ifCond .eq 7, 3) := by decide +kernel
theorem dX8_touch_22 : decode cX8_touch 22 = .ok (.iload_n 3, 1) := by decide +kernel
theorem dX8_touch_23 : decode cX8_touch 23 = .ok (.ifCond .ge 5, 3) := by decide +kernel
theorem dX8_touch_26 : decode cX8_touch 26 = .ok (.iconst (-1), 1) := by decide +kernel
theorem dX8_touch_27 : decode cX8_touch 27 = .ok (.ireturn, 1) := by decide +kernel
theorem dX8_touch_28 : decode cX8_touch 28 = .ok (.aload_n 0, 1) := by decide +kernel
theorem dX8_touch_29 : decode cX8_touch 29 = .ok (.getfield 45, 3) := by decide +kernel
theorem dX8_touch_32 : decode cX8_touch 32 = .ok (.iload_n 1, 1) := by decide +kernel
theorem dX8_touch_33 : decode cX8_touch 33 = .ok (.iaload, 1) := by decide +kernel
theorem dX8_touch_34 : decode cX8_touch 34 = .ok (.iload_n 2, 1) := by decide +kernel
theorem dX8_touch_35 : decode cX8_touch 35 = .ok (.ifCond .ne 7, 3) := by decide +kernel
theorem dX8_touch_38 : decode cX8_touch 38 = .ok (.iconst 0, 1) := by decide +kernel
theorem dX8_touch_39 : decode cX8_touch 39 = .ok (.goto 11, 3) := by decide +kernel
theorem dX8_touch_42 : decode cX8_touch 42 = .ok (.aload_n 0, 1) := by decide +kernel
theorem dX8_touch_43 : decode cX8_touch 43 = .ok (.getfield 48, 3) := by decide +kernel
theorem dX8_touch_46 : decode cX8_touch 46 = .ok (.iload_n 1, 1) := by decide +kernel
theorem dX8_touch_47 : decode cX8_touch 47 = .ok (.iaload, 1) := by decide +kernel
theorem dX8_touch_48 : decode cX8_touch 48 = .ok (.iconst 1, 1) := by decide +kernel
theorem dX8_touch_49 : decode cX8_touch 49 = .ok (.isub, 1) := by decide +kernel
theorem dX8_touch_50 : decode cX8_touch 50 = .ok (.iadd, 1) := by decide +kernel
theorem dX8_touch_51 : decode cX8_touch 51 = .ok (.istore 4, 2) := by decide +kernel
theorem dX8_touch_53 : decode cX8_touch 53 = .ok (.iload_n 3, 1) := by decide +kernel
theorem dX8_touch_54 : decode cX8_touch 54 = .ok (.aload_n 0, 1) := by decide +kernel
theorem dX8_touch_55 : decode cX8_touch 55 = .ok (.getfield 26, 3) := by decide +kernel
theorem dX8_touch_58 : decode cX8_touch 58 = .ok (.iload 4, 2) := by decide +kernel
theorem dX8_touch_60 : decode cX8_touch 60 = .ok (.iaload, 1) := by decide +kernel
theorem dX8_touch_61 : decode cX8_touch 61 = .ok (.invokestatic 203, 3) := by decide +kernel
theorem dX8_touch_64 : decode cX8_touch 64 = .ok (.if_icmp .lt 5, 3) := by decide +kernel
theorem dX8_touch_67 : decode cX8_touch 67 = .ok (.iconst (-1), 1) := by decide +kernel
theorem dX8_touch_68 : decode cX8_touch 68 = .ok (.ireturn, 1) := by decide +kernel
theorem dX8_touch_69 : decode cX8_touch 69 = .ok (.aload_n 0, 1) := by decide +kernel
theorem dX8_touch_70 : decode cX8_touch 70 = .ok (.iload_n 1, 1) := by decide +kernel
theorem dX8_touch_71 : decode cX8_touch 71 = .ok (.invokevirtual 245, 3) := by decide +kernel
theorem dX8_touch_74 : decode cX8_touch 74 = .ok (.aload_n 0, 1) := by decide +kernel
theorem dX8_touch_75 : decode cX8_touch 75 = .ok (.invokevirtual 248, 3) := by decide +kernel
theorem dX8_touch_78 : decode cX8_touch 78 = .ok (.istore 5, 2) := by decide +kernel
theorem dX8_touch_80 : decode cX8_touch 80 = .ok (.iload 5, 2) := by decide +kernel
theorem dX8_touch_82 : decode cX8_touch 82 = .ok (.iconst (-1), 1) := by decide +kernel
theorem dX8_touch_83 : decode cX8_touch 83 = .ok (.if_icmp .ne 6, 3) := by decide +kernel
theorem dX8_touch_86 : decode cX8_touch 86 = .ok (.bipush (-2), 2) := by decide +kernel
theorem dX8_touch_88 : decode cX8_touch 88 = .ok (.ireturn, 1) := by decide +kernel
theorem dX8_touch_89 : decode cX8_touch 89 = .ok (.aload_n 0, 1) := by decide +kernel
theorem dX8_touch_90 : decode cX8_touch 90 = .ok (.iload 4, 2) := by decide +kernel
theorem dX8_touch_92 : decode cX8_touch 92 = .ok (.iload_n 2, 1) := by decide +kernel
theorem dX8_touch_93 : decode cX8_touch 93 = .ok (.ifCond .ne 13, 3) := by decide +kernel
theorem dX8_touch_96 : decode cX8_touch 96 = .ok (.aload_n 0, 1) := by decide +kernel
theorem dX8_touch_97 : decode cX8_touch 97 = .ok (.getfield 60, 3) := by decide +kernel
theorem dX8_touch_100 : decode cX8_touch 100 = .ok (.iload 5, 2) := by decide +kernel
theorem dX8_touch_102 : decode cX8_touch 102 = .ok (.iaload, 1) := by decide +kernel
theorem dX8_touch_103 : decode cX8_touch 103 = .ok (.goto 10, 3) := by decide +kernel
theorem dX8_touch_106 : decode cX8_touch 106 = .ok (.aload_n 0, 1) := by decide +kernel
theorem dX8_touch_107 : decode cX8_touch 107 = .ok (.getfield 63, 3) := by decide +kernel
theorem dX8_touch_110 : decode cX8_touch 110 = .ok (.iload 5, 2) := by decide +kernel
theorem dX8_touch_112 : decode cX8_touch 112 = .ok (.iaload, 1) := by decide +kernel
theorem dX8_touch_113 : decode cX8_touch 113 = .ok (.iload_n 3, 1) := by decide +kernel
theorem dX8_touch_114 : decode cX8_touch 114 = .ok (.invokevirtual 206, 3) := by decide +kernel
theorem dX8_touch_117 : decode cX8_touch 117 = .ok (.invokestatic 209, 3) := by decide +kernel
theorem dX8_touch_120 : decode cX8_touch 120 = .ok (.istore 6, 2) := by decide +kernel
theorem dX8_touch_122 : decode cX8_touch 122 = .ok (.iload 6, 2) := by decide +kernel
theorem dX8_touch_124 : decode cX8_touch 124 = .ok (.iconst (-1), 1) := by decide +kernel
theorem dX8_touch_125 : decode cX8_touch 125 = .ok (.if_icmp .ne 8, 3) := by decide +kernel
theorem dX8_touch_128 : decode cX8_touch 128 = .ok (.bipush (-3), 2) := by decide +kernel
theorem dX8_touch_130 : decode cX8_touch 130 = .ok (.goto 5, 3) := by decide +kernel
theorem dX8_touch_133 : decode cX8_touch 133 = .ok (.iload 6, 2) := by decide +kernel
theorem dX8_touch_135 : decode cX8_touch 135 = .ok (.ireturn, 1) := by decide +kernel
theorem dX8_beamsAt_0 : decode cX8_beamsAt 0 = .ok (.aload_n 0, 1) := by decide +kernel
theorem dX8_beamsAt_1 : decode cX8_beamsAt 1 = .ok (.iload_n 1, 1) := by decide +kernel
theorem dX8_beamsAt_2 : decode cX8_beamsAt 2 = .ok (.invokevirtual 383, 3) := by decide +kernel
theorem dX8_beamsAt_5 : decode cX8_beamsAt 5 = .ok (.ifCond .eq 25, 3) := by decide +kernel
theorem dX8_beamsAt_8 : decode cX8_beamsAt 8 = .ok (.aload_n 0, 1) := by decide +kernel
theorem dX8_beamsAt_9 : decode cX8_beamsAt 9 = .ok (.getfield 42, 3) := by decide +kernel
theorem dX8_beamsAt_12 : decode cX8_beamsAt 12 = .ok (.iload_n 1, 1) := by decide +kernel
theorem dX8_beamsAt_13 : decode cX8_beamsAt 13 = .ok (.iaload, 1) := by decide +kernel
theorem dX8_beamsAt_14 : decode cX8_beamsAt 14 = .ok (.iload_n 2, 1) := by decide +kernel
theorem dX8_beamsAt_15 : decode cX8_beamsAt 15 = .ok (.if_icmp .ne 15, 3) := by decide +kernel
theorem dX8_beamsAt_18 : decode cX8_beamsAt 18 = .ok (.aload_n 0, 1) := by decide +kernel
theorem dX8_beamsAt_19 : decode cX8_beamsAt 19 = .ok (.getfield 26, 3) := by decide +kernel
theorem dX8_beamsAt_22 : decode cX8_beamsAt 22 = .ok (.iload_n 1, 1) := by decide +kernel
theorem dX8_beamsAt_23 : decode cX8_beamsAt 23 = .ok (.iaload, 1) := by decide +kernel
theorem dX8_beamsAt_24 : decode cX8_beamsAt 24 = .ok (.invokestatic 203, 3) := by decide +kernel
theorem dX8_beamsAt_27 : decode cX8_beamsAt 27 = .ok (.goto 4, 3) := by decide +kernel
theorem dX8_beamsAt_30 : decode cX8_beamsAt 30 = .ok (.iconst 0, 1) := by decide +kernel
theorem dX8_beamsAt_31 : decode cX8_beamsAt 31 = .ok (.ireturn, 1) := by decide +kernel
theorem dX8_lesser_0 : decode cX8_lesser 0 = .ok (.iload_n 0, 1) := by decide +kernel
theorem dX8_lesser_1 : decode cX8_lesser 1 = .ok (.iload_n 1, 1) := by decide +kernel
theorem dX8_lesser_2 : decode cX8_lesser 2 = .ok (.if_icmp .ge 7, 3) := by decide +kernel
theorem dX8_lesser_5 : decode cX8_lesser 5 = .ok (.iload_n 0, 1) := by decide +kernel
theorem dX8_lesser_6 : decode cX8_lesser 6 = .ok (.goto 4, 3) := by decide +kernel
theorem dX8_lesser_9 : decode cX8_lesser 9 = .ok (.iload_n 1, 1) := by decide +kernel
theorem dX8_lesser_10 : decode cX8_lesser 10 = .ok (.ireturn, 1) := by decide +kernel
theorem dX8_isLeft_0 : decode cX8_isLeft 0 = .ok (.aload_n 0, 1) := by decide +kernel
theorem dX8_isLeft_1 : decode cX8_isLeft 1 = .ok (.getfield 42, 3) := by decide +kernel
theorem dX8_isLeft_4 : decode cX8_isLeft 4 = .ok (.iload_n 1, 1) := by decide +kernel
theorem dX8_isLeft_5 : decode cX8_isLeft 5 = .ok (.iaload, 1) := by decide +kernel
theorem dX8_isLeft_6 : decode cX8_isLeft 6 = .ok (.istore 4, 2) := by decide +kernel
theorem dX8_isLeft_8 : decode cX8_isLeft 8 = .ok (.iload_n 1, 1) := by decide +kernel
theorem dX8_isLeft_9 : decode cX8_isLeft 9 = .ok (.aload_n 0, 1) := by decide +kernel
theorem dX8_isLeft_10 : decode cX8_isLeft 10 = .ok (.getfield 45, 3) := by decide +kernel
theorem dX8_isLeft_13 : decode cX8_isLeft 13 = .ok (.iload 4, 2) := by decide +kernel
theorem dX8_isLeft_15 : decode cX8_isLeft 15 = .ok (.iaload, 1) := by decide +kernel
theorem dX8_isLeft_16 : decode cX8_isLeft 16 = .ok (.if_icmp .ne 5, 3) := by decide +kernel
theorem dX8_isLeft_19 : decode cX8_isLeft 19 = .ok (.iconst 0, 1) := by decide +kernel
theorem dX8_isLeft_20 : decode cX8_isLeft 20 = .ok (.ireturn, 1) := by decide +kernel
theorem dX8_isLeft_21 : decode cX8_isLeft 21 = .ok (.iload_n 1, 1) := by decide +kernel
theorem dX8_isLeft_22 : decode cX8_isLeft 22 = .ok (.aload_n 0, 1) := by decide +kernel
theorem dX8_isLeft_23 : decode cX8_isLeft 23 = .ok (.getfield 45, 3) := by decide +kernel
theorem dX8_isLeft_26 : decode cX8_isLeft 26 = .ok (.iload 4, 2) := by decide +kernel
theorem dX8_isLeft_28 : decode cX8_isLeft 28 = .ok (.iaload, 1) := by decide +kernel
theorem dX8_isLeft_29 : decode cX8_isLeft 29 = .ok (.aload_n 0, 1) := by decide +kernel
theorem dX8_isLeft_30 : decode cX8_isLeft 30 = .ok (.getfield 48, 3) := by decide +kernel
theorem dX8_isLeft_33 : decode cX8_isLeft 33 = .ok (.iload 4, 2) := by decide +kernel
theorem dX8_isLeft_35 : decode cX8_isLeft 35 = .ok (.iaload, 1) := by decide +kernel
theorem dX8_isLeft_36 : decode cX8_isLeft 36 = .ok (.iadd, 1) := by decide +kernel
theorem dX8_isLeft_37 : decode cX8_isLeft 37 = .ok (.iconst 1, 1) := by decide +kernel
theorem dX8_isLeft_38 : decode cX8_isLeft 38 = .ok (.isub, 1) := by decide +kernel
theorem dX8_isLeft_39 : decode cX8_isLeft 39 = .ok (.if_icmp .ne 5, 3) := by decide +kernel
theorem dX8_isLeft_42 : decode cX8_isLeft 42 = .ok (.iconst 1, 1) := by decide +kernel
theorem dX8_isLeft_43 : decode cX8_isLeft 43 = .ok (.ireturn, 1) := by decide +kernel
theorem dX8_isLeft_44 : decode cX8_isLeft 44 = .ok (.iload_n 2, 1) := by decide +kernel
theorem dX8_isLeft_45 : decode cX8_isLeft 45 = .ok (.iload_n 3, 1) := by decide +kernel
theorem dX8_isLeft_46 : decode cX8_isLeft 46 = .ok (.if_icmp .eq 14, 3) := by decide +kernel
theorem dX8_isLeft_49 : decode cX8_isLeft 49 = .ok (.iload_n 2, 1) := by decide +kernel
theorem dX8_isLeft_50 : decode cX8_isLeft 50 = .ok (.iload_n 3, 1) := by decide +kernel
theorem dX8_isLeft_51 : decode cX8_isLeft 51 = .ok (.if_icmp .le 7, 3) := by decide +kernel
theorem dX8_isLeft_54 : decode cX8_isLeft 54 = .ok (.iconst 1, 1) := by decide +kernel
theorem dX8_isLeft_55 : decode cX8_isLeft 55 = .ok (.goto 4, 3) := by decide +kernel
theorem dX8_isLeft_58 : decode cX8_isLeft 58 = .ok (.iconst 0, 1) := by decide +kernel
theorem dX8_isLeft_59 : decode cX8_isLeft 59 = .ok (.ireturn, 1) := by decide +kernel
theorem dX8_isLeft_60 : decode cX8_isLeft 60 = .ok (.aload_n 0, 1) := by decide +kernel
theorem dX8_isLeft_61 : decode cX8_isLeft 61 = .ok (.getfield 36, 3) := by decide +kernel
theorem dX8_isLeft_64 : decode cX8_isLeft 64 = .ok (.iload_n 1, 1) := by decide +kernel
theorem dX8_isLeft_65 : decode cX8_isLeft 65 = .ok (.iaload, 1) := by decide +kernel
theorem dX8_isLeft_66 : decode cX8_isLeft 66 = .ok (.aload_n 0, 1) := by decide +kernel
theorem dX8_isLeft_67 : decode cX8_isLeft 67 = .ok (.invokevirtual 126, 3) := by decide +kernel
theorem dX8_isLeft_70 : decode cX8_isLeft 70 = .ok (.irem, 1) := by decide +kernel
theorem dX8_isLeft_71 : decode cX8_isLeft 71 = .ok (.aload_n 0, 1) := by decide +kernel
theorem dX8_isLeft_72 : decode cX8_isLeft 72 = .ok (.getfield 26, 3) := by decide +kernel
theorem dX8_isLeft_75 : decode cX8_isLeft 75 = .ok (.iload_n 1, 1) := by decide +kernel
theorem dX8_isLeft_76 : decode cX8_isLeft 76 = .ok (.iaload, 1) := by decide +kernel
theorem dX8_isLeft_77 : decode cX8_isLeft 77 = .ok (.invokestatic 146, 3) := by decide +kernel
theorem dX8_isLeft_80 : decode cX8_isLeft 80 = .ok (.idiv, 1) := by decide +kernel
theorem dX8_isLeft_81 : decode cX8_isLeft 81 = .ok (.iconst 2, 1) := by decide +kernel
theorem dX8_isLeft_82 : decode cX8_isLeft 82 = .ok (.irem, 1) := by decide +kernel
theorem dX8_isLeft_83 : decode cX8_isLeft 83 = .ok (.iconst 1, 1) := by decide +kernel
theorem dX8_isLeft_84 : decode cX8_isLeft 84 = .ok (.if_icmp .ne 7, 3) := by decide +kernel
theorem dX8_isLeft_87 : decode cX8_isLeft 87 = .ok (.iconst 1, 1) := by decide +kernel
theorem dX8_isLeft_88 : decode cX8_isLeft 88 = .ok (.goto 4, 3) := by decide +kernel
theorem dX8_isLeft_91 : decode cX8_isLeft 91 = .ok (.iconst 0, 1) := by decide +kernel
theorem dX8_isLeft_92 : decode cX8_isLeft 92 = .ok (.ireturn, 1) := by decide +kernel
theorem dX8_beams_0 : decode cX8_beams 0 = .ok (.aload_n 0, 1) := by decide +kernel
theorem dX8_beams_1 : decode cX8_beams 1 = .ok (.iconst 0, 1) := by decide +kernel
theorem dX8_beams_2 : decode cX8_beams 2 = .ok (.putfield 112, 3) := by decide +kernel
theorem dX8_beams_5 : decode cX8_beams 5 = .ok (.aload_n 0, 1) := by decide +kernel
theorem dX8_beams_6 : decode cX8_beams 6 = .ok (.iload_n 1, 1) := by decide +kernel
theorem dX8_beams_7 : decode cX8_beams 7 = .ok (.invokevirtual 383, 3) := by decide +kernel
theorem dX8_beams_10 : decode cX8_beams 10 = .ok (.ifCond .eq 12, 3) := by decide +kernel
theorem dX8_beams_13 : decode cX8_beams 13 = .ok (.iload_n 2, 1) := by decide +kernel
theorem dX8_beams_14 : decode cX8_beams 14 = .ok (.iconst 0, 1) := by decide +kernel
theorem dX8_beams_15 : decode cX8_beams 15 = .ok (.iconst 3, 1) := by decide +kernel
theorem dX8_beams_16 : decode cX8_beams 16 = .ok (.invokestatic 189, 3) := by decide +kernel
theorem dX8_beams_19 : decode cX8_beams 19 = .ok (.ifCond .ne 5, 3) := by decide +kernel
theorem dX8_beams_22 : decode cX8_beams 22 = .ok (.iconst (-1), 1) := by decide +kernel
theorem dX8_beams_23 : decode cX8_beams 23 = .ok (.ireturn, 1) := by decide +kernel
theorem dX8_beams_24 : decode cX8_beams 24 = .ok (.aload_n 0, 1) := by decide +kernel
theorem dX8_beams_25 : decode cX8_beams 25 = .ok (.getfield 42, 3) := by decide +kernel
theorem dX8_beams_28 : decode cX8_beams 28 = .ok (.iload_n 1, 1) := by decide +kernel
theorem dX8_beams_29 : decode cX8_beams 29 = .ok (.iaload, 1) := by decide +kernel
theorem dX8_beams_30 : decode cX8_beams 30 = .ok (.ifCond .ge 6, 3) := by decide +kernel
theorem dX8_beams_33 : decode cX8_beams 33 = .ok (.bipush (-2), 2) := by decide +kernel
theorem dX8_beams_35 : decode cX8_beams 35 = .ok (.ireturn, 1) := by decide +kernel
theorem dX8_beams_36 : decode cX8_beams 36 = .ok (.aload_n 0, 1) := by decide +kernel
theorem dX8_beams_37 : decode cX8_beams 37 = .ok (.getfield 26, 3) := by decide +kernel
theorem dX8_beams_40 : decode cX8_beams 40 = .ok (.iload_n 1, 1) := by decide +kernel
theorem dX8_beams_41 : decode cX8_beams 41 = .ok (.iaload, 1) := by decide +kernel
theorem dX8_beams_42 : decode cX8_beams 42 = .ok (.invokestatic 203, 3) := by decide +kernel
theorem dX8_beams_45 : decode cX8_beams 45 = .ok (.istore_n 3, 1) := by decide +kernel
theorem dX8_beams_46 : decode cX8_beams 46 = .ok (.aload_n 0, 1) := by decide +kernel
theorem dX8_beams_47 : decode cX8_beams 47 = .ok (.iload_n 1, 1) := by decide +kernel
theorem dX8_beams_48 : decode cX8_beams 48 = .ok (.iconst 1, 1) := by decide +kernel
theorem dX8_beams_49 : decode cX8_beams 49 = .ok (.isub, 1) := by decide +kernel
theorem dX8_beams_50 : decode cX8_beams 50 = .ok (.aload_n 0, 1) := by decide +kernel
theorem dX8_beams_51 : decode cX8_beams 51 = .ok (.getfield 42, 3) := by decide +kernel
theorem dX8_beams_54 : decode cX8_beams 54 = .ok (.iload_n 1, 1) := by decide +kernel
theorem dX8_beams_55 : decode cX8_beams 55 = .ok (.iaload, 1) := by decide +kernel
theorem dX8_beams_56 : decode cX8_beams 56 = .ok (.invokevirtual 419, 3) := by decide +kernel
theorem dX8_beams_59 : decode cX8_beams 59 = .ok (.istore 4, 2) := by decide +kernel
theorem dX8_beams_61 : decode cX8_beams 61 = .ok (.aload_n 0, 1) := by decide +kernel
theorem dX8_beams_62 : decode cX8_beams 62 = .ok (.iload_n 1, 1) := by decide +kernel
theorem dX8_beams_63 : decode cX8_beams 63 = .ok (.iconst 1, 1) := by decide +kernel
theorem dX8_beams_64 : decode cX8_beams 64 = .ok (.iadd, 1) := by decide +kernel
theorem dX8_beams_65 : decode cX8_beams 65 = .ok (.aload_n 0, 1) := by decide +kernel
theorem dX8_beams_66 : decode cX8_beams 66 = .ok (.getfield 42, 3) := by decide +kernel
theorem dX8_beams_69 : decode cX8_beams 69 = .ok (.iload_n 1, 1) := by decide +kernel
theorem dX8_beams_70 : decode cX8_beams 70 = .ok (.iaload, 1) := by decide +kernel
theorem dX8_beams_71 : decode cX8_beams 71 = .ok (.invokevirtual 419, 3) := by decide +kernel
theorem dX8_beams_74 : decode cX8_beams 74 = .ok (.istore 5, 2) := by decide +kernel
theorem dX8_beams_76 : decode cX8_beams 76 = .ok (.iload_n 2, 1) := by decide +kernel
theorem dX8_beams_77 : decode cX8_beams 77 = .ok (.iconst 2, 1) := by decide +kernel
theorem dX8_beams_78 : decode cX8_beams 78 = .ok (.if_icmp .ge 19, 3) := by decide +kernel
theorem dX8_beams_81 : decode cX8_beams 81 = .ok (.iload_n 3, 1) := by decide +kernel
theorem dX8_beams_82 : decode cX8_beams 82 = .ok (.iload_n 2, 1) := by decide +kernel
theorem dX8_beams_83 : decode cX8_beams 83 = .ok (.ifCond .ne 8, 3) := by decide +kernel
theorem dX8_beams_86 : decode cX8_beams 86 = .ok (.iload 4, 2) := by decide +kernel
theorem dX8_beams_88 : decode cX8_beams 88 = .ok (.goto 5, 3) := by decide +kernel
theorem dX8_beams_91 : decode cX8_beams 91 = .ok (.iload 5, 2) := by decide +kernel
theorem dX8_beams_93 : decode cX8_beams 93 = .ok (.invokestatic 422, 3) := by decide +kernel
theorem dX8_beams_96 : decode cX8_beams 96 = .ok (.ireturn, 1) := by decide +kernel
theorem dX8_beams_97 : decode cX8_beams 97 = .ok (.iload 4, 2) := by decide +kernel
theorem dX8_beams_99 : decode cX8_beams 99 = .ok (.iload 5, 2) := by decide +kernel
theorem dX8_beams_101 : decode cX8_beams 101 = .ok (.if_icmp .le 8, 3) := by decide +kernel
theorem dX8_beams_104 : decode cX8_beams 104 = .ok (.iload 4, 2) := by decide +kernel
theorem dX8_beams_106 : decode cX8_beams 106 = .ok (.goto 5, 3) := by decide +kernel
theorem dX8_beams_109 : decode cX8_beams 109 = .ok (.iload 5, 2) := by decide +kernel
theorem dX8_beams_111 : decode cX8_beams 111 = .ok (.istore 6, 2) := by decide +kernel
theorem dX8_beams_113 : decode cX8_beams 113 = .ok (.iload_n 3, 1) := by decide +kernel
theorem dX8_beams_114 : decode cX8_beams 114 = .ok (.iload 6, 2) := by decide +kernel
theorem dX8_beams_116 : decode cX8_beams 116 = .ok (.if_icmp .le 10, 3) := by decide +kernel
theorem dX8_beams_119 : decode cX8_beams 119 = .ok (.iload_n 3, 1) := by decide +kernel
theorem dX8_beams_120 : decode cX8_beams 120 = .ok (.iload 6, 2) := by decide +kernel
theorem dX8_beams_122 : decode cX8_beams 122 = .ok (.isub, 1) := by decide +kernel
theorem dX8_beams_123 : decode cX8_beams 123 = .ok (.goto 4, 3) := by decide +kernel
theorem dX8_beams_126 : decode cX8_beams 126 = .ok (.iconst 0, 1) := by decide +kernel
theorem dX8_beams_127 : decode cX8_beams 127 = .ok (.istore 7, 2) := by decide +kernel
theorem dX8_beams_129 : decode cX8_beams 129 = .ok (.aload_n 0, 1) := by decide +kernel
theorem dX8_beams_130 : decode cX8_beams 130 = .ok (.iload_n 1, 1) := by decide +kernel
theorem dX8_beams_131 : decode cX8_beams 131 = .ok (.iload 4, 2) := by decide +kernel
theorem dX8_beams_133 : decode cX8_beams 133 = .ok (.iload 5, 2) := by decide +kernel
theorem dX8_beams_135 : decode cX8_beams 135 = .ok (.invokevirtual 425, 3) := by decide +kernel
theorem dX8_beams_138 : decode cX8_beams 138 = .ok (.iload_n 2, 1) := by decide +kernel
theorem dX8_beams_139 : decode cX8_beams 139 = .ok (.iconst 2, 1) := by decide +kernel
theorem dX8_beams_140 : decode cX8_beams 140 = .ok (.if_icmp .ne 7, 3) := by decide +kernel
theorem dX8_beams_143 : decode cX8_beams 143 = .ok (.iconst 1, 1) := by decide +kernel
theorem dX8_beams_144 : decode cX8_beams 144 = .ok (.goto 4, 3) := by decide +kernel
theorem dX8_beams_147 : decode cX8_beams 147 = .ok (.iconst 0, 1) := by decide +kernel
theorem dX8_beams_148 : decode cX8_beams 148 = .ok (.if_icmp .ne 8, 3) := by decide +kernel
theorem dX8_beams_151 : decode cX8_beams 151 = .ok (.iload 7, 2) := by decide +kernel
theorem dX8_beams_153 : decode cX8_beams 153 = .ok (.goto 4, 3) := by decide +kernel
theorem dX8_beams_156 : decode cX8_beams 156 = .ok (.iconst 0, 1) := by decide +kernel
theorem dX8_beams_157 : decode cX8_beams 157 = .ok (.ireturn, 1) := by decide +kernel
theorem dX8_total_0 : decode cX8_total 0 = .ok (.aload_n 0, 1) := by decide +kernel
theorem dX8_total_1 : decode cX8_total 1 = .ok (.iconst 0, 1) := by decide +kernel
theorem dX8_total_2 : decode cX8_total 2 = .ok (.putfield 112, 3) := by decide +kernel
theorem dX8_total_5 : decode cX8_total 5 = .ok (.iload_n 1, 1) := by decide +kernel
theorem dX8_total_6 : decode cX8_total 6 = .ok (.iconst 0, 1) := by decide +kernel
theorem dX8_total_7 : decode cX8_total 7 = .ok (.iconst 3, 1) := by decide +kernel
theorem dX8_total_8 : decode cX8_total 8 = .ok (.invokestatic 189, 3) := by decide +kernel
theorem dX8_total_11 : decode cX8_total 11 = .ok (.ifCond .eq 11, 3) := by decide +kernel
theorem dX8_total_14 : decode cX8_total 14 = .ok (.aload_n 0, 1) := by decide +kernel
theorem dX8_total_15 : decode cX8_total 15 = .ok (.iload_n 1, 1) := by decide +kernel
theorem dX8_total_16 : decode cX8_total 16 = .ok (.invokevirtual 428, 3) := by decide +kernel
theorem dX8_total_19 : decode cX8_total 19 = .ok (.goto 4, 3) := by decide +kernel
theorem dX8_total_22 : decode cX8_total 22 = .ok (.iconst (-1), 1) := by decide +kernel
theorem dX8_total_23 : decode cX8_total 23 = .ok (.ireturn, 1) := by decide +kernel
theorem dX8_ifPut_0 : decode cX8_ifPut 0 = .ok (.aload_n 0, 1) := by decide +kernel
theorem dX8_ifPut_1 : decode cX8_ifPut 1 = .ok (.iconst 0, 1) := by decide +kernel
theorem dX8_ifPut_2 : decode cX8_ifPut 2 = .ok (.putfield 112, 3) := by decide +kernel
theorem dX8_ifPut_5 : decode cX8_ifPut 5 = .ok (.aload_n 0, 1) := by decide +kernel
theorem dX8_ifPut_6 : decode cX8_ifPut 6 = .ok (.iload_n 1, 1) := by decide +kernel
theorem dX8_ifPut_7 : decode cX8_ifPut 7 = .ok (.invokevirtual 413, 3) := by decide +kernel
theorem dX8_ifPut_10 : decode cX8_ifPut 10 = .ok (.ifCond .eq 23, 3) := by decide +kernel
theorem dX8_ifPut_13 : decode cX8_ifPut 13 = .ok (.iload_n 2, 1) := by decide +kernel
theorem dX8_ifPut_14 : decode cX8_ifPut 14 = .ok (.bipush (-12), 2) := by decide +kernel
theorem dX8_ifPut_16 : decode cX8_ifPut 16 = .ok (.bipush 12, 2) := by decide +kernel
theorem dX8_ifPut_18 : decode cX8_ifPut 18 = .ok (.invokestatic 189, 3) := by decide +kernel
theorem dX8_ifPut_21 : decode cX8_ifPut 21 = .ok (.ifCond .eq 12, 3) := by decide +kernel
theorem dX8_ifPut_24 : decode cX8_ifPut 24 = .ok (.iload_n 3, 1) := by decide +kernel
theorem dX8_ifPut_25 : decode cX8_ifPut 25 = .ok (.iconst 0, 1) := by decide +kernel
theorem dX8_ifPut_26 : decode cX8_ifPut 26 = .ok (.iconst 5, 1) := by decide +kernel
theorem dX8_ifPut_27 : decode cX8_ifPut 27 = .ok (.invokestatic 189, 3) := by decide +kernel
theorem dX8_ifPut_30 : decode cX8_ifPut 30 = .ok (.ifCond .ne 6, 3) := by decide +kernel
theorem dX8_ifPut_33 : decode cX8_ifPut 33 = .ok (.ldc 251, 2) := by decide +kernel
theorem dX8_ifPut_35 : decode cX8_ifPut 35 = .ok (.ireturn, 1) := by decide +kernel
theorem dX8_ifPut_36 : decode cX8_ifPut 36 = .ok (.aload_n 0, 1) := by decide +kernel
theorem dX8_ifPut_37 : decode cX8_ifPut 37 = .ok (.getfield 51, 3) := by decide +kernel
theorem dX8_ifPut_40 : decode cX8_ifPut 40 = .ok (.iload_n 1, 1) := by decide +kernel
theorem dX8_ifPut_41 : decode cX8_ifPut 41 = .ok (.iload_n 2, 1) := by decide +kernel
theorem dX8_ifPut_42 : decode cX8_ifPut 42 = .ok (.iastore, 1) := by decide +kernel
theorem dX8_ifPut_43 : decode cX8_ifPut 43 = .ok (.aload_n 0, 1) := by decide +kernel
theorem dX8_ifPut_44 : decode cX8_ifPut 44 = .ok (.aload_n 0, 1) := by decide +kernel
theorem dX8_ifPut_45 : decode cX8_ifPut 45 = .ok (.getfield 42, 3) := by decide +kernel
theorem dX8_ifPut_48 : decode cX8_ifPut 48 = .ok (.iload_n 1, 1) := by decide +kernel
theorem dX8_ifPut_49 : decode cX8_ifPut 49 = .ok (.iaload, 1) := by decide +kernel
theorem dX8_ifPut_50 : decode cX8_ifPut 50 = .ok (.iload_n 3, 1) := by decide +kernel
theorem dX8_ifPut_51 : decode cX8_ifPut 51 = .ok (.invokevirtual 267, 3) := by decide +kernel
theorem dX8_ifPut_54 : decode cX8_ifPut 54 = .ok (.istore 4, 2) := by decide +kernel
theorem dX8_ifPut_56 : decode cX8_ifPut 56 = .ok (.aload_n 0, 1) := by decide +kernel
theorem dX8_ifPut_57 : decode cX8_ifPut 57 = .ok (.invokevirtual 380, 3) := by decide +kernel
theorem dX8_ifPut_60 : decode cX8_ifPut 60 = .ok (.iload 4, 2) := by decide +kernel
theorem dX8_ifPut_62 : decode cX8_ifPut 62 = .ok (.ireturn, 1) := by decide +kernel
theorem dX8_wish_0 : decode cX8_wish 0 = .ok (.aload_n 0, 1) := by decide +kernel
theorem dX8_wish_1 : decode cX8_wish 1 = .ok (.iconst 0, 1) := by decide +kernel
theorem dX8_wish_2 : decode cX8_wish 2 = .ok (.putfield 112, 3) := by decide +kernel
theorem dX8_wish_5 : decode cX8_wish 5 = .ok (.aload_n 0, 1) := by decide +kernel
theorem dX8_wish_6 : decode cX8_wish 6 = .ok (.iload_n 1, 1) := by decide +kernel
theorem dX8_wish_7 : decode cX8_wish 7 = .ok (.invokevirtual 413, 3) := by decide +kernel
theorem dX8_wish_10 : decode cX8_wish 10 = .ok (.ifCond .ne 6, 3) := by decide +kernel
theorem dX8_wish_13 : decode cX8_wish 13 = .ok (.ldc 251, 2) := by decide +kernel
theorem dX8_wish_15 : decode cX8_wish 15 = .ok (.ireturn, 1) := by decide +kernel
theorem dX8_wish_16 : decode cX8_wish 16 = .ok (.ldc 251, 2) := by decide +kernel
theorem dX8_wish_18 : decode cX8_wish 18 = .ok (.istore_n 2, 1) := by decide +kernel
theorem dX8_wish_19 : decode cX8_wish 19 = .ok (.iconst 0, 1) := by decide +kernel
theorem dX8_wish_20 : decode cX8_wish 20 = .ok (.istore_n 3, 1) := by decide +kernel
theorem dX8_wish_21 : decode cX8_wish 21 = .ok (.bipush (-12), 2) := by decide +kernel
theorem dX8_wish_23 : decode cX8_wish 23 = .ok (.istore 4, 2) := by decide +kernel
theorem dX8_wish_25 : decode cX8_wish 25 = .ok (.iload 4, 2) := by decide +kernel
theorem dX8_wish_27 : decode cX8_wish 27 = .ok (.bipush 12, 2) := by decide +kernel
theorem dX8_wish_29 : decode cX8_wish 29 = .ok (.if_icmp .gt 111, 3) := by decide +kernel
theorem dX8_wish_32 : decode cX8_wish 32 = .ok (.aload_n 0, 1) := by decide +kernel
theorem dX8_wish_33 : decode cX8_wish 33 = .ok (.getfield 51, 3) := by decide +kernel
theorem dX8_wish_36 : decode cX8_wish 36 = .ok (.iload_n 1, 1) := by decide +kernel
theorem dX8_wish_37 : decode cX8_wish 37 = .ok (.iload 4, 2) := by decide +kernel
theorem dX8_wish_39 : decode cX8_wish 39 = .ok (.iastore, 1) := by decide +kernel
theorem dX8_wish_40 : decode cX8_wish 40 = .ok (.aload_n 0, 1) := by decide +kernel
theorem dX8_wish_41 : decode cX8_wish 41 = .ok (.aload_n 0, 1) := by decide +kernel
theorem dX8_wish_42 : decode cX8_wish 42 = .ok (.getfield 42, 3) := by decide +kernel
theorem dX8_wish_45 : decode cX8_wish 45 = .ok (.iload_n 1, 1) := by decide +kernel
theorem dX8_wish_46 : decode cX8_wish 46 = .ok (.iaload, 1) := by decide +kernel
theorem dX8_wish_47 : decode cX8_wish 47 = .ok (.iconst 2, 1) := by decide +kernel
theorem dX8_wish_48 : decode cX8_wish 48 = .ok (.invokevirtual 267, 3) := by decide +kernel
theorem dX8_wish_51 : decode cX8_wish 51 = .ok (.istore 5, 2) := by decide +kernel
theorem dX8_wish_53 : decode cX8_wish 53 = .ok (.iload 5, 2) := by decide +kernel
theorem dX8_wish_55 : decode cX8_wish 55 = .ok (.ldc 251, 2) := by decide +kernel
theorem dX8_wish_57 : decode cX8_wish 57 = .ok (.if_icmp .ne 6, 3) := by decide +kernel
theorem dX8_wish_60 : decode cX8_wish 60 = .ok (.goto 74, 3) := by decide +kernel
theorem dX8_wish_63 : decode cX8_wish 63 = .ok (.iload_n 2, 1) := by decide +kernel
theorem dX8_wish_64 : decode cX8_wish 64 = .ok (.ldc 251, 2) := by decide +kernel
theorem dX8_wish_66 : decode cX8_wish 66 = .ok (.if_icmp .eq 33, 3) := by decide +kernel
theorem dX8_wish_69 : decode cX8_wish 69 = .ok (.iload 4, 2) := by decide +kernel
theorem dX8_wish_71 : decode cX8_wish 71 = .ok (.aload_n 0, 1) := by decide +kernel
theorem dX8_wish_72 : decode cX8_wish 72 = .ok (.getfield 33, 3) := by decide +kernel
theorem dX8_wish_75 : decode cX8_wish 75 = .ok (.iload_n 1, 1) := by decide +kernel
theorem dX8_wish_76 : decode cX8_wish 76 = .ok (.iaload, 1) := by decide +kernel
theorem dX8_wish_77 : decode cX8_wish 77 = .ok (.isub, 1) := by decide +kernel
theorem dX8_wish_78 : decode cX8_wish 78 = .ok (.invokestatic 156, 3) := by decide +kernel
theorem dX8_wish_81 : decode cX8_wish 81 = .ok (.iload_n 2, 1) := by decide +kernel
theorem dX8_wish_82 : decode cX8_wish 82 = .ok (.aload_n 0, 1) := by decide +kernel
theorem dX8_wish_83 : decode cX8_wish 83 = .ok (.getfield 33, 3) := by decide +kernel
theorem dX8_wish_86 : decode cX8_wish 86 = .ok (.iload_n 1, 1) := by decide +kernel
theorem dX8_wish_87 : decode cX8_wish 87 = .ok (.iaload, 1) := by decide +kernel
theorem dX8_wish_88 : decode cX8_wish 88 = .ok (.isub, 1) := by decide +kernel
theorem dX8_wish_89 : decode cX8_wish 89 = .ok (.invokestatic 156, 3) := by decide +kernel
theorem dX8_wish_92 : decode cX8_wish 92 = .ok (.if_icmp .ge 7, 3) := by decide +kernel
theorem dX8_wish_95 : decode cX8_wish 95 = .ok (.iconst 1, 1) := by decide +kernel
theorem dX8_wish_96 : decode cX8_wish 96 = .ok (.goto 4, 3) := by decide +kernel
theorem dX8_wish_99 : decode cX8_wish 99 = .ok (.iconst 0, 1) := by decide +kernel
theorem dX8_wish_100 : decode cX8_wish 100 = .ok (.istore 6, 2) := by decide +kernel
theorem dX8_wish_102 : decode cX8_wish 102 = .ok (.iload_n 2, 1) := by decide +kernel
theorem dX8_wish_103 : decode cX8_wish 103 = .ok (.ldc 251, 2) := by decide +kernel
theorem dX8_wish_105 : decode cX8_wish 105 = .ok (.if_icmp .eq 23, 3) := by decide +kernel
theorem dX8_wish_108 : decode cX8_wish 108 = .ok (.iload 5, 2) := by decide +kernel
theorem dX8_wish_110 : decode cX8_wish 110 = .ok (.iload_n 3, 1) := by decide +kernel
theorem dX8_wish_111 : decode cX8_wish 111 = .ok (.if_icmp .lt 17, 3) := by decide +kernel
theorem dX8_wish_114 : decode cX8_wish 114 = .ok (.iload 5, 2) := by decide +kernel
theorem dX8_wish_116 : decode cX8_wish 116 = .ok (.iload_n 3, 1) := by decide +kernel
theorem dX8_wish_117 : decode cX8_wish 117 = .ok (.if_icmp .ne 17, 3) := by decide +kernel
theorem dX8_wish_120 : decode cX8_wish 120 = .ok (.iload 6, 2) := by decide +kernel
theorem dX8_wish_122 : decode cX8_wish 122 = .ok (.ifCond .ne 6, 3) := by decide +kernel
theorem dX8_wish_125 : decode cX8_wish 125 = .ok (.goto 9, 3) := by decide +kernel
theorem dX8_wish_128 : decode cX8_wish 128 = .ok (.iload 4, 2) := by decide +kernel
theorem dX8_wish_130 : decode cX8_wish 130 = .ok (.istore_n 2, 1) := by decide +kernel
theorem dX8_wish_131 : decode cX8_wish 131 = .ok (.iload 5, 2) := by decide +kernel
theorem dX8_wish_133 : decode cX8_wish 133 = .ok (.istore_n 3, 1) := by decide +kernel
theorem dX8_wish_134 : decode cX8_wish 134 = .ok (.iinc 4 1, 3) := by decide +kernel
theorem dX8_wish_137 : decode cX8_wish 137 = .ok (.goto (-112), 3) := by decide +kernel
theorem dX8_wish_140 : decode cX8_wish 140 = .ok (.aload_n 0, 1) := by decide +kernel
theorem dX8_wish_141 : decode cX8_wish 141 = .ok (.invokevirtual 380, 3) := by decide +kernel
theorem dX8_wish_144 : decode cX8_wish 144 = .ok (.iload_n 2, 1) := by decide +kernel
theorem dX8_wish_145 : decode cX8_wish 145 = .ok (.ireturn, 1) := by decide +kernel
theorem dX8_shifts_0 : decode cX8_shifts 0 = .ok (.iconst 1, 1) := by decide +kernel
theorem dX8_shifts_1 : decode cX8_shifts 1 = .ok (.istore_n 2, 1) := by decide +kernel
theorem dX8_shifts_2 : decode cX8_shifts 2 = .ok (.iconst 0, 1) := by decide +kernel
theorem dX8_shifts_3 : decode cX8_shifts 3 = .ok (.istore_n 3, 1) := by decide +kernel
theorem dX8_shifts_4 : decode cX8_shifts 4 = .ok (.iload_n 3, 1) := by decide +kernel
theorem dX8_shifts_5 : decode cX8_shifts 5 = .ok (.aload_n 0, 1) := by decide +kernel
theorem dX8_shifts_6 : decode cX8_shifts 6 = .ok (.getfield 133, 3) := by decide +kernel
theorem dX8_shifts_9 : decode cX8_shifts 9 = .ok (.if_icmp .ge 62, 3) := by decide +kernel
theorem dX8_shifts_12 : decode cX8_shifts 12 = .ok (.aload_n 0, 1) := by decide +kernel
theorem dX8_shifts_13 : decode cX8_shifts 13 = .ok (.getfield 51, 3) := by decide +kernel
theorem dX8_shifts_16 : decode cX8_shifts 16 = .ok (.iload_n 3, 1) := by decide +kernel
theorem dX8_shifts_17 : decode cX8_shifts 17 = .ok (.aload_n 0, 1) := by decide +kernel
theorem dX8_shifts_18 : decode cX8_shifts 18 = .ok (.getfield 29, 3) := by decide +kernel
theorem dX8_shifts_21 : decode cX8_shifts 21 = .ok (.iload_n 3, 1) := by decide +kernel
theorem dX8_shifts_22 : decode cX8_shifts 22 = .ok (.baload, 1) := by decide +kernel
theorem dX8_shifts_23 : decode cX8_shifts 23 = .ok (.ifCond .eq 14, 3) := by decide +kernel
theorem dX8_shifts_26 : decode cX8_shifts 26 = .ok (.aload_n 0, 1) := by decide +kernel
theorem dX8_shifts_27 : decode cX8_shifts 27 = .ok (.getfield 33, 3) := by decide +kernel
theorem dX8_shifts_30 : decode cX8_shifts 30 = .ok (.iload_n 3, 1) := by decide +kernel
theorem dX8_shifts_31 : decode cX8_shifts 31 = .ok (.iaload, 1) := by decide +kernel
theorem dX8_shifts_32 : decode cX8_shifts 32 = .ok (.iload_n 1, 1) := by decide +kernel
theorem dX8_shifts_33 : decode cX8_shifts 33 = .ok (.iadd, 1) := by decide +kernel
theorem dX8_shifts_34 : decode cX8_shifts 34 = .ok (.goto 4, 3) := by decide +kernel
theorem dX8_shifts_37 : decode cX8_shifts 37 = .ok (.iconst 0, 1) := by decide +kernel
theorem dX8_shifts_38 : decode cX8_shifts 38 = .ok (.iastore, 1) := by decide +kernel
theorem dX8_shifts_39 : decode cX8_shifts 39 = .ok (.iload_n 2, 1) := by decide +kernel
theorem dX8_shifts_40 : decode cX8_shifts 40 = .ok (.ifCond .eq 23, 3) := by decide +kernel
theorem dX8_shifts_43 : decode cX8_shifts 43 = .ok (.aload_n 0, 1) := by decide +kernel
theorem dX8_shifts_44 : decode cX8_shifts 44 = .ok (.getfield 51, 3) := by decide +kernel
theorem dX8_shifts_47 : decode cX8_shifts 47 = .ok (.iload_n 3, 1) := by decide +kernel
theorem dX8_shifts_48 : decode cX8_shifts 48 = .ok (.iaload, 1) := by decide +kernel
theorem dX8_shifts_49 : decode cX8_shifts 49 = .ok (.bipush (-12), 2) := by decide +kernel
theorem dX8_shifts_51 : decode cX8_shifts 51 = .ok (.bipush 12, 2) := by decide +kernel
theorem dX8_shifts_53 : decode cX8_shifts 53 = .ok (.invokestatic 189, 3) := by decide +kernel
theorem dX8_shifts_56 : decode cX8_shifts 56 = .ok (.ifCond .eq 7, 3) := by decide +kernel
theorem dX8_shifts_59 : decode cX8_shifts 59 = .ok (.iconst 1, 1) := by decide +kernel
theorem dX8_shifts_60 : decode cX8_shifts 60 = .ok (.goto 4, 3) := by decide +kernel
theorem dX8_shifts_63 : decode cX8_shifts 63 = .ok (.iconst 0, 1) := by decide +kernel
theorem dX8_shifts_64 : decode cX8_shifts 64 = .ok (.istore_n 2, 1) := by decide +kernel
theorem dX8_shifts_65 : decode cX8_shifts 65 = .ok (.iinc 3 1, 3) := by decide +kernel
theorem dX8_shifts_68 : decode cX8_shifts 68 = .ok (.goto (-64), 3) := by decide +kernel
theorem dX8_shifts_71 : decode cX8_shifts 71 = .ok (.iload_n 2, 1) := by decide +kernel
theorem dX8_shifts_72 : decode cX8_shifts 72 = .ok (.ireturn, 1) := by decide +kernel
theorem dX8_ifShifted_0 : decode cX8_ifShifted 0 = .ok (.aload_n 0, 1) := by decide +kernel
theorem dX8_ifShifted_1 : decode cX8_ifShifted 1 = .ok (.iconst 0, 1) := by decide +kernel
theorem dX8_ifShifted_2 : decode cX8_ifShifted 2 = .ok (.putfield 112, 3) := by decide +kernel
theorem dX8_ifShifted_5 : decode cX8_ifShifted 5 = .ok (.iload_n 1, 1) := by decide +kernel
theorem dX8_ifShifted_6 : decode cX8_ifShifted 6 = .ok (.bipush (-12), 2) := by decide +kernel
theorem dX8_ifShifted_8 : decode cX8_ifShifted 8 = .ok (.bipush 12, 2) := by decide +kernel
theorem dX8_ifShifted_10 : decode cX8_ifShifted 10 = .ok (.invokestatic 189, 3) := by decide +kernel
theorem dX8_ifShifted_13 : decode cX8_ifShifted 13 = .ok (.ifCond .eq 12, 3) := by decide +kernel
theorem dX8_ifShifted_16 : decode cX8_ifShifted 16 = .ok (.iload_n 2, 1) := by decide +kernel
theorem dX8_ifShifted_17 : decode cX8_ifShifted 17 = .ok (.iconst 0, 1) := by decide +kernel
theorem dX8_ifShifted_18 : decode cX8_ifShifted 18 = .ok (.iconst 3, 1) := by decide +kernel
theorem dX8_ifShifted_19 : decode cX8_ifShifted 19 = .ok (.invokestatic 189, 3) := by decide +kernel
theorem dX8_ifShifted_22 : decode cX8_ifShifted 22 = .ok (.ifCond .ne 5, 3) := by decide +kernel
theorem dX8_ifShifted_25 : decode cX8_ifShifted 25 = .ok (.iconst (-1), 1) := by decide +kernel
theorem dX8_ifShifted_26 : decode cX8_ifShifted 26 = .ok (.ireturn, 1) := by decide +kernel
theorem dX8_ifShifted_27 : decode cX8_ifShifted 27 = .ok (.aload_n 0, 1) := by decide +kernel
theorem dX8_ifShifted_28 : decode cX8_ifShifted 28 = .ok (.iload_n 1, 1) := by decide +kernel
theorem dX8_ifShifted_29 : decode cX8_ifShifted 29 = .ok (.invokevirtual 431, 3) := by decide +kernel
theorem dX8_ifShifted_32 : decode cX8_ifShifted 32 = .ok (.ifCond .eq 11, 3) := by decide +kernel
theorem dX8_ifShifted_35 : decode cX8_ifShifted 35 = .ok (.aload_n 0, 1) := by decide +kernel
theorem dX8_ifShifted_36 : decode cX8_ifShifted 36 = .ok (.iload_n 2, 1) := by decide +kernel
theorem dX8_ifShifted_37 : decode cX8_ifShifted 37 = .ok (.invokevirtual 428, 3) := by decide +kernel
theorem dX8_ifShifted_40 : decode cX8_ifShifted 40 = .ok (.goto 4, 3) := by decide +kernel
theorem dX8_ifShifted_43 : decode cX8_ifShifted 43 = .ok (.iconst (-1), 1) := by decide +kernel
theorem dX8_ifShifted_44 : decode cX8_ifShifted 44 = .ok (.istore_n 3, 1) := by decide +kernel
theorem dX8_ifShifted_45 : decode cX8_ifShifted 45 = .ok (.aload_n 0, 1) := by decide +kernel
theorem dX8_ifShifted_46 : decode cX8_ifShifted 46 = .ok (.invokevirtual 380, 3) := by decide +kernel
theorem dX8_ifShifted_49 : decode cX8_ifShifted 49 = .ok (.iload_n 3, 1) := by decide +kernel
theorem dX8_ifShifted_50 : decode cX8_ifShifted 50 = .ok (.ireturn, 1) := by decide +kernel
theorem dX8_shift_0 : decode cX8_shift 0 = .ok (.aload_n 0, 1) := by decide +kernel
theorem dX8_shift_1 : decode cX8_shift 1 = .ok (.iconst 0, 1) := by decide +kernel
theorem dX8_shift_2 : decode cX8_shift 2 = .ok (.putfield 112, 3) := by decide +kernel
theorem dX8_shift_5 : decode cX8_shift 5 = .ok (.aload_n 0, 1) := by decide +kernel
theorem dX8_shift_6 : decode cX8_shift 6 = .ok (.getfield 149, 3) := by decide +kernel
theorem dX8_shift_9 : decode cX8_shift 9 = .ok (.ifCond .ne 6, 3) := by decide +kernel
theorem dX8_shift_12 : decode cX8_shift 12 = .ok (.ldc 251, 2) := by decide +kernel
theorem dX8_shift_14 : decode cX8_shift 14 = .ok (.ireturn, 1) := by decide +kernel
theorem dX8_shift_15 : decode cX8_shift 15 = .ok (.ldc 251, 2) := by decide +kernel
theorem dX8_shift_17 : decode cX8_shift 17 = .ok (.istore_n 1, 1) := by decide +kernel
theorem dX8_shift_18 : decode cX8_shift 18 = .ok (.iconst 0, 1) := by decide +kernel
theorem dX8_shift_19 : decode cX8_shift 19 = .ok (.istore_n 2, 1) := by decide +kernel
theorem dX8_shift_20 : decode cX8_shift 20 = .ok (.iconst 0, 1) := by decide +kernel
theorem dX8_shift_21 : decode cX8_shift 21 = .ok (.istore_n 3, 1) := by decide +kernel
theorem dX8_shift_22 : decode cX8_shift 22 = .ok (.bipush (-12), 2) := by decide +kernel
theorem dX8_shift_24 : decode cX8_shift 24 = .ok (.istore 4, 2) := by decide +kernel
theorem dX8_shift_26 : decode cX8_shift 26 = .ok (.iload 4, 2) := by decide +kernel
theorem dX8_shift_28 : decode cX8_shift 28 = .ok (.bipush 12, 2) := by decide +kernel
theorem dX8_shift_30 : decode cX8_shift 30 = .ok (.if_icmp .gt 129, 3) := by decide +kernel
theorem dX8_shift_33 : decode cX8_shift 33 = .ok (.aload_n 0, 1) := by decide +kernel
theorem dX8_shift_34 : decode cX8_shift 34 = .ok (.iload 4, 2) := by decide +kernel
theorem dX8_shift_36 : decode cX8_shift 36 = .ok (.invokevirtual 431, 3) := by decide +kernel
theorem dX8_shift_39 : decode cX8_shift 39 = .ok (.ifCond .ne 6, 3) := by decide +kernel
theorem dX8_shift_42 : decode cX8_shift 42 = .ok (.goto 111, 3) := by decide +kernel
theorem dX8_shift_45 : decode cX8_shift 45 = .ok (.aload_n 0, 1) := by decide +kernel
theorem dX8_shift_46 : decode cX8_shift 46 = .ok (.invokevirtual 270, 3) := by decide +kernel
theorem dX8_shift_49 : decode cX8_shift 49 = .ok (.iload_n 1, 1) := by decide +kernel
theorem dX8_shift_50 : decode cX8_shift 50 = .ok (.ldc 251, 2) := by decide +kernel
theorem dX8_shift_52 : decode cX8_shift 52 = .ok (.if_icmp .eq 27, 3) := by decide +kernel
theorem dX8_shift_55 : decode cX8_shift 55 = .ok (.aload_n 0, 1) := by decide +kernel
theorem dX8_shift_56 : decode cX8_shift 56 = .ok (.getfield 258, 3) := by decide +kernel
theorem dX8_shift_59 : decode cX8_shift 59 = .ok (.iload_n 2, 1) := by decide +kernel
theorem dX8_shift_60 : decode cX8_shift 60 = .ok (.if_icmp .lt 19, 3) := by decide +kernel
theorem dX8_shift_63 : decode cX8_shift 63 = .ok (.aload_n 0, 1) := by decide +kernel
theorem dX8_shift_64 : decode cX8_shift 64 = .ok (.getfield 258, 3) := by decide +kernel
theorem dX8_shift_67 : decode cX8_shift 67 = .ok (.iload_n 2, 1) := by decide +kernel
theorem dX8_shift_68 : decode cX8_shift 68 = .ok (.if_icmp .ne 15, 3) := by decide +kernel
